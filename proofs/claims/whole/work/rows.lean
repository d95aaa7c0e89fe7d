section
-- ===== PART A: goes FIRST, ahead of the names: the tables' words, and 'selects' of the private methods out of them =====
/-- a private method of a class that the tables say can be made, by its rows of tables_1 -/
def lw_okq (q : MethodName × Nat) : Prop := (q.1.cls ≠ "java/lang/invoke/MethodHandle" ∧ q.1.cls ≠ "java/lang/invoke/VarHandle") ∧ Cond.instantiable q.1.cls q.2 ∈ tables_1 ∧ Cond.privateMethod q.1 ∈ tables_1 ∧ Cond.instanceMethod q.1 ∈ tables_1
theorem lw_p0 : lw_okq (⟨"LearningSolver", "startAnew", "()V"⟩, 13) := ⟨⟨by decide +kernel, by decide +kernel⟩, List.mem_of_getElem? (i := 12) (by decide +kernel), List.mem_of_getElem? (i := 34) (by decide +kernel), List.mem_of_getElem? (i := 35) (by decide +kernel)⟩
theorem lw_p1 : lw_okq (⟨"LearningSolver", "narrowToAssumptions", "()I"⟩, 13) := ⟨⟨by decide +kernel, by decide +kernel⟩, List.mem_of_getElem? (i := 12) (by decide +kernel), List.mem_of_getElem? (i := 92) (by decide +kernel), List.mem_of_getElem? (i := 93) (by decide +kernel)⟩
theorem lw_p2 : lw_okq (⟨"java/lang/Throwable", "fillInStackTrace", "(I)Ljava/lang/Throwable;"⟩, 6) := ⟨⟨by decide +kernel, by decide +kernel⟩, List.mem_of_getElem? (i := 177) (by decide +kernel), List.mem_of_getElem? (i := 175) (by decide +kernel), List.mem_of_getElem? (i := 176) (by decide +kernel)⟩
theorem lw_p3 : lw_okq (⟨"LearningSolver", "refuseUnknownLiteral", "(I)V"⟩, 13) := ⟨⟨by decide +kernel, by decide +kernel⟩, List.mem_of_getElem? (i := 12) (by decide +kernel), List.mem_of_getElem? (i := 219) (by decide +kernel), List.mem_of_getElem? (i := 220) (by decide +kernel)⟩
theorem lw_p4 : lw_okq (⟨"LearningSolver$Rows", "dropInner", "(IJ)V"⟩, 2) := ⟨⟨by decide +kernel, by decide +kernel⟩, List.mem_of_getElem? (i := 20) (by decide +kernel), List.mem_of_getElem? (i := 309) (by decide +kernel), List.mem_of_getElem? (i := 310) (by decide +kernel)⟩
theorem lw_p5 : lw_okq (⟨"LearningSolver$Rows", "dropOuter", "(I)V"⟩, 2) := ⟨⟨by decide +kernel, by decide +kernel⟩, List.mem_of_getElem? (i := 20) (by decide +kernel), List.mem_of_getElem? (i := 313) (by decide +kernel), List.mem_of_getElem? (i := 314) (by decide +kernel)⟩
theorem lw_p6 : lw_okq (⟨"LearningSolverModel", "clearAll", "()V"⟩, 17) := ⟨⟨by decide +kernel, by decide +kernel⟩, List.mem_of_getElem? (i := 327) (by decide +kernel), List.mem_of_getElem? (i := 333) (by decide +kernel), List.mem_of_getElem? (i := 334) (by decide +kernel)⟩
theorem lw_p7 : lw_okq (⟨"LearningSolverModel", "isLiteral", "(I)Z"⟩, 17) := ⟨⟨by decide +kernel, by decide +kernel⟩, List.mem_of_getElem? (i := 327) (by decide +kernel), List.mem_of_getElem? (i := 405) (by decide +kernel), List.mem_of_getElem? (i := 406) (by decide +kernel)⟩
theorem lw_p8 : lw_okq (⟨"LearningSolverModel", "isSolved", "(I)Z"⟩, 17) := ⟨⟨by decide +kernel, by decide +kernel⟩, List.mem_of_getElem? (i := 327) (by decide +kernel), List.mem_of_getElem? (i := 421) (by decide +kernel), List.mem_of_getElem? (i := 422) (by decide +kernel)⟩
theorem lw_p9 : lw_okq (⟨"LearningSolverModel", "free", "()V"⟩, 17) := ⟨⟨by decide +kernel, by decide +kernel⟩, List.mem_of_getElem? (i := 327) (by decide +kernel), List.mem_of_getElem? (i := 425) (by decide +kernel), List.mem_of_getElem? (i := 426) (by decide +kernel)⟩
theorem lw_p10 : lw_okq (⟨"LearningSolverModel", "force", "(I)Z"⟩, 17) := ⟨⟨by decide +kernel, by decide +kernel⟩, List.mem_of_getElem? (i := 327) (by decide +kernel), List.mem_of_getElem? (i := 429) (by decide +kernel), List.mem_of_getElem? (i := 430) (by decide +kernel)⟩
theorem lw_p11 : lw_okq (⟨"LearningSolverModel", "search", "()Z"⟩, 17) := ⟨⟨by decide +kernel, by decide +kernel⟩, List.mem_of_getElem? (i := 327) (by decide +kernel), List.mem_of_getElem? (i := 433) (by decide +kernel), List.mem_of_getElem? (i := 434) (by decide +kernel)⟩
theorem lw_p12 : lw_okq (⟨"LearningSolverModel", "isRight", "(I)Z"⟩, 17) := ⟨⟨by decide +kernel, by decide +kernel⟩, List.mem_of_getElem? (i := 327) (by decide +kernel), List.mem_of_getElem? (i := 437) (by decide +kernel), List.mem_of_getElem? (i := 438) (by decide +kernel)⟩
def lw_privs_1 : List (MethodName × Nat) := [(⟨"LearningSolver", "startAnew", "()V"⟩, 13), (⟨"LearningSolver", "narrowToAssumptions", "()I"⟩, 13), (⟨"java/lang/Throwable", "fillInStackTrace", "(I)Ljava/lang/Throwable;"⟩, 6), (⟨"LearningSolver", "refuseUnknownLiteral", "(I)V"⟩, 13), (⟨"LearningSolver$Rows", "dropInner", "(IJ)V"⟩, 2), (⟨"LearningSolver$Rows", "dropOuter", "(I)V"⟩, 2), (⟨"LearningSolverModel", "clearAll", "()V"⟩, 17), (⟨"LearningSolverModel", "isLiteral", "(I)Z"⟩, 17), (⟨"LearningSolverModel", "isSolved", "(I)Z"⟩, 17), (⟨"LearningSolverModel", "free", "()V"⟩, 17), (⟨"LearningSolverModel", "force", "(I)Z"⟩, 17), (⟨"LearningSolverModel", "search", "()Z"⟩, 17), (⟨"LearningSolverModel", "isRight", "(I)Z"⟩, 17)]
theorem lw_r1 : ∀ q ∈ lw_privs_1, lw_okq q := List.forall_mem_cons.mpr ⟨lw_p0, List.forall_mem_cons.mpr ⟨lw_p1, List.forall_mem_cons.mpr ⟨lw_p2, List.forall_mem_cons.mpr ⟨lw_p3, List.forall_mem_cons.mpr ⟨lw_p4, List.forall_mem_cons.mpr ⟨lw_p5, List.forall_mem_cons.mpr ⟨lw_p6, List.forall_mem_cons.mpr ⟨lw_p7, List.forall_mem_cons.mpr ⟨lw_p8, List.forall_mem_cons.mpr ⟨lw_p9, List.forall_mem_cons.mpr ⟨lw_p10, List.forall_mem_cons.mpr ⟨lw_p11, List.forall_mem_cons.mpr ⟨lw_p12, fun _ h => absurd h List.not_mem_nil⟩⟩⟩⟩⟩⟩⟩⟩⟩⟩⟩⟩⟩
def lw_privs : List (MethodName × Nat) := lw_privs_1
def lw_tbl : List Cond := k2_sels lw_privs ++ tables_1
theorem lw_privs_ok : ∀ q ∈ lw_privs, lw_okq q := lw_r1
end
section
/-! ===== BEGIN words of one list among another's, by their places ===== -/
theorem goodIn_r {big : List Cond} (ws : List Cond) (ps : List Nat) (hp : ws = ps.filterMap (fun i => big[i]?)) (h : ws.all goodWord = true) : GoodIn big ws := by
  intro w hw
  have h1 := List.all_eq_true.mp h w hw
  rw [hp] at hw
  obtain ⟨i, -, hi⟩ := List.mem_filterMap.mp hw
  have hm : w ∈ big := by first | exact List.mem_of_getElem? hi | exact List.getElem?_mem hi
  exact ⟨hm, good_of_word h1⟩
theorem goodIn_app {big a b : List Cond} (ha : GoodIn big a) (hb : GoodIn big b) : GoodIn big (a ++ b) := fun w h => (List.mem_append.mp h).elim (ha w) (hb w)
theorem goodIn_ca {big a b : List Cond} {c : Cond} (ha : GoodIn big (c :: a)) (hb : GoodIn big b) : GoodIn big (c :: (a ++ b)) := fun w h => (List.mem_cons.mp h).elim (fun e => ha w (List.mem_cons.mpr (Or.inl e))) (fun h => (List.mem_append.mp h).elim (fun h => ha w (List.mem_cons.mpr (Or.inr h))) (hb w))
theorem goodIn_sub {big ws : List Cond} (hm : ∀ w ∈ ws, w ∈ big) (h : ws.all goodWord = true) : GoodIn big ws := fun w hw => ⟨hm w hw, good_of_word (List.all_eq_true.mp h w hw)⟩
/-! ===== END ===== -/

/-! ===== BEGIN exceptions that leave a method, and their catching by the caller (launches without stack traces) ===== -/
section VXA
/-! The laws vx_back, vx_callV, vx_callS, vx_callSW, vx_throw0, vx_throwS follow proofs of the library, with one case more: JvmDerived/Free/Laws.lean (Back.of_free), Shelf42/LK1.lean (callV, callS), Shelf/KitTraced.lean (throwNew0V, throwNewS). -/
/-- where a method has thrown q: the class by its name, the cell, what was written, the world -/
def vx_T (XC : String → State → State → Prop) (st : State) (q : Addr) (t : State) (mc ms : Nat) (free : Addr → Prop) : Prop :=
  ∃ (E : String) (ce : Cell) (L : List Loc), XC E st t ∧ t.heap[q]? = some ce ∧ ce.vm = .none ∧ st.vm.findClass E = some ce.cls ∧ st.WarmedH t.vm ∧ st.sameButNew ({ t with vm := st.vm } : State) L mc ms ∧ ∀ z ∈ L, free z.base
def vx_Q (Qc : Array Value → State → Outcome → State → Prop) (XC : String → State → State → Prop) (mc ms : Nat) (free : Addr → Prop) : Array Value → State → Outcome → State → Prop := fun a st o t =>
  (Qc a st o t ∧ ∃ L, FrameEnd st o t L mc ms ∧ ∀ q ∈ L, free q.base) ∨ ∃ q, o = .threw q ∧ vx_T XC st q t mc ms free
/-- a callee that returns or throws -/
def vx_Met (l : Launch) (y : MethodName) (ws : List Cond) (rm : Room) (Pc : Array Value → State → Prop) (Qc : Array Value → State → Outcome → State → Prop) (XC : String → State → State → Prop) (mc ms : Nat) (free : Addr → Prop) : Prop :=
  MetFree l y (headSpec ws rm) Pc (fun _ _ _ _ _ => True) (vx_Q Qc XC mc ms free)
def vx_Post (XC : String → State → State → Prop) (mc ms : Nat) (free : Addr → Prop) : Pt → Array Value → Addr → Pt → Prop := fun A a q B =>
  ∃ (g : JFrame) (mk : MethodId) (t : State) (L : List Loc) (E : String) (ce : Cell), B.U.heap = t.heap ∧ B.U.vm = t.vm ∧ XC E (A.U.calling g mk a) t ∧ t.heap[q]? = some ce ∧ ce.vm = .none ∧ A.U.vm.findClass E = some ce.cls ∧ B.locs = A.locs ++ L ∧ (∀ z ∈ L, free z.base) ∧ B.cells = A.cells + mc ∧ B.slots = A.slots + ms
def vx_Back (l : Launch) (R : Room) (p : Program) (e : Env) (below : List Frame) (s : State) (sargs : Array Value) (y : MethodName) (len W9 : Nat)
    (Pre : Pt → Array Value → Prop) (Post : Pt → Array Value → Option Value → Pt → Prop) (PostX : Pt → Array Value → Addr → Pt → Prop) : Prop :=
  ∀ (m : MethodId) (meth : Method) (c : Code) (A : Pt) (g : JFrame) (ig : Instr) (mk : MethodId) (a : Array Value),
    Stand p l e R s m sargs below meth c A.U A.locs A.cells A.slots → g.method = m → g.locals.size = c.maxLocals → decode c.code g.pc = .ok (ig, len) →
    2 * g.monitorRoom + (g.stack.map fun v => v.category).sum ≤ W9 → A.U.methodNamed? y = some mk → Pre A a →
    (∃ (v : Option Value) (B : Pt), Stand p l e R s m sargs below meth c B.U B.locs B.cells B.slots ∧ Post A a v B ∧
      Steps p.tables e below (doInvoke e (A.U.setTop g) [] mk a).1 (B.U.setTop { g with pc := g.pc + len, stack := v.toList ++ g.stack })) ∨
    (∃ (q : Addr) (B : Pt), Stand p l e R s m sargs below meth c B.U B.locs B.cells B.slots ∧ PostX A a q B ∧
      Steps p.tables e below (doInvoke e (A.U.setTop g) [] mk a).1 ((B.U.setTop g).pushFrame (.throwing q)))
section Payer
variable {l : Launch} {R : Room} {p : Program} {e : Env} {below : List Frame} {s : State} {sargs : Array Value} {y : MethodName} {len W9 : Nat}
theorem vx_back {ws : List Cond} {rm : Room} {Pc : Array Value → State → Prop} {Qc : Array Value → State → Outcome → State → Prop} {XC : String → State → State → Prop} {mc ms : Nat} {free : Addr → Prop} {bytes : ByteArray} {maxL : Nat} {ret : Option FieldType}
    (hM : vx_Met l y ws rm Pc Qc XC mc ms free) (hblind : FrameBlind Pc) (hrc : rm.cells = mc) (hrs : rm.slots = ms)
    (hframes : rm.frames + 1 ≤ R.frames) (hlocals : W9 + (maxL + 11) + rm.locals ≤ R.locals)
    (hws : ∀ w ∈ ws, ∀ a' U, s.WarmedH U.vm → w.before a' U = true) (hcode : Cond.code y bytes maxL ret ∈ ws) (hinit : ∀ a' U, s.WarmedH U.vm → (Cond.initialized y.cls).before a' U = true) :
    vx_Back l R p e below s sargs y len W9 (PreOf R mc ms Pc) (PostOf Qc mc ms free) (vx_Post XC mc ms free) := by
  intro m meth c A g ig mk a X hg hsize hdg hW hn hp
  have h1 : (headSpec ws rm).pre.before a A.U = true := atoms_intro fun w hw => hws w hw _ _ X.warmed
  have h2 : (Cond.code y bytes maxL ret).before a A.U = true := hws _ hcode _ _ X.warmed
  have h3 : (Cond.initialized y.cls).before a A.U = true := hinit _ _ X.warmed
  have h4 : A.cells + (headSpec ws rm).room.cells ≤ R.cells := by rw [show (headSpec ws rm).room.cells = mc from hrc]; exact hp.1
  have h5 : A.slots + (headSpec ws rm).room.slots ≤ R.slots := by rw [show (headSpec ws rm).room.slots = ms from hrs]; exact hp.2.1
  have hPc : Pc a (A.U.calling g mk a) := hblind _ _ _ _ hp.2.2
  obtain ⟨U, Ls, c0, s0⟩ := A
  dsimp only [Pt.U, Pt.locs, Pt.cells, Pt.slots] at h1 h2 h3 h4 h5 X hn hPc ⊢
  obtain ⟨methY, cY, hmY, hcY, -, hlY, -, -, -, -⟩ := Cond.code_spec hn h2
  obtain ⟨kY, hkY, -⟩ := className_of_methodNamed hn
  have hinitY : kY.init = .initialized := Cond.initialized_spec (findClass_of_methodNamed hn) hkY h3
  have h : At U g.method c below := by rw [hg]; exact X.here
  have hlocals9 : W9 + (maxL + 11) + (headSpec ws rm).room.locals ≤ R.locals := hlocals
  have happ : (headSpec ws rm).appliesLoose y e.platform (U.calling g mk a) = true :=
    Spec.appliesLoose_calling (g := g) h hdg hn hkY hinitY
      (X.room_calling (g := g) (R' := (headSpec ws rm).room) hsize hmY hcY hframes (by rw [hlY]; omega) h4 h5) h1
  obtain ⟨mid, hmid⟩ := h.above
  have hfr : (U.setTop g).frames = (.java g :: mid) ++ below := by rw [State.frames_setTop' g h.top, hmid]; rfl
  obtain ⟨o, s₂, hsteps, -, hend, hq⟩ := Steps.callFree hM p X.admits X.cas X.clock (acts := []) hfr happ hPc trivial
  have hq' : vx_Q Qc XC mc ms free a (U.calling g mk a) o s₂ := hq
  rw [State.frames_setTop' g h.top] at hend
  obtain ⟨g₀, hg0⟩ := Option.isSome_iff_exists.mp h.top
  obtain ⟨r, hr⟩ := State.topJava?_eq_some.mp hg0
  have hr' : (({ U with heap := s₂.heap, slotsUsed := s₂.slotsUsed } : State).setVm s₂.vm).frames = .java g₀ :: r := hr
  rcases hq' with ⟨hqc, L, hfe, hL⟩ | ⟨q, rfl, E, ce, L, hx, hce, hcv, hcl, hW₂, hsm, hL⟩
  · obtain ⟨⟨v, rfl⟩, hW₂, e2, q2, q3, q4, q5, q6⟩ := id hfe
    have e3 : s₂ = ({ (U.calling g mk a).setFrames s₂.frames with heap := s₂.heap, slotsUsed := s₂.slotsUsed } : State).setVm s₂.vm := by
      have : s₂ = ({ s₂ with vm := (U.calling g mk a).vm } : State).setVm s₂.vm := rfl
      rw [e2] at this
      exact this
    obtain ⟨c₂, i₂, len₂, hc₂, hd₂, hf₂⟩ := hend
    have hW' : U.WarmedH s₂.vm := hW₂
    have hcc : c₂ = c := by
      have h1 : s₂.code? g.method = U.code? g.method := by
        rw [State.code?_eq, State.code?_eq, hW'.alike.method?]
      exact Option.some.inj (hc₂.symm.trans (h1.trans h.code))
    subst hcc
    have hlen : len₂ = len := by rw [hdg] at hd₂; cases hd₂; rfl
    subst hlen
    have hs₂ : s₂ = (({ U with heap := s₂.heap, slotsUsed := s₂.slotsUsed } : State).setVm s₂.vm).setTop { g with pc := g.pc + len₂, stack := v.toList ++ g.stack } := by
      refine e3.trans ?_
      rw [hf₂, State.calling_eq h.top, State.setFrames_setFrames, State.setTop_of_frames _ hr', hr]
      rfl
    have hsame : U.sameButNew ({ U with heap := s₂.heap, slotsUsed := s₂.slotsUsed } : State) L mc ms := by
      refine ⟨?_, q2, q3, q4, q5, q6⟩
      obtain ⟨t, ht, -⟩ := State.frames_cons hr
      show ({ U with heap := s₂.heap, slotsUsed := s₂.slotsUsed } : State) = { U.setFrames U.frames with heap := s₂.heap, slotsUsed := s₂.slotsUsed }
      rw [State.setFrames_self ht]
    subst hg
    refine Or.inl ⟨v, ⟨(({ U with heap := s₂.heap, slotsUsed := s₂.slotsUsed } : State).setVm s₂.vm), Ls ++ L, c0 + mc, s0 + ms⟩,
      ⟨X.admits, X.cas, X.clock, X.frames, X.room, X.hears, X.method, X.code, (X.here.setHeapUsed s₂.heap s₂.slotsUsed).setVm hW'.alike, X.tail, State.WarmedH.trans X.warmed hW', X.limits, X.bytes, X.same.trans (hsame.setVm s.vm)⟩,
      ⟨g, mk, s₂, L, rfl, rfl, hqc, rfl, hL, rfl, rfl⟩, ?_⟩
    show Steps p.tables e below _ ((({ U with heap := s₂.heap, slotsUsed := s₂.slotsUsed } : State).setVm s₂.vm).setTop { g with pc := g.pc + len₂, stack := v.toList ++ g.stack })
    rw [← hs₂]
    exact hsteps
  · obtain ⟨e2, q2, q3, q4, q5, q6⟩ := id hsm
    have e3 : s₂ = ({ (U.calling g mk a).setFrames s₂.frames with heap := s₂.heap, slotsUsed := s₂.slotsUsed } : State).setVm s₂.vm := by
      have : s₂ = ({ s₂ with vm := (U.calling g mk a).vm } : State).setVm s₂.vm := rfl
      rw [e2] at this
      exact this
    have hf₂ : s₂.frames = .throwing q :: .java g :: U.frames.tail := hend
    have hW' : U.WarmedH s₂.vm := hW₂
    have hs₂ : s₂ = ((({ U with heap := s₂.heap, slotsUsed := s₂.slotsUsed } : State).setVm s₂.vm).setTop g).pushFrame (.throwing q) := by
      refine e3.trans ?_
      rw [hf₂, State.calling_eq h.top, State.setFrames_setFrames, State.pushFrame, State.frames_setTop _ hr', State.setTop_of_frames _ hr', State.setFrames_setFrames, hr]
      rfl
    have hsame : U.sameButNew ({ U with heap := s₂.heap, slotsUsed := s₂.slotsUsed } : State) L mc ms := by
      refine ⟨?_, q2, q3, q4, q5, q6⟩
      obtain ⟨t, ht, -⟩ := State.frames_cons hr
      show ({ U with heap := s₂.heap, slotsUsed := s₂.slotsUsed } : State) = { U.setFrames U.frames with heap := s₂.heap, slotsUsed := s₂.slotsUsed }
      rw [State.setFrames_self ht]
    subst hg
    refine Or.inr ⟨q, ⟨(({ U with heap := s₂.heap, slotsUsed := s₂.slotsUsed } : State).setVm s₂.vm), Ls ++ L, c0 + mc, s0 + ms⟩,
      ⟨X.admits, X.cas, X.clock, X.frames, X.room, X.hears, X.method, X.code, (X.here.setHeapUsed s₂.heap s₂.slotsUsed).setVm hW'.alike, X.tail, State.WarmedH.trans X.warmed hW', X.limits, X.bytes, X.same.trans (hsame.setVm s.vm)⟩,
      ⟨g, mk, s₂, L, E, ce, rfl, rfl, hx, hce, hcv, hcl, rfl, hL, rfl, rfl⟩, ?_⟩
    show Steps p.tables e below _ (((({ U with heap := s₂.heap, slotsUsed := s₂.slotsUsed } : State).setVm s₂.vm).setTop g).pushFrame (.throwing q))
    rw [← hs₂]
    exact hsteps
end Payer
section Calls
variable {p : Program} {l : Launch} {e : Env} {R : Room} {s : State} {m : MethodId} {args : Array Value} {below : List Frame} {meth : Method} {c : Code} {T : State} {locs : List Loc} {cells slots : Nat}
theorem vx_callV (X : Stand p l e R s m args below meth c T locs cells slots) (hexec : p.tables.exec = Jvm.exec) {own C : String} {index : Nat} {y : MethodName} {bytes : ByteArray} {maxL : Nat} {ret : Option FieldType}
    (hown : s.vm.findClass own = some m.cls) (hlink : (Cond.methodLink own index y).before args s = true) (hinst : (Cond.instanceMethod y).before args s = true) (hsel : (Cond.selects C y y).before args s = true)
    (hcode : (Cond.code y bytes maxL ret).before args s = true) (hy : y.cls ≠ "java/lang/invoke/MethodHandle" ∧ y.cls ≠ "java/lang/invoke/VarHandle")
    {W9 : Nat} {Pre : Pt → Array Value → Prop} {Post : Pt → Array Value → Option Value → Pt → Prop} {PostX : Pt → Array Value → Addr → Pt → Prop} (hK : vx_Back l R p e below s args y 3 W9 Pre Post PostX)
    {b : Addr} {cellB : Cell} (hcell : T.heap[b]? = some cellB) (hobj : cellB.vm.isStatics = false) (hcls : s.vm.findClass C = some cellB.cls)
    {g : JFrame} (hg : g.method = m) (hsize : g.locals.size = c.maxLocals) {argsL rest : List Value} (hlen : ∀ sig, parseMethodDescriptor y.desc = some sig → argsL.length = sig.parameters.length)
    (hstack : g.stack = argsL.reverse ++ .ref b :: rest) (hW : 2 * g.monitorRoom + (rest.map fun v => v.category).sum ≤ W9) (hdg : decode c.code g.pc = .ok (.invokevirtual index, 3))
    (hpre : ∀ vm₁, s.WarmedH vm₁ → Pre ⟨T.setVm vm₁, locs, cells, slots⟩ (Value.ref b :: argsL).toArray) :
    (∃ (v : Option Value) (vm₁ : Vm) (B : Pt), s.WarmedH vm₁ ∧ Stand p l e R s m args below meth c B.U B.locs B.cells B.slots ∧ Post ⟨T.setVm vm₁, locs, cells, slots⟩ (Value.ref b :: argsL).toArray v B ∧
      ∀ target, Steps p.tables e below (B.U.setTop { g with pc := g.pc + 3, stack := v.toList ++ rest }) target → Steps p.tables e below (T.setTop g) target) ∨
    (∃ (q : Addr) (vm₁ : Vm) (B : Pt), s.WarmedH vm₁ ∧ Stand p l e R s m args below meth c B.U B.locs B.cells B.slots ∧ PostX ⟨T.setVm vm₁, locs, cells, slots⟩ (Value.ref b :: argsL).toArray q B ∧
      Steps p.tables e below (T.setTop g) ((B.U.setTop { g with stack := rest }).pushFrame (.throwing q))) := by
  obtain ⟨mk, methM, hnamed, hmethM, hstM, habM⟩ := Cond.instanceMethod_spec hinst
  obtain ⟨methM', cM, hmethM', -, -, -, -, -, -, hsigM⟩ := Cond.code_spec hnamed hcode
  cases hmethM.symm.trans hmethM'
  obtain ⟨c2, r2, m2, q1, q2, q3, q4, kP, hkP, hkPi⟩ := Cond.selects_spec hsel
  cases hcls.symm.trans q1
  cases (State.methodFound?_of_named hnamed hy).symm.trans q2
  cases hnamed.symm.trans q3
  have hselP : selectMethod e.platform s.vm cellB.cls mk = .method mk := by rw [Launch.admits_selectMethod X.admits]; exact q4
  obtain ⟨vm₁, X₁, hstep₁⟩ := X.invokevirtual hexec hown hlink hnamed hmethM hstM hkP hkPi hy (a := b) (cell := cellB) hcell
    (fun z h => by rw [h] at hobj; cases hobj) hselP hmethM habM hkP hkPi (g := g) hg (argsL := argsL) (rest := rest) (hlen _ hsigM) hstack hdg
  rcases hK m meth c ⟨T.setVm vm₁, locs, cells, slots⟩ { g with stack := rest } (.invokevirtual index) mk (Value.ref b :: argsL).toArray X₁ hg hsize hdg hW (X₁.named hnamed) (hpre vm₁ X₁.warmed) with ⟨v, B, X', hpost, hsteps⟩ | ⟨q, B, X', hpost, hsteps⟩
  · exact Or.inl ⟨v, vm₁, B, X₁.warmed, X', hpost, fun target h => hstep₁ _ fun acts => by rw [doInvoke_state]; exact hsteps.trans h⟩
  · exact Or.inr ⟨q, vm₁, B, X₁.warmed, X', hpost, hstep₁ _ fun acts => by rw [doInvoke_state]; exact hsteps⟩
theorem vx_callS (X : Stand p l e R s m args below meth c T locs cells slots) (hexec : p.tables.exec = Jvm.exec) {own : String} {index : Nat} {y : MethodName} {bytes : ByteArray} {maxL : Nat} {ret : Option FieldType}
    (hown : s.vm.findClass own = some m.cls) (hlink : (Cond.methodLink own index y).before args s = true) (hstat : (Cond.static y).before args s = true) (hinit : (Cond.initialized y.cls).before args s = true)
    (hcode : (Cond.code y bytes maxL ret).before args s = true) (hy : y.cls ≠ "java/lang/invoke/MethodHandle" ∧ y.cls ≠ "java/lang/invoke/VarHandle")
    {W9 : Nat} {Pre : Pt → Array Value → Prop} {Post : Pt → Array Value → Option Value → Pt → Prop} {PostX : Pt → Array Value → Addr → Pt → Prop} (hK : vx_Back l R p e below s args y 3 W9 Pre Post PostX)
    {g : JFrame} (hg : g.method = m) (hsize : g.locals.size = c.maxLocals) {argsL rest : List Value} (hlen : ∀ sig, parseMethodDescriptor y.desc = some sig → argsL.length = sig.parameters.length)
    (hstack : g.stack = argsL.reverse ++ rest) (hW : 2 * g.monitorRoom + (rest.map fun v => v.category).sum ≤ W9) (hdg : decode c.code g.pc = .ok (.invokestatic index, 3))
    (hpre : ∀ vm₁, s.WarmedH vm₁ → Pre ⟨T.setVm vm₁, locs, cells, slots⟩ argsL.toArray) :
    (∃ (v : Option Value) (vm₁ : Vm) (B : Pt), s.WarmedH vm₁ ∧ Stand p l e R s m args below meth c B.U B.locs B.cells B.slots ∧ Post ⟨T.setVm vm₁, locs, cells, slots⟩ argsL.toArray v B ∧
      ∀ target, Steps p.tables e below (B.U.setTop { g with pc := g.pc + 3, stack := v.toList ++ rest }) target → Steps p.tables e below (T.setTop g) target) ∨
    (∃ (q : Addr) (vm₁ : Vm) (B : Pt), s.WarmedH vm₁ ∧ Stand p l e R s m args below meth c B.U B.locs B.cells B.slots ∧ PostX ⟨T.setVm vm₁, locs, cells, slots⟩ argsL.toArray q B ∧
      Steps p.tables e below (T.setTop g) ((B.U.setTop { g with stack := rest }).pushFrame (.throwing q))) := by
  obtain ⟨mk, hnamed⟩ := Cond.code_named hcode
  obtain ⟨methM, cM, hmethM, -, -, -, -, -, -, hsigM⟩ := Cond.code_spec hnamed hcode
  have hstatic : methM.isStatic = true := Cond.static_spec hnamed hmethM hstat
  obtain ⟨kP, hkP, -⟩ := className_of_methodNamed hnamed
  have hinitP : kP.init = .initialized := Cond.initialized_spec (findClass_of_methodNamed hnamed) hkP hinit
  obtain ⟨vm₁, X₁, hstep₁⟩ := X.invokestatic hexec hown hlink hnamed hmethM hstatic hkP hinitP hy (g := g) hg (argsL := argsL) (rest := rest) (hlen _ hsigM) hstack hdg
  rcases hK m meth c ⟨T.setVm vm₁, locs, cells, slots⟩ { g with stack := rest } (.invokestatic index) mk argsL.toArray X₁ hg hsize hdg hW (X₁.named hnamed) (hpre vm₁ X₁.warmed) with ⟨v, B, X', hpost, hsteps⟩ | ⟨q, B, X', hpost, hsteps⟩
  · exact Or.inl ⟨v, vm₁, B, X₁.warmed, X', hpost, fun target h => hstep₁ _ fun acts => by rw [doInvoke_state]; exact hsteps.trans h⟩
  · exact Or.inr ⟨q, vm₁, B, X₁.warmed, X', hpost, hstep₁ _ fun acts => by rw [doInvoke_state]; exact hsteps⟩
end Calls
theorem vx_cls {s : State} {T : State} {vm₁ : Vm} {E : String} {k : ClassId} (hW : s.WarmedH vm₁) (h : (T.setVm vm₁).vm.findClass E = some k) : s.vm.findClass E = some k := by
  have h1 : vm₁.findClass E = some k := h
  rw [hW.alike.findClass] at h1
  exact h1
/-- the method's frame g, with q thrown over it -/
def vx_W (p : Program) (l : Launch) (e : Env) (R : Room) (s : State) (m : MethodId) (args : Array Value) (below : List Frame) (meth : Method) (c : Code) (H : Heap) (locs : List Loc) (cells slots : Nat) (Q : State → Prop) (g : JFrame) (q : Addr) : Prop :=
  ∀ T : State, T.heap = H → Stand p l e R s m args below meth c T locs cells slots → ∃ t, Steps p.tables e below ((T.setTop g).pushFrame (.throwing q)) t ∧ Q t
def vx_Run (p : Program) (l : Launch) (e : Env) (R : Room) (s : State) (m : MethodId) (args : Array Value) (below : List Frame) (meth : Method) (c : Code) (H : Heap) (locs : List Loc) (cells slots mc ms : Nat) (g : JFrame) (rest : List Value) (Qa : State → Outcome → State → Prop) (XC : String → State → State → Prop) (free : Addr → Prop) : Prop :=
  ∀ T : State, T.heap = H → Stand p l e R s m args below meth c T locs cells slots →
    (∃ (v : Option Value) (st₀ t T' : State) (L : List Loc), st₀.heap = H ∧ Stand p l e R s m args below meth c T' (locs ++ L) (cells + mc) (slots + ms) ∧ (∀ q ∈ L, free q.base) ∧ T'.heap = t.heap ∧ T'.vm = t.vm ∧ Qa st₀ (.returned v) t ∧
      Goes p e below T g T' { g with pc := g.pc + 3, stack := v.toList ++ rest }) ∨
    (∃ (q : Addr) (st₀ t T' : State) (L : List Loc) (E : String) (ce : Cell), st₀.heap = H ∧ Stand p l e R s m args below meth c T' (locs ++ L) (cells + mc) (slots + ms) ∧ (∀ z ∈ L, free z.base) ∧ T'.heap = t.heap ∧ T'.vm = t.vm ∧ XC E st₀ t ∧ t.heap[q]? = some ce ∧ ce.vm = .none ∧ s.vm.findClass E = some ce.cls ∧
      Steps p.tables e below (T.setTop g) ((T'.setTop { g with stack := rest }).pushFrame (.throwing q)))
def vx_X {S : Type} (px : S → Prop) (B : String → S → State → Prop) (A : Nat → Prop) : String → State → State → Prop := fun E st t => ∃ u : S, px u ∧ B E u t ∧ va_F A st t
section Runs
variable {p : Program} {l : Launch} {e : Env} {R : Room} {s : State} {m : MethodId} {args : Array Value} {below : List Frame} {meth : Method} {c : Code} {H : Heap} {locs : List Loc} {cells slots : Nat}
variable {y : MethodName} {bytes cc : ByteArray} {maxL nL mc ms n index : Nat} {ret : Option FieldType} {ws : List Cond} {rm : Room} {Pc : Array Value → State → Prop} {Qc : Array Value → State → Outcome → State → Prop} {XC : String → State → State → Prop} {free : Addr → Prop} {Ts : List Cond} {own C : String} {b : Addr} {As rest : List Value} {g : JFrame}
theorem vx_callBack (cb : CallB R s args own index y bytes maxL ret ws rm mc ms n) (hM : vx_Met l y ws rm Pc Qc XC mc ms free) (hbl : FrameBlind Pc) : vx_Back l R p e below s args y 3 8 (PreOf R mc ms Pc) (PostOf Qc mc ms free) (vx_Post XC mc ms free) := by
  obtain ⟨hrc, hrs, hfr, hlo, hws, hcw, -, hini, -⟩ := cb
  exact vx_back (bytes := bytes) (maxL := maxL) (ret := ret) hM hbl hrc hrs hfr hlo hws hcw (fun a' U hW => word_at hW (Or.inl (by first | rfl | simp [Cond.onTables, Cond.keeps, Cond.steady])) hini)
theorem vx_runV (S : CallFix p m c cc nL s args Ts own) (hM : vx_Met l y ws rm Pc Qc XC mc ms free) (cw : CallW R s args own C index y bytes maxL ret ws rm mc ms n) (hp : PreV s H C b Pc As)
    (hg : g.method = m) (hn : As.length = n) (hsize : g.locals.size = nL) (hstack : g.stack = As.reverse ++ .ref b :: rest) (hW : 2 * g.monitorRoom + (rest.map fun v => v.category).sum ≤ 8) (hdg : decode cc g.pc = .ok (.invokevirtual index, 3)) (hf : cells + mc ≤ R.cells ∧ slots + ms ≤ R.slots) :
    vx_Run p l e R s m args below meth c H locs cells slots mc ms g rest (Qc (Value.ref b :: As).toArray) XC free := by
  have hK : vx_Back l R p e below s args y 3 8 (PreOf R mc ms Pc) (PostOf Qc mc ms free) (vx_Post XC mc ms free) := vx_callBack cw.1 hM hp.1
  obtain ⟨⟨-, -, -, -, -, -, hcode, -, hy, hlen, hl⟩, hin, hse⟩ := cw
  obtain ⟨hx, hb, hml, ho, -⟩ := S
  obtain ⟨-, ⟨cellB, hcB, hoB, hclB⟩, hPc⟩ := hp
  intro T hT X
  rcases vx_callV X hx (C := C) (bytes := bytes) (maxL := maxL) (ret := ret) ho hl hin hse hcode hy hK (by rw [hT]; exact hcB) hoB hclB hg (hsize.trans hml.symm) (argsL := As) (rest := rest) (fun sig h => hn.trans (hlen sig h)) hstack hW (by rw [hb]; exact hdg)
    (fun vm₁ hW₁ => ⟨hf.1, hf.2, hPc (T.setVm vm₁) hT hW₁⟩) with ⟨v, vm₁, ⟨U', l2, c2, s2⟩, hW₁, X', ⟨g', mk, t, L, e1, e2, hq, h1, hL, h2, h3⟩, st⟩ | ⟨q, vm₁, ⟨U', l2, c2, s2⟩, hW₁, X', ⟨g', mk, t, L, E, ce, e1, e2, hq, hce, hcv, hcl, h1, hL, h2, h3⟩, st⟩
  · dsimp only [Pt.U, Pt.locs, Pt.cells, Pt.slots] at X' e1 e2 h1 h2 h3 st
    subst h1; subst h2; subst h3
    exact Or.inl ⟨v, (T.setVm vm₁).calling g' mk (Value.ref b :: As).toArray, t, U', L, hT, X', hL, e1, e2, hq, st⟩
  · dsimp only [Pt.U, Pt.locs, Pt.cells, Pt.slots] at X' e1 e2 h1 h2 h3 st hcl
    subst h1; subst h2; subst h3
    exact Or.inr ⟨q, (T.setVm vm₁).calling g' mk (Value.ref b :: As).toArray, t, U', L, E, ce, hT, X', hL, e1, e2, hq, hce, hcv, vx_cls hW₁ hcl, st⟩
theorem vx_runS (S : CallFix p m c cc nL s args Ts own) (hM : vx_Met l y ws rm Pc Qc XC mc ms free) (cw : CallB R s args own index y bytes maxL ret ws rm mc ms n ∧ (Cond.static y).before args s = true) (hp : PreS s H Pc As)
    (hg : g.method = m) (hn : As.length = n) (hsize : g.locals.size = nL) (hstack : g.stack = As.reverse ++ rest) (hW : 2 * g.monitorRoom + (rest.map fun v => v.category).sum ≤ 8) (hdg : decode cc g.pc = .ok (.invokestatic index, 3)) (hf : cells + mc ≤ R.cells ∧ slots + ms ≤ R.slots) :
    vx_Run p l e R s m args below meth c H locs cells slots mc ms g rest (Qc As.toArray) XC free := by
  have hK : vx_Back l R p e below s args y 3 8 (PreOf R mc ms Pc) (PostOf Qc mc ms free) (vx_Post XC mc ms free) := vx_callBack cw.1 hM hp.1
  obtain ⟨⟨-, -, -, -, -, -, hcode, hini, hy, hlen, hl⟩, hstt⟩ := cw
  obtain ⟨hx, hb, hml, ho, -⟩ := S
  intro T hT X
  rcases vx_callS X hx (bytes := bytes) (maxL := maxL) (ret := ret) ho hl hstt hini hcode hy hK hg (hsize.trans hml.symm) (argsL := As) (rest := rest) (fun sig h => hn.trans (hlen sig h)) hstack hW (by rw [hb]; exact hdg)
    (fun vm₁ hW₁ => ⟨hf.1, hf.2, hp.2 (T.setVm vm₁) hT hW₁⟩) with ⟨v, vm₁, ⟨U', l2, c2, s2⟩, hW₁, X', ⟨g', mk, t, L, e1, e2, hq, h1, hL, h2, h3⟩, st⟩ | ⟨q, vm₁, ⟨U', l2, c2, s2⟩, hW₁, X', ⟨g', mk, t, L, E, ce, e1, e2, hq, hce, hcv, hcl, h1, hL, h2, h3⟩, st⟩
  · dsimp only [Pt.U, Pt.locs, Pt.cells, Pt.slots] at X' e1 e2 h1 h2 h3 st
    subst h1; subst h2; subst h3
    exact Or.inl ⟨v, (T.setVm vm₁).calling g' mk As.toArray, t, U', L, hT, X', hL, e1, e2, hq, st⟩
  · dsimp only [Pt.U, Pt.locs, Pt.cells, Pt.slots] at X' e1 e2 h1 h2 h3 st hcl
    subst h1; subst h2; subst h3
    exact Or.inr ⟨q, (T.setVm vm₁).calling g' mk As.toArray, t, U', L, E, ce, hT, X', hL, e1, e2, hq, hce, hcv, vx_cls hW₁ hcl, st⟩
end Runs
section Rows
variable {p : Program} {l : Launch} {e : Env} {R : Room} {s : State} {m : MethodId} {args : Array Value} {below : List Frame} {meth : Method} {c : Code} {H : Heap} {locs : List Loc} {cells slots : Nat} {Q : State → Prop}
variable {mc ms : Nat} {free : Addr → Prop} {A0 A1 : Nat → Prop} {H0 : Heap} {a : Array Value} {pc : Nat} {ls : Array Slot} {st0 rest : List Value}
theorem vx_keep {st₀ t T' : State} {L : List Loc} (h0 : st₀.heap = H) (e1 : T'.heap = t.heap) (hS : va_S A0 H0 H locs) (hA : ∀ q, q < H.size → A1 q → A0 q) (hf : ∀ q, free q → A0 q) (hL : ∀ q ∈ L, free q.base) (hF : va_F A1 st₀ t) :
    H.size ≤ T'.heap.size ∧ (∀ q : Nat, q < H.size → ¬ A1 q → T'.heap[q]? = H[q]?) ∧ va_S A0 H0 T'.heap (locs ++ L) := by
  obtain ⟨hz, hk⟩ := hF
  rw [h0] at hz hk
  exact ⟨by rw [e1]; exact hz, fun q h1 h2 => by rw [e1]; exact hk q h1 h2,
    ⟨Nat.le_trans hS.1 (by rw [e1]; exact hz), fun q h1 h2 => by rw [e1, hk q (Nat.lt_of_lt_of_le h1 hS.1) (fun z => h2 (hA q (Nat.lt_of_lt_of_le h1 hS.1) z))]; exact hS.2.1 q h1 h2, fun q hq => by
      rcases List.mem_append.mp hq with h | h
      · exact hS.2.2 q h
      · exact hf _ (hL q h)⟩⟩
theorem vx_calli {S SX : Type} {post : Int32 → S → Prop} {px : SX → Prop} {B : S → State → Prop} {BX : String → SX → State → Prop} {AX : Nat → Prop} (hr : vx_Run p l e R s m args below meth c H locs cells slots mc ms (F0 m pc ls st0) rest (va_Qi post B A1 a) (vx_X px BX AX) free) (hS : va_S A0 H0 H locs) (hA : ∀ q, q < H.size → A1 q → A0 q) (hf : ∀ q, free q → A0 q) (hAX : ∀ q, q < H.size → AX q → A0 q)
    (kx : ∀ (E : String) (ce : Cell) (q9 : Addr) (u : SX) (t : State) (H1 : Heap) (locs1 : List Loc), t.heap = H1 → s.vm.Alike t.vm → px u → BX E u t → H.size ≤ H1.size → (∀ q : Nat, q < H.size → ¬ AX q → H1[q]? = H[q]?) → va_S A0 H0 H1 locs1 → H1[q9]? = some ce → ce.vm = .none → s.vm.findClass E = some ce.cls → vx_W p l e R s m args below meth c H1 locs1 (cells + mc) (slots + ms) Q (F0 m pc ls rest) q9)
    (kk : ∀ (r : Int32) (u : S) (t : State) (H1 : Heap) (locs1 : List Loc), t.heap = H1 → s.vm.Alike t.vm → post r u → B u t → H.size ≤ H1.size → (∀ q : Nat, q < H.size → ¬ A1 q → H1[q]? = H[q]?) → va_S A0 H0 H1 locs1 → W p l e R s m args below meth c H1 locs1 (cells + mc) (slots + ms) Q (F0 m (pc + 3) ls (.int r :: rest))) : W p l e R s m args below meth c H locs cells slots Q (F0 m pc ls st0) := by
  intro T hT X
  rcases hr T hT X with ⟨v, st₀, t, T', L, h0, X', hL, e1, e2, ⟨⟨r, u, hv, hp, hb⟩, hF⟩, st⟩ | ⟨q, st₀, t, T', L, E, ce, h0, X', hL, e1, e2, ⟨u, hp, hb, hF⟩, hce, hcv, hcl, st⟩
  · cases hv
    obtain ⟨k1, k2, k3⟩ := vx_keep h0 e1 hS hA hf hL hF
    obtain ⟨t2, a1, b1⟩ := kk r u t T'.heap (locs ++ L) e1.symm (by rw [← e2]; exact X'.warmed.alike) hp hb k1 k2 k3 T' rfl X'
    exact ⟨t2, st t2 a1, b1⟩
  · obtain ⟨k1, k2, k3⟩ := vx_keep h0 e1 hS hAX hf hL hF
    obtain ⟨t2, a1, b1⟩ := kx E ce q u t T'.heap (locs ++ L) e1.symm (by rw [← e2]; exact X'.warmed.alike) hp hb k1 k2 k3 (by rw [e1]; exact hce) hcv hcl T' rfl X'
    exact ⟨t2, st.trans a1, b1⟩
theorem vx_calll {S SX : Type} {post : Int64 → S → Prop} {px : SX → Prop} {B : S → State → Prop} {BX : String → SX → State → Prop} {AX : Nat → Prop} (hr : vx_Run p l e R s m args below meth c H locs cells slots mc ms (F0 m pc ls st0) rest (va_Ql post B A1 a) (vx_X px BX AX) free) (hS : va_S A0 H0 H locs) (hA : ∀ q, q < H.size → A1 q → A0 q) (hf : ∀ q, free q → A0 q) (hAX : ∀ q, q < H.size → AX q → A0 q)
    (kx : ∀ (E : String) (ce : Cell) (q9 : Addr) (u : SX) (t : State) (H1 : Heap) (locs1 : List Loc), t.heap = H1 → s.vm.Alike t.vm → px u → BX E u t → H.size ≤ H1.size → (∀ q : Nat, q < H.size → ¬ AX q → H1[q]? = H[q]?) → va_S A0 H0 H1 locs1 → H1[q9]? = some ce → ce.vm = .none → s.vm.findClass E = some ce.cls → vx_W p l e R s m args below meth c H1 locs1 (cells + mc) (slots + ms) Q (F0 m pc ls rest) q9)
    (kk : ∀ (r : Int64) (u : S) (t : State) (H1 : Heap) (locs1 : List Loc), t.heap = H1 → s.vm.Alike t.vm → post r u → B u t → H.size ≤ H1.size → (∀ q : Nat, q < H.size → ¬ A1 q → H1[q]? = H[q]?) → va_S A0 H0 H1 locs1 → W p l e R s m args below meth c H1 locs1 (cells + mc) (slots + ms) Q (F0 m (pc + 3) ls (.long r :: rest))) : W p l e R s m args below meth c H locs cells slots Q (F0 m pc ls st0) := by
  intro T hT X
  rcases hr T hT X with ⟨v, st₀, t, T', L, h0, X', hL, e1, e2, ⟨⟨r, u, hv, hp, hb⟩, hF⟩, st⟩ | ⟨q, st₀, t, T', L, E, ce, h0, X', hL, e1, e2, ⟨u, hp, hb, hF⟩, hce, hcv, hcl, st⟩
  · cases hv
    obtain ⟨k1, k2, k3⟩ := vx_keep h0 e1 hS hA hf hL hF
    obtain ⟨t2, a1, b1⟩ := kk r u t T'.heap (locs ++ L) e1.symm (by rw [← e2]; exact X'.warmed.alike) hp hb k1 k2 k3 T' rfl X'
    exact ⟨t2, st t2 a1, b1⟩
  · obtain ⟨k1, k2, k3⟩ := vx_keep h0 e1 hS hAX hf hL hF
    obtain ⟨t2, a1, b1⟩ := kx E ce q u t T'.heap (locs ++ L) e1.symm (by rw [← e2]; exact X'.warmed.alike) hp hb k1 k2 k3 (by rw [e1]; exact hce) hcv hcl T' rfl X'
    exact ⟨t2, st.trans a1, b1⟩
theorem vx_callf {S SX : Type} {post : UInt32 → S → Prop} {px : SX → Prop} {B : S → State → Prop} {BX : String → SX → State → Prop} {AX : Nat → Prop} (hr : vx_Run p l e R s m args below meth c H locs cells slots mc ms (F0 m pc ls st0) rest (va_Qf post B A1 a) (vx_X px BX AX) free) (hS : va_S A0 H0 H locs) (hA : ∀ q, q < H.size → A1 q → A0 q) (hf : ∀ q, free q → A0 q) (hAX : ∀ q, q < H.size → AX q → A0 q)
    (kx : ∀ (E : String) (ce : Cell) (q9 : Addr) (u : SX) (t : State) (H1 : Heap) (locs1 : List Loc), t.heap = H1 → s.vm.Alike t.vm → px u → BX E u t → H.size ≤ H1.size → (∀ q : Nat, q < H.size → ¬ AX q → H1[q]? = H[q]?) → va_S A0 H0 H1 locs1 → H1[q9]? = some ce → ce.vm = .none → s.vm.findClass E = some ce.cls → vx_W p l e R s m args below meth c H1 locs1 (cells + mc) (slots + ms) Q (F0 m pc ls rest) q9)
    (kk : ∀ (r : UInt32) (u : S) (t : State) (H1 : Heap) (locs1 : List Loc), t.heap = H1 → s.vm.Alike t.vm → post r u → B u t → H.size ≤ H1.size → (∀ q : Nat, q < H.size → ¬ A1 q → H1[q]? = H[q]?) → va_S A0 H0 H1 locs1 → W p l e R s m args below meth c H1 locs1 (cells + mc) (slots + ms) Q (F0 m (pc + 3) ls (.float r :: rest))) : W p l e R s m args below meth c H locs cells slots Q (F0 m pc ls st0) := by
  intro T hT X
  rcases hr T hT X with ⟨v, st₀, t, T', L, h0, X', hL, e1, e2, ⟨⟨r, u, hv, hp, hb⟩, hF⟩, st⟩ | ⟨q, st₀, t, T', L, E, ce, h0, X', hL, e1, e2, ⟨u, hp, hb, hF⟩, hce, hcv, hcl, st⟩
  · cases hv
    obtain ⟨k1, k2, k3⟩ := vx_keep h0 e1 hS hA hf hL hF
    obtain ⟨t2, a1, b1⟩ := kk r u t T'.heap (locs ++ L) e1.symm (by rw [← e2]; exact X'.warmed.alike) hp hb k1 k2 k3 T' rfl X'
    exact ⟨t2, st t2 a1, b1⟩
  · obtain ⟨k1, k2, k3⟩ := vx_keep h0 e1 hS hAX hf hL hF
    obtain ⟨t2, a1, b1⟩ := kx E ce q u t T'.heap (locs ++ L) e1.symm (by rw [← e2]; exact X'.warmed.alike) hp hb k1 k2 k3 (by rw [e1]; exact hce) hcv hcl T' rfl X'
    exact ⟨t2, st.trans a1, b1⟩
theorem vx_calld {S SX : Type} {post : UInt64 → S → Prop} {px : SX → Prop} {B : S → State → Prop} {BX : String → SX → State → Prop} {AX : Nat → Prop} (hr : vx_Run p l e R s m args below meth c H locs cells slots mc ms (F0 m pc ls st0) rest (va_Qd post B A1 a) (vx_X px BX AX) free) (hS : va_S A0 H0 H locs) (hA : ∀ q, q < H.size → A1 q → A0 q) (hf : ∀ q, free q → A0 q) (hAX : ∀ q, q < H.size → AX q → A0 q)
    (kx : ∀ (E : String) (ce : Cell) (q9 : Addr) (u : SX) (t : State) (H1 : Heap) (locs1 : List Loc), t.heap = H1 → s.vm.Alike t.vm → px u → BX E u t → H.size ≤ H1.size → (∀ q : Nat, q < H.size → ¬ AX q → H1[q]? = H[q]?) → va_S A0 H0 H1 locs1 → H1[q9]? = some ce → ce.vm = .none → s.vm.findClass E = some ce.cls → vx_W p l e R s m args below meth c H1 locs1 (cells + mc) (slots + ms) Q (F0 m pc ls rest) q9)
    (kk : ∀ (r : UInt64) (u : S) (t : State) (H1 : Heap) (locs1 : List Loc), t.heap = H1 → s.vm.Alike t.vm → post r u → B u t → H.size ≤ H1.size → (∀ q : Nat, q < H.size → ¬ A1 q → H1[q]? = H[q]?) → va_S A0 H0 H1 locs1 → W p l e R s m args below meth c H1 locs1 (cells + mc) (slots + ms) Q (F0 m (pc + 3) ls (.double r :: rest))) : W p l e R s m args below meth c H locs cells slots Q (F0 m pc ls st0) := by
  intro T hT X
  rcases hr T hT X with ⟨v, st₀, t, T', L, h0, X', hL, e1, e2, ⟨⟨r, u, hv, hp, hb⟩, hF⟩, st⟩ | ⟨q, st₀, t, T', L, E, ce, h0, X', hL, e1, e2, ⟨u, hp, hb, hF⟩, hce, hcv, hcl, st⟩
  · cases hv
    obtain ⟨k1, k2, k3⟩ := vx_keep h0 e1 hS hA hf hL hF
    obtain ⟨t2, a1, b1⟩ := kk r u t T'.heap (locs ++ L) e1.symm (by rw [← e2]; exact X'.warmed.alike) hp hb k1 k2 k3 T' rfl X'
    exact ⟨t2, st t2 a1, b1⟩
  · obtain ⟨k1, k2, k3⟩ := vx_keep h0 e1 hS hAX hf hL hF
    obtain ⟨t2, a1, b1⟩ := kx E ce q u t T'.heap (locs ++ L) e1.symm (by rw [← e2]; exact X'.warmed.alike) hp hb k1 k2 k3 (by rw [e1]; exact hce) hcv hcl T' rfl X'
    exact ⟨t2, st.trans a1, b1⟩
theorem vx_callv {S SX : Type} {post : S → Prop} {px : SX → Prop} {B : S → State → Prop} {BX : String → SX → State → Prop} {AX : Nat → Prop} (hr : vx_Run p l e R s m args below meth c H locs cells slots mc ms (F0 m pc ls st0) rest (va_Qv post B A1 a) (vx_X px BX AX) free) (hS : va_S A0 H0 H locs) (hA : ∀ q, q < H.size → A1 q → A0 q) (hf : ∀ q, free q → A0 q) (hAX : ∀ q, q < H.size → AX q → A0 q)
    (kx : ∀ (E : String) (ce : Cell) (q9 : Addr) (u : SX) (t : State) (H1 : Heap) (locs1 : List Loc), t.heap = H1 → s.vm.Alike t.vm → px u → BX E u t → H.size ≤ H1.size → (∀ q : Nat, q < H.size → ¬ AX q → H1[q]? = H[q]?) → va_S A0 H0 H1 locs1 → H1[q9]? = some ce → ce.vm = .none → s.vm.findClass E = some ce.cls → vx_W p l e R s m args below meth c H1 locs1 (cells + mc) (slots + ms) Q (F0 m pc ls rest) q9)
    (kk : ∀ (u : S) (t : State) (H1 : Heap) (locs1 : List Loc), t.heap = H1 → s.vm.Alike t.vm → post u → B u t → H.size ≤ H1.size → (∀ q : Nat, q < H.size → ¬ A1 q → H1[q]? = H[q]?) → va_S A0 H0 H1 locs1 → W p l e R s m args below meth c H1 locs1 (cells + mc) (slots + ms) Q (F0 m (pc + 3) ls (rest))) : W p l e R s m args below meth c H locs cells slots Q (F0 m pc ls st0) := by
  intro T hT X
  rcases hr T hT X with ⟨v, st₀, t, T', L, h0, X', hL, e1, e2, ⟨⟨u, hv, hp, hb⟩, hF⟩, st⟩ | ⟨q, st₀, t, T', L, E, ce, h0, X', hL, e1, e2, ⟨u, hp, hb, hF⟩, hce, hcv, hcl, st⟩
  · cases hv
    obtain ⟨k1, k2, k3⟩ := vx_keep h0 e1 hS hA hf hL hF
    obtain ⟨t2, a1, b1⟩ := kk u t T'.heap (locs ++ L) e1.symm (by rw [← e2]; exact X'.warmed.alike) hp hb k1 k2 k3 T' rfl X'
    exact ⟨t2, st t2 a1, b1⟩
  · obtain ⟨k1, k2, k3⟩ := vx_keep h0 e1 hS hAX hf hL hF
    obtain ⟨t2, a1, b1⟩ := kx E ce q u t T'.heap (locs ++ L) e1.symm (by rw [← e2]; exact X'.warmed.alike) hp hb k1 k2 k3 (by rw [e1]; exact hce) hcv hcl T' rfl X'
    exact ⟨t2, st.trans a1, b1⟩
/-- caught by the row x of this method's table; the rows ahead don't take it -/
theorem vx_catch {own name : String} {E : String} {ce : Cell} {q : Addr} (hown : s.vm.findClass own = some m.cls) (pre : List ExceptionTableEntry) (x : ExceptionTableEntry) (suf : List ExceptionTableEntry) (hsplit : c.exceptionTable.toList = pre ++ x :: suf)
    (hpass : ∀ z ∈ pre, covers z pc = false ∨ (z.catchType ≠ 0 ∧ ∃ nm : String, (Cond.classLink own z.catchType nm).before args s = true ∧ va_Nc E nm s)) (hx : covers x pc = true) (h0 : x.catchType ≠ 0)
    (hlink : (Cond.classLink own x.catchType name).before args s = true) (hcast : (Cond.castable E name).before args s = true) (hcell : H[q]? = some ce) (hv : ce.vm = .none) (hcl : s.vm.findClass E = some ce.cls)
    (kk : W p l e R s m args below meth c H locs cells slots Q (F0 m x.handlerPc ls [.ref q])) : vx_W p l e R s m args below meth c H locs cells slots Q (F0 m pc ls rest) q := by
  intro T hT X
  have hpl : e.platform.magicAccessors = ({} : Platform).magicAccessors := by rw [X.admits.platform]
  obtain ⟨c3, c4, hc3, hc4, hasg⟩ := Cond.castable_spec hcast
  cases Option.some.inj (hc3.symm.trans hcl)
  obtain ⟨c5, hc5, hcl5⟩ := Cond.classLink_spec hown hlink e.platform hpl
  cases Option.some.inj (hc4.symm.trans hc5)
  obtain ⟨vm', X', st⟩ := X.thenCaughtThrough q (g := F0 m pc ls rest) rfl (Steps.refl _) (by rw [hT]; exact hcell) (by rw [hv]; rfl) (by obtain ⟨k9, h9, -⟩ := Vm.findClass_spec hcl; exact ⟨k9, h9⟩) pre x suf hsplit
    (fun z hz => by
      rcases hpass z hz with h | ⟨hz0, nm, hl1, hn1⟩
      · exact Or.inl h
      · obtain ⟨c6, hc6, hcl6⟩ := Cond.classLink_spec hown hl1 e.platform hpl
        obtain ⟨a8, b8, h1, h2, h3⟩ := hn1
        cases Option.some.inj (h1.symm.trans hcl)
        cases Option.some.inj (h2.symm.trans hc6)
        exact Or.inr ⟨hz0, _, hcl6, h3⟩) hx (Or.inr ⟨h0, c4, hcl5, hasg⟩)
  obtain ⟨t, a1, b1⟩ := kk (T.setVm vm') hT X'
  exact ⟨t, st.trans a1, b1⟩
end Rows
section Ends
variable {p : Program} {l : Launch} {e : Env} {R : Room} {s : State} {m : MethodId} {args : Array Value} {below : List Frame} {meth : Method} {c : Code} {H : Heap} {locs : List Loc} {cells slots : Nat} {Q : State → Prop}
variable {mc ms : Nat} {free : Addr → Prop} {A0 A1 : Nat → Prop} {H0 : Heap} {a : Array Value} {ls : Array Slot} {st0 rest : List Value}
variable {Qc : Array Value → State → Outcome → State → Prop} {XC : String → State → State → Prop}
/-- what a body that may throw owes at its end -/
def vx_MQ (below : List Frame) (Qc : Array Value → State → Outcome → State → Prop) (XC : String → State → State → Prop) (a : Array Value) (s : State) (mc ms : Nat) (free : Addr → Prop) : State → Prop := fun t =>
  ∃ o, t.status = .running ∧ Ended t below o ∧ vx_Q Qc XC mc ms free a s o t
theorem vx_ret {g : JFrame} {mc ms : Nat} (k : W p l e R s m args below meth c H locs cells slots (MQ below Qc args s mc ms free) g) : W p l e R s m args below meth c H locs cells slots (vx_MQ below Qc XC args s mc ms free) g := by
  intro T hT X
  obtain ⟨t, a1, o, b1, b2, b3, b4⟩ := k T hT X
  exact ⟨t, a1, o, b1, b2, Or.inl ⟨b3, b4⟩⟩
/-- not caught here: it goes on to the caller -/
theorem vx_widen {g : JFrame} {q : Addr} {k n : Nat} (h1 : cells ≤ k) (h2 : slots ≤ n) (kk : vx_W p l e R s m args below meth c H locs k n Q g q) : vx_W p l e R s m args below meth c H locs cells slots Q g q := fun T hT X => kk T hT (stand_widen X h1 h2)
theorem vx_out {pc : Nat} {E : String} {ce : Cell} {q : Addr} {mc ms : Nat} (hout : ∀ x ∈ c.exceptionTable.toList, covers x pc = false) (hlocks : meth.locks = false) (hcell : H[q]? = some ce) (hv : ce.vm = .none) (hcl : s.vm.findClass E = some ce.cls)
    (hx : ∀ t : State, t.heap = H → s.vm.Alike t.vm → XC E s t) (hf : ∀ z ∈ locs, free z.base) (hc : cells ≤ mc) (hs : slots ≤ ms) :
    vx_W p l e R s m args below meth c H locs cells slots (vx_MQ below Qc XC args s mc ms free) (F0 m pc ls rest) q := by
  intro T hT X
  obtain ⟨st1, hrun, hend, hW, hsm⟩ := X.leaveThrown q (g := F0 m pc ls rest) rfl rfl rfl hout hlocks
  have hcell9 : (T.setFrames (.throwing q :: below)).heap[q]? = some ce := by
    show T.heap[q]? = some ce
    rw [hT]; exact hcell
  exact ⟨_, st1, .threw q, hrun, hend, Or.inr ⟨q, rfl, E, ce, locs, hx _ hT hW.alike, hcell9, hv, hcl, hW, hsm.mono hc hs, hf⟩⟩
theorem vx_frame {U : State} {k n : Nat} (h : s.sameButNew ({ U with vm := s.vm } : State) locs k n) : s.heap.size ≤ U.heap.size ∧ ∀ q : Nat, q < s.heap.size → (∀ z ∈ locs, z.base ≠ q) → U.heap[q]? = s.heap[q]? := by
  obtain ⟨-, h2, -, -, -, h6⟩ := h
  refine ⟨h2, fun q hq hz => ?_⟩
  obtain ⟨c9, e1, e2, e3, e4⟩ := h6 q _ (Array.getElem?_eq_getElem hq)
  have hs : c9.slots = (s.heap[q]).slots := Array.ext_getElem? fun i => e4 i fun hm => hz _ hm rfl
  have h9 : c9 = s.heap[q] := by
    rw [hs] at e2
    exact e2
  have e5 : U.heap[q]? = some c9 := e1
  rw [e5, h9, Array.getElem?_eq_getElem hq]
/-- the words of a throw but the four that speak of the heap -/
def vx_no (w : Cond) : Bool := decide (w ≠ .isRef (.static Bundle.tN "UNASSIGNED_STACK" Bundle.steD)) && decide (w ≠ .isRef (.static Bundle.tN "SUPPRESSED_SENTINEL" Bundle.listD)) && decide (w ≠ .laysStatic Bundle.tN "UNASSIGNED_STACK" Bundle.steD) && decide (w ≠ .laysStatic Bundle.tN "SUPPRESSED_SENTINEL" Bundle.listD)
def vx_at0 (own : String) (ic : Nat) (X : String) (names : List String) : List Cond := (Bundle.ownAtoms0 own ic X names).filter vx_no
def vx_atS (own : String) (ic : Nat) (X : String) (names : List String) : List Cond := (Bundle.ownAtoms own ic X names).filter vx_no
/-- a word that the tables alone decide, or a good one -/
def vx_ot (w : Cond) : Bool := w.onTables || goodWord w
theorem vx_ot_at {args a' : Array Value} {s U : State} {w : Cond} (hW : s.WarmedH U.vm) (hvm : s.vm = U.vm) (hg : vx_ot w = true) (h : w.before args s = true) : w.before a' U = true := by
  simp only [vx_ot, Bool.or_eq_true] at hg
  rcases hg with hg | hg
  · exact va_tabs hg hvm h
  · exact word_at hW (good_of_word hg) h
/-- a list's words: the good ones out of the method's own list, the others by premises of their own -/
theorem vx_hat {args : Array Value} {s : State} {L B : List Cond} (h1 : ∀ w ∈ L.filter goodWord, w.before args s = true) (h2 : ∀ w ∈ L.filter (fun w => !goodWord w), w ∈ B) (h3 : ∀ w ∈ B, w.before args s = true) : ∀ w ∈ L, w.before args s = true := by
  intro w hw
  by_cases g : goodWord w = true
  · exact h1 w (List.mem_filter.mpr ⟨hw, g⟩)
  · refine h3 w (h2 w (List.mem_filter.mpr ⟨hw, ?_⟩))
    show (!goodWord w) = true
    cases hgw : goodWord w
    · rfl
    · exact absurd hgw g
theorem vx_c {args : Array Value} {s : State} {w : Cond} {B : List Cond} (h : w.before args s = true) (t : ∀ w ∈ B, w.before args s = true) : ∀ w' ∈ w :: B, w'.before args s = true := fun w' h' => (List.mem_cons.mp h').elim (fun e => by rw [e]; exact h) (t w')
theorem vx_n {args : Array Value} {s : State} : ∀ w ∈ ([] : List Cond), w.before args s = true := fun _ h => nomatch h
theorem vx_own {args : Array Value} {s : State} {L : List Cond} (h1 : ∀ w ∈ L.filter vx_no, w.before args s = true)
    (hU : (Cond.isRef (.static Bundle.tN "UNASSIGNED_STACK" Bundle.steD)).before args s = true) (hN : (Cond.isRef (.static Bundle.tN "SUPPRESSED_SENTINEL" Bundle.listD)).before args s = true)
    (lU : (Cond.laysStatic Bundle.tN "UNASSIGNED_STACK" Bundle.steD).before args s = true) (lN : (Cond.laysStatic Bundle.tN "SUPPRESSED_SENTINEL" Bundle.listD).before args s = true) : ∀ w ∈ L, w.before args s = true := by
  intro w hw
  by_cases e1 : w = .isRef (.static Bundle.tN "UNASSIGNED_STACK" Bundle.steD)
  · rw [e1]; exact hU
  · by_cases e2 : w = .isRef (.static Bundle.tN "SUPPRESSED_SENTINEL" Bundle.listD)
    · rw [e2]; exact hN
    · by_cases e3 : w = .laysStatic Bundle.tN "UNASSIGNED_STACK" Bundle.steD
      · rw [e3]; exact lU
      · by_cases e4 : w = .laysStatic Bundle.tN "SUPPRESSED_SENTINEL" Bundle.listD
        · rw [e4]; exact lN
        · exact h1 w (List.mem_filter.mpr ⟨hw, by unfold vx_no; rw [decide_eq_true e1, decide_eq_true e2, decide_eq_true e3, decide_eq_true e4]; rfl⟩)
/-- where a static field lies, its class's statics cell in H -/
def vx_L (C n d : String) (A : Nat → Prop) (U : State) (H : Heap) : Prop := ∃ (c : ClassId) (k : Class) (i : Nat) (f : Field) (a : Nat) (cell : Cell), U.vm.findClass C = some c ∧ U.fieldFound? C n d = some (c, k, i, f) ∧ f.isStatic = true ∧ k.statics = some a ∧ H[a]? = some cell ∧ cell.vm.isStatics = true ∧ cell.cls = c ∧ f.slot < cell.slots.size ∧ k.staticTypes[f.slot]? = some f.type ∧ ¬ A a
theorem vx_L.moved {C n d : String} {A : Nat → Prop} {u U : State} {H : Heap} (hvm : u.vm.Alike U.vm) (h : vx_L C n d A u H) : vx_L C n d A U H := by
  obtain ⟨c, k, i, f, a, cell, h1, h2, h3, h4, h5, h6, h7, h8, h9, h10⟩ := h
  obtain ⟨k', hi', he⟩ := State.fieldFound?_setVm hvm h2
  exact ⟨c, k', i, f, a, cell, by rw [hvm.findClass]; exact h1, hi', h3, by rw [he]; exact h4, h5, h6, h7, h8, by rw [he]; exact h9, h10⟩
theorem vx_L.kept {C n d : String} {A : Nat → Prop} {U : State} {H H1 : Heap} (h : vx_L C n d A U H) (hq : ∀ a : Nat, a < H.size → ¬ A a → H1[a]? = H[a]?) : vx_L C n d A U H1 := by
  obtain ⟨c, k, i, f, a, cell, h1, h2, h3, h4, h5, h6, h7, h8, h9, h10⟩ := h
  exact ⟨c, k, i, f, a, cell, h1, h2, h3, h4, by rw [hq a (Array.getElem?_eq_some_iff.mp h5).1 h10]; exact h5, h6, h7, h8, h9, h10⟩
theorem vx_L.narrow {C n d : String} {A B : Nat → Prop} {U : State} {H : Heap} (h : vx_L C n d A U H) (hAB : ∀ q, B q → A q) : vx_L C n d B U H := by
  obtain ⟨c, k, i, f, a, cell, h1, h2, h3, h4, h5, h6, h7, h8, h9, h10⟩ := h
  exact ⟨c, k, i, f, a, cell, h1, h2, h3, h4, h5, h6, h7, h8, h9, fun z => h10 (hAB _ z)⟩
theorem vx_L.word {C n d : String} {A : Nat → Prop} {s : State} {args : Array Value} (h : vx_L C n d A s s.heap) : (Cond.laysStatic C n d).before args s = true := by
  obtain ⟨c, k, i, f, a, cell, h1, h2, h3, h4, h5, h6, h7, h8, h9, -⟩ := h
  show (Cond.laysStatic C n d).holds args s none s [] = true
  exact Cond.laysStatic_of h1 h2 h3 h4 h5 h6 h7 h8 h9
/-- .. and what it holds: null or some reference -/
def vx_Zq (C n d : String) (A : Nat → Prop) (U : State) (H : Heap) : Prop := va_Zq C n d A U H ∧ vx_L C n d A U H
theorem vx_Zq.moved {C n d : String} {A : Nat → Prop} {u U : State} {H : Heap} (hvm : u.vm.Alike U.vm) (h : vx_Zq C n d A u H) : vx_Zq C n d A U H := ⟨va_Zq.moved hvm h.1, vx_L.moved hvm h.2⟩
theorem vx_Zq.kept {C n d : String} {A : Nat → Prop} {U : State} {H H1 : Heap} (h : vx_Zq C n d A U H) (hq : ∀ a : Nat, a < H.size → ¬ A a → H1[a]? = H[a]?) : vx_Zq C n d A U H1 := ⟨va_Zq.kept h.1 hq, vx_L.kept h.2 hq⟩
theorem vx_Zq.narrow {C n d : String} {A B : Nat → Prop} {U : State} {H : Heap} (h : vx_Zq C n d A U H) (hAB : ∀ q, B q → A q) : vx_Zq C n d B U H := ⟨va_Zq.narrow h.1 hAB, vx_L.narrow h.2 hAB⟩
theorem vx_Zqof {args : Array Value} {s : State} {C n d : String} {A : Nat → Prop} (hl : (Cond.laysStatic C n d).before args s = true) (hini : (Cond.initialized C).before args s = true) (h : (Cond.isRef (.static C n d)).before args s = true) (hA : ∀ a : Nat, a < s.heap.size → ¬ A a) : vx_Zq C n d A s s.heap := by
  refine ⟨va_Zqof hl hini h hA, ?_⟩
  obtain ⟨c, k, i, f, a, cell, h1, h2, h3, h4, h5, h6, h7, h8, h9⟩ := Cond.laysStatic_spec hl
  exact ⟨c, k, i, f, a, cell, h1, h2, h3, h4, h5, h6, h7, h8, h9, hA a (Array.getElem?_eq_some_iff.mp h5).1⟩
theorem vx_isRef {C n d : String} {v : Value} {A : Nat → Prop} {s : State} {args : Array Value} (h : va_Z C n d v A s s.heap) (hv : v.isRef = true) : (Cond.isRef (.static C n d)).before args s = true := by
  obtain ⟨cf, kf, fi, f, a, cell, h1, h2, h3, h4, h5, h6, h7, -⟩ := h
  have he : (Term.static C n d).eval args s none [] s = some v := by
    simp [Term.eval, State.fieldNamed?, h1, h2, h4, h5, h6, h7]
  simp only [Cond.before, Cond.holds, Cond.value, he]
  cases v <;> simp_all [Value.isRef]
theorem vx_isRefq {C n d : String} {A : Nat → Prop} {s : State} {args : Array Value} (h : va_Zq C n d A s s.heap) : (Cond.isRef (.static C n d)).before args s = true := by
  rcases h with h | ⟨t, h⟩
  · exact vx_isRef h rfl
  · exact vx_isRef h rfl
/-- the same frame, seen from here: as if the method were called anew in this heap -/
theorem vx_rebase {T : State} (X : Stand p l e R s m args below meth c T locs cells slots) {R' : Room} (hf : R'.frames ≤ R.frames) (hl : R'.locals ≤ R.locals) (hc : cells + R'.cells ≤ R.cells) (hs : slots + R'.slots ≤ R.slots) :
    Stand p l e R' ((T.setVm s.vm).setFrames (.invoking m args :: below)) m args below meth c T [] 0 0 := by
  have htop : (T.setVm s.vm).topJava?.isSome := X.here.top
  have hF : ((T.setVm s.vm).setFrames (.invoking m args :: below)).frames = .invoking m args :: below := State.frames_setFrames _ (State.cur_lt_of_top htop)
  obtain ⟨g₀, hg0⟩ := Option.isSome_iff_exists.mp htop
  obtain ⟨r, hr⟩ := State.topJava?_eq_some.mp hg0
  have hl9 : e.platform.stackLimits (T.setVm s.vm).me = e.platform.stackLimits s.me := X.limits
  have hb9 : (T.setVm s.vm).me.stackBytes = s.me.stackBytes := X.bytes
  refine ⟨X.admits, X.cas, X.clock, hF, ?_, X.hears, X.method, X.code, X.here, X.tail, X.warmed, ?_, ?_, ?_⟩
  · have h := X.room
    have hU : ((T.setVm s.vm).setFrames (.invoking m args :: below)).localsInUse = s.localsInUse := by
      rw [State.localsInUse_invoking hF (meth := meth) (c := c) X.method X.code, State.localsInUse_invoking X.frames X.method X.code]
    simp only [State.hasRoom, Bool.and_eq_true, decide_eq_true_eq] at h ⊢
    obtain ⟨⟨⟨⟨h1, h2, h3, h4, h5, h6⟩, h7⟩, h8⟩, h9⟩ := h
    rw [X.frames, List.length_cons] at h2 h3
    have q1 := X.heapSize
    have q2 := X.used
    simp only [hF, hU, List.length_cons, State.stackLimits_setFrames, State.stackBytes_setFrames, hl9, hb9]
    refine ⟨⟨⟨⟨by omega, by omega, by omega, by omega, by omega, h6⟩, ?_⟩, ?_⟩, X.book⟩
    · show T.heap.size + R'.cells ≤ e.platform.maxCells
      omega
    · show T.slotsUsed + R'.slots ≤ e.platform.maxSlots
      omega
  · rw [State.stackLimits_setFrames]; rfl
  · rw [State.stackBytes_setFrames]; rfl
  · refine ⟨?_, Nat.le_refl _, Nat.le_refl _, ?_, ?_, fun a c9 h9 => ⟨c9, h9, rfl, rfl, fun _ _ => rfl⟩⟩
    · obtain ⟨t, ht, -⟩ := State.frames_cons hr
      show T.setVm s.vm = { ((T.setVm s.vm).setFrames (.invoking m args :: below)).setFrames (T.setVm s.vm).frames with heap := T.heap, slotsUsed := T.slotsUsed }
      rw [State.setFrames_setFrames, State.setFrames_self ht]
      rfl
    · show T.slotsUsed = T.slotsUsed + ((T.heap.toList.drop T.heap.size).map (·.slots.size)).sum
      rw [List.drop_eq_nil_of_le (Nat.le_of_eq Array.length_toList)]
      rfl
    · show ((T.heap.toList.drop T.heap.size).map (·.slots.size)).sum ≤ 0
      rw [List.drop_eq_nil_of_le (Nat.le_of_eq Array.length_toList)]
      exact Nat.le_refl _
/-- 'throw new E()': new; dup; invokespecial; athrow -/
theorem vx_throw0 {cc : ByteArray} {pc : Nat} (hexec : p.tables.exec = Jvm.exec) (hb : c.code = cc) (hl : l.stackTraces = false) {own cls : String} {names : List String} {ik ic mc ms : Nat} {A : Nat → Prop}
    (hown : s.vm.findClass own = some m.cls) (hcls : Bundle.fit cls = true) (hnames : ∀ n ∈ names, Bundle.fit n = true)
    (hk : (Cond.classLink own ik cls).before args s = true) (hini : (Cond.initialized cls).before args s = true) (hat : ∀ w ∈ vx_at0 own ic cls names, w.before args s = true)
    (hgood : ∀ w ∈ Cond.classLink own ik cls :: Cond.initialized cls :: vx_at0 own ic cls names, vx_ot w = true)
    (hU : vx_Zq Bundle.tN "UNASSIGNED_STACK" Bundle.steD A s s.heap) (hN : vx_Zq Bundle.tN "SUPPRESSED_SENTINEL" Bundle.listD A s s.heap) (hS : va_S A s.heap H locs) (hsize : ls.size = c.maxLocals)
    (d0 : decode cc pc = .ok (.new ik, 3)) (d3 : decode cc (pc + 3) = .ok (.dup, 1)) (d4 : decode cc (pc + 4) = .ok (.invokespecial ic, 3)) (d7 : decode cc (pc + 7) = .ok (.athrow, 1))
    (hout : ∀ x ∈ c.exceptionTable.toList, covers x (pc + 7) = false)
    (hRframes : names.length + 3 < R.frames) (hRlocals : (rest.map fun v => v.category).sum + (13 * (names.length + 1) + 42) ≤ R.locals) (hRcells : cells + 1 ≤ R.cells) (hRslots : slots + 6 ≤ R.slots) (hlocks : meth.locks = false)
    (hx : ∀ t : State, s.vm.Alike t.vm → H.size ≤ t.heap.size → (∀ q : Nat, q < H.size → t.heap[q]? = H[q]?) → XC cls s t)
    (hf : ∀ z ∈ locs, free z.base) (hc : cells + 1 ≤ mc) (hs : slots + 6 ≤ ms) :
    W p l e R s m args below meth c H locs cells slots (vx_MQ below Qc XC args s mc ms free) (F0 m pc ls rest) := by
  intro T hT X
  have htr : e.platform.stackTraces = false := (show e.platform.stackTraces = l.stackTraces by rw [X.admits.platform]).trans hl
  have Y := vx_rebase X (R' := { frames := R.frames, locals := R.locals, cells := 1, slots := 6 }) (Nat.le_refl _) (Nat.le_refl _) hRcells hRslots
  obtain ⟨s', hA⟩ : ∃ z, z = (T.setVm s.vm).setFrames (.invoking m args :: below) := ⟨_, rfl⟩
  rw [← hA] at Y
  have hvm : s'.vm = s.vm := by rw [hA]; rfl
  have hhp : s'.heap = H := by rw [hA]; exact hT
  have hW0 : s.WarmedH s'.vm := by rw [hvm]; exact State.WarmedH.refl s
  have hat' : ∀ w ∈ vx_at0 own ic cls names, w.before args s' = true := fun w hw => vx_ot_at hW0 hvm.symm (hgood w (List.mem_cons_of_mem _ (List.mem_cons_of_mem _ hw))) (hat w hw)
  have hk' : (Cond.classLink own ik cls).before args s' = true := vx_ot_at hW0 hvm.symm (hgood _ List.mem_cons_self) hk
  have hini' : (Cond.initialized cls).before args s' = true := vx_ot_at hW0 hvm.symm (hgood _ (List.mem_cons_of_mem _ List.mem_cons_self)) hini
  have hU' : vx_Zq Bundle.tN "UNASSIGNED_STACK" Bundle.steD A s' s'.heap := by rw [hhp]; exact vx_Zq.moved hW0.alike (hU.kept hS.2.1)
  have hN' : vx_Zq Bundle.tN "SUPPRESSED_SENTINEL" Bundle.listD A s' s'.heap := by rw [hhp]; exact vx_Zq.moved hW0.alike (hN.kept hS.2.1)
  have h : ∀ w ∈ Bundle.ownAtoms0 own ic cls names, w.before args s' = true := vx_own hat' (vx_isRefq hU'.1) (vx_isRefq hN'.1) hU'.2.word hN'.2.word
  have hown' : s'.vm.findClass own = some m.cls := by rw [hvm]; exact hown
  have hins : (Cond.instantiable cls 6).before args s' = true := h _ (by simp [Bundle.ownAtoms0])
  obtain ⟨vm₁, cX, kX, hfX, hkX, -, -, X₁, st1⟩ := Y.newCold hexec (own := own) (C := cls) (index := ik) (n := 6) hown' hk' hins hini'
    (g := F0 m pc ls rest) rfl (by rw [hb]; exact d0) (Nat.le_refl _) (Nat.le_refl _)
  generalize hT1 : (T.setVm vm₁).pushCell { cls := cX, slots := kX.instanceTypes.map defaultValue, vm := .none } = T1 at X₁ st1
  have hcat : (Value.ref T.heap.size).category = 1 := rfl
  have hcellA : T1.heap[T.heap.size]? = some (freshCell cX kX) := by rw [← hT1]; exact State.heap_pushCell_size _ _
  have d3' : decode c.code (pc + 3) = .ok (.dup, 1) := by rw [hb]; exact d3
  obtain ⟨U, hsteps, hrun, hend, hW, hsame, ce, hce, hO⟩ := X₁.ctorThrow0 hexec htr (own := own) (cls := cls) (names := names) (ic := ic) hown' hcls hnames h (fun x hx => nomatch hx) hfX hkX hcellA (by rw [hhp, hT]; exact Nat.le_refl _)
    (g := { method := m, pc := pc + 4, locals := ls, stack := .ref T.heap.size :: .ref T.heap.size :: rest, locked := none }) rfl hsize rfl rfl (rest := rest) rfl
    (by rw [hb]; exact d4) (by rw [hb]; exact d7) hout hRframes (by simp only [List.map_cons, List.sum_cons, hcat]; omega) hlocks
  obtain ⟨f1, f2⟩ := vx_frame hsame
  rw [hhp] at f1 f2
  have hWs : s.WarmedH U.vm := State.WarmedH.trans hW0 hW
  have hcl : s.vm.findClass cls = some ce.cls := by
    have h9 := hO.cls
    rw [hvm] at h9
    exact h9
  have hall : s.sameButNew ({ U with vm := s.vm } : State) locs mc ms := by
    subst hA
    obtain ⟨e1, e2⟩ := hsame
    rw [State.setFrames_setFrames] at e1
    have h2 : (T.setVm s.vm).sameButNew ({ U with vm := s.vm } : State) [] (0 + 1) (0 + 6) := ⟨e1, e2⟩
    have h3 := X.same.trans h2
    rw [List.append_nil] at h3
    exact h3.mono hc hs
  refine ⟨U, ?_, .threw T.heap.size, hrun, hend, Or.inr ⟨T.heap.size, rfl, cls, ce, locs, hx U hWs.alike f1 (fun q hq => f2 q hq (fun z hz => nomatch hz)), hce, hO.vm, hcl, hWs, hall, hf⟩⟩
  refine st1 _ ?_
  show Steps p.tables e below (T1.setTop { method := m, pc := pc + 3, locals := ls, stack := .ref T.heap.size :: rest, locked := none }) _
  jvm_step X₁.here [X₁.here.top, hexec, d3', Value.category]
  exact hsteps
/-- 'throw new E("text")': new; dup; ldc; invokespecial; athrow -/
theorem vx_throwS {cc : ByteArray} {pc : Nat} (hexec : p.tables.exec = Jvm.exec) (hb : c.code = cc) (hl : l.stackTraces = false) {own cls text : String} {names : List String} {ik is ic mc ms sa : Nat} {A : Nat → Prop}
    (hown : s.vm.findClass own = some m.cls) (hcls : Bundle.fit cls = true) (hnames : ∀ n ∈ names, Bundle.fit n = true)
    (hk : (Cond.classLink own ik cls).before args s = true) (hini : (Cond.initialized cls).before args s = true) (hstr : vk_R own is text sa s) (hat : ∀ w ∈ vx_atS own ic cls names, w.before args s = true)
    (hgood : ∀ w ∈ Cond.classLink own ik cls :: Cond.initialized cls :: vx_atS own ic cls names, vx_ot w = true)
    (hU : vx_Zq Bundle.tN "UNASSIGNED_STACK" Bundle.steD A s s.heap) (hN : vx_Zq Bundle.tN "SUPPRESSED_SENTINEL" Bundle.listD A s s.heap) (hS : va_S A s.heap H locs) (hsize : ls.size = c.maxLocals)
    (d0 : decode cc pc = .ok (.new ik, 3)) (d3 : decode cc (pc + 3) = .ok (.dup, 1)) (d4 : decode cc (pc + 4) = .ok (.ldc is, 2)) (d6 : decode cc (pc + 6) = .ok (.invokespecial ic, 3)) (d9 : decode cc (pc + 9) = .ok (.athrow, 1))
    (hout : ∀ x ∈ c.exceptionTable.toList, covers x (pc + 9) = false)
    (hRframes : names.length + 3 < R.frames) (hRlocals : (rest.map fun v => v.category).sum + (13 * (names.length + 1) + 43) ≤ R.locals) (hRcells : cells + 1 ≤ R.cells) (hRslots : slots + 6 ≤ R.slots) (hlocks : meth.locks = false)
    (hx : ∀ t : State, s.vm.Alike t.vm → H.size ≤ t.heap.size → (∀ q : Nat, q < H.size → t.heap[q]? = H[q]?) → XC cls s t)
    (hf : ∀ z ∈ locs, free z.base) (hc : cells + 1 ≤ mc) (hs : slots + 6 ≤ ms) :
    W p l e R s m args below meth c H locs cells slots (vx_MQ below Qc XC args s mc ms free) (F0 m pc ls rest) := by
  intro T hT X
  have htr : e.platform.stackTraces = false := (show e.platform.stackTraces = l.stackTraces by rw [X.admits.platform]).trans hl
  have Y := vx_rebase X (R' := { frames := R.frames, locals := R.locals, cells := 1, slots := 6 }) (Nat.le_refl _) (Nat.le_refl _) hRcells hRslots
  obtain ⟨s', hA⟩ : ∃ z, z = (T.setVm s.vm).setFrames (.invoking m args :: below) := ⟨_, rfl⟩
  rw [← hA] at Y
  have hvm : s'.vm = s.vm := by rw [hA]; rfl
  have hhp : s'.heap = H := by rw [hA]; exact hT
  have hW0 : s.WarmedH s'.vm := by rw [hvm]; exact State.WarmedH.refl s
  have hat' : ∀ w ∈ vx_atS own ic cls names, w.before args s' = true := fun w hw => vx_ot_at hW0 hvm.symm (hgood w (List.mem_cons_of_mem _ (List.mem_cons_of_mem _ hw))) (hat w hw)
  have hk' : (Cond.classLink own ik cls).before args s' = true := vx_ot_at hW0 hvm.symm (hgood _ List.mem_cons_self) hk
  have hini' : (Cond.initialized cls).before args s' = true := vx_ot_at hW0 hvm.symm (hgood _ (List.mem_cons_of_mem _ List.mem_cons_self)) hini
  have hU' : vx_Zq Bundle.tN "UNASSIGNED_STACK" Bundle.steD A s' s'.heap := by rw [hhp]; exact vx_Zq.moved hW0.alike (hU.kept hS.2.1)
  have hN' : vx_Zq Bundle.tN "SUPPRESSED_SENTINEL" Bundle.listD A s' s'.heap := by rw [hhp]; exact vx_Zq.moved hW0.alike (hN.kept hS.2.1)
  have h : ∀ w ∈ Bundle.ownAtoms own ic cls names, w.before args s' = true := vx_own hat' (vx_isRefq hU'.1) (vx_isRefq hN'.1) hU'.2.word hN'.2.word
  have hown' : s'.vm.findClass own = some m.cls := by rw [hvm]; exact hown
  have hins : (Cond.instantiable cls 6).before args s' = true := h _ (by simp [Bundle.ownAtoms])
  obtain ⟨vm₁, cX, kX, hfX, hkX, -, -, X₁, st1⟩ := Y.newCold hexec (own := own) (C := cls) (index := ik) (n := 6) hown' hk' hins hini'
    (g := F0 m pc ls rest) rfl (by rw [hb]; exact d0) (Nat.le_refl _) (Nat.le_refl _)
  generalize hT1 : (T.setVm vm₁).pushCell { cls := cX, slots := kX.instanceTypes.map defaultValue, vm := .none } = T1 at X₁ st1
  have hcat : (Value.ref T.heap.size).category = 1 := rfl
  have hcellA : T1.heap[T.heap.size]? = some (freshCell cX kX) := by rw [← hT1]; exact State.heap_pushCell_size _ _
  have d3' : decode c.code (pc + 3) = .ok (.dup, 1) := by rw [hb]; exact d3
  have d4' : decode c.code (pc + 4) = .ok (.ldc is, 2) := by rw [hb]; exact d4
  have hstr' : vk_R own is text sa s' := vk_R.warm hW0 hstr
  obtain ⟨U, hsteps, hrun, hend, hW, hsame, ce, hce, hO⟩ := X₁.ctorThrowS hexec htr (own := own) (cls := cls) (names := names) (ic := ic) hown' hcls hnames h (fun x hx => nomatch hx) hfX hkX hcellA (by rw [hhp, hT]; exact Nat.le_refl _) (msg := .ref sa) rfl
    (g := { method := m, pc := pc + 6, locals := ls, stack := .ref sa :: .ref T.heap.size :: .ref T.heap.size :: rest, locked := none }) rfl hsize rfl rfl (rest := rest) rfl
    (by rw [hb]; exact d6) (by rw [hb]; exact d9) hout hRframes (by simp only [List.map_cons, List.sum_cons, hcat]; omega) hlocks
  obtain ⟨f1, f2⟩ := vx_frame hsame
  rw [hhp] at f1 f2
  have hWs : s.WarmedH U.vm := State.WarmedH.trans hW0 hW
  have hcl : s.vm.findClass cls = some ce.cls := by
    have h9 := hO.cls
    rw [hvm] at h9
    exact h9
  have hall : s.sameButNew ({ U with vm := s.vm } : State) locs mc ms := by
    subst hA
    obtain ⟨e1, e2⟩ := hsame
    rw [State.setFrames_setFrames] at e1
    have h2 : (T.setVm s.vm).sameButNew ({ U with vm := s.vm } : State) [] (0 + 1) (0 + 6) := ⟨e1, e2⟩
    have h3 := X.same.trans h2
    rw [List.append_nil] at h3
    exact h3.mono hc hs
  refine ⟨U, ?_, .threw T.heap.size, hrun, hend, Or.inr ⟨T.heap.size, rfl, cls, ce, locs, hx U hWs.alike f1 (fun q hq => f2 q hq (fun z hz => nomatch hz)), hce, hO.vm, hcl, hWs, hall, hf⟩⟩
  refine st1 _ ?_
  show Steps p.tables e below (T1.setTop { method := m, pc := pc + 3, locals := ls, stack := .ref T.heap.size :: rest, locked := none }) _
  jvm_step X₁.here [X₁.here.top, hexec, d3', Value.category]
  exact X₁.ldcString hexec (own := own) (text := text) (index := is) (a := sa) hown' hstr'.1 hstr'.2
    (g := { method := m, pc := pc + 4, locals := ls, stack := .ref T.heap.size :: .ref T.heap.size :: rest, locked := none }) rfl d4' _ hsteps
/-- 'throw new E("text")', the text by a wide index -/
theorem vx_throwSW {cc : ByteArray} {pc : Nat} (hexec : p.tables.exec = Jvm.exec) (hb : c.code = cc) (hl : l.stackTraces = false) {own cls text : String} {names : List String} {ik is ic mc ms sa : Nat} {A : Nat → Prop}
    (hown : s.vm.findClass own = some m.cls) (hcls : Bundle.fit cls = true) (hnames : ∀ n ∈ names, Bundle.fit n = true)
    (hk : (Cond.classLink own ik cls).before args s = true) (hini : (Cond.initialized cls).before args s = true) (hstr : vk_R own is text sa s) (hat : ∀ w ∈ vx_atS own ic cls names, w.before args s = true)
    (hgood : ∀ w ∈ Cond.classLink own ik cls :: Cond.initialized cls :: vx_atS own ic cls names, vx_ot w = true)
    (hU : vx_Zq Bundle.tN "UNASSIGNED_STACK" Bundle.steD A s s.heap) (hN : vx_Zq Bundle.tN "SUPPRESSED_SENTINEL" Bundle.listD A s s.heap) (hS : va_S A s.heap H locs) (hsize : ls.size = c.maxLocals)
    (d0 : decode cc pc = .ok (.new ik, 3)) (d3 : decode cc (pc + 3) = .ok (.dup, 1)) (d4 : decode cc (pc + 4) = .ok (.ldc_w is, 3)) (d7 : decode cc (pc + 7) = .ok (.invokespecial ic, 3)) (d10 : decode cc (pc + 10) = .ok (.athrow, 1))
    (hout : ∀ x ∈ c.exceptionTable.toList, covers x (pc + 10) = false)
    (hRframes : names.length + 3 < R.frames) (hRlocals : (rest.map fun v => v.category).sum + (13 * (names.length + 1) + 43) ≤ R.locals) (hRcells : cells + 1 ≤ R.cells) (hRslots : slots + 6 ≤ R.slots) (hlocks : meth.locks = false)
    (hx : ∀ t : State, s.vm.Alike t.vm → H.size ≤ t.heap.size → (∀ q : Nat, q < H.size → t.heap[q]? = H[q]?) → XC cls s t)
    (hf : ∀ z ∈ locs, free z.base) (hc : cells + 1 ≤ mc) (hs : slots + 6 ≤ ms) :
    W p l e R s m args below meth c H locs cells slots (vx_MQ below Qc XC args s mc ms free) (F0 m pc ls rest) := by
  intro T hT X
  have htr : e.platform.stackTraces = false := (show e.platform.stackTraces = l.stackTraces by rw [X.admits.platform]).trans hl
  have Y := vx_rebase X (R' := { frames := R.frames, locals := R.locals, cells := 1, slots := 6 }) (Nat.le_refl _) (Nat.le_refl _) hRcells hRslots
  obtain ⟨s', hA⟩ : ∃ z, z = (T.setVm s.vm).setFrames (.invoking m args :: below) := ⟨_, rfl⟩
  rw [← hA] at Y
  have hvm : s'.vm = s.vm := by rw [hA]; rfl
  have hhp : s'.heap = H := by rw [hA]; exact hT
  have hW0 : s.WarmedH s'.vm := by rw [hvm]; exact State.WarmedH.refl s
  have hat' : ∀ w ∈ vx_atS own ic cls names, w.before args s' = true := fun w hw => vx_ot_at hW0 hvm.symm (hgood w (List.mem_cons_of_mem _ (List.mem_cons_of_mem _ hw))) (hat w hw)
  have hk' : (Cond.classLink own ik cls).before args s' = true := vx_ot_at hW0 hvm.symm (hgood _ List.mem_cons_self) hk
  have hini' : (Cond.initialized cls).before args s' = true := vx_ot_at hW0 hvm.symm (hgood _ (List.mem_cons_of_mem _ List.mem_cons_self)) hini
  have hU' : vx_Zq Bundle.tN "UNASSIGNED_STACK" Bundle.steD A s' s'.heap := by rw [hhp]; exact vx_Zq.moved hW0.alike (hU.kept hS.2.1)
  have hN' : vx_Zq Bundle.tN "SUPPRESSED_SENTINEL" Bundle.listD A s' s'.heap := by rw [hhp]; exact vx_Zq.moved hW0.alike (hN.kept hS.2.1)
  have h : ∀ w ∈ Bundle.ownAtoms own ic cls names, w.before args s' = true := vx_own hat' (vx_isRefq hU'.1) (vx_isRefq hN'.1) hU'.2.word hN'.2.word
  have hown' : s'.vm.findClass own = some m.cls := by rw [hvm]; exact hown
  have hins : (Cond.instantiable cls 6).before args s' = true := h _ (by simp [Bundle.ownAtoms])
  obtain ⟨vm₁, cX, kX, hfX, hkX, -, -, X₁, st1⟩ := Y.newCold hexec (own := own) (C := cls) (index := ik) (n := 6) hown' hk' hins hini'
    (g := F0 m pc ls rest) rfl (by rw [hb]; exact d0) (Nat.le_refl _) (Nat.le_refl _)
  generalize hT1 : (T.setVm vm₁).pushCell { cls := cX, slots := kX.instanceTypes.map defaultValue, vm := .none } = T1 at X₁ st1
  have hcat : (Value.ref T.heap.size).category = 1 := rfl
  have hcellA : T1.heap[T.heap.size]? = some (freshCell cX kX) := by rw [← hT1]; exact State.heap_pushCell_size _ _
  have d3' : decode c.code (pc + 3) = .ok (.dup, 1) := by rw [hb]; exact d3
  have d4' : decode c.code (pc + 4) = .ok (.ldc_w is, 3) := by rw [hb]; exact d4
  have hstr' : vk_R own is text sa s' := vk_R.warm hW0 hstr
  obtain ⟨U, hsteps, hrun, hend, hW, hsame, ce, hce, hO⟩ := X₁.ctorThrowS hexec htr (own := own) (cls := cls) (names := names) (ic := ic) hown' hcls hnames h (fun x hx => nomatch hx) hfX hkX hcellA (by rw [hhp, hT]; exact Nat.le_refl _) (msg := .ref sa) rfl
    (g := { method := m, pc := pc + 7, locals := ls, stack := .ref sa :: .ref T.heap.size :: .ref T.heap.size :: rest, locked := none }) rfl hsize rfl rfl (rest := rest) rfl
    (by rw [hb]; exact d7) (by rw [hb]; exact d10) hout hRframes (by simp only [List.map_cons, List.sum_cons, hcat]; omega) hlocks
  obtain ⟨f1, f2⟩ := vx_frame hsame
  rw [hhp] at f1 f2
  have hWs : s.WarmedH U.vm := State.WarmedH.trans hW0 hW
  have hcl : s.vm.findClass cls = some ce.cls := by
    have h9 := hO.cls
    rw [hvm] at h9
    exact h9
  have hall : s.sameButNew ({ U with vm := s.vm } : State) locs mc ms := by
    subst hA
    obtain ⟨e1, e2⟩ := hsame
    rw [State.setFrames_setFrames] at e1
    have h2 : (T.setVm s.vm).sameButNew ({ U with vm := s.vm } : State) [] (0 + 1) (0 + 6) := ⟨e1, e2⟩
    have h3 := X.same.trans h2
    rw [List.append_nil] at h3
    exact h3.mono hc hs
  refine ⟨U, ?_, .threw T.heap.size, hrun, hend, Or.inr ⟨T.heap.size, rfl, cls, ce, locs, hx U hWs.alike f1 (fun q hq => f2 q hq (fun z hz => nomatch hz)), hce, hO.vm, hcl, hWs, hall, hf⟩⟩
  refine st1 _ ?_
  show Steps p.tables e below (T1.setTop { method := m, pc := pc + 3, locals := ls, stack := .ref T.heap.size :: rest, locked := none }) _
  jvm_step X₁.here [X₁.here.top, hexec, d3', Value.category]
  exact X₁.ldcStringW hexec (own := own) (text := text) (index := is) (a := sa) hown' hstr'.1 hstr'.2
    (g := { method := m, pc := pc + 4, locals := ls, stack := .ref T.heap.size :: .ref T.heap.size :: rest, locked := none }) rfl d4' _ hsteps
end Ends
section Bodies
variable {l : Launch}
theorem vx_ofW {y : MethodName} {ws ws' : List Cond} {rm : Room} {Pc : Array Value → State → Prop} {Qc : Array Value → State → Outcome → State → Prop} {XC : String → State → State → Prop} {mc ms : Nat} {free : Addr → Prop} {cc : ByteArray} {maxL : Nat} {ret : Option FieldType}
    (hy : plainName y.cls = true) (hw : ws = Cond.code y cc maxL ret :: ws')
    (body : ∀ p e s m args below meth c s₁, BodyLoose p l y (headSpec ws rm) cc maxL ret e s m args below meth c s₁ → c.maxLocals = maxL → (∀ x ∈ c.exceptionTable.toList, False) → Pc args s →
      W p l e (headSpec ws rm).room s m args below meth c s.heap [] 0 0 (vx_MQ below Qc XC args s mc ms free) (entryFrame m args maxL)) : vx_Met l y ws rm Pc Qc XC mc ms free := by
  refine MetFree.of_bodyS (code := cc) (maxLocals := maxL) (ret := ret) hy ?_ ?_
  · intro args s m h hn
    obtain ⟨meth, c, h1, h2, h3, h4, h5, h6, -, -⟩ := Cond.code_spec hn (atoms_spec (ws := ws) h _ (by rw [hw]; exact List.mem_cons_self))
    exact ⟨meth, c, h1, h2, h3, h4, h5, h6⟩
  · intro p e s m args below meth c s₁ B hml hP _
    have hh0 : s₁.heap = s.heap := by rw [B.state]; rfl
    have ht : ∀ x ∈ c.exceptionTable.toList, False := by
      obtain ⟨meth9, c9, h1, h2, -, -, -, -, h7, -⟩ := Cond.code_spec B.named (atoms_spec (ws := ws) B.pre _ (by rw [hw]; exact List.mem_cons_self))
      cases Option.some.inj (h1.symm.trans B.method)
      cases Option.some.inj (h2.symm.trans (Stand.of_body B).code)
      intro x hx
      rw [Array.isEmpty_iff.mp h7] at hx
      cases hx
    obtain ⟨t, a1, o, b1, b2, b3⟩ := body p e s m args below meth c s₁ B hml ht hP s₁ hh0 (Stand.of_body B)
    exact ⟨t, o, a1, b1, b2, b3⟩
/-- the table of a body with handlers -/
theorem vx_table {p : Program} {x y : MethodName} {S : Spec} {cc bytes : ByteArray} {maxL maxL' : Nat} {ret ret' : Option FieldType} {e : Env} {s s₁ : State} {m : MethodId} {args : Array Value} {below : List Frame} {meth : Method} {c : Code} {hh : List (Nat × Nat × Nat × Nat)}
    (B : BodyLoose p l y S cc maxL ret e s m args below meth c s₁) (h : (Cond.codeWith y bytes maxL' ret' hh).before args s = true) : c.exceptionTable.toList = tableOf hh := by
  obtain ⟨m9, meth9, c9, hn9, h1, h2, -, -, h6, -⟩ := Cond.codeWith_spec h
  cases Option.some.inj (hn9.symm.trans B.named)
  cases Option.some.inj (h1.symm.trans B.method)
  cases Option.some.inj (h2.symm.trans (Stand.of_body B).code)
  rw [← h6, table_eq]
end Bodies
end VXA
/-! ===== END ===== -/
/-! ===== BEGIN a static call of a method with an exception table ===== -/
section VXS
variable {p : Program} {l : Launch} {e : Env} {R : Room} {s : State} {m : MethodId} {args : Array Value} {below : List Frame} {meth : Method} {c : Code} {T : State} {H : Heap} {locs : List Loc} {cells slots : Nat}
abbrev vx_CSW (R : Room) (s : State) (args : Array Value) (own : String) (index : Nat) (y : MethodName) (bytes : ByteArray) (maxL : Nat) (ret : Option FieldType) (hh : List (Nat × Nat × Nat × Nat)) (ws : List Cond) (rm : Room) (mc ms n : Nat) : Prop :=
  (rm.cells = mc ∧ rm.slots = ms ∧ rm.frames + 1 ≤ R.frames ∧ 8 + (maxL + 11) + rm.locals ≤ R.locals ∧ (∀ w ∈ ws, ∀ (a' : Array Value) (U : State), s.WarmedH U.vm → w.before a' U = true) ∧ Cond.codeWith y bytes maxL ret hh ∈ ws) ∧
  (Cond.codeWith y bytes maxL ret hh).before args s = true ∧ (Cond.initialized y.cls).before args s = true ∧ (y.cls ≠ "java/lang/invoke/MethodHandle" ∧ y.cls ≠ "java/lang/invoke/VarHandle") ∧
  (∀ sig, parseMethodDescriptor y.desc = some sig → n = sig.parameters.length) ∧ (Cond.methodLink own index y).before args s = true ∧ (Cond.static y).before args s = true
theorem vx_cwSW {own : String} {index maxL mc ms : Nat} {y : MethodName} {bytes : ByteArray} {ret : Option FieldType} {hh : List (Nat × Nat × Nat × Nat)} {Ts ws ws' : List Cond} {rm : Room} (n : Nat) (ht : ∀ w ∈ Ts, w.before args s = true) (hT : GoodIn Ts (va_wsS own index y ws)) (hw : ws = Cond.codeWith y bytes maxL ret hh :: ws') (hrc : rm.cells = mc) (hrs : rm.slots = ms)
    (hd : y.cls ≠ "java/lang/invoke/MethodHandle" ∧ y.cls ≠ "java/lang/invoke/VarHandle" ∧ (parseMethodDescriptor y.desc).map (fun d => d.parameters.length) = some n) (hR : rm.frames + 1 ≤ R.frames ∧ 8 + (maxL + 11) + rm.locals ≤ R.locals) :
    vx_CSW R s args own index y bytes maxL ret hh ws rm mc ms n := by
  have ok : ∀ w ∈ va_wsS own index y ws, w.before args s = true := fun w h => ht w (hT w h).1
  have hG : GoodIn Ts ws := fun w h => hT w (by unfold va_wsS; exact List.mem_append_right _ h)
  have hc : Cond.codeWith y bytes maxL ret hh ∈ ws := by rw [hw]; exact List.mem_cons_self
  refine ⟨⟨hrc, hrs, hR.1, hR.2, pay_in ht hG, hc⟩, ht _ (hG _ hc).1, ok _ (by simp [va_wsS]), ⟨hd.1, hd.2.1⟩, fun sig h => ?_, ok _ (by simp [va_wsS]), ok _ (by simp [va_wsS])⟩
  have h2 := hd.2.2
  rw [h] at h2
  exact (Option.some.inj h2).symm
theorem vx_callSW (X : Stand p l e R s m args below meth c T locs cells slots) (hexec : p.tables.exec = Jvm.exec) {own : String} {index : Nat} {y : MethodName} {bytes : ByteArray} {maxL : Nat} {ret : Option FieldType} {hh : List (Nat × Nat × Nat × Nat)}
    (hown : s.vm.findClass own = some m.cls) (hlink : (Cond.methodLink own index y).before args s = true) (hstat : (Cond.static y).before args s = true) (hinit : (Cond.initialized y.cls).before args s = true)
    (hcode : (Cond.codeWith y bytes maxL ret hh).before args s = true) (hy : y.cls ≠ "java/lang/invoke/MethodHandle" ∧ y.cls ≠ "java/lang/invoke/VarHandle")
    {W9 : Nat} {Pre : Pt → Array Value → Prop} {Post : Pt → Array Value → Option Value → Pt → Prop} (hK : Back l R p e below s args y 3 W9 Pre Post)
    {g : JFrame} (hg : g.method = m) (hsize : g.locals.size = c.maxLocals) {argsL rest : List Value} (hlen : ∀ sig, parseMethodDescriptor y.desc = some sig → argsL.length = sig.parameters.length)
    (hstack : g.stack = argsL.reverse ++ rest) (hW : 2 * g.monitorRoom + (rest.map fun v => v.category).sum ≤ W9) (hdg : decode c.code g.pc = .ok (.invokestatic index, 3))
    (hpre : ∀ vm₁, s.WarmedH vm₁ → Pre ⟨T.setVm vm₁, locs, cells, slots⟩ argsL.toArray) :
    ∃ (v : Option Value) (vm₁ : Vm) (B : Pt), s.WarmedH vm₁ ∧ Stand p l e R s m args below meth c B.U B.locs B.cells B.slots ∧ Post ⟨T.setVm vm₁, locs, cells, slots⟩ argsL.toArray v B ∧
      ∀ target, Steps p.tables e below (B.U.setTop { g with pc := g.pc + 3, stack := v.toList ++ rest }) target → Steps p.tables e below (T.setTop g) target := by
  obtain ⟨mk, methM, cM, hnamed, hmethM, -, -, -, -, -, -, hsigM⟩ := Cond.codeWith_spec hcode
  have hstatic : methM.isStatic = true := Cond.static_spec hnamed hmethM hstat
  obtain ⟨kP, hkP, -⟩ := className_of_methodNamed hnamed
  have hinitP : kP.init = .initialized := Cond.initialized_spec (findClass_of_methodNamed hnamed) hkP hinit
  obtain ⟨vm₁, X₁, hstep₁⟩ := X.invokestatic hexec hown hlink hnamed hmethM hstatic hkP hinitP hy (g := g) hg (argsL := argsL) (rest := rest) (hlen _ hsigM) hstack hdg
  obtain ⟨v, B, X', hpost, hsteps⟩ := hK m meth c ⟨T.setVm vm₁, locs, cells, slots⟩ { g with stack := rest } (.invokestatic index) mk argsL.toArray X₁ hg hsize hdg hW (X₁.named hnamed) (hpre vm₁ X₁.warmed)
  exact ⟨v, vm₁, B, X₁.warmed, X', hpost, fun target h => hstep₁ _ fun acts => by rw [doInvoke_state]; exact hsteps.trans h⟩
theorem vx_runSW {y : MethodName} {bytes cc : ByteArray} {maxL nL mc ms n index : Nat} {ret : Option FieldType} {hh : List (Nat × Nat × Nat × Nat)} {ws : List Cond} {rm : Room} {Pc : Array Value → State → Prop} {Qc : Array Value → State → Outcome → State → Prop} {free : Addr → Prop} {Ts : List Cond} {own : String} {As rest : List Value} {g : JFrame}
    (S : CallFix p m c cc nL s args Ts own) (hM : Met l y ws rm Pc Qc mc ms free) (cw : vx_CSW R s args own index y bytes maxL ret hh ws rm mc ms n) (hp : PreS s H Pc As)
    (hg : g.method = m) (hn : As.length = n) (hsize : g.locals.size = nL) (hstack : g.stack = As.reverse ++ rest) (hW : 2 * g.monitorRoom + (rest.map fun v => v.category).sum ≤ 8) (hdg : decode cc g.pc = .ok (.invokestatic index, 3)) (hf : cells + mc ≤ R.cells ∧ slots + ms ≤ R.slots) :
    va_Run p l e R s m args below meth c H locs cells slots mc ms g rest (Qc As.toArray) (free) := by
  obtain ⟨⟨hrc, hrs, hfr, hlo, hws, hcw⟩, hcode, hini, hy, hlen, hl, hstt⟩ := cw
  have hK : Back l R p e below s args y 3 8 (PreOf R mc ms Pc) (PostOf Qc mc ms free) := va_backW (hh := hh) (bytes := bytes) (maxL := maxL) (ret := ret) hM hp.1 hrc hrs hfr hlo hws hcw (fun a' U hW => word_at hW (Or.inl (by first | rfl | simp [Cond.onTables, Cond.keeps, Cond.steady])) hini)
  obtain ⟨hx, hb, hml, ho, -⟩ := S
  intro T hT X
  obtain ⟨v, vm₁, ⟨U', l2, c2, s2⟩, hW₁, X', ⟨g', mk, t, L, e1, e2, hq, h1, hL, h2, h3⟩, st⟩ := vx_callSW X hx (hh := hh) (bytes := bytes) (maxL := maxL) (ret := ret) ho hl hstt hini hcode hy hK hg (hsize.trans hml.symm) (argsL := As) (rest := rest) (fun sig h => hn.trans (hlen sig h)) hstack hW (by rw [hb]; exact hdg)
    (fun vm₁ hW₁ => ⟨hf.1, hf.2, hp.2 (T.setVm vm₁) hT hW₁⟩)
  dsimp only [Pt.U, Pt.locs, Pt.cells, Pt.slots] at X' e1 e2 h1 h2 h3 st
  subst h1; subst h2; subst h3
  exact ⟨v, (T.setVm vm₁).calling g' mk As.toArray, t, U', L, hT, X', hL, e1, e2, hq, st⟩
/-- not caught here, past rows that name other classes: it goes on to the caller -/
theorem vx_outP {p : Program} {l : Launch} {e : Env} {R : Room} {s : State} {m : MethodId} {args : Array Value} {below : List Frame} {meth : Method} {c : Code} {H : Heap} {locs : List Loc} {cells slots : Nat} {free : Addr → Prop} {ls : Array Slot} {rest : List Value} {Qc : Array Value → State → Outcome → State → Prop} {XC : String → State → State → Prop}
    {pc : Nat} {own E : String} {ce : Cell} {q : Addr} {mc ms : Nat} (hown : s.vm.findClass own = some m.cls) (hlocks : meth.locks = false)
    (hpass : ∀ z ∈ c.exceptionTable.toList, covers z pc = false ∨ (z.catchType ≠ 0 ∧ ∃ nm : String, (Cond.classLink own z.catchType nm).before args s = true ∧ va_Nc E nm s)) (hcell : H[q]? = some ce) (hv : ce.vm = .none) (hcl : s.vm.findClass E = some ce.cls)
    (hx : ∀ t : State, t.heap = H → s.vm.Alike t.vm → XC E s t) (hf : ∀ z ∈ locs, free z.base) (hc : cells ≤ mc) (hs : slots ≤ ms) :
    vx_W p l e R s m args below meth c H locs cells slots (vx_MQ below Qc XC args s mc ms free) (F0 m pc ls rest) q := by
  intro T hT X
  have hpl : e.platform.magicAccessors = ({} : Platform).magicAccessors := by rw [X.admits.platform]
  obtain ⟨vm', hW', X', st⟩ := X.outThrough hlocks q (g := F0 m pc ls rest) rfl rfl rfl (cell := ce) (by rw [hT]; exact hcell) (by rw [hv]; rfl)
    (by obtain ⟨k9, h9, -⟩ := Vm.findClass_spec hcl; exact ⟨k9, h9⟩) (fun z hz => by
      rcases hpass z hz with h | ⟨hz0, nm, hl1, hn1⟩
      · exact Or.inl h
      · obtain ⟨c6, hc6, hcl6⟩ := Cond.classLink_spec hown hl1 e.platform hpl
        obtain ⟨a8, b8, h1, h2, h3⟩ := hn1
        cases Option.some.inj (h1.symm.trans hcl)
        cases Option.some.inj (h2.symm.trans hc6)
        exact Or.inr ⟨hz0, _, hcl6, h3⟩)
  obtain ⟨g₀, hfr⟩ := X'.frames_eq
  have hcell9 : ((T.setVm vm').setFrames (.throwing q :: below)).heap[q]? = some ce := by
    show T.heap[q]? = some ce
    rw [hT]; exact hcell
  have hend : Ended ((T.setVm vm').setFrames (.throwing q :: below)) below (.threw q) := State.frames_setFrames _ (State.cur_lt_of_frames hfr)
  refine ⟨(T.setVm vm').setFrames (.throwing q :: below), ?_, .threw q, X'.here.running, hend, Or.inr ⟨q, rfl, E, ce, locs, hx _ hT (X'.ends _).1.alike, hcell9, hv, hcl, (X'.ends _).1, (X'.ends _).2.mono hc hs, hf⟩⟩
  rw [X.pushThrowing_eq]
  exact st
/-- a thing of a world lies in the heap -/
theorem vx_lt {D : va_G} {cl : List vw_C} {ws : va_W} {H1 : Heap} (h : va_P D cl ws H1) {k : Nat} {q : Nat × va_E} (hk : ws[k]? = some q) : q.1 < H1.size := (h k q hk).lt
end VXS
/-! ===== END ===== -/
/-! ===== BEGIN methods with a table of their own: called by a name, returning or throwing ===== -/
section VXH
/-! vx_backW, vx_callVX, vx_callSX, vx_callVW, vx_runVW, vx_runVX, vx_runSX, vx_ofWH follow the same proofs as their sisters above (Free/Laws.lean, Shelf42/LK1.lean); vx_outP calls Shelf42/NT130.lean (outThrough). -/
section
variable {l : Launch} {R : Room} {p : Program} {e : Env} {below : List Frame} {s : State} {sargs : Array Value} {y : MethodName} {len W9 : Nat}
theorem vx_backW {ws : List Cond} {rm : Room} {Pc : Array Value → State → Prop} {Qc : Array Value → State → Outcome → State → Prop} {XC : String → State → State → Prop} {mc ms : Nat} {free : Addr → Prop} {bytes : ByteArray} {maxL : Nat} {ret : Option FieldType} {hh : List (Nat × Nat × Nat × Nat)}
    (hM : vx_Met l y ws rm Pc Qc XC mc ms free) (hblind : FrameBlind Pc) (hrc : rm.cells = mc) (hrs : rm.slots = ms)
    (hframes : rm.frames + 1 ≤ R.frames) (hlocals : W9 + (maxL + 11) + rm.locals ≤ R.locals)
    (hws : ∀ w ∈ ws, ∀ a' U, s.WarmedH U.vm → w.before a' U = true) (hcode : Cond.codeWith y bytes maxL ret hh ∈ ws) (hinit : ∀ a' U, s.WarmedH U.vm → (Cond.initialized y.cls).before a' U = true) :
    vx_Back l R p e below s sargs y len W9 (PreOf R mc ms Pc) (PostOf Qc mc ms free) (vx_Post XC mc ms free) := by
  intro m meth c A g ig mk a X hg hsize hdg hW hn hp
  have h1 : (headSpec ws rm).pre.before a A.U = true := atoms_intro fun w hw => hws w hw _ _ X.warmed
  have h2 : (Cond.codeWith y bytes maxL ret hh).before a A.U = true := hws _ hcode _ _ X.warmed
  have h3 : (Cond.initialized y.cls).before a A.U = true := hinit _ _ X.warmed
  have h4 : A.cells + (headSpec ws rm).room.cells ≤ R.cells := by rw [show (headSpec ws rm).room.cells = mc from hrc]; exact hp.1
  have h5 : A.slots + (headSpec ws rm).room.slots ≤ R.slots := by rw [show (headSpec ws rm).room.slots = ms from hrs]; exact hp.2.1
  have hPc : Pc a (A.U.calling g mk a) := hblind _ _ _ _ hp.2.2
  obtain ⟨U, Ls, c0, s0⟩ := A
  dsimp only [Pt.U, Pt.locs, Pt.cells, Pt.slots] at h1 h2 h3 h4 h5 X hn hPc ⊢
  obtain ⟨m9, methY, cY, hn9, hmY, hcY, -, hlY, -⟩ := Cond.codeWith_spec h2
  cases Option.some.inj (hn9.symm.trans hn)
  obtain ⟨kY, hkY, -⟩ := className_of_methodNamed hn
  have hinitY : kY.init = .initialized := Cond.initialized_spec (findClass_of_methodNamed hn) hkY h3
  have h : At U g.method c below := by rw [hg]; exact X.here
  have hlocals9 : W9 + (maxL + 11) + (headSpec ws rm).room.locals ≤ R.locals := hlocals
  have happ : (headSpec ws rm).appliesLoose y e.platform (U.calling g mk a) = true :=
    Spec.appliesLoose_calling (g := g) h hdg hn hkY hinitY
      (X.room_calling (g := g) (R' := (headSpec ws rm).room) hsize hmY hcY hframes (by rw [hlY]; omega) h4 h5) h1
  obtain ⟨mid, hmid⟩ := h.above
  have hfr : (U.setTop g).frames = (.java g :: mid) ++ below := by rw [State.frames_setTop' g h.top, hmid]; rfl
  obtain ⟨o, s₂, hsteps, -, hend, hq⟩ := Steps.callFree hM p X.admits X.cas X.clock (acts := []) hfr happ hPc trivial
  have hq' : vx_Q Qc XC mc ms free a (U.calling g mk a) o s₂ := hq
  rw [State.frames_setTop' g h.top] at hend
  obtain ⟨g₀, hg0⟩ := Option.isSome_iff_exists.mp h.top
  obtain ⟨r, hr⟩ := State.topJava?_eq_some.mp hg0
  have hr' : (({ U with heap := s₂.heap, slotsUsed := s₂.slotsUsed } : State).setVm s₂.vm).frames = .java g₀ :: r := hr
  rcases hq' with ⟨hqc, L, hfe, hL⟩ | ⟨q, rfl, E, ce, L, hx, hce, hcv, hcl, hW₂, hsm, hL⟩
  · obtain ⟨⟨v, rfl⟩, hW₂, e2, q2, q3, q4, q5, q6⟩ := id hfe
    have e3 : s₂ = ({ (U.calling g mk a).setFrames s₂.frames with heap := s₂.heap, slotsUsed := s₂.slotsUsed } : State).setVm s₂.vm := by
      have : s₂ = ({ s₂ with vm := (U.calling g mk a).vm } : State).setVm s₂.vm := rfl
      rw [e2] at this
      exact this
    obtain ⟨c₂, i₂, len₂, hc₂, hd₂, hf₂⟩ := hend
    have hW' : U.WarmedH s₂.vm := hW₂
    have hcc : c₂ = c := by
      have h1 : s₂.code? g.method = U.code? g.method := by
        rw [State.code?_eq, State.code?_eq, hW'.alike.method?]
      exact Option.some.inj (hc₂.symm.trans (h1.trans h.code))
    subst hcc
    have hlen : len₂ = len := by rw [hdg] at hd₂; cases hd₂; rfl
    subst hlen
    have hs₂ : s₂ = (({ U with heap := s₂.heap, slotsUsed := s₂.slotsUsed } : State).setVm s₂.vm).setTop { g with pc := g.pc + len₂, stack := v.toList ++ g.stack } := by
      refine e3.trans ?_
      rw [hf₂, State.calling_eq h.top, State.setFrames_setFrames, State.setTop_of_frames _ hr', hr]
      rfl
    have hsame : U.sameButNew ({ U with heap := s₂.heap, slotsUsed := s₂.slotsUsed } : State) L mc ms := by
      refine ⟨?_, q2, q3, q4, q5, q6⟩
      obtain ⟨t, ht, -⟩ := State.frames_cons hr
      show ({ U with heap := s₂.heap, slotsUsed := s₂.slotsUsed } : State) = { U.setFrames U.frames with heap := s₂.heap, slotsUsed := s₂.slotsUsed }
      rw [State.setFrames_self ht]
    subst hg
    refine Or.inl ⟨v, ⟨(({ U with heap := s₂.heap, slotsUsed := s₂.slotsUsed } : State).setVm s₂.vm), Ls ++ L, c0 + mc, s0 + ms⟩,
      ⟨X.admits, X.cas, X.clock, X.frames, X.room, X.hears, X.method, X.code, (X.here.setHeapUsed s₂.heap s₂.slotsUsed).setVm hW'.alike, X.tail, State.WarmedH.trans X.warmed hW', X.limits, X.bytes, X.same.trans (hsame.setVm s.vm)⟩,
      ⟨g, mk, s₂, L, rfl, rfl, hqc, rfl, hL, rfl, rfl⟩, ?_⟩
    show Steps p.tables e below _ ((({ U with heap := s₂.heap, slotsUsed := s₂.slotsUsed } : State).setVm s₂.vm).setTop { g with pc := g.pc + len₂, stack := v.toList ++ g.stack })
    rw [← hs₂]
    exact hsteps
  · obtain ⟨e2, q2, q3, q4, q5, q6⟩ := id hsm
    have e3 : s₂ = ({ (U.calling g mk a).setFrames s₂.frames with heap := s₂.heap, slotsUsed := s₂.slotsUsed } : State).setVm s₂.vm := by
      have : s₂ = ({ s₂ with vm := (U.calling g mk a).vm } : State).setVm s₂.vm := rfl
      rw [e2] at this
      exact this
    have hf₂ : s₂.frames = .throwing q :: .java g :: U.frames.tail := hend
    have hW' : U.WarmedH s₂.vm := hW₂
    have hs₂ : s₂ = ((({ U with heap := s₂.heap, slotsUsed := s₂.slotsUsed } : State).setVm s₂.vm).setTop g).pushFrame (.throwing q) := by
      refine e3.trans ?_
      rw [hf₂, State.calling_eq h.top, State.setFrames_setFrames, State.pushFrame, State.frames_setTop _ hr', State.setTop_of_frames _ hr', State.setFrames_setFrames, hr]
      rfl
    have hsame : U.sameButNew ({ U with heap := s₂.heap, slotsUsed := s₂.slotsUsed } : State) L mc ms := by
      refine ⟨?_, q2, q3, q4, q5, q6⟩
      obtain ⟨t, ht, -⟩ := State.frames_cons hr
      show ({ U with heap := s₂.heap, slotsUsed := s₂.slotsUsed } : State) = { U.setFrames U.frames with heap := s₂.heap, slotsUsed := s₂.slotsUsed }
      rw [State.setFrames_self ht]
    subst hg
    refine Or.inr ⟨q, ⟨(({ U with heap := s₂.heap, slotsUsed := s₂.slotsUsed } : State).setVm s₂.vm), Ls ++ L, c0 + mc, s0 + ms⟩,
      ⟨X.admits, X.cas, X.clock, X.frames, X.room, X.hears, X.method, X.code, (X.here.setHeapUsed s₂.heap s₂.slotsUsed).setVm hW'.alike, X.tail, State.WarmedH.trans X.warmed hW', X.limits, X.bytes, X.same.trans (hsame.setVm s.vm)⟩,
      ⟨g, mk, s₂, L, E, ce, rfl, rfl, hx, hce, hcv, hcl, rfl, hL, rfl, rfl⟩, ?_⟩
    show Steps p.tables e below _ (((({ U with heap := s₂.heap, slotsUsed := s₂.slotsUsed } : State).setVm s₂.vm).setTop g).pushFrame (.throwing q))
    rw [← hs₂]
    exact hsteps
end
variable {p : Program} {l : Launch} {e : Env} {R : Room} {s : State} {m : MethodId} {args : Array Value} {below : List Frame} {meth : Method} {c : Code} {T : State} {H : Heap} {locs : List Loc} {cells slots : Nat}
theorem vx_callVX (X : Stand p l e R s m args below meth c T locs cells slots) (hexec : p.tables.exec = Jvm.exec) {own C : String} {index : Nat} {y : MethodName} {bytes : ByteArray} {maxL : Nat} {ret : Option FieldType} {hh : List (Nat × Nat × Nat × Nat)}
    (hown : s.vm.findClass own = some m.cls) (hlink : (Cond.methodLink own index y).before args s = true) (hinst : (Cond.instanceMethod y).before args s = true) (hsel : (Cond.selects C y y).before args s = true)
    (hcode : (Cond.codeWith y bytes maxL ret hh).before args s = true) (hy : y.cls ≠ "java/lang/invoke/MethodHandle" ∧ y.cls ≠ "java/lang/invoke/VarHandle")
    {W9 : Nat} {Pre : Pt → Array Value → Prop} {Post : Pt → Array Value → Option Value → Pt → Prop} {PostX : Pt → Array Value → Addr → Pt → Prop} (hK : vx_Back l R p e below s args y 3 W9 Pre Post PostX)
    {b : Addr} {cellB : Cell} (hcell : T.heap[b]? = some cellB) (hobj : cellB.vm.isStatics = false) (hcls : s.vm.findClass C = some cellB.cls)
    {g : JFrame} (hg : g.method = m) (hsize : g.locals.size = c.maxLocals) {argsL rest : List Value} (hlen : ∀ sig, parseMethodDescriptor y.desc = some sig → argsL.length = sig.parameters.length)
    (hstack : g.stack = argsL.reverse ++ .ref b :: rest) (hW : 2 * g.monitorRoom + (rest.map fun v => v.category).sum ≤ W9) (hdg : decode c.code g.pc = .ok (.invokevirtual index, 3))
    (hpre : ∀ vm₁, s.WarmedH vm₁ → Pre ⟨T.setVm vm₁, locs, cells, slots⟩ (Value.ref b :: argsL).toArray) :
    (∃ (v : Option Value) (vm₁ : Vm) (B : Pt), s.WarmedH vm₁ ∧ Stand p l e R s m args below meth c B.U B.locs B.cells B.slots ∧ Post ⟨T.setVm vm₁, locs, cells, slots⟩ (Value.ref b :: argsL).toArray v B ∧
      ∀ target, Steps p.tables e below (B.U.setTop { g with pc := g.pc + 3, stack := v.toList ++ rest }) target → Steps p.tables e below (T.setTop g) target) ∨
    (∃ (q : Addr) (vm₁ : Vm) (B : Pt), s.WarmedH vm₁ ∧ Stand p l e R s m args below meth c B.U B.locs B.cells B.slots ∧ PostX ⟨T.setVm vm₁, locs, cells, slots⟩ (Value.ref b :: argsL).toArray q B ∧
      Steps p.tables e below (T.setTop g) ((B.U.setTop { g with stack := rest }).pushFrame (.throwing q))) := by
  obtain ⟨mk, methM, hnamed, hmethM, hstM, habM⟩ := Cond.instanceMethod_spec hinst
  obtain ⟨m8, methM', cM, hn8, hmethM', -, -, -, -, -, -, hsigM⟩ := Cond.codeWith_spec hcode
  cases Option.some.inj (hn8.symm.trans hnamed)
  cases hmethM.symm.trans hmethM'
  obtain ⟨c2, r2, m2, q1, q2, q3, q4, kP, hkP, hkPi⟩ := Cond.selects_spec hsel
  cases hcls.symm.trans q1
  cases (State.methodFound?_of_named hnamed hy).symm.trans q2
  cases hnamed.symm.trans q3
  have hselP : selectMethod e.platform s.vm cellB.cls mk = .method mk := by rw [Launch.admits_selectMethod X.admits]; exact q4
  obtain ⟨vm₁, X₁, hstep₁⟩ := X.invokevirtual hexec hown hlink hnamed hmethM hstM hkP hkPi hy (a := b) (cell := cellB) hcell
    (fun z h => by rw [h] at hobj; cases hobj) hselP hmethM habM hkP hkPi (g := g) hg (argsL := argsL) (rest := rest) (hlen _ hsigM) hstack hdg
  rcases hK m meth c ⟨T.setVm vm₁, locs, cells, slots⟩ { g with stack := rest } (.invokevirtual index) mk (Value.ref b :: argsL).toArray X₁ hg hsize hdg hW (X₁.named hnamed) (hpre vm₁ X₁.warmed) with ⟨v, B, X', hpost, hsteps⟩ | ⟨q, B, X', hpost, hsteps⟩
  · exact Or.inl ⟨v, vm₁, B, X₁.warmed, X', hpost, fun target h => hstep₁ _ fun acts => by rw [doInvoke_state]; exact hsteps.trans h⟩
  · exact Or.inr ⟨q, vm₁, B, X₁.warmed, X', hpost, hstep₁ _ fun acts => by rw [doInvoke_state]; exact hsteps⟩
theorem vx_callSX (X : Stand p l e R s m args below meth c T locs cells slots) (hexec : p.tables.exec = Jvm.exec) {own : String} {index : Nat} {y : MethodName} {bytes : ByteArray} {maxL : Nat} {ret : Option FieldType} {hh : List (Nat × Nat × Nat × Nat)}
    (hown : s.vm.findClass own = some m.cls) (hlink : (Cond.methodLink own index y).before args s = true) (hstat : (Cond.static y).before args s = true) (hinit : (Cond.initialized y.cls).before args s = true)
    (hcode : (Cond.codeWith y bytes maxL ret hh).before args s = true) (hy : y.cls ≠ "java/lang/invoke/MethodHandle" ∧ y.cls ≠ "java/lang/invoke/VarHandle")
    {W9 : Nat} {Pre : Pt → Array Value → Prop} {Post : Pt → Array Value → Option Value → Pt → Prop} {PostX : Pt → Array Value → Addr → Pt → Prop} (hK : vx_Back l R p e below s args y 3 W9 Pre Post PostX)
    {g : JFrame} (hg : g.method = m) (hsize : g.locals.size = c.maxLocals) {argsL rest : List Value} (hlen : ∀ sig, parseMethodDescriptor y.desc = some sig → argsL.length = sig.parameters.length)
    (hstack : g.stack = argsL.reverse ++ rest) (hW : 2 * g.monitorRoom + (rest.map fun v => v.category).sum ≤ W9) (hdg : decode c.code g.pc = .ok (.invokestatic index, 3))
    (hpre : ∀ vm₁, s.WarmedH vm₁ → Pre ⟨T.setVm vm₁, locs, cells, slots⟩ argsL.toArray) :
    (∃ (v : Option Value) (vm₁ : Vm) (B : Pt), s.WarmedH vm₁ ∧ Stand p l e R s m args below meth c B.U B.locs B.cells B.slots ∧ Post ⟨T.setVm vm₁, locs, cells, slots⟩ argsL.toArray v B ∧
      ∀ target, Steps p.tables e below (B.U.setTop { g with pc := g.pc + 3, stack := v.toList ++ rest }) target → Steps p.tables e below (T.setTop g) target) ∨
    (∃ (q : Addr) (vm₁ : Vm) (B : Pt), s.WarmedH vm₁ ∧ Stand p l e R s m args below meth c B.U B.locs B.cells B.slots ∧ PostX ⟨T.setVm vm₁, locs, cells, slots⟩ argsL.toArray q B ∧
      Steps p.tables e below (T.setTop g) ((B.U.setTop { g with stack := rest }).pushFrame (.throwing q))) := by
  obtain ⟨mk, methM, cM, hnamed, hmethM, -, -, -, -, -, -, hsigM⟩ := Cond.codeWith_spec hcode
  have hstatic : methM.isStatic = true := Cond.static_spec hnamed hmethM hstat
  obtain ⟨kP, hkP, -⟩ := className_of_methodNamed hnamed
  have hinitP : kP.init = .initialized := Cond.initialized_spec (findClass_of_methodNamed hnamed) hkP hinit
  obtain ⟨vm₁, X₁, hstep₁⟩ := X.invokestatic hexec hown hlink hnamed hmethM hstatic hkP hinitP hy (g := g) hg (argsL := argsL) (rest := rest) (hlen _ hsigM) hstack hdg
  rcases hK m meth c ⟨T.setVm vm₁, locs, cells, slots⟩ { g with stack := rest } (.invokestatic index) mk argsL.toArray X₁ hg hsize hdg hW (X₁.named hnamed) (hpre vm₁ X₁.warmed) with ⟨v, B, X', hpost, hsteps⟩ | ⟨q, B, X', hpost, hsteps⟩
  · exact Or.inl ⟨v, vm₁, B, X₁.warmed, X', hpost, fun target h => hstep₁ _ fun acts => by rw [doInvoke_state]; exact hsteps.trans h⟩
  · exact Or.inr ⟨q, vm₁, B, X₁.warmed, X', hpost, hstep₁ _ fun acts => by rw [doInvoke_state]; exact hsteps⟩
theorem vx_callVW (X : Stand p l e R s m args below meth c T locs cells slots) (hexec : p.tables.exec = Jvm.exec) {own C : String} {index : Nat} {y : MethodName} {bytes : ByteArray} {maxL : Nat} {ret : Option FieldType} {hh : List (Nat × Nat × Nat × Nat)}
    (hown : s.vm.findClass own = some m.cls) (hlink : (Cond.methodLink own index y).before args s = true) (hinst : (Cond.instanceMethod y).before args s = true) (hsel : (Cond.selects C y y).before args s = true)
    (hcode : (Cond.codeWith y bytes maxL ret hh).before args s = true) (hy : y.cls ≠ "java/lang/invoke/MethodHandle" ∧ y.cls ≠ "java/lang/invoke/VarHandle")
    {W9 : Nat} {Pre : Pt → Array Value → Prop} {Post : Pt → Array Value → Option Value → Pt → Prop} (hK : Back l R p e below s args y 3 W9 Pre Post)
    {b : Addr} {cellB : Cell} (hcell : T.heap[b]? = some cellB) (hobj : cellB.vm.isStatics = false) (hcls : s.vm.findClass C = some cellB.cls)
    {g : JFrame} (hg : g.method = m) (hsize : g.locals.size = c.maxLocals) {argsL rest : List Value} (hlen : ∀ sig, parseMethodDescriptor y.desc = some sig → argsL.length = sig.parameters.length)
    (hstack : g.stack = argsL.reverse ++ .ref b :: rest) (hW : 2 * g.monitorRoom + (rest.map fun v => v.category).sum ≤ W9) (hdg : decode c.code g.pc = .ok (.invokevirtual index, 3))
    (hpre : ∀ vm₁, s.WarmedH vm₁ → Pre ⟨T.setVm vm₁, locs, cells, slots⟩ (Value.ref b :: argsL).toArray) :
    ∃ (v : Option Value) (vm₁ : Vm) (B : Pt), s.WarmedH vm₁ ∧ Stand p l e R s m args below meth c B.U B.locs B.cells B.slots ∧ Post ⟨T.setVm vm₁, locs, cells, slots⟩ (Value.ref b :: argsL).toArray v B ∧
      ∀ target, Steps p.tables e below (B.U.setTop { g with pc := g.pc + 3, stack := v.toList ++ rest }) target → Steps p.tables e below (T.setTop g) target := by
  obtain ⟨mk, methM, hnamed, hmethM, hstM, habM⟩ := Cond.instanceMethod_spec hinst
  obtain ⟨m8, methM', cM, hn8, hmethM', -, -, -, -, -, -, hsigM⟩ := Cond.codeWith_spec hcode
  cases Option.some.inj (hn8.symm.trans hnamed)
  cases hmethM.symm.trans hmethM'
  obtain ⟨c2, r2, m2, q1, q2, q3, q4, kP, hkP, hkPi⟩ := Cond.selects_spec hsel
  cases hcls.symm.trans q1
  cases (State.methodFound?_of_named hnamed hy).symm.trans q2
  cases hnamed.symm.trans q3
  have hselP : selectMethod e.platform s.vm cellB.cls mk = .method mk := by rw [Launch.admits_selectMethod X.admits]; exact q4
  obtain ⟨vm₁, X₁, hstep₁⟩ := X.invokevirtual hexec hown hlink hnamed hmethM hstM hkP hkPi hy (a := b) (cell := cellB) hcell
    (fun z h => by rw [h] at hobj; cases hobj) hselP hmethM habM hkP hkPi (g := g) hg (argsL := argsL) (rest := rest) (hlen _ hsigM) hstack hdg
  obtain ⟨v, B, X', hpost, hsteps⟩ := hK m meth c ⟨T.setVm vm₁, locs, cells, slots⟩ { g with stack := rest } (.invokevirtual index) mk (Value.ref b :: argsL).toArray X₁ hg hsize hdg hW (X₁.named hnamed) (hpre vm₁ X₁.warmed)
  exact ⟨v, vm₁, B, X₁.warmed, X', hpost, fun target h => hstep₁ _ fun acts => by rw [doInvoke_state]; exact hsteps.trans h⟩
abbrev vx_CVW (R : Room) (s : State) (args : Array Value) (own C : String) (index : Nat) (y : MethodName) (bytes : ByteArray) (maxL : Nat) (ret : Option FieldType) (hh : List (Nat × Nat × Nat × Nat)) (ws : List Cond) (rm : Room) (mc ms n : Nat) : Prop :=
  (rm.cells = mc ∧ rm.slots = ms ∧ rm.frames + 1 ≤ R.frames ∧ 8 + (maxL + 11) + rm.locals ≤ R.locals ∧ (∀ w ∈ ws, ∀ (a' : Array Value) (U : State), s.WarmedH U.vm → w.before a' U = true) ∧ Cond.codeWith y bytes maxL ret hh ∈ ws) ∧
  (Cond.codeWith y bytes maxL ret hh).before args s = true ∧ (Cond.initialized y.cls).before args s = true ∧ (y.cls ≠ "java/lang/invoke/MethodHandle" ∧ y.cls ≠ "java/lang/invoke/VarHandle") ∧
  (∀ sig, parseMethodDescriptor y.desc = some sig → n = sig.parameters.length) ∧ (Cond.methodLink own index y).before args s = true ∧ (Cond.instanceMethod y).before args s = true ∧ (Cond.selects C y y).before args s = true
theorem vx_cwVW {own C : String} {index maxL mc ms : Nat} {y : MethodName} {bytes : ByteArray} {ret : Option FieldType} {hh : List (Nat × Nat × Nat × Nat)} {Ts ws ws' : List Cond} {rm : Room} (n : Nat) (ht : ∀ w ∈ Ts, w.before args s = true) (hT : GoodIn Ts (wsV own index C y ws)) (hw : ws = Cond.codeWith y bytes maxL ret hh :: ws') (hrc : rm.cells = mc) (hrs : rm.slots = ms)
    (hd : y.cls = C ∧ y.cls ≠ "java/lang/invoke/MethodHandle" ∧ y.cls ≠ "java/lang/invoke/VarHandle" ∧ (parseMethodDescriptor y.desc).map (fun d => d.parameters.length) = some n) (hR : rm.frames + 1 ≤ R.frames ∧ 8 + (maxL + 11) + rm.locals ≤ R.locals) :
    vx_CVW R s args own C index y bytes maxL ret hh ws rm mc ms n := by
  obtain ⟨hC, hd⟩ := hd
  subst hC
  have ok : ∀ w ∈ wsV own index y.cls y ws, w.before args s = true := fun w h => ht w (hT w h).1
  have hG : GoodIn Ts ws := fun w h => hT w (by unfold wsV; exact List.mem_append_right _ h)
  have hc : Cond.codeWith y bytes maxL ret hh ∈ ws := by rw [hw]; exact List.mem_cons_self
  refine ⟨⟨hrc, hrs, hR.1, hR.2, pay_in ht hG, hc⟩, ht _ (hG _ hc).1, ok _ (by simp [wsV]), ⟨hd.1, hd.2.1⟩, fun sig h => ?_, ok _ (by simp [wsV]), ok _ (by simp [wsV]), ok _ (by simp [wsV])⟩
  have h2 := hd.2.2
  rw [h] at h2
  exact (Option.some.inj h2).symm
theorem vx_runVW {y : MethodName} {bytes cc : ByteArray} {maxL nL mc ms n index : Nat} {ret : Option FieldType} {hh : List (Nat × Nat × Nat × Nat)} {ws : List Cond} {rm : Room} {Pc : Array Value → State → Prop} {Qc : Array Value → State → Outcome → State → Prop} {free : Addr → Prop} {Ts : List Cond} {own C : String} {b : Addr} {As rest : List Value} {g : JFrame}
    (S : CallFix p m c cc nL s args Ts own) (hM : Met l y ws rm Pc Qc mc ms free) (cw : vx_CVW R s args own C index y bytes maxL ret hh ws rm mc ms n) (hp : PreV s H C b Pc As)
    (hg : g.method = m) (hn : As.length = n) (hsize : g.locals.size = nL) (hstack : g.stack = As.reverse ++ .ref b :: rest) (hW : 2 * g.monitorRoom + (rest.map fun v => v.category).sum ≤ 8) (hdg : decode cc g.pc = .ok (.invokevirtual index, 3)) (hf : cells + mc ≤ R.cells ∧ slots + ms ≤ R.slots) :
    va_Run p l e R s m args below meth c H locs cells slots mc ms g rest (Qc (Value.ref b :: As).toArray) free := by
  obtain ⟨⟨hrc, hrs, hfr, hlo, hws, hcw⟩, hcode, hini, hy, hlen, hl, hin, hse⟩ := cw
  have hK : Back l R p e below s args y 3 8 (PreOf R mc ms Pc) (PostOf Qc mc ms free) := va_backW (hh := hh) (bytes := bytes) (maxL := maxL) (ret := ret) hM hp.1 hrc hrs hfr hlo hws hcw (fun a' U hW => word_at hW (Or.inl (by first | rfl | simp [Cond.onTables, Cond.keeps, Cond.steady])) hini)
  obtain ⟨hx, hb, hml, ho, -⟩ := S
  obtain ⟨-, ⟨cellB, hcB, hoB, hclB⟩, hPc⟩ := hp
  intro T hT X
  obtain ⟨v, vm₁, ⟨U', l2, c2, s2⟩, hW₁, X', ⟨g', mk, t, L, e1, e2, hq, h1, hL, h2, h3⟩, st⟩ := vx_callVW X hx (C := C) (hh := hh) (bytes := bytes) (maxL := maxL) (ret := ret) ho hl hin hse hcode hy hK (by rw [hT]; exact hcB) hoB hclB hg (hsize.trans hml.symm) (argsL := As) (rest := rest) (fun sig h => hn.trans (hlen sig h)) hstack hW (by rw [hb]; exact hdg)
    (fun vm₁ hW₁ => ⟨hf.1, hf.2, hPc (T.setVm vm₁) hT hW₁⟩)
  dsimp only [Pt.U, Pt.locs, Pt.cells, Pt.slots] at X' e1 e2 h1 h2 h3 st
  subst h1; subst h2; subst h3
  exact ⟨v, (T.setVm vm₁).calling g' mk (Value.ref b :: As).toArray, t, U', L, hT, X', hL, e1, e2, hq, st⟩
section
variable {y : MethodName} {bytes cc : ByteArray} {maxL nL mc ms n index : Nat} {ret : Option FieldType} {ws : List Cond} {rm : Room} {Pc : Array Value → State → Prop} {Qc : Array Value → State → Outcome → State → Prop} {XC : String → State → State → Prop} {free : Addr → Prop} {Ts : List Cond} {own C : String} {b : Addr} {As rest : List Value} {g : JFrame}
theorem vx_runVX {hh : List (Nat × Nat × Nat × Nat)} (S : CallFix p m c cc nL s args Ts own) (hM : vx_Met l y ws rm Pc Qc XC mc ms free) (cw : vx_CVW R s args own C index y bytes maxL ret hh ws rm mc ms n) (hp : PreV s H C b Pc As)
    (hg : g.method = m) (hn : As.length = n) (hsize : g.locals.size = nL) (hstack : g.stack = As.reverse ++ .ref b :: rest) (hW : 2 * g.monitorRoom + (rest.map fun v => v.category).sum ≤ 8) (hdg : decode cc g.pc = .ok (.invokevirtual index, 3)) (hf : cells + mc ≤ R.cells ∧ slots + ms ≤ R.slots) :
    vx_Run p l e R s m args below meth c H locs cells slots mc ms g rest (Qc (Value.ref b :: As).toArray) XC free := by
  obtain ⟨⟨hrc, hrs, hfr, hlo, hws, hcw⟩, hcode, hini, hy, hlen, hl, hin, hse⟩ := cw
  have hK : vx_Back l R p e below s args y 3 8 (PreOf R mc ms Pc) (PostOf Qc mc ms free) (vx_Post XC mc ms free) := vx_backW (hh := hh) (bytes := bytes) (maxL := maxL) (ret := ret) hM hp.1 hrc hrs hfr hlo hws hcw (fun a' U hW => word_at hW (Or.inl (by first | rfl | simp [Cond.onTables, Cond.keeps, Cond.steady])) hini)
  obtain ⟨hx, hb, hml, ho, -⟩ := S
  obtain ⟨-, ⟨cellB, hcB, hoB, hclB⟩, hPc⟩ := hp
  intro T hT X
  rcases vx_callVX X hx (C := C) (hh := hh) (bytes := bytes) (maxL := maxL) (ret := ret) ho hl hin hse hcode hy hK (by rw [hT]; exact hcB) hoB hclB hg (hsize.trans hml.symm) (argsL := As) (rest := rest) (fun sig h => hn.trans (hlen sig h)) hstack hW (by rw [hb]; exact hdg)
    (fun vm₁ hW₁ => ⟨hf.1, hf.2, hPc (T.setVm vm₁) hT hW₁⟩) with ⟨v, vm₁, ⟨U', l2, c2, s2⟩, hW₁, X', ⟨g', mk, t, L, e1, e2, hq, h1, hL, h2, h3⟩, st⟩ | ⟨q, vm₁, ⟨U', l2, c2, s2⟩, hW₁, X', ⟨g', mk, t, L, E, ce, e1, e2, hq, hce, hcv, hcl, h1, hL, h2, h3⟩, st⟩
  · dsimp only [Pt.U, Pt.locs, Pt.cells, Pt.slots] at X' e1 e2 h1 h2 h3 st
    subst h1; subst h2; subst h3
    exact Or.inl ⟨v, (T.setVm vm₁).calling g' mk (Value.ref b :: As).toArray, t, U', L, hT, X', hL, e1, e2, hq, st⟩
  · dsimp only [Pt.U, Pt.locs, Pt.cells, Pt.slots] at X' e1 e2 h1 h2 h3 st hcl
    subst h1; subst h2; subst h3
    exact Or.inr ⟨q, (T.setVm vm₁).calling g' mk (Value.ref b :: As).toArray, t, U', L, E, ce, hT, X', hL, e1, e2, hq, hce, hcv, vx_cls hW₁ hcl, st⟩
theorem vx_runSX {hh : List (Nat × Nat × Nat × Nat)} (S : CallFix p m c cc nL s args Ts own) (hM : vx_Met l y ws rm Pc Qc XC mc ms free) (cw : vx_CSW R s args own index y bytes maxL ret hh ws rm mc ms n) (hp : PreS s H Pc As)
    (hg : g.method = m) (hn : As.length = n) (hsize : g.locals.size = nL) (hstack : g.stack = As.reverse ++ rest) (hW : 2 * g.monitorRoom + (rest.map fun v => v.category).sum ≤ 8) (hdg : decode cc g.pc = .ok (.invokestatic index, 3)) (hf : cells + mc ≤ R.cells ∧ slots + ms ≤ R.slots) :
    vx_Run p l e R s m args below meth c H locs cells slots mc ms g rest (Qc As.toArray) XC free := by
  obtain ⟨⟨hrc, hrs, hfr, hlo, hws, hcw⟩, hcode, hini, hy, hlen, hl, hstt⟩ := cw
  have hK : vx_Back l R p e below s args y 3 8 (PreOf R mc ms Pc) (PostOf Qc mc ms free) (vx_Post XC mc ms free) := vx_backW (hh := hh) (bytes := bytes) (maxL := maxL) (ret := ret) hM hp.1 hrc hrs hfr hlo hws hcw (fun a' U hW => word_at hW (Or.inl (by first | rfl | simp [Cond.onTables, Cond.keeps, Cond.steady])) hini)
  obtain ⟨hx, hb, hml, ho, -⟩ := S
  intro T hT X
  rcases vx_callSX X hx (hh := hh) (bytes := bytes) (maxL := maxL) (ret := ret) ho hl hstt hini hcode hy hK hg (hsize.trans hml.symm) (argsL := As) (rest := rest) (fun sig h => hn.trans (hlen sig h)) hstack hW (by rw [hb]; exact hdg)
    (fun vm₁ hW₁ => ⟨hf.1, hf.2, hp.2 (T.setVm vm₁) hT hW₁⟩) with ⟨v, vm₁, ⟨U', l2, c2, s2⟩, hW₁, X', ⟨g', mk, t, L, e1, e2, hq, h1, hL, h2, h3⟩, st⟩ | ⟨q, vm₁, ⟨U', l2, c2, s2⟩, hW₁, X', ⟨g', mk, t, L, E, ce, e1, e2, hq, hce, hcv, hcl, h1, hL, h2, h3⟩, st⟩
  · dsimp only [Pt.U, Pt.locs, Pt.cells, Pt.slots] at X' e1 e2 h1 h2 h3 st
    subst h1; subst h2; subst h3
    exact Or.inl ⟨v, (T.setVm vm₁).calling g' mk As.toArray, t, U', L, hT, X', hL, e1, e2, hq, st⟩
  · dsimp only [Pt.U, Pt.locs, Pt.cells, Pt.slots] at X' e1 e2 h1 h2 h3 st hcl
    subst h1; subst h2; subst h3
    exact Or.inr ⟨q, (T.setVm vm₁).calling g' mk As.toArray, t, U', L, E, ce, hT, X', hL, e1, e2, hq, hce, hcv, vx_cls hW₁ hcl, st⟩
end
end VXH
theorem vx_ofWH {l : Launch} {y : MethodName} {ws ws' : List Cond} {rm : Room} {Pc : Array Value → State → Prop} {Qc : Array Value → State → Outcome → State → Prop} {XC : String → State → State → Prop} {mc ms : Nat} {free : Addr → Prop} {cc : ByteArray} {maxL : Nat} {ret : Option FieldType} {hh : List (Nat × Nat × Nat × Nat)}
    (hy : plainName y.cls = true) (hw : ws = Cond.codeWith y cc maxL ret hh :: ws')
    (body : ∀ p e s m args below meth c s₁, BodyLoose p l y (headSpec ws rm) cc maxL ret e s m args below meth c s₁ → c.maxLocals = maxL → Pc args s →
      W p l e (headSpec ws rm).room s m args below meth c s.heap [] 0 0 (vx_MQ below Qc XC args s mc ms free) (entryFrame m args maxL)) : vx_Met l y ws rm Pc Qc XC mc ms free := by
  refine MetFree.of_bodyS (code := cc) (maxLocals := maxL) (ret := ret) hy ?_ ?_
  · intro args s m h hn
    obtain ⟨m9, meth, c, hn9, h1, h2, h3, h4, -, h5, h6, -⟩ := Cond.codeWith_spec (atoms_spec (ws := ws) h _ (by rw [hw]; exact List.mem_cons_self))
    cases hn.symm.trans hn9
    exact ⟨meth, c, h1, h2, h3, h4, h5, h6⟩
  · intro p e s m args below meth c s₁ B hml hP _
    have hh0 : s₁.heap = s.heap := by rw [B.state]; rfl
    obtain ⟨t, a1, o, b1, b2, b3⟩ := body p e s m args below meth c s₁ B hml hP s₁ hh0 (Stand.of_body B)
    exact ⟨t, o, a1, b1, b2, b3⟩
/-! ===== END ===== -/
end
section
def RR : String := "LearningSolver$Rows"
def RS : String := "LearningSolver"
def RM : String := "LearningSolverModel"
def RL : String := "LearningSolverLaw"
def RJ : String := "java/lang/Long"
def TR : u_T := fun k => match k with
  | 0 => ("LearningSolver$Rows", "words", "[J", true)
  | _ => ("LearningSolver$Rows", "used", "I", false)
def tyR : Nat → FieldType := fun k => match k with
  | 0 => .array .long
  | _ => .int
theorem nmR : ∀ a, a < 2 → ∀ b, b < 2 → a ≠ b → (TR a).2.1 ≠ (TR b).2.1 := by decide +kernel
theorem tyR_ok : ∀ k, k < 2 → parseFieldDescriptor (TR k).2.2.1 = some (tyR k) := by decide +kernel
def TS : u_T := fun k => match k with
  | 0 => ("LearningSolver", "solutions", "LLearningSolver$Rows;", true)
  | 1 => ("LearningSolver", "scratch", "LLearningSolver$Rows;", true)
  | 2 => ("LearningSolver", "written", "[I", true)
  | 3 => ("LearningSolver", "assumed", "[I", true)
  | 4 => ("LearningSolver", "variables", "I", false)
  | 5 => ("LearningSolver", "literals", "I", false)
  | 6 => ("LearningSolver", "clauses", "I", false)
  | 7 => ("LearningSolver", "writtenCount", "I", false)
  | 8 => ("LearningSolver", "assumedCount", "I", false)
  | 9 => ("LearningSolver", "found", "Z", false)
  | 10 => ("LearningSolver", "blamed", "I", false)
  | 11 => ("LearningSolver", "leastValues", "I", false)
  | _ => ("LearningSolver", "variablesThen", "I", false)
def tyS : Nat → FieldType := fun k => match k with
  | 0 => .object "LearningSolver$Rows"
  | 1 => .object "LearningSolver$Rows"
  | 2 => .array .int
  | 3 => .array .int
  | 4 => .int
  | 5 => .int
  | 6 => .int
  | 7 => .int
  | 8 => .int
  | 9 => .boolean
  | 10 => .int
  | 11 => .int
  | _ => .int
theorem nmS : ∀ a, a < 13 → ∀ b, b < 13 → a ≠ b → (TS a).2.1 ≠ (TS b).2.1 := by decide +kernel
theorem tyS_ok : ∀ k, k < 13 → parseFieldDescriptor (TS k).2.2.1 = some (tyS k) := by decide +kernel
def TM : u_T := fun k => match k with
  | 0 => ("LearningSolverModel", "code", "I", false)
  | 1 => ("LearningSolverModel", "variables", "I", false)
  | 2 => ("LearningSolverModel", "clauses", "I", false)
  | 3 => ("LearningSolverModel", "literals", "[I", true)
  | 4 => ("LearningSolverModel", "used", "I", false)
  | 5 => ("LearningSolverModel", "starts", "[I", true)
  | 6 => ("LearningSolverModel", "drafted", "I", false)
  | 7 => ("LearningSolverModel", "firsts", "[I", true)
  | 8 => ("LearningSolverModel", "nexts", "[I", true)
  | 9 => ("LearningSolverModel", "assumed", "[I", true)
  | 10 => ("LearningSolverModel", "assumptions", "I", false)
  | 11 => ("LearningSolverModel", "forced", "[I", true)
  | 12 => ("LearningSolverModel", "values", "[I", true)
  | 13 => ("LearningSolverModel", "latest", "I", false)
  | 14 => ("LearningSolverModel", "blamed", "I", false)
  | 15 => ("LearningSolverModel", "least", "[I", true)
  | _ => ("LearningSolverModel", "then", "I", false)
def tyM : Nat → FieldType := fun k => match k with
  | 0 => .int
  | 1 => .int
  | 2 => .int
  | 3 => .array .int
  | 4 => .int
  | 5 => .array .int
  | 6 => .int
  | 7 => .array .int
  | 8 => .array .int
  | 9 => .array .int
  | 10 => .int
  | 11 => .array .int
  | 12 => .array .int
  | 13 => .int
  | 14 => .int
  | 15 => .array .int
  | _ => .int
theorem nmM : ∀ a, a < 17 → ∀ b, b < 17 → a ≠ b → (TM a).2.1 ≠ (TM b).2.1 := by decide +kernel
theorem tyM_ok : ∀ k, k < 17 → parseFieldDescriptor (TM k).2.2.1 = some (tyM k) := by decide +kernel
abbrev vwCl : List vw_C := [(RR, TR, 2), (RS, TS, 13), (RM, TM, 17)]
abbrev cS_init : ByteArray := prog_1_method_1_code
def yS_init : MethodName := ⟨RS, "<init>", "()V"⟩
abbrev cR_init : ByteArray := prog_2_method_1_code
def yR_init : MethodName := ⟨RR, "<init>", "()V"⟩
abbrev cS_startAnew : ByteArray := prog_1_method_14_code
def yS_startAnew : MethodName := ⟨RS, "startAnew", "()V"⟩
abbrev cR_holdAll : ByteArray := prog_2_method_2_code
def yR_holdAll : MethodName := ⟨RR, "holdAll", "()V"⟩
abbrev cS_solve : ByteArray := prog_1_method_6_code
def yS_solve : MethodName := ⟨RS, "solve", "()Z"⟩
abbrev cR_copyFrom : ByteArray := prog_2_method_3_code
def yR_copyFrom : MethodName := ⟨RR, "copyFrom", "(LLearningSolver$Rows;)V"⟩
abbrev cS_narrowToAssumptions : ByteArray := prog_1_method_16_code
def yS_narrowToAssumptions : MethodName := ⟨RS, "narrowToAssumptions", "()I"⟩
abbrev cR_anyIn : ByteArray := prog_2_method_9_code
def yR_anyIn : MethodName := ⟨RR, "anyIn", "(IIJ)Z"⟩
abbrev cR_keepWith : ByteArray := prog_2_method_10_code
def yR_keepWith : MethodName := ⟨RR, "keepWith", "(I)Z"⟩
abbrev cR_rowsWith : ByteArray := prog_2_method_14_code
def yR_rowsWith : MethodName := ⟨RR, "rowsWith", "(II)J"⟩
abbrev cR_leastRow : ByteArray := prog_2_method_11_code
def yR_leastRow : MethodName := ⟨RR, "leastRow", "()I"⟩
abbrev cS_blame : ByteArray := prog_1_method_7_code
def yS_blame : MethodName := ⟨RS, "blame", "()I"⟩
abbrev cS_shown : ByteArray := prog_1_method_11_code
def yS_shown : MethodName := ⟨RS, "shown", "()Z"⟩
abbrev cS_proved : ByteArray := prog_1_method_12_code
def yS_proved : MethodName := ⟨RS, "proved", "()Z"⟩
abbrev cS_clear : ByteArray := prog_1_method_13_code
def yS_clear : MethodName := ⟨RS, "clear", "()V"⟩
abbrev cL_variable : ByteArray := method_3_code
def yL_variable : MethodName := ⟨RL, "variable", "(LLearningSolver;[J)I"⟩
abbrev cS_variable : ByteArray := prog_1_method_2_code
def yS_variable : MethodName := ⟨RS, "variable", "()I"⟩
abbrev cR_addVariable : ByteArray := prog_2_method_4_code
def yR_addVariable : MethodName := ⟨RR, "addVariable", "(I)V"⟩
abbrev cL_literal : ByteArray := method_4_code
def yL_literal : MethodName := ⟨RL, "literal", "(LLearningSolver;I[J)I"⟩
abbrev cS_literal : ByteArray := prog_1_method_3_code
def yS_literal : MethodName := ⟨RS, "literal", "(I)I"⟩
abbrev cS_refuseUnknownLiteral : ByteArray := prog_1_method_15_code
def yS_refuseUnknownLiteral : MethodName := ⟨RS, "refuseUnknownLiteral", "(I)V"⟩
abbrev cL_close : ByteArray := method_5_code
def yL_close : MethodName := ⟨RL, "close", "(LLearningSolver;[J)I"⟩
abbrev cS_close : ByteArray := prog_1_method_4_code
def yS_close : MethodName := ⟨RS, "close", "()I"⟩
abbrev cR_keepClause : ByteArray := prog_2_method_12_code
def yR_keepClause : MethodName := ⟨RR, "keepClause", "([II)V"⟩
abbrev cL_assume : ByteArray := method_6_code
def yL_assume : MethodName := ⟨RL, "assume", "(LLearningSolver;I[J)I"⟩
abbrev cS_assume : ByteArray := prog_1_method_5_code
def yS_assume : MethodName := ⟨RS, "assume", "(I)I"⟩
abbrev cL_least : ByteArray := method_7_code
def yL_least : MethodName := ⟨RL, "least", "(LLearningSolver;I[J)I"⟩
abbrev cS_least : ByteArray := prog_1_method_8_code
def yS_least : MethodName := ⟨RS, "least", "(I)I"⟩
abbrev cL_must : ByteArray := method_8_code
def yL_must : MethodName := ⟨RL, "must", "(LLearningSolver;I[J)I"⟩
abbrev cS_must : ByteArray := prog_1_method_9_code
def yS_must : MethodName := ⟨RS, "must", "(I)I"⟩
abbrev cR_anyWith : ByteArray := prog_2_method_8_code
def yR_anyWith : MethodName := ⟨RR, "anyWith", "(I)Z"⟩
abbrev cL_ways : ByteArray := method_9_code
def yL_ways : MethodName := ⟨RL, "ways", "(LLearningSolver;II[J)I"⟩
abbrev cS_ways : ByteArray := prog_1_method_10_code
def yS_ways : MethodName := ⟨RS, "ways", "(II)I"⟩
abbrev cR_dropVariable : ByteArray := prog_2_method_5_code
def yR_dropVariable : MethodName := ⟨RR, "dropVariable", "(I)V"⟩
abbrev cR_dropInner : ByteArray := prog_2_method_6_code
def yR_dropInner : MethodName := ⟨RR, "dropInner", "(IJ)V"⟩
abbrev cR_dropOuter : ByteArray := prog_2_method_7_code
def yR_dropOuter : MethodName := ⟨RR, "dropOuter", "(I)V"⟩
abbrev cR_count : ByteArray := prog_2_method_13_code
def yR_count : MethodName := ⟨RR, "count", "()I"⟩
abbrev cJ_bitCount : ByteArray := prog_9_method_50_code
def yJ_bitCount : MethodName := ⟨RJ, "bitCount", "(J)I"⟩
abbrev cM_init : ByteArray := prog_4_method_1_code
def yM_init : MethodName := ⟨RM, "<init>", "()V"⟩
abbrev cM_clearAll : ByteArray := prog_4_method_3_code
def yM_clearAll : MethodName := ⟨RM, "clearAll", "()V"⟩
abbrev cM_thrown : ByteArray := prog_4_method_2_code
def yM_thrown : MethodName := ⟨RM, "thrown", "()I"⟩
abbrev cM_clear : ByteArray := prog_4_method_4_code
def yM_clear : MethodName := ⟨RM, "clear", "()V"⟩
abbrev cM_variable : ByteArray := prog_4_method_5_code
def yM_variable : MethodName := ⟨RM, "variable", "()I"⟩
abbrev cM_literal : ByteArray := prog_4_method_7_code
def yM_literal : MethodName := ⟨RM, "literal", "(I)I"⟩
abbrev cM_isLiteral : ByteArray := prog_4_method_6_code
def yM_isLiteral : MethodName := ⟨RM, "isLiteral", "(I)Z"⟩
abbrev cM_close : ByteArray := prog_4_method_8_code
def yM_close : MethodName := ⟨RM, "close", "()I"⟩
abbrev cM_assume : ByteArray := prog_4_method_9_code
def yM_assume : MethodName := ⟨RM, "assume", "(I)I"⟩
abbrev cM_solve : ByteArray := prog_4_method_15_code
def yM_solve : MethodName := ⟨RM, "solve", "()Z"⟩
abbrev cM_isSolved : ByteArray := prog_4_method_14_code
def yM_isSolved : MethodName := ⟨RM, "isSolved", "(I)Z"⟩
abbrev cM_free : ByteArray := prog_4_method_11_code
def yM_free : MethodName := ⟨RM, "free", "()V"⟩
abbrev cM_force : ByteArray := prog_4_method_12_code
def yM_force : MethodName := ⟨RM, "force", "(I)Z"⟩
abbrev cM_search : ByteArray := prog_4_method_13_code
def yM_search : MethodName := ⟨RM, "search", "()Z"⟩
abbrev cM_isRight : ByteArray := prog_4_method_10_code
def yM_isRight : MethodName := ⟨RM, "isRight", "(I)Z"⟩
abbrev cM_blame : ByteArray := prog_4_method_16_code
def yM_blame : MethodName := ⟨RM, "blame", "()I"⟩
abbrev cM_least : ByteArray := prog_4_method_17_code
def yM_least : MethodName := ⟨RM, "least", "(I)I"⟩
abbrev cM_must : ByteArray := prog_4_method_18_code
def yM_must : MethodName := ⟨RM, "must", "(I)I"⟩
abbrev cM_ways : ByteArray := prog_4_method_19_code
def yM_ways : MethodName := ⟨RM, "ways", "(II)I"⟩
abbrev cM_shown : ByteArray := prog_4_method_20_code
def yM_shown : MethodName := ⟨RM, "shown", "()Z"⟩
abbrev cM_proved : ByteArray := prog_4_method_21_code
def yM_proved : MethodName := ⟨RM, "proved", "()Z"⟩
abbrev cL_law : ByteArray := code
def yL_law : MethodName := ⟨RL, "law", "([I)Z"⟩
/-- the words that go along with a frame: every method has them all -/
def GG : List Cond := lw_tbl.filter goodWord
theorem GG_tbl {w : Cond} (h : w ∈ GG) : w ∈ lw_tbl := (List.mem_filter.mp h).1
theorem GG_in {w : Cond} {k : Nat} (h : tables_1[k]? = some w) (g : goodWord w = true) : w ∈ GG := List.mem_filter.mpr ⟨List.mem_append_right _ (List.mem_of_getElem? h), g⟩
theorem GG_se {w : Cond} {k : Nat} (h : (k2_sels lw_privs)[k]? = some w) (g : goodWord w = true) : w ∈ GG := List.mem_filter.mpr ⟨List.mem_append_left _ (List.mem_of_getElem? h), g⟩
theorem GG_good {ws : List Cond} (h : ∀ w ∈ ws, w ∈ GG) : GoodIn GG ws := fun w hw => ⟨h w hw, good_of_word (List.mem_filter.mp (h w hw)).2⟩
theorem in_L : Cond.initialized RL ∈ GG := GG_in (k := 0) (by decide +kernel) (by decide +kernel)
theorem in_S : Cond.initialized RS ∈ GG := GG_in (k := 1) (by decide +kernel) (by decide +kernel)
theorem in_R : Cond.initialized RR ∈ GG := GG_in (k := 2) (by decide +kernel) (by decide +kernel)
theorem in_M : Cond.initialized RM ∈ GG := GG_in (k := 3) (by decide +kernel) (by decide +kernel)
theorem in_Throwable : Cond.initialized "java/lang/Throwable" ∈ GG := GG_in (k := 4) (by decide +kernel) (by decide +kernel)
theorem in_Exception : Cond.initialized "java/lang/Exception" ∈ GG := GG_in (k := 5) (by decide +kernel) (by decide +kernel)
theorem in_RuntimeException : Cond.initialized "java/lang/RuntimeException" ∈ GG := GG_in (k := 6) (by decide +kernel) (by decide +kernel)
theorem in_IllegalStateException : Cond.initialized "java/lang/IllegalStateException" ∈ GG := GG_in (k := 7) (by decide +kernel) (by decide +kernel)
theorem in_IllegalArgumentException : Cond.initialized "java/lang/IllegalArgumentException" ∈ GG := GG_in (k := 8) (by decide +kernel) (by decide +kernel)
theorem in_IndexOutOfBoundsException : Cond.initialized "java/lang/IndexOutOfBoundsException" ∈ GG := GG_in (k := 9) (by decide +kernel) (by decide +kernel)
theorem in_J : Cond.initialized RJ ∈ GG := GG_in (k := 10) (by decide +kernel) (by decide +kernel)
theorem cl_L_8 : Cond.classLink RL 8 RS ∈ GG := GG_in (k := 11) (by decide +kernel) (by decide +kernel)
theorem it_S : Cond.instantiable RS 13 ∈ GG := GG_in (k := 12) (by decide +kernel) (by decide +kernel)
theorem ml_L_39 : Cond.methodLink RL 39 yS_init ∈ GG := GG_in (k := 13) (by decide +kernel) (by decide +kernel)
theorem im_S_init : Cond.instanceMethod yS_init ∈ GG := GG_in (k := 14) (by decide +kernel) (by decide +kernel)
theorem co_S_init : Cond.code yS_init cS_init 1 none ∈ GG := GG_in (k := 15) (by decide +kernel) (by decide +kernel)
theorem ml_S_1 : Cond.methodLink RS 1 objectInit ∈ GG := GG_in (k := 16) (by decide +kernel) (by decide +kernel)
theorem im_object : Cond.instanceMethod objectInit ∈ GG := GG_in (k := 17) (by decide +kernel) (by decide +kernel)
theorem co_object : Cond.code objectInit ⟨#[0xb1]⟩ 1 none ∈ GG := GG_in (k := 18) (by decide +kernel) (by decide +kernel)
theorem cl_S_7 : Cond.classLink RS 7 RR ∈ GG := GG_in (k := 19) (by decide +kernel) (by decide +kernel)
theorem it_R : Cond.instantiable RR 2 ∈ GG := GG_in (k := 20) (by decide +kernel) (by decide +kernel)
theorem ml_S_9 : Cond.methodLink RS 9 yR_init ∈ GG := GG_in (k := 21) (by decide +kernel) (by decide +kernel)
theorem im_R_init : Cond.instanceMethod yR_init ∈ GG := GG_in (k := 22) (by decide +kernel) (by decide +kernel)
theorem co_R_init : Cond.code yR_init cR_init 1 none ∈ GG := GG_in (k := 23) (by decide +kernel) (by decide +kernel)
theorem ml_R_5 : Cond.methodLink RR 5 objectInit ∈ GG := GG_in (k := 24) (by decide +kernel) (by decide +kernel)
theorem fl_R_11 : Cond.fieldLink RR 11 "LearningSolver$Rows" "words" "[J" ∈ GG := GG_in (k := 25) (by decide +kernel) (by decide +kernel)
theorem fl_R_15 : Cond.fieldLink RR 15 "LearningSolver$Rows" "used" "I" ∈ GG := GG_in (k := 26) (by decide +kernel) (by decide +kernel)
theorem ac_long : Cond.arrayClass .long ∈ GG := GG_in (k := 32) (by decide +kernel) (by decide +kernel)
theorem ml_S_26 : Cond.methodLink RS 26 yS_startAnew ∈ GG := GG_in (k := 33) (by decide +kernel) (by decide +kernel)
theorem im_S_startAnew : Cond.instanceMethod yS_startAnew ∈ GG := GG_in (k := 35) (by decide +kernel) (by decide +kernel)
theorem co_S_startAnew : Cond.code yS_startAnew cS_startAnew 1 none ∈ GG := GG_in (k := 36) (by decide +kernel) (by decide +kernel)
theorem ml_S_117 : Cond.methodLink RS 117 yR_holdAll ∈ GG := GG_in (k := 37) (by decide +kernel) (by decide +kernel)
theorem im_R_holdAll : Cond.instanceMethod yR_holdAll ∈ GG := GG_in (k := 38) (by decide +kernel) (by decide +kernel)
theorem se_R_holdAll : Cond.selects RR yR_holdAll yR_holdAll ∈ GG := GG_in (k := 39) (by decide +kernel) (by decide +kernel)
theorem co_R_holdAll : Cond.code yR_holdAll cR_holdAll 1 none ∈ GG := GG_in (k := 40) (by decide +kernel) (by decide +kernel)
theorem cj_R_19 : Cond.constantLong RR 19 (-1) ∈ GG := GG_in (k := 41) (by decide +kernel) (by decide +kernel)
theorem fl_S_10 : Cond.fieldLink RS 10 "LearningSolver" "solutions" "LLearningSolver$Rows;" ∈ GG := GG_in (k := 42) (by decide +kernel) (by decide +kernel)
theorem fl_S_16 : Cond.fieldLink RS 16 "LearningSolver" "scratch" "LLearningSolver$Rows;" ∈ GG := GG_in (k := 43) (by decide +kernel) (by decide +kernel)
theorem fl_S_19 : Cond.fieldLink RS 19 "LearningSolver" "written" "[I" ∈ GG := GG_in (k := 44) (by decide +kernel) (by decide +kernel)
theorem fl_S_23 : Cond.fieldLink RS 23 "LearningSolver" "assumed" "[I" ∈ GG := GG_in (k := 45) (by decide +kernel) (by decide +kernel)
theorem fl_S_29 : Cond.fieldLink RS 29 "LearningSolver" "variables" "I" ∈ GG := GG_in (k := 46) (by decide +kernel) (by decide +kernel)
theorem fl_S_52 : Cond.fieldLink RS 52 "LearningSolver" "literals" "I" ∈ GG := GG_in (k := 47) (by decide +kernel) (by decide +kernel)
theorem fl_S_57 : Cond.fieldLink RS 57 "LearningSolver" "clauses" "I" ∈ GG := GG_in (k := 48) (by decide +kernel) (by decide +kernel)
theorem fl_S_47 : Cond.fieldLink RS 47 "LearningSolver" "writtenCount" "I" ∈ GG := GG_in (k := 49) (by decide +kernel) (by decide +kernel)
theorem fl_S_66 : Cond.fieldLink RS 66 "LearningSolver" "assumedCount" "I" ∈ GG := GG_in (k := 50) (by decide +kernel) (by decide +kernel)
theorem fl_S_82 : Cond.fieldLink RS 82 "LearningSolver" "found" "Z" ∈ GG := GG_in (k := 51) (by decide +kernel) (by decide +kernel)
theorem fl_S_79 : Cond.fieldLink RS 79 "LearningSolver" "blamed" "I" ∈ GG := GG_in (k := 52) (by decide +kernel) (by decide +kernel)
theorem fl_S_89 : Cond.fieldLink RS 89 "LearningSolver" "leastValues" "I" ∈ GG := GG_in (k := 53) (by decide +kernel) (by decide +kernel)
theorem fl_S_92 : Cond.fieldLink RS 92 "LearningSolver" "variablesThen" "I" ∈ GG := GG_in (k := 54) (by decide +kernel) (by decide +kernel)
theorem ac_int : Cond.arrayClass .int ∈ GG := GG_in (k := 82) (by decide +kernel) (by decide +kernel)
theorem ml_L_62 : Cond.methodLink RL 62 yS_solve ∈ GG := GG_in (k := 83) (by decide +kernel) (by decide +kernel)
theorem im_S_solve : Cond.instanceMethod yS_solve ∈ GG := GG_in (k := 84) (by decide +kernel) (by decide +kernel)
theorem se_S_solve : Cond.selects RS yS_solve yS_solve ∈ GG := GG_in (k := 85) (by decide +kernel) (by decide +kernel)
theorem co_S_solve : Cond.code yS_solve cS_solve 1 (some .boolean) ∈ GG := GG_in (k := 86) (by decide +kernel) (by decide +kernel)
theorem ml_S_71 : Cond.methodLink RS 71 yR_copyFrom ∈ GG := GG_in (k := 87) (by decide +kernel) (by decide +kernel)
theorem im_R_copyFrom : Cond.instanceMethod yR_copyFrom ∈ GG := GG_in (k := 88) (by decide +kernel) (by decide +kernel)
theorem se_R_copyFrom : Cond.selects RR yR_copyFrom yR_copyFrom ∈ GG := GG_in (k := 89) (by decide +kernel) (by decide +kernel)
theorem co_R_copyFrom : Cond.code yR_copyFrom cR_copyFrom 3 none ∈ GG := GG_in (k := 90) (by decide +kernel) (by decide +kernel)
theorem ml_S_75 : Cond.methodLink RS 75 yS_narrowToAssumptions ∈ GG := GG_in (k := 91) (by decide +kernel) (by decide +kernel)
theorem im_S_narrowToAssumptions : Cond.instanceMethod yS_narrowToAssumptions ∈ GG := GG_in (k := 93) (by decide +kernel) (by decide +kernel)
theorem co_S_narrowToAssumptions : Cond.code yS_narrowToAssumptions cS_narrowToAssumptions 2 (some .int) ∈ GG := GG_in (k := 94) (by decide +kernel) (by decide +kernel)
theorem cj_S_122 : Cond.constantLong RS 122 (-1) ∈ GG := GG_in (k := 95) (by decide +kernel) (by decide +kernel)
theorem ml_S_124 : Cond.methodLink RS 124 yR_anyIn ∈ GG := GG_in (k := 96) (by decide +kernel) (by decide +kernel)
theorem im_R_anyIn : Cond.instanceMethod yR_anyIn ∈ GG := GG_in (k := 97) (by decide +kernel) (by decide +kernel)
theorem se_R_anyIn : Cond.selects RR yR_anyIn yR_anyIn ∈ GG := GG_in (k := 98) (by decide +kernel) (by decide +kernel)
theorem co_R_anyIn : Cond.code yR_anyIn cR_anyIn 6 (some .boolean) ∈ GG := GG_in (k := 99) (by decide +kernel) (by decide +kernel)
theorem ml_S_128 : Cond.methodLink RS 128 yR_keepWith ∈ GG := GG_in (k := 100) (by decide +kernel) (by decide +kernel)
theorem im_R_keepWith : Cond.instanceMethod yR_keepWith ∈ GG := GG_in (k := 101) (by decide +kernel) (by decide +kernel)
theorem se_R_keepWith : Cond.selects RR yR_keepWith yR_keepWith ∈ GG := GG_in (k := 102) (by decide +kernel) (by decide +kernel)
theorem co_R_keepWith : Cond.code yR_keepWith cR_keepWith 5 (some .boolean) ∈ GG := GG_in (k := 103) (by decide +kernel) (by decide +kernel)
theorem ml_R_32 : Cond.methodLink RR 32 yR_rowsWith ∈ GG := GG_in (k := 104) (by decide +kernel) (by decide +kernel)
theorem st_R_rowsWith : Cond.static yR_rowsWith ∈ GG := GG_in (k := 105) (by decide +kernel) (by decide +kernel)
theorem co_R_rowsWith : Cond.code yR_rowsWith cR_rowsWith 5 (some .long) ∈ GG := GG_in (k := 106) (by decide +kernel) (by decide +kernel)
theorem fl_R_21 : Cond.fieldLink RR 21 "LearningSolver$Rows" "INNER_ONES" "[J" ∈ GG := GG_in (k := 107) (by decide +kernel) (by decide +kernel)
theorem ml_S_86 : Cond.methodLink RS 86 yR_leastRow ∈ GG := GG_in (k := 109) (by decide +kernel) (by decide +kernel)
theorem im_R_leastRow : Cond.instanceMethod yR_leastRow ∈ GG := GG_in (k := 110) (by decide +kernel) (by decide +kernel)
theorem se_R_leastRow : Cond.selects RR yR_leastRow yR_leastRow ∈ GG := GG_in (k := 111) (by decide +kernel) (by decide +kernel)
theorem co_R_leastRow : Cond.code yR_leastRow cR_leastRow 7 (some .int) ∈ GG := GG_in (k := 112) (by decide +kernel) (by decide +kernel)
theorem ml_R_36 : Cond.methodLink RR 36 yR_anyIn ∈ GG := GG_in (k := 113) (by decide +kernel) (by decide +kernel)
theorem ml_L_67 : Cond.methodLink RL 67 yS_blame ∈ GG := GG_in (k := 114) (by decide +kernel) (by decide +kernel)
theorem im_S_blame : Cond.instanceMethod yS_blame ∈ GG := GG_in (k := 115) (by decide +kernel) (by decide +kernel)
theorem se_S_blame : Cond.selects RS yS_blame yS_blame ∈ GG := GG_in (k := 116) (by decide +kernel) (by decide +kernel)
theorem co_S_blame : Cond.code yS_blame cS_blame 1 (some .int) ∈ GG := GG_in (k := 117) (by decide +kernel) (by decide +kernel)
theorem ml_L_81 : Cond.methodLink RL 81 yS_shown ∈ GG := GG_in (k := 118) (by decide +kernel) (by decide +kernel)
theorem im_S_shown : Cond.instanceMethod yS_shown ∈ GG := GG_in (k := 119) (by decide +kernel) (by decide +kernel)
theorem se_S_shown : Cond.selects RS yS_shown yS_shown ∈ GG := GG_in (k := 120) (by decide +kernel) (by decide +kernel)
theorem co_S_shown : Cond.code yS_shown cS_shown 1 (some .boolean) ∈ GG := GG_in (k := 121) (by decide +kernel) (by decide +kernel)
theorem ml_L_85 : Cond.methodLink RL 85 yS_proved ∈ GG := GG_in (k := 122) (by decide +kernel) (by decide +kernel)
theorem im_S_proved : Cond.instanceMethod yS_proved ∈ GG := GG_in (k := 123) (by decide +kernel) (by decide +kernel)
theorem se_S_proved : Cond.selects RS yS_proved yS_proved ∈ GG := GG_in (k := 124) (by decide +kernel) (by decide +kernel)
theorem co_S_proved : Cond.code yS_proved cS_proved 1 (some .boolean) ∈ GG := GG_in (k := 125) (by decide +kernel) (by decide +kernel)
theorem ml_L_89 : Cond.methodLink RL 89 yS_clear ∈ GG := GG_in (k := 126) (by decide +kernel) (by decide +kernel)
theorem im_S_clear : Cond.instanceMethod yS_clear ∈ GG := GG_in (k := 127) (by decide +kernel) (by decide +kernel)
theorem se_S_clear : Cond.selects RS yS_clear yS_clear ∈ GG := GG_in (k := 128) (by decide +kernel) (by decide +kernel)
theorem co_S_clear : Cond.code yS_clear cS_clear 1 none ∈ GG := GG_in (k := 129) (by decide +kernel) (by decide +kernel)
theorem ml_L_43 : Cond.methodLink RL 43 yL_variable ∈ GG := GG_in (k := 130) (by decide +kernel) (by decide +kernel)
theorem st_L_variable : Cond.static yL_variable ∈ GG := GG_in (k := 131) (by decide +kernel) (by decide +kernel)
theorem co_L_variable : Cond.codeWith yL_variable cL_variable 3 (some .int) [(0, 8, 11, 13)] ∈ GG := GG_in (k := 132) (by decide +kernel) (by decide +kernel)
theorem cl_L_13 : Cond.classLink RL 13 "java/lang/IllegalStateException" ∈ GG := GG_in (k := 133) (by decide +kernel) (by decide +kernel)
theorem ml_L_7 : Cond.methodLink RL 7 yS_variable ∈ GG := GG_in (k := 134) (by decide +kernel) (by decide +kernel)
theorem im_S_variable : Cond.instanceMethod yS_variable ∈ GG := GG_in (k := 135) (by decide +kernel) (by decide +kernel)
theorem se_S_variable : Cond.selects RS yS_variable yS_variable ∈ GG := GG_in (k := 136) (by decide +kernel) (by decide +kernel)
theorem co_S_variable : Cond.code yS_variable cS_variable 2 (some .int) ∈ GG := GG_in (k := 137) (by decide +kernel) (by decide +kernel)
theorem cl_S_33 : Cond.classLink RS 33 "java/lang/IllegalStateException" ∈ GG := GG_in (k := 138) (by decide +kernel) (by decide +kernel)
theorem ml_S_37 : Cond.methodLink RS 37 ⟨"java/lang/IllegalStateException", "<init>", "(Ljava/lang/String;)V"⟩ ∈ GG := GG_in (k := 180) (by decide +kernel) (by decide +kernel)
theorem ac_byte : Cond.arrayClass .byte ∈ GG := GG_in (k := 205) (by decide +kernel) (by decide +kernel)
theorem ml_S_40 : Cond.methodLink RS 40 yR_addVariable ∈ GG := GG_in (k := 206) (by decide +kernel) (by decide +kernel)
theorem im_R_addVariable : Cond.instanceMethod yR_addVariable ∈ GG := GG_in (k := 207) (by decide +kernel) (by decide +kernel)
theorem se_R_addVariable : Cond.selects RR yR_addVariable yR_addVariable ∈ GG := GG_in (k := 208) (by decide +kernel) (by decide +kernel)
theorem co_R_addVariable : Cond.code yR_addVariable cR_addVariable 3 none ∈ GG := GG_in (k := 209) (by decide +kernel) (by decide +kernel)
theorem ml_L_52 : Cond.methodLink RL 52 yL_literal ∈ GG := GG_in (k := 210) (by decide +kernel) (by decide +kernel)
theorem st_L_literal : Cond.static yL_literal ∈ GG := GG_in (k := 211) (by decide +kernel) (by decide +kernel)
theorem co_L_literal : Cond.codeWith yL_literal cL_literal 4 (some .int) [(0, 9, 12, 19), (0, 9, 15, 13)] ∈ GG := GG_in (k := 212) (by decide +kernel) (by decide +kernel)
theorem cl_L_19 : Cond.classLink RL 19 "java/lang/IllegalArgumentException" ∈ GG := GG_in (k := 213) (by decide +kernel) (by decide +kernel)
theorem ml_L_15 : Cond.methodLink RL 15 yS_literal ∈ GG := GG_in (k := 214) (by decide +kernel) (by decide +kernel)
theorem im_S_literal : Cond.instanceMethod yS_literal ∈ GG := GG_in (k := 215) (by decide +kernel) (by decide +kernel)
theorem se_S_literal : Cond.selects RS yS_literal yS_literal ∈ GG := GG_in (k := 216) (by decide +kernel) (by decide +kernel)
theorem co_S_literal : Cond.code yS_literal cS_literal 2 (some .int) ∈ GG := GG_in (k := 217) (by decide +kernel) (by decide +kernel)
theorem ml_S_44 : Cond.methodLink RS 44 yS_refuseUnknownLiteral ∈ GG := GG_in (k := 218) (by decide +kernel) (by decide +kernel)
theorem im_S_refuseUnknownLiteral : Cond.instanceMethod yS_refuseUnknownLiteral ∈ GG := GG_in (k := 220) (by decide +kernel) (by decide +kernel)
theorem co_S_refuseUnknownLiteral : Cond.code yS_refuseUnknownLiteral cS_refuseUnknownLiteral 2 none ∈ GG := GG_in (k := 221) (by decide +kernel) (by decide +kernel)
theorem cl_S_104 : Cond.classLink RS 104 "java/lang/IllegalArgumentException" ∈ GG := GG_in (k := 222) (by decide +kernel) (by decide +kernel)
theorem ml_S_108 : Cond.methodLink RS 108 ⟨"java/lang/IllegalArgumentException", "<init>", "(Ljava/lang/String;)V"⟩ ∈ GG := GG_in (k := 232) (by decide +kernel) (by decide +kernel)
theorem ml_L_56 : Cond.methodLink RL 56 yL_close ∈ GG := GG_in (k := 240) (by decide +kernel) (by decide +kernel)
theorem st_L_close : Cond.static yL_close ∈ GG := GG_in (k := 241) (by decide +kernel) (by decide +kernel)
theorem co_L_close : Cond.codeWith yL_close cL_close 3 (some .int) [(0, 8, 11, 13)] ∈ GG := GG_in (k := 242) (by decide +kernel) (by decide +kernel)
theorem ml_L_21 : Cond.methodLink RL 21 yS_close ∈ GG := GG_in (k := 243) (by decide +kernel) (by decide +kernel)
theorem im_S_close : Cond.instanceMethod yS_close ∈ GG := GG_in (k := 244) (by decide +kernel) (by decide +kernel)
theorem se_S_close : Cond.selects RS yS_close yS_close ∈ GG := GG_in (k := 245) (by decide +kernel) (by decide +kernel)
theorem co_S_close : Cond.code yS_close cS_close 1 (some .int) ∈ GG := GG_in (k := 246) (by decide +kernel) (by decide +kernel)
theorem ml_S_62 : Cond.methodLink RS 62 yR_keepClause ∈ GG := GG_in (k := 248) (by decide +kernel) (by decide +kernel)
theorem im_R_keepClause : Cond.instanceMethod yR_keepClause ∈ GG := GG_in (k := 249) (by decide +kernel) (by decide +kernel)
theorem se_R_keepClause : Cond.selects RR yR_keepClause yR_keepClause ∈ GG := GG_in (k := 250) (by decide +kernel) (by decide +kernel)
theorem co_R_keepClause : Cond.code yR_keepClause cR_keepClause 7 none ∈ GG := GG_in (k := 251) (by decide +kernel) (by decide +kernel)
theorem ml_L_59 : Cond.methodLink RL 59 yL_assume ∈ GG := GG_in (k := 252) (by decide +kernel) (by decide +kernel)
theorem st_L_assume : Cond.static yL_assume ∈ GG := GG_in (k := 253) (by decide +kernel) (by decide +kernel)
theorem co_L_assume : Cond.codeWith yL_assume cL_assume 4 (some .int) [(0, 9, 12, 19), (0, 9, 15, 13)] ∈ GG := GG_in (k := 254) (by decide +kernel) (by decide +kernel)
theorem ml_L_24 : Cond.methodLink RL 24 yS_assume ∈ GG := GG_in (k := 255) (by decide +kernel) (by decide +kernel)
theorem im_S_assume : Cond.instanceMethod yS_assume ∈ GG := GG_in (k := 256) (by decide +kernel) (by decide +kernel)
theorem se_S_assume : Cond.selects RS yS_assume yS_assume ∈ GG := GG_in (k := 257) (by decide +kernel) (by decide +kernel)
theorem co_S_assume : Cond.code yS_assume cS_assume 2 (some .int) ∈ GG := GG_in (k := 258) (by decide +kernel) (by decide +kernel)
theorem ml_L_71 : Cond.methodLink RL 71 yL_least ∈ GG := GG_in (k := 260) (by decide +kernel) (by decide +kernel)
theorem st_L_least : Cond.static yL_least ∈ GG := GG_in (k := 261) (by decide +kernel) (by decide +kernel)
theorem co_L_least : Cond.codeWith yL_least cL_least 4 (some .int) [(0, 9, 12, 30)] ∈ GG := GG_in (k := 262) (by decide +kernel) (by decide +kernel)
theorem cl_L_30 : Cond.classLink RL 30 "java/lang/IndexOutOfBoundsException" ∈ GG := GG_in (k := 263) (by decide +kernel) (by decide +kernel)
theorem ml_L_27 : Cond.methodLink RL 27 yS_least ∈ GG := GG_in (k := 264) (by decide +kernel) (by decide +kernel)
theorem im_S_least : Cond.instanceMethod yS_least ∈ GG := GG_in (k := 265) (by decide +kernel) (by decide +kernel)
theorem se_S_least : Cond.selects RS yS_least yS_least ∈ GG := GG_in (k := 266) (by decide +kernel) (by decide +kernel)
theorem co_S_least : Cond.code yS_least cS_least 2 (some .int) ∈ GG := GG_in (k := 267) (by decide +kernel) (by decide +kernel)
theorem cl_S_95 : Cond.classLink RS 95 "java/lang/IndexOutOfBoundsException" ∈ GG := GG_in (k := 268) (by decide +kernel) (by decide +kernel)
theorem ml_S_99 : Cond.methodLink RS 99 ⟨"java/lang/IndexOutOfBoundsException", "<init>", "(Ljava/lang/String;)V"⟩ ∈ GG := GG_in (k := 278) (by decide +kernel) (by decide +kernel)
theorem ml_L_74 : Cond.methodLink RL 74 yL_must ∈ GG := GG_in (k := 284) (by decide +kernel) (by decide +kernel)
theorem st_L_must : Cond.static yL_must ∈ GG := GG_in (k := 285) (by decide +kernel) (by decide +kernel)
theorem co_L_must : Cond.codeWith yL_must cL_must 4 (some .int) [(0, 9, 12, 19)] ∈ GG := GG_in (k := 286) (by decide +kernel) (by decide +kernel)
theorem ml_L_32 : Cond.methodLink RL 32 yS_must ∈ GG := GG_in (k := 287) (by decide +kernel) (by decide +kernel)
theorem im_S_must : Cond.instanceMethod yS_must ∈ GG := GG_in (k := 288) (by decide +kernel) (by decide +kernel)
theorem se_S_must : Cond.selects RS yS_must yS_must ∈ GG := GG_in (k := 289) (by decide +kernel) (by decide +kernel)
theorem co_S_must : Cond.code yS_must cS_must 4 (some .int) ∈ GG := GG_in (k := 290) (by decide +kernel) (by decide +kernel)
theorem ml_S_100 : Cond.methodLink RS 100 yR_anyWith ∈ GG := GG_in (k := 291) (by decide +kernel) (by decide +kernel)
theorem im_R_anyWith : Cond.instanceMethod yR_anyWith ∈ GG := GG_in (k := 292) (by decide +kernel) (by decide +kernel)
theorem se_R_anyWith : Cond.selects RR yR_anyWith yR_anyWith ∈ GG := GG_in (k := 293) (by decide +kernel) (by decide +kernel)
theorem co_R_anyWith : Cond.code yR_anyWith cR_anyWith 3 (some .boolean) ∈ GG := GG_in (k := 294) (by decide +kernel) (by decide +kernel)
theorem ml_L_77 : Cond.methodLink RL 77 yL_ways ∈ GG := GG_in (k := 295) (by decide +kernel) (by decide +kernel)
theorem st_L_ways : Cond.static yL_ways ∈ GG := GG_in (k := 296) (by decide +kernel) (by decide +kernel)
theorem co_L_ways : Cond.codeWith yL_ways cL_ways 5 (some .int) [(0, 10, 13, 19), (0, 10, 17, 30)] ∈ GG := GG_in (k := 297) (by decide +kernel) (by decide +kernel)
theorem ml_L_35 : Cond.methodLink RL 35 yS_ways ∈ GG := GG_in (k := 298) (by decide +kernel) (by decide +kernel)
theorem im_S_ways : Cond.instanceMethod yS_ways ∈ GG := GG_in (k := 299) (by decide +kernel) (by decide +kernel)
theorem se_S_ways : Cond.selects RS yS_ways yS_ways ∈ GG := GG_in (k := 300) (by decide +kernel) (by decide +kernel)
theorem co_S_ways : Cond.code yS_ways cS_ways 4 (some .int) ∈ GG := GG_in (k := 301) (by decide +kernel) (by decide +kernel)
theorem ml_S_111 : Cond.methodLink RS 111 yR_dropVariable ∈ GG := GG_in (k := 304) (by decide +kernel) (by decide +kernel)
theorem im_R_dropVariable : Cond.instanceMethod yR_dropVariable ∈ GG := GG_in (k := 305) (by decide +kernel) (by decide +kernel)
theorem se_R_dropVariable : Cond.selects RR yR_dropVariable yR_dropVariable ∈ GG := GG_in (k := 306) (by decide +kernel) (by decide +kernel)
theorem co_R_dropVariable : Cond.code yR_dropVariable cR_dropVariable 2 none ∈ GG := GG_in (k := 307) (by decide +kernel) (by decide +kernel)
theorem ml_R_24 : Cond.methodLink RR 24 yR_dropInner ∈ GG := GG_in (k := 308) (by decide +kernel) (by decide +kernel)
theorem im_R_dropInner : Cond.instanceMethod yR_dropInner ∈ GG := GG_in (k := 310) (by decide +kernel) (by decide +kernel)
theorem co_R_dropInner : Cond.code yR_dropInner cR_dropInner 5 none ∈ GG := GG_in (k := 311) (by decide +kernel) (by decide +kernel)
theorem ml_R_28 : Cond.methodLink RR 28 yR_dropOuter ∈ GG := GG_in (k := 312) (by decide +kernel) (by decide +kernel)
theorem im_R_dropOuter : Cond.instanceMethod yR_dropOuter ∈ GG := GG_in (k := 314) (by decide +kernel) (by decide +kernel)
theorem co_R_dropOuter : Cond.code yR_dropOuter cR_dropOuter 4 none ∈ GG := GG_in (k := 315) (by decide +kernel) (by decide +kernel)
theorem ml_S_114 : Cond.methodLink RS 114 yR_count ∈ GG := GG_in (k := 316) (by decide +kernel) (by decide +kernel)
theorem im_R_count : Cond.instanceMethod yR_count ∈ GG := GG_in (k := 317) (by decide +kernel) (by decide +kernel)
theorem se_R_count : Cond.selects RR yR_count yR_count ∈ GG := GG_in (k := 318) (by decide +kernel) (by decide +kernel)
theorem co_R_count : Cond.code yR_count cR_count 3 (some .int) ∈ GG := GG_in (k := 319) (by decide +kernel) (by decide +kernel)
theorem ml_R_40 : Cond.methodLink RR 40 yJ_bitCount ∈ GG := GG_in (k := 320) (by decide +kernel) (by decide +kernel)
theorem st_J_bitCount : Cond.static yJ_bitCount ∈ GG := GG_in (k := 321) (by decide +kernel) (by decide +kernel)
theorem co_J_bitCount : Cond.code yJ_bitCount cJ_bitCount 2 (some .int) ∈ GG := GG_in (k := 322) (by decide +kernel) (by decide +kernel)
theorem cj_J_314 : Cond.constantLong RJ 314 (6148914691236517205) ∈ GG := GG_in (k := 323) (by decide +kernel) (by decide +kernel)
theorem cj_J_316 : Cond.constantLong RJ 316 (3689348814741910323) ∈ GG := GG_in (k := 324) (by decide +kernel) (by decide +kernel)
theorem cj_J_318 : Cond.constantLong RJ 318 (1085102592571150095) ∈ GG := GG_in (k := 325) (by decide +kernel) (by decide +kernel)
theorem cl_L_40 : Cond.classLink RL 40 RM ∈ GG := GG_in (k := 326) (by decide +kernel) (by decide +kernel)
theorem it_M : Cond.instantiable RM 17 ∈ GG := GG_in (k := 327) (by decide +kernel) (by decide +kernel)
theorem ml_L_42 : Cond.methodLink RL 42 yM_init ∈ GG := GG_in (k := 328) (by decide +kernel) (by decide +kernel)
theorem im_M_init : Cond.instanceMethod yM_init ∈ GG := GG_in (k := 329) (by decide +kernel) (by decide +kernel)
theorem co_M_init : Cond.code yM_init cM_init 1 none ∈ GG := GG_in (k := 330) (by decide +kernel) (by decide +kernel)
theorem ml_M_1 : Cond.methodLink RM 1 objectInit ∈ GG := GG_in (k := 331) (by decide +kernel) (by decide +kernel)
theorem ml_M_34 : Cond.methodLink RM 34 yM_clearAll ∈ GG := GG_in (k := 332) (by decide +kernel) (by decide +kernel)
theorem im_M_clearAll : Cond.instanceMethod yM_clearAll ∈ GG := GG_in (k := 334) (by decide +kernel) (by decide +kernel)
theorem co_M_clearAll : Cond.code yM_clearAll cM_clearAll 2 none ∈ GG := GG_in (k := 335) (by decide +kernel) (by decide +kernel)
theorem fl_M_37 : Cond.fieldLink RM 37 "LearningSolverModel" "code" "I" ∈ GG := GG_in (k := 336) (by decide +kernel) (by decide +kernel)
theorem fl_M_41 : Cond.fieldLink RM 41 "LearningSolverModel" "variables" "I" ∈ GG := GG_in (k := 337) (by decide +kernel) (by decide +kernel)
theorem fl_M_44 : Cond.fieldLink RM 44 "LearningSolverModel" "clauses" "I" ∈ GG := GG_in (k := 338) (by decide +kernel) (by decide +kernel)
theorem fl_M_7 : Cond.fieldLink RM 7 "LearningSolverModel" "literals" "[I" ∈ GG := GG_in (k := 339) (by decide +kernel) (by decide +kernel)
theorem fl_M_47 : Cond.fieldLink RM 47 "LearningSolverModel" "used" "I" ∈ GG := GG_in (k := 340) (by decide +kernel) (by decide +kernel)
theorem fl_M_13 : Cond.fieldLink RM 13 "LearningSolverModel" "starts" "[I" ∈ GG := GG_in (k := 341) (by decide +kernel) (by decide +kernel)
theorem fl_M_50 : Cond.fieldLink RM 50 "LearningSolverModel" "drafted" "I" ∈ GG := GG_in (k := 342) (by decide +kernel) (by decide +kernel)
theorem fl_M_16 : Cond.fieldLink RM 16 "LearningSolverModel" "firsts" "[I" ∈ GG := GG_in (k := 343) (by decide +kernel) (by decide +kernel)
theorem fl_M_19 : Cond.fieldLink RM 19 "LearningSolverModel" "nexts" "[I" ∈ GG := GG_in (k := 344) (by decide +kernel) (by decide +kernel)
theorem fl_M_22 : Cond.fieldLink RM 22 "LearningSolverModel" "assumed" "[I" ∈ GG := GG_in (k := 345) (by decide +kernel) (by decide +kernel)
theorem fl_M_53 : Cond.fieldLink RM 53 "LearningSolverModel" "assumptions" "I" ∈ GG := GG_in (k := 346) (by decide +kernel) (by decide +kernel)
theorem fl_M_25 : Cond.fieldLink RM 25 "LearningSolverModel" "forced" "[I" ∈ GG := GG_in (k := 347) (by decide +kernel) (by decide +kernel)
theorem fl_M_28 : Cond.fieldLink RM 28 "LearningSolverModel" "values" "[I" ∈ GG := GG_in (k := 348) (by decide +kernel) (by decide +kernel)
theorem fl_M_56 : Cond.fieldLink RM 56 "LearningSolverModel" "latest" "I" ∈ GG := GG_in (k := 349) (by decide +kernel) (by decide +kernel)
theorem fl_M_82 : Cond.fieldLink RM 82 "LearningSolverModel" "blamed" "I" ∈ GG := GG_in (k := 350) (by decide +kernel) (by decide +kernel)
theorem fl_M_31 : Cond.fieldLink RM 31 "LearningSolverModel" "least" "[I" ∈ GG := GG_in (k := 351) (by decide +kernel) (by decide +kernel)
theorem fl_M_59 : Cond.fieldLink RM 59 "LearningSolverModel" "then" "I" ∈ GG := GG_in (k := 352) (by decide +kernel) (by decide +kernel)
theorem ml_L_49 : Cond.methodLink RL 49 yM_thrown ∈ GG := GG_in (k := 388) (by decide +kernel) (by decide +kernel)
theorem im_M_thrown : Cond.instanceMethod yM_thrown ∈ GG := GG_in (k := 389) (by decide +kernel) (by decide +kernel)
theorem se_M_thrown : Cond.selects RM yM_thrown yM_thrown ∈ GG := GG_in (k := 390) (by decide +kernel) (by decide +kernel)
theorem co_M_thrown : Cond.code yM_thrown cM_thrown 1 (some .int) ∈ GG := GG_in (k := 391) (by decide +kernel) (by decide +kernel)
theorem ml_L_92 : Cond.methodLink RL 92 yM_clear ∈ GG := GG_in (k := 392) (by decide +kernel) (by decide +kernel)
theorem im_M_clear : Cond.instanceMethod yM_clear ∈ GG := GG_in (k := 393) (by decide +kernel) (by decide +kernel)
theorem se_M_clear : Cond.selects RM yM_clear yM_clear ∈ GG := GG_in (k := 394) (by decide +kernel) (by decide +kernel)
theorem co_M_clear : Cond.code yM_clear cM_clear 1 none ∈ GG := GG_in (k := 395) (by decide +kernel) (by decide +kernel)
theorem ml_L_48 : Cond.methodLink RL 48 yM_variable ∈ GG := GG_in (k := 396) (by decide +kernel) (by decide +kernel)
theorem im_M_variable : Cond.instanceMethod yM_variable ∈ GG := GG_in (k := 397) (by decide +kernel) (by decide +kernel)
theorem se_M_variable : Cond.selects RM yM_variable yM_variable ∈ GG := GG_in (k := 398) (by decide +kernel) (by decide +kernel)
theorem co_M_variable : Cond.code yM_variable cM_variable 1 (some .int) ∈ GG := GG_in (k := 399) (by decide +kernel) (by decide +kernel)
theorem ml_L_55 : Cond.methodLink RL 55 yM_literal ∈ GG := GG_in (k := 400) (by decide +kernel) (by decide +kernel)
theorem im_M_literal : Cond.instanceMethod yM_literal ∈ GG := GG_in (k := 401) (by decide +kernel) (by decide +kernel)
theorem se_M_literal : Cond.selects RM yM_literal yM_literal ∈ GG := GG_in (k := 402) (by decide +kernel) (by decide +kernel)
theorem co_M_literal : Cond.code yM_literal cM_literal 2 (some .int) ∈ GG := GG_in (k := 403) (by decide +kernel) (by decide +kernel)
theorem ml_M_62 : Cond.methodLink RM 62 yM_isLiteral ∈ GG := GG_in (k := 404) (by decide +kernel) (by decide +kernel)
theorem im_M_isLiteral : Cond.instanceMethod yM_isLiteral ∈ GG := GG_in (k := 406) (by decide +kernel) (by decide +kernel)
theorem co_M_isLiteral : Cond.code yM_isLiteral cM_isLiteral 2 (some .boolean) ∈ GG := GG_in (k := 407) (by decide +kernel) (by decide +kernel)
theorem ml_L_58 : Cond.methodLink RL 58 yM_close ∈ GG := GG_in (k := 408) (by decide +kernel) (by decide +kernel)
theorem im_M_close : Cond.instanceMethod yM_close ∈ GG := GG_in (k := 409) (by decide +kernel) (by decide +kernel)
theorem se_M_close : Cond.selects RM yM_close yM_close ∈ GG := GG_in (k := 410) (by decide +kernel) (by decide +kernel)
theorem co_M_close : Cond.code yM_close cM_close 3 (some .int) ∈ GG := GG_in (k := 411) (by decide +kernel) (by decide +kernel)
theorem ml_L_61 : Cond.methodLink RL 61 yM_assume ∈ GG := GG_in (k := 412) (by decide +kernel) (by decide +kernel)
theorem im_M_assume : Cond.instanceMethod yM_assume ∈ GG := GG_in (k := 413) (by decide +kernel) (by decide +kernel)
theorem se_M_assume : Cond.selects RM yM_assume yM_assume ∈ GG := GG_in (k := 414) (by decide +kernel) (by decide +kernel)
theorem co_M_assume : Cond.code yM_assume cM_assume 2 (some .int) ∈ GG := GG_in (k := 415) (by decide +kernel) (by decide +kernel)
theorem ml_L_66 : Cond.methodLink RL 66 yM_solve ∈ GG := GG_in (k := 416) (by decide +kernel) (by decide +kernel)
theorem im_M_solve : Cond.instanceMethod yM_solve ∈ GG := GG_in (k := 417) (by decide +kernel) (by decide +kernel)
theorem se_M_solve : Cond.selects RM yM_solve yM_solve ∈ GG := GG_in (k := 418) (by decide +kernel) (by decide +kernel)
theorem co_M_solve : Cond.code yM_solve cM_solve 3 (some .boolean) ∈ GG := GG_in (k := 419) (by decide +kernel) (by decide +kernel)
theorem ml_M_79 : Cond.methodLink RM 79 yM_isSolved ∈ GG := GG_in (k := 420) (by decide +kernel) (by decide +kernel)
theorem im_M_isSolved : Cond.instanceMethod yM_isSolved ∈ GG := GG_in (k := 422) (by decide +kernel) (by decide +kernel)
theorem co_M_isSolved : Cond.code yM_isSolved cM_isSolved 4 (some .boolean) ∈ GG := GG_in (k := 423) (by decide +kernel) (by decide +kernel)
theorem ml_M_69 : Cond.methodLink RM 69 yM_free ∈ GG := GG_in (k := 424) (by decide +kernel) (by decide +kernel)
theorem im_M_free : Cond.instanceMethod yM_free ∈ GG := GG_in (k := 426) (by decide +kernel) (by decide +kernel)
theorem co_M_free : Cond.code yM_free cM_free 2 none ∈ GG := GG_in (k := 427) (by decide +kernel) (by decide +kernel)
theorem ml_M_72 : Cond.methodLink RM 72 yM_force ∈ GG := GG_in (k := 428) (by decide +kernel) (by decide +kernel)
theorem im_M_force : Cond.instanceMethod yM_force ∈ GG := GG_in (k := 430) (by decide +kernel) (by decide +kernel)
theorem co_M_force : Cond.code yM_force cM_force 4 (some .boolean) ∈ GG := GG_in (k := 431) (by decide +kernel) (by decide +kernel)
theorem ml_M_75 : Cond.methodLink RM 75 yM_search ∈ GG := GG_in (k := 432) (by decide +kernel) (by decide +kernel)
theorem im_M_search : Cond.instanceMethod yM_search ∈ GG := GG_in (k := 434) (by decide +kernel) (by decide +kernel)
theorem co_M_search : Cond.code yM_search cM_search 3 (some .boolean) ∈ GG := GG_in (k := 435) (by decide +kernel) (by decide +kernel)
theorem ml_M_66 : Cond.methodLink RM 66 yM_isRight ∈ GG := GG_in (k := 436) (by decide +kernel) (by decide +kernel)
theorem im_M_isRight : Cond.instanceMethod yM_isRight ∈ GG := GG_in (k := 438) (by decide +kernel) (by decide +kernel)
theorem co_M_isRight : Cond.code yM_isRight cM_isRight 5 (some .boolean) ∈ GG := GG_in (k := 439) (by decide +kernel) (by decide +kernel)
theorem ml_L_70 : Cond.methodLink RL 70 yM_blame ∈ GG := GG_in (k := 440) (by decide +kernel) (by decide +kernel)
theorem im_M_blame : Cond.instanceMethod yM_blame ∈ GG := GG_in (k := 441) (by decide +kernel) (by decide +kernel)
theorem se_M_blame : Cond.selects RM yM_blame yM_blame ∈ GG := GG_in (k := 442) (by decide +kernel) (by decide +kernel)
theorem co_M_blame : Cond.code yM_blame cM_blame 1 (some .int) ∈ GG := GG_in (k := 443) (by decide +kernel) (by decide +kernel)
theorem ml_L_73 : Cond.methodLink RL 73 yM_least ∈ GG := GG_in (k := 444) (by decide +kernel) (by decide +kernel)
theorem im_M_least : Cond.instanceMethod yM_least ∈ GG := GG_in (k := 445) (by decide +kernel) (by decide +kernel)
theorem se_M_least : Cond.selects RM yM_least yM_least ∈ GG := GG_in (k := 446) (by decide +kernel) (by decide +kernel)
theorem co_M_least : Cond.code yM_least cM_least 2 (some .int) ∈ GG := GG_in (k := 447) (by decide +kernel) (by decide +kernel)
theorem ml_L_76 : Cond.methodLink RL 76 yM_must ∈ GG := GG_in (k := 448) (by decide +kernel) (by decide +kernel)
theorem im_M_must : Cond.instanceMethod yM_must ∈ GG := GG_in (k := 449) (by decide +kernel) (by decide +kernel)
theorem se_M_must : Cond.selects RM yM_must yM_must ∈ GG := GG_in (k := 450) (by decide +kernel) (by decide +kernel)
theorem co_M_must : Cond.code yM_must cM_must 4 (some .int) ∈ GG := GG_in (k := 451) (by decide +kernel) (by decide +kernel)
theorem ml_L_80 : Cond.methodLink RL 80 yM_ways ∈ GG := GG_in (k := 452) (by decide +kernel) (by decide +kernel)
theorem im_M_ways : Cond.instanceMethod yM_ways ∈ GG := GG_in (k := 453) (by decide +kernel) (by decide +kernel)
theorem se_M_ways : Cond.selects RM yM_ways yM_ways ∈ GG := GG_in (k := 454) (by decide +kernel) (by decide +kernel)
theorem co_M_ways : Cond.code yM_ways cM_ways 6 (some .int) ∈ GG := GG_in (k := 455) (by decide +kernel) (by decide +kernel)
theorem ml_L_84 : Cond.methodLink RL 84 yM_shown ∈ GG := GG_in (k := 456) (by decide +kernel) (by decide +kernel)
theorem im_M_shown : Cond.instanceMethod yM_shown ∈ GG := GG_in (k := 457) (by decide +kernel) (by decide +kernel)
theorem se_M_shown : Cond.selects RM yM_shown yM_shown ∈ GG := GG_in (k := 458) (by decide +kernel) (by decide +kernel)
theorem co_M_shown : Cond.code yM_shown cM_shown 1 (some .boolean) ∈ GG := GG_in (k := 459) (by decide +kernel) (by decide +kernel)
theorem ml_L_88 : Cond.methodLink RL 88 yM_proved ∈ GG := GG_in (k := 460) (by decide +kernel) (by decide +kernel)
theorem im_M_proved : Cond.instanceMethod yM_proved ∈ GG := GG_in (k := 461) (by decide +kernel) (by decide +kernel)
theorem se_M_proved : Cond.selects RM yM_proved yM_proved ∈ GG := GG_in (k := 462) (by decide +kernel) (by decide +kernel)
theorem co_M_proved : Cond.code yM_proved cM_proved 1 (some .boolean) ∈ GG := GG_in (k := 463) (by decide +kernel) (by decide +kernel)
theorem se_S_startAnew : Cond.selects RS yS_startAnew yS_startAnew ∈ GG := GG_se (k := 0) (by decide +kernel) (by decide +kernel)
theorem se_S_narrowToAssumptions : Cond.selects RS yS_narrowToAssumptions yS_narrowToAssumptions ∈ GG := GG_se (k := 1) (by decide +kernel) (by decide +kernel)
theorem se_S_refuseUnknownLiteral : Cond.selects RS yS_refuseUnknownLiteral yS_refuseUnknownLiteral ∈ GG := GG_se (k := 3) (by decide +kernel) (by decide +kernel)
theorem se_R_dropInner : Cond.selects RR yR_dropInner yR_dropInner ∈ GG := GG_se (k := 4) (by decide +kernel) (by decide +kernel)
theorem se_R_dropOuter : Cond.selects RR yR_dropOuter yR_dropOuter ∈ GG := GG_se (k := 5) (by decide +kernel) (by decide +kernel)
theorem se_M_clearAll : Cond.selects RM yM_clearAll yM_clearAll ∈ GG := GG_se (k := 6) (by decide +kernel) (by decide +kernel)
theorem se_M_isLiteral : Cond.selects RM yM_isLiteral yM_isLiteral ∈ GG := GG_se (k := 7) (by decide +kernel) (by decide +kernel)
theorem se_M_isSolved : Cond.selects RM yM_isSolved yM_isSolved ∈ GG := GG_se (k := 8) (by decide +kernel) (by decide +kernel)
theorem se_M_free : Cond.selects RM yM_free yM_free ∈ GG := GG_se (k := 9) (by decide +kernel) (by decide +kernel)
theorem se_M_force : Cond.selects RM yM_force yM_force ∈ GG := GG_se (k := 10) (by decide +kernel) (by decide +kernel)
theorem se_M_search : Cond.selects RM yM_search yM_search ∈ GG := GG_se (k := 11) (by decide +kernel) (by decide +kernel)
theorem se_M_isRight : Cond.selects RM yM_isRight yM_isRight ∈ GG := GG_se (k := 12) (by decide +kernel) (by decide +kernel)
theorem lyR : ∀ w ∈ u_ws RR TR 2, w ∈ GG := by decide +kernel
theorem lyS : ∀ w ∈ u_ws RS TS 13, w ∈ GG := by decide +kernel
theorem lyM : ∀ w ∈ u_ws RM TM 17, w ∈ GG := by decide +kernel
end
section
theorem dJ_bitCount_0 : decode cJ_bitCount 0 = .ok (.lload_n 0, 1) := by decide +kernel
theorem dJ_bitCount_1 : decode cJ_bitCount 1 = .ok (.lload_n 0, 1) := by decide +kernel
theorem dJ_bitCount_2 : decode cJ_bitCount 2 = .ok (.iconst 1, 1) := by decide +kernel
theorem dJ_bitCount_3 : decode cJ_bitCount 3 = .ok (.lushr, 1) := by decide +kernel
theorem dJ_bitCount_4 : decode cJ_bitCount 4 = .ok (.ldc2_w 314, 3) := by decide +kernel
theorem dJ_bitCount_7 : decode cJ_bitCount 7 = .ok (.land, 1) := by decide +kernel
theorem dJ_bitCount_8 : decode cJ_bitCount 8 = .ok (.lsub, 1) := by decide +kernel
theorem dJ_bitCount_9 : decode cJ_bitCount 9 = .ok (.lstore_n 0, 1) := by decide +kernel
theorem dJ_bitCount_10 : decode cJ_bitCount 10 = .ok (.lload_n 0, 1) := by decide +kernel
theorem dJ_bitCount_11 : decode cJ_bitCount 11 = .ok (.ldc2_w 316, 3) := by decide +kernel
theorem dJ_bitCount_14 : decode cJ_bitCount 14 = .ok (.land, 1) := by decide +kernel
theorem dJ_bitCount_15 : decode cJ_bitCount 15 = .ok (.lload_n 0, 1) := by decide +kernel
theorem dJ_bitCount_16 : decode cJ_bitCount 16 = .ok (.iconst 2, 1) := by decide +kernel
theorem dJ_bitCount_17 : decode cJ_bitCount 17 = .ok (.lushr, 1) := by decide +kernel
theorem dJ_bitCount_18 : decode cJ_bitCount 18 = .ok (.ldc2_w 316, 3) := by decide +kernel
theorem dJ_bitCount_21 : decode cJ_bitCount 21 = .ok (.land, 1) := by decide +kernel
theorem dJ_bitCount_22 : decode cJ_bitCount 22 = .ok (.ladd, 1) := by decide +kernel
theorem dJ_bitCount_23 : decode cJ_bitCount 23 = .ok (.lstore_n 0, 1) := by decide +kernel
theorem dJ_bitCount_24 : decode cJ_bitCount 24 = .ok (.lload_n 0, 1) := by decide +kernel
theorem dJ_bitCount_25 : decode cJ_bitCount 25 = .ok (.lload_n 0, 1) := by decide +kernel
theorem dJ_bitCount_26 : decode cJ_bitCount 26 = .ok (.iconst 4, 1) := by decide +kernel
theorem dJ_bitCount_27 : decode cJ_bitCount 27 = .ok (.lushr, 1) := by decide +kernel
theorem dJ_bitCount_28 : decode cJ_bitCount 28 = .ok (.ladd, 1) := by decide +kernel
theorem dJ_bitCount_29 : decode cJ_bitCount 29 = .ok (.ldc2_w 318, 3) := by decide +kernel
theorem dJ_bitCount_32 : decode cJ_bitCount 32 = .ok (.land, 1) := by decide +kernel
theorem dJ_bitCount_33 : decode cJ_bitCount 33 = .ok (.lstore_n 0, 1) := by decide +kernel
theorem dJ_bitCount_34 : decode cJ_bitCount 34 = .ok (.lload_n 0, 1) := by decide +kernel
theorem dJ_bitCount_35 : decode cJ_bitCount 35 = .ok (.lload_n 0, 1) := by decide +kernel
theorem dJ_bitCount_36 : decode cJ_bitCount 36 = .ok (.bipush 8, 2) := by decide +kernel
theorem dJ_bitCount_38 : decode cJ_bitCount 38 = .ok (.lushr, 1) := by decide +kernel
theorem dJ_bitCount_39 : decode cJ_bitCount 39 = .ok (.ladd, 1) := by decide +kernel
theorem dJ_bitCount_40 : decode cJ_bitCount 40 = .ok (.lstore_n 0, 1) := by decide +kernel
theorem dJ_bitCount_41 : decode cJ_bitCount 41 = .ok (.lload_n 0, 1) := by decide +kernel
theorem dJ_bitCount_42 : decode cJ_bitCount 42 = .ok (.lload_n 0, 1) := by decide +kernel
theorem dJ_bitCount_43 : decode cJ_bitCount 43 = .ok (.bipush 16, 2) := by decide +kernel
theorem dJ_bitCount_45 : decode cJ_bitCount 45 = .ok (.lushr, 1) := by decide +kernel
theorem dJ_bitCount_46 : decode cJ_bitCount 46 = .ok (.ladd, 1) := by decide +kernel
theorem dJ_bitCount_47 : decode cJ_bitCount 47 = .ok (.lstore_n 0, 1) := by decide +kernel
theorem dJ_bitCount_48 : decode cJ_bitCount 48 = .ok (.lload_n 0, 1) := by decide +kernel
theorem dJ_bitCount_49 : decode cJ_bitCount 49 = .ok (.lload_n 0, 1) := by decide +kernel
theorem dJ_bitCount_50 : decode cJ_bitCount 50 = .ok (.bipush 32, 2) := by decide +kernel
theorem dJ_bitCount_52 : decode cJ_bitCount 52 = .ok (.lushr, 1) := by decide +kernel
theorem dJ_bitCount_53 : decode cJ_bitCount 53 = .ok (.ladd, 1) := by decide +kernel
theorem dJ_bitCount_54 : decode cJ_bitCount 54 = .ok (.lstore_n 0, 1) := by decide +kernel
theorem dJ_bitCount_55 : decode cJ_bitCount 55 = .ok (.lload_n 0, 1) := by decide +kernel
theorem dJ_bitCount_56 : decode cJ_bitCount 56 = .ok (.l2i, 1) := by decide +kernel
theorem dJ_bitCount_57 : decode cJ_bitCount 57 = .ok (.bipush 127, 2) := by decide +kernel
theorem dJ_bitCount_59 : decode cJ_bitCount 59 = .ok (.iand, 1) := by decide +kernel
theorem dJ_bitCount_60 : decode cJ_bitCount 60 = .ok (.ireturn, 1) := by decide +kernel
theorem dL_assume_0 : decode cL_assume 0 = .ok (.aload_n 2, 1) := by decide +kernel
theorem dL_assume_1 : decode cL_assume 1 = .ok (.iconst 0, 1) := by decide +kernel
theorem dL_assume_2 : decode cL_assume 2 = .ok (.aload_n 0, 1) := by decide +kernel
theorem dL_assume_3 : decode cL_assume 3 = .ok (.iload_n 1, 1) := by decide +kernel
theorem dL_assume_4 : decode cL_assume 4 = .ok (.invokevirtual 24, 3) := by decide +kernel
theorem dL_assume_7 : decode cL_assume 7 = .ok (.i2l, 1) := by decide +kernel
theorem dL_assume_8 : decode cL_assume 8 = .ok (.lastore, 1) := by decide +kernel
theorem dL_assume_9 : decode cL_assume 9 = .ok (.goto 9, 3) := by decide +kernel
theorem dL_assume_12 : decode cL_assume 12 = .ok (.astore_n 3, 1) := by decide +kernel
theorem dL_assume_13 : decode cL_assume 13 = .ok (.iconst 1, 1) := by decide +kernel
theorem dL_assume_14 : decode cL_assume 14 = .ok (.ireturn, 1) := by decide +kernel
theorem dL_assume_15 : decode cL_assume 15 = .ok (.astore_n 3, 1) := by decide +kernel
theorem dL_assume_16 : decode cL_assume 16 = .ok (.iconst 2, 1) := by decide +kernel
theorem dL_assume_17 : decode cL_assume 17 = .ok (.ireturn, 1) := by decide +kernel
theorem dL_assume_18 : decode cL_assume 18 = .ok (.iconst 0, 1) := by decide +kernel
theorem dL_assume_19 : decode cL_assume 19 = .ok (.ireturn, 1) := by decide +kernel
theorem dL_close_0 : decode cL_close 0 = .ok (.aload_n 1, 1) := by decide +kernel
theorem dL_close_1 : decode cL_close 1 = .ok (.iconst 0, 1) := by decide +kernel
theorem dL_close_2 : decode cL_close 2 = .ok (.aload_n 0, 1) := by decide +kernel
theorem dL_close_3 : decode cL_close 3 = .ok (.invokevirtual 21, 3) := by decide +kernel
theorem dL_close_6 : decode cL_close 6 = .ok (.i2l, 1) := by decide +kernel
theorem dL_close_7 : decode cL_close 7 = .ok (.lastore, 1) := by decide +kernel
theorem dL_close_8 : decode cL_close 8 = .ok (.goto 6, 3) := by decide +kernel
theorem dL_close_11 : decode cL_close 11 = .ok (.astore_n 2, 1) := by decide +kernel
theorem dL_close_12 : decode cL_close 12 = .ok (.iconst 1, 1) := by decide +kernel
theorem dL_close_13 : decode cL_close 13 = .ok (.ireturn, 1) := by decide +kernel
theorem dL_close_14 : decode cL_close 14 = .ok (.iconst 0, 1) := by decide +kernel
theorem dL_close_15 : decode cL_close 15 = .ok (.ireturn, 1) := by decide +kernel
theorem dL_law_0 : decode cL_law 0 = .ok (.new 8, 3) := by decide +kernel
theorem dL_law_3 : decode cL_law 3 = .ok (.dup, 1) := by decide +kernel
theorem dL_law_4 : decode cL_law 4 = .ok (.invokespecial 39, 3) := by decide +kernel
theorem dL_law_7 : decode cL_law 7 = .ok (.astore_n 1, 1) := by decide +kernel
theorem dL_law_8 : decode cL_law 8 = .ok (.new 40, 3) := by decide +kernel
theorem dL_law_11 : decode cL_law 11 = .ok (.dup, 1) := by decide +kernel
theorem dL_law_12 : decode cL_law 12 = .ok (.invokespecial 42, 3) := by decide +kernel
theorem dL_law_15 : decode cL_law 15 = .ok (.astore_n 2, 1) := by decide +kernel
theorem dL_law_16 : decode cL_law 16 = .ok (.iconst 1, 1) := by decide +kernel
theorem dL_law_17 : decode cL_law 17 = .ok (.newarray .long, 2) := by decide +kernel
theorem dL_law_19 : decode cL_law 19 = .ok (.astore_n 3, 1) := by decide +kernel
theorem dL_law_20 : decode cL_law 20 = .ok (.iconst 0, 1) := by decide +kernel
theorem dL_law_21 : decode cL_law 21 = .ok (.istore 4, 2) := by decide +kernel
theorem dL_law_23 : decode cL_law 23 = .ok (.iload 4, 2) := by decide +kernel
theorem dL_law_25 : decode cL_law 25 = .ok (.aload_n 0, 1) := by decide +kernel
theorem dL_law_26 : decode cL_law 26 = .ok (.arraylength, 1) := by decide +kernel
theorem dL_law_27 : decode cL_law 27 = .ok (.iconst 3, 1) := by decide +kernel
theorem dL_law_28 : decode cL_law 28 = .ok (.isub, 1) := by decide +kernel
theorem dL_law_29 : decode cL_law 29 = .ok (.if_icmp .gt 520, 3) := by decide +kernel
theorem dL_law_32 : decode cL_law 32 = .ok (.aload_n 0, 1) := by decide +kernel
theorem dL_law_33 : decode cL_law 33 = .ok (.iload 4, 2) := by decide +kernel
theorem dL_law_35 : decode cL_law 35 = .ok (.iaload, 1) := by decide +kernel
theorem dL_law_36 : decode cL_law 36 = .ok (.bipush 15, 2) := by decide +kernel
theorem dL_law_38 : decode cL_law 38 = .ok (.iand, 1) := by decide +kernel
theorem dL_law_39 : decode cL_law 39 = .ok (.tableswitch 504 0 11 #[61, 105, 161, 205, 261, 274, 287, 343, 399, 467, 480, 493], 61) := by decide +kernel
theorem dL_law_100 : decode cL_law 100 = .ok (.aload_n 1, 1) := by decide +kernel
theorem dL_law_101 : decode cL_law 101 = .ok (.aload_n 3, 1) := by decide +kernel
theorem dL_law_102 : decode cL_law 102 = .ok (.invokestatic 43, 3) := by decide +kernel
theorem dL_law_105 : decode cL_law 105 = .ok (.istore 5, 2) := by decide +kernel
theorem dL_law_107 : decode cL_law 107 = .ok (.aload_n 2, 1) := by decide +kernel
theorem dL_law_108 : decode cL_law 108 = .ok (.invokevirtual 48, 3) := by decide +kernel
theorem dL_law_111 : decode cL_law 111 = .ok (.istore 6, 2) := by decide +kernel
theorem dL_law_113 : decode cL_law 113 = .ok (.aload_n 2, 1) := by decide +kernel
theorem dL_law_114 : decode cL_law 114 = .ok (.invokevirtual 49, 3) := by decide +kernel
theorem dL_law_117 : decode cL_law 117 = .ok (.iload 5, 2) := by decide +kernel
theorem dL_law_119 : decode cL_law 119 = .ok (.if_icmp .eq 5, 3) := by decide +kernel
theorem dL_law_122 : decode cL_law 122 = .ok (.iconst 0, 1) := by decide +kernel
theorem dL_law_123 : decode cL_law 123 = .ok (.ireturn, 1) := by decide +kernel
theorem dL_law_124 : decode cL_law 124 = .ok (.iload 5, 2) := by decide +kernel
theorem dL_law_126 : decode cL_law 126 = .ok (.ifCond .ne 15, 3) := by decide +kernel
theorem dL_law_129 : decode cL_law 129 = .ok (.aload_n 3, 1) := by decide +kernel
theorem dL_law_130 : decode cL_law 130 = .ok (.iconst 0, 1) := by decide +kernel
theorem dL_law_131 : decode cL_law 131 = .ok (.laload, 1) := by decide +kernel
theorem dL_law_132 : decode cL_law 132 = .ok (.iload 6, 2) := by decide +kernel
theorem dL_law_134 : decode cL_law 134 = .ok (.i2l, 1) := by decide +kernel
theorem dL_law_135 : decode cL_law 135 = .ok (.lcmp, 1) := by decide +kernel
theorem dL_law_136 : decode cL_law 136 = .ok (.ifCond .eq 5, 3) := by decide +kernel
theorem dL_law_139 : decode cL_law 139 = .ok (.iconst 0, 1) := by decide +kernel
theorem dL_law_140 : decode cL_law 140 = .ok (.ireturn, 1) := by decide +kernel
theorem dL_law_141 : decode cL_law 141 = .ok (.goto 402, 3) := by decide +kernel
theorem dL_law_144 : decode cL_law 144 = .ok (.aload_n 1, 1) := by decide +kernel
theorem dL_law_145 : decode cL_law 145 = .ok (.aload_n 0, 1) := by decide +kernel
theorem dL_law_146 : decode cL_law 146 = .ok (.iload 4, 2) := by decide +kernel
theorem dL_law_148 : decode cL_law 148 = .ok (.iconst 1, 1) := by decide +kernel
theorem dL_law_149 : decode cL_law 149 = .ok (.iadd, 1) := by decide +kernel
theorem dL_law_150 : decode cL_law 150 = .ok (.iaload, 1) := by decide +kernel
theorem dL_law_151 : decode cL_law 151 = .ok (.aload_n 3, 1) := by decide +kernel
theorem dL_law_152 : decode cL_law 152 = .ok (.invokestatic 52, 3) := by decide +kernel
theorem dL_law_155 : decode cL_law 155 = .ok (.istore 5, 2) := by decide +kernel
theorem dL_law_157 : decode cL_law 157 = .ok (.aload_n 2, 1) := by decide +kernel
theorem dL_law_158 : decode cL_law 158 = .ok (.aload_n 0, 1) := by decide +kernel
theorem dL_law_159 : decode cL_law 159 = .ok (.iload 4, 2) := by decide +kernel
theorem dL_law_161 : decode cL_law 161 = .ok (.iconst 1, 1) := by decide +kernel
theorem dL_law_162 : decode cL_law 162 = .ok (.iadd, 1) := by decide +kernel
theorem dL_law_163 : decode cL_law 163 = .ok (.iaload, 1) := by decide +kernel
theorem dL_law_164 : decode cL_law 164 = .ok (.invokevirtual 55, 3) := by decide +kernel
theorem dL_law_167 : decode cL_law 167 = .ok (.istore 6, 2) := by decide +kernel
theorem dL_law_169 : decode cL_law 169 = .ok (.aload_n 2, 1) := by decide +kernel
theorem dL_law_170 : decode cL_law 170 = .ok (.invokevirtual 49, 3) := by decide +kernel
theorem dL_law_173 : decode cL_law 173 = .ok (.iload 5, 2) := by decide +kernel
theorem dL_law_175 : decode cL_law 175 = .ok (.if_icmp .eq 5, 3) := by decide +kernel
theorem dL_law_178 : decode cL_law 178 = .ok (.iconst 0, 1) := by decide +kernel
theorem dL_law_179 : decode cL_law 179 = .ok (.ireturn, 1) := by decide +kernel
theorem dL_law_180 : decode cL_law 180 = .ok (.iload 5, 2) := by decide +kernel
theorem dL_law_182 : decode cL_law 182 = .ok (.ifCond .ne 15, 3) := by decide +kernel
theorem dL_law_185 : decode cL_law 185 = .ok (.aload_n 3, 1) := by decide +kernel
theorem dL_law_186 : decode cL_law 186 = .ok (.iconst 0, 1) := by decide +kernel
theorem dL_law_187 : decode cL_law 187 = .ok (.laload, 1) := by decide +kernel
theorem dL_law_188 : decode cL_law 188 = .ok (.iload 6, 2) := by decide +kernel
theorem dL_law_190 : decode cL_law 190 = .ok (.i2l, 1) := by decide +kernel
theorem dL_law_191 : decode cL_law 191 = .ok (.lcmp, 1) := by decide +kernel
theorem dL_law_192 : decode cL_law 192 = .ok (.ifCond .eq 5, 3) := by decide +kernel
theorem dL_law_195 : decode cL_law 195 = .ok (.iconst 0, 1) := by decide +kernel
theorem dL_law_196 : decode cL_law 196 = .ok (.ireturn, 1) := by decide +kernel
theorem dL_law_197 : decode cL_law 197 = .ok (.goto 346, 3) := by decide +kernel
theorem dL_law_200 : decode cL_law 200 = .ok (.aload_n 1, 1) := by decide +kernel
theorem dL_law_201 : decode cL_law 201 = .ok (.aload_n 3, 1) := by decide +kernel
theorem dL_law_202 : decode cL_law 202 = .ok (.invokestatic 56, 3) := by decide +kernel
theorem dL_law_205 : decode cL_law 205 = .ok (.istore 5, 2) := by decide +kernel
theorem dL_law_207 : decode cL_law 207 = .ok (.aload_n 2, 1) := by decide +kernel
theorem dL_law_208 : decode cL_law 208 = .ok (.invokevirtual 58, 3) := by decide +kernel
theorem dL_law_211 : decode cL_law 211 = .ok (.istore 6, 2) := by decide +kernel
theorem dL_law_213 : decode cL_law 213 = .ok (.aload_n 2, 1) := by decide +kernel
theorem dL_law_214 : decode cL_law 214 = .ok (.invokevirtual 49, 3) := by decide +kernel
theorem dL_law_217 : decode cL_law 217 = .ok (.iload 5, 2) := by decide +kernel
theorem dL_law_219 : decode cL_law 219 = .ok (.if_icmp .eq 5, 3) := by decide +kernel
theorem dL_law_222 : decode cL_law 222 = .ok (.iconst 0, 1) := by decide +kernel
theorem dL_law_223 : decode cL_law 223 = .ok (.ireturn, 1) := by decide +kernel
theorem dL_law_224 : decode cL_law 224 = .ok (.iload 5, 2) := by decide +kernel
theorem dL_law_226 : decode cL_law 226 = .ok (.ifCond .ne 15, 3) := by decide +kernel
theorem dL_law_229 : decode cL_law 229 = .ok (.aload_n 3, 1) := by decide +kernel
theorem dL_law_230 : decode cL_law 230 = .ok (.iconst 0, 1) := by decide +kernel
theorem dL_law_231 : decode cL_law 231 = .ok (.laload, 1) := by decide +kernel
theorem dL_law_232 : decode cL_law 232 = .ok (.iload 6, 2) := by decide +kernel
theorem dL_law_234 : decode cL_law 234 = .ok (.i2l, 1) := by decide +kernel
theorem dL_law_235 : decode cL_law 235 = .ok (.lcmp, 1) := by decide +kernel
theorem dL_law_236 : decode cL_law 236 = .ok (.ifCond .eq 5, 3) := by decide +kernel
theorem dL_law_239 : decode cL_law 239 = .ok (.iconst 0, 1) := by decide +kernel
theorem dL_law_240 : decode cL_law 240 = .ok (.ireturn, 1) := by decide +kernel
theorem dL_law_241 : decode cL_law 241 = .ok (.goto 302, 3) := by decide +kernel
theorem dL_law_244 : decode cL_law 244 = .ok (.aload_n 1, 1) := by decide +kernel
theorem dL_law_245 : decode cL_law 245 = .ok (.aload_n 0, 1) := by decide +kernel
theorem dL_law_246 : decode cL_law 246 = .ok (.iload 4, 2) := by decide +kernel
theorem dL_law_248 : decode cL_law 248 = .ok (.iconst 1, 1) := by decide +kernel
theorem dL_law_249 : decode cL_law 249 = .ok (.iadd, 1) := by decide +kernel
theorem dL_law_250 : decode cL_law 250 = .ok (.iaload, 1) := by decide +kernel
theorem dL_law_251 : decode cL_law 251 = .ok (.aload_n 3, 1) := by decide +kernel
theorem dL_law_252 : decode cL_law 252 = .ok (.invokestatic 59, 3) := by decide +kernel
theorem dL_law_255 : decode cL_law 255 = .ok (.istore 5, 2) := by decide +kernel
theorem dL_law_257 : decode cL_law 257 = .ok (.aload_n 2, 1) := by decide +kernel
theorem dL_law_258 : decode cL_law 258 = .ok (.aload_n 0, 1) := by decide +kernel
theorem dL_law_259 : decode cL_law 259 = .ok (.iload 4, 2) := by decide +kernel
theorem dL_law_261 : decode cL_law 261 = .ok (.iconst 1, 1) := by decide +kernel
theorem dL_law_262 : decode cL_law 262 = .ok (.iadd, 1) := by decide +kernel
theorem dL_law_263 : decode cL_law 263 = .ok (.iaload, 1) := by decide +kernel
theorem dL_law_264 : decode cL_law 264 = .ok (.invokevirtual 61, 3) := by decide +kernel
theorem dL_law_267 : decode cL_law 267 = .ok (.istore 6, 2) := by decide +kernel
theorem dL_law_269 : decode cL_law 269 = .ok (.aload_n 2, 1) := by decide +kernel
theorem dL_law_270 : decode cL_law 270 = .ok (.invokevirtual 49, 3) := by decide +kernel
theorem dL_law_273 : decode cL_law 273 = .ok (.iload 5, 2) := by decide +kernel
theorem dL_law_275 : decode cL_law 275 = .ok (.if_icmp .eq 5, 3) := by decide +kernel
theorem dL_law_278 : decode cL_law 278 = .ok (.iconst 0, 1) := by decide +kernel
theorem dL_law_279 : decode cL_law 279 = .ok (.ireturn, 1) := by decide +kernel
theorem dL_law_280 : decode cL_law 280 = .ok (.iload 5, 2) := by decide +kernel
theorem dL_law_282 : decode cL_law 282 = .ok (.ifCond .ne 15, 3) := by decide +kernel
theorem dL_law_285 : decode cL_law 285 = .ok (.aload_n 3, 1) := by decide +kernel
theorem dL_law_286 : decode cL_law 286 = .ok (.iconst 0, 1) := by decide +kernel
theorem dL_law_287 : decode cL_law 287 = .ok (.laload, 1) := by decide +kernel
theorem dL_law_288 : decode cL_law 288 = .ok (.iload 6, 2) := by decide +kernel
theorem dL_law_290 : decode cL_law 290 = .ok (.i2l, 1) := by decide +kernel
theorem dL_law_291 : decode cL_law 291 = .ok (.lcmp, 1) := by decide +kernel
theorem dL_law_292 : decode cL_law 292 = .ok (.ifCond .eq 5, 3) := by decide +kernel
theorem dL_law_295 : decode cL_law 295 = .ok (.iconst 0, 1) := by decide +kernel
theorem dL_law_296 : decode cL_law 296 = .ok (.ireturn, 1) := by decide +kernel
theorem dL_law_297 : decode cL_law 297 = .ok (.goto 246, 3) := by decide +kernel
theorem dL_law_300 : decode cL_law 300 = .ok (.aload_n 1, 1) := by decide +kernel
theorem dL_law_301 : decode cL_law 301 = .ok (.invokevirtual 62, 3) := by decide +kernel
theorem dL_law_304 : decode cL_law 304 = .ok (.aload_n 2, 1) := by decide +kernel
theorem dL_law_305 : decode cL_law 305 = .ok (.invokevirtual 66, 3) := by decide +kernel
theorem dL_law_308 : decode cL_law 308 = .ok (.if_icmp .eq 235, 3) := by decide +kernel
theorem dL_law_311 : decode cL_law 311 = .ok (.iconst 0, 1) := by decide +kernel
theorem dL_law_312 : decode cL_law 312 = .ok (.ireturn, 1) := by decide +kernel
theorem dL_law_313 : decode cL_law 313 = .ok (.aload_n 1, 1) := by decide +kernel
theorem dL_law_314 : decode cL_law 314 = .ok (.invokevirtual 67, 3) := by decide +kernel
theorem dL_law_317 : decode cL_law 317 = .ok (.aload_n 2, 1) := by decide +kernel
theorem dL_law_318 : decode cL_law 318 = .ok (.invokevirtual 70, 3) := by decide +kernel
theorem dL_law_321 : decode cL_law 321 = .ok (.if_icmp .eq 222, 3) := by decide +kernel
theorem dL_law_324 : decode cL_law 324 = .ok (.iconst 0, 1) := by decide +kernel
theorem dL_law_325 : decode cL_law 325 = .ok (.ireturn, 1) := by decide +kernel
theorem dL_law_326 : decode cL_law 326 = .ok (.aload_n 1, 1) := by decide +kernel
theorem dL_law_327 : decode cL_law 327 = .ok (.aload_n 0, 1) := by decide +kernel
theorem dL_law_328 : decode cL_law 328 = .ok (.iload 4, 2) := by decide +kernel
theorem dL_law_330 : decode cL_law 330 = .ok (.iconst 1, 1) := by decide +kernel
theorem dL_law_331 : decode cL_law 331 = .ok (.iadd, 1) := by decide +kernel
theorem dL_law_332 : decode cL_law 332 = .ok (.iaload, 1) := by decide +kernel
theorem dL_law_333 : decode cL_law 333 = .ok (.aload_n 3, 1) := by decide +kernel
theorem dL_law_334 : decode cL_law 334 = .ok (.invokestatic 71, 3) := by decide +kernel
theorem dL_law_337 : decode cL_law 337 = .ok (.istore 5, 2) := by decide +kernel
theorem dL_law_339 : decode cL_law 339 = .ok (.aload_n 2, 1) := by decide +kernel
theorem dL_law_340 : decode cL_law 340 = .ok (.aload_n 0, 1) := by decide +kernel
theorem dL_law_341 : decode cL_law 341 = .ok (.iload 4, 2) := by decide +kernel
theorem dL_law_343 : decode cL_law 343 = .ok (.iconst 1, 1) := by decide +kernel
theorem dL_law_344 : decode cL_law 344 = .ok (.iadd, 1) := by decide +kernel
theorem dL_law_345 : decode cL_law 345 = .ok (.iaload, 1) := by decide +kernel
theorem dL_law_346 : decode cL_law 346 = .ok (.invokevirtual 73, 3) := by decide +kernel
theorem dL_law_349 : decode cL_law 349 = .ok (.istore 6, 2) := by decide +kernel
theorem dL_law_351 : decode cL_law 351 = .ok (.aload_n 2, 1) := by decide +kernel
theorem dL_law_352 : decode cL_law 352 = .ok (.invokevirtual 49, 3) := by decide +kernel
theorem dL_law_355 : decode cL_law 355 = .ok (.iload 5, 2) := by decide +kernel
theorem dL_law_357 : decode cL_law 357 = .ok (.if_icmp .eq 5, 3) := by decide +kernel
theorem dL_law_360 : decode cL_law 360 = .ok (.iconst 0, 1) := by decide +kernel
theorem dL_law_361 : decode cL_law 361 = .ok (.ireturn, 1) := by decide +kernel
theorem dL_law_362 : decode cL_law 362 = .ok (.iload 5, 2) := by decide +kernel
theorem dL_law_364 : decode cL_law 364 = .ok (.ifCond .ne 15, 3) := by decide +kernel
theorem dL_law_367 : decode cL_law 367 = .ok (.aload_n 3, 1) := by decide +kernel
theorem dL_law_368 : decode cL_law 368 = .ok (.iconst 0, 1) := by decide +kernel
theorem dL_law_369 : decode cL_law 369 = .ok (.laload, 1) := by decide +kernel
theorem dL_law_370 : decode cL_law 370 = .ok (.iload 6, 2) := by decide +kernel
theorem dL_law_372 : decode cL_law 372 = .ok (.i2l, 1) := by decide +kernel
theorem dL_law_373 : decode cL_law 373 = .ok (.lcmp, 1) := by decide +kernel
theorem dL_law_374 : decode cL_law 374 = .ok (.ifCond .eq 5, 3) := by decide +kernel
theorem dL_law_377 : decode cL_law 377 = .ok (.iconst 0, 1) := by decide +kernel
theorem dL_law_378 : decode cL_law 378 = .ok (.ireturn, 1) := by decide +kernel
theorem dL_law_379 : decode cL_law 379 = .ok (.goto 164, 3) := by decide +kernel
theorem dL_law_382 : decode cL_law 382 = .ok (.aload_n 1, 1) := by decide +kernel
theorem dL_law_383 : decode cL_law 383 = .ok (.aload_n 0, 1) := by decide +kernel
theorem dL_law_384 : decode cL_law 384 = .ok (.iload 4, 2) := by decide +kernel
theorem dL_law_386 : decode cL_law 386 = .ok (.iconst 1, 1) := by decide +kernel
theorem dL_law_387 : decode cL_law 387 = .ok (.iadd, 1) := by decide +kernel
theorem dL_law_388 : decode cL_law 388 = .ok (.iaload, 1) := by decide +kernel
theorem dL_law_389 : decode cL_law 389 = .ok (.aload_n 3, 1) := by decide +kernel
theorem dL_law_390 : decode cL_law 390 = .ok (.invokestatic 74, 3) := by decide +kernel
theorem dL_law_393 : decode cL_law 393 = .ok (.istore 5, 2) := by decide +kernel
theorem dL_law_395 : decode cL_law 395 = .ok (.aload_n 2, 1) := by decide +kernel
theorem dL_law_396 : decode cL_law 396 = .ok (.aload_n 0, 1) := by decide +kernel
theorem dL_law_397 : decode cL_law 397 = .ok (.iload 4, 2) := by decide +kernel
theorem dL_law_399 : decode cL_law 399 = .ok (.iconst 1, 1) := by decide +kernel
theorem dL_law_400 : decode cL_law 400 = .ok (.iadd, 1) := by decide +kernel
theorem dL_law_401 : decode cL_law 401 = .ok (.iaload, 1) := by decide +kernel
theorem dL_law_402 : decode cL_law 402 = .ok (.invokevirtual 76, 3) := by decide +kernel
theorem dL_law_405 : decode cL_law 405 = .ok (.istore 6, 2) := by decide +kernel
theorem dL_law_407 : decode cL_law 407 = .ok (.aload_n 2, 1) := by decide +kernel
theorem dL_law_408 : decode cL_law 408 = .ok (.invokevirtual 49, 3) := by decide +kernel
theorem dL_law_411 : decode cL_law 411 = .ok (.iload 5, 2) := by decide +kernel
theorem dL_law_413 : decode cL_law 413 = .ok (.if_icmp .eq 5, 3) := by decide +kernel
theorem dL_law_416 : decode cL_law 416 = .ok (.iconst 0, 1) := by decide +kernel
theorem dL_law_417 : decode cL_law 417 = .ok (.ireturn, 1) := by decide +kernel
theorem dL_law_418 : decode cL_law 418 = .ok (.iload 5, 2) := by decide +kernel
theorem dL_law_420 : decode cL_law 420 = .ok (.ifCond .ne 15, 3) := by decide +kernel
theorem dL_law_423 : decode cL_law 423 = .ok (.aload_n 3, 1) := by decide +kernel
theorem dL_law_424 : decode cL_law 424 = .ok (.iconst 0, 1) := by decide +kernel
theorem dL_law_425 : decode cL_law 425 = .ok (.laload, 1) := by decide +kernel
theorem dL_law_426 : decode cL_law 426 = .ok (.iload 6, 2) := by decide +kernel
theorem dL_law_428 : decode cL_law 428 = .ok (.i2l, 1) := by decide +kernel
theorem dL_law_429 : decode cL_law 429 = .ok (.lcmp, 1) := by decide +kernel
theorem dL_law_430 : decode cL_law 430 = .ok (.ifCond .eq 5, 3) := by decide +kernel
theorem dL_law_433 : decode cL_law 433 = .ok (.iconst 0, 1) := by decide +kernel
theorem dL_law_434 : decode cL_law 434 = .ok (.ireturn, 1) := by decide +kernel
theorem dL_law_435 : decode cL_law 435 = .ok (.goto 108, 3) := by decide +kernel
theorem dL_law_438 : decode cL_law 438 = .ok (.aload_n 1, 1) := by decide +kernel
theorem dL_law_439 : decode cL_law 439 = .ok (.aload_n 0, 1) := by decide +kernel
theorem dL_law_440 : decode cL_law 440 = .ok (.iload 4, 2) := by decide +kernel
theorem dL_law_442 : decode cL_law 442 = .ok (.iconst 1, 1) := by decide +kernel
theorem dL_law_443 : decode cL_law 443 = .ok (.iadd, 1) := by decide +kernel
theorem dL_law_444 : decode cL_law 444 = .ok (.iaload, 1) := by decide +kernel
theorem dL_law_445 : decode cL_law 445 = .ok (.aload_n 0, 1) := by decide +kernel
theorem dL_law_446 : decode cL_law 446 = .ok (.iload 4, 2) := by decide +kernel
theorem dL_law_448 : decode cL_law 448 = .ok (.iconst 2, 1) := by decide +kernel
theorem dL_law_449 : decode cL_law 449 = .ok (.iadd, 1) := by decide +kernel
theorem dL_law_450 : decode cL_law 450 = .ok (.iaload, 1) := by decide +kernel
theorem dL_law_451 : decode cL_law 451 = .ok (.aload_n 3, 1) := by decide +kernel
theorem dL_law_452 : decode cL_law 452 = .ok (.invokestatic 77, 3) := by decide +kernel
theorem dL_law_455 : decode cL_law 455 = .ok (.istore 5, 2) := by decide +kernel
theorem dL_law_457 : decode cL_law 457 = .ok (.aload_n 2, 1) := by decide +kernel
theorem dL_law_458 : decode cL_law 458 = .ok (.aload_n 0, 1) := by decide +kernel
theorem dL_law_459 : decode cL_law 459 = .ok (.iload 4, 2) := by decide +kernel
theorem dL_law_461 : decode cL_law 461 = .ok (.iconst 1, 1) := by decide +kernel
theorem dL_law_462 : decode cL_law 462 = .ok (.iadd, 1) := by decide +kernel
theorem dL_law_463 : decode cL_law 463 = .ok (.iaload, 1) := by decide +kernel
theorem dL_law_464 : decode cL_law 464 = .ok (.aload_n 0, 1) := by decide +kernel
theorem dL_law_465 : decode cL_law 465 = .ok (.iload 4, 2) := by decide +kernel
theorem dL_law_467 : decode cL_law 467 = .ok (.iconst 2, 1) := by decide +kernel
theorem dL_law_468 : decode cL_law 468 = .ok (.iadd, 1) := by decide +kernel
theorem dL_law_469 : decode cL_law 469 = .ok (.iaload, 1) := by decide +kernel
theorem dL_law_470 : decode cL_law 470 = .ok (.invokevirtual 80, 3) := by decide +kernel
theorem dL_law_473 : decode cL_law 473 = .ok (.istore 6, 2) := by decide +kernel
theorem dL_law_475 : decode cL_law 475 = .ok (.aload_n 2, 1) := by decide +kernel
theorem dL_law_476 : decode cL_law 476 = .ok (.invokevirtual 49, 3) := by decide +kernel
theorem dL_law_479 : decode cL_law 479 = .ok (.iload 5, 2) := by decide +kernel
theorem dL_law_481 : decode cL_law 481 = .ok (.if_icmp .eq 5, 3) := by decide +kernel
theorem dL_law_484 : decode cL_law 484 = .ok (.iconst 0, 1) := by decide +kernel
theorem dL_law_485 : decode cL_law 485 = .ok (.ireturn, 1) := by decide +kernel
theorem dL_law_486 : decode cL_law 486 = .ok (.iload 5, 2) := by decide +kernel
theorem dL_law_488 : decode cL_law 488 = .ok (.ifCond .ne 15, 3) := by decide +kernel
theorem dL_law_491 : decode cL_law 491 = .ok (.aload_n 3, 1) := by decide +kernel
theorem dL_law_492 : decode cL_law 492 = .ok (.iconst 0, 1) := by decide +kernel
theorem dL_law_493 : decode cL_law 493 = .ok (.laload, 1) := by decide +kernel
theorem dL_law_494 : decode cL_law 494 = .ok (.iload 6, 2) := by decide +kernel
theorem dL_law_496 : decode cL_law 496 = .ok (.i2l, 1) := by decide +kernel
theorem dL_law_497 : decode cL_law 497 = .ok (.lcmp, 1) := by decide +kernel
theorem dL_law_498 : decode cL_law 498 = .ok (.ifCond .eq 5, 3) := by decide +kernel
theorem dL_law_501 : decode cL_law 501 = .ok (.iconst 0, 1) := by decide +kernel
theorem dL_law_502 : decode cL_law 502 = .ok (.ireturn, 1) := by decide +kernel
theorem dL_law_503 : decode cL_law 503 = .ok (.goto 40, 3) := by decide +kernel
theorem dL_law_506 : decode cL_law 506 = .ok (.aload_n 1, 1) := by decide +kernel
theorem dL_law_507 : decode cL_law 507 = .ok (.invokevirtual 81, 3) := by decide +kernel
theorem dL_law_510 : decode cL_law 510 = .ok (.aload_n 2, 1) := by decide +kernel
theorem dL_law_511 : decode cL_law 511 = .ok (.invokevirtual 84, 3) := by decide +kernel
theorem dL_law_514 : decode cL_law 514 = .ok (.if_icmp .eq 29, 3) := by decide +kernel
theorem dL_law_517 : decode cL_law 517 = .ok (.iconst 0, 1) := by decide +kernel
theorem dL_law_518 : decode cL_law 518 = .ok (.ireturn, 1) := by decide +kernel
theorem dL_law_519 : decode cL_law 519 = .ok (.aload_n 1, 1) := by decide +kernel
theorem dL_law_520 : decode cL_law 520 = .ok (.invokevirtual 85, 3) := by decide +kernel
theorem dL_law_523 : decode cL_law 523 = .ok (.aload_n 2, 1) := by decide +kernel
theorem dL_law_524 : decode cL_law 524 = .ok (.invokevirtual 88, 3) := by decide +kernel
theorem dL_law_527 : decode cL_law 527 = .ok (.if_icmp .eq 16, 3) := by decide +kernel
theorem dL_law_530 : decode cL_law 530 = .ok (.iconst 0, 1) := by decide +kernel
theorem dL_law_531 : decode cL_law 531 = .ok (.ireturn, 1) := by decide +kernel
theorem dL_law_532 : decode cL_law 532 = .ok (.aload_n 1, 1) := by decide +kernel
theorem dL_law_533 : decode cL_law 533 = .ok (.invokevirtual 89, 3) := by decide +kernel
theorem dL_law_536 : decode cL_law 536 = .ok (.aload_n 2, 1) := by decide +kernel
theorem dL_law_537 : decode cL_law 537 = .ok (.invokevirtual 92, 3) := by decide +kernel
theorem dL_law_540 : decode cL_law 540 = .ok (.goto 3, 3) := by decide +kernel
theorem dL_law_543 : decode cL_law 543 = .ok (.iinc 4 3, 3) := by decide +kernel
theorem dL_law_546 : decode cL_law 546 = .ok (.goto (-523), 3) := by decide +kernel
theorem dL_law_549 : decode cL_law 549 = .ok (.iconst 1, 1) := by decide +kernel
theorem dL_law_550 : decode cL_law 550 = .ok (.ireturn, 1) := by decide +kernel
theorem dL_least_0 : decode cL_least 0 = .ok (.aload_n 2, 1) := by decide +kernel
theorem dL_least_1 : decode cL_least 1 = .ok (.iconst 0, 1) := by decide +kernel
theorem dL_least_2 : decode cL_least 2 = .ok (.aload_n 0, 1) := by decide +kernel
theorem dL_least_3 : decode cL_least 3 = .ok (.iload_n 1, 1) := by decide +kernel
theorem dL_least_4 : decode cL_least 4 = .ok (.invokevirtual 27, 3) := by decide +kernel
theorem dL_least_7 : decode cL_least 7 = .ok (.i2l, 1) := by decide +kernel
theorem dL_least_8 : decode cL_least 8 = .ok (.lastore, 1) := by decide +kernel
theorem dL_least_9 : decode cL_least 9 = .ok (.goto 6, 3) := by decide +kernel
theorem dL_least_12 : decode cL_least 12 = .ok (.astore_n 3, 1) := by decide +kernel
theorem dL_least_13 : decode cL_least 13 = .ok (.iconst 1, 1) := by decide +kernel
theorem dL_least_14 : decode cL_least 14 = .ok (.ireturn, 1) := by decide +kernel
theorem dL_least_15 : decode cL_least 15 = .ok (.iconst 0, 1) := by decide +kernel
theorem dL_least_16 : decode cL_least 16 = .ok (.ireturn, 1) := by decide +kernel
theorem dL_literal_0 : decode cL_literal 0 = .ok (.aload_n 2, 1) := by decide +kernel
theorem dL_literal_1 : decode cL_literal 1 = .ok (.iconst 0, 1) := by decide +kernel
theorem dL_literal_2 : decode cL_literal 2 = .ok (.aload_n 0, 1) := by decide +kernel
theorem dL_literal_3 : decode cL_literal 3 = .ok (.iload_n 1, 1) := by decide +kernel
theorem dL_literal_4 : decode cL_literal 4 = .ok (.invokevirtual 15, 3) := by decide +kernel
theorem dL_literal_7 : decode cL_literal 7 = .ok (.i2l, 1) := by decide +kernel
theorem dL_literal_8 : decode cL_literal 8 = .ok (.lastore, 1) := by decide +kernel
theorem dL_literal_9 : decode cL_literal 9 = .ok (.goto 9, 3) := by decide +kernel
theorem dL_literal_12 : decode cL_literal 12 = .ok (.astore_n 3, 1) := by decide +kernel
theorem dL_literal_13 : decode cL_literal 13 = .ok (.iconst 1, 1) := by decide +kernel
theorem dL_literal_14 : decode cL_literal 14 = .ok (.ireturn, 1) := by decide +kernel
theorem dL_literal_15 : decode cL_literal 15 = .ok (.astore_n 3, 1) := by decide +kernel
theorem dL_literal_16 : decode cL_literal 16 = .ok (.iconst 2, 1) := by decide +kernel
theorem dL_literal_17 : decode cL_literal 17 = .ok (.ireturn, 1) := by decide +kernel
theorem dL_literal_18 : decode cL_literal 18 = .ok (.iconst 0, 1) := by decide +kernel
theorem dL_literal_19 : decode cL_literal 19 = .ok (.ireturn, 1) := by decide +kernel
theorem dL_must_0 : decode cL_must 0 = .ok (.aload_n 2, 1) := by decide +kernel
theorem dL_must_1 : decode cL_must 1 = .ok (.iconst 0, 1) := by decide +kernel
theorem dL_must_2 : decode cL_must 2 = .ok (.aload_n 0, 1) := by decide +kernel
theorem dL_must_3 : decode cL_must 3 = .ok (.iload_n 1, 1) := by decide +kernel
theorem dL_must_4 : decode cL_must 4 = .ok (.invokevirtual 32, 3) := by decide +kernel
theorem dL_must_7 : decode cL_must 7 = .ok (.i2l, 1) := by decide +kernel
theorem dL_must_8 : decode cL_must 8 = .ok (.lastore, 1) := by decide +kernel
theorem dL_must_9 : decode cL_must 9 = .ok (.goto 6, 3) := by decide +kernel
theorem dL_must_12 : decode cL_must 12 = .ok (.astore_n 3, 1) := by decide +kernel
theorem dL_must_13 : decode cL_must 13 = .ok (.iconst 1, 1) := by decide +kernel
theorem dL_must_14 : decode cL_must 14 = .ok (.ireturn, 1) := by decide +kernel
theorem dL_must_15 : decode cL_must 15 = .ok (.iconst 0, 1) := by decide +kernel
theorem dL_must_16 : decode cL_must 16 = .ok (.ireturn, 1) := by decide +kernel
theorem dL_variable_0 : decode cL_variable 0 = .ok (.aload_n 1, 1) := by decide +kernel
theorem dL_variable_1 : decode cL_variable 1 = .ok (.iconst 0, 1) := by decide +kernel
theorem dL_variable_2 : decode cL_variable 2 = .ok (.aload_n 0, 1) := by decide +kernel
theorem dL_variable_3 : decode cL_variable 3 = .ok (.invokevirtual 7, 3) := by decide +kernel
theorem dL_variable_6 : decode cL_variable 6 = .ok (.i2l, 1) := by decide +kernel
theorem dL_variable_7 : decode cL_variable 7 = .ok (.lastore, 1) := by decide +kernel
theorem dL_variable_8 : decode cL_variable 8 = .ok (.goto 6, 3) := by decide +kernel
theorem dL_variable_11 : decode cL_variable 11 = .ok (.astore_n 2, 1) := by decide +kernel
theorem dL_variable_12 : decode cL_variable 12 = .ok (.iconst 1, 1) := by decide +kernel
theorem dL_variable_13 : decode cL_variable 13 = .ok (.ireturn, 1) := by decide +kernel
theorem dL_variable_14 : decode cL_variable 14 = .ok (.iconst 0, 1) := by decide +kernel
theorem dL_variable_15 : decode cL_variable 15 = .ok (.ireturn, 1) := by decide +kernel
theorem dL_ways_0 : decode cL_ways 0 = .ok (.aload_n 3, 1) := by decide +kernel
theorem dL_ways_1 : decode cL_ways 1 = .ok (.iconst 0, 1) := by decide +kernel
theorem dL_ways_2 : decode cL_ways 2 = .ok (.aload_n 0, 1) := by decide +kernel
theorem dL_ways_3 : decode cL_ways 3 = .ok (.iload_n 1, 1) := by decide +kernel
theorem dL_ways_4 : decode cL_ways 4 = .ok (.iload_n 2, 1) := by decide +kernel
theorem dL_ways_5 : decode cL_ways 5 = .ok (.invokevirtual 35, 3) := by decide +kernel
theorem dL_ways_8 : decode cL_ways 8 = .ok (.i2l, 1) := by decide +kernel
theorem dL_ways_9 : decode cL_ways 9 = .ok (.lastore, 1) := by decide +kernel
theorem dL_ways_10 : decode cL_ways 10 = .ok (.goto 11, 3) := by decide +kernel
theorem dL_ways_13 : decode cL_ways 13 = .ok (.astore 4, 2) := by decide +kernel
theorem dL_ways_15 : decode cL_ways 15 = .ok (.iconst 1, 1) := by decide +kernel
theorem dL_ways_16 : decode cL_ways 16 = .ok (.ireturn, 1) := by decide +kernel
theorem dL_ways_17 : decode cL_ways 17 = .ok (.astore 4, 2) := by decide +kernel
theorem dL_ways_19 : decode cL_ways 19 = .ok (.iconst 2, 1) := by decide +kernel
theorem dL_ways_20 : decode cL_ways 20 = .ok (.ireturn, 1) := by decide +kernel
theorem dL_ways_21 : decode cL_ways 21 = .ok (.iconst 0, 1) := by decide +kernel
theorem dL_ways_22 : decode cL_ways 22 = .ok (.ireturn, 1) := by decide +kernel
theorem dM_assume_0 : decode cM_assume 0 = .ok (.aload_n 0, 1) := by decide +kernel
theorem dM_assume_1 : decode cM_assume 1 = .ok (.aload_n 0, 1) := by decide +kernel
theorem dM_assume_2 : decode cM_assume 2 = .ok (.iload_n 1, 1) := by decide +kernel
theorem dM_assume_3 : decode cM_assume 3 = .ok (.invokevirtual 62, 3) := by decide +kernel
theorem dM_assume_6 : decode cM_assume 6 = .ok (.ifCond .ne 7, 3) := by decide +kernel
theorem dM_assume_9 : decode cM_assume 9 = .ok (.iconst 1, 1) := by decide +kernel
theorem dM_assume_10 : decode cM_assume 10 = .ok (.goto 17, 3) := by decide +kernel
theorem dM_assume_13 : decode cM_assume 13 = .ok (.aload_n 0, 1) := by decide +kernel
theorem dM_assume_14 : decode cM_assume 14 = .ok (.getfield 53, 3) := by decide +kernel
theorem dM_assume_17 : decode cM_assume 17 = .ok (.bipush 64, 2) := by decide +kernel
theorem dM_assume_19 : decode cM_assume 19 = .ok (.if_icmp .ne 7, 3) := by decide +kernel
theorem dM_assume_22 : decode cM_assume 22 = .ok (.iconst 2, 1) := by decide +kernel
theorem dM_assume_23 : decode cM_assume 23 = .ok (.goto 4, 3) := by decide +kernel
theorem dM_assume_26 : decode cM_assume 26 = .ok (.iconst 0, 1) := by decide +kernel
theorem dM_assume_27 : decode cM_assume 27 = .ok (.putfield 37, 3) := by decide +kernel
theorem dM_assume_30 : decode cM_assume 30 = .ok (.aload_n 0, 1) := by decide +kernel
theorem dM_assume_31 : decode cM_assume 31 = .ok (.getfield 37, 3) := by decide +kernel
theorem dM_assume_34 : decode cM_assume 34 = .ok (.ifCond .le 5, 3) := by decide +kernel
theorem dM_assume_37 : decode cM_assume 37 = .ok (.iconst 0, 1) := by decide +kernel
theorem dM_assume_38 : decode cM_assume 38 = .ok (.ireturn, 1) := by decide +kernel
theorem dM_assume_39 : decode cM_assume 39 = .ok (.aload_n 0, 1) := by decide +kernel
theorem dM_assume_40 : decode cM_assume 40 = .ok (.getfield 22, 3) := by decide +kernel
theorem dM_assume_43 : decode cM_assume 43 = .ok (.aload_n 0, 1) := by decide +kernel
theorem dM_assume_44 : decode cM_assume 44 = .ok (.getfield 53, 3) := by decide +kernel
theorem dM_assume_47 : decode cM_assume 47 = .ok (.iload_n 1, 1) := by decide +kernel
theorem dM_assume_48 : decode cM_assume 48 = .ok (.iastore, 1) := by decide +kernel
theorem dM_assume_49 : decode cM_assume 49 = .ok (.aload_n 0, 1) := by decide +kernel
theorem dM_assume_50 : decode cM_assume 50 = .ok (.dup, 1) := by decide +kernel
theorem dM_assume_51 : decode cM_assume 51 = .ok (.getfield 53, 3) := by decide +kernel
theorem dM_assume_54 : decode cM_assume 54 = .ok (.iconst 1, 1) := by decide +kernel
theorem dM_assume_55 : decode cM_assume 55 = .ok (.iadd, 1) := by decide +kernel
theorem dM_assume_56 : decode cM_assume 56 = .ok (.putfield 53, 3) := by decide +kernel
theorem dM_assume_59 : decode cM_assume 59 = .ok (.aload_n 0, 1) := by decide +kernel
theorem dM_assume_60 : decode cM_assume 60 = .ok (.getfield 53, 3) := by decide +kernel
theorem dM_assume_63 : decode cM_assume 63 = .ok (.ireturn, 1) := by decide +kernel
theorem dM_blame_0 : decode cM_blame 0 = .ok (.aload_n 0, 1) := by decide +kernel
theorem dM_blame_1 : decode cM_blame 1 = .ok (.iconst 0, 1) := by decide +kernel
theorem dM_blame_2 : decode cM_blame 2 = .ok (.putfield 37, 3) := by decide +kernel
theorem dM_blame_5 : decode cM_blame 5 = .ok (.aload_n 0, 1) := by decide +kernel
theorem dM_blame_6 : decode cM_blame 6 = .ok (.getfield 56, 3) := by decide +kernel
theorem dM_blame_9 : decode cM_blame 9 = .ok (.iconst 2, 1) := by decide +kernel
theorem dM_blame_10 : decode cM_blame 10 = .ok (.if_icmp .ne 10, 3) := by decide +kernel
theorem dM_blame_13 : decode cM_blame 13 = .ok (.aload_n 0, 1) := by decide +kernel
theorem dM_blame_14 : decode cM_blame 14 = .ok (.getfield 82, 3) := by decide +kernel
theorem dM_blame_17 : decode cM_blame 17 = .ok (.goto 4, 3) := by decide +kernel
theorem dM_blame_20 : decode cM_blame 20 = .ok (.iconst (-1), 1) := by decide +kernel
theorem dM_blame_21 : decode cM_blame 21 = .ok (.ireturn, 1) := by decide +kernel
theorem dM_clear_0 : decode cM_clear 0 = .ok (.aload_n 0, 1) := by decide +kernel
theorem dM_clear_1 : decode cM_clear 1 = .ok (.iconst 0, 1) := by decide +kernel
theorem dM_clear_2 : decode cM_clear 2 = .ok (.putfield 37, 3) := by decide +kernel
theorem dM_clear_5 : decode cM_clear 5 = .ok (.aload_n 0, 1) := by decide +kernel
theorem dM_clear_6 : decode cM_clear 6 = .ok (.invokevirtual 34, 3) := by decide +kernel
theorem dM_clear_9 : decode cM_clear 9 = .ok (.return_, 1) := by decide +kernel
theorem dM_clearAll_0 : decode cM_clearAll 0 = .ok (.aload_n 0, 1) := by decide +kernel
theorem dM_clearAll_1 : decode cM_clearAll 1 = .ok (.iconst 0, 1) := by decide +kernel
end
section
theorem dM_clearAll_2 : decode cM_clearAll 2 = .ok (.putfield 41, 3) := by decide +kernel
theorem dM_clearAll_5 : decode cM_clearAll 5 = .ok (.aload_n 0, 1) := by decide +kernel
theorem dM_clearAll_6 : decode cM_clearAll 6 = .ok (.iconst 0, 1) := by decide +kernel
theorem dM_clearAll_7 : decode cM_clearAll 7 = .ok (.putfield 44, 3) := by decide +kernel
theorem dM_clearAll_10 : decode cM_clearAll 10 = .ok (.aload_n 0, 1) := by decide +kernel
theorem dM_clearAll_11 : decode cM_clearAll 11 = .ok (.iconst 0, 1) := by decide +kernel
theorem dM_clearAll_12 : decode cM_clearAll 12 = .ok (.putfield 47, 3) := by decide +kernel
theorem dM_clearAll_15 : decode cM_clearAll 15 = .ok (.aload_n 0, 1) := by decide +kernel
theorem dM_clearAll_16 : decode cM_clearAll 16 = .ok (.iconst 0, 1) := by decide +kernel
theorem dM_clearAll_17 : decode cM_clearAll 17 = .ok (.putfield 50, 3) := by decide +kernel
theorem dM_clearAll_20 : decode cM_clearAll 20 = .ok (.aload_n 0, 1) := by decide +kernel
theorem dM_clearAll_21 : decode cM_clearAll 21 = .ok (.iconst 0, 1) := by decide +kernel
theorem dM_clearAll_22 : decode cM_clearAll 22 = .ok (.putfield 53, 3) := by decide +kernel
theorem dM_clearAll_25 : decode cM_clearAll 25 = .ok (.aload_n 0, 1) := by decide +kernel
theorem dM_clearAll_26 : decode cM_clearAll 26 = .ok (.iconst 0, 1) := by decide +kernel
theorem dM_clearAll_27 : decode cM_clearAll 27 = .ok (.putfield 56, 3) := by decide +kernel
theorem dM_clearAll_30 : decode cM_clearAll 30 = .ok (.aload_n 0, 1) := by decide +kernel
theorem dM_clearAll_31 : decode cM_clearAll 31 = .ok (.iconst 0, 1) := by decide +kernel
theorem dM_clearAll_32 : decode cM_clearAll 32 = .ok (.putfield 59, 3) := by decide +kernel
theorem dM_clearAll_35 : decode cM_clearAll 35 = .ok (.iconst 0, 1) := by decide +kernel
theorem dM_clearAll_36 : decode cM_clearAll 36 = .ok (.istore_n 1, 1) := by decide +kernel
theorem dM_clearAll_37 : decode cM_clearAll 37 = .ok (.iload_n 1, 1) := by decide +kernel
theorem dM_clearAll_38 : decode cM_clearAll 38 = .ok (.bipush 17, 2) := by decide +kernel
theorem dM_clearAll_40 : decode cM_clearAll 40 = .ok (.if_icmp .ge 16, 3) := by decide +kernel
theorem dM_clearAll_43 : decode cM_clearAll 43 = .ok (.aload_n 0, 1) := by decide +kernel
theorem dM_clearAll_44 : decode cM_clearAll 44 = .ok (.getfield 16, 3) := by decide +kernel
theorem dM_clearAll_47 : decode cM_clearAll 47 = .ok (.iload_n 1, 1) := by decide +kernel
theorem dM_clearAll_48 : decode cM_clearAll 48 = .ok (.iconst (-1), 1) := by decide +kernel
theorem dM_clearAll_49 : decode cM_clearAll 49 = .ok (.iastore, 1) := by decide +kernel
theorem dM_clearAll_50 : decode cM_clearAll 50 = .ok (.iinc 1 1, 3) := by decide +kernel
theorem dM_clearAll_53 : decode cM_clearAll 53 = .ok (.goto (-16), 3) := by decide +kernel
theorem dM_clearAll_56 : decode cM_clearAll 56 = .ok (.return_, 1) := by decide +kernel
theorem dM_close_0 : decode cM_close 0 = .ok (.aload_n 0, 1) := by decide +kernel
theorem dM_close_1 : decode cM_close 1 = .ok (.aload_n 0, 1) := by decide +kernel
theorem dM_close_2 : decode cM_close 2 = .ok (.getfield 44, 3) := by decide +kernel
theorem dM_close_5 : decode cM_close 5 = .ok (.sipush 500, 3) := by decide +kernel
theorem dM_close_8 : decode cM_close 8 = .ok (.if_icmp .ne 7, 3) := by decide +kernel
theorem dM_close_11 : decode cM_close 11 = .ok (.iconst 1, 1) := by decide +kernel
theorem dM_close_12 : decode cM_close 12 = .ok (.goto 4, 3) := by decide +kernel
theorem dM_close_15 : decode cM_close 15 = .ok (.iconst 0, 1) := by decide +kernel
theorem dM_close_16 : decode cM_close 16 = .ok (.putfield 37, 3) := by decide +kernel
theorem dM_close_19 : decode cM_close 19 = .ok (.aload_n 0, 1) := by decide +kernel
theorem dM_close_20 : decode cM_close 20 = .ok (.getfield 37, 3) := by decide +kernel
theorem dM_close_23 : decode cM_close 23 = .ok (.ifCond .le 5, 3) := by decide +kernel
theorem dM_close_26 : decode cM_close 26 = .ok (.iconst 0, 1) := by decide +kernel
theorem dM_close_27 : decode cM_close 27 = .ok (.ireturn, 1) := by decide +kernel
theorem dM_close_28 : decode cM_close 28 = .ok (.iconst (-1), 1) := by decide +kernel
theorem dM_close_29 : decode cM_close 29 = .ok (.istore_n 1, 1) := by decide +kernel
theorem dM_close_30 : decode cM_close 30 = .ok (.aload_n 0, 1) := by decide +kernel
theorem dM_close_31 : decode cM_close 31 = .ok (.getfield 47, 3) := by decide +kernel
theorem dM_close_34 : decode cM_close 34 = .ok (.istore_n 2, 1) := by decide +kernel
theorem dM_close_35 : decode cM_close 35 = .ok (.iload_n 2, 1) := by decide +kernel
theorem dM_close_36 : decode cM_close 36 = .ok (.aload_n 0, 1) := by decide +kernel
theorem dM_close_37 : decode cM_close 37 = .ok (.getfield 47, 3) := by decide +kernel
theorem dM_close_40 : decode cM_close 40 = .ok (.aload_n 0, 1) := by decide +kernel
theorem dM_close_41 : decode cM_close 41 = .ok (.getfield 50, 3) := by decide +kernel
theorem dM_close_44 : decode cM_close 44 = .ok (.iadd, 1) := by decide +kernel
theorem dM_close_45 : decode cM_close 45 = .ok (.if_icmp .ge 34, 3) := by decide +kernel
theorem dM_close_48 : decode cM_close 48 = .ok (.aload_n 0, 1) := by decide +kernel
theorem dM_close_49 : decode cM_close 49 = .ok (.getfield 7, 3) := by decide +kernel
theorem dM_close_52 : decode cM_close 52 = .ok (.iload_n 2, 1) := by decide +kernel
theorem dM_close_53 : decode cM_close 53 = .ok (.iaload, 1) := by decide +kernel
theorem dM_close_54 : decode cM_close 54 = .ok (.iconst 2, 1) := by decide +kernel
theorem dM_close_55 : decode cM_close 55 = .ok (.idiv, 1) := by decide +kernel
theorem dM_close_56 : decode cM_close 56 = .ok (.iload_n 1, 1) := by decide +kernel
theorem dM_close_57 : decode cM_close 57 = .ok (.if_icmp .le 14, 3) := by decide +kernel
theorem dM_close_60 : decode cM_close 60 = .ok (.aload_n 0, 1) := by decide +kernel
theorem dM_close_61 : decode cM_close 61 = .ok (.getfield 7, 3) := by decide +kernel
theorem dM_close_64 : decode cM_close 64 = .ok (.iload_n 2, 1) := by decide +kernel
theorem dM_close_65 : decode cM_close 65 = .ok (.iaload, 1) := by decide +kernel
theorem dM_close_66 : decode cM_close 66 = .ok (.iconst 2, 1) := by decide +kernel
theorem dM_close_67 : decode cM_close 67 = .ok (.idiv, 1) := by decide +kernel
theorem dM_close_68 : decode cM_close 68 = .ok (.goto 4, 3) := by decide +kernel
theorem dM_close_71 : decode cM_close 71 = .ok (.iload_n 1, 1) := by decide +kernel
theorem dM_close_72 : decode cM_close 72 = .ok (.istore_n 1, 1) := by decide +kernel
theorem dM_close_73 : decode cM_close 73 = .ok (.iinc 2 1, 3) := by decide +kernel
theorem dM_close_76 : decode cM_close 76 = .ok (.goto (-41), 3) := by decide +kernel
theorem dM_close_79 : decode cM_close 79 = .ok (.iload_n 1, 1) := by decide +kernel
theorem dM_close_80 : decode cM_close 80 = .ok (.iconst (-1), 1) := by decide +kernel
theorem dM_close_81 : decode cM_close 81 = .ok (.if_icmp .ne 8, 3) := by decide +kernel
theorem dM_close_84 : decode cM_close 84 = .ok (.bipush 16, 2) := by decide +kernel
theorem dM_close_86 : decode cM_close 86 = .ok (.goto 4, 3) := by decide +kernel
theorem dM_close_89 : decode cM_close 89 = .ok (.iload_n 1, 1) := by decide +kernel
theorem dM_close_90 : decode cM_close 90 = .ok (.istore_n 1, 1) := by decide +kernel
theorem dM_close_91 : decode cM_close 91 = .ok (.aload_n 0, 1) := by decide +kernel
theorem dM_close_92 : decode cM_close 92 = .ok (.getfield 13, 3) := by decide +kernel
theorem dM_close_95 : decode cM_close 95 = .ok (.aload_n 0, 1) := by decide +kernel
theorem dM_close_96 : decode cM_close 96 = .ok (.getfield 44, 3) := by decide +kernel
theorem dM_close_99 : decode cM_close 99 = .ok (.aload_n 0, 1) := by decide +kernel
theorem dM_close_100 : decode cM_close 100 = .ok (.getfield 47, 3) := by decide +kernel
theorem dM_close_103 : decode cM_close 103 = .ok (.iastore, 1) := by decide +kernel
theorem dM_close_104 : decode cM_close 104 = .ok (.aload_n 0, 1) := by decide +kernel
theorem dM_close_105 : decode cM_close 105 = .ok (.getfield 19, 3) := by decide +kernel
theorem dM_close_108 : decode cM_close 108 = .ok (.aload_n 0, 1) := by decide +kernel
theorem dM_close_109 : decode cM_close 109 = .ok (.getfield 44, 3) := by decide +kernel
theorem dM_close_112 : decode cM_close 112 = .ok (.aload_n 0, 1) := by decide +kernel
theorem dM_close_113 : decode cM_close 113 = .ok (.getfield 16, 3) := by decide +kernel
theorem dM_close_116 : decode cM_close 116 = .ok (.iload_n 1, 1) := by decide +kernel
theorem dM_close_117 : decode cM_close 117 = .ok (.iaload, 1) := by decide +kernel
theorem dM_close_118 : decode cM_close 118 = .ok (.iastore, 1) := by decide +kernel
theorem dM_close_119 : decode cM_close 119 = .ok (.aload_n 0, 1) := by decide +kernel
theorem dM_close_120 : decode cM_close 120 = .ok (.getfield 16, 3) := by decide +kernel
theorem dM_close_123 : decode cM_close 123 = .ok (.iload_n 1, 1) := by decide +kernel
theorem dM_close_124 : decode cM_close 124 = .ok (.aload_n 0, 1) := by decide +kernel
theorem dM_close_125 : decode cM_close 125 = .ok (.getfield 44, 3) := by decide +kernel
theorem dM_close_128 : decode cM_close 128 = .ok (.iastore, 1) := by decide +kernel
theorem dM_close_129 : decode cM_close 129 = .ok (.aload_n 0, 1) := by decide +kernel
theorem dM_close_130 : decode cM_close 130 = .ok (.dup, 1) := by decide +kernel
theorem dM_close_131 : decode cM_close 131 = .ok (.getfield 47, 3) := by decide +kernel
theorem dM_close_134 : decode cM_close 134 = .ok (.aload_n 0, 1) := by decide +kernel
theorem dM_close_135 : decode cM_close 135 = .ok (.getfield 50, 3) := by decide +kernel
theorem dM_close_138 : decode cM_close 138 = .ok (.iadd, 1) := by decide +kernel
theorem dM_close_139 : decode cM_close 139 = .ok (.putfield 47, 3) := by decide +kernel
theorem dM_close_142 : decode cM_close 142 = .ok (.aload_n 0, 1) := by decide +kernel
theorem dM_close_143 : decode cM_close 143 = .ok (.iconst 0, 1) := by decide +kernel
theorem dM_close_144 : decode cM_close 144 = .ok (.putfield 50, 3) := by decide +kernel
theorem dM_close_147 : decode cM_close 147 = .ok (.aload_n 0, 1) := by decide +kernel
theorem dM_close_148 : decode cM_close 148 = .ok (.dup, 1) := by decide +kernel
theorem dM_close_149 : decode cM_close 149 = .ok (.getfield 44, 3) := by decide +kernel
theorem dM_close_152 : decode cM_close 152 = .ok (.iconst 1, 1) := by decide +kernel
theorem dM_close_153 : decode cM_close 153 = .ok (.iadd, 1) := by decide +kernel
theorem dM_close_154 : decode cM_close 154 = .ok (.putfield 44, 3) := by decide +kernel
theorem dM_close_157 : decode cM_close 157 = .ok (.aload_n 0, 1) := by decide +kernel
theorem dM_close_158 : decode cM_close 158 = .ok (.getfield 13, 3) := by decide +kernel
theorem dM_close_161 : decode cM_close 161 = .ok (.aload_n 0, 1) := by decide +kernel
theorem dM_close_162 : decode cM_close 162 = .ok (.getfield 44, 3) := by decide +kernel
theorem dM_close_165 : decode cM_close 165 = .ok (.aload_n 0, 1) := by decide +kernel
theorem dM_close_166 : decode cM_close 166 = .ok (.getfield 47, 3) := by decide +kernel
theorem dM_close_169 : decode cM_close 169 = .ok (.iastore, 1) := by decide +kernel
theorem dM_close_170 : decode cM_close 170 = .ok (.aload_n 0, 1) := by decide +kernel
theorem dM_close_171 : decode cM_close 171 = .ok (.getfield 44, 3) := by decide +kernel
theorem dM_close_174 : decode cM_close 174 = .ok (.ireturn, 1) := by decide +kernel
theorem dM_force_0 : decode cM_force 0 = .ok (.iconst 1, 1) := by decide +kernel
theorem dM_force_1 : decode cM_force 1 = .ok (.iload_n 1, 1) := by decide +kernel
theorem dM_force_2 : decode cM_force 2 = .ok (.iconst 2, 1) := by decide +kernel
theorem dM_force_3 : decode cM_force 3 = .ok (.irem, 1) := by decide +kernel
theorem dM_force_4 : decode cM_force 4 = .ok (.isub, 1) := by decide +kernel
theorem dM_force_5 : decode cM_force 5 = .ok (.istore_n 2, 1) := by decide +kernel
theorem dM_force_6 : decode cM_force 6 = .ok (.aload_n 0, 1) := by decide +kernel
theorem dM_force_7 : decode cM_force 7 = .ok (.getfield 25, 3) := by decide +kernel
theorem dM_force_10 : decode cM_force 10 = .ok (.iload_n 1, 1) := by decide +kernel
theorem dM_force_11 : decode cM_force 11 = .ok (.iconst 2, 1) := by decide +kernel
theorem dM_force_12 : decode cM_force 12 = .ok (.idiv, 1) := by decide +kernel
theorem dM_force_13 : decode cM_force 13 = .ok (.iaload, 1) := by decide +kernel
theorem dM_force_14 : decode cM_force 14 = .ok (.iconst (-1), 1) := by decide +kernel
theorem dM_force_15 : decode cM_force 15 = .ok (.if_icmp .eq 15, 3) := by decide +kernel
theorem dM_force_18 : decode cM_force 18 = .ok (.aload_n 0, 1) := by decide +kernel
theorem dM_force_19 : decode cM_force 19 = .ok (.getfield 25, 3) := by decide +kernel
theorem dM_force_22 : decode cM_force 22 = .ok (.iload_n 1, 1) := by decide +kernel
theorem dM_force_23 : decode cM_force 23 = .ok (.iconst 2, 1) := by decide +kernel
theorem dM_force_24 : decode cM_force 24 = .ok (.idiv, 1) := by decide +kernel
theorem dM_force_25 : decode cM_force 25 = .ok (.iaload, 1) := by decide +kernel
theorem dM_force_26 : decode cM_force 26 = .ok (.iload_n 2, 1) := by decide +kernel
theorem dM_force_27 : decode cM_force 27 = .ok (.if_icmp .ne 7, 3) := by decide +kernel
theorem dM_force_30 : decode cM_force 30 = .ok (.iconst 1, 1) := by decide +kernel
theorem dM_force_31 : decode cM_force 31 = .ok (.goto 4, 3) := by decide +kernel
theorem dM_force_34 : decode cM_force 34 = .ok (.iconst 0, 1) := by decide +kernel
theorem dM_force_35 : decode cM_force 35 = .ok (.istore_n 3, 1) := by decide +kernel
theorem dM_force_36 : decode cM_force 36 = .ok (.aload_n 0, 1) := by decide +kernel
theorem dM_force_37 : decode cM_force 37 = .ok (.getfield 25, 3) := by decide +kernel
theorem dM_force_40 : decode cM_force 40 = .ok (.iload_n 1, 1) := by decide +kernel
theorem dM_force_41 : decode cM_force 41 = .ok (.iconst 2, 1) := by decide +kernel
theorem dM_force_42 : decode cM_force 42 = .ok (.idiv, 1) := by decide +kernel
theorem dM_force_43 : decode cM_force 43 = .ok (.iload_n 2, 1) := by decide +kernel
theorem dM_force_44 : decode cM_force 44 = .ok (.iastore, 1) := by decide +kernel
theorem dM_force_45 : decode cM_force 45 = .ok (.iload_n 3, 1) := by decide +kernel
theorem dM_force_46 : decode cM_force 46 = .ok (.ireturn, 1) := by decide +kernel
theorem dM_free_0 : decode cM_free 0 = .ok (.iconst 0, 1) := by decide +kernel
theorem dM_free_1 : decode cM_free 1 = .ok (.istore_n 1, 1) := by decide +kernel
theorem dM_free_2 : decode cM_free 2 = .ok (.iload_n 1, 1) := by decide +kernel
theorem dM_free_3 : decode cM_free 3 = .ok (.aload_n 0, 1) := by decide +kernel
theorem dM_free_4 : decode cM_free 4 = .ok (.getfield 41, 3) := by decide +kernel
theorem dM_free_7 : decode cM_free 7 = .ok (.if_icmp .ge 16, 3) := by decide +kernel
theorem dM_free_10 : decode cM_free 10 = .ok (.aload_n 0, 1) := by decide +kernel
theorem dM_free_11 : decode cM_free 11 = .ok (.getfield 25, 3) := by decide +kernel
theorem dM_free_14 : decode cM_free 14 = .ok (.iload_n 1, 1) := by decide +kernel
theorem dM_free_15 : decode cM_free 15 = .ok (.iconst (-1), 1) := by decide +kernel
theorem dM_free_16 : decode cM_free 16 = .ok (.iastore, 1) := by decide +kernel
theorem dM_free_17 : decode cM_free 17 = .ok (.iinc 1 1, 3) := by decide +kernel
theorem dM_free_20 : decode cM_free 20 = .ok (.goto (-18), 3) := by decide +kernel
theorem dM_free_23 : decode cM_free 23 = .ok (.return_, 1) := by decide +kernel
theorem dM_init_0 : decode cM_init 0 = .ok (.aload_n 0, 1) := by decide +kernel
theorem dM_init_1 : decode cM_init 1 = .ok (.invokespecial 1, 3) := by decide +kernel
theorem dM_init_4 : decode cM_init 4 = .ok (.aload_n 0, 1) := by decide +kernel
theorem dM_init_5 : decode cM_init 5 = .ok (.sipush 4000, 3) := by decide +kernel
theorem dM_init_8 : decode cM_init 8 = .ok (.newarray .int, 2) := by decide +kernel
theorem dM_init_10 : decode cM_init 10 = .ok (.putfield 7, 3) := by decide +kernel
theorem dM_init_13 : decode cM_init 13 = .ok (.aload_n 0, 1) := by decide +kernel
theorem dM_init_14 : decode cM_init 14 = .ok (.sipush 501, 3) := by decide +kernel
theorem dM_init_17 : decode cM_init 17 = .ok (.newarray .int, 2) := by decide +kernel
theorem dM_init_19 : decode cM_init 19 = .ok (.putfield 13, 3) := by decide +kernel
theorem dM_init_22 : decode cM_init 22 = .ok (.aload_n 0, 1) := by decide +kernel
theorem dM_init_23 : decode cM_init 23 = .ok (.bipush 17, 2) := by decide +kernel
theorem dM_init_25 : decode cM_init 25 = .ok (.newarray .int, 2) := by decide +kernel
theorem dM_init_27 : decode cM_init 27 = .ok (.putfield 16, 3) := by decide +kernel
theorem dM_init_30 : decode cM_init 30 = .ok (.aload_n 0, 1) := by decide +kernel
theorem dM_init_31 : decode cM_init 31 = .ok (.sipush 500, 3) := by decide +kernel
theorem dM_init_34 : decode cM_init 34 = .ok (.newarray .int, 2) := by decide +kernel
theorem dM_init_36 : decode cM_init 36 = .ok (.putfield 19, 3) := by decide +kernel
theorem dM_init_39 : decode cM_init 39 = .ok (.aload_n 0, 1) := by decide +kernel
theorem dM_init_40 : decode cM_init 40 = .ok (.bipush 64, 2) := by decide +kernel
theorem dM_init_42 : decode cM_init 42 = .ok (.newarray .int, 2) := by decide +kernel
theorem dM_init_44 : decode cM_init 44 = .ok (.putfield 22, 3) := by decide +kernel
theorem dM_init_47 : decode cM_init 47 = .ok (.aload_n 0, 1) := by decide +kernel
theorem dM_init_48 : decode cM_init 48 = .ok (.bipush 16, 2) := by decide +kernel
theorem dM_init_50 : decode cM_init 50 = .ok (.newarray .int, 2) := by decide +kernel
theorem dM_init_52 : decode cM_init 52 = .ok (.putfield 25, 3) := by decide +kernel
theorem dM_init_55 : decode cM_init 55 = .ok (.aload_n 0, 1) := by decide +kernel
theorem dM_init_56 : decode cM_init 56 = .ok (.bipush 16, 2) := by decide +kernel
theorem dM_init_58 : decode cM_init 58 = .ok (.newarray .int, 2) := by decide +kernel
theorem dM_init_60 : decode cM_init 60 = .ok (.putfield 28, 3) := by decide +kernel
theorem dM_init_63 : decode cM_init 63 = .ok (.aload_n 0, 1) := by decide +kernel
theorem dM_init_64 : decode cM_init 64 = .ok (.bipush 16, 2) := by decide +kernel
theorem dM_init_66 : decode cM_init 66 = .ok (.newarray .int, 2) := by decide +kernel
theorem dM_init_68 : decode cM_init 68 = .ok (.putfield 31, 3) := by decide +kernel
theorem dM_init_71 : decode cM_init 71 = .ok (.aload_n 0, 1) := by decide +kernel
theorem dM_init_72 : decode cM_init 72 = .ok (.invokevirtual 34, 3) := by decide +kernel
theorem dM_init_75 : decode cM_init 75 = .ok (.return_, 1) := by decide +kernel
theorem dM_isLiteral_0 : decode cM_isLiteral 0 = .ok (.iload_n 1, 1) := by decide +kernel
theorem dM_isLiteral_1 : decode cM_isLiteral 1 = .ok (.ifCond .lt 17, 3) := by decide +kernel
theorem dM_isLiteral_4 : decode cM_isLiteral 4 = .ok (.iload_n 1, 1) := by decide +kernel
theorem dM_isLiteral_5 : decode cM_isLiteral 5 = .ok (.iconst 2, 1) := by decide +kernel
theorem dM_isLiteral_6 : decode cM_isLiteral 6 = .ok (.aload_n 0, 1) := by decide +kernel
theorem dM_isLiteral_7 : decode cM_isLiteral 7 = .ok (.getfield 41, 3) := by decide +kernel
theorem dM_isLiteral_10 : decode cM_isLiteral 10 = .ok (.imul, 1) := by decide +kernel
theorem dM_isLiteral_11 : decode cM_isLiteral 11 = .ok (.if_icmp .ge 7, 3) := by decide +kernel
theorem dM_isLiteral_14 : decode cM_isLiteral 14 = .ok (.iconst 1, 1) := by decide +kernel
theorem dM_isLiteral_15 : decode cM_isLiteral 15 = .ok (.goto 4, 3) := by decide +kernel
theorem dM_isLiteral_18 : decode cM_isLiteral 18 = .ok (.iconst 0, 1) := by decide +kernel
theorem dM_isLiteral_19 : decode cM_isLiteral 19 = .ok (.ireturn, 1) := by decide +kernel
theorem dM_isRight_0 : decode cM_isRight 0 = .ok (.iconst 1, 1) := by decide +kernel
theorem dM_isRight_1 : decode cM_isRight 1 = .ok (.istore_n 2, 1) := by decide +kernel
theorem dM_isRight_2 : decode cM_isRight 2 = .ok (.aload_n 0, 1) := by decide +kernel
theorem dM_isRight_3 : decode cM_isRight 3 = .ok (.getfield 16, 3) := by decide +kernel
theorem dM_isRight_6 : decode cM_isRight 6 = .ok (.iload_n 1, 1) := by decide +kernel
theorem dM_isRight_7 : decode cM_isRight 7 = .ok (.iaload, 1) := by decide +kernel
theorem dM_isRight_8 : decode cM_isRight 8 = .ok (.istore_n 3, 1) := by decide +kernel
theorem dM_isRight_9 : decode cM_isRight 9 = .ok (.iload_n 3, 1) := by decide +kernel
theorem dM_isRight_10 : decode cM_isRight 10 = .ok (.iconst (-1), 1) := by decide +kernel
theorem dM_isRight_11 : decode cM_isRight 11 = .ok (.if_icmp .eq 84, 3) := by decide +kernel
theorem dM_isRight_14 : decode cM_isRight 14 = .ok (.iload_n 2, 1) := by decide +kernel
theorem dM_isRight_15 : decode cM_isRight 15 = .ok (.ifCond .eq 80, 3) := by decide +kernel
theorem dM_isRight_18 : decode cM_isRight 18 = .ok (.iconst 0, 1) := by decide +kernel
theorem dM_isRight_19 : decode cM_isRight 19 = .ok (.istore_n 2, 1) := by decide +kernel
theorem dM_isRight_20 : decode cM_isRight 20 = .ok (.aload_n 0, 1) := by decide +kernel
theorem dM_isRight_21 : decode cM_isRight 21 = .ok (.getfield 13, 3) := by decide +kernel
theorem dM_isRight_24 : decode cM_isRight 24 = .ok (.iload_n 3, 1) := by decide +kernel
theorem dM_isRight_25 : decode cM_isRight 25 = .ok (.iaload, 1) := by decide +kernel
theorem dM_isRight_26 : decode cM_isRight 26 = .ok (.istore 4, 2) := by decide +kernel
theorem dM_isRight_28 : decode cM_isRight 28 = .ok (.iload 4, 2) := by decide +kernel
theorem dM_isRight_30 : decode cM_isRight 30 = .ok (.aload_n 0, 1) := by decide +kernel
theorem dM_isRight_31 : decode cM_isRight 31 = .ok (.getfield 13, 3) := by decide +kernel
theorem dM_isRight_34 : decode cM_isRight 34 = .ok (.iload_n 3, 1) := by decide +kernel
theorem dM_isRight_35 : decode cM_isRight 35 = .ok (.iconst 1, 1) := by decide +kernel
theorem dM_isRight_36 : decode cM_isRight 36 = .ok (.iadd, 1) := by decide +kernel
theorem dM_isRight_37 : decode cM_isRight 37 = .ok (.iaload, 1) := by decide +kernel
theorem dM_isRight_38 : decode cM_isRight 38 = .ok (.if_icmp .ge 47, 3) := by decide +kernel
theorem dM_isRight_41 : decode cM_isRight 41 = .ok (.iload_n 2, 1) := by decide +kernel
theorem dM_isRight_42 : decode cM_isRight 42 = .ok (.ifCond .ne 43, 3) := by decide +kernel
theorem dM_isRight_45 : decode cM_isRight 45 = .ok (.aload_n 0, 1) := by decide +kernel
theorem dM_isRight_46 : decode cM_isRight 46 = .ok (.getfield 28, 3) := by decide +kernel
theorem dM_isRight_49 : decode cM_isRight 49 = .ok (.aload_n 0, 1) := by decide +kernel
theorem dM_isRight_50 : decode cM_isRight 50 = .ok (.getfield 7, 3) := by decide +kernel
theorem dM_isRight_53 : decode cM_isRight 53 = .ok (.iload 4, 2) := by decide +kernel
theorem dM_isRight_55 : decode cM_isRight 55 = .ok (.iaload, 1) := by decide +kernel
theorem dM_isRight_56 : decode cM_isRight 56 = .ok (.iconst 2, 1) := by decide +kernel
theorem dM_isRight_57 : decode cM_isRight 57 = .ok (.idiv, 1) := by decide +kernel
theorem dM_isRight_58 : decode cM_isRight 58 = .ok (.iaload, 1) := by decide +kernel
theorem dM_isRight_59 : decode cM_isRight 59 = .ok (.iconst 1, 1) := by decide +kernel
theorem dM_isRight_60 : decode cM_isRight 60 = .ok (.aload_n 0, 1) := by decide +kernel
theorem dM_isRight_61 : decode cM_isRight 61 = .ok (.getfield 7, 3) := by decide +kernel
theorem dM_isRight_64 : decode cM_isRight 64 = .ok (.iload 4, 2) := by decide +kernel
theorem dM_isRight_66 : decode cM_isRight 66 = .ok (.iaload, 1) := by decide +kernel
theorem dM_isRight_67 : decode cM_isRight 67 = .ok (.iconst 2, 1) := by decide +kernel
theorem dM_isRight_68 : decode cM_isRight 68 = .ok (.irem, 1) := by decide +kernel
theorem dM_isRight_69 : decode cM_isRight 69 = .ok (.isub, 1) := by decide +kernel
theorem dM_isRight_70 : decode cM_isRight 70 = .ok (.if_icmp .ne 7, 3) := by decide +kernel
theorem dM_isRight_73 : decode cM_isRight 73 = .ok (.iconst 1, 1) := by decide +kernel
theorem dM_isRight_74 : decode cM_isRight 74 = .ok (.goto 4, 3) := by decide +kernel
theorem dM_isRight_77 : decode cM_isRight 77 = .ok (.iconst 0, 1) := by decide +kernel
theorem dM_isRight_78 : decode cM_isRight 78 = .ok (.istore_n 2, 1) := by decide +kernel
theorem dM_isRight_79 : decode cM_isRight 79 = .ok (.iinc 4 1, 3) := by decide +kernel
theorem dM_isRight_82 : decode cM_isRight 82 = .ok (.goto (-54), 3) := by decide +kernel
theorem dM_isRight_85 : decode cM_isRight 85 = .ok (.aload_n 0, 1) := by decide +kernel
theorem dM_isRight_86 : decode cM_isRight 86 = .ok (.getfield 19, 3) := by decide +kernel
theorem dM_isRight_89 : decode cM_isRight 89 = .ok (.iload_n 3, 1) := by decide +kernel
theorem dM_isRight_90 : decode cM_isRight 90 = .ok (.iaload, 1) := by decide +kernel
theorem dM_isRight_91 : decode cM_isRight 91 = .ok (.istore_n 3, 1) := by decide +kernel
theorem dM_isRight_92 : decode cM_isRight 92 = .ok (.goto (-83), 3) := by decide +kernel
theorem dM_isRight_95 : decode cM_isRight 95 = .ok (.iload_n 2, 1) := by decide +kernel
theorem dM_isRight_96 : decode cM_isRight 96 = .ok (.ireturn, 1) := by decide +kernel
theorem dM_isSolved_0 : decode cM_isSolved 0 = .ok (.aload_n 0, 1) := by decide +kernel
theorem dM_isSolved_1 : decode cM_isSolved 1 = .ok (.invokevirtual 69, 3) := by decide +kernel
theorem dM_isSolved_4 : decode cM_isSolved 4 = .ok (.iconst 1, 1) := by decide +kernel
theorem dM_isSolved_5 : decode cM_isSolved 5 = .ok (.istore_n 2, 1) := by decide +kernel
theorem dM_isSolved_6 : decode cM_isSolved 6 = .ok (.iconst 0, 1) := by decide +kernel
theorem dM_isSolved_7 : decode cM_isSolved 7 = .ok (.istore_n 3, 1) := by decide +kernel
theorem dM_isSolved_8 : decode cM_isSolved 8 = .ok (.iload_n 3, 1) := by decide +kernel
theorem dM_isSolved_9 : decode cM_isSolved 9 = .ok (.iload_n 1, 1) := by decide +kernel
theorem dM_isSolved_10 : decode cM_isSolved 10 = .ok (.if_icmp .ge 32, 3) := by decide +kernel
theorem dM_isSolved_13 : decode cM_isSolved 13 = .ok (.aload_n 0, 1) := by decide +kernel
theorem dM_isSolved_14 : decode cM_isSolved 14 = .ok (.aload_n 0, 1) := by decide +kernel
theorem dM_isSolved_15 : decode cM_isSolved 15 = .ok (.getfield 22, 3) := by decide +kernel
theorem dM_isSolved_18 : decode cM_isSolved 18 = .ok (.iload_n 3, 1) := by decide +kernel
theorem dM_isSolved_19 : decode cM_isSolved 19 = .ok (.iaload, 1) := by decide +kernel
theorem dM_isSolved_20 : decode cM_isSolved 20 = .ok (.invokevirtual 72, 3) := by decide +kernel
theorem dM_isSolved_23 : decode cM_isSolved 23 = .ok (.ifCond .eq 11, 3) := by decide +kernel
theorem dM_isSolved_26 : decode cM_isSolved 26 = .ok (.iload_n 2, 1) := by decide +kernel
theorem dM_isSolved_27 : decode cM_isSolved 27 = .ok (.ifCond .eq 7, 3) := by decide +kernel
theorem dM_isSolved_30 : decode cM_isSolved 30 = .ok (.iconst 1, 1) := by decide +kernel
theorem dM_isSolved_31 : decode cM_isSolved 31 = .ok (.goto 4, 3) := by decide +kernel
theorem dM_isSolved_34 : decode cM_isSolved 34 = .ok (.iconst 0, 1) := by decide +kernel
theorem dM_isSolved_35 : decode cM_isSolved 35 = .ok (.istore_n 2, 1) := by decide +kernel
theorem dM_isSolved_36 : decode cM_isSolved 36 = .ok (.iinc 3 1, 3) := by decide +kernel
theorem dM_isSolved_39 : decode cM_isSolved 39 = .ok (.goto (-31), 3) := by decide +kernel
theorem dM_isSolved_42 : decode cM_isSolved 42 = .ok (.iload_n 2, 1) := by decide +kernel
theorem dM_isSolved_43 : decode cM_isSolved 43 = .ok (.ifCond .eq 14, 3) := by decide +kernel
theorem dM_isSolved_46 : decode cM_isSolved 46 = .ok (.aload_n 0, 1) := by decide +kernel
theorem dM_isSolved_47 : decode cM_isSolved 47 = .ok (.invokevirtual 75, 3) := by decide +kernel
theorem dM_isSolved_50 : decode cM_isSolved 50 = .ok (.ifCond .eq 7, 3) := by decide +kernel
theorem dM_isSolved_53 : decode cM_isSolved 53 = .ok (.iconst 1, 1) := by decide +kernel
theorem dM_isSolved_54 : decode cM_isSolved 54 = .ok (.goto 4, 3) := by decide +kernel
theorem dM_isSolved_57 : decode cM_isSolved 57 = .ok (.iconst 0, 1) := by decide +kernel
theorem dM_isSolved_58 : decode cM_isSolved 58 = .ok (.ireturn, 1) := by decide +kernel
theorem dM_least_0 : decode cM_least 0 = .ok (.aload_n 0, 1) := by decide +kernel
theorem dM_least_1 : decode cM_least 1 = .ok (.iload_n 1, 1) := by decide +kernel
theorem dM_least_2 : decode cM_least 2 = .ok (.ifCond .lt 11, 3) := by decide +kernel
theorem dM_least_5 : decode cM_least 5 = .ok (.iload_n 1, 1) := by decide +kernel
theorem dM_least_6 : decode cM_least 6 = .ok (.aload_n 0, 1) := by decide +kernel
theorem dM_least_7 : decode cM_least 7 = .ok (.getfield 41, 3) := by decide +kernel
theorem dM_least_10 : decode cM_least 10 = .ok (.if_icmp .lt 7, 3) := by decide +kernel
theorem dM_least_13 : decode cM_least 13 = .ok (.iconst 1, 1) := by decide +kernel
theorem dM_least_14 : decode cM_least 14 = .ok (.goto 4, 3) := by decide +kernel
theorem dM_least_17 : decode cM_least 17 = .ok (.iconst 0, 1) := by decide +kernel
theorem dM_least_18 : decode cM_least 18 = .ok (.putfield 37, 3) := by decide +kernel
theorem dM_least_21 : decode cM_least 21 = .ok (.aload_n 0, 1) := by decide +kernel
theorem dM_least_22 : decode cM_least 22 = .ok (.getfield 37, 3) := by decide +kernel
theorem dM_least_25 : decode cM_least 25 = .ok (.ifCond .le 5, 3) := by decide +kernel
theorem dM_least_28 : decode cM_least 28 = .ok (.iconst 0, 1) := by decide +kernel
theorem dM_least_29 : decode cM_least 29 = .ok (.ireturn, 1) := by decide +kernel
theorem dM_least_30 : decode cM_least 30 = .ok (.aload_n 0, 1) := by decide +kernel
theorem dM_least_31 : decode cM_least 31 = .ok (.getfield 56, 3) := by decide +kernel
theorem dM_least_34 : decode cM_least 34 = .ok (.iconst 1, 1) := by decide +kernel
theorem dM_least_35 : decode cM_least 35 = .ok (.if_icmp .ne 20, 3) := by decide +kernel
theorem dM_least_38 : decode cM_least 38 = .ok (.iload_n 1, 1) := by decide +kernel
theorem dM_least_39 : decode cM_least 39 = .ok (.aload_n 0, 1) := by decide +kernel
theorem dM_least_40 : decode cM_least 40 = .ok (.getfield 59, 3) := by decide +kernel
theorem dM_least_43 : decode cM_least 43 = .ok (.if_icmp .ge 12, 3) := by decide +kernel
theorem dM_least_46 : decode cM_least 46 = .ok (.aload_n 0, 1) := by decide +kernel
theorem dM_least_47 : decode cM_least 47 = .ok (.getfield 31, 3) := by decide +kernel
theorem dM_least_50 : decode cM_least 50 = .ok (.iload_n 1, 1) := by decide +kernel
theorem dM_least_51 : decode cM_least 51 = .ok (.iaload, 1) := by decide +kernel
theorem dM_least_52 : decode cM_least 52 = .ok (.goto 4, 3) := by decide +kernel
theorem dM_least_55 : decode cM_least 55 = .ok (.iconst (-1), 1) := by decide +kernel
theorem dM_least_56 : decode cM_least 56 = .ok (.ireturn, 1) := by decide +kernel
theorem dM_literal_0 : decode cM_literal 0 = .ok (.aload_n 0, 1) := by decide +kernel
theorem dM_literal_1 : decode cM_literal 1 = .ok (.aload_n 0, 1) := by decide +kernel
theorem dM_literal_2 : decode cM_literal 2 = .ok (.iload_n 1, 1) := by decide +kernel
theorem dM_literal_3 : decode cM_literal 3 = .ok (.invokevirtual 62, 3) := by decide +kernel
theorem dM_literal_6 : decode cM_literal 6 = .ok (.ifCond .ne 7, 3) := by decide +kernel
theorem dM_literal_9 : decode cM_literal 9 = .ok (.iconst 1, 1) := by decide +kernel
theorem dM_literal_10 : decode cM_literal 10 = .ok (.goto 32, 3) := by decide +kernel
theorem dM_literal_13 : decode cM_literal 13 = .ok (.aload_n 0, 1) := by decide +kernel
theorem dM_literal_14 : decode cM_literal 14 = .ok (.getfield 50, 3) := by decide +kernel
theorem dM_literal_17 : decode cM_literal 17 = .ok (.bipush 40, 2) := by decide +kernel
theorem dM_literal_19 : decode cM_literal 19 = .ok (.if_icmp .eq 18, 3) := by decide +kernel
theorem dM_literal_22 : decode cM_literal 22 = .ok (.aload_n 0, 1) := by decide +kernel
theorem dM_literal_23 : decode cM_literal 23 = .ok (.getfield 47, 3) := by decide +kernel
theorem dM_literal_26 : decode cM_literal 26 = .ok (.aload_n 0, 1) := by decide +kernel
theorem dM_literal_27 : decode cM_literal 27 = .ok (.getfield 50, 3) := by decide +kernel
theorem dM_literal_30 : decode cM_literal 30 = .ok (.iadd, 1) := by decide +kernel
theorem dM_literal_31 : decode cM_literal 31 = .ok (.sipush 4000, 3) := by decide +kernel
theorem dM_literal_34 : decode cM_literal 34 = .ok (.if_icmp .ne 7, 3) := by decide +kernel
theorem dM_literal_37 : decode cM_literal 37 = .ok (.iconst 2, 1) := by decide +kernel
theorem dM_literal_38 : decode cM_literal 38 = .ok (.goto 4, 3) := by decide +kernel
theorem dM_literal_41 : decode cM_literal 41 = .ok (.iconst 0, 1) := by decide +kernel
theorem dM_literal_42 : decode cM_literal 42 = .ok (.putfield 37, 3) := by decide +kernel
theorem dM_literal_45 : decode cM_literal 45 = .ok (.aload_n 0, 1) := by decide +kernel
theorem dM_literal_46 : decode cM_literal 46 = .ok (.getfield 37, 3) := by decide +kernel
theorem dM_literal_49 : decode cM_literal 49 = .ok (.ifCond .le 5, 3) := by decide +kernel
theorem dM_literal_52 : decode cM_literal 52 = .ok (.iconst 0, 1) := by decide +kernel
theorem dM_literal_53 : decode cM_literal 53 = .ok (.ireturn, 1) := by decide +kernel
theorem dM_literal_54 : decode cM_literal 54 = .ok (.aload_n 0, 1) := by decide +kernel
theorem dM_literal_55 : decode cM_literal 55 = .ok (.getfield 7, 3) := by decide +kernel
theorem dM_literal_58 : decode cM_literal 58 = .ok (.aload_n 0, 1) := by decide +kernel
theorem dM_literal_59 : decode cM_literal 59 = .ok (.getfield 47, 3) := by decide +kernel
theorem dM_literal_62 : decode cM_literal 62 = .ok (.aload_n 0, 1) := by decide +kernel
theorem dM_literal_63 : decode cM_literal 63 = .ok (.getfield 50, 3) := by decide +kernel
theorem dM_literal_66 : decode cM_literal 66 = .ok (.iadd, 1) := by decide +kernel
theorem dM_literal_67 : decode cM_literal 67 = .ok (.iload_n 1, 1) := by decide +kernel
theorem dM_literal_68 : decode cM_literal 68 = .ok (.iastore, 1) := by decide +kernel
theorem dM_literal_69 : decode cM_literal 69 = .ok (.aload_n 0, 1) := by decide +kernel
theorem dM_literal_70 : decode cM_literal 70 = .ok (.dup, 1) := by decide +kernel
theorem dM_literal_71 : decode cM_literal 71 = .ok (.getfield 50, 3) := by decide +kernel
theorem dM_literal_74 : decode cM_literal 74 = .ok (.iconst 1, 1) := by decide +kernel
theorem dM_literal_75 : decode cM_literal 75 = .ok (.iadd, 1) := by decide +kernel
theorem dM_literal_76 : decode cM_literal 76 = .ok (.putfield 50, 3) := by decide +kernel
theorem dM_literal_79 : decode cM_literal 79 = .ok (.aload_n 0, 1) := by decide +kernel
theorem dM_literal_80 : decode cM_literal 80 = .ok (.getfield 50, 3) := by decide +kernel
theorem dM_literal_83 : decode cM_literal 83 = .ok (.ireturn, 1) := by decide +kernel
theorem dM_must_0 : decode cM_must 0 = .ok (.aload_n 0, 1) := by decide +kernel
theorem dM_must_1 : decode cM_must 1 = .ok (.aload_n 0, 1) := by decide +kernel
theorem dM_must_2 : decode cM_must 2 = .ok (.iload_n 1, 1) := by decide +kernel
theorem dM_must_3 : decode cM_must 3 = .ok (.invokevirtual 62, 3) := by decide +kernel
theorem dM_must_6 : decode cM_must 6 = .ok (.ifCond .eq 7, 3) := by decide +kernel
theorem dM_must_9 : decode cM_must 9 = .ok (.iconst 0, 1) := by decide +kernel
theorem dM_must_10 : decode cM_must 10 = .ok (.goto 4, 3) := by decide +kernel
theorem dM_must_13 : decode cM_must 13 = .ok (.iconst 1, 1) := by decide +kernel
theorem dM_must_14 : decode cM_must 14 = .ok (.putfield 37, 3) := by decide +kernel
theorem dM_must_17 : decode cM_must 17 = .ok (.aload_n 0, 1) := by decide +kernel
theorem dM_must_18 : decode cM_must 18 = .ok (.getfield 37, 3) := by decide +kernel
theorem dM_must_21 : decode cM_must 21 = .ok (.ifCond .le 5, 3) := by decide +kernel
theorem dM_must_24 : decode cM_must 24 = .ok (.iconst 0, 1) := by decide +kernel
theorem dM_must_25 : decode cM_must 25 = .ok (.ireturn, 1) := by decide +kernel
theorem dM_must_26 : decode cM_must 26 = .ok (.aload_n 0, 1) := by decide +kernel
theorem dM_must_27 : decode cM_must 27 = .ok (.invokevirtual 69, 3) := by decide +kernel
theorem dM_must_30 : decode cM_must 30 = .ok (.aload_n 0, 1) := by decide +kernel
theorem dM_must_31 : decode cM_must 31 = .ok (.iload_n 1, 1) := by decide +kernel
theorem dM_must_32 : decode cM_must 32 = .ok (.invokevirtual 72, 3) := by decide +kernel
theorem dM_must_35 : decode cM_must 35 = .ok (.pop, 1) := by decide +kernel
theorem dM_must_36 : decode cM_must 36 = .ok (.aload_n 0, 1) := by decide +kernel
theorem dM_must_37 : decode cM_must 37 = .ok (.invokevirtual 75, 3) := by decide +kernel
theorem dM_must_40 : decode cM_must 40 = .ok (.istore_n 2, 1) := by decide +kernel
theorem dM_must_41 : decode cM_must 41 = .ok (.aload_n 0, 1) := by decide +kernel
theorem dM_must_42 : decode cM_must 42 = .ok (.invokevirtual 69, 3) := by decide +kernel
theorem dM_must_45 : decode cM_must 45 = .ok (.aload_n 0, 1) := by decide +kernel
theorem dM_must_46 : decode cM_must 46 = .ok (.iload_n 1, 1) := by decide +kernel
theorem dM_must_47 : decode cM_must 47 = .ok (.iconst 1, 1) := by decide +kernel
theorem dM_must_48 : decode cM_must 48 = .ok (.ixor, 1) := by decide +kernel
theorem dM_must_49 : decode cM_must 49 = .ok (.invokevirtual 72, 3) := by decide +kernel
theorem dM_must_52 : decode cM_must 52 = .ok (.pop, 1) := by decide +kernel
theorem dM_must_53 : decode cM_must 53 = .ok (.aload_n 0, 1) := by decide +kernel
theorem dM_must_54 : decode cM_must 54 = .ok (.invokevirtual 75, 3) := by decide +kernel
theorem dM_must_57 : decode cM_must 57 = .ok (.istore_n 3, 1) := by decide +kernel
theorem dM_must_58 : decode cM_must 58 = .ok (.iload_n 2, 1) := by decide +kernel
theorem dM_must_59 : decode cM_must 59 = .ok (.ifCond .eq 15, 3) := by decide +kernel
theorem dM_must_62 : decode cM_must 62 = .ok (.iload_n 3, 1) := by decide +kernel
theorem dM_must_63 : decode cM_must 63 = .ok (.ifCond .eq 7, 3) := by decide +kernel
theorem dM_must_66 : decode cM_must 66 = .ok (.iconst 2, 1) := by decide +kernel
theorem dM_must_67 : decode cM_must 67 = .ok (.goto 16, 3) := by decide +kernel
theorem dM_must_70 : decode cM_must 70 = .ok (.iconst 1, 1) := by decide +kernel
theorem dM_must_71 : decode cM_must 71 = .ok (.goto 12, 3) := by decide +kernel
theorem dM_must_74 : decode cM_must 74 = .ok (.iload_n 3, 1) := by decide +kernel
theorem dM_must_75 : decode cM_must 75 = .ok (.ifCond .eq 7, 3) := by decide +kernel
theorem dM_must_78 : decode cM_must 78 = .ok (.iconst 0, 1) := by decide +kernel
theorem dM_must_79 : decode cM_must 79 = .ok (.goto 4, 3) := by decide +kernel
theorem dM_must_82 : decode cM_must 82 = .ok (.iconst (-1), 1) := by decide +kernel
theorem dM_must_83 : decode cM_must 83 = .ok (.ireturn, 1) := by decide +kernel
theorem dM_proved_0 : decode cM_proved 0 = .ok (.aload_n 0, 1) := by decide +kernel
theorem dM_proved_1 : decode cM_proved 1 = .ok (.iconst 0, 1) := by decide +kernel
theorem dM_proved_2 : decode cM_proved 2 = .ok (.putfield 37, 3) := by decide +kernel
theorem dM_proved_5 : decode cM_proved 5 = .ok (.aload_n 0, 1) := by decide +kernel
theorem dM_proved_6 : decode cM_proved 6 = .ok (.getfield 56, 3) := by decide +kernel
theorem dM_proved_9 : decode cM_proved 9 = .ok (.iconst 2, 1) := by decide +kernel
theorem dM_proved_10 : decode cM_proved 10 = .ok (.if_icmp .ne 7, 3) := by decide +kernel
theorem dM_proved_13 : decode cM_proved 13 = .ok (.iconst 1, 1) := by decide +kernel
theorem dM_proved_14 : decode cM_proved 14 = .ok (.goto 4, 3) := by decide +kernel
theorem dM_proved_17 : decode cM_proved 17 = .ok (.iconst 0, 1) := by decide +kernel
theorem dM_proved_18 : decode cM_proved 18 = .ok (.ireturn, 1) := by decide +kernel
theorem dM_search_0 : decode cM_search 0 = .ok (.aload_n 0, 1) := by decide +kernel
theorem dM_search_1 : decode cM_search 1 = .ok (.getfield 16, 3) := by decide +kernel
theorem dM_search_4 : decode cM_search 4 = .ok (.bipush 16, 2) := by decide +kernel
theorem dM_search_6 : decode cM_search 6 = .ok (.iaload, 1) := by decide +kernel
theorem dM_search_7 : decode cM_search 7 = .ok (.iconst (-1), 1) := by decide +kernel
theorem dM_search_8 : decode cM_search 8 = .ok (.if_icmp .eq 5, 3) := by decide +kernel
theorem dM_search_11 : decode cM_search 11 = .ok (.iconst 0, 1) := by decide +kernel
theorem dM_search_12 : decode cM_search 12 = .ok (.ireturn, 1) := by decide +kernel
theorem dM_search_13 : decode cM_search 13 = .ok (.iconst 0, 1) := by decide +kernel
theorem dM_search_14 : decode cM_search 14 = .ok (.istore_n 1, 1) := by decide +kernel
theorem dM_search_15 : decode cM_search 15 = .ok (.iconst 0, 1) := by decide +kernel
theorem dM_search_16 : decode cM_search 16 = .ok (.istore_n 2, 1) := by decide +kernel
theorem dM_search_17 : decode cM_search 17 = .ok (.iload_n 1, 1) := by decide +kernel
theorem dM_search_18 : decode cM_search 18 = .ok (.ifCond .lt 101, 3) := by decide +kernel
theorem dM_search_21 : decode cM_search 21 = .ok (.iload_n 1, 1) := by decide +kernel
theorem dM_search_22 : decode cM_search 22 = .ok (.aload_n 0, 1) := by decide +kernel
theorem dM_search_23 : decode cM_search 23 = .ok (.getfield 41, 3) := by decide +kernel
theorem dM_search_26 : decode cM_search 26 = .ok (.if_icmp .ge 93, 3) := by decide +kernel
theorem dM_search_29 : decode cM_search 29 = .ok (.iload_n 2, 1) := by decide +kernel
theorem dM_search_30 : decode cM_search 30 = .ok (.ifCond .ne 27, 3) := by decide +kernel
theorem dM_search_33 : decode cM_search 33 = .ok (.aload_n 0, 1) := by decide +kernel
theorem dM_search_34 : decode cM_search 34 = .ok (.getfield 28, 3) := by decide +kernel
theorem dM_search_37 : decode cM_search 37 = .ok (.iload_n 1, 1) := by decide +kernel
theorem dM_search_38 : decode cM_search 38 = .ok (.aload_n 0, 1) := by decide +kernel
theorem dM_search_39 : decode cM_search 39 = .ok (.getfield 25, 3) := by decide +kernel
theorem dM_search_42 : decode cM_search 42 = .ok (.iload_n 1, 1) := by decide +kernel
theorem dM_search_43 : decode cM_search 43 = .ok (.iaload, 1) := by decide +kernel
theorem dM_search_44 : decode cM_search 44 = .ok (.iconst 1, 1) := by decide +kernel
theorem dM_search_45 : decode cM_search 45 = .ok (.if_icmp .ne 7, 3) := by decide +kernel
theorem dM_search_48 : decode cM_search 48 = .ok (.iconst 1, 1) := by decide +kernel
theorem dM_search_49 : decode cM_search 49 = .ok (.goto 4, 3) := by decide +kernel
theorem dM_search_52 : decode cM_search 52 = .ok (.iconst 0, 1) := by decide +kernel
theorem dM_search_53 : decode cM_search 53 = .ok (.iastore, 1) := by decide +kernel
theorem dM_search_54 : decode cM_search 54 = .ok (.goto 36, 3) := by decide +kernel
theorem dM_search_57 : decode cM_search 57 = .ok (.aload_n 0, 1) := by decide +kernel
theorem dM_search_58 : decode cM_search 58 = .ok (.getfield 28, 3) := by decide +kernel
theorem dM_search_61 : decode cM_search 61 = .ok (.iload_n 1, 1) := by decide +kernel
theorem dM_search_62 : decode cM_search 62 = .ok (.iaload, 1) := by decide +kernel
theorem dM_search_63 : decode cM_search 63 = .ok (.iconst 1, 1) := by decide +kernel
theorem dM_search_64 : decode cM_search 64 = .ok (.if_icmp .eq 13, 3) := by decide +kernel
theorem dM_search_67 : decode cM_search 67 = .ok (.aload_n 0, 1) := by decide +kernel
end
section
theorem dM_search_68 : decode cM_search 68 = .ok (.getfield 25, 3) := by decide +kernel
theorem dM_search_71 : decode cM_search 71 = .ok (.iload_n 1, 1) := by decide +kernel
theorem dM_search_72 : decode cM_search 72 = .ok (.iaload, 1) := by decide +kernel
theorem dM_search_73 : decode cM_search 73 = .ok (.iconst (-1), 1) := by decide +kernel
theorem dM_search_74 : decode cM_search 74 = .ok (.if_icmp .eq 9, 3) := by decide +kernel
theorem dM_search_77 : decode cM_search 77 = .ok (.iinc 1 (-1), 3) := by decide +kernel
theorem dM_search_80 : decode cM_search 80 = .ok (.goto (-63), 3) := by decide +kernel
theorem dM_search_83 : decode cM_search 83 = .ok (.aload_n 0, 1) := by decide +kernel
theorem dM_search_84 : decode cM_search 84 = .ok (.getfield 28, 3) := by decide +kernel
theorem dM_search_87 : decode cM_search 87 = .ok (.iload_n 1, 1) := by decide +kernel
theorem dM_search_88 : decode cM_search 88 = .ok (.iconst 1, 1) := by decide +kernel
theorem dM_search_89 : decode cM_search 89 = .ok (.iastore, 1) := by decide +kernel
theorem dM_search_90 : decode cM_search 90 = .ok (.aload_n 0, 1) := by decide +kernel
theorem dM_search_91 : decode cM_search 91 = .ok (.iload_n 1, 1) := by decide +kernel
theorem dM_search_92 : decode cM_search 92 = .ok (.invokevirtual 66, 3) := by decide +kernel
theorem dM_search_95 : decode cM_search 95 = .ok (.ifCond .ne 7, 3) := by decide +kernel
theorem dM_search_98 : decode cM_search 98 = .ok (.iconst 1, 1) := by decide +kernel
theorem dM_search_99 : decode cM_search 99 = .ok (.goto 4, 3) := by decide +kernel
theorem dM_search_102 : decode cM_search 102 = .ok (.iconst 0, 1) := by decide +kernel
theorem dM_search_103 : decode cM_search 103 = .ok (.istore_n 2, 1) := by decide +kernel
theorem dM_search_104 : decode cM_search 104 = .ok (.iload_n 2, 1) := by decide +kernel
theorem dM_search_105 : decode cM_search 105 = .ok (.ifCond .eq 7, 3) := by decide +kernel
theorem dM_search_108 : decode cM_search 108 = .ok (.iload_n 1, 1) := by decide +kernel
theorem dM_search_109 : decode cM_search 109 = .ok (.goto 6, 3) := by decide +kernel
theorem dM_search_112 : decode cM_search 112 = .ok (.iload_n 1, 1) := by decide +kernel
theorem dM_search_113 : decode cM_search 113 = .ok (.iconst 1, 1) := by decide +kernel
theorem dM_search_114 : decode cM_search 114 = .ok (.iadd, 1) := by decide +kernel
theorem dM_search_115 : decode cM_search 115 = .ok (.istore_n 1, 1) := by decide +kernel
theorem dM_search_116 : decode cM_search 116 = .ok (.goto (-99), 3) := by decide +kernel
theorem dM_search_119 : decode cM_search 119 = .ok (.iload_n 1, 1) := by decide +kernel
theorem dM_search_120 : decode cM_search 120 = .ok (.aload_n 0, 1) := by decide +kernel
theorem dM_search_121 : decode cM_search 121 = .ok (.getfield 41, 3) := by decide +kernel
theorem dM_search_124 : decode cM_search 124 = .ok (.if_icmp .ne 7, 3) := by decide +kernel
theorem dM_search_127 : decode cM_search 127 = .ok (.iconst 1, 1) := by decide +kernel
theorem dM_search_128 : decode cM_search 128 = .ok (.goto 4, 3) := by decide +kernel
theorem dM_search_131 : decode cM_search 131 = .ok (.iconst 0, 1) := by decide +kernel
theorem dM_search_132 : decode cM_search 132 = .ok (.ireturn, 1) := by decide +kernel
theorem dM_shown_0 : decode cM_shown 0 = .ok (.aload_n 0, 1) := by decide +kernel
theorem dM_shown_1 : decode cM_shown 1 = .ok (.iconst 0, 1) := by decide +kernel
theorem dM_shown_2 : decode cM_shown 2 = .ok (.putfield 37, 3) := by decide +kernel
theorem dM_shown_5 : decode cM_shown 5 = .ok (.aload_n 0, 1) := by decide +kernel
theorem dM_shown_6 : decode cM_shown 6 = .ok (.getfield 56, 3) := by decide +kernel
theorem dM_shown_9 : decode cM_shown 9 = .ok (.iconst 1, 1) := by decide +kernel
theorem dM_shown_10 : decode cM_shown 10 = .ok (.if_icmp .ne 7, 3) := by decide +kernel
theorem dM_shown_13 : decode cM_shown 13 = .ok (.iconst 1, 1) := by decide +kernel
theorem dM_shown_14 : decode cM_shown 14 = .ok (.goto 4, 3) := by decide +kernel
theorem dM_shown_17 : decode cM_shown 17 = .ok (.iconst 0, 1) := by decide +kernel
theorem dM_shown_18 : decode cM_shown 18 = .ok (.ireturn, 1) := by decide +kernel
theorem dM_solve_0 : decode cM_solve 0 = .ok (.aload_n 0, 1) := by decide +kernel
theorem dM_solve_1 : decode cM_solve 1 = .ok (.iconst 0, 1) := by decide +kernel
theorem dM_solve_2 : decode cM_solve 2 = .ok (.putfield 37, 3) := by decide +kernel
theorem dM_solve_5 : decode cM_solve 5 = .ok (.aload_n 0, 1) := by decide +kernel
theorem dM_solve_6 : decode cM_solve 6 = .ok (.aload_n 0, 1) := by decide +kernel
theorem dM_solve_7 : decode cM_solve 7 = .ok (.getfield 41, 3) := by decide +kernel
theorem dM_solve_10 : decode cM_solve 10 = .ok (.putfield 59, 3) := by decide +kernel
theorem dM_solve_13 : decode cM_solve 13 = .ok (.aload_n 0, 1) := by decide +kernel
theorem dM_solve_14 : decode cM_solve 14 = .ok (.aload_n 0, 1) := by decide +kernel
theorem dM_solve_15 : decode cM_solve 15 = .ok (.getfield 53, 3) := by decide +kernel
theorem dM_solve_18 : decode cM_solve 18 = .ok (.invokevirtual 79, 3) := by decide +kernel
theorem dM_solve_21 : decode cM_solve 21 = .ok (.istore_n 1, 1) := by decide +kernel
theorem dM_solve_22 : decode cM_solve 22 = .ok (.aload_n 0, 1) := by decide +kernel
theorem dM_solve_23 : decode cM_solve 23 = .ok (.iload_n 1, 1) := by decide +kernel
theorem dM_solve_24 : decode cM_solve 24 = .ok (.ifCond .eq 7, 3) := by decide +kernel
theorem dM_solve_27 : decode cM_solve 27 = .ok (.iconst 1, 1) := by decide +kernel
theorem dM_solve_28 : decode cM_solve 28 = .ok (.goto 4, 3) := by decide +kernel
theorem dM_solve_31 : decode cM_solve 31 = .ok (.iconst 2, 1) := by decide +kernel
theorem dM_solve_32 : decode cM_solve 32 = .ok (.putfield 56, 3) := by decide +kernel
theorem dM_solve_35 : decode cM_solve 35 = .ok (.aload_n 0, 1) := by decide +kernel
theorem dM_solve_36 : decode cM_solve 36 = .ok (.iconst (-1), 1) := by decide +kernel
theorem dM_solve_37 : decode cM_solve 37 = .ok (.putfield 82, 3) := by decide +kernel
theorem dM_solve_40 : decode cM_solve 40 = .ok (.iconst 0, 1) := by decide +kernel
theorem dM_solve_41 : decode cM_solve 41 = .ok (.istore_n 2, 1) := by decide +kernel
theorem dM_solve_42 : decode cM_solve 42 = .ok (.iload_n 2, 1) := by decide +kernel
theorem dM_solve_43 : decode cM_solve 43 = .ok (.aload_n 0, 1) := by decide +kernel
theorem dM_solve_44 : decode cM_solve 44 = .ok (.getfield 41, 3) := by decide +kernel
theorem dM_solve_47 : decode cM_solve 47 = .ok (.if_icmp .ge 25, 3) := by decide +kernel
theorem dM_solve_50 : decode cM_solve 50 = .ok (.iload_n 1, 1) := by decide +kernel
theorem dM_solve_51 : decode cM_solve 51 = .ok (.ifCond .eq 21, 3) := by decide +kernel
theorem dM_solve_54 : decode cM_solve 54 = .ok (.aload_n 0, 1) := by decide +kernel
theorem dM_solve_55 : decode cM_solve 55 = .ok (.getfield 31, 3) := by decide +kernel
theorem dM_solve_58 : decode cM_solve 58 = .ok (.iload_n 2, 1) := by decide +kernel
theorem dM_solve_59 : decode cM_solve 59 = .ok (.aload_n 0, 1) := by decide +kernel
theorem dM_solve_60 : decode cM_solve 60 = .ok (.getfield 28, 3) := by decide +kernel
theorem dM_solve_63 : decode cM_solve 63 = .ok (.iload_n 2, 1) := by decide +kernel
theorem dM_solve_64 : decode cM_solve 64 = .ok (.iaload, 1) := by decide +kernel
theorem dM_solve_65 : decode cM_solve 65 = .ok (.iastore, 1) := by decide +kernel
theorem dM_solve_66 : decode cM_solve 66 = .ok (.iinc 2 1, 3) := by decide +kernel
theorem dM_solve_69 : decode cM_solve 69 = .ok (.goto (-27), 3) := by decide +kernel
theorem dM_solve_72 : decode cM_solve 72 = .ok (.aload_n 0, 1) := by decide +kernel
theorem dM_solve_73 : decode cM_solve 73 = .ok (.getfield 53, 3) := by decide +kernel
theorem dM_solve_76 : decode cM_solve 76 = .ok (.istore_n 2, 1) := by decide +kernel
theorem dM_solve_77 : decode cM_solve 77 = .ok (.iload_n 2, 1) := by decide +kernel
theorem dM_solve_78 : decode cM_solve 78 = .ok (.ifCond .lt 26, 3) := by decide +kernel
theorem dM_solve_81 : decode cM_solve 81 = .ok (.iload_n 1, 1) := by decide +kernel
theorem dM_solve_82 : decode cM_solve 82 = .ok (.ifCond .ne 22, 3) := by decide +kernel
theorem dM_solve_85 : decode cM_solve 85 = .ok (.aload_n 0, 1) := by decide +kernel
theorem dM_solve_86 : decode cM_solve 86 = .ok (.iload_n 2, 1) := by decide +kernel
theorem dM_solve_87 : decode cM_solve 87 = .ok (.invokevirtual 79, 3) := by decide +kernel
theorem dM_solve_90 : decode cM_solve 90 = .ok (.ifCond .ne 14, 3) := by decide +kernel
theorem dM_solve_93 : decode cM_solve 93 = .ok (.aload_n 0, 1) := by decide +kernel
theorem dM_solve_94 : decode cM_solve 94 = .ok (.iload_n 2, 1) := by decide +kernel
theorem dM_solve_95 : decode cM_solve 95 = .ok (.putfield 82, 3) := by decide +kernel
theorem dM_solve_98 : decode cM_solve 98 = .ok (.iinc 2 (-1), 3) := by decide +kernel
theorem dM_solve_101 : decode cM_solve 101 = .ok (.goto (-24), 3) := by decide +kernel
theorem dM_solve_104 : decode cM_solve 104 = .ok (.aload_n 0, 1) := by decide +kernel
theorem dM_solve_105 : decode cM_solve 105 = .ok (.iconst 0, 1) := by decide +kernel
theorem dM_solve_106 : decode cM_solve 106 = .ok (.putfield 53, 3) := by decide +kernel
theorem dM_solve_109 : decode cM_solve 109 = .ok (.iload_n 1, 1) := by decide +kernel
theorem dM_solve_110 : decode cM_solve 110 = .ok (.ireturn, 1) := by decide +kernel
theorem dM_thrown_0 : decode cM_thrown 0 = .ok (.aload_n 0, 1) := by decide +kernel
theorem dM_thrown_1 : decode cM_thrown 1 = .ok (.getfield 37, 3) := by decide +kernel
theorem dM_thrown_4 : decode cM_thrown 4 = .ok (.ireturn, 1) := by decide +kernel
theorem dM_variable_0 : decode cM_variable 0 = .ok (.aload_n 0, 1) := by decide +kernel
theorem dM_variable_1 : decode cM_variable 1 = .ok (.aload_n 0, 1) := by decide +kernel
theorem dM_variable_2 : decode cM_variable 2 = .ok (.getfield 41, 3) := by decide +kernel
theorem dM_variable_5 : decode cM_variable 5 = .ok (.bipush 16, 2) := by decide +kernel
theorem dM_variable_7 : decode cM_variable 7 = .ok (.if_icmp .ne 7, 3) := by decide +kernel
theorem dM_variable_10 : decode cM_variable 10 = .ok (.iconst 1, 1) := by decide +kernel
theorem dM_variable_11 : decode cM_variable 11 = .ok (.goto 4, 3) := by decide +kernel
theorem dM_variable_14 : decode cM_variable 14 = .ok (.iconst 0, 1) := by decide +kernel
theorem dM_variable_15 : decode cM_variable 15 = .ok (.putfield 37, 3) := by decide +kernel
theorem dM_variable_18 : decode cM_variable 18 = .ok (.aload_n 0, 1) := by decide +kernel
theorem dM_variable_19 : decode cM_variable 19 = .ok (.getfield 37, 3) := by decide +kernel
theorem dM_variable_22 : decode cM_variable 22 = .ok (.ifCond .le 5, 3) := by decide +kernel
theorem dM_variable_25 : decode cM_variable 25 = .ok (.iconst 0, 1) := by decide +kernel
theorem dM_variable_26 : decode cM_variable 26 = .ok (.ireturn, 1) := by decide +kernel
theorem dM_variable_27 : decode cM_variable 27 = .ok (.aload_n 0, 1) := by decide +kernel
theorem dM_variable_28 : decode cM_variable 28 = .ok (.dup, 1) := by decide +kernel
theorem dM_variable_29 : decode cM_variable 29 = .ok (.getfield 41, 3) := by decide +kernel
theorem dM_variable_32 : decode cM_variable 32 = .ok (.iconst 1, 1) := by decide +kernel
theorem dM_variable_33 : decode cM_variable 33 = .ok (.iadd, 1) := by decide +kernel
theorem dM_variable_34 : decode cM_variable 34 = .ok (.putfield 41, 3) := by decide +kernel
theorem dM_variable_37 : decode cM_variable 37 = .ok (.aload_n 0, 1) := by decide +kernel
theorem dM_variable_38 : decode cM_variable 38 = .ok (.getfield 41, 3) := by decide +kernel
theorem dM_variable_41 : decode cM_variable 41 = .ok (.iconst 1, 1) := by decide +kernel
theorem dM_variable_42 : decode cM_variable 42 = .ok (.isub, 1) := by decide +kernel
theorem dM_variable_43 : decode cM_variable 43 = .ok (.ireturn, 1) := by decide +kernel
theorem dM_ways_0 : decode cM_ways 0 = .ok (.aload_n 0, 1) := by decide +kernel
theorem dM_ways_1 : decode cM_ways 1 = .ok (.iload_n 2, 1) := by decide +kernel
theorem dM_ways_2 : decode cM_ways 2 = .ok (.ifCond .lt 9, 3) := by decide +kernel
theorem dM_ways_5 : decode cM_ways 5 = .ok (.iload_n 2, 1) := by decide +kernel
theorem dM_ways_6 : decode cM_ways 6 = .ok (.bipush 8, 2) := by decide +kernel
theorem dM_ways_8 : decode cM_ways 8 = .ok (.if_icmp .le 7, 3) := by decide +kernel
theorem dM_ways_11 : decode cM_ways 11 = .ok (.iconst 1, 1) := by decide +kernel
theorem dM_ways_12 : decode cM_ways 12 = .ok (.goto 22, 3) := by decide +kernel
theorem dM_ways_15 : decode cM_ways 15 = .ok (.iload_n 1, 1) := by decide +kernel
theorem dM_ways_16 : decode cM_ways 16 = .ok (.ifCond .lt 13, 3) := by decide +kernel
theorem dM_ways_19 : decode cM_ways 19 = .ok (.iload_n 1, 1) := by decide +kernel
theorem dM_ways_20 : decode cM_ways 20 = .ok (.aload_n 0, 1) := by decide +kernel
theorem dM_ways_21 : decode cM_ways 21 = .ok (.getfield 41, 3) := by decide +kernel
theorem dM_ways_24 : decode cM_ways 24 = .ok (.iload_n 2, 1) := by decide +kernel
theorem dM_ways_25 : decode cM_ways 25 = .ok (.isub, 1) := by decide +kernel
theorem dM_ways_26 : decode cM_ways 26 = .ok (.if_icmp .le 7, 3) := by decide +kernel
theorem dM_ways_29 : decode cM_ways 29 = .ok (.iconst 2, 1) := by decide +kernel
theorem dM_ways_30 : decode cM_ways 30 = .ok (.goto 4, 3) := by decide +kernel
theorem dM_ways_33 : decode cM_ways 33 = .ok (.iconst 0, 1) := by decide +kernel
theorem dM_ways_34 : decode cM_ways 34 = .ok (.putfield 37, 3) := by decide +kernel
theorem dM_ways_37 : decode cM_ways 37 = .ok (.aload_n 0, 1) := by decide +kernel
theorem dM_ways_38 : decode cM_ways 38 = .ok (.getfield 37, 3) := by decide +kernel
theorem dM_ways_41 : decode cM_ways 41 = .ok (.ifCond .le 5, 3) := by decide +kernel
theorem dM_ways_44 : decode cM_ways 44 = .ok (.iconst 0, 1) := by decide +kernel
theorem dM_ways_45 : decode cM_ways 45 = .ok (.ireturn, 1) := by decide +kernel
theorem dM_ways_46 : decode cM_ways 46 = .ok (.iconst 0, 1) := by decide +kernel
theorem dM_ways_47 : decode cM_ways 47 = .ok (.istore_n 3, 1) := by decide +kernel
theorem dM_ways_48 : decode cM_ways 48 = .ok (.iconst 0, 1) := by decide +kernel
theorem dM_ways_49 : decode cM_ways 49 = .ok (.istore 4, 2) := by decide +kernel
theorem dM_ways_51 : decode cM_ways 51 = .ok (.iload 4, 2) := by decide +kernel
theorem dM_ways_53 : decode cM_ways 53 = .ok (.iconst 1, 1) := by decide +kernel
theorem dM_ways_54 : decode cM_ways 54 = .ok (.iload_n 2, 1) := by decide +kernel
theorem dM_ways_55 : decode cM_ways 55 = .ok (.ishl, 1) := by decide +kernel
theorem dM_ways_56 : decode cM_ways 56 = .ok (.if_icmp .ge 59, 3) := by decide +kernel
theorem dM_ways_59 : decode cM_ways 59 = .ok (.aload_n 0, 1) := by decide +kernel
theorem dM_ways_60 : decode cM_ways 60 = .ok (.invokevirtual 69, 3) := by decide +kernel
theorem dM_ways_63 : decode cM_ways 63 = .ok (.iconst 0, 1) := by decide +kernel
theorem dM_ways_64 : decode cM_ways 64 = .ok (.istore 5, 2) := by decide +kernel
theorem dM_ways_66 : decode cM_ways 66 = .ok (.iload 5, 2) := by decide +kernel
theorem dM_ways_68 : decode cM_ways 68 = .ok (.iload_n 2, 1) := by decide +kernel
theorem dM_ways_69 : decode cM_ways 69 = .ok (.if_icmp .ge 25, 3) := by decide +kernel
theorem dM_ways_72 : decode cM_ways 72 = .ok (.aload_n 0, 1) := by decide +kernel
theorem dM_ways_73 : decode cM_ways 73 = .ok (.getfield 25, 3) := by decide +kernel
theorem dM_ways_76 : decode cM_ways 76 = .ok (.iload_n 1, 1) := by decide +kernel
theorem dM_ways_77 : decode cM_ways 77 = .ok (.iload 5, 2) := by decide +kernel
theorem dM_ways_79 : decode cM_ways 79 = .ok (.iadd, 1) := by decide +kernel
theorem dM_ways_80 : decode cM_ways 80 = .ok (.iload 4, 2) := by decide +kernel
theorem dM_ways_82 : decode cM_ways 82 = .ok (.iload 5, 2) := by decide +kernel
theorem dM_ways_84 : decode cM_ways 84 = .ok (.ishr, 1) := by decide +kernel
theorem dM_ways_85 : decode cM_ways 85 = .ok (.iconst 1, 1) := by decide +kernel
theorem dM_ways_86 : decode cM_ways 86 = .ok (.iand, 1) := by decide +kernel
theorem dM_ways_87 : decode cM_ways 87 = .ok (.iastore, 1) := by decide +kernel
theorem dM_ways_88 : decode cM_ways 88 = .ok (.iinc 5 1, 3) := by decide +kernel
theorem dM_ways_91 : decode cM_ways 91 = .ok (.goto (-25), 3) := by decide +kernel
theorem dM_ways_94 : decode cM_ways 94 = .ok (.aload_n 0, 1) := by decide +kernel
theorem dM_ways_95 : decode cM_ways 95 = .ok (.invokevirtual 75, 3) := by decide +kernel
theorem dM_ways_98 : decode cM_ways 98 = .ok (.ifCond .eq 9, 3) := by decide +kernel
theorem dM_ways_101 : decode cM_ways 101 = .ok (.iload_n 3, 1) := by decide +kernel
theorem dM_ways_102 : decode cM_ways 102 = .ok (.iconst 1, 1) := by decide +kernel
theorem dM_ways_103 : decode cM_ways 103 = .ok (.iadd, 1) := by decide +kernel
theorem dM_ways_104 : decode cM_ways 104 = .ok (.goto 4, 3) := by decide +kernel
theorem dM_ways_107 : decode cM_ways 107 = .ok (.iload_n 3, 1) := by decide +kernel
theorem dM_ways_108 : decode cM_ways 108 = .ok (.istore_n 3, 1) := by decide +kernel
theorem dM_ways_109 : decode cM_ways 109 = .ok (.iinc 4 1, 3) := by decide +kernel
theorem dM_ways_112 : decode cM_ways 112 = .ok (.goto (-61), 3) := by decide +kernel
theorem dM_ways_115 : decode cM_ways 115 = .ok (.iload_n 3, 1) := by decide +kernel
theorem dM_ways_116 : decode cM_ways 116 = .ok (.ireturn, 1) := by decide +kernel
theorem dR_addVariable_0 : decode cR_addVariable 0 = .ok (.iload_n 1, 1) := by decide +kernel
theorem dR_addVariable_1 : decode cR_addVariable 1 = .ok (.bipush 6, 2) := by decide +kernel
theorem dR_addVariable_3 : decode cR_addVariable 3 = .ok (.if_icmp .lt 17, 3) := by decide +kernel
theorem dR_addVariable_6 : decode cR_addVariable 6 = .ok (.aload_n 0, 1) := by decide +kernel
theorem dR_addVariable_7 : decode cR_addVariable 7 = .ok (.getfield 15, 3) := by decide +kernel
theorem dR_addVariable_10 : decode cR_addVariable 10 = .ok (.aload_n 0, 1) := by decide +kernel
theorem dR_addVariable_11 : decode cR_addVariable 11 = .ok (.getfield 11, 3) := by decide +kernel
theorem dR_addVariable_14 : decode cR_addVariable 14 = .ok (.arraylength, 1) := by decide +kernel
theorem dR_addVariable_15 : decode cR_addVariable 15 = .ok (.iconst 2, 1) := by decide +kernel
theorem dR_addVariable_16 : decode cR_addVariable 16 = .ok (.idiv, 1) := by decide +kernel
theorem dR_addVariable_17 : decode cR_addVariable 17 = .ok (.if_icmp .le 4, 3) := by decide +kernel
theorem dR_addVariable_20 : decode cR_addVariable 20 = .ok (.return_, 1) := by decide +kernel
theorem dR_addVariable_21 : decode cR_addVariable 21 = .ok (.iconst 0, 1) := by decide +kernel
theorem dR_addVariable_22 : decode cR_addVariable 22 = .ok (.istore_n 2, 1) := by decide +kernel
theorem dR_addVariable_23 : decode cR_addVariable 23 = .ok (.iload_n 2, 1) := by decide +kernel
theorem dR_addVariable_24 : decode cR_addVariable 24 = .ok (.aload_n 0, 1) := by decide +kernel
theorem dR_addVariable_25 : decode cR_addVariable 25 = .ok (.getfield 15, 3) := by decide +kernel
theorem dR_addVariable_28 : decode cR_addVariable 28 = .ok (.if_icmp .ge 26, 3) := by decide +kernel
theorem dR_addVariable_31 : decode cR_addVariable 31 = .ok (.aload_n 0, 1) := by decide +kernel
theorem dR_addVariable_32 : decode cR_addVariable 32 = .ok (.getfield 11, 3) := by decide +kernel
theorem dR_addVariable_35 : decode cR_addVariable 35 = .ok (.aload_n 0, 1) := by decide +kernel
theorem dR_addVariable_36 : decode cR_addVariable 36 = .ok (.getfield 15, 3) := by decide +kernel
theorem dR_addVariable_39 : decode cR_addVariable 39 = .ok (.iload_n 2, 1) := by decide +kernel
theorem dR_addVariable_40 : decode cR_addVariable 40 = .ok (.iadd, 1) := by decide +kernel
theorem dR_addVariable_41 : decode cR_addVariable 41 = .ok (.aload_n 0, 1) := by decide +kernel
theorem dR_addVariable_42 : decode cR_addVariable 42 = .ok (.getfield 11, 3) := by decide +kernel
theorem dR_addVariable_45 : decode cR_addVariable 45 = .ok (.iload_n 2, 1) := by decide +kernel
theorem dR_addVariable_46 : decode cR_addVariable 46 = .ok (.laload, 1) := by decide +kernel
theorem dR_addVariable_47 : decode cR_addVariable 47 = .ok (.lastore, 1) := by decide +kernel
theorem dR_addVariable_48 : decode cR_addVariable 48 = .ok (.iinc 2 1, 3) := by decide +kernel
theorem dR_addVariable_51 : decode cR_addVariable 51 = .ok (.goto (-28), 3) := by decide +kernel
theorem dR_addVariable_54 : decode cR_addVariable 54 = .ok (.aload_n 0, 1) := by decide +kernel
theorem dR_addVariable_55 : decode cR_addVariable 55 = .ok (.iconst 2, 1) := by decide +kernel
theorem dR_addVariable_56 : decode cR_addVariable 56 = .ok (.aload_n 0, 1) := by decide +kernel
theorem dR_addVariable_57 : decode cR_addVariable 57 = .ok (.getfield 15, 3) := by decide +kernel
theorem dR_addVariable_60 : decode cR_addVariable 60 = .ok (.imul, 1) := by decide +kernel
theorem dR_addVariable_61 : decode cR_addVariable 61 = .ok (.putfield 15, 3) := by decide +kernel
theorem dR_addVariable_64 : decode cR_addVariable 64 = .ok (.return_, 1) := by decide +kernel
theorem dR_anyIn_0 : decode cR_anyIn 0 = .ok (.iload_n 1, 1) := by decide +kernel
theorem dR_anyIn_1 : decode cR_anyIn 1 = .ok (.ifCond .lt 15, 3) := by decide +kernel
theorem dR_anyIn_4 : decode cR_anyIn 4 = .ok (.iload_n 2, 1) := by decide +kernel
theorem dR_anyIn_5 : decode cR_anyIn 5 = .ok (.iconst 1, 1) := by decide +kernel
theorem dR_anyIn_6 : decode cR_anyIn 6 = .ok (.if_icmp .lt 10, 3) := by decide +kernel
theorem dR_anyIn_9 : decode cR_anyIn 9 = .ok (.iload_n 2, 1) := by decide +kernel
theorem dR_anyIn_10 : decode cR_anyIn 10 = .ok (.sipush 1024, 3) := by decide +kernel
theorem dR_anyIn_13 : decode cR_anyIn 13 = .ok (.if_icmp .le 5, 3) := by decide +kernel
theorem dR_anyIn_16 : decode cR_anyIn 16 = .ok (.iconst 0, 1) := by decide +kernel
theorem dR_anyIn_17 : decode cR_anyIn 17 = .ok (.ireturn, 1) := by decide +kernel
theorem dR_anyIn_18 : decode cR_anyIn 18 = .ok (.iload_n 1, 1) := by decide +kernel
theorem dR_anyIn_19 : decode cR_anyIn 19 = .ok (.istore 5, 2) := by decide +kernel
theorem dR_anyIn_21 : decode cR_anyIn 21 = .ok (.iload 5, 2) := by decide +kernel
theorem dR_anyIn_23 : decode cR_anyIn 23 = .ok (.aload_n 0, 1) := by decide +kernel
theorem dR_anyIn_24 : decode cR_anyIn 24 = .ok (.getfield 15, 3) := by decide +kernel
theorem dR_anyIn_27 : decode cR_anyIn 27 = .ok (.if_icmp .ge 28, 3) := by decide +kernel
theorem dR_anyIn_30 : decode cR_anyIn 30 = .ok (.aload_n 0, 1) := by decide +kernel
theorem dR_anyIn_31 : decode cR_anyIn 31 = .ok (.getfield 11, 3) := by decide +kernel
theorem dR_anyIn_34 : decode cR_anyIn 34 = .ok (.iload 5, 2) := by decide +kernel
theorem dR_anyIn_36 : decode cR_anyIn 36 = .ok (.laload, 1) := by decide +kernel
theorem dR_anyIn_37 : decode cR_anyIn 37 = .ok (.lload_n 3, 1) := by decide +kernel
theorem dR_anyIn_38 : decode cR_anyIn 38 = .ok (.land, 1) := by decide +kernel
theorem dR_anyIn_39 : decode cR_anyIn 39 = .ok (.lconst 0, 1) := by decide +kernel
theorem dR_anyIn_40 : decode cR_anyIn 40 = .ok (.lcmp, 1) := by decide +kernel
theorem dR_anyIn_41 : decode cR_anyIn 41 = .ok (.ifCond .eq 5, 3) := by decide +kernel
theorem dR_anyIn_44 : decode cR_anyIn 44 = .ok (.iconst 1, 1) := by decide +kernel
theorem dR_anyIn_45 : decode cR_anyIn 45 = .ok (.ireturn, 1) := by decide +kernel
theorem dR_anyIn_46 : decode cR_anyIn 46 = .ok (.iload 5, 2) := by decide +kernel
theorem dR_anyIn_48 : decode cR_anyIn 48 = .ok (.iload_n 2, 1) := by decide +kernel
theorem dR_anyIn_49 : decode cR_anyIn 49 = .ok (.iadd, 1) := by decide +kernel
theorem dR_anyIn_50 : decode cR_anyIn 50 = .ok (.istore 5, 2) := by decide +kernel
theorem dR_anyIn_52 : decode cR_anyIn 52 = .ok (.goto (-31), 3) := by decide +kernel
theorem dR_anyIn_55 : decode cR_anyIn 55 = .ok (.iconst 0, 1) := by decide +kernel
theorem dR_anyIn_56 : decode cR_anyIn 56 = .ok (.ireturn, 1) := by decide +kernel
theorem dR_anyWith_0 : decode cR_anyWith 0 = .ok (.iconst 0, 1) := by decide +kernel
theorem dR_anyWith_1 : decode cR_anyWith 1 = .ok (.istore_n 2, 1) := by decide +kernel
theorem dR_anyWith_2 : decode cR_anyWith 2 = .ok (.iload_n 2, 1) := by decide +kernel
theorem dR_anyWith_3 : decode cR_anyWith 3 = .ok (.aload_n 0, 1) := by decide +kernel
theorem dR_anyWith_4 : decode cR_anyWith 4 = .ok (.getfield 15, 3) := by decide +kernel
theorem dR_anyWith_7 : decode cR_anyWith 7 = .ok (.if_icmp .ge 28, 3) := by decide +kernel
theorem dR_anyWith_10 : decode cR_anyWith 10 = .ok (.aload_n 0, 1) := by decide +kernel
theorem dR_anyWith_11 : decode cR_anyWith 11 = .ok (.getfield 11, 3) := by decide +kernel
theorem dR_anyWith_14 : decode cR_anyWith 14 = .ok (.iload_n 2, 1) := by decide +kernel
theorem dR_anyWith_15 : decode cR_anyWith 15 = .ok (.laload, 1) := by decide +kernel
theorem dR_anyWith_16 : decode cR_anyWith 16 = .ok (.iload_n 1, 1) := by decide +kernel
theorem dR_anyWith_17 : decode cR_anyWith 17 = .ok (.iload_n 2, 1) := by decide +kernel
theorem dR_anyWith_18 : decode cR_anyWith 18 = .ok (.invokestatic 32, 3) := by decide +kernel
theorem dR_anyWith_21 : decode cR_anyWith 21 = .ok (.land, 1) := by decide +kernel
theorem dR_anyWith_22 : decode cR_anyWith 22 = .ok (.lconst 0, 1) := by decide +kernel
theorem dR_anyWith_23 : decode cR_anyWith 23 = .ok (.lcmp, 1) := by decide +kernel
theorem dR_anyWith_24 : decode cR_anyWith 24 = .ok (.ifCond .eq 5, 3) := by decide +kernel
theorem dR_anyWith_27 : decode cR_anyWith 27 = .ok (.iconst 1, 1) := by decide +kernel
theorem dR_anyWith_28 : decode cR_anyWith 28 = .ok (.ireturn, 1) := by decide +kernel
theorem dR_anyWith_29 : decode cR_anyWith 29 = .ok (.iinc 2 1, 3) := by decide +kernel
theorem dR_anyWith_32 : decode cR_anyWith 32 = .ok (.goto (-30), 3) := by decide +kernel
theorem dR_anyWith_35 : decode cR_anyWith 35 = .ok (.iconst 0, 1) := by decide +kernel
theorem dR_anyWith_36 : decode cR_anyWith 36 = .ok (.ireturn, 1) := by decide +kernel
theorem dR_copyFrom_0 : decode cR_copyFrom 0 = .ok (.aload_n 1, 1) := by decide +kernel
theorem dR_copyFrom_1 : decode cR_copyFrom 1 = .ok (.ifnonnull 4, 3) := by decide +kernel
theorem dR_copyFrom_4 : decode cR_copyFrom 4 = .ok (.return_, 1) := by decide +kernel
theorem dR_copyFrom_5 : decode cR_copyFrom 5 = .ok (.iconst 0, 1) := by decide +kernel
theorem dR_copyFrom_6 : decode cR_copyFrom 6 = .ok (.istore_n 2, 1) := by decide +kernel
theorem dR_copyFrom_7 : decode cR_copyFrom 7 = .ok (.iload_n 2, 1) := by decide +kernel
theorem dR_copyFrom_8 : decode cR_copyFrom 8 = .ok (.aload_n 1, 1) := by decide +kernel
theorem dR_copyFrom_9 : decode cR_copyFrom 9 = .ok (.getfield 15, 3) := by decide +kernel
theorem dR_copyFrom_12 : decode cR_copyFrom 12 = .ok (.if_icmp .ge 30, 3) := by decide +kernel
theorem dR_copyFrom_15 : decode cR_copyFrom 15 = .ok (.iload_n 2, 1) := by decide +kernel
theorem dR_copyFrom_16 : decode cR_copyFrom 16 = .ok (.aload_n 0, 1) := by decide +kernel
theorem dR_copyFrom_17 : decode cR_copyFrom 17 = .ok (.getfield 11, 3) := by decide +kernel
theorem dR_copyFrom_20 : decode cR_copyFrom 20 = .ok (.arraylength, 1) := by decide +kernel
theorem dR_copyFrom_21 : decode cR_copyFrom 21 = .ok (.if_icmp .ge 21, 3) := by decide +kernel
theorem dR_copyFrom_24 : decode cR_copyFrom 24 = .ok (.aload_n 0, 1) := by decide +kernel
theorem dR_copyFrom_25 : decode cR_copyFrom 25 = .ok (.getfield 11, 3) := by decide +kernel
theorem dR_copyFrom_28 : decode cR_copyFrom 28 = .ok (.iload_n 2, 1) := by decide +kernel
theorem dR_copyFrom_29 : decode cR_copyFrom 29 = .ok (.aload_n 1, 1) := by decide +kernel
theorem dR_copyFrom_30 : decode cR_copyFrom 30 = .ok (.getfield 11, 3) := by decide +kernel
theorem dR_copyFrom_33 : decode cR_copyFrom 33 = .ok (.iload_n 2, 1) := by decide +kernel
theorem dR_copyFrom_34 : decode cR_copyFrom 34 = .ok (.laload, 1) := by decide +kernel
theorem dR_copyFrom_35 : decode cR_copyFrom 35 = .ok (.lastore, 1) := by decide +kernel
theorem dR_copyFrom_36 : decode cR_copyFrom 36 = .ok (.iinc 2 1, 3) := by decide +kernel
theorem dR_copyFrom_39 : decode cR_copyFrom 39 = .ok (.goto (-32), 3) := by decide +kernel
theorem dR_copyFrom_42 : decode cR_copyFrom 42 = .ok (.aload_n 0, 1) := by decide +kernel
theorem dR_copyFrom_43 : decode cR_copyFrom 43 = .ok (.aload_n 1, 1) := by decide +kernel
theorem dR_copyFrom_44 : decode cR_copyFrom 44 = .ok (.getfield 15, 3) := by decide +kernel
theorem dR_copyFrom_47 : decode cR_copyFrom 47 = .ok (.putfield 15, 3) := by decide +kernel
theorem dR_copyFrom_50 : decode cR_copyFrom 50 = .ok (.return_, 1) := by decide +kernel
theorem dR_count_0 : decode cR_count 0 = .ok (.iconst 0, 1) := by decide +kernel
theorem dR_count_1 : decode cR_count 1 = .ok (.istore_n 1, 1) := by decide +kernel
theorem dR_count_2 : decode cR_count 2 = .ok (.iconst 0, 1) := by decide +kernel
theorem dR_count_3 : decode cR_count 3 = .ok (.istore_n 2, 1) := by decide +kernel
theorem dR_count_4 : decode cR_count 4 = .ok (.iload_n 2, 1) := by decide +kernel
theorem dR_count_5 : decode cR_count 5 = .ok (.aload_n 0, 1) := by decide +kernel
theorem dR_count_6 : decode cR_count 6 = .ok (.getfield 15, 3) := by decide +kernel
theorem dR_count_9 : decode cR_count 9 = .ok (.if_icmp .ge 21, 3) := by decide +kernel
theorem dR_count_12 : decode cR_count 12 = .ok (.iload_n 1, 1) := by decide +kernel
theorem dR_count_13 : decode cR_count 13 = .ok (.aload_n 0, 1) := by decide +kernel
theorem dR_count_14 : decode cR_count 14 = .ok (.getfield 11, 3) := by decide +kernel
theorem dR_count_17 : decode cR_count 17 = .ok (.iload_n 2, 1) := by decide +kernel
theorem dR_count_18 : decode cR_count 18 = .ok (.laload, 1) := by decide +kernel
theorem dR_count_19 : decode cR_count 19 = .ok (.invokestatic 40, 3) := by decide +kernel
theorem dR_count_22 : decode cR_count 22 = .ok (.iadd, 1) := by decide +kernel
theorem dR_count_23 : decode cR_count 23 = .ok (.istore_n 1, 1) := by decide +kernel
theorem dR_count_24 : decode cR_count 24 = .ok (.iinc 2 1, 3) := by decide +kernel
theorem dR_count_27 : decode cR_count 27 = .ok (.goto (-23), 3) := by decide +kernel
theorem dR_count_30 : decode cR_count 30 = .ok (.iload_n 1, 1) := by decide +kernel
theorem dR_count_31 : decode cR_count 31 = .ok (.ireturn, 1) := by decide +kernel
theorem dR_dropInner_0 : decode cR_dropInner 0 = .ok (.iconst 0, 1) := by decide +kernel
theorem dR_dropInner_1 : decode cR_dropInner 1 = .ok (.istore 4, 2) := by decide +kernel
theorem dR_dropInner_3 : decode cR_dropInner 3 = .ok (.iload 4, 2) := by decide +kernel
theorem dR_dropInner_5 : decode cR_dropInner 5 = .ok (.aload_n 0, 1) := by decide +kernel
theorem dR_dropInner_6 : decode cR_dropInner 6 = .ok (.getfield 15, 3) := by decide +kernel
theorem dR_dropInner_9 : decode cR_dropInner 9 = .ok (.if_icmp .ge 35, 3) := by decide +kernel
theorem dR_dropInner_12 : decode cR_dropInner 12 = .ok (.aload_n 0, 1) := by decide +kernel
theorem dR_dropInner_13 : decode cR_dropInner 13 = .ok (.getfield 11, 3) := by decide +kernel
theorem dR_dropInner_16 : decode cR_dropInner 16 = .ok (.iload 4, 2) := by decide +kernel
theorem dR_dropInner_18 : decode cR_dropInner 18 = .ok (.aload_n 0, 1) := by decide +kernel
theorem dR_dropInner_19 : decode cR_dropInner 19 = .ok (.getfield 11, 3) := by decide +kernel
theorem dR_dropInner_22 : decode cR_dropInner 22 = .ok (.iload 4, 2) := by decide +kernel
theorem dR_dropInner_24 : decode cR_dropInner 24 = .ok (.laload, 1) := by decide +kernel
theorem dR_dropInner_25 : decode cR_dropInner 25 = .ok (.aload_n 0, 1) := by decide +kernel
theorem dR_dropInner_26 : decode cR_dropInner 26 = .ok (.getfield 11, 3) := by decide +kernel
theorem dR_dropInner_29 : decode cR_dropInner 29 = .ok (.iload 4, 2) := by decide +kernel
theorem dR_dropInner_31 : decode cR_dropInner 31 = .ok (.laload, 1) := by decide +kernel
theorem dR_dropInner_32 : decode cR_dropInner 32 = .ok (.iload_n 1, 1) := by decide +kernel
theorem dR_dropInner_33 : decode cR_dropInner 33 = .ok (.lushr, 1) := by decide +kernel
theorem dR_dropInner_34 : decode cR_dropInner 34 = .ok (.lor, 1) := by decide +kernel
theorem dR_dropInner_35 : decode cR_dropInner 35 = .ok (.lload_n 2, 1) := by decide +kernel
theorem dR_dropInner_36 : decode cR_dropInner 36 = .ok (.land, 1) := by decide +kernel
theorem dR_dropInner_37 : decode cR_dropInner 37 = .ok (.lastore, 1) := by decide +kernel
theorem dR_dropInner_38 : decode cR_dropInner 38 = .ok (.iinc 4 1, 3) := by decide +kernel
theorem dR_dropInner_41 : decode cR_dropInner 41 = .ok (.goto (-38), 3) := by decide +kernel
theorem dR_dropInner_44 : decode cR_dropInner 44 = .ok (.return_, 1) := by decide +kernel
theorem dR_dropOuter_0 : decode cR_dropOuter 0 = .ok (.iload_n 1, 1) := by decide +kernel
theorem dR_dropOuter_1 : decode cR_dropOuter 1 = .ok (.aload_n 0, 1) := by decide +kernel
theorem dR_dropOuter_2 : decode cR_dropOuter 2 = .ok (.getfield 15, 3) := by decide +kernel
theorem dR_dropOuter_5 : decode cR_dropOuter 5 = .ok (.if_icmp .lt 4, 3) := by decide +kernel
theorem dR_dropOuter_8 : decode cR_dropOuter 8 = .ok (.return_, 1) := by decide +kernel
theorem dR_dropOuter_9 : decode cR_dropOuter 9 = .ok (.iconst 0, 1) := by decide +kernel
theorem dR_dropOuter_10 : decode cR_dropOuter 10 = .ok (.istore_n 2, 1) := by decide +kernel
theorem dR_dropOuter_11 : decode cR_dropOuter 11 = .ok (.iconst 0, 1) := by decide +kernel
theorem dR_dropOuter_12 : decode cR_dropOuter 12 = .ok (.istore_n 3, 1) := by decide +kernel
theorem dR_dropOuter_13 : decode cR_dropOuter 13 = .ok (.iload_n 3, 1) := by decide +kernel
theorem dR_dropOuter_14 : decode cR_dropOuter 14 = .ok (.iload_n 1, 1) := by decide +kernel
theorem dR_dropOuter_15 : decode cR_dropOuter 15 = .ok (.iadd, 1) := by decide +kernel
theorem dR_dropOuter_16 : decode cR_dropOuter 16 = .ok (.aload_n 0, 1) := by decide +kernel
theorem dR_dropOuter_17 : decode cR_dropOuter 17 = .ok (.getfield 15, 3) := by decide +kernel
theorem dR_dropOuter_20 : decode cR_dropOuter 20 = .ok (.if_icmp .ge 39, 3) := by decide +kernel
theorem dR_dropOuter_23 : decode cR_dropOuter 23 = .ok (.iload_n 3, 1) := by decide +kernel
theorem dR_dropOuter_24 : decode cR_dropOuter 24 = .ok (.iload_n 1, 1) := by decide +kernel
theorem dR_dropOuter_25 : decode cR_dropOuter 25 = .ok (.iand, 1) := by decide +kernel
theorem dR_dropOuter_26 : decode cR_dropOuter 26 = .ok (.ifCond .ne 27, 3) := by decide +kernel
theorem dR_dropOuter_29 : decode cR_dropOuter 29 = .ok (.aload_n 0, 1) := by decide +kernel
theorem dR_dropOuter_30 : decode cR_dropOuter 30 = .ok (.getfield 11, 3) := by decide +kernel
theorem dR_dropOuter_33 : decode cR_dropOuter 33 = .ok (.iload_n 2, 1) := by decide +kernel
theorem dR_dropOuter_34 : decode cR_dropOuter 34 = .ok (.aload_n 0, 1) := by decide +kernel
theorem dR_dropOuter_35 : decode cR_dropOuter 35 = .ok (.getfield 11, 3) := by decide +kernel
theorem dR_dropOuter_38 : decode cR_dropOuter 38 = .ok (.iload_n 3, 1) := by decide +kernel
theorem dR_dropOuter_39 : decode cR_dropOuter 39 = .ok (.laload, 1) := by decide +kernel
theorem dR_dropOuter_40 : decode cR_dropOuter 40 = .ok (.aload_n 0, 1) := by decide +kernel
theorem dR_dropOuter_41 : decode cR_dropOuter 41 = .ok (.getfield 11, 3) := by decide +kernel
theorem dR_dropOuter_44 : decode cR_dropOuter 44 = .ok (.iload_n 3, 1) := by decide +kernel
theorem dR_dropOuter_45 : decode cR_dropOuter 45 = .ok (.iload_n 1, 1) := by decide +kernel
theorem dR_dropOuter_46 : decode cR_dropOuter 46 = .ok (.iadd, 1) := by decide +kernel
theorem dR_dropOuter_47 : decode cR_dropOuter 47 = .ok (.laload, 1) := by decide +kernel
theorem dR_dropOuter_48 : decode cR_dropOuter 48 = .ok (.lor, 1) := by decide +kernel
theorem dR_dropOuter_49 : decode cR_dropOuter 49 = .ok (.lastore, 1) := by decide +kernel
theorem dR_dropOuter_50 : decode cR_dropOuter 50 = .ok (.iinc 2 1, 3) := by decide +kernel
theorem dR_dropOuter_53 : decode cR_dropOuter 53 = .ok (.iinc 3 1, 3) := by decide +kernel
theorem dR_dropOuter_56 : decode cR_dropOuter 56 = .ok (.goto (-43), 3) := by decide +kernel
theorem dR_dropOuter_59 : decode cR_dropOuter 59 = .ok (.aload_n 0, 1) := by decide +kernel
theorem dR_dropOuter_60 : decode cR_dropOuter 60 = .ok (.iload_n 2, 1) := by decide +kernel
theorem dR_dropOuter_61 : decode cR_dropOuter 61 = .ok (.putfield 15, 3) := by decide +kernel
theorem dR_dropOuter_64 : decode cR_dropOuter 64 = .ok (.return_, 1) := by decide +kernel
theorem dR_dropVariable_0 : decode cR_dropVariable 0 = .ok (.iload_n 1, 1) := by decide +kernel
theorem dR_dropVariable_1 : decode cR_dropVariable 1 = .ok (.ifCond .lt 9, 3) := by decide +kernel
theorem dR_dropVariable_4 : decode cR_dropVariable 4 = .ok (.iload_n 1, 1) := by decide +kernel
theorem dR_dropVariable_5 : decode cR_dropVariable 5 = .ok (.bipush 16, 2) := by decide +kernel
theorem dR_dropVariable_7 : decode cR_dropVariable 7 = .ok (.if_icmp .lt 4, 3) := by decide +kernel
theorem dR_dropVariable_10 : decode cR_dropVariable 10 = .ok (.return_, 1) := by decide +kernel
theorem dR_dropVariable_11 : decode cR_dropVariable 11 = .ok (.iload_n 1, 1) := by decide +kernel
theorem dR_dropVariable_12 : decode cR_dropVariable 12 = .ok (.getstatic 21, 3) := by decide +kernel
theorem dR_dropVariable_15 : decode cR_dropVariable 15 = .ok (.arraylength, 1) := by decide +kernel
theorem dR_dropVariable_16 : decode cR_dropVariable 16 = .ok (.if_icmp .ge 22, 3) := by decide +kernel
theorem dR_dropVariable_19 : decode cR_dropVariable 19 = .ok (.aload_n 0, 1) := by decide +kernel
theorem dR_dropVariable_20 : decode cR_dropVariable 20 = .ok (.iconst 1, 1) := by decide +kernel
theorem dR_dropVariable_21 : decode cR_dropVariable 21 = .ok (.iload_n 1, 1) := by decide +kernel
theorem dR_dropVariable_22 : decode cR_dropVariable 22 = .ok (.ishl, 1) := by decide +kernel
theorem dR_dropVariable_23 : decode cR_dropVariable 23 = .ok (.getstatic 21, 3) := by decide +kernel
theorem dR_dropVariable_26 : decode cR_dropVariable 26 = .ok (.iload_n 1, 1) := by decide +kernel
theorem dR_dropVariable_27 : decode cR_dropVariable 27 = .ok (.laload, 1) := by decide +kernel
theorem dR_dropVariable_28 : decode cR_dropVariable 28 = .ok (.ldc2_w 19, 3) := by decide +kernel
theorem dR_dropVariable_31 : decode cR_dropVariable 31 = .ok (.lxor, 1) := by decide +kernel
theorem dR_dropVariable_32 : decode cR_dropVariable 32 = .ok (.invokevirtual 24, 3) := by decide +kernel
theorem dR_dropVariable_35 : decode cR_dropVariable 35 = .ok (.goto 13, 3) := by decide +kernel
theorem dR_dropVariable_38 : decode cR_dropVariable 38 = .ok (.aload_n 0, 1) := by decide +kernel
theorem dR_dropVariable_39 : decode cR_dropVariable 39 = .ok (.iconst 1, 1) := by decide +kernel
theorem dR_dropVariable_40 : decode cR_dropVariable 40 = .ok (.iload_n 1, 1) := by decide +kernel
theorem dR_dropVariable_41 : decode cR_dropVariable 41 = .ok (.bipush 6, 2) := by decide +kernel
theorem dR_dropVariable_43 : decode cR_dropVariable 43 = .ok (.isub, 1) := by decide +kernel
theorem dR_dropVariable_44 : decode cR_dropVariable 44 = .ok (.ishl, 1) := by decide +kernel
theorem dR_dropVariable_45 : decode cR_dropVariable 45 = .ok (.invokevirtual 28, 3) := by decide +kernel
theorem dR_dropVariable_48 : decode cR_dropVariable 48 = .ok (.return_, 1) := by decide +kernel
theorem dR_holdAll_0 : decode cR_holdAll 0 = .ok (.aload_n 0, 1) := by decide +kernel
theorem dR_holdAll_1 : decode cR_holdAll 1 = .ok (.getfield 11, 3) := by decide +kernel
theorem dR_holdAll_4 : decode cR_holdAll 4 = .ok (.iconst 0, 1) := by decide +kernel
theorem dR_holdAll_5 : decode cR_holdAll 5 = .ok (.ldc2_w 19, 3) := by decide +kernel
theorem dR_holdAll_8 : decode cR_holdAll 8 = .ok (.lastore, 1) := by decide +kernel
theorem dR_holdAll_9 : decode cR_holdAll 9 = .ok (.aload_n 0, 1) := by decide +kernel
theorem dR_holdAll_10 : decode cR_holdAll 10 = .ok (.iconst 1, 1) := by decide +kernel
theorem dR_holdAll_11 : decode cR_holdAll 11 = .ok (.putfield 15, 3) := by decide +kernel
theorem dR_holdAll_14 : decode cR_holdAll 14 = .ok (.return_, 1) := by decide +kernel
theorem dR_init_0 : decode cR_init 0 = .ok (.aload_n 0, 1) := by decide +kernel
theorem dR_init_1 : decode cR_init 1 = .ok (.invokespecial 5, 3) := by decide +kernel
theorem dR_init_4 : decode cR_init 4 = .ok (.aload_n 0, 1) := by decide +kernel
theorem dR_init_5 : decode cR_init 5 = .ok (.sipush 1024, 3) := by decide +kernel
theorem dR_init_8 : decode cR_init 8 = .ok (.newarray .long, 2) := by decide +kernel
theorem dR_init_10 : decode cR_init 10 = .ok (.putfield 11, 3) := by decide +kernel
theorem dR_init_13 : decode cR_init 13 = .ok (.aload_n 0, 1) := by decide +kernel
theorem dR_init_14 : decode cR_init 14 = .ok (.iconst 0, 1) := by decide +kernel
theorem dR_init_15 : decode cR_init 15 = .ok (.putfield 15, 3) := by decide +kernel
theorem dR_init_18 : decode cR_init 18 = .ok (.return_, 1) := by decide +kernel
theorem dR_keepClause_0 : decode cR_keepClause 0 = .ok (.aload_n 1, 1) := by decide +kernel
theorem dR_keepClause_1 : decode cR_keepClause 1 = .ok (.ifnonnull 4, 3) := by decide +kernel
theorem dR_keepClause_4 : decode cR_keepClause 4 = .ok (.return_, 1) := by decide +kernel
theorem dR_keepClause_5 : decode cR_keepClause 5 = .ok (.iconst 0, 1) := by decide +kernel
theorem dR_keepClause_6 : decode cR_keepClause 6 = .ok (.istore_n 3, 1) := by decide +kernel
theorem dR_keepClause_7 : decode cR_keepClause 7 = .ok (.iload_n 3, 1) := by decide +kernel
theorem dR_keepClause_8 : decode cR_keepClause 8 = .ok (.aload_n 0, 1) := by decide +kernel
theorem dR_keepClause_9 : decode cR_keepClause 9 = .ok (.getfield 15, 3) := by decide +kernel
theorem dR_keepClause_12 : decode cR_keepClause 12 = .ok (.if_icmp .ge 58, 3) := by decide +kernel
theorem dR_keepClause_15 : decode cR_keepClause 15 = .ok (.lconst 0, 1) := by decide +kernel
theorem dR_keepClause_16 : decode cR_keepClause 16 = .ok (.lstore 4, 2) := by decide +kernel
theorem dR_keepClause_18 : decode cR_keepClause 18 = .ok (.iconst 0, 1) := by decide +kernel
theorem dR_keepClause_19 : decode cR_keepClause 19 = .ok (.istore 6, 2) := by decide +kernel
theorem dR_keepClause_21 : decode cR_keepClause 21 = .ok (.iload 6, 2) := by decide +kernel
theorem dR_keepClause_23 : decode cR_keepClause 23 = .ok (.iload_n 2, 1) := by decide +kernel
theorem dR_keepClause_24 : decode cR_keepClause 24 = .ok (.if_icmp .ge 29, 3) := by decide +kernel
theorem dR_keepClause_27 : decode cR_keepClause 27 = .ok (.iload 6, 2) := by decide +kernel
theorem dR_keepClause_29 : decode cR_keepClause 29 = .ok (.aload_n 1, 1) := by decide +kernel
theorem dR_keepClause_30 : decode cR_keepClause 30 = .ok (.arraylength, 1) := by decide +kernel
theorem dR_keepClause_31 : decode cR_keepClause 31 = .ok (.if_icmp .ge 22, 3) := by decide +kernel
theorem dR_keepClause_34 : decode cR_keepClause 34 = .ok (.lload 4, 2) := by decide +kernel
theorem dR_keepClause_36 : decode cR_keepClause 36 = .ok (.aload_n 1, 1) := by decide +kernel
theorem dR_keepClause_37 : decode cR_keepClause 37 = .ok (.iload 6, 2) := by decide +kernel
theorem dR_keepClause_39 : decode cR_keepClause 39 = .ok (.iaload, 1) := by decide +kernel
theorem dR_keepClause_40 : decode cR_keepClause 40 = .ok (.iload_n 3, 1) := by decide +kernel
theorem dR_keepClause_41 : decode cR_keepClause 41 = .ok (.invokestatic 32, 3) := by decide +kernel
theorem dR_keepClause_44 : decode cR_keepClause 44 = .ok (.lor, 1) := by decide +kernel
theorem dR_keepClause_45 : decode cR_keepClause 45 = .ok (.lstore 4, 2) := by decide +kernel
theorem dR_keepClause_47 : decode cR_keepClause 47 = .ok (.iinc 6 1, 3) := by decide +kernel
theorem dR_keepClause_50 : decode cR_keepClause 50 = .ok (.goto (-29), 3) := by decide +kernel
theorem dR_keepClause_53 : decode cR_keepClause 53 = .ok (.aload_n 0, 1) := by decide +kernel
theorem dR_keepClause_54 : decode cR_keepClause 54 = .ok (.getfield 11, 3) := by decide +kernel
theorem dR_keepClause_57 : decode cR_keepClause 57 = .ok (.iload_n 3, 1) := by decide +kernel
theorem dR_keepClause_58 : decode cR_keepClause 58 = .ok (.dup2, 1) := by decide +kernel
theorem dR_keepClause_59 : decode cR_keepClause 59 = .ok (.laload, 1) := by decide +kernel
theorem dR_keepClause_60 : decode cR_keepClause 60 = .ok (.lload 4, 2) := by decide +kernel
theorem dR_keepClause_62 : decode cR_keepClause 62 = .ok (.land, 1) := by decide +kernel
end
section
theorem dR_keepClause_63 : decode cR_keepClause 63 = .ok (.lastore, 1) := by decide +kernel
theorem dR_keepClause_64 : decode cR_keepClause 64 = .ok (.iinc 3 1, 3) := by decide +kernel
theorem dR_keepClause_67 : decode cR_keepClause 67 = .ok (.goto (-60), 3) := by decide +kernel
theorem dR_keepClause_70 : decode cR_keepClause 70 = .ok (.return_, 1) := by decide +kernel
theorem dR_keepWith_0 : decode cR_keepWith 0 = .ok (.lconst 0, 1) := by decide +kernel
theorem dR_keepWith_1 : decode cR_keepWith 1 = .ok (.lstore_n 2, 1) := by decide +kernel
theorem dR_keepWith_2 : decode cR_keepWith 2 = .ok (.iconst 0, 1) := by decide +kernel
theorem dR_keepWith_3 : decode cR_keepWith 3 = .ok (.istore 4, 2) := by decide +kernel
theorem dR_keepWith_5 : decode cR_keepWith 5 = .ok (.iload 4, 2) := by decide +kernel
theorem dR_keepWith_7 : decode cR_keepWith 7 = .ok (.aload_n 0, 1) := by decide +kernel
theorem dR_keepWith_8 : decode cR_keepWith 8 = .ok (.getfield 15, 3) := by decide +kernel
theorem dR_keepWith_11 : decode cR_keepWith 11 = .ok (.if_icmp .ge 35, 3) := by decide +kernel
theorem dR_keepWith_14 : decode cR_keepWith 14 = .ok (.aload_n 0, 1) := by decide +kernel
theorem dR_keepWith_15 : decode cR_keepWith 15 = .ok (.getfield 11, 3) := by decide +kernel
theorem dR_keepWith_18 : decode cR_keepWith 18 = .ok (.iload 4, 2) := by decide +kernel
theorem dR_keepWith_20 : decode cR_keepWith 20 = .ok (.dup2, 1) := by decide +kernel
theorem dR_keepWith_21 : decode cR_keepWith 21 = .ok (.laload, 1) := by decide +kernel
theorem dR_keepWith_22 : decode cR_keepWith 22 = .ok (.iload_n 1, 1) := by decide +kernel
theorem dR_keepWith_23 : decode cR_keepWith 23 = .ok (.iload 4, 2) := by decide +kernel
theorem dR_keepWith_25 : decode cR_keepWith 25 = .ok (.invokestatic 32, 3) := by decide +kernel
theorem dR_keepWith_28 : decode cR_keepWith 28 = .ok (.land, 1) := by decide +kernel
theorem dR_keepWith_29 : decode cR_keepWith 29 = .ok (.lastore, 1) := by decide +kernel
theorem dR_keepWith_30 : decode cR_keepWith 30 = .ok (.lload_n 2, 1) := by decide +kernel
theorem dR_keepWith_31 : decode cR_keepWith 31 = .ok (.aload_n 0, 1) := by decide +kernel
theorem dR_keepWith_32 : decode cR_keepWith 32 = .ok (.getfield 11, 3) := by decide +kernel
theorem dR_keepWith_35 : decode cR_keepWith 35 = .ok (.iload 4, 2) := by decide +kernel
theorem dR_keepWith_37 : decode cR_keepWith 37 = .ok (.laload, 1) := by decide +kernel
theorem dR_keepWith_38 : decode cR_keepWith 38 = .ok (.lor, 1) := by decide +kernel
theorem dR_keepWith_39 : decode cR_keepWith 39 = .ok (.lstore_n 2, 1) := by decide +kernel
theorem dR_keepWith_40 : decode cR_keepWith 40 = .ok (.iinc 4 1, 3) := by decide +kernel
theorem dR_keepWith_43 : decode cR_keepWith 43 = .ok (.goto (-38), 3) := by decide +kernel
theorem dR_keepWith_46 : decode cR_keepWith 46 = .ok (.lload_n 2, 1) := by decide +kernel
theorem dR_keepWith_47 : decode cR_keepWith 47 = .ok (.lconst 0, 1) := by decide +kernel
theorem dR_keepWith_48 : decode cR_keepWith 48 = .ok (.lcmp, 1) := by decide +kernel
theorem dR_keepWith_49 : decode cR_keepWith 49 = .ok (.ifCond .eq 7, 3) := by decide +kernel
theorem dR_keepWith_52 : decode cR_keepWith 52 = .ok (.iconst 1, 1) := by decide +kernel
theorem dR_keepWith_53 : decode cR_keepWith 53 = .ok (.goto 4, 3) := by decide +kernel
theorem dR_keepWith_56 : decode cR_keepWith 56 = .ok (.iconst 0, 1) := by decide +kernel
theorem dR_keepWith_57 : decode cR_keepWith 57 = .ok (.ireturn, 1) := by decide +kernel
theorem dR_leastRow_0 : decode cR_leastRow 0 = .ok (.lconst 0, 1) := by decide +kernel
theorem dR_leastRow_1 : decode cR_leastRow 1 = .ok (.lstore_n 1, 1) := by decide +kernel
theorem dR_leastRow_2 : decode cR_leastRow 2 = .ok (.iconst 0, 1) := by decide +kernel
theorem dR_leastRow_3 : decode cR_leastRow 3 = .ok (.istore_n 3, 1) := by decide +kernel
theorem dR_leastRow_4 : decode cR_leastRow 4 = .ok (.iload_n 3, 1) := by decide +kernel
theorem dR_leastRow_5 : decode cR_leastRow 5 = .ok (.aload_n 0, 1) := by decide +kernel
theorem dR_leastRow_6 : decode cR_leastRow 6 = .ok (.getfield 15, 3) := by decide +kernel
theorem dR_leastRow_9 : decode cR_leastRow 9 = .ok (.if_icmp .ge 18, 3) := by decide +kernel
theorem dR_leastRow_12 : decode cR_leastRow 12 = .ok (.lload_n 1, 1) := by decide +kernel
theorem dR_leastRow_13 : decode cR_leastRow 13 = .ok (.aload_n 0, 1) := by decide +kernel
theorem dR_leastRow_14 : decode cR_leastRow 14 = .ok (.getfield 11, 3) := by decide +kernel
theorem dR_leastRow_17 : decode cR_leastRow 17 = .ok (.iload_n 3, 1) := by decide +kernel
theorem dR_leastRow_18 : decode cR_leastRow 18 = .ok (.laload, 1) := by decide +kernel
theorem dR_leastRow_19 : decode cR_leastRow 19 = .ok (.lor, 1) := by decide +kernel
theorem dR_leastRow_20 : decode cR_leastRow 20 = .ok (.lstore_n 1, 1) := by decide +kernel
theorem dR_leastRow_21 : decode cR_leastRow 21 = .ok (.iinc 3 1, 3) := by decide +kernel
theorem dR_leastRow_24 : decode cR_leastRow 24 = .ok (.goto (-20), 3) := by decide +kernel
theorem dR_leastRow_27 : decode cR_leastRow 27 = .ok (.iconst 0, 1) := by decide +kernel
theorem dR_leastRow_28 : decode cR_leastRow 28 = .ok (.istore_n 3, 1) := by decide +kernel
theorem dR_leastRow_29 : decode cR_leastRow 29 = .ok (.iconst 0, 1) := by decide +kernel
theorem dR_leastRow_30 : decode cR_leastRow 30 = .ok (.istore 4, 2) := by decide +kernel
theorem dR_leastRow_32 : decode cR_leastRow 32 = .ok (.iload 4, 2) := by decide +kernel
theorem dR_leastRow_34 : decode cR_leastRow 34 = .ok (.getstatic 21, 3) := by decide +kernel
theorem dR_leastRow_37 : decode cR_leastRow 37 = .ok (.arraylength, 1) := by decide +kernel
theorem dR_leastRow_38 : decode cR_leastRow 38 = .ok (.if_icmp .ge 43, 3) := by decide +kernel
theorem dR_leastRow_41 : decode cR_leastRow 41 = .ok (.lload_n 1, 1) := by decide +kernel
theorem dR_leastRow_42 : decode cR_leastRow 42 = .ok (.getstatic 21, 3) := by decide +kernel
theorem dR_leastRow_45 : decode cR_leastRow 45 = .ok (.iload 4, 2) := by decide +kernel
theorem dR_leastRow_47 : decode cR_leastRow 47 = .ok (.laload, 1) := by decide +kernel
theorem dR_leastRow_48 : decode cR_leastRow 48 = .ok (.ldc2_w 19, 3) := by decide +kernel
theorem dR_leastRow_51 : decode cR_leastRow 51 = .ok (.lxor, 1) := by decide +kernel
theorem dR_leastRow_52 : decode cR_leastRow 52 = .ok (.land, 1) := by decide +kernel
theorem dR_leastRow_53 : decode cR_leastRow 53 = .ok (.lstore 5, 2) := by decide +kernel
theorem dR_leastRow_55 : decode cR_leastRow 55 = .ok (.lload 5, 2) := by decide +kernel
theorem dR_leastRow_57 : decode cR_leastRow 57 = .ok (.lconst 0, 1) := by decide +kernel
theorem dR_leastRow_58 : decode cR_leastRow 58 = .ok (.lcmp, 1) := by decide +kernel
theorem dR_leastRow_59 : decode cR_leastRow 59 = .ok (.ifCond .eq 9, 3) := by decide +kernel
theorem dR_leastRow_62 : decode cR_leastRow 62 = .ok (.lload 5, 2) := by decide +kernel
theorem dR_leastRow_64 : decode cR_leastRow 64 = .ok (.lstore_n 1, 1) := by decide +kernel
theorem dR_leastRow_65 : decode cR_leastRow 65 = .ok (.goto 10, 3) := by decide +kernel
theorem dR_leastRow_68 : decode cR_leastRow 68 = .ok (.iload_n 3, 1) := by decide +kernel
theorem dR_leastRow_69 : decode cR_leastRow 69 = .ok (.iconst 1, 1) := by decide +kernel
theorem dR_leastRow_70 : decode cR_leastRow 70 = .ok (.iload 4, 2) := by decide +kernel
theorem dR_leastRow_72 : decode cR_leastRow 72 = .ok (.ishl, 1) := by decide +kernel
theorem dR_leastRow_73 : decode cR_leastRow 73 = .ok (.ior, 1) := by decide +kernel
theorem dR_leastRow_74 : decode cR_leastRow 74 = .ok (.istore_n 3, 1) := by decide +kernel
theorem dR_leastRow_75 : decode cR_leastRow 75 = .ok (.iinc 4 1, 3) := by decide +kernel
theorem dR_leastRow_78 : decode cR_leastRow 78 = .ok (.goto (-46), 3) := by decide +kernel
theorem dR_leastRow_81 : decode cR_leastRow 81 = .ok (.iconst 0, 1) := by decide +kernel
theorem dR_leastRow_82 : decode cR_leastRow 82 = .ok (.istore 4, 2) := by decide +kernel
theorem dR_leastRow_84 : decode cR_leastRow 84 = .ok (.iconst 1, 1) := by decide +kernel
theorem dR_leastRow_85 : decode cR_leastRow 85 = .ok (.istore 5, 2) := by decide +kernel
theorem dR_leastRow_87 : decode cR_leastRow 87 = .ok (.iload 5, 2) := by decide +kernel
theorem dR_leastRow_89 : decode cR_leastRow 89 = .ok (.aload_n 0, 1) := by decide +kernel
theorem dR_leastRow_90 : decode cR_leastRow 90 = .ok (.getfield 15, 3) := by decide +kernel
theorem dR_leastRow_93 : decode cR_leastRow 93 = .ok (.if_icmp .ge 41, 3) := by decide +kernel
theorem dR_leastRow_96 : decode cR_leastRow 96 = .ok (.iload 5, 2) := by decide +kernel
theorem dR_leastRow_98 : decode cR_leastRow 98 = .ok (.sipush 1024, 3) := by decide +kernel
theorem dR_leastRow_101 : decode cR_leastRow 101 = .ok (.if_icmp .ge 33, 3) := by decide +kernel
theorem dR_leastRow_104 : decode cR_leastRow 104 = .ok (.aload_n 0, 1) := by decide +kernel
theorem dR_leastRow_105 : decode cR_leastRow 105 = .ok (.iload 4, 2) := by decide +kernel
theorem dR_leastRow_107 : decode cR_leastRow 107 = .ok (.iconst 2, 1) := by decide +kernel
theorem dR_leastRow_108 : decode cR_leastRow 108 = .ok (.iload 5, 2) := by decide +kernel
theorem dR_leastRow_110 : decode cR_leastRow 110 = .ok (.imul, 1) := by decide +kernel
theorem dR_leastRow_111 : decode cR_leastRow 111 = .ok (.lload_n 1, 1) := by decide +kernel
theorem dR_leastRow_112 : decode cR_leastRow 112 = .ok (.invokevirtual 36, 3) := by decide +kernel
theorem dR_leastRow_115 : decode cR_leastRow 115 = .ok (.ifCond .ne 10, 3) := by decide +kernel
theorem dR_leastRow_118 : decode cR_leastRow 118 = .ok (.iload 4, 2) := by decide +kernel
theorem dR_leastRow_120 : decode cR_leastRow 120 = .ok (.iload 5, 2) := by decide +kernel
theorem dR_leastRow_122 : decode cR_leastRow 122 = .ok (.ior, 1) := by decide +kernel
theorem dR_leastRow_123 : decode cR_leastRow 123 = .ok (.istore 4, 2) := by decide +kernel
theorem dR_leastRow_125 : decode cR_leastRow 125 = .ok (.iload 5, 2) := by decide +kernel
theorem dR_leastRow_127 : decode cR_leastRow 127 = .ok (.iconst 2, 1) := by decide +kernel
theorem dR_leastRow_128 : decode cR_leastRow 128 = .ok (.imul, 1) := by decide +kernel
theorem dR_leastRow_129 : decode cR_leastRow 129 = .ok (.istore 5, 2) := by decide +kernel
theorem dR_leastRow_131 : decode cR_leastRow 131 = .ok (.goto (-44), 3) := by decide +kernel
theorem dR_leastRow_134 : decode cR_leastRow 134 = .ok (.iload 4, 2) := by decide +kernel
theorem dR_leastRow_136 : decode cR_leastRow 136 = .ok (.bipush 6, 2) := by decide +kernel
theorem dR_leastRow_138 : decode cR_leastRow 138 = .ok (.ishl, 1) := by decide +kernel
theorem dR_leastRow_139 : decode cR_leastRow 139 = .ok (.iload_n 3, 1) := by decide +kernel
theorem dR_leastRow_140 : decode cR_leastRow 140 = .ok (.ior, 1) := by decide +kernel
theorem dR_leastRow_141 : decode cR_leastRow 141 = .ok (.ireturn, 1) := by decide +kernel
theorem dR_rowsWith_0 : decode cR_rowsWith 0 = .ok (.iload_n 0, 1) := by decide +kernel
theorem dR_rowsWith_1 : decode cR_rowsWith 1 = .ok (.iconst 1, 1) := by decide +kernel
theorem dR_rowsWith_2 : decode cR_rowsWith 2 = .ok (.ishr, 1) := by decide +kernel
theorem dR_rowsWith_3 : decode cR_rowsWith 3 = .ok (.istore_n 2, 1) := by decide +kernel
theorem dR_rowsWith_4 : decode cR_rowsWith 4 = .ok (.iload_n 2, 1) := by decide +kernel
theorem dR_rowsWith_5 : decode cR_rowsWith 5 = .ok (.ifCond .lt 20, 3) := by decide +kernel
theorem dR_rowsWith_8 : decode cR_rowsWith 8 = .ok (.iload_n 2, 1) := by decide +kernel
theorem dR_rowsWith_9 : decode cR_rowsWith 9 = .ok (.getstatic 21, 3) := by decide +kernel
theorem dR_rowsWith_12 : decode cR_rowsWith 12 = .ok (.arraylength, 1) := by decide +kernel
theorem dR_rowsWith_13 : decode cR_rowsWith 13 = .ok (.if_icmp .ge 12, 3) := by decide +kernel
theorem dR_rowsWith_16 : decode cR_rowsWith 16 = .ok (.getstatic 21, 3) := by decide +kernel
theorem dR_rowsWith_19 : decode cR_rowsWith 19 = .ok (.iload_n 2, 1) := by decide +kernel
theorem dR_rowsWith_20 : decode cR_rowsWith 20 = .ok (.laload, 1) := by decide +kernel
theorem dR_rowsWith_21 : decode cR_rowsWith 21 = .ok (.lstore_n 3, 1) := by decide +kernel
theorem dR_rowsWith_22 : decode cR_rowsWith 22 = .ok (.goto 22, 3) := by decide +kernel
theorem dR_rowsWith_25 : decode cR_rowsWith 25 = .ok (.iload_n 1, 1) := by decide +kernel
theorem dR_rowsWith_26 : decode cR_rowsWith 26 = .ok (.iload_n 2, 1) := by decide +kernel
theorem dR_rowsWith_27 : decode cR_rowsWith 27 = .ok (.bipush 6, 2) := by decide +kernel
theorem dR_rowsWith_29 : decode cR_rowsWith 29 = .ok (.isub, 1) := by decide +kernel
theorem dR_rowsWith_30 : decode cR_rowsWith 30 = .ok (.ishr, 1) := by decide +kernel
theorem dR_rowsWith_31 : decode cR_rowsWith 31 = .ok (.iconst 1, 1) := by decide +kernel
theorem dR_rowsWith_32 : decode cR_rowsWith 32 = .ok (.iand, 1) := by decide +kernel
theorem dR_rowsWith_33 : decode cR_rowsWith 33 = .ok (.ifCond .eq 9, 3) := by decide +kernel
theorem dR_rowsWith_36 : decode cR_rowsWith 36 = .ok (.ldc2_w 19, 3) := by decide +kernel
theorem dR_rowsWith_39 : decode cR_rowsWith 39 = .ok (.goto 4, 3) := by decide +kernel
theorem dR_rowsWith_42 : decode cR_rowsWith 42 = .ok (.lconst 0, 1) := by decide +kernel
theorem dR_rowsWith_43 : decode cR_rowsWith 43 = .ok (.lstore_n 3, 1) := by decide +kernel
theorem dR_rowsWith_44 : decode cR_rowsWith 44 = .ok (.iload_n 0, 1) := by decide +kernel
theorem dR_rowsWith_45 : decode cR_rowsWith 45 = .ok (.iconst 1, 1) := by decide +kernel
theorem dR_rowsWith_46 : decode cR_rowsWith 46 = .ok (.iand, 1) := by decide +kernel
theorem dR_rowsWith_47 : decode cR_rowsWith 47 = .ok (.ifCond .ne 7, 3) := by decide +kernel
theorem dR_rowsWith_50 : decode cR_rowsWith 50 = .ok (.lload_n 3, 1) := by decide +kernel
theorem dR_rowsWith_51 : decode cR_rowsWith 51 = .ok (.goto 8, 3) := by decide +kernel
theorem dR_rowsWith_54 : decode cR_rowsWith 54 = .ok (.lload_n 3, 1) := by decide +kernel
theorem dR_rowsWith_55 : decode cR_rowsWith 55 = .ok (.ldc2_w 19, 3) := by decide +kernel
theorem dR_rowsWith_58 : decode cR_rowsWith 58 = .ok (.lxor, 1) := by decide +kernel
theorem dR_rowsWith_59 : decode cR_rowsWith 59 = .ok (.lreturn, 1) := by decide +kernel
theorem dS_assume_0 : decode cS_assume 0 = .ok (.aload_n 0, 1) := by decide +kernel
theorem dS_assume_1 : decode cS_assume 1 = .ok (.iload_n 1, 1) := by decide +kernel
theorem dS_assume_2 : decode cS_assume 2 = .ok (.invokevirtual 44, 3) := by decide +kernel
theorem dS_assume_5 : decode cS_assume 5 = .ok (.aload_n 0, 1) := by decide +kernel
theorem dS_assume_6 : decode cS_assume 6 = .ok (.getfield 66, 3) := by decide +kernel
theorem dS_assume_9 : decode cS_assume 9 = .ok (.aload_n 0, 1) := by decide +kernel
theorem dS_assume_10 : decode cS_assume 10 = .ok (.getfield 23, 3) := by decide +kernel
theorem dS_assume_13 : decode cS_assume 13 = .ok (.arraylength, 1) := by decide +kernel
theorem dS_assume_14 : decode cS_assume 14 = .ok (.if_icmp .lt 13, 3) := by decide +kernel
theorem dS_assume_17 : decode cS_assume 17 = .ok (.new 33, 3) := by decide +kernel
theorem dS_assume_20 : decode cS_assume 20 = .ok (.dup, 1) := by decide +kernel
theorem dS_assume_21 : decode cS_assume 21 = .ok (.ldc 69, 2) := by decide +kernel
theorem dS_assume_23 : decode cS_assume 23 = .ok (.invokespecial 37, 3) := by decide +kernel
theorem dS_assume_26 : decode cS_assume 26 = .ok (.athrow, 1) := by decide +kernel
theorem dS_assume_27 : decode cS_assume 27 = .ok (.aload_n 0, 1) := by decide +kernel
theorem dS_assume_28 : decode cS_assume 28 = .ok (.getfield 23, 3) := by decide +kernel
theorem dS_assume_31 : decode cS_assume 31 = .ok (.aload_n 0, 1) := by decide +kernel
theorem dS_assume_32 : decode cS_assume 32 = .ok (.getfield 66, 3) := by decide +kernel
theorem dS_assume_35 : decode cS_assume 35 = .ok (.iload_n 1, 1) := by decide +kernel
theorem dS_assume_36 : decode cS_assume 36 = .ok (.iastore, 1) := by decide +kernel
theorem dS_assume_37 : decode cS_assume 37 = .ok (.aload_n 0, 1) := by decide +kernel
theorem dS_assume_38 : decode cS_assume 38 = .ok (.dup, 1) := by decide +kernel
theorem dS_assume_39 : decode cS_assume 39 = .ok (.getfield 66, 3) := by decide +kernel
theorem dS_assume_42 : decode cS_assume 42 = .ok (.iconst 1, 1) := by decide +kernel
theorem dS_assume_43 : decode cS_assume 43 = .ok (.iadd, 1) := by decide +kernel
theorem dS_assume_44 : decode cS_assume 44 = .ok (.putfield 66, 3) := by decide +kernel
theorem dS_assume_47 : decode cS_assume 47 = .ok (.aload_n 0, 1) := by decide +kernel
theorem dS_assume_48 : decode cS_assume 48 = .ok (.getfield 66, 3) := by decide +kernel
theorem dS_assume_51 : decode cS_assume 51 = .ok (.ireturn, 1) := by decide +kernel
theorem dS_blame_0 : decode cS_blame 0 = .ok (.aload_n 0, 1) := by decide +kernel
theorem dS_blame_1 : decode cS_blame 1 = .ok (.getfield 79, 3) := by decide +kernel
theorem dS_blame_4 : decode cS_blame 4 = .ok (.ireturn, 1) := by decide +kernel
theorem dS_clear_0 : decode cS_clear 0 = .ok (.aload_n 0, 1) := by decide +kernel
theorem dS_clear_1 : decode cS_clear 1 = .ok (.invokevirtual 26, 3) := by decide +kernel
theorem dS_clear_4 : decode cS_clear 4 = .ok (.return_, 1) := by decide +kernel
theorem dS_close_0 : decode cS_close 0 = .ok (.aload_n 0, 1) := by decide +kernel
theorem dS_close_1 : decode cS_close 1 = .ok (.getfield 57, 3) := by decide +kernel
theorem dS_close_4 : decode cS_close 4 = .ok (.sipush 500, 3) := by decide +kernel
theorem dS_close_7 : decode cS_close 7 = .ok (.if_icmp .lt 13, 3) := by decide +kernel
theorem dS_close_10 : decode cS_close 10 = .ok (.new 33, 3) := by decide +kernel
theorem dS_close_13 : decode cS_close 13 = .ok (.dup, 1) := by decide +kernel
theorem dS_close_14 : decode cS_close 14 = .ok (.ldc 60, 2) := by decide +kernel
theorem dS_close_16 : decode cS_close 16 = .ok (.invokespecial 37, 3) := by decide +kernel
theorem dS_close_19 : decode cS_close 19 = .ok (.athrow, 1) := by decide +kernel
theorem dS_close_20 : decode cS_close 20 = .ok (.aload_n 0, 1) := by decide +kernel
theorem dS_close_21 : decode cS_close 21 = .ok (.getfield 10, 3) := by decide +kernel
theorem dS_close_24 : decode cS_close 24 = .ok (.aload_n 0, 1) := by decide +kernel
theorem dS_close_25 : decode cS_close 25 = .ok (.getfield 19, 3) := by decide +kernel
theorem dS_close_28 : decode cS_close 28 = .ok (.aload_n 0, 1) := by decide +kernel
theorem dS_close_29 : decode cS_close 29 = .ok (.getfield 47, 3) := by decide +kernel
theorem dS_close_32 : decode cS_close 32 = .ok (.invokevirtual 62, 3) := by decide +kernel
theorem dS_close_35 : decode cS_close 35 = .ok (.aload_n 0, 1) := by decide +kernel
theorem dS_close_36 : decode cS_close 36 = .ok (.iconst 0, 1) := by decide +kernel
theorem dS_close_37 : decode cS_close 37 = .ok (.putfield 47, 3) := by decide +kernel
theorem dS_close_40 : decode cS_close 40 = .ok (.aload_n 0, 1) := by decide +kernel
theorem dS_close_41 : decode cS_close 41 = .ok (.dup, 1) := by decide +kernel
theorem dS_close_42 : decode cS_close 42 = .ok (.getfield 57, 3) := by decide +kernel
theorem dS_close_45 : decode cS_close 45 = .ok (.iconst 1, 1) := by decide +kernel
theorem dS_close_46 : decode cS_close 46 = .ok (.iadd, 1) := by decide +kernel
theorem dS_close_47 : decode cS_close 47 = .ok (.putfield 57, 3) := by decide +kernel
theorem dS_close_50 : decode cS_close 50 = .ok (.aload_n 0, 1) := by decide +kernel
theorem dS_close_51 : decode cS_close 51 = .ok (.getfield 57, 3) := by decide +kernel
theorem dS_close_54 : decode cS_close 54 = .ok (.ireturn, 1) := by decide +kernel
theorem dS_init_0 : decode cS_init 0 = .ok (.aload_n 0, 1) := by decide +kernel
theorem dS_init_1 : decode cS_init 1 = .ok (.invokespecial 1, 3) := by decide +kernel
theorem dS_init_4 : decode cS_init 4 = .ok (.aload_n 0, 1) := by decide +kernel
theorem dS_init_5 : decode cS_init 5 = .ok (.new 7, 3) := by decide +kernel
theorem dS_init_8 : decode cS_init 8 = .ok (.dup, 1) := by decide +kernel
theorem dS_init_9 : decode cS_init 9 = .ok (.invokespecial 9, 3) := by decide +kernel
theorem dS_init_12 : decode cS_init 12 = .ok (.putfield 10, 3) := by decide +kernel
theorem dS_init_15 : decode cS_init 15 = .ok (.aload_n 0, 1) := by decide +kernel
theorem dS_init_16 : decode cS_init 16 = .ok (.new 7, 3) := by decide +kernel
theorem dS_init_19 : decode cS_init 19 = .ok (.dup, 1) := by decide +kernel
theorem dS_init_20 : decode cS_init 20 = .ok (.invokespecial 9, 3) := by decide +kernel
theorem dS_init_23 : decode cS_init 23 = .ok (.putfield 16, 3) := by decide +kernel
theorem dS_init_26 : decode cS_init 26 = .ok (.aload_n 0, 1) := by decide +kernel
theorem dS_init_27 : decode cS_init 27 = .ok (.bipush 40, 2) := by decide +kernel
theorem dS_init_29 : decode cS_init 29 = .ok (.newarray .int, 2) := by decide +kernel
theorem dS_init_31 : decode cS_init 31 = .ok (.putfield 19, 3) := by decide +kernel
theorem dS_init_34 : decode cS_init 34 = .ok (.aload_n 0, 1) := by decide +kernel
theorem dS_init_35 : decode cS_init 35 = .ok (.bipush 64, 2) := by decide +kernel
theorem dS_init_37 : decode cS_init 37 = .ok (.newarray .int, 2) := by decide +kernel
theorem dS_init_39 : decode cS_init 39 = .ok (.putfield 23, 3) := by decide +kernel
theorem dS_init_42 : decode cS_init 42 = .ok (.aload_n 0, 1) := by decide +kernel
theorem dS_init_43 : decode cS_init 43 = .ok (.invokevirtual 26, 3) := by decide +kernel
theorem dS_init_46 : decode cS_init 46 = .ok (.return_, 1) := by decide +kernel
theorem dS_least_0 : decode cS_least 0 = .ok (.iload_n 1, 1) := by decide +kernel
theorem dS_least_1 : decode cS_least 1 = .ok (.ifCond .lt 11, 3) := by decide +kernel
theorem dS_least_4 : decode cS_least 4 = .ok (.iload_n 1, 1) := by decide +kernel
theorem dS_least_5 : decode cS_least 5 = .ok (.aload_n 0, 1) := by decide +kernel
theorem dS_least_6 : decode cS_least 6 = .ok (.getfield 29, 3) := by decide +kernel
theorem dS_least_9 : decode cS_least 9 = .ok (.if_icmp .lt 13, 3) := by decide +kernel
theorem dS_least_12 : decode cS_least 12 = .ok (.new 95, 3) := by decide +kernel
theorem dS_least_15 : decode cS_least 15 = .ok (.dup, 1) := by decide +kernel
theorem dS_least_16 : decode cS_least 16 = .ok (.ldc 97, 2) := by decide +kernel
theorem dS_least_18 : decode cS_least 18 = .ok (.invokespecial 99, 3) := by decide +kernel
theorem dS_least_21 : decode cS_least 21 = .ok (.athrow, 1) := by decide +kernel
theorem dS_least_22 : decode cS_least 22 = .ok (.aload_n 0, 1) := by decide +kernel
theorem dS_least_23 : decode cS_least 23 = .ok (.getfield 82, 3) := by decide +kernel
theorem dS_least_26 : decode cS_least 26 = .ok (.ifCond .eq 11, 3) := by decide +kernel
theorem dS_least_29 : decode cS_least 29 = .ok (.iload_n 1, 1) := by decide +kernel
theorem dS_least_30 : decode cS_least 30 = .ok (.aload_n 0, 1) := by decide +kernel
theorem dS_least_31 : decode cS_least 31 = .ok (.getfield 92, 3) := by decide +kernel
theorem dS_least_34 : decode cS_least 34 = .ok (.if_icmp .lt 5, 3) := by decide +kernel
theorem dS_least_37 : decode cS_least 37 = .ok (.iconst (-1), 1) := by decide +kernel
theorem dS_least_38 : decode cS_least 38 = .ok (.ireturn, 1) := by decide +kernel
theorem dS_least_39 : decode cS_least 39 = .ok (.aload_n 0, 1) := by decide +kernel
theorem dS_least_40 : decode cS_least 40 = .ok (.getfield 89, 3) := by decide +kernel
theorem dS_least_43 : decode cS_least 43 = .ok (.iload_n 1, 1) := by decide +kernel
theorem dS_least_44 : decode cS_least 44 = .ok (.ishr, 1) := by decide +kernel
theorem dS_least_45 : decode cS_least 45 = .ok (.iconst 1, 1) := by decide +kernel
theorem dS_least_46 : decode cS_least 46 = .ok (.iand, 1) := by decide +kernel
theorem dS_least_47 : decode cS_least 47 = .ok (.ireturn, 1) := by decide +kernel
theorem dS_literal_0 : decode cS_literal 0 = .ok (.aload_n 0, 1) := by decide +kernel
theorem dS_literal_1 : decode cS_literal 1 = .ok (.iload_n 1, 1) := by decide +kernel
theorem dS_literal_2 : decode cS_literal 2 = .ok (.invokevirtual 44, 3) := by decide +kernel
theorem dS_literal_5 : decode cS_literal 5 = .ok (.aload_n 0, 1) := by decide +kernel
theorem dS_literal_6 : decode cS_literal 6 = .ok (.getfield 47, 3) := by decide +kernel
theorem dS_literal_9 : decode cS_literal 9 = .ok (.aload_n 0, 1) := by decide +kernel
theorem dS_literal_10 : decode cS_literal 10 = .ok (.getfield 19, 3) := by decide +kernel
theorem dS_literal_13 : decode cS_literal 13 = .ok (.arraylength, 1) := by decide +kernel
theorem dS_literal_14 : decode cS_literal 14 = .ok (.if_icmp .lt 13, 3) := by decide +kernel
theorem dS_literal_17 : decode cS_literal 17 = .ok (.new 33, 3) := by decide +kernel
theorem dS_literal_20 : decode cS_literal 20 = .ok (.dup, 1) := by decide +kernel
theorem dS_literal_21 : decode cS_literal 21 = .ok (.ldc 50, 2) := by decide +kernel
theorem dS_literal_23 : decode cS_literal 23 = .ok (.invokespecial 37, 3) := by decide +kernel
theorem dS_literal_26 : decode cS_literal 26 = .ok (.athrow, 1) := by decide +kernel
theorem dS_literal_27 : decode cS_literal 27 = .ok (.aload_n 0, 1) := by decide +kernel
theorem dS_literal_28 : decode cS_literal 28 = .ok (.getfield 52, 3) := by decide +kernel
theorem dS_literal_31 : decode cS_literal 31 = .ok (.sipush 4000, 3) := by decide +kernel
theorem dS_literal_34 : decode cS_literal 34 = .ok (.if_icmp .lt 13, 3) := by decide +kernel
theorem dS_literal_37 : decode cS_literal 37 = .ok (.new 33, 3) := by decide +kernel
theorem dS_literal_40 : decode cS_literal 40 = .ok (.dup, 1) := by decide +kernel
theorem dS_literal_41 : decode cS_literal 41 = .ok (.ldc 55, 2) := by decide +kernel
theorem dS_literal_43 : decode cS_literal 43 = .ok (.invokespecial 37, 3) := by decide +kernel
theorem dS_literal_46 : decode cS_literal 46 = .ok (.athrow, 1) := by decide +kernel
theorem dS_literal_47 : decode cS_literal 47 = .ok (.aload_n 0, 1) := by decide +kernel
theorem dS_literal_48 : decode cS_literal 48 = .ok (.getfield 19, 3) := by decide +kernel
theorem dS_literal_51 : decode cS_literal 51 = .ok (.aload_n 0, 1) := by decide +kernel
theorem dS_literal_52 : decode cS_literal 52 = .ok (.getfield 47, 3) := by decide +kernel
theorem dS_literal_55 : decode cS_literal 55 = .ok (.iload_n 1, 1) := by decide +kernel
theorem dS_literal_56 : decode cS_literal 56 = .ok (.iastore, 1) := by decide +kernel
theorem dS_literal_57 : decode cS_literal 57 = .ok (.aload_n 0, 1) := by decide +kernel
theorem dS_literal_58 : decode cS_literal 58 = .ok (.dup, 1) := by decide +kernel
theorem dS_literal_59 : decode cS_literal 59 = .ok (.getfield 47, 3) := by decide +kernel
theorem dS_literal_62 : decode cS_literal 62 = .ok (.iconst 1, 1) := by decide +kernel
theorem dS_literal_63 : decode cS_literal 63 = .ok (.iadd, 1) := by decide +kernel
theorem dS_literal_64 : decode cS_literal 64 = .ok (.putfield 47, 3) := by decide +kernel
theorem dS_literal_67 : decode cS_literal 67 = .ok (.aload_n 0, 1) := by decide +kernel
theorem dS_literal_68 : decode cS_literal 68 = .ok (.dup, 1) := by decide +kernel
theorem dS_literal_69 : decode cS_literal 69 = .ok (.getfield 52, 3) := by decide +kernel
theorem dS_literal_72 : decode cS_literal 72 = .ok (.iconst 1, 1) := by decide +kernel
theorem dS_literal_73 : decode cS_literal 73 = .ok (.iadd, 1) := by decide +kernel
theorem dS_literal_74 : decode cS_literal 74 = .ok (.putfield 52, 3) := by decide +kernel
theorem dS_literal_77 : decode cS_literal 77 = .ok (.aload_n 0, 1) := by decide +kernel
theorem dS_literal_78 : decode cS_literal 78 = .ok (.getfield 47, 3) := by decide +kernel
theorem dS_literal_81 : decode cS_literal 81 = .ok (.ireturn, 1) := by decide +kernel
theorem dS_must_0 : decode cS_must 0 = .ok (.aload_n 0, 1) := by decide +kernel
theorem dS_must_1 : decode cS_must 1 = .ok (.iload_n 1, 1) := by decide +kernel
theorem dS_must_2 : decode cS_must 2 = .ok (.invokevirtual 44, 3) := by decide +kernel
theorem dS_must_5 : decode cS_must 5 = .ok (.aload_n 0, 1) := by decide +kernel
theorem dS_must_6 : decode cS_must 6 = .ok (.getfield 10, 3) := by decide +kernel
theorem dS_must_9 : decode cS_must 9 = .ok (.iload_n 1, 1) := by decide +kernel
theorem dS_must_10 : decode cS_must 10 = .ok (.invokevirtual 100, 3) := by decide +kernel
theorem dS_must_13 : decode cS_must 13 = .ok (.istore_n 2, 1) := by decide +kernel
theorem dS_must_14 : decode cS_must 14 = .ok (.aload_n 0, 1) := by decide +kernel
theorem dS_must_15 : decode cS_must 15 = .ok (.getfield 10, 3) := by decide +kernel
theorem dS_must_18 : decode cS_must 18 = .ok (.iload_n 1, 1) := by decide +kernel
theorem dS_must_19 : decode cS_must 19 = .ok (.iconst 1, 1) := by decide +kernel
theorem dS_must_20 : decode cS_must 20 = .ok (.ixor, 1) := by decide +kernel
theorem dS_must_21 : decode cS_must 21 = .ok (.invokevirtual 100, 3) := by decide +kernel
theorem dS_must_24 : decode cS_must 24 = .ok (.istore_n 3, 1) := by decide +kernel
theorem dS_must_25 : decode cS_must 25 = .ok (.iload_n 2, 1) := by decide +kernel
theorem dS_must_26 : decode cS_must 26 = .ok (.ifCond .eq 13, 3) := by decide +kernel
theorem dS_must_29 : decode cS_must 29 = .ok (.iload_n 3, 1) := by decide +kernel
theorem dS_must_30 : decode cS_must 30 = .ok (.ifCond .eq 7, 3) := by decide +kernel
theorem dS_must_33 : decode cS_must 33 = .ok (.iconst 2, 1) := by decide +kernel
theorem dS_must_34 : decode cS_must 34 = .ok (.goto 4, 3) := by decide +kernel
theorem dS_must_37 : decode cS_must 37 = .ok (.iconst 1, 1) := by decide +kernel
theorem dS_must_38 : decode cS_must 38 = .ok (.ireturn, 1) := by decide +kernel
theorem dS_must_39 : decode cS_must 39 = .ok (.iload_n 3, 1) := by decide +kernel
theorem dS_must_40 : decode cS_must 40 = .ok (.ifCond .eq 7, 3) := by decide +kernel
theorem dS_must_43 : decode cS_must 43 = .ok (.iconst 0, 1) := by decide +kernel
theorem dS_must_44 : decode cS_must 44 = .ok (.goto 4, 3) := by decide +kernel
theorem dS_must_47 : decode cS_must 47 = .ok (.iconst (-1), 1) := by decide +kernel
theorem dS_must_48 : decode cS_must 48 = .ok (.ireturn, 1) := by decide +kernel
theorem dS_narrowToAssumptions_0 : decode cS_narrowToAssumptions 0 = .ok (.aload_n 0, 1) := by decide +kernel
theorem dS_narrowToAssumptions_1 : decode cS_narrowToAssumptions 1 = .ok (.getfield 16, 3) := by decide +kernel
theorem dS_narrowToAssumptions_4 : decode cS_narrowToAssumptions 4 = .ok (.iconst 0, 1) := by decide +kernel
theorem dS_narrowToAssumptions_5 : decode cS_narrowToAssumptions 5 = .ok (.iconst 1, 1) := by decide +kernel
theorem dS_narrowToAssumptions_6 : decode cS_narrowToAssumptions 6 = .ok (.ldc2_w 122, 3) := by decide +kernel
theorem dS_narrowToAssumptions_9 : decode cS_narrowToAssumptions 9 = .ok (.invokevirtual 124, 3) := by decide +kernel
theorem dS_narrowToAssumptions_12 : decode cS_narrowToAssumptions 12 = .ok (.ifCond .ne 5, 3) := by decide +kernel
theorem dS_narrowToAssumptions_15 : decode cS_narrowToAssumptions 15 = .ok (.iconst 0, 1) := by decide +kernel
theorem dS_narrowToAssumptions_16 : decode cS_narrowToAssumptions 16 = .ok (.ireturn, 1) := by decide +kernel
theorem dS_narrowToAssumptions_17 : decode cS_narrowToAssumptions 17 = .ok (.iconst 0, 1) := by decide +kernel
theorem dS_narrowToAssumptions_18 : decode cS_narrowToAssumptions 18 = .ok (.istore_n 1, 1) := by decide +kernel
theorem dS_narrowToAssumptions_19 : decode cS_narrowToAssumptions 19 = .ok (.iload_n 1, 1) := by decide +kernel
theorem dS_narrowToAssumptions_20 : decode cS_narrowToAssumptions 20 = .ok (.aload_n 0, 1) := by decide +kernel
theorem dS_narrowToAssumptions_21 : decode cS_narrowToAssumptions 21 = .ok (.getfield 66, 3) := by decide +kernel
theorem dS_narrowToAssumptions_24 : decode cS_narrowToAssumptions 24 = .ok (.if_icmp .ge 38, 3) := by decide +kernel
theorem dS_narrowToAssumptions_27 : decode cS_narrowToAssumptions 27 = .ok (.iload_n 1, 1) := by decide +kernel
theorem dS_narrowToAssumptions_28 : decode cS_narrowToAssumptions 28 = .ok (.aload_n 0, 1) := by decide +kernel
theorem dS_narrowToAssumptions_29 : decode cS_narrowToAssumptions 29 = .ok (.getfield 23, 3) := by decide +kernel
theorem dS_narrowToAssumptions_32 : decode cS_narrowToAssumptions 32 = .ok (.arraylength, 1) := by decide +kernel
theorem dS_narrowToAssumptions_33 : decode cS_narrowToAssumptions 33 = .ok (.if_icmp .ge 29, 3) := by decide +kernel
theorem dS_narrowToAssumptions_36 : decode cS_narrowToAssumptions 36 = .ok (.aload_n 0, 1) := by decide +kernel
theorem dS_narrowToAssumptions_37 : decode cS_narrowToAssumptions 37 = .ok (.getfield 16, 3) := by decide +kernel
theorem dS_narrowToAssumptions_40 : decode cS_narrowToAssumptions 40 = .ok (.aload_n 0, 1) := by decide +kernel
theorem dS_narrowToAssumptions_41 : decode cS_narrowToAssumptions 41 = .ok (.getfield 23, 3) := by decide +kernel
theorem dS_narrowToAssumptions_44 : decode cS_narrowToAssumptions 44 = .ok (.iload_n 1, 1) := by decide +kernel
theorem dS_narrowToAssumptions_45 : decode cS_narrowToAssumptions 45 = .ok (.iaload, 1) := by decide +kernel
theorem dS_narrowToAssumptions_46 : decode cS_narrowToAssumptions 46 = .ok (.invokevirtual 128, 3) := by decide +kernel
theorem dS_narrowToAssumptions_49 : decode cS_narrowToAssumptions 49 = .ok (.ifCond .ne 7, 3) := by decide +kernel
theorem dS_narrowToAssumptions_52 : decode cS_narrowToAssumptions 52 = .ok (.iload_n 1, 1) := by decide +kernel
theorem dS_narrowToAssumptions_53 : decode cS_narrowToAssumptions 53 = .ok (.iconst 1, 1) := by decide +kernel
theorem dS_narrowToAssumptions_54 : decode cS_narrowToAssumptions 54 = .ok (.iadd, 1) := by decide +kernel
theorem dS_narrowToAssumptions_55 : decode cS_narrowToAssumptions 55 = .ok (.ireturn, 1) := by decide +kernel
theorem dS_narrowToAssumptions_56 : decode cS_narrowToAssumptions 56 = .ok (.iinc 1 1, 3) := by decide +kernel
theorem dS_narrowToAssumptions_59 : decode cS_narrowToAssumptions 59 = .ok (.goto (-40), 3) := by decide +kernel
theorem dS_narrowToAssumptions_62 : decode cS_narrowToAssumptions 62 = .ok (.iconst (-1), 1) := by decide +kernel
theorem dS_narrowToAssumptions_63 : decode cS_narrowToAssumptions 63 = .ok (.ireturn, 1) := by decide +kernel
theorem dS_proved_0 : decode cS_proved 0 = .ok (.aload_n 0, 1) := by decide +kernel
theorem dS_proved_1 : decode cS_proved 1 = .ok (.getfield 79, 3) := by decide +kernel
theorem dS_proved_4 : decode cS_proved 4 = .ok (.iconst (-1), 1) := by decide +kernel
theorem dS_proved_5 : decode cS_proved 5 = .ok (.if_icmp .eq 7, 3) := by decide +kernel
theorem dS_proved_8 : decode cS_proved 8 = .ok (.iconst 1, 1) := by decide +kernel
theorem dS_proved_9 : decode cS_proved 9 = .ok (.goto 4, 3) := by decide +kernel
theorem dS_proved_12 : decode cS_proved 12 = .ok (.iconst 0, 1) := by decide +kernel
theorem dS_proved_13 : decode cS_proved 13 = .ok (.ireturn, 1) := by decide +kernel
theorem dS_refuseUnknownLiteral_0 : decode cS_refuseUnknownLiteral 0 = .ok (.iload_n 1, 1) := by decide +kernel
theorem dS_refuseUnknownLiteral_1 : decode cS_refuseUnknownLiteral 1 = .ok (.ifCond .lt 13, 3) := by decide +kernel
theorem dS_refuseUnknownLiteral_4 : decode cS_refuseUnknownLiteral 4 = .ok (.iload_n 1, 1) := by decide +kernel
theorem dS_refuseUnknownLiteral_5 : decode cS_refuseUnknownLiteral 5 = .ok (.iconst 2, 1) := by decide +kernel
theorem dS_refuseUnknownLiteral_6 : decode cS_refuseUnknownLiteral 6 = .ok (.aload_n 0, 1) := by decide +kernel
theorem dS_refuseUnknownLiteral_7 : decode cS_refuseUnknownLiteral 7 = .ok (.getfield 29, 3) := by decide +kernel
theorem dS_refuseUnknownLiteral_10 : decode cS_refuseUnknownLiteral 10 = .ok (.imul, 1) := by decide +kernel
theorem dS_refuseUnknownLiteral_11 : decode cS_refuseUnknownLiteral 11 = .ok (.if_icmp .lt 13, 3) := by decide +kernel
theorem dS_refuseUnknownLiteral_14 : decode cS_refuseUnknownLiteral 14 = .ok (.new 104, 3) := by decide +kernel
theorem dS_refuseUnknownLiteral_17 : decode cS_refuseUnknownLiteral 17 = .ok (.dup, 1) := by decide +kernel
theorem dS_refuseUnknownLiteral_18 : decode cS_refuseUnknownLiteral 18 = .ok (.ldc 120, 2) := by decide +kernel
theorem dS_refuseUnknownLiteral_20 : decode cS_refuseUnknownLiteral 20 = .ok (.invokespecial 108, 3) := by decide +kernel
theorem dS_refuseUnknownLiteral_23 : decode cS_refuseUnknownLiteral 23 = .ok (.athrow, 1) := by decide +kernel
theorem dS_refuseUnknownLiteral_24 : decode cS_refuseUnknownLiteral 24 = .ok (.return_, 1) := by decide +kernel
theorem dS_shown_0 : decode cS_shown 0 = .ok (.aload_n 0, 1) := by decide +kernel
theorem dS_shown_1 : decode cS_shown 1 = .ok (.getfield 82, 3) := by decide +kernel
theorem dS_shown_4 : decode cS_shown 4 = .ok (.ireturn, 1) := by decide +kernel
theorem dS_solve_0 : decode cS_solve 0 = .ok (.aload_n 0, 1) := by decide +kernel
theorem dS_solve_1 : decode cS_solve 1 = .ok (.getfield 16, 3) := by decide +kernel
theorem dS_solve_4 : decode cS_solve 4 = .ok (.aload_n 0, 1) := by decide +kernel
theorem dS_solve_5 : decode cS_solve 5 = .ok (.getfield 10, 3) := by decide +kernel
theorem dS_solve_8 : decode cS_solve 8 = .ok (.invokevirtual 71, 3) := by decide +kernel
theorem dS_solve_11 : decode cS_solve 11 = .ok (.aload_n 0, 1) := by decide +kernel
theorem dS_solve_12 : decode cS_solve 12 = .ok (.aload_n 0, 1) := by decide +kernel
theorem dS_solve_13 : decode cS_solve 13 = .ok (.invokevirtual 75, 3) := by decide +kernel
theorem dS_solve_16 : decode cS_solve 16 = .ok (.putfield 79, 3) := by decide +kernel
theorem dS_solve_19 : decode cS_solve 19 = .ok (.aload_n 0, 1) := by decide +kernel
theorem dS_solve_20 : decode cS_solve 20 = .ok (.aload_n 0, 1) := by decide +kernel
theorem dS_solve_21 : decode cS_solve 21 = .ok (.getfield 79, 3) := by decide +kernel
theorem dS_solve_24 : decode cS_solve 24 = .ok (.iconst (-1), 1) := by decide +kernel
theorem dS_solve_25 : decode cS_solve 25 = .ok (.if_icmp .ne 7, 3) := by decide +kernel
theorem dS_solve_28 : decode cS_solve 28 = .ok (.iconst 1, 1) := by decide +kernel
theorem dS_solve_29 : decode cS_solve 29 = .ok (.goto 4, 3) := by decide +kernel
theorem dS_solve_32 : decode cS_solve 32 = .ok (.iconst 0, 1) := by decide +kernel
theorem dS_solve_33 : decode cS_solve 33 = .ok (.putfield 82, 3) := by decide +kernel
theorem dS_solve_36 : decode cS_solve 36 = .ok (.aload_n 0, 1) := by decide +kernel
theorem dS_solve_37 : decode cS_solve 37 = .ok (.aload_n 0, 1) := by decide +kernel
theorem dS_solve_38 : decode cS_solve 38 = .ok (.getfield 82, 3) := by decide +kernel
theorem dS_solve_41 : decode cS_solve 41 = .ok (.ifCond .eq 13, 3) := by decide +kernel
theorem dS_solve_44 : decode cS_solve 44 = .ok (.aload_n 0, 1) := by decide +kernel
theorem dS_solve_45 : decode cS_solve 45 = .ok (.getfield 16, 3) := by decide +kernel
theorem dS_solve_48 : decode cS_solve 48 = .ok (.invokevirtual 86, 3) := by decide +kernel
theorem dS_solve_51 : decode cS_solve 51 = .ok (.goto 4, 3) := by decide +kernel
theorem dS_solve_54 : decode cS_solve 54 = .ok (.iconst 0, 1) := by decide +kernel
theorem dS_solve_55 : decode cS_solve 55 = .ok (.putfield 89, 3) := by decide +kernel
theorem dS_solve_58 : decode cS_solve 58 = .ok (.aload_n 0, 1) := by decide +kernel
theorem dS_solve_59 : decode cS_solve 59 = .ok (.aload_n 0, 1) := by decide +kernel
theorem dS_solve_60 : decode cS_solve 60 = .ok (.getfield 29, 3) := by decide +kernel
theorem dS_solve_63 : decode cS_solve 63 = .ok (.putfield 92, 3) := by decide +kernel
theorem dS_solve_66 : decode cS_solve 66 = .ok (.aload_n 0, 1) := by decide +kernel
theorem dS_solve_67 : decode cS_solve 67 = .ok (.iconst 0, 1) := by decide +kernel
theorem dS_solve_68 : decode cS_solve 68 = .ok (.putfield 66, 3) := by decide +kernel
theorem dS_solve_71 : decode cS_solve 71 = .ok (.aload_n 0, 1) := by decide +kernel
theorem dS_solve_72 : decode cS_solve 72 = .ok (.getfield 82, 3) := by decide +kernel
theorem dS_solve_75 : decode cS_solve 75 = .ok (.ireturn, 1) := by decide +kernel
theorem dS_startAnew_0 : decode cS_startAnew 0 = .ok (.aload_n 0, 1) := by decide +kernel
theorem dS_startAnew_1 : decode cS_startAnew 1 = .ok (.getfield 10, 3) := by decide +kernel
theorem dS_startAnew_4 : decode cS_startAnew 4 = .ok (.invokevirtual 117, 3) := by decide +kernel
theorem dS_startAnew_7 : decode cS_startAnew 7 = .ok (.aload_n 0, 1) := by decide +kernel
theorem dS_startAnew_8 : decode cS_startAnew 8 = .ok (.iconst 0, 1) := by decide +kernel
theorem dS_startAnew_9 : decode cS_startAnew 9 = .ok (.putfield 29, 3) := by decide +kernel
theorem dS_startAnew_12 : decode cS_startAnew 12 = .ok (.aload_n 0, 1) := by decide +kernel
theorem dS_startAnew_13 : decode cS_startAnew 13 = .ok (.iconst 0, 1) := by decide +kernel
theorem dS_startAnew_14 : decode cS_startAnew 14 = .ok (.putfield 52, 3) := by decide +kernel
theorem dS_startAnew_17 : decode cS_startAnew 17 = .ok (.aload_n 0, 1) := by decide +kernel
theorem dS_startAnew_18 : decode cS_startAnew 18 = .ok (.iconst 0, 1) := by decide +kernel
theorem dS_startAnew_19 : decode cS_startAnew 19 = .ok (.putfield 57, 3) := by decide +kernel
theorem dS_startAnew_22 : decode cS_startAnew 22 = .ok (.aload_n 0, 1) := by decide +kernel
theorem dS_startAnew_23 : decode cS_startAnew 23 = .ok (.iconst 0, 1) := by decide +kernel
theorem dS_startAnew_24 : decode cS_startAnew 24 = .ok (.putfield 47, 3) := by decide +kernel
theorem dS_startAnew_27 : decode cS_startAnew 27 = .ok (.aload_n 0, 1) := by decide +kernel
theorem dS_startAnew_28 : decode cS_startAnew 28 = .ok (.iconst 0, 1) := by decide +kernel
theorem dS_startAnew_29 : decode cS_startAnew 29 = .ok (.putfield 66, 3) := by decide +kernel
theorem dS_startAnew_32 : decode cS_startAnew 32 = .ok (.aload_n 0, 1) := by decide +kernel
theorem dS_startAnew_33 : decode cS_startAnew 33 = .ok (.iconst 0, 1) := by decide +kernel
theorem dS_startAnew_34 : decode cS_startAnew 34 = .ok (.putfield 82, 3) := by decide +kernel
theorem dS_startAnew_37 : decode cS_startAnew 37 = .ok (.aload_n 0, 1) := by decide +kernel
theorem dS_startAnew_38 : decode cS_startAnew 38 = .ok (.iconst (-1), 1) := by decide +kernel
theorem dS_startAnew_39 : decode cS_startAnew 39 = .ok (.putfield 79, 3) := by decide +kernel
theorem dS_startAnew_42 : decode cS_startAnew 42 = .ok (.aload_n 0, 1) := by decide +kernel
theorem dS_startAnew_43 : decode cS_startAnew 43 = .ok (.iconst 0, 1) := by decide +kernel
theorem dS_startAnew_44 : decode cS_startAnew 44 = .ok (.putfield 89, 3) := by decide +kernel
theorem dS_startAnew_47 : decode cS_startAnew 47 = .ok (.aload_n 0, 1) := by decide +kernel
theorem dS_startAnew_48 : decode cS_startAnew 48 = .ok (.iconst 0, 1) := by decide +kernel
theorem dS_startAnew_49 : decode cS_startAnew 49 = .ok (.putfield 92, 3) := by decide +kernel
theorem dS_startAnew_52 : decode cS_startAnew 52 = .ok (.return_, 1) := by decide +kernel
theorem dS_variable_0 : decode cS_variable 0 = .ok (.aload_n 0, 1) := by decide +kernel
theorem dS_variable_1 : decode cS_variable 1 = .ok (.getfield 29, 3) := by decide +kernel
theorem dS_variable_4 : decode cS_variable 4 = .ok (.bipush 16, 2) := by decide +kernel
theorem dS_variable_6 : decode cS_variable 6 = .ok (.if_icmp .lt 13, 3) := by decide +kernel
theorem dS_variable_9 : decode cS_variable 9 = .ok (.new 33, 3) := by decide +kernel
theorem dS_variable_12 : decode cS_variable 12 = .ok (.dup, 1) := by decide +kernel
theorem dS_variable_13 : decode cS_variable 13 = .ok (.ldc 35, 2) := by decide +kernel
theorem dS_variable_15 : decode cS_variable 15 = .ok (.invokespecial 37, 3) := by decide +kernel
theorem dS_variable_18 : decode cS_variable 18 = .ok (.athrow, 1) := by decide +kernel
theorem dS_variable_19 : decode cS_variable 19 = .ok (.aload_n 0, 1) := by decide +kernel
theorem dS_variable_20 : decode cS_variable 20 = .ok (.getfield 29, 3) := by decide +kernel
theorem dS_variable_23 : decode cS_variable 23 = .ok (.istore_n 1, 1) := by decide +kernel
theorem dS_variable_24 : decode cS_variable 24 = .ok (.aload_n 0, 1) := by decide +kernel
theorem dS_variable_25 : decode cS_variable 25 = .ok (.getfield 10, 3) := by decide +kernel
theorem dS_variable_28 : decode cS_variable 28 = .ok (.iload_n 1, 1) := by decide +kernel
theorem dS_variable_29 : decode cS_variable 29 = .ok (.invokevirtual 40, 3) := by decide +kernel
theorem dS_variable_32 : decode cS_variable 32 = .ok (.aload_n 0, 1) := by decide +kernel
theorem dS_variable_33 : decode cS_variable 33 = .ok (.dup, 1) := by decide +kernel
theorem dS_variable_34 : decode cS_variable 34 = .ok (.getfield 29, 3) := by decide +kernel
theorem dS_variable_37 : decode cS_variable 37 = .ok (.iconst 1, 1) := by decide +kernel
theorem dS_variable_38 : decode cS_variable 38 = .ok (.iadd, 1) := by decide +kernel
theorem dS_variable_39 : decode cS_variable 39 = .ok (.putfield 29, 3) := by decide +kernel
theorem dS_variable_42 : decode cS_variable 42 = .ok (.iload_n 1, 1) := by decide +kernel
theorem dS_variable_43 : decode cS_variable 43 = .ok (.ireturn, 1) := by decide +kernel
theorem dS_ways_0 : decode cS_ways 0 = .ok (.iload_n 2, 1) := by decide +kernel
theorem dS_ways_1 : decode cS_ways 1 = .ok (.ifCond .lt 9, 3) := by decide +kernel
end
section
theorem dS_ways_4 : decode cS_ways 4 = .ok (.iload_n 2, 1) := by decide +kernel
theorem dS_ways_5 : decode cS_ways 5 = .ok (.bipush 8, 2) := by decide +kernel
theorem dS_ways_7 : decode cS_ways 7 = .ok (.if_icmp .le 13, 3) := by decide +kernel
theorem dS_ways_10 : decode cS_ways 10 = .ok (.new 104, 3) := by decide +kernel
theorem dS_ways_13 : decode cS_ways 13 = .ok (.dup, 1) := by decide +kernel
theorem dS_ways_14 : decode cS_ways 14 = .ok (.ldc 106, 2) := by decide +kernel
theorem dS_ways_16 : decode cS_ways 16 = .ok (.invokespecial 108, 3) := by decide +kernel
theorem dS_ways_19 : decode cS_ways 19 = .ok (.athrow, 1) := by decide +kernel
theorem dS_ways_20 : decode cS_ways 20 = .ok (.iload_n 1, 1) := by decide +kernel
theorem dS_ways_21 : decode cS_ways 21 = .ok (.ifCond .lt 13, 3) := by decide +kernel
theorem dS_ways_24 : decode cS_ways 24 = .ok (.iload_n 1, 1) := by decide +kernel
theorem dS_ways_25 : decode cS_ways 25 = .ok (.aload_n 0, 1) := by decide +kernel
theorem dS_ways_26 : decode cS_ways 26 = .ok (.getfield 29, 3) := by decide +kernel
theorem dS_ways_29 : decode cS_ways 29 = .ok (.iload_n 2, 1) := by decide +kernel
theorem dS_ways_30 : decode cS_ways 30 = .ok (.isub, 1) := by decide +kernel
theorem dS_ways_31 : decode cS_ways 31 = .ok (.if_icmp .le 13, 3) := by decide +kernel
theorem dS_ways_34 : decode cS_ways 34 = .ok (.new 95, 3) := by decide +kernel
theorem dS_ways_37 : decode cS_ways 37 = .ok (.dup, 1) := by decide +kernel
theorem dS_ways_38 : decode cS_ways 38 = .ok (.ldc 109, 2) := by decide +kernel
theorem dS_ways_40 : decode cS_ways 40 = .ok (.invokespecial 99, 3) := by decide +kernel
theorem dS_ways_43 : decode cS_ways 43 = .ok (.athrow, 1) := by decide +kernel
theorem dS_ways_44 : decode cS_ways 44 = .ok (.aload_n 0, 1) := by decide +kernel
theorem dS_ways_45 : decode cS_ways 45 = .ok (.getfield 16, 3) := by decide +kernel
theorem dS_ways_48 : decode cS_ways 48 = .ok (.aload_n 0, 1) := by decide +kernel
theorem dS_ways_49 : decode cS_ways 49 = .ok (.getfield 10, 3) := by decide +kernel
theorem dS_ways_52 : decode cS_ways 52 = .ok (.invokevirtual 71, 3) := by decide +kernel
theorem dS_ways_55 : decode cS_ways 55 = .ok (.bipush 15, 2) := by decide +kernel
theorem dS_ways_57 : decode cS_ways 57 = .ok (.istore_n 3, 1) := by decide +kernel
theorem dS_ways_58 : decode cS_ways 58 = .ok (.iload_n 3, 1) := by decide +kernel
theorem dS_ways_59 : decode cS_ways 59 = .ok (.ifCond .lt 29, 3) := by decide +kernel
theorem dS_ways_62 : decode cS_ways 62 = .ok (.iload_n 3, 1) := by decide +kernel
theorem dS_ways_63 : decode cS_ways 63 = .ok (.iload_n 1, 1) := by decide +kernel
theorem dS_ways_64 : decode cS_ways 64 = .ok (.if_icmp .lt 10, 3) := by decide +kernel
theorem dS_ways_67 : decode cS_ways 67 = .ok (.iload_n 3, 1) := by decide +kernel
theorem dS_ways_68 : decode cS_ways 68 = .ok (.iload_n 1, 1) := by decide +kernel
theorem dS_ways_69 : decode cS_ways 69 = .ok (.iload_n 2, 1) := by decide +kernel
theorem dS_ways_70 : decode cS_ways 70 = .ok (.iadd, 1) := by decide +kernel
theorem dS_ways_71 : decode cS_ways 71 = .ok (.if_icmp .lt 11, 3) := by decide +kernel
theorem dS_ways_74 : decode cS_ways 74 = .ok (.aload_n 0, 1) := by decide +kernel
theorem dS_ways_75 : decode cS_ways 75 = .ok (.getfield 16, 3) := by decide +kernel
theorem dS_ways_78 : decode cS_ways 78 = .ok (.iload_n 3, 1) := by decide +kernel
theorem dS_ways_79 : decode cS_ways 79 = .ok (.invokevirtual 111, 3) := by decide +kernel
theorem dS_ways_82 : decode cS_ways 82 = .ok (.iinc 3 (-1), 3) := by decide +kernel
theorem dS_ways_85 : decode cS_ways 85 = .ok (.goto (-27), 3) := by decide +kernel
theorem dS_ways_88 : decode cS_ways 88 = .ok (.aload_n 0, 1) := by decide +kernel
theorem dS_ways_89 : decode cS_ways 89 = .ok (.getfield 16, 3) := by decide +kernel
theorem dS_ways_92 : decode cS_ways 92 = .ok (.invokevirtual 114, 3) := by decide +kernel
theorem dS_ways_95 : decode cS_ways 95 = .ok (.ireturn, 1) := by decide +kernel
end
section
/-! what every method's world is: the cells, the static table of the masks, the two statics of Throwable, the words of a throw -/
def ls_ones (v : Nat) : Int64 := match v with
  | 0 => -6148914691236517206
  | 1 => -3689348814741910324
  | 2 => -1085102592571150096
  | 3 => -71777214294589696
  | 4 => -281470681808896
  | _ => -4294967296
def wZ (tI : Nat) (A : Nat → Prop) (U : State) (H : Heap) : Prop := va_Z RR "INNER_ONES" "[J" (.ref tI) A U H ∧ va_T .long tI 6 (fun j => .long (ls_ones j)) A U H ∧ vx_Zq Bundle.tN "UNASSIGNED_STACK" Bundle.steD A U H ∧ vx_Zq Bundle.tN "SUPPRESSED_SENTINEL" Bundle.listD A U H
theorem wZ.moved {tI : Nat} {A : Nat → Prop} {u U : State} {H : Heap} (hvm : u.vm.Alike U.vm) (h : wZ tI A u H) : wZ tI A U H := ⟨va_Z.moved hvm h.1, va_T.moved hvm h.2.1, vx_Zq.moved hvm h.2.2.1, vx_Zq.moved hvm h.2.2.2⟩
theorem wZ.kept {tI : Nat} {A : Nat → Prop} {U : State} {H H1 : Heap} (h : wZ tI A U H) (hq : ∀ a : Nat, a < H.size → ¬ A a → H1[a]? = H[a]?) : wZ tI A U H1 := ⟨h.1.kept hq, h.2.1.kept hq, h.2.2.1.kept hq, h.2.2.2.kept hq⟩
theorem wZ.narrow {tI : Nat} {A B : Nat → Prop} {U : State} {H : Heap} (h : wZ tI A U H) (hAB : ∀ q, B q → A q) : wZ tI B U H := ⟨h.1.narrow hAB, h.2.1.narrow hAB, h.2.2.1.narrow hAB, h.2.2.2.narrow hAB⟩
abbrev xS : String := "java/lang/IllegalStateException"
abbrev xA : String := "java/lang/IllegalArgumentException"
abbrev xI : String := "java/lang/IndexOutOfBoundsException"
def xDs : List MethodName := [⟨"java/lang/RuntimeException", "<init>", "(Ljava/lang/String;)V"⟩, ⟨"java/lang/Exception", "<init>", "(Ljava/lang/String;)V"⟩, ⟨"java/lang/Throwable", "<init>", "(Ljava/lang/String;)V"⟩]
def xTs : List (Nat × String) := [(35, "there are 16 variables"), (120, "there is no such literal"), (50, "the clause has 40 literals"), (55, "all clauses have 4000 literals"), (60, "there are 500 clauses"), (69, "there are 64 assumptions"), (97, "there is no such variable"), (106, "n is not 0 .. 8"), (109, "there are not so many variables from there on")]
def wX (U : State) : Prop := (∀ E ∈ [xS, xA, xI], va_Nw (.castable E E) U) ∧ (∀ y ∈ xDs, va_Nw (.declares y) U) ∧ va_Nc xS xA U ∧ va_Nc xI xA U ∧ ∀ q ∈ xTs, ∃ sa : Nat, vk_R RS q.1 q.2 sa U
theorem wX.warm {s U : State} (hW : s.WarmedH U.vm) (h : wX s) : wX U := ⟨fun E hE => va_Nw.warmC hW (h.1 E hE), fun y hy => va_Nw.warmD hW (h.2.1 y hy), h.2.2.1.moved hW.alike, h.2.2.2.1.moved hW.alike, fun q hq => by obtain ⟨sa, hs⟩ := h.2.2.2.2 q hq; exact ⟨sa, vk_R.warm hW hs⟩⟩
theorem wX.same {s U : State} (hv : U.vm = s.vm) (h : wX s) : wX U := ⟨fun E hE => va_Nw.same rfl hv.symm (h.1 E hE), fun y hy => va_Nw.same rfl hv.symm (h.2.1 y hy), h.2.2.1.moved (by rw [hv]; exact Vm.Alike.refl _), h.2.2.2.1.moved (by rw [hv]; exact Vm.Alike.refl _), fun q hq => by obtain ⟨sa, hs⟩ := h.2.2.2.2 q hq; exact ⟨sa, vk_R.same hv hs⟩⟩
abbrev wB (dC : Nat → ClassId) (dI : Nat → Nat → Nat) (tys : List (ClassId × FieldType)) (A : Nat → Prop) (ws : va_W) (t : State) : Prop := va_P (dC, dI) vwCl ws t.heap ∧ va_K (dC, dI) vwCl tys t ∧ va_D A ws
def wPre (dC : Nat → ClassId) (dI : Nat → Nat → Nat) (tys : List (ClassId × FieldType)) (ws : va_W) (sz tI : Nat) (U : State) : Prop := U.heap.size = sz ∧ va_P (dC, dI) vwCl ws U.heap ∧ va_K (dC, dI) vwCl tys U ∧ va_D (fun _ => True) ws ∧ wZ tI (va_A ws sz) U U.heap ∧ wX U
theorem wPre_blind (dC : Nat → ClassId) (dI : Nat → Nat → Nat) (tys : List (ClassId × FieldType)) (ws : va_W) (sz tI : Nat) (av : List Value) : FrameBlind (va_Pc av (wPre dC dI tys ws sz tI)) := by
  intro a U g mk q
  obtain ⟨q0, q1, qP, qK, qD, qZ, qX⟩ := q
  exact ⟨q0, q1, qP, va_K.moved (u := U) (U := U.calling g mk a) (Vm.Alike.refl U.vm) qK, qD, wZ.moved (u := U) (U := U.calling g mk a) (Vm.Alike.refl U.vm) qZ, wX.same (s := U) (U := U.calling g mk a) rfl qX⟩
theorem wPre_of {dC : Nat → ClassId} {dI : Nat → Nat → Nat} {tys : List (ClassId × FieldType)} {wc : va_W} {tI : Nat} {A A' : Nat → Prop} {s U : State} {H : Heap} {locs : List Loc} (hP : va_P (dC, dI) vwCl wc H) (hD : va_D A' wc) (hK : va_K (dC, dI) vwCl tys s) (hZ : wZ tI A s s.heap) (hX : wX s) (hS : va_S A s.heap H locs) (hF : ∀ q, va_A wc H.size q → A q) (hU : U.heap = H) (hW : s.WarmedH U.vm) : wPre dC dI tys wc H.size tI U := by
  refine ⟨by rw [hU], by rw [hU]; exact hP, va_K.moved hW.alike hK, hD.weaken (fun _ _ _ _ => trivial), ?_, hX.warm hW⟩
  rw [hU]
  exact wZ.moved hW.alike (wZ.narrow (hZ.kept hS.2.1) hF)
abbrev lvr (k mc ms : Nat) : Room := { frames := k, cells := mc, slots := ms, locals := 30 * k }
section WB
variable {p : Program} {l : Launch} {e : Env} {R : Room} {s : State} {m : MethodId} {args : Array Value} {below : List Frame} {meth : Method} {c : Code} {H : Heap} {locs : List Loc} {cells slots : Nat} {Q : State → Prop} {pc : Nat} {ls : Array Slot} {rest st0 : List Value}
theorem ls_topi {x y : Int32} (h : x = y) (k : W p l e R s m args below meth c H locs cells slots Q (F0 m pc ls (.int y :: rest))) : W p l e R s m args below meth c H locs cells slots Q (F0 m pc ls (.int x :: rest)) := by subst h; exact k
theorem ls_topl {x y : Int64} (h : x = y) (k : W p l e R s m args below meth c H locs cells slots Q (F0 m pc ls (.long y :: rest))) : W p l e R s m args below meth c H locs cells slots Q (F0 m pc ls (.long x :: rest)) := by subst h; exact k
theorem lv_newi {Pp : Prop} {x : Int32} (k : ∀ y : Int32, y = x → Pp) : Pp := k x rfl
variable {dC : Nat → ClassId} {dI : Nat → Nat → Nat} {tysC : List (ClassId × FieldType)} {tI mc ms : Nat} {A : Nat → Prop} {ws wc wr : va_W} {a : Array Value} {H0 : Heap}
theorem wc_i {S : Type} {post : Int32 → S → Prop} {wsf : S → va_W} (hr : va_Run p l e R s m args below meth c H locs cells slots mc ms (F0 m pc ls st0) rest (va_Qi post (fun u t => wB dC dI tysC (va_A wc H.size) (wsf u) t) (va_A wc H.size) a) (va_A wc H.size)) (hP : va_P (dC, dI) vwCl ws H) (hD : va_D A ws) (hS : va_S A H0 H locs) (hF : ∀ q, va_A wc H.size q → A q) (isC isR : List Nat) (hC : isC.map (fun i => ws[i]?) = wc.map some) (hR : isR.map (fun i => ws[i]?) = wr.map some) (hn : va_nd isR = true) (hdis : ∀ i ∈ isR, i ∉ isC)
    (kk : ∀ (r : Int32) (u : S) (H1 : Heap) (locs1 : List Loc), post r u → va_P (dC, dI) vwCl (wr ++ wsf u) H1 → va_D A (wr ++ wsf u) → va_S A H0 H1 locs1 → W p l e R s m args below meth c H1 locs1 (cells + mc) (slots + ms) Q (F0 m (pc + 3) ls (.int r :: rest))) : W p l e R s m args below meth c H locs cells slots Q (F0 m pc ls st0) := by
  refine va_calli hr hS (fun q _ h => hF q h) hF (fun r u t H1 locs1 ht hvm hw hB hz hk hS1 => ?_)
  obtain ⟨hP1, hK1, hD1⟩ := hB
  rw [ht] at hP1
  obtain ⟨hP2, hD2⟩ := va_join (wr := wr) (w1 := wsf u) hP hD isC isR hC hR hn hdis hk hF hP1 hD1
  exact kk r u H1 locs1 hw hP2 hD2 hS1
theorem wc_l {S : Type} {post : Int64 → S → Prop} {wsf : S → va_W} (hr : va_Run p l e R s m args below meth c H locs cells slots mc ms (F0 m pc ls st0) rest (va_Ql post (fun u t => wB dC dI tysC (va_A wc H.size) (wsf u) t) (va_A wc H.size) a) (va_A wc H.size)) (hP : va_P (dC, dI) vwCl ws H) (hD : va_D A ws) (hS : va_S A H0 H locs) (hF : ∀ q, va_A wc H.size q → A q) (isC isR : List Nat) (hC : isC.map (fun i => ws[i]?) = wc.map some) (hR : isR.map (fun i => ws[i]?) = wr.map some) (hn : va_nd isR = true) (hdis : ∀ i ∈ isR, i ∉ isC)
    (kk : ∀ (r : Int64) (u : S) (H1 : Heap) (locs1 : List Loc), post r u → va_P (dC, dI) vwCl (wr ++ wsf u) H1 → va_D A (wr ++ wsf u) → va_S A H0 H1 locs1 → W p l e R s m args below meth c H1 locs1 (cells + mc) (slots + ms) Q (F0 m (pc + 3) ls (.long r :: rest))) : W p l e R s m args below meth c H locs cells slots Q (F0 m pc ls st0) := by
  refine va_calll hr hS (fun q _ h => hF q h) hF (fun r u t H1 locs1 ht hvm hw hB hz hk hS1 => ?_)
  obtain ⟨hP1, hK1, hD1⟩ := hB
  rw [ht] at hP1
  obtain ⟨hP2, hD2⟩ := va_join (wr := wr) (w1 := wsf u) hP hD isC isR hC hR hn hdis hk hF hP1 hD1
  exact kk r u H1 locs1 hw hP2 hD2 hS1
theorem wc_v {S : Type} {post : S → Prop} {wsf : S → va_W} (hr : va_Run p l e R s m args below meth c H locs cells slots mc ms (F0 m pc ls st0) rest (va_Qv post (fun u t => wB dC dI tysC (va_A wc H.size) (wsf u) t) (va_A wc H.size) a) (va_A wc H.size)) (hP : va_P (dC, dI) vwCl ws H) (hD : va_D A ws) (hS : va_S A H0 H locs) (hF : ∀ q, va_A wc H.size q → A q) (isC isR : List Nat) (hC : isC.map (fun i => ws[i]?) = wc.map some) (hR : isR.map (fun i => ws[i]?) = wr.map some) (hn : va_nd isR = true) (hdis : ∀ i ∈ isR, i ∉ isC)
    (kk : ∀ (u : S) (H1 : Heap) (locs1 : List Loc), post u → va_P (dC, dI) vwCl (wr ++ wsf u) H1 → va_D A (wr ++ wsf u) → va_S A H0 H1 locs1 → W p l e R s m args below meth c H1 locs1 (cells + mc) (slots + ms) Q (F0 m (pc + 3) ls rest)) : W p l e R s m args below meth c H locs cells slots Q (F0 m pc ls st0) := by
  refine va_callv hr hS (fun q _ h => hF q h) hF (fun u t H1 locs1 ht hvm hw hB hz hk hS1 => ?_)
  obtain ⟨hP1, hK1, hD1⟩ := hB
  rw [ht] at hP1
  obtain ⟨hP2, hD2⟩ := va_join (wr := wr) (w1 := wsf u) hP hD isC isR hC hR hn hdis hk hF hP1 hD1
  exact kk u H1 locs1 hw hP2 hD2 hS1
variable {y : MethodName} {bytes cc : ByteArray} {maxL nL n index : Nat} {ret : Option FieldType} {rm : Room} {own C : String} {b : Nat} {As : List Value} {Qc : Array Value → State → Outcome → State → Prop} {free : Addr → Prop} {A' : Nat → Prop}
/-- a virtual call of a method with a contract of this form -/
theorem wc_V (S : CallFix p m c cc nL s args GG own) (hM : Met l y (Cond.code y bytes maxL ret :: GG) rm (va_Pc (.ref b :: As) (wPre dC dI tysC wc H.size tI)) Qc mc ms free) (w1 : Cond.methodLink own index y ∈ GG) (w2 : Cond.instanceMethod y ∈ GG) (w3 : Cond.selects C y y ∈ GG) (w4 : Cond.initialized C ∈ GG) (w5 : Cond.code y bytes maxL ret ∈ GG)
    (hd : y.cls = C ∧ y.cls ≠ "java/lang/invoke/MethodHandle" ∧ y.cls ≠ "java/lang/invoke/VarHandle" ∧ (parseMethodDescriptor y.desc).map (fun d => d.parameters.length) = some n) (hn : As.length = n) (hrc : rm.cells = mc) (hrs : rm.slots = ms) (hR : rm.frames + 1 ≤ R.frames ∧ 8 + (maxL + 11) + rm.locals ≤ R.locals)
    (hrecv : ∃ cellB : Cell, H[b]? = some cellB ∧ cellB.vm.isStatics = false ∧ s.vm.findClass C = some cellB.cls) (hPc : va_P (dC, dI) vwCl wc H) (hDc : va_D A' wc) (hKc : va_K (dC, dI) vwCl tysC s) (hZ : wZ tI A s s.heap) (hX : wX s) (hS : va_S A s.heap H locs) (hF : ∀ q, va_A wc H.size q → A q)
    (hst : st0 = As.reverse ++ .ref b :: rest) (hsize : ls.size = nL) (hW : (rest.map fun v => v.category).sum ≤ 8) (hdg : decode cc pc = .ok (.invokevirtual index, 3)) (hf : cells + mc ≤ R.cells ∧ slots + ms ≤ R.slots) :
    va_Run p l e R s m args below meth c H locs cells slots mc ms (F0 m pc ls st0) rest (Qc (Value.ref b :: As).toArray) free :=
  va_runV (As := As) (rest := rest) S hM (cwV n S.2.2.2.2 (GG_good (fun w hw => by
    rcases List.mem_append.mp hw with h | h
    · simp only [List.mem_cons, List.not_mem_nil, or_false] at h
      rcases h with rfl | rfl | rfl | rfl
      · exact w1
      · exact w2
      · exact w3
      · exact w4
    · rcases List.mem_cons.mp h with h | h
      · rw [h]; exact w5
      · exact h)) rfl hrc hrs hd hR) ⟨wPre_blind _ _ _ _ _ _ _, hrecv, fun U hU hW => ⟨rfl, wPre_of hPc hDc hKc hZ hX hS hF hU hW⟩⟩ rfl hn hsize hst (lv_room hW) hdg hf
/-- a call of a constructor -/
theorem wc_I (S : CallFix p m c cc nL s args GG own) (hM : Met l y (Cond.code y bytes maxL none :: GG) rm (va_Pc (.ref b :: As) (wPre dC dI tysC wc H.size tI)) Qc mc ms free) (w1 : Cond.methodLink own index y ∈ GG) (w2 : Cond.instanceMethod y ∈ GG) (w4 : Cond.initialized y.cls ∈ GG) (w5 : Cond.code y bytes maxL none ∈ GG) (hy : y.name = "<init>")
    (hd : y.cls ≠ "java/lang/invoke/MethodHandle" ∧ y.cls ≠ "java/lang/invoke/VarHandle" ∧ (parseMethodDescriptor y.desc).map (fun d => d.parameters.length) = some n) (hn : As.length = n) (hrc : rm.cells = mc) (hrs : rm.slots = ms) (hR : rm.frames + 1 ≤ R.frames ∧ 8 + (maxL + 11) + rm.locals ≤ R.locals)
    (hPc : va_P (dC, dI) vwCl wc H) (hDc : va_D A' wc) (hKc : va_K (dC, dI) vwCl tysC s) (hZ : wZ tI A s s.heap) (hX : wX s) (hS : va_S A s.heap H locs) (hF : ∀ q, va_A wc H.size q → A q)
    (hst : st0 = As.reverse ++ .ref b :: rest) (hsize : ls.size = nL) (hW : (rest.map fun v => v.category).sum ≤ 8) (hdg : decode cc pc = .ok (.invokespecial index, 3)) (hf : cells + mc ≤ R.cells ∧ slots + ms ≤ R.slots) :
    va_Run p l e R s m args below meth c H locs cells slots mc ms (F0 m pc ls st0) rest (Qc (Value.ref b :: As).toArray) free :=
  va_runI (As := As) (rest := rest) S hM (cwI n S.2.2.2.2 (GG_good (fun w hw => by
    rcases List.mem_cons.mp hw with h | h
    · rw [h]; exact w5
    · exact h)) rfl hrc hrs (S.2.2.2.2 _ w4) (S.2.2.2.2 _ w1) (S.2.2.2.2 _ w2) hy hd hR) ⟨wPre_blind _ _ _ _ _ _ _, fun U hU hW => ⟨rfl, wPre_of hPc hDc hKc hZ hX hS hF hU hW⟩⟩ rfl hn hsize hst (lv_room hW) hdg hf
/-- a call of a static method -/
theorem wc_S (S : CallFix p m c cc nL s args GG own) (hM : Met l y (Cond.code y bytes maxL ret :: GG) rm (va_Pc As (wPre dC dI tysC wc H.size tI)) Qc mc ms free) (w1 : Cond.methodLink own index y ∈ GG) (w2 : Cond.static y ∈ GG) (w4 : Cond.initialized y.cls ∈ GG) (w5 : Cond.code y bytes maxL ret ∈ GG)
    (hd : y.cls ≠ "java/lang/invoke/MethodHandle" ∧ y.cls ≠ "java/lang/invoke/VarHandle" ∧ (parseMethodDescriptor y.desc).map (fun d => d.parameters.length) = some n) (hn : As.length = n) (hrc : rm.cells = mc) (hrs : rm.slots = ms) (hR : rm.frames + 1 ≤ R.frames ∧ 8 + (maxL + 11) + rm.locals ≤ R.locals)
    (hPc : va_P (dC, dI) vwCl wc H) (hDc : va_D A' wc) (hKc : va_K (dC, dI) vwCl tysC s) (hZ : wZ tI A s s.heap) (hX : wX s) (hS : va_S A s.heap H locs) (hF : ∀ q, va_A wc H.size q → A q)
    (hst : st0 = As.reverse ++ rest) (hsize : ls.size = nL) (hW : (rest.map fun v => v.category).sum ≤ 8) (hdg : decode cc pc = .ok (.invokestatic index, 3)) (hf : cells + mc ≤ R.cells ∧ slots + ms ≤ R.slots) :
    va_Run p l e R s m args below meth c H locs cells slots mc ms (F0 m pc ls st0) rest (Qc As.toArray) free :=
  va_runS (As := As) (rest := rest) S hM (va_cwS n S.2.2.2.2 (GG_good (fun w hw => by
    rcases List.mem_append.mp hw with h | h
    · simp only [List.mem_cons, List.not_mem_nil, or_false] at h
      rcases h with rfl | rfl | rfl
      · exact w1
      · exact w2
      · exact w4
    · rcases List.mem_cons.mp h with h | h
      · rw [h]; exact w5
      · exact h)) rfl hrc hrs hd hR) ⟨wPre_blind _ _ _ _ _ _ _, fun U hU hW => ⟨rfl, wPre_of hPc hDc hKc hZ hX hS hF hU hW⟩⟩ rfl hn hsize hst (lv_room hW) hdg hf
end WB
end
section
/-! counting bits: Long.bitCount's sum, on lists of bytes -/
def ls_cnt (p : Nat → Bool) : Nat → Nat
  | 0 => 0
  | n + 1 => ls_cnt p n + (if p n = true then 1 else 0)
theorem ls_cnt_add (p : Nat → Bool) (a b : Nat) : ls_cnt p (a + b) = ls_cnt p a + ls_cnt (fun i => p (a + i)) b := by
  induction b with
  | zero => rfl
  | succ b ih =>
    show ls_cnt p (a + b) + (if p (a + b) = true then 1 else 0) = ls_cnt p a + (ls_cnt (fun i => p (a + i)) b + (if p (a + b) = true then 1 else 0))
    rw [ih, Nat.add_assoc]
theorem ls_cnt_congr {p q : Nat → Bool} {n : Nat} (h : ∀ i, i < n → p i = q i) : ls_cnt p n = ls_cnt q n := by
  induction n with
  | zero => rfl
  | succ n ih =>
    show ls_cnt p n + _ = ls_cnt q n + _
    rw [ih (fun i hi => h i (Nat.lt_succ_of_lt hi)), h n (Nat.lt_succ_self n)]
theorem ls_cnt_le (p : Nat → Bool) (n : Nat) : ls_cnt p n ≤ n := by
  induction n with
  | zero => exact Nat.le_refl 0
  | succ n ih =>
    show ls_cnt p n + _ ≤ n + 1
    split <;> omega
def bc_N : List Nat → Nat
  | [] => 0
  | a :: t => a + 256 * bc_N t
def bc_K (m : Nat) : Nat → Nat
  | 0 => 0
  | k + 1 => m + 256 * bc_K m k
def bc_by : Nat → Nat → List Nat
  | 0, _ => []
  | k + 1, n => n % 256 :: bc_by k (n / 256)
theorem bc_by_len (k n : Nat) : (bc_by k n).length = k := by
  induction k generalizing n with
  | zero => rfl
  | succ k ih => simp [bc_by, ih]
theorem bc_by_lt (k n : Nat) : ∀ a ∈ bc_by k n, a < 256 := by
  induction k generalizing n with
  | zero => intro a h; cases h
  | succ k ih =>
    intro a h
    rcases List.mem_cons.mp h with h | h
    · rw [h]; exact Nat.mod_lt _ (by decide)
    · exact ih _ a h
theorem bc_N_by (k n : Nat) (h : n < 256 ^ k) : bc_N (bc_by k n) = n := by
  induction k generalizing n with
  | zero => simp at h; subst h; rfl
  | succ k ih =>
    show n % 256 + 256 * bc_N (bc_by k (n / 256)) = n
    rw [ih (n / 256) (by rw [Nat.pow_succ] at h; omega)]
    omega
theorem bc_and (a m T M : Nat) (ha : a < 256) (hm : m < 256) : (a + 256 * T) &&& (m + 256 * M) = (a &&& m) + 256 * (T &&& M) := by
  have h1 : (a &&& m) < 2 ^ 8 := Nat.and_lt_two_pow a (by omega)
  rw [Nat.add_comm a, Nat.add_comm m, Nat.add_comm (a &&& m)]
  apply Nat.eq_of_testBit_eq
  intro i
  rw [Nat.testBit_and, show (256 : Nat) = 2 ^ 8 from rfl, Nat.testBit_two_pow_mul_add T (by omega), Nat.testBit_two_pow_mul_add M (by omega), Nat.testBit_two_pow_mul_add _ h1]
  split <;> simp
theorem bc_andK (m : Nat) (hm : m < 256) : ∀ l : List Nat, (∀ a ∈ l, a < 256) → bc_N l &&& bc_K m l.length = bc_N (l.map (fun a => a &&& m)) := by
  intro l
  induction l with
  | nil => intro _; exact Nat.zero_and _
  | cons a t ih =>
    intro h
    show (a + 256 * bc_N t) &&& (m + 256 * bc_K m t.length) = (a &&& m) + 256 * bc_N (t.map _)
    rw [bc_and _ _ _ _ (h a (by simp)) hm, ih (fun x hx => h x (by simp [hx]))]
theorem bc_8 : ∀ c, c < 2 → ∀ a, a < 256 → ((a / 2 + 128 * c) &&& 85) = (a / 2 &&& 85) := by decide +kernel
theorem bc_4 : ∀ c, c < 4 → ∀ a, a < 256 → ((a / 4 + 64 * c) &&& 51) = (a / 4 &&& 51) := by decide +kernel
theorem bc_sh1 : ∀ l : List Nat, (∀ a ∈ l, a < 256) → (bc_N l / 2) &&& bc_K 85 l.length = bc_N (l.map (fun a => a / 2 &&& 85)) := by
  intro l
  induction l with
  | nil => intro _; rfl
  | cons a t ih =>
    intro h
    have ha := h a (by simp)
    show ((a + 256 * bc_N t) / 2) &&& (85 + 256 * bc_K 85 t.length) = (a / 2 &&& 85) + 256 * bc_N (t.map _)
    rw [show (a + 256 * bc_N t) / 2 = (a / 2 + 128 * (bc_N t % 2)) + 256 * (bc_N t / 2) by omega, bc_and _ _ _ _ (by omega) (by decide), bc_8 _ (by omega) a ha, ih (fun x hx => h x (by simp [hx]))]
theorem bc_sh2 : ∀ l : List Nat, (∀ a ∈ l, a < 256) → (bc_N l / 4) &&& bc_K 51 l.length = bc_N (l.map (fun a => a / 4 &&& 51)) := by
  intro l
  induction l with
  | nil => intro _; rfl
  | cons a t ih =>
    intro h
    have ha := h a (by simp)
    show ((a + 256 * bc_N t) / 4) &&& (51 + 256 * bc_K 51 t.length) = (a / 4 &&& 51) + 256 * bc_N (t.map _)
    rw [show (a + 256 * bc_N t) / 4 = (a / 4 + 64 * (bc_N t % 4)) + 256 * (bc_N t / 4) by omega, bc_and _ _ _ _ (by omega) (by decide), bc_4 _ (by omega) a ha, ih (fun x hx => h x (by simp [hx]))]
theorem bc_sub (f g : Nat → Nat) : ∀ l : List Nat, (∀ a ∈ l, g a ≤ f a) → bc_N (l.map g) ≤ bc_N (l.map f) ∧ bc_N (l.map f) - bc_N (l.map g) = bc_N (l.map (fun a => f a - g a)) := by
  intro l
  induction l with
  | nil => intro _; exact ⟨Nat.le_refl _, rfl⟩
  | cons a t ih =>
    intro h
    have ha := h a (by simp)
    obtain ⟨h1, h2⟩ := ih (fun x hx => h x (by simp [hx]))
    simp only [List.map_cons, bc_N]
    rw [← h2]
    omega
theorem bc_sum (f g : Nat → Nat) : ∀ l : List Nat, bc_N (l.map f) + bc_N (l.map g) = bc_N (l.map (fun a => f a + g a)) := by
  intro l
  induction l with
  | nil => rfl
  | cons a t ih =>
    simp only [List.map_cons, bc_N]
    rw [← ih]
    omega
theorem bc_16 : ∀ c, c < 5 → ∀ a, a < 69 → a % 16 < 5 → ((a + a / 16 + 16 * c) &&& 15) = (a + a / 16) % 16 := by decide +kernel
theorem bc_sh4 : ∀ l : List Nat, (∀ a ∈ l, a < 69 ∧ a % 16 < 5) → (bc_N l % 16 < 5) ∧ (bc_N l + bc_N l / 16) &&& bc_K 15 l.length = bc_N (l.map (fun a => (a + a / 16) % 16)) := by
  intro l
  induction l with
  | nil => intro _; exact ⟨by decide, rfl⟩
  | cons a t ih =>
    intro h
    obtain ⟨ha, hb⟩ := h a (by simp)
    obtain ⟨h1, h2⟩ := ih (fun x hx => h x (by simp [hx]))
    refine ⟨by show (a + 256 * bc_N t) % 16 < 5; omega, ?_⟩
    show ((a + 256 * bc_N t) + (a + 256 * bc_N t) / 16) &&& (15 + 256 * bc_K 15 t.length) = (a + a / 16) % 16 + 256 * bc_N (t.map _)
    rw [show (a + 256 * bc_N t) + (a + 256 * bc_N t) / 16 = (a + a / 16 + 16 * (bc_N t % 16)) + 256 * (bc_N t + bc_N t / 16) by omega, bc_and _ _ _ _ (by omega) (by decide), bc_16 _ h1 a ha hb, h2]
def bc_1 (a : Nat) : Nat := a - (a / 2 &&& 85)
def bc_2 (a : Nat) : Nat := (bc_1 a &&& 51) + (bc_1 a / 4 &&& 51)
def bc_3 (a : Nat) : Nat := (bc_2 a + bc_2 a / 16) % 16
theorem bc_f1 : ∀ a, a < 256 → (a / 2 &&& 85) ≤ a ∧ bc_1 a < 256 := by decide +kernel
theorem bc_f2 : ∀ a, a < 256 → bc_2 a < 69 ∧ bc_2 a % 16 < 5 := by decide +kernel
theorem bc_f3 : ∀ a, a < 256 → bc_3 a = ls_cnt (fun i => a.testBit i) 8 := by decide +kernel
theorem bc_cnt : ∀ l : List Nat, (∀ a ∈ l, a < 256) → ls_cnt (fun i => (bc_N l).testBit i) (8 * l.length) = (l.map bc_3).sum := by
  intro l
  induction l with
  | nil => intro _; rfl
  | cons a t ih =>
    intro h
    have ha := h a (by simp)
    rw [show 8 * (a :: t).length = 8 + 8 * t.length by simp; omega, ls_cnt_add, List.map_cons, List.sum_cons, bc_f3 a ha, ← ih (fun x hx => h x (by simp [hx]))]
    have e : ∀ j, (bc_N (a :: t)).testBit j = if j < 8 then a.testBit j else (bc_N t).testBit (j - 8) := fun j => by
      show (a + 256 * bc_N t).testBit j = _
      rw [Nat.add_comm, show (256 : Nat) = 2 ^ 8 from rfl, Nat.testBit_two_pow_mul_add _ (by omega)]
    congr 1
    · exact ls_cnt_congr (fun i hi => by rw [e, if_pos hi])
    · exact ls_cnt_congr (fun i _ => by rw [e, if_neg (by omega), Nat.add_sub_cancel_left])
theorem bc_N_lt : ∀ l : List Nat, (∀ a ∈ l, a < 256) → bc_N l < 256 ^ l.length := by
  intro l
  induction l with
  | nil => intro _; exact Nat.one_pos
  | cons a t ih =>
    intro h
    have h1 := h a (by simp)
    have h2 := ih (fun x hx => h x (by simp [hx]))
    show a + 256 * bc_N t < 256 ^ (t.length + 1)
    rw [Nat.pow_succ]
    omega
theorem bc_div (a : Nat) (t : List Nat) (h : a < 256) : bc_N (a :: t) / 256 = bc_N t := by
  show (a + 256 * bc_N t) / 256 = bc_N t
  generalize bc_N t = T
  omega
theorem bc_lt8 {l : List Nat} (h : ∀ a ∈ l, a < 256) (hl : l.length = 8) : bc_N l < 2 ^ 64 := by
  have h1 := bc_N_lt l h
  rw [hl] at h1
  exact h1
theorem bc_end (a0 a1 a2 a3 a4 a5 a6 a7 : Nat) (h0 : a0 ≤ 8) (h1 : a1 ≤ 8) (h2 : a2 ≤ 8) (h3 : a3 ≤ 8) (h4 : a4 ≤ 8) (h5 : a5 ≤ 8) (h6 : a6 ≤ 8) (h7 : a7 ≤ 8) : ∃ x4 x5 x6 : Nat, x4 = bc_N [a0, a1, a2, a3, a4, a5, a6, a7] + bc_N [a0, a1, a2, a3, a4, a5, a6, a7] / 256 ∧ x5 = x4 + x4 / 65536 ∧ x6 = x5 + x5 / 4294967296 ∧ bc_N [a0, a1, a2, a3, a4, a5, a6, a7] < 2 ^ 64 ∧ x4 < 2 ^ 64 ∧ x5 < 2 ^ 64 ∧ x6 % 128 = [a0, a1, a2, a3, a4, a5, a6, a7].sum := by
  have e4 : bc_N [a0, a1, a2, a3, a4, a5, a6, a7] + bc_N [a0, a1, a2, a3, a4, a5, a6, a7] / 256 = bc_N [a0 + a1, a1 + a2, a2 + a3, a3 + a4, a4 + a5, a5 + a6, a6 + a7, a7] := by
    rw [bc_div _ _ (by omega)]
    simp only [bc_N]; omega
  have e5 : bc_N [a0 + a1, a1 + a2, a2 + a3, a3 + a4, a4 + a5, a5 + a6, a6 + a7, a7] + bc_N [a0 + a1, a1 + a2, a2 + a3, a3 + a4, a4 + a5, a5 + a6, a6 + a7, a7] / 65536 = bc_N [a0 + a1 + (a2 + a3), a1 + a2 + (a3 + a4), a2 + a3 + (a4 + a5), a3 + a4 + (a5 + a6), a4 + a5 + (a6 + a7), a5 + a6 + a7, a6 + a7, a7] := by
    rw [show (65536 : Nat) = 256 * 256 from rfl, ← Nat.div_div_eq_div_mul, bc_div _ _ (by omega), bc_div _ _ (by omega)]
    simp only [bc_N]; omega
  have e6 : bc_N [a0 + a1 + (a2 + a3), a1 + a2 + (a3 + a4), a2 + a3 + (a4 + a5), a3 + a4 + (a5 + a6), a4 + a5 + (a6 + a7), a5 + a6 + a7, a6 + a7, a7] + bc_N [a0 + a1 + (a2 + a3), a1 + a2 + (a3 + a4), a2 + a3 + (a4 + a5), a3 + a4 + (a5 + a6), a4 + a5 + (a6 + a7), a5 + a6 + a7, a6 + a7, a7] / 4294967296 = bc_N [a0 + a1 + (a2 + a3) + (a4 + a5 + (a6 + a7)), a1 + a2 + (a3 + a4) + (a5 + a6 + a7), a2 + a3 + (a4 + a5) + (a6 + a7), a3 + a4 + (a5 + a6) + a7, a4 + a5 + (a6 + a7), a5 + a6 + a7, a6 + a7, a7] := by
    rw [show (4294967296 : Nat) = 256 * 256 * 256 * 256 from rfl, ← Nat.div_div_eq_div_mul, ← Nat.div_div_eq_div_mul, ← Nat.div_div_eq_div_mul, bc_div _ _ (by omega), bc_div _ _ (by omega), bc_div _ _ (by omega), bc_div _ _ (by omega)]
    simp only [bc_N]; omega
  refine ⟨_, _, _, e4.symm, e5.symm, e6.symm, bc_lt8 ?_ rfl, bc_lt8 ?_ rfl, bc_lt8 ?_ rfl, ?_⟩
  · simp only [List.mem_cons, List.not_mem_nil, or_false, forall_eq_or_imp, forall_eq]; omega
  · simp only [List.mem_cons, List.not_mem_nil, or_false, forall_eq_or_imp, forall_eq]; omega
  · simp only [List.mem_cons, List.not_mem_nil, or_false, forall_eq_or_imp, forall_eq]; omega
  · rw [bc_N]
    generalize bc_N _ = T
    simp only [List.sum_cons, List.sum_nil]
    omega
/-- the sum that Long.bitCount makes, on a number below 2^64 -/
theorem bc_main {n : Nat} (hn : n < 2 ^ 64) : ∃ x1 x2 x3 x4 x5 x6 : Nat,
    (n / 2 &&& 6148914691236517205) ≤ n ∧ x1 = n - (n / 2 &&& 6148914691236517205) ∧
    x2 = (x1 &&& 3689348814741910323) + (x1 / 4 &&& 3689348814741910323) ∧ x2 < 2 ^ 64 ∧
    x3 = (x2 + x2 / 16 &&& 1085102592571150095) ∧
    x4 = x3 + x3 / 256 ∧ x4 < 2 ^ 64 ∧ x5 = x4 + x4 / 65536 ∧ x5 < 2 ^ 64 ∧ x6 = x5 + x5 / 4294967296 ∧ x3 < 2 ^ 64 ∧ x1 < 2 ^ 64 ∧
    x6 % 128 = ls_cnt (fun i => n.testBit i) 64 := by
  have hl : ∀ a ∈ bc_by 8 n, a < 256 := bc_by_lt 8 n
  have hL : (bc_by 8 n).length = 8 := bc_by_len 8 n
  have hN : bc_N (bc_by 8 n) = n := bc_N_by 8 n hn
  generalize bc_by 8 n = l at hl hL hN
  subst hN
  have k1 : bc_K 85 l.length = 6148914691236517205 := by rw [hL]; rfl
  have k2 : bc_K 51 l.length = 3689348814741910323 := by rw [hL]; rfl
  have k3 : bc_K 15 l.length = 1085102592571150095 := by rw [hL]; rfl
  have s1 := bc_sh1 l hl
  rw [k1] at s1
  obtain ⟨le1, e1⟩ := bc_sub (fun a => a) (fun a => a / 2 &&& 85) l (fun a ha => (bc_f1 a (hl a ha)).1)
  have hid : l.map (fun a => a) = l := by simp
  rw [hid] at le1 e1
  have e1' : bc_N l - bc_N (l.map fun a => a / 2 &&& 85) = bc_N (l.map bc_1) := e1
  have hl1 : ∀ a ∈ l.map bc_1, a < 256 := fun a ha => by
    obtain ⟨b, hb, rfl⟩ := List.mem_map.mp ha
    exact (bc_f1 b (hl b hb)).2
  have s2a := bc_andK 51 (by decide) (l.map bc_1) hl1
  have s2b := bc_sh2 (l.map bc_1) hl1
  rw [List.length_map, k2] at s2a s2b
  rw [List.map_map] at s2a s2b
  have e2 : (bc_N (l.map bc_1) &&& 3689348814741910323) + (bc_N (l.map bc_1) / 4 &&& 3689348814741910323) = bc_N (l.map bc_2) := by
    rw [s2a, s2b, bc_sum]
    rfl
  have hl2 : ∀ a ∈ l.map bc_2, a < 69 ∧ a % 16 < 5 := fun a ha => by
    obtain ⟨b, hb, rfl⟩ := List.mem_map.mp ha
    exact bc_f2 b (hl b hb)
  have s3 := (bc_sh4 (l.map bc_2) hl2).2
  rw [List.length_map, k3, List.map_map] at s3
  have e3 : (bc_N (l.map bc_2) + bc_N (l.map bc_2) / 16 &&& 1085102592571150095) = bc_N (l.map bc_3) := s3
  have hc := bc_cnt l hl
  rw [hL] at hc
  have hl3 : ∀ a ∈ l.map bc_3, a ≤ 8 := fun a ha => by
    obtain ⟨b, hb, rfl⟩ := List.mem_map.mp ha
    rw [bc_f3 b (hl b hb)]
    exact ls_cnt_le _ 8
  have hL3 : (l.map bc_3).length = 8 := by rw [List.length_map, hL]
  have hL2 : (l.map bc_2).length = 8 := by rw [List.length_map, hL]
  have q2 : bc_N (l.map bc_2) < 2 ^ 64 := bc_lt8 (fun a ha => by have := hl2 a ha; omega) hL2
  have q1 : bc_N (l.map bc_1) < 2 ^ 64 := bc_lt8 hl1 (by rw [List.length_map, hL])
  have q3 : ∃ x4 x5 x6 : Nat, x4 = bc_N (l.map bc_3) + bc_N (l.map bc_3) / 256 ∧ x5 = x4 + x4 / 65536 ∧ x6 = x5 + x5 / 4294967296 ∧ bc_N (l.map bc_3) < 2 ^ 64 ∧ x4 < 2 ^ 64 ∧ x5 < 2 ^ 64 ∧ x6 % 128 = (l.map bc_3).sum := by
    match h : l.map bc_3, hL3 with
    | [a0, a1, a2, a3, a4, a5, a6, a7], _ =>
      rw [h] at hl3
      simp only [List.mem_cons, List.not_mem_nil, or_false, forall_eq_or_imp, forall_eq] at hl3
      exact bc_end a0 a1 a2 a3 a4 a5 a6 a7 hl3.1 hl3.2.1 hl3.2.2.1 hl3.2.2.2.1 hl3.2.2.2.2.1 hl3.2.2.2.2.2.1 hl3.2.2.2.2.2.2.1 hl3.2.2.2.2.2.2.2
  obtain ⟨x4, x5, x6, f4, f5, f6, g3, g4, g5, hs⟩ := q3
  exact ⟨_, _, _, x4, x5, x6, by rw [s1]; exact le1, by rw [s1]; exact e1'.symm, e2.symm, q2, e3.symm, f4, g4, f5, g5, f6, g3, q1, by rw [hs]; exact hc.symm⟩
end
section
theorem wb_tb (n : Nat) : (lN n).toBitVec = BitVec.ofNat 64 n := rfl
theorem wb_inj {a b : Int64} (h : a.toBitVec = b.toBitVec) : a = b := Int64.toBitVec_inj.mp h
theorem wb_tn {n : Nat} (h : n < 2 ^ 64) : (lN n).toBitVec.toNat = n := by rw [wb_tb, BitVec.toNat_ofNat, Nat.mod_eq_of_lt h]
theorem wb_of (x : Int64) : ∃ n, n < 2 ^ 64 ∧ x = lN n := ⟨x.toBitVec.toNat, x.toBitVec.isLt, wb_inj (by rw [wb_tb]; simp)⟩
theorem wb_of32 (x : Int32) : ∃ n, n < 2 ^ 32 ∧ x = nI n := ⟨x.toBitVec.toNat, x.toBitVec.isLt, Int32.toBitVec_inj.mp (by show _ = BitVec.ofNat 32 _; simp)⟩
theorem wb_c : ∀ k, k < 64 → ((nI k).toInt64 &&& 63) = lN k := by decide +kernel
theorem wb_cu : ∀ k, k < 64 → ((nI k).toInt64.toUInt64 &&& Int64.toUInt64 63) = UInt64.ofNat k := by decide +kernel
theorem wb_sm : ∀ k, k < 64 → (BitVec.ofNat 64 k).smod 64 = BitVec.ofNat 64 k := by decide +kernel
theorem wb_pw {a b : Nat} (h : a ≤ b) : 2 ^ b = 2 ^ a * 2 ^ (b - a) := by rw [← Nat.pow_add]; congr 1; omega
theorem wb_lt2 {a b : Nat} (h : a < b) : 2 ^ a < 2 ^ b := Nat.pow_lt_pow_right (by decide) h
theorem wb_mod (n : Nat) : lN n = lN (n % 2 ^ 64) := wb_inj (by rw [wb_tb, wb_tb]; apply BitVec.eq_of_toNat_eq; rw [BitVec.toNat_ofNat, BitVec.toNat_ofNat, Nat.mod_mod])
theorem wb_shr {n k : Nat} (hn : n < 2 ^ 64) (hk : k < 64) : ((lN n).toUInt64 >>> ((nI k).toInt64.toUInt64 &&& Int64.toUInt64 63)).toInt64 = lN (n / 2 ^ k) := by
  rw [wb_cu k hk]
  apply wb_inj
  apply BitVec.eq_of_toNat_eq
  show ((lN n).toUInt64 >>> UInt64.ofNat k).toNat = (BitVec.ofNat 64 _).toNat
  have h1 : (UInt64.ofNat k).toNat = k := by
    show (BitVec.ofNat 64 k).toNat = k
    rw [BitVec.toNat_ofNat, Nat.mod_eq_of_lt (by omega)]
  have h2 : (lN n).toUInt64.toNat = n := wb_tn hn
  rw [UInt64.toNat_shiftRight, h1, h2, Nat.mod_eq_of_lt hk, Nat.shiftRight_eq_div_pow, BitVec.toNat_ofNat, Nat.mod_eq_of_lt (Nat.lt_of_le_of_lt (Nat.div_le_self _ _) hn)]

/-! bits of a word -/
def ls_b (x : Int64) (b : Nat) : Bool := x.toBitVec.getLsbD b
theorem ls_b_lN {n b : Nat} (h : n < 2 ^ 64) : ls_b (lN n) b = n.testBit b := by
  show (BitVec.ofNat 64 n).getLsbD b = n.testBit b
  rw [BitVec.getLsbD_ofNat]
  by_cases hb : b < 64
  · simp [hb]
  · rw [Nat.testBit_lt_two_pow (Nat.lt_of_lt_of_le h (Nat.pow_le_pow_right (by decide) (by omega)))]
    simp
theorem ls_b_and (x y : Int64) (b : Nat) : ls_b (x &&& y) b = (ls_b x b && ls_b y b) := by simp [ls_b]
theorem ls_b_or (x y : Int64) (b : Nat) : ls_b (x ||| y) b = (ls_b x b || ls_b y b) := by simp [ls_b]
theorem ls_b_m1 : ∀ b, b < 64 → ls_b (-1) b = true := by decide +kernel
theorem ls_b_0 (b : Nat) : ls_b 0 b = false := by simp [ls_b]
theorem ls_b_not (x : Int64) {b : Nat} (hb : b < 64) : ls_b (x ^^^ (-1)) b = !ls_b x b := by
  have h := ls_b_m1 b hb
  simp only [ls_b] at h ⊢
  rw [Int64.toBitVec_xor, BitVec.getLsbD_xor, h]
  simp
theorem ls_b_big {x : Int64} {b : Nat} (h : 64 ≤ b) : ls_b x b = false := by
  simp only [ls_b]
  exact BitVec.getLsbD_of_ge _ _ h
theorem ls_b_ext {x y : Int64} (h : ∀ b, b < 64 → ls_b x b = ls_b y b) : x = y := by
  apply wb_inj
  exact BitVec.eq_of_getLsbD_eq (fun i hi => h i hi)
theorem ls_b_ne {x : Int64} (h : ¬ x = 0) : ∃ b, b < 64 ∧ ls_b x b = true := by
  refine Classical.byContradiction fun q => h (ls_b_ext fun b hb => ?_)
  rw [ls_b_0]
  cases hv : ls_b x b with
  | false => rfl
  | true => exact absurd ⟨b, hb, hv⟩ q
theorem ls_b_ushr (x : Int64) {k : Nat} (hk : k < 64) (b : Nat) : ls_b ((x.toUInt64 >>> ((nI k).toInt64.toUInt64 &&& Int64.toUInt64 63)).toInt64) b = ls_b x (k + b) := by
  obtain ⟨n, hn, rfl⟩ := wb_of x
  rw [wb_shr hn hk, ls_b_lN (Nat.lt_of_le_of_lt (Nat.div_le_self _ _) hn), ls_b_lN hn, Nat.testBit_div_two_pow, Nat.add_comm]
theorem lN_and (a b : Nat) : lN a &&& lN b = lN (a &&& b) := by
  apply wb_inj
  rw [Int64.toBitVec_and, wb_tb, wb_tb, wb_tb]
  apply BitVec.eq_of_getLsbD_eq
  intro i hi
  simp [hi]
theorem ls_cmp0 (x : Int64) : lg_cmp x 0 = 0 ↔ x = 0 := by
  unfold lg_cmp
  constructor
  · intro h
    by_cases h1 : x > 0
    · rw [if_pos h1] at h; exact absurd h (by decide)
    · by_cases h2 : x = 0
      · exact h2
      · rw [if_neg h1, if_neg h2] at h; exact absurd h (by decide)
  · intro h
    subst h
    simp
/-- Long.bitCount's sum -/
theorem bc_java (n : Nat) (hn : n < 2 ^ 64) : ∃ x1 x2 x3 x4 x5 x6 : Nat, lN n - (lN (n / 2) &&& 6148914691236517205) = lN x1 ∧ x1 < 2 ^ 64 ∧ (lN x1 &&& 3689348814741910323) + (lN (x1 / 4) &&& 3689348814741910323) = lN x2 ∧ x2 < 2 ^ 64 ∧ (lN x2 + lN (x2 / 16)) &&& 1085102592571150095 = lN x3 ∧ x3 < 2 ^ 64 ∧ lN x3 + lN (x3 / 256) = lN x4 ∧ x4 < 2 ^ 64 ∧ lN x4 + lN (x4 / 65536) = lN x5 ∧ x5 < 2 ^ 64 ∧ lN x5 + lN (x5 / 4294967296) = lN x6 ∧ x6 % 128 = ls_cnt (fun i => n.testBit i) 64 := by
  obtain ⟨x1, x2, x3, x4, x5, x6, hle, e1, e2, l2, e3, e4, l4, e5, l5, e6, l3, l1, hc⟩ := bc_main hn
  refine ⟨x1, x2, x3, x4, x5, x6, ?_, l1, ?_, l2, ?_, l3, ?_, l4, ?_, l5, ?_, hc⟩
  · rw [show (6148914691236517205 : Int64) = lN 6148914691236517205 from rfl, lN_and, lN_sub hle, e1]
  · rw [show (3689348814741910323 : Int64) = lN 3689348814741910323 from rfl, lN_and, lN_and, lN_add, e2]
  · rw [show (1085102592571150095 : Int64) = lN 1085102592571150095 from rfl, lN_add, lN_and, e3]
  · rw [lN_add, e4]
  · rw [lN_add, e5]
  · rw [lN_add, e6]
def ls_lit (L r : Nat) : Bool := if L % 2 = 0 then r.testBit (L / 2) else !r.testBit (L / 2)
def ls_on (v w : Nat) : Int64 := if v < 6 then ls_ones v else if w.testBit (v - 6) = true then -1 else 0
def ls_rw (L w : Nat) : Int64 := if L % 2 = 0 then ls_on (L / 2) w else ls_on (L / 2) w ^^^ (-1)
theorem ls_ones_b : ∀ v, v < 6 → ∀ b, b < 64 → ls_b (ls_ones v) b = b.testBit v := by decide +kernel
theorem ls_tb {w b : Nat} (hb : b < 64) (v : Nat) : (64 * w + b).testBit v = if v < 6 then b.testBit v else w.testBit (v - 6) := by
  rw [show (64 : Nat) = 2 ^ 6 from rfl, Nat.testBit_two_pow_mul_add _ (by simpa using hb)]
theorem ls_on_b (v w : Nat) {b : Nat} (hb : b < 64) : ls_b (ls_on v w) b = (64 * w + b).testBit v := by
  rw [ls_tb hb]
  unfold ls_on
  by_cases h : v < 6
  · rw [if_pos h, if_pos h, ls_ones_b v h b hb]
  · rw [if_neg h, if_neg h]
    by_cases h2 : w.testBit (v - 6) = true
    · rw [if_pos h2, h2, ls_b_m1 b hb]
    · rw [if_neg h2, ls_b_0]; simp at h2; exact h2.symm
theorem ls_rw_b (L w : Nat) {b : Nat} (hb : b < 64) : ls_b (ls_rw L w) b = ls_lit L (64 * w + b) := by
  unfold ls_rw ls_lit
  by_cases h : L % 2 = 0
  · rw [if_pos h, if_pos h, ls_on_b _ _ hb]
  · rw [if_neg h, if_neg h, ls_b_not _ hb, ls_on_b _ _ hb]
/-- w >> k & 1, of small numbers -/
theorem ls_shr {n : Nat} (h : n < 2 ^ 31) {k : Nat} (hk : k < 32) : nI n >>> (nI k &&& 31) = nI (n / 2 ^ k) := pk_shrN h _ k (by
  have : ∀ k, k < 32 → ((nI k &&& 31).toBitVec.smod 32).toNat = k := by decide +kernel
  exact this k hk)
theorem ls_shl {n : Nat} {k : Nat} (hk : k < 32) (h : n * 2 ^ k < 2 ^ 32) : nI n <<< (nI k &&& 31) = nI (n * 2 ^ k) := pk_shlN _ k (by
  have : ∀ k, k < 32 → ((nI k &&& 31).toBitVec.smod 32).toNat = k := by decide +kernel
  exact this k hk) h
theorem ls_and1 {n : Nat} (h : n < 2 ^ 32) : nI n &&& 1 = nI (n % 2) := pk_andN h 1 rfl
theorem ls_bit {n k : Nat} : n / 2 ^ k % 2 = if n.testBit k = true then 1 else 0 := by
  rw [Nat.testBit_eq_decide_div_mod_eq]
  by_cases h : n / 2 ^ k % 2 = 1
  · simp [h]
  · simp [h]; omega
section LPM
variable {p : Program} {l : Launch} {e : Env} {R : Room} {s : State} {m : MethodId} {args : Array Value} {below : List Frame} {meth : Method} {c : Code} {cells slots : Nat} {Q : State → Prop} {pc : Nat}
theorem lp_mu {α : Type} (μ : α → Nat) (J : α → Heap → List Loc → Array Slot → Prop) (step : ∀ (a : α) (H : Heap) (locs : List Loc) (ls : Array Slot), J a H locs ls → (∀ (a' : α) (H' : Heap) (locs' : List Loc) (ls' : Array Slot), μ a' < μ a → J a' H' locs' ls' → W p l e R s m args below meth c H' locs' cells slots Q (F0 m pc ls' [])) → W p l e R s m args below meth c H locs cells slots Q (F0 m pc ls [])) (a : α) {H : Heap} {locs : List Loc} {ls : Array Slot} (h : J a H locs ls) : W p l e R s m args below meth c H locs cells slots Q (F0 m pc ls []) := by
  have key : ∀ (n : Nat) (a : α) (H : Heap) (locs : List Loc) (ls : Array Slot), μ a < n → J a H locs ls → W p l e R s m args below meth c H locs cells slots Q (F0 m pc ls []) := by
    intro n
    induction n with
    | zero => intro a H locs ls h; exact absurd h (Nat.not_lt_zero _)
    | succ n ih =>
      intro a H locs ls h hj
      exact step a H locs ls hj (fun a' H' locs' ls' h' hj' => ih a' H' locs' ls' (by omega) hj')
  exact key (μ a + 1) a H locs ls (Nat.lt_succ_self _) h
end LPM
end
section
theorem ax_in0 : vp_in 0 1024 := vp_in_nI (n := 0) (N := 1024) (by decide) (by decide)
theorem ax_lt {g f : Nat → Int64} {i : Nat} {v : Int64} (hg : ∀ k, k < i → g k = f k) (hv : v = f i) : ∀ k, k < i + 1 → vp_updL g i v k = f k := by
  intro k hk
  unfold vp_updL
  by_cases h : k = i
  · rw [if_pos h, hv, h]
  · rw [if_neg h]; exact hg k (by omega)
theorem ax_ge {g f : Nat → Int64} {i : Nat} {v : Int64} (hg : ∀ k, i ≤ k → g k = f k) : ∀ k, i + 1 ≤ k → vp_updL g i v k = f k := by
  intro k hk
  unfold vp_updL
  rw [if_neg (by omega)]; exact hg k (by omega)
theorem ax_b01 {r : Int32} (h : r = 1 ∨ r = 0) : narrow .boolean (.int r) = .int r ∧ fits .boolean (.int r) = true := by
  rcases h with rfl | rfl <;> exact ⟨rfl, rfl⟩
def ls_or (cf : Nat → Nat) (w : Nat) : Nat → Int64
  | 0 => 0
  | j + 1 => ls_or cf w j ||| ls_rw (cf j) w
def ls_sum (f : Nat → Int64) : Nat → Nat
  | 0 => 0
  | k + 1 => ls_sum f k + ls_cnt (ls_b (f k)) 64
theorem ls_sum_le (f : Nat → Int64) (k : Nat) : ls_sum f k ≤ 64 * k := by
  induction k with
  | zero => exact Nat.le_refl _
  | succ k ih =>
    have := ls_cnt_le (ls_b (f k)) 64
    show ls_sum f k + ls_cnt (ls_b (f k)) 64 ≤ 64 * (k + 1)
    omega
def ax_KW (f : Nat → Int64) (L U i : Nat) (g : Nat → Int64) (left : Int64) : Prop := i ≤ U ∧ (∀ k, k < i → g k = f k &&& ls_rw L k) ∧ (∀ k, i ≤ k → g k = f k) ∧ ((∀ k, k < i → g k = 0) → left = 0) ∧ (left = 0 → ∀ k, k < i → g k = 0)
theorem ax_kw0 {f : Nat → Int64} {L U : Nat} : ax_KW f L U 0 f 0 := ⟨Nat.zero_le _, fun k hk => absurd hk (Nat.not_lt_zero _), fun _ _ => rfl, fun _ => rfl, fun _ k hk => absurd hk (Nat.not_lt_zero _)⟩
theorem ax_or0 {x y : Int64} : x ||| y = 0 ↔ x = 0 ∧ y = 0 := by
  constructor
  · intro h
    have hb : ∀ b, ls_b x b = false ∧ ls_b y b = false := fun b => by
      have := congrArg (fun z => ls_b z b) h
      simp only [ls_b_or, ls_b_0, Bool.or_eq_false_iff] at this
      exact this
    exact ⟨ls_b_ext fun b _ => by rw [ls_b_0]; exact (hb b).1, ls_b_ext fun b _ => by rw [ls_b_0]; exact (hb b).2⟩
  · rintro ⟨rfl, rfl⟩
    rfl
theorem ax_kw {f : Nat → Int64} {L U i : Nat} {g : Nat → Int64} {left : Int64} (c1 : i < U) (hg : ∀ k, k < i → g k = f k &&& ls_rw L k) (hge : ∀ k, i ≤ k → g k = f k) (h1 : (∀ k, k < i → g k = 0) → left = 0) (h2 : left = 0 → ∀ k, k < i → g k = 0) : ax_KW f L U (i + 1) (vp_updL g i (f i &&& ls_rw L i)) (left ||| (f i &&& ls_rw L i)) := by
  have hu : ∀ k, k < i → vp_updL g i (f i &&& ls_rw L i) k = g k := fun k hk => by unfold vp_updL; rw [if_neg (by omega)]
  have hi : vp_updL g i (f i &&& ls_rw L i) i = f i &&& ls_rw L i := by unfold vp_updL; rw [if_pos rfl]
  refine ⟨c1, ax_lt (f := fun k => f k &&& ls_rw L k) hg rfl, ax_ge hge, fun h => ?_, fun h k hk => ?_⟩
  · exact ax_or0.mpr ⟨h1 (fun k hk => by rw [← hu k hk]; exact h k (by omega)), by rw [← hi]; exact h i (by omega)⟩
  · obtain ⟨e1, e2⟩ := ax_or0.mp h
    rcases Nat.lt_or_ge k i with q | q
    · rw [hu k q]; exact h2 e1 k q
    · rw [show k = i by omega, hi]; exact e2
theorem ax_m7 (n : Nat) : nI n &&& 127 = nI (n % 128) := by
  have h : nI n = nI (n % 2 ^ 32) := Int32.toBitVec_inj.mp (by show BitVec.ofNat 32 n = BitVec.ofNat 32 _; apply BitVec.eq_of_toNat_eq; simp)
  rw [h, pk_andN (Nat.mod_lt _ (by decide)) 7 rfl]
  congr 1
  omega
end
section
/-! dropping a variable above the words -/
def dp_kp (e i : Nat) : Nat := i / 2 ^ (e + 1) * 2 ^ e + min (i % 2 ^ (e + 1)) (2 ^ e)
def dp_in (e k : Nat) : Nat := k / 2 ^ e * 2 ^ (e + 1) + k % 2 ^ e
theorem dp_e {e : Nat} (h : e < 10) : e = 0 ∨ e = 1 ∨ e = 2 ∨ e = 3 ∨ e = 4 ∨ e = 5 ∨ e = 6 ∨ e = 7 ∨ e = 8 ∨ e = 9 := by omega
theorem dp_0 (e : Nat) : dp_kp e 0 = 0 := by simp [dp_kp]
theorem dp_z {e i : Nat} (he : e < 10) (h : i / 2 ^ e % 2 = 0) : dp_kp e (i + 1) = dp_kp e i + 1 ∧ dp_in e (dp_kp e i) = i := by
  rcases dp_e he with rfl | rfl | rfl | rfl | rfl | rfl | rfl | rfl | rfl | rfl <;> simp only [dp_kp, dp_in, Nat.reducePow, Nat.reduceAdd] at h ⊢ <;> omega
theorem dp_o {e i : Nat} (he : e < 10) (h : i / 2 ^ e % 2 = 1) : dp_kp e (i + 1) = dp_kp e i := by
  rcases dp_e he with rfl | rfl | rfl | rfl | rfl | rfl | rfl | rfl | rfl | rfl <;> simp only [dp_kp, Nat.reducePow, Nat.reduceAdd] at h ⊢ <;> omega
theorem dp_le {e i : Nat} (he : e < 10) : dp_kp e i ≤ i := by
  rcases dp_e he with rfl | rfl | rfl | rfl | rfl | rfl | rfl | rfl | rfl | rfl <;> simp only [dp_kp, Nat.reducePow, Nat.reduceAdd] <;> omega
theorem dp_u {n : Nat} (h : n < 11) : n = 0 ∨ n = 1 ∨ n = 2 ∨ n = 3 ∨ n = 4 ∨ n = 5 ∨ n = 6 ∨ n = 7 ∨ n = 8 ∨ n = 9 ∨ n = 10 := by omega
theorem dp_end {e n i : Nat} (hn : n < 11) (h : 2 ^ e < 2 ^ n) (h1 : 2 ^ n ≤ i + 2 ^ e) (h2 : i + 2 ^ e ≤ 2 ^ n) : dp_kp e i = 2 ^ n / 2 ∧ e < n := by
  have hen : e < n := (Nat.pow_lt_pow_iff_right (by decide)).mp h
  refine ⟨?_, hen⟩
  have he : e < 10 := by omega
  rcases dp_u hn with rfl | rfl | rfl | rfl | rfl | rfl | rfl | rfl | rfl | rfl | rfl <;> rcases dp_e he with rfl | rfl | rfl | rfl | rfl | rfl | rfl | rfl | rfl | rfl <;> simp only [dp_kp, Nat.reducePow, Nat.reduceAdd] at h h1 h2 ⊢ <;> omega
theorem dp_and {i e : Nat} : i &&& 2 ^ e = i / 2 ^ e % 2 * 2 ^ e := by
  rw [ls_bit]
  apply Nat.eq_of_testBit_eq
  intro j
  rw [Nat.testBit_and, Nat.testBit_two_pow]
  by_cases hj : e = j
  · subst hj
    cases h : i.testBit e <;> simp
  · split <;> simp [hj, Nat.testBit_two_pow]
theorem nx_and (a b : Nat) : nI a &&& nI b = nI (a &&& b) := by
  apply Int32.toBitVec_inj.mp
  rw [Int32.toBitVec_and]
  show BitVec.ofNat 32 a &&& BitVec.ofNat 32 b = BitVec.ofNat 32 (a &&& b)
  apply BitVec.eq_of_getLsbD_eq
  intro i hi
  simp [hi]
theorem nx_or (a b : Nat) : nI a ||| nI b = nI (a ||| b) := by
  apply Int32.toBitVec_inj.mp
  rw [Int32.toBitVec_or]
  show BitVec.ofNat 32 a ||| BitVec.ofNat 32 b = BitVec.ofNat 32 (a ||| b)
  apply BitVec.eq_of_getLsbD_eq
  intro i hi
  simp [hi]
def ls_ush (x : Int64) (k : Nat) : Int64 := (x.toUInt64 >>> ((nI k).toInt64.toUInt64 &&& Int64.toUInt64 63)).toInt64
/-- what the loop of dropOuter keeps -/
def dp_I (f : Nat → Int64) (U e i : Nat) (g : Nat → Int64) : Prop := i + 2 ^ e ≤ U ∧ (∀ k, k < dp_kp e i → g k = f (dp_in e k) ||| f (dp_in e k + 2 ^ e)) ∧ ∀ k, dp_kp e i ≤ k → g k = f k
theorem dp_I0 {f : Nat → Int64} {U e : Nat} (h : 2 ^ e < U) : dp_I f U e 0 f := ⟨by omega, fun k hk => absurd hk (by rw [dp_0]; exact Nat.not_lt_zero _), fun _ _ => rfl⟩
theorem dp_Iz {f : Nat → Int64} {U e i : Nat} {g : Nat → Int64} (he : e < 10) (h : dp_I f U e i g) (hU : i + 2 ^ e < U) (hz : i / 2 ^ e % 2 = 0) : dp_I f U e (i + 1) (vp_updL g (dp_kp e i) (f i ||| f (i + 2 ^ e))) := by
  obtain ⟨h1, h2, h3⟩ := h
  obtain ⟨e1, e2⟩ := dp_z he hz
  refine ⟨by omega, ?_, ?_⟩
  · rw [e1]
    exact ax_lt (f := fun k => f (dp_in e k) ||| f (dp_in e k + 2 ^ e)) h2 (by rw [e2])
  · rw [e1]
    exact ax_ge h3
theorem dp_Io {f : Nat → Int64} {U e i : Nat} {g : Nat → Int64} (he : e < 10) (h : dp_I f U e i g) (hU : i + 2 ^ e < U) (hz : i / 2 ^ e % 2 = 1) : dp_I f U e (i + 1) g := by
  obtain ⟨h1, h2, h3⟩ := h
  unfold dp_I
  rw [dp_o he hz]
  exact ⟨by omega, h2, h3⟩
end
section
set_option maxHeartbeats 4000000 in
set_option maxRecDepth 100000 in
/-- rowsWith(l, w): the mask of the literal in word w -/
theorem k_R_rowsWith (l : Launch) (dC : Nat → ClassId) (dI : Nat → Nat → Nat) (tI sz : Nat) (L q : Nat) (hL : L < 32) (hq : q < 1024) : Met l yR_rowsWith (Cond.code yR_rowsWith cR_rowsWith 5 (some .long) :: GG) (lvr 0 0 0) (va_Pc [.int (nI L), .int (nI q)] (wPre dC dI [] [] sz tI)) (va_Ql (fun (r : Int64) (u : Unit) => r = ls_rw L q) (fun u t => wB dC dI [] (va_A [] sz) [] t) (va_A [] sz)) 0 0 (va_A [] sz) := by
  refine Met.ofW (cc := cR_rowsWith) (maxL := 5) (ret := (some .long)) (by decide) rfl ?_
  intro p e s m args below meth c s₁ B hml hv
  obtain ⟨rfl, hsz, hP, hK, hD0, hZ, hX⟩ := hv
  have hx := B.exec
  have hb := B.bytes
  have hr := B.returns
  have hts : ∀ w ∈ GG, w.before ([.int (nI L), .int (nI q)] : List Value).toArray s = true := fun w h => atoms_spec (ws := _ :: GG) B.pre w (List.mem_cons_of_mem _ h)
  have hown : s.vm.findClass RR = some m.cls := findClass_of_methodNamed B.named
  have hlocks := B.notSynchronized
  subst hsz
  have hD := hD0.self (sz := s.heap.size)
  generalize hAe : va_A [] s.heap.size = A at hD hZ ⊢
  have hA : ∀ q : Nat, s.heap.size ≤ q → A q := fun q h => by rw [← hAe]; exact Or.inr h
  have hS : va_S A s.heap s.heap [] := va_S.rf
  have hl := lv_entry ([.int (nI L), .int (nI q)]) (n := 5) (Nat.le_of_ble_eq_true rfl)
  rw [lg_entry_eq]
  generalize (lg_sl ([.int (nI L), .int (nI q)]) ++ List.replicate (5 - (lg_sl ([.int (nI L), .int (nI q)])).length) Slot.unset).toArray = ls at hl ⊢
  have hl : lv_has ls 5 [(0, .int (nI L)), (1, .int (nI q))] := hl
  have SF : CallFix p m c cR_rowsWith 5 s ([.int (nI L), .int (nI q)] : List Value).toArray GG RR := ⟨hx, hb, hml, hown, hts⟩
  skip
  have hP : va_P (dC, dI) vwCl [] s.heap := hP
  refine lv_iload_n hx hb dR_rowsWith_0 rfl (lv_at hl 0 rfl) ?_
  refine lv_iconst (v := 1) hx hb dR_rowsWith_1 (by decide) ?_
  refine lv_ishr hx hb dR_rowsWith_2 ?_
  refine ls_topi (y := nI (L / 2)) (by have := ls_shr (n := L) (by omega) (k := 1) (by decide); exact this) ?_
  refine lv_istore_n (lv' := [(2, .int (nI (L / 2))), (0, .int (nI L)), (1, .int (nI q))]) hx hb dR_rowsWith_3 rfl hl (by decide) rfl (fun ls hl => ?_)
  refine lv_iload_n hx hb dR_rowsWith_4 rfl (lv_at hl 0 rfl) ?_
  refine lv_if_lt (tgt := 25) hx hb dR_rowsWith_5 (by decide) (fun c1 => ?_) (fun c1 => ?_)
  · have c1 : (L / 2) < 0 := (nI_ltI (a := (L / 2)) (b := 0) (by omega) (by omega)).mp c1
    exact absurd c1 (Nat.not_lt_zero _)
  · have c1 : 0 ≤ (L / 2) := Nat.le_of_not_lt (fun q => c1 ((nI_ltI (a := (L / 2)) (b := 0) (by omega) (by omega)).mpr q))
    refine lv_iload_n hx hb dR_rowsWith_8 rfl (lv_at hl 0 rfl) ?_
    refine va_gets hx hb hZ.1 hS hown (hts _ fl_R_21) (fun _ h9 => h9) dR_rowsWith_9 ?_
    refine va_tlen (v := 6) hx hb hZ.2.1 hS rfl dR_rowsWith_12 ?_
    refine lv_icmp_ge (tgt := 25) hx hb dR_rowsWith_13 (by decide) (fun c2 => ?_) (fun c2 => ?_)
    · have c2 : 6 ≤ (L / 2) := (nI_leI (a := 6) (b := (L / 2)) (by omega) (by omega)).mp c2
      refine lv_iload_n hx hb dR_rowsWith_25 rfl (lv_at hl 2 rfl) ?_
      refine lv_iload_n hx hb dR_rowsWith_26 rfl (lv_at hl 0 rfl) ?_
      refine lv_bipush (v := 6) hx hb dR_rowsWith_27 (by decide) ?_
      refine lv_isub hx hb dR_rowsWith_29 ?_
      refine ls_topi (y := nI (L / 2 - 6)) (pk_sub c2) ?_
      refine lv_ishr hx hb dR_rowsWith_30 ?_
      refine ls_topi (y := nI (q / 2 ^ (L / 2 - 6))) (ls_shr (by omega) (by omega)) ?_
      refine lv_iconst (v := 1) hx hb dR_rowsWith_31 (by decide) ?_
      refine lv_iand hx hb dR_rowsWith_32 ?_
      refine ls_topi (y := nI (if q.testBit (L / 2 - 6) = true then 1 else 0)) (by rw [← ls_bit]; exact ls_and1 (Nat.lt_of_le_of_lt (Nat.div_le_self _ _) (by omega))) ?_
      refine lv_if_eq (tgt := 42) hx hb dR_rowsWith_33 (by decide) (fun c3 => ?_) (fun c3 => ?_)
      · have hon : ls_on (L / 2) q = 0 := by
          unfold ls_on; rw [if_neg (by omega)]
          split
          · rename_i e; rw [if_pos e] at c3; exact absurd c3 (by decide)
          · rfl
        refine lv_lconst (v := 0) hx hb dR_rowsWith_42 (by decide) ?_
        refine ls_topl (y := ls_on (L / 2) q) (hon.symm) ?_
        refine lv_lstore_n (lv' := [(3, .long (ls_on (L / 2) q)), (2, .int (nI (L / 2))), (0, .int (nI L)), (1, .int (nI q))]) hx hb dR_rowsWith_43 rfl hl (by decide) rfl (fun ls hl => ?_)
        refine lv_iload_n hx hb dR_rowsWith_44 rfl (lv_at hl 2 rfl) ?_
        refine lv_iconst (v := 1) hx hb dR_rowsWith_45 (by decide) ?_
        refine lv_iand hx hb dR_rowsWith_46 ?_
        refine ls_topi (y := nI (L % 2)) (ls_and1 (by omega)) ?_
        refine lv_if_ne (tgt := 54) hx hb dR_rowsWith_47 (by decide) (fun c9 => ?_) (fun c9 => ?_)
        · have c9 : (L % 2) ≠ 0 := fun q => c9 ((nI_eq (a := (L % 2)) (b := 0) (by omega) (by omega)).mpr q)
          refine lv_lload_n hx hb dR_rowsWith_54 rfl (lv_at hl 0 rfl) ?_
          refine lv_ldc2 (v := (-1)) hx hb hown (hts _ cj_R_19) dR_rowsWith_55 ?_
          refine lv_lxor hx hb dR_rowsWith_58 ?_
          exact (W.lret (v := (ls_on (L / 2) q) ^^^ (-1)) hx hb hr (fun t ht hW => ⟨⟨(ls_on (L / 2) q) ^^^ (-1), (), rfl, (show _ = ls_rw L q by unfold ls_rw; rw [if_neg c9]), by rw [ht]; exact hP, va_K.moved hW.alike hK, hD⟩, hS.F ht⟩) hS.2.2 dR_rowsWith_59)
        · have c9 : (L % 2) = 0 := (nI_eq (a := (L % 2)) (b := 0) (by omega) (by omega)).mp c9
          refine lv_lload_n hx hb dR_rowsWith_50 rfl (lv_at hl 0 rfl) ?_
          refine lv_goto (tgt := 59) hx hb dR_rowsWith_51 (by decide) ?_
          exact (W.lret (v := ls_on (L / 2) q) hx hb hr (fun t ht hW => ⟨⟨ls_on (L / 2) q, (), rfl, (show _ = ls_rw L q by unfold ls_rw; rw [if_pos c9]), by rw [ht]; exact hP, va_K.moved hW.alike hK, hD⟩, hS.F ht⟩) hS.2.2 dR_rowsWith_59)
      · have hon : ls_on (L / 2) q = -1 := by
          unfold ls_on; rw [if_neg (by omega)]
          split
          · rfl
          · rename_i e; rw [if_neg e] at c3; exact absurd rfl c3
        refine lv_ldc2 (v := (-1)) hx hb hown (hts _ cj_R_19) dR_rowsWith_36 ?_
        refine lv_goto (tgt := 43) hx hb dR_rowsWith_39 (by decide) ?_
        refine ls_topl (y := ls_on (L / 2) q) (hon.symm) ?_
        refine lv_lstore_n (lv' := [(3, .long (ls_on (L / 2) q)), (2, .int (nI (L / 2))), (0, .int (nI L)), (1, .int (nI q))]) hx hb dR_rowsWith_43 rfl hl (by decide) rfl (fun ls hl => ?_)
        refine lv_iload_n hx hb dR_rowsWith_44 rfl (lv_at hl 2 rfl) ?_
        refine lv_iconst (v := 1) hx hb dR_rowsWith_45 (by decide) ?_
        refine lv_iand hx hb dR_rowsWith_46 ?_
        refine ls_topi (y := nI (L % 2)) (ls_and1 (by omega)) ?_
        refine lv_if_ne (tgt := 54) hx hb dR_rowsWith_47 (by decide) (fun c9 => ?_) (fun c9 => ?_)
        · have c9 : (L % 2) ≠ 0 := fun q => c9 ((nI_eq (a := (L % 2)) (b := 0) (by omega) (by omega)).mpr q)
          refine lv_lload_n hx hb dR_rowsWith_54 rfl (lv_at hl 0 rfl) ?_
          refine lv_ldc2 (v := (-1)) hx hb hown (hts _ cj_R_19) dR_rowsWith_55 ?_
          refine lv_lxor hx hb dR_rowsWith_58 ?_
          exact (W.lret (v := (ls_on (L / 2) q) ^^^ (-1)) hx hb hr (fun t ht hW => ⟨⟨(ls_on (L / 2) q) ^^^ (-1), (), rfl, (show _ = ls_rw L q by unfold ls_rw; rw [if_neg c9]), by rw [ht]; exact hP, va_K.moved hW.alike hK, hD⟩, hS.F ht⟩) hS.2.2 dR_rowsWith_59)
        · have c9 : (L % 2) = 0 := (nI_eq (a := (L % 2)) (b := 0) (by omega) (by omega)).mp c9
          refine lv_lload_n hx hb dR_rowsWith_50 rfl (lv_at hl 0 rfl) ?_
          refine lv_goto (tgt := 59) hx hb dR_rowsWith_51 (by decide) ?_
          exact (W.lret (v := ls_on (L / 2) q) hx hb hr (fun t ht hW => ⟨⟨ls_on (L / 2) q, (), rfl, (show _ = ls_rw L q by unfold ls_rw; rw [if_pos c9]), by rw [ht]; exact hP, va_K.moved hW.alike hK, hD⟩, hS.F ht⟩) hS.2.2 dR_rowsWith_59)
    · have c2 : (L / 2) < 6 := Nat.lt_of_not_le (fun q => c2 ((nI_leI (a := 6) (b := (L / 2)) (by omega) (by omega)).mpr q))
      have hon : ls_on (L / 2) q = ls_ones (L / 2) := by unfold ls_on; rw [if_pos c2]
      refine va_gets hx hb hZ.1 hS hown (hts _ fl_R_21) (fun _ h9 => h9) dR_rowsWith_16 ?_
      refine lv_iload_n hx hb dR_rowsWith_19 rfl (lv_at hl 0 rfl) ?_
      refine va_tl (v := .long (ls_on (L / 2) q)) hx hb hZ.2.1 hS (vp_in_nI c2 (by decide)) (by rw [nI_clamp (by omega), hon]) dR_rowsWith_20 ?_
      refine lv_lstore_n (lv' := [(3, .long (ls_on (L / 2) q)), (2, .int (nI (L / 2))), (0, .int (nI L)), (1, .int (nI q))]) hx hb dR_rowsWith_21 rfl hl (by decide) rfl (fun ls hl => ?_)
      refine lv_goto (tgt := 44) hx hb dR_rowsWith_22 (by decide) ?_
      refine lv_iload_n hx hb dR_rowsWith_44 rfl (lv_at hl 2 rfl) ?_
      refine lv_iconst (v := 1) hx hb dR_rowsWith_45 (by decide) ?_
      refine lv_iand hx hb dR_rowsWith_46 ?_
      refine ls_topi (y := nI (L % 2)) (ls_and1 (by omega)) ?_
      refine lv_if_ne (tgt := 54) hx hb dR_rowsWith_47 (by decide) (fun c9 => ?_) (fun c9 => ?_)
      · have c9 : (L % 2) ≠ 0 := fun q => c9 ((nI_eq (a := (L % 2)) (b := 0) (by omega) (by omega)).mpr q)
        refine lv_lload_n hx hb dR_rowsWith_54 rfl (lv_at hl 0 rfl) ?_
        refine lv_ldc2 (v := (-1)) hx hb hown (hts _ cj_R_19) dR_rowsWith_55 ?_
        refine lv_lxor hx hb dR_rowsWith_58 ?_
        exact (W.lret (v := (ls_on (L / 2) q) ^^^ (-1)) hx hb hr (fun t ht hW => ⟨⟨(ls_on (L / 2) q) ^^^ (-1), (), rfl, (show _ = ls_rw L q by unfold ls_rw; rw [if_neg c9]), by rw [ht]; exact hP, va_K.moved hW.alike hK, hD⟩, hS.F ht⟩) hS.2.2 dR_rowsWith_59)
      · have c9 : (L % 2) = 0 := (nI_eq (a := (L % 2)) (b := 0) (by omega) (by omega)).mp c9
        refine lv_lload_n hx hb dR_rowsWith_50 rfl (lv_at hl 0 rfl) ?_
        refine lv_goto (tgt := 59) hx hb dR_rowsWith_51 (by decide) ?_
        exact (W.lret (v := ls_on (L / 2) q) hx hb hr (fun t ht hW => ⟨⟨ls_on (L / 2) q, (), rfl, (show _ = ls_rw L q by unfold ls_rw; rw [if_pos c9]), by rw [ht]; exact hP, va_K.moved hW.alike hK, hD⟩, hS.F ht⟩) hS.2.2 dR_rowsWith_59)
set_option maxHeartbeats 4000000 in
set_option maxRecDepth 100000 in
/-- holdAll(): one word, all rows -/
theorem k_R_holdAll (l : Launch) (dC : Nat → ClassId) (dI : Nat → Nat → Nat) (tI sz : Nat) (h w : Nat) (cL : ClassId) (f : Nat → Int64) (x : Int32) : Met l yR_holdAll (Cond.code yR_holdAll cR_holdAll 1 none :: GG) (lvr 0 0 0) (va_Pc [.ref h] (wPre dC dI [(cL, .long)] [(h, .inr (0, [.ref w, .int x])), (w, .inl (cL, 1024, .inr (.inl f)))] sz tI)) (va_Qv (fun (u : Unit) => True) (fun u t => wB dC dI [(cL, .long)] (va_A [(h, .inr (0, [.ref w, .int x])), (w, .inl (cL, 1024, .inr (.inl f)))] sz) [(h, .inr (0, [.ref w, .int 1])), (w, .inl (cL, 1024, .inr (.inl (vp_updL f 0 (-1)))))] t) (va_A [(h, .inr (0, [.ref w, .int x])), (w, .inl (cL, 1024, .inr (.inl f)))] sz)) 0 0 (va_A [(h, .inr (0, [.ref w, .int x])), (w, .inl (cL, 1024, .inr (.inl f)))] sz) := by
  refine Met.ofW (cc := cR_holdAll) (maxL := 1) (ret := none) (by decide) rfl ?_
  intro p e s m args below meth c s₁ B hml hv
  obtain ⟨rfl, hsz, hP, hK, hD0, hZ, hX⟩ := hv
  have hx := B.exec
  have hb := B.bytes
  have hr := B.returns
  have hts : ∀ w ∈ GG, w.before ([.ref h] : List Value).toArray s = true := fun w h => atoms_spec (ws := _ :: GG) B.pre w (List.mem_cons_of_mem _ h)
  have hown : s.vm.findClass RR = some m.cls := findClass_of_methodNamed B.named
  have hlocks := B.notSynchronized
  subst hsz
  have hD := hD0.self (sz := s.heap.size)
  generalize hAe : va_A [(h, .inr (0, [.ref w, .int x])), (w, .inl (cL, 1024, .inr (.inl f)))] s.heap.size = A at hD hZ ⊢
  have hA : ∀ q : Nat, s.heap.size ≤ q → A q := fun q h => by rw [← hAe]; exact Or.inr h
  have hS : va_S A s.heap s.heap [] := va_S.rf
  have hl := lv_entry ([.ref h]) (n := 1) (Nat.le_of_ble_eq_true rfl)
  rw [lg_entry_eq]
  generalize (lg_sl ([.ref h]) ++ List.replicate (1 - (lg_sl ([.ref h])).length) Slot.unset).toArray = ls at hl ⊢
  have hl : lv_has ls 1 [(0, .ref h)] := hl
  have SF : CallFix p m c cR_holdAll 1 s ([.ref h] : List Value).toArray GG RR := ⟨hx, hb, hml, hown, hts⟩
  skip
  have hP : va_P (dC, dI) vwCl [(h, .inr (0, [.ref w, .int x])), (w, .inl (cL, 1024, .inr (.inl f)))] s.heap := hP
  refine lv_aload_n hx hb dR_holdAll_0 rfl (lv_at hl 0 rfl) ?_
  refine va_get (D := (dC, dI)) (ci := 0) (v := .ref w) (C := RR) (T := TR) (N := 2) hx hb hts lyR hown hK hP 0 rfl rfl 0 (by decide) (hts _ fl_R_11) (fun _ h9 => h9) rfl dR_holdAll_1 ?_
  refine lv_iconst (v := 0) hx hb dR_holdAll_4 (by decide) ?_
  refine lv_ldc2 (v := (-1)) hx hb hown (hts _ cj_R_19) dR_holdAll_5 ?_
  refine va_last hx hb hK hP hD hS 1 0 rfl rfl (ax_in0) dR_holdAll_8 (fun H locs hP hD hS => ?_)
  have hP : va_P (dC, dI) vwCl [(h, .inr (0, [.ref w, .int x])), (w, .inl (cL, 1024, .inr (.inl (vp_updL f 0 (-1)))))] H := hP
  have hD : va_D A [(h, .inr (0, [.ref w, .int x])), (w, .inl (cL, 1024, .inr (.inl (vp_updL f 0 (-1)))))] := hD
  refine lv_aload_n hx hb dR_holdAll_9 rfl (lv_at hl 0 rfl) ?_
  refine lv_iconst (v := 1) hx hb dR_holdAll_10 (by decide) ?_
  refine va_put (D := (dC, dI)) (ci := 0) (v := .int 1) (ty := .int) (C := RR) (T := TR) (N := 2) hx hb hts lyR tyR tyR_ok nmR hown hK hP hD hS 0 rfl rfl 1 (by decide) (hts _ fl_R_15) (fun _ h9 => h9) rfl (by decide +kernel) rfl rfl (Nat.le_of_ble_eq_true rfl) dR_holdAll_11 (fun H locs hP hD hS => ?_)
  have hP : va_P (dC, dI) vwCl [(h, .inr (0, [.ref w, .int 1])), (w, .inl (cL, 1024, .inr (.inl (vp_updL f 0 (-1)))))] H := hP
  have hD : va_D A [(h, .inr (0, [.ref w, .int 1])), (w, .inl (cL, 1024, .inr (.inl (vp_updL f 0 (-1)))))] := hD
  exact (W.vret hx hb hr (fun t ht hW => ⟨⟨(), rfl, trivial, by rw [ht]; exact hP, va_K.moved hW.alike hK, hD⟩, hS.F ht⟩) hS.2.2 dR_holdAll_14)
set_option maxHeartbeats 4000000 in
set_option maxRecDepth 100000 in
/-- copyFrom(other): the words of other -/
theorem k_R_copyFrom (l : Launch) (dC : Nat → ClassId) (dI : Nat → Nat → Nat) (tI sz : Nat) (h w h2 w2 : Nat) (cL cM : ClassId) (f0 f : Nat → Int64) (x : Int32) (U : Nat) (hU : U ≤ 1024) : Met l yR_copyFrom (Cond.code yR_copyFrom cR_copyFrom 3 none :: GG) (lvr 0 0 0) (va_Pc [.ref h, .ref h2] (wPre dC dI [(cL, .long), (cM, .long)] [(h, .inr (0, [.ref w, .int x])), (w, .inl (cL, 1024, .inr (.inl f0))), (h2, .inr (0, [.ref w2, .int (nI U)])), (w2, .inl (cM, 1024, .inr (.inl f)))] sz tI)) (va_Qv (fun (u : Nat → Int64) => ∀ k, k < U → u k = f k) (fun u t => wB dC dI [(cL, .long), (cM, .long)] (va_A [(h, .inr (0, [.ref w, .int x])), (w, .inl (cL, 1024, .inr (.inl f0))), (h2, .inr (0, [.ref w2, .int (nI U)])), (w2, .inl (cM, 1024, .inr (.inl f)))] sz) [(h, .inr (0, [.ref w, .int (nI U)])), (w, .inl (cL, 1024, .inr (.inl u))), (h2, .inr (0, [.ref w2, .int (nI U)])), (w2, .inl (cM, 1024, .inr (.inl f)))] t) (va_A [(h, .inr (0, [.ref w, .int x])), (w, .inl (cL, 1024, .inr (.inl f0))), (h2, .inr (0, [.ref w2, .int (nI U)])), (w2, .inl (cM, 1024, .inr (.inl f)))] sz)) 0 0 (va_A [(h, .inr (0, [.ref w, .int x])), (w, .inl (cL, 1024, .inr (.inl f0))), (h2, .inr (0, [.ref w2, .int (nI U)])), (w2, .inl (cM, 1024, .inr (.inl f)))] sz) := by
  refine Met.ofW (cc := cR_copyFrom) (maxL := 3) (ret := none) (by decide) rfl ?_
  intro p e s m args below meth c s₁ B hml hv
  obtain ⟨rfl, hsz, hP, hK, hD0, hZ, hX⟩ := hv
  have hx := B.exec
  have hb := B.bytes
  have hr := B.returns
  have hts : ∀ w ∈ GG, w.before ([.ref h, .ref h2] : List Value).toArray s = true := fun w h => atoms_spec (ws := _ :: GG) B.pre w (List.mem_cons_of_mem _ h)
  have hown : s.vm.findClass RR = some m.cls := findClass_of_methodNamed B.named
  have hlocks := B.notSynchronized
  subst hsz
  have hD := hD0.self (sz := s.heap.size)
  generalize hAe : va_A [(h, .inr (0, [.ref w, .int x])), (w, .inl (cL, 1024, .inr (.inl f0))), (h2, .inr (0, [.ref w2, .int (nI U)])), (w2, .inl (cM, 1024, .inr (.inl f)))] s.heap.size = A at hD hZ ⊢
  have hA : ∀ q : Nat, s.heap.size ≤ q → A q := fun q h => by rw [← hAe]; exact Or.inr h
  have hS : va_S A s.heap s.heap [] := va_S.rf
  have hl := lv_entry ([.ref h, .ref h2]) (n := 3) (Nat.le_of_ble_eq_true rfl)
  rw [lg_entry_eq]
  generalize (lg_sl ([.ref h, .ref h2]) ++ List.replicate (3 - (lg_sl ([.ref h, .ref h2])).length) Slot.unset).toArray = ls at hl ⊢
  have hl : lv_has ls 3 [(0, .ref h), (1, .ref h2)] := hl
  have SF : CallFix p m c cR_copyFrom 3 s ([.ref h, .ref h2] : List Value).toArray GG RR := ⟨hx, hb, hml, hown, hts⟩
  skip
  have hP : va_P (dC, dI) vwCl [(h, .inr (0, [.ref w, .int x])), (w, .inl (cL, 1024, .inr (.inl f0))), (h2, .inr (0, [.ref w2, .int (nI U)])), (w2, .inl (cM, 1024, .inr (.inl f)))] s.heap := hP
  refine lv_aload_n hx hb dR_copyFrom_0 rfl (lv_at hl 1 rfl) ?_
  refine lv_ifnonnull (tgt := 5) hx hb dR_copyFrom_1 (by decide) ?_
  refine lv_iconst (v := 0) hx hb dR_copyFrom_5 (by decide) ?_
  refine lv_istore_n (lv' := [(2, .int 0), (0, .ref h), (1, .ref h2)]) hx hb dR_copyFrom_6 rfl hl (by decide) rfl (fun ls hl => ?_)
  refine lp_mu (α := Nat × (Nat → Int64)) (fun a_ => match a_ with | (i, g) => U - i) (fun a_ H locs ls => match a_ with | (i, g) => (i ≤ U ∧ ∀ k, k < i → g k = f k) ∧ va_P (dC, dI) vwCl [(h, .inr (0, [.ref w, .int x])), (w, .inl (cL, 1024, .inr (.inl g))), (h2, .inr (0, [.ref w2, .int (nI U)])), (w2, .inl (cM, 1024, .inr (.inl f)))] H ∧ va_D A [(h, .inr (0, [.ref w, .int x])), (w, .inl (cL, 1024, .inr (.inl g))), (h2, .inr (0, [.ref w2, .int (nI U)])), (w2, .inl (cM, 1024, .inr (.inl f)))] ∧ va_S A s.heap H locs ∧ lv_has ls 3 [(0, .ref h), (1, .ref h2), (2, .int (nI i))]) ?_ (0, f0) ⟨⟨Nat.zero_le _, fun k hk => absurd hk (Nat.not_lt_zero _)⟩, hP, hD, hS, lv_sub hl [1, 2, 0] rfl⟩
  intro a_ H locs ls hI ih
  obtain ⟨i, g⟩ := a_
  obtain ⟨hI, hP, hD, hS, hl⟩ := hI
  have hI : i ≤ U ∧ ∀ k, k < i → g k = f k := hI
  have hP : va_P (dC, dI) vwCl [(h, .inr (0, [.ref w, .int x])), (w, .inl (cL, 1024, .inr (.inl g))), (h2, .inr (0, [.ref w2, .int (nI U)])), (w2, .inl (cM, 1024, .inr (.inl f)))] H := hP
  have hD : va_D A [(h, .inr (0, [.ref w, .int x])), (w, .inl (cL, 1024, .inr (.inl g))), (h2, .inr (0, [.ref w2, .int (nI U)])), (w2, .inl (cM, 1024, .inr (.inl f)))] := hD
  have hl : lv_has ls 3 [(0, .ref h), (1, .ref h2), (2, .int (nI i))] := hl
  obtain ⟨hi, hg⟩ := hI
  refine lv_iload_n hx hb dR_copyFrom_7 rfl (lv_at hl 2 rfl) ?_
  refine lv_aload_n hx hb dR_copyFrom_8 rfl (lv_at hl 1 rfl) ?_
  refine va_get (D := (dC, dI)) (ci := 0) (v := .int (nI U)) (C := RR) (T := TR) (N := 2) hx hb hts lyR hown hK hP 2 rfl rfl 1 (by decide) (hts _ fl_R_15) (fun _ h9 => h9) rfl dR_copyFrom_9 ?_
  refine lv_icmp_ge (tgt := 42) hx hb dR_copyFrom_12 (by decide) (fun c1 => ?_) (fun c1 => ?_)
  · have c1 : U ≤ i := (nI_leI (a := U) (b := i) (by omega) (by omega)).mp c1
    refine lv_aload_n hx hb dR_copyFrom_42 rfl (lv_at hl 0 rfl) ?_
    refine lv_aload_n hx hb dR_copyFrom_43 rfl (lv_at hl 1 rfl) ?_
    refine va_get (D := (dC, dI)) (ci := 0) (v := .int (nI U)) (C := RR) (T := TR) (N := 2) hx hb hts lyR hown hK hP 2 rfl rfl 1 (by decide) (hts _ fl_R_15) (fun _ h9 => h9) rfl dR_copyFrom_44 ?_
    refine va_put (D := (dC, dI)) (ci := 0) (v := .int (nI U)) (ty := .int) (C := RR) (T := TR) (N := 2) hx hb hts lyR tyR tyR_ok nmR hown hK hP hD hS 0 rfl rfl 1 (by decide) (hts _ fl_R_15) (fun _ h9 => h9) rfl (by decide +kernel) rfl rfl (Nat.le_of_ble_eq_true rfl) dR_copyFrom_47 (fun H locs hP hD hS => ?_)
    have hP : va_P (dC, dI) vwCl [(h, .inr (0, [.ref w, .int (nI U)])), (w, .inl (cL, 1024, .inr (.inl g))), (h2, .inr (0, [.ref w2, .int (nI U)])), (w2, .inl (cM, 1024, .inr (.inl f)))] H := hP
    have hD : va_D A [(h, .inr (0, [.ref w, .int (nI U)])), (w, .inl (cL, 1024, .inr (.inl g))), (h2, .inr (0, [.ref w2, .int (nI U)])), (w2, .inl (cM, 1024, .inr (.inl f)))] := hD
    exact (W.vret hx hb hr (fun t ht hW => ⟨⟨g, rfl, fun k hk => hg k (by omega), by rw [ht]; exact hP, va_K.moved hW.alike hK, hD⟩, hS.F ht⟩) hS.2.2 dR_copyFrom_50)
  · have c1 : i < U := Nat.lt_of_not_le (fun q => c1 ((nI_leI (a := U) (b := i) (by omega) (by omega)).mpr q))
    refine lv_iload_n hx hb dR_copyFrom_15 rfl (lv_at hl 2 rfl) ?_
    refine lv_aload_n hx hb dR_copyFrom_16 rfl (lv_at hl 0 rfl) ?_
    refine va_get (D := (dC, dI)) (ci := 0) (v := .ref w) (C := RR) (T := TR) (N := 2) hx hb hts lyR hown hK hP 0 rfl rfl 0 (by decide) (hts _ fl_R_11) (fun _ h9 => h9) rfl dR_copyFrom_17 ?_
    refine va_alen (v := 1024) hx hb hK hP 1 0 rfl rfl rfl dR_copyFrom_20 ?_
    refine lv_icmp_ge (tgt := 42) hx hb dR_copyFrom_21 (by decide) (fun c2 => ?_) (fun c2 => ?_)
    · have c2 : 1024 ≤ i := (nI_leI (a := 1024) (b := i) (by omega) (by omega)).mp c2
      exact absurd c2 (by omega)
    · have c2 : i < 1024 := Nat.lt_of_not_le (fun q => c2 ((nI_leI (a := 1024) (b := i) (by omega) (by omega)).mpr q))
      refine lv_aload_n hx hb dR_copyFrom_24 rfl (lv_at hl 0 rfl) ?_
      refine va_get (D := (dC, dI)) (ci := 0) (v := .ref w) (C := RR) (T := TR) (N := 2) hx hb hts lyR hown hK hP 0 rfl rfl 0 (by decide) (hts _ fl_R_11) (fun _ h9 => h9) rfl dR_copyFrom_25 ?_
      refine lv_iload_n hx hb dR_copyFrom_28 rfl (lv_at hl 2 rfl) ?_
      refine lv_aload_n hx hb dR_copyFrom_29 rfl (lv_at hl 1 rfl) ?_
      refine va_get (D := (dC, dI)) (ci := 0) (v := .ref w2) (C := RR) (T := TR) (N := 2) hx hb hts lyR hown hK hP 2 rfl rfl 0 (by decide) (hts _ fl_R_11) (fun _ h9 => h9) rfl dR_copyFrom_30 ?_
      refine lv_iload_n hx hb dR_copyFrom_33 rfl (lv_at hl 2 rfl) ?_
      refine va_lald hx hb hK hP 3 1 rfl rfl (vp_in_nI (by omega) (by decide)) dR_copyFrom_34 ?_
      refine ls_topl (y := f i) (by rw [nI_clamp (by omega)]) ?_
      refine va_last hx hb hK hP hD hS 1 0 rfl rfl (vp_in_nI (by omega) (by decide)) dR_copyFrom_35 (fun H locs hP hD hS => ?_)
      rw [show vp_updL g (nI i).toNatClampNeg (f i) = vp_updL g i (f i) from by rw [nI_clamp (by omega)]] at hP hD
      have hP : va_P (dC, dI) vwCl [(h, .inr (0, [.ref w, .int x])), (w, .inl (cL, 1024, .inr (.inl (vp_updL g i (f i))))), (h2, .inr (0, [.ref w2, .int (nI U)])), (w2, .inl (cM, 1024, .inr (.inl f)))] H := hP
      have hD : va_D A [(h, .inr (0, [.ref w, .int x])), (w, .inl (cL, 1024, .inr (.inl (vp_updL g i (f i))))), (h2, .inr (0, [.ref w2, .int (nI U)])), (w2, .inl (cM, 1024, .inr (.inl f)))] := hD
      refine lv_iinc (v := nI (i + 1)) (lv' := [(2, .int (nI (i + 1))), (0, .ref h), (1, .ref h2)]) hx hb dR_copyFrom_36 hl (k := 2) rfl (nI_1 _) (by decide) rfl (fun ls hl => ?_)
      refine lv_goto (tgt := 7) hx hb dR_copyFrom_39 (by decide) ?_
      exact ih (i + 1, vp_updL g i (f i)) _ _ _ (by show U - (i + 1) < U - i; omega) ⟨⟨c1, ax_lt hg rfl⟩, hP, hD, hS, lv_sub hl [1, 2, 0] rfl⟩
set_option maxHeartbeats 4000000 in
set_option maxRecDepth 100000 in
/-- anyWith(l) -/
theorem k_R_anyWith (l : Launch) (dC : Nat → ClassId) (dI : Nat → Nat → Nat) (tI sz : Nat) (h w : Nat) (cL : ClassId) (f : Nat → Int64) (U : Nat) (hU : U ≤ 1024) (L : Nat) (hL : L < 32) : Met l yR_anyWith (Cond.code yR_anyWith cR_anyWith 3 (some .boolean) :: GG) (lvr 1 0 0) (va_Pc [.ref h, .int (nI L)] (wPre dC dI [(cL, .long)] [(h, .inr (0, [.ref w, .int (nI U)])), (w, .inl (cL, 1024, .inr (.inl f)))] sz tI)) (va_Qi (fun (r : Int32) (u : Unit) => (r = 1 ∧ ∃ k, k < U ∧ f k &&& ls_rw L k ≠ 0) ∨ (r = 0 ∧ ∀ k, k < U → f k &&& ls_rw L k = 0)) (fun u t => wB dC dI [(cL, .long)] (va_A [(h, .inr (0, [.ref w, .int (nI U)])), (w, .inl (cL, 1024, .inr (.inl f)))] sz) [(h, .inr (0, [.ref w, .int (nI U)])), (w, .inl (cL, 1024, .inr (.inl f)))] t) (va_A [(h, .inr (0, [.ref w, .int (nI U)])), (w, .inl (cL, 1024, .inr (.inl f)))] sz)) 0 0 (va_A [(h, .inr (0, [.ref w, .int (nI U)])), (w, .inl (cL, 1024, .inr (.inl f)))] sz) := by
  refine Met.ofW (cc := cR_anyWith) (maxL := 3) (ret := (some .boolean)) (by decide) rfl ?_
  intro p e s m args below meth c s₁ B hml hv
  obtain ⟨rfl, hsz, hP, hK, hD0, hZ, hX⟩ := hv
  have hx := B.exec
  have hb := B.bytes
  have hr := B.returns
  have hts : ∀ w ∈ GG, w.before ([.ref h, .int (nI L)] : List Value).toArray s = true := fun w h => atoms_spec (ws := _ :: GG) B.pre w (List.mem_cons_of_mem _ h)
  have hown : s.vm.findClass RR = some m.cls := findClass_of_methodNamed B.named
  have hlocks := B.notSynchronized
  subst hsz
  have hD := hD0.self (sz := s.heap.size)
  generalize hAe : va_A [(h, .inr (0, [.ref w, .int (nI U)])), (w, .inl (cL, 1024, .inr (.inl f)))] s.heap.size = A at hD hZ ⊢
  have hA : ∀ q : Nat, s.heap.size ≤ q → A q := fun q h => by rw [← hAe]; exact Or.inr h
  have hS : va_S A s.heap s.heap [] := va_S.rf
  have hl := lv_entry ([.ref h, .int (nI L)]) (n := 3) (Nat.le_of_ble_eq_true rfl)
  rw [lg_entry_eq]
  generalize (lg_sl ([.ref h, .int (nI L)]) ++ List.replicate (3 - (lg_sl ([.ref h, .int (nI L)])).length) Slot.unset).toArray = ls at hl ⊢
  have hl : lv_has ls 3 [(0, .ref h), (1, .int (nI L))] := hl
  have SF : CallFix p m c cR_anyWith 3 s ([.ref h, .int (nI L)] : List Value).toArray GG RR := ⟨hx, hb, hml, hown, hts⟩
  skip
  have hP : va_P (dC, dI) vwCl [(h, .inr (0, [.ref w, .int (nI U)])), (w, .inl (cL, 1024, .inr (.inl f)))] s.heap := hP
  refine lv_iconst (v := 0) hx hb dR_anyWith_0 (by decide) ?_
  refine lv_istore_n (lv' := [(2, .int 0), (0, .ref h), (1, .int (nI L))]) hx hb dR_anyWith_1 rfl hl (by decide) rfl (fun ls hl => ?_)
  refine lp_mu (α := Nat) (fun a_ => match a_ with | i => U - i) (fun a_ H locs ls => match a_ with | i => (i ≤ U ∧ ∀ k, k < i → f k &&& ls_rw L k = 0) ∧ va_P (dC, dI) vwCl [(h, .inr (0, [.ref w, .int (nI U)])), (w, .inl (cL, 1024, .inr (.inl f)))] H ∧ va_D A [(h, .inr (0, [.ref w, .int (nI U)])), (w, .inl (cL, 1024, .inr (.inl f)))] ∧ va_S A s.heap H locs ∧ lv_has ls 3 [(0, .ref h), (1, .int (nI L)), (2, .int (nI i))]) ?_ (0) ⟨⟨Nat.zero_le _, fun k hk => absurd hk (Nat.not_lt_zero _)⟩, hP, hD, hS, lv_sub hl [1, 2, 0] rfl⟩
  intro a_ H locs ls hI ih
  obtain ⟨i, rfl⟩ : ∃ z, z = a_ := ⟨_, rfl⟩
  obtain ⟨hI, hP, hD, hS, hl⟩ := hI
  have hI : i ≤ U ∧ ∀ k, k < i → f k &&& ls_rw L k = 0 := hI
  have hP : va_P (dC, dI) vwCl [(h, .inr (0, [.ref w, .int (nI U)])), (w, .inl (cL, 1024, .inr (.inl f)))] H := hP
  have hD : va_D A [(h, .inr (0, [.ref w, .int (nI U)])), (w, .inl (cL, 1024, .inr (.inl f)))] := hD
  have hl : lv_has ls 3 [(0, .ref h), (1, .int (nI L)), (2, .int (nI i))] := hl
  obtain ⟨hi, hg⟩ := hI
  refine lv_iload_n hx hb dR_anyWith_2 rfl (lv_at hl 2 rfl) ?_
  refine lv_aload_n hx hb dR_anyWith_3 rfl (lv_at hl 0 rfl) ?_
  refine va_get (D := (dC, dI)) (ci := 0) (v := .int (nI U)) (C := RR) (T := TR) (N := 2) hx hb hts lyR hown hK hP 0 rfl rfl 1 (by decide) (hts _ fl_R_15) (fun _ h9 => h9) rfl dR_anyWith_4 ?_
  refine lv_icmp_ge (tgt := 35) hx hb dR_anyWith_7 (by decide) (fun c1 => ?_) (fun c1 => ?_)
  · have c1 : U ≤ i := (nI_leI (a := U) (b := i) (by omega) (by omega)).mp c1
    refine lv_iconst (v := 0) hx hb dR_anyWith_35 (by decide) ?_
    exact (W.zret (v := 0) hx hb hr (rfl) (fun t ht hW => ⟨⟨0, (), rfl, Or.inr ⟨rfl, fun k hk => hg k (by omega)⟩, by rw [ht]; exact hP, va_K.moved hW.alike hK, hD⟩, hS.F ht⟩) hS.2.2 dR_anyWith_36)
  · have c1 : i < U := Nat.lt_of_not_le (fun q => c1 ((nI_leI (a := U) (b := i) (by omega) (by omega)).mpr q))
    refine lv_aload_n hx hb dR_anyWith_10 rfl (lv_at hl 0 rfl) ?_
    refine va_get (D := (dC, dI)) (ci := 0) (v := .ref w) (C := RR) (T := TR) (N := 2) hx hb hts lyR hown hK hP 0 rfl rfl 0 (by decide) (hts _ fl_R_11) (fun _ h9 => h9) rfl dR_anyWith_11 ?_
    refine lv_iload_n hx hb dR_anyWith_14 rfl (lv_at hl 2 rfl) ?_
    refine va_lald hx hb hK hP 1 0 rfl rfl (vp_in_nI (by omega) (by decide)) dR_anyWith_15 ?_
    refine ls_topl (y := f i) (by rw [nI_clamp (by omega)]) ?_
    refine lv_iload_n hx hb dR_anyWith_16 rfl (lv_at hl 1 rfl) ?_
    refine lv_iload_n hx hb dR_anyWith_17 rfl (lv_at hl 2 rfl) ?_
    have hFc := va_free (wc := []) hD hS hA [] rfl
    refine wc_l (wc_S (As := [.int (nI L), .int (nI i)]) (rest := [.long (f i)]) (n := 2) SF (k_R_rowsWith l dC dI tI _ L i hL (by omega)) ml_R_32 st_R_rowsWith in_R co_R_rowsWith (by decide +kernel) rfl rfl rfl ⟨Nat.le_of_ble_eq_true rfl, Nat.le_of_ble_eq_true rfl⟩ (hP.sub [] rfl) (hD.sub [] (by decide) rfl) (hK.sub [] rfl) hZ hX hS hFc rfl hl.1 (Nat.le_of_ble_eq_true rfl) dR_anyWith_18 ⟨Nat.le_of_ble_eq_true rfl, Nat.le_of_ble_eq_true rfl⟩) hP hD hS hFc [] [0, 1] (wr := [(h, .inr (0, [.ref w, .int (nI U)])), (w, .inl (cL, 1024, .inr (.inl f)))]) rfl rfl rfl (by decide) (fun z uu H locs hw hP hD hS => ?_)
    have hP : va_P (dC, dI) vwCl [(h, .inr (0, [.ref w, .int (nI U)])), (w, .inl (cL, 1024, .inr (.inl f)))] H := hP.sub [0, 1] rfl
    have hD : va_D A [(h, .inr (0, [.ref w, .int (nI U)])), (w, .inl (cL, 1024, .inr (.inl f)))] := hD.sub [0, 1] (by decide) rfl
    have hw : z = ls_rw L i := hw
    subst hw
    refine lv_land hx hb dR_anyWith_21 ?_
    refine lv_lconst (v := 0) hx hb dR_anyWith_22 (by decide) ?_
    refine W.lcmp hx hb dR_anyWith_23 ?_
    refine lv_if_eq (tgt := 29) hx hb dR_anyWith_24 (by decide) (fun c2 => ?_) (fun c2 => ?_)
    · have c2 := (ls_cmp0 _).mp c2
      refine lv_iinc (v := nI (i + 1)) (lv' := [(2, .int (nI (i + 1))), (0, .ref h), (1, .int (nI L))]) hx hb dR_anyWith_29 hl (k := 2) rfl (nI_1 _) (by decide) rfl (fun ls hl => ?_)
      refine lv_goto (tgt := 2) hx hb dR_anyWith_32 (by decide) ?_
      exact ih (i + 1) _ _ _ (by show U - (i + 1) < U - i; omega) ⟨⟨c1, fun k hk => by rcases Nat.lt_or_ge k i with q | q; exact hg k q; rw [show k = i by omega]; exact c2⟩, hP, hD, hS, lv_sub hl [1, 2, 0] rfl⟩
    · refine lv_iconst (v := 1) hx hb dR_anyWith_27 (by decide) ?_
      exact (W.zret (v := 1) hx hb hr (rfl) (fun t ht hW => ⟨⟨1, (), rfl, Or.inl ⟨rfl, i, c1, fun q => c2 ((ls_cmp0 _).mpr q)⟩, by rw [ht]; exact hP, va_K.moved hW.alike hK, hD⟩, hS.F ht⟩) hS.2.2 dR_anyWith_28)
end
section
set_option maxHeartbeats 4000000 in
set_option maxRecDepth 100000 in
/-- anyIn(first, distance, bits) -/
theorem k_R_anyIn (l : Launch) (dC : Nat → ClassId) (dI : Nat → Nat → Nat) (tI sz : Nat) (h w : Nat) (cL : ClassId) (f : Nat → Int64) (U : Nat) (hU : U ≤ 1024) (a d : Nat) (bits : Int64) (ha : a ≤ 1024) (h1 : 1 ≤ d) (h2 : d ≤ 1024) : Met l yR_anyIn (Cond.code yR_anyIn cR_anyIn 6 (some .boolean) :: GG) (lvr 0 0 0) (va_Pc [.ref h, .int (nI a), .int (nI d), .long bits] (wPre dC dI [(cL, .long)] [(h, .inr (0, [.ref w, .int (nI U)])), (w, .inl (cL, 1024, .inr (.inl f)))] sz tI)) (va_Qi (fun (r : Int32) (u : Unit) => (r = 1 ∧ ∃ k, a + d * k < U ∧ f (a + d * k) &&& bits ≠ 0) ∨ (r = 0 ∧ ∀ k, a + d * k < U → f (a + d * k) &&& bits = 0)) (fun u t => wB dC dI [(cL, .long)] (va_A [(h, .inr (0, [.ref w, .int (nI U)])), (w, .inl (cL, 1024, .inr (.inl f)))] sz) [(h, .inr (0, [.ref w, .int (nI U)])), (w, .inl (cL, 1024, .inr (.inl f)))] t) (va_A [(h, .inr (0, [.ref w, .int (nI U)])), (w, .inl (cL, 1024, .inr (.inl f)))] sz)) 0 0 (va_A [(h, .inr (0, [.ref w, .int (nI U)])), (w, .inl (cL, 1024, .inr (.inl f)))] sz) := by
  refine Met.ofW (cc := cR_anyIn) (maxL := 6) (ret := (some .boolean)) (by decide) rfl ?_
  intro p e s m args below meth c s₁ B hml hv
  obtain ⟨rfl, hsz, hP, hK, hD0, hZ, hX⟩ := hv
  have hx := B.exec
  have hb := B.bytes
  have hr := B.returns
  have hts : ∀ w ∈ GG, w.before ([.ref h, .int (nI a), .int (nI d), .long bits] : List Value).toArray s = true := fun w h => atoms_spec (ws := _ :: GG) B.pre w (List.mem_cons_of_mem _ h)
  have hown : s.vm.findClass RR = some m.cls := findClass_of_methodNamed B.named
  have hlocks := B.notSynchronized
  subst hsz
  have hD := hD0.self (sz := s.heap.size)
  generalize hAe : va_A [(h, .inr (0, [.ref w, .int (nI U)])), (w, .inl (cL, 1024, .inr (.inl f)))] s.heap.size = A at hD hZ ⊢
  have hA : ∀ q : Nat, s.heap.size ≤ q → A q := fun q h => by rw [← hAe]; exact Or.inr h
  have hS : va_S A s.heap s.heap [] := va_S.rf
  have hl := lv_entry ([.ref h, .int (nI a), .int (nI d), .long bits]) (n := 6) (Nat.le_of_ble_eq_true rfl)
  rw [lg_entry_eq]
  generalize (lg_sl ([.ref h, .int (nI a), .int (nI d), .long bits]) ++ List.replicate (6 - (lg_sl ([.ref h, .int (nI a), .int (nI d), .long bits])).length) Slot.unset).toArray = ls at hl ⊢
  have hl : lv_has ls 6 [(0, .ref h), (1, .int (nI a)), (2, .int (nI d)), (3, .long bits)] := hl
  have SF : CallFix p m c cR_anyIn 6 s ([.ref h, .int (nI a), .int (nI d), .long bits] : List Value).toArray GG RR := ⟨hx, hb, hml, hown, hts⟩
  skip
  have hP : va_P (dC, dI) vwCl [(h, .inr (0, [.ref w, .int (nI U)])), (w, .inl (cL, 1024, .inr (.inl f)))] s.heap := hP
  refine lv_iload_n hx hb dR_anyIn_0 rfl (lv_at hl 1 rfl) ?_
  refine lv_if_lt (tgt := 16) hx hb dR_anyIn_1 (by decide) (fun c1 => ?_) (fun c1 => ?_)
  · have c1 : a < 0 := (nI_ltI (a := a) (b := 0) (by omega) (by omega)).mp c1
    exact absurd c1 (Nat.not_lt_zero _)
  · have c1 : 0 ≤ a := Nat.le_of_not_lt (fun q => c1 ((nI_ltI (a := a) (b := 0) (by omega) (by omega)).mpr q))
    refine lv_iload_n hx hb dR_anyIn_4 rfl (lv_at hl 2 rfl) ?_
    refine lv_iconst (v := 1) hx hb dR_anyIn_5 (by decide) ?_
    refine lv_icmp_lt (tgt := 16) hx hb dR_anyIn_6 (by decide) (fun c2 => ?_) (fun c2 => ?_)
    · have c2 : d < 1 := (nI_ltI (a := d) (b := 1) (by omega) (by omega)).mp c2
      exact absurd c2 (by omega)
    · have c2 : 1 ≤ d := Nat.le_of_not_lt (fun q => c2 ((nI_ltI (a := d) (b := 1) (by omega) (by omega)).mpr q))
      refine lv_iload_n hx hb dR_anyIn_9 rfl (lv_at hl 2 rfl) ?_
      refine lv_sipush (v := 1024) hx hb dR_anyIn_10 (by decide) ?_
      refine lv_icmp_le (tgt := 18) hx hb dR_anyIn_13 (by decide) (fun c3 => ?_) (fun c3 => ?_)
      · have c3 : d ≤ 1024 := (nI_leI (a := d) (b := 1024) (by omega) (by omega)).mp c3
        refine lv_iload_n hx hb dR_anyIn_18 rfl (lv_at hl 1 rfl) ?_
        refine lv_istore (lv' := [(5, .int (nI a)), (0, .ref h), (1, .int (nI a)), (2, .int (nI d)), (3, .long bits)]) hx hb dR_anyIn_19 hl (by decide) rfl (fun ls hl => ?_)
        refine lp_mu (α := Nat) (fun a_ => match a_ with | j => U - j) (fun a_ H locs ls => match a_ with | j => (a + d * j ≤ 2048 ∧ ∀ k, k < j → f (a + d * k) &&& bits = 0) ∧ va_P (dC, dI) vwCl [(h, .inr (0, [.ref w, .int (nI U)])), (w, .inl (cL, 1024, .inr (.inl f)))] H ∧ va_D A [(h, .inr (0, [.ref w, .int (nI U)])), (w, .inl (cL, 1024, .inr (.inl f)))] ∧ va_S A s.heap H locs ∧ lv_has ls 6 [(0, .ref h), (2, .int (nI d)), (3, .long bits), (5, .int (nI (a + d * j)))]) ?_ (0) ⟨⟨by omega, fun k hk => absurd hk (Nat.not_lt_zero _)⟩, hP, hD, hS, lv_sub hl [1, 3, 4, 0] rfl⟩
        intro a_ H locs ls hI ih
        obtain ⟨j, rfl⟩ : ∃ z, z = a_ := ⟨_, rfl⟩
        obtain ⟨hI, hP, hD, hS, hl⟩ := hI
        have hI : a + d * j ≤ 2048 ∧ ∀ k, k < j → f (a + d * k) &&& bits = 0 := hI
        have hP : va_P (dC, dI) vwCl [(h, .inr (0, [.ref w, .int (nI U)])), (w, .inl (cL, 1024, .inr (.inl f)))] H := hP
        have hD : va_D A [(h, .inr (0, [.ref w, .int (nI U)])), (w, .inl (cL, 1024, .inr (.inl f)))] := hD
        have hl : lv_has ls 6 [(0, .ref h), (2, .int (nI d)), (3, .long bits), (5, .int (nI (a + d * j)))] := hl
        obtain ⟨hi, hg⟩ := hI
        refine lv_iload hx hb dR_anyIn_21 (lv_at hl 3 rfl) ?_
        refine lv_aload_n hx hb dR_anyIn_23 rfl (lv_at hl 0 rfl) ?_
        refine va_get (D := (dC, dI)) (ci := 0) (v := .int (nI U)) (C := RR) (T := TR) (N := 2) hx hb hts lyR hown hK hP 0 rfl rfl 1 (by decide) (hts _ fl_R_15) (fun _ h9 => h9) rfl dR_anyIn_24 ?_
        refine lv_icmp_ge (tgt := 55) hx hb dR_anyIn_27 (by decide) (fun c4 => ?_) (fun c4 => ?_)
        · have c4 : U ≤ (a + d * j) := (nI_leI (a := U) (b := (a + d * j)) (by omega) (by omega)).mp c4
          refine lv_iconst (v := 0) hx hb dR_anyIn_55 (by decide) ?_
          exact (W.zret (v := 0) hx hb hr (rfl) (fun t ht hW => ⟨⟨0, (), rfl, Or.inr ⟨rfl, fun k hk => by
              rcases Nat.lt_or_ge k j with q | q
              · exact hg k q
              · have : d * j ≤ d * k := Nat.mul_le_mul_left _ q
                exact absurd hk (by omega)⟩, by rw [ht]; exact hP, va_K.moved hW.alike hK, hD⟩, hS.F ht⟩) hS.2.2 dR_anyIn_56)
        · have c4 : (a + d * j) < U := Nat.lt_of_not_le (fun q => c4 ((nI_leI (a := U) (b := (a + d * j)) (by omega) (by omega)).mpr q))
          refine lv_aload_n hx hb dR_anyIn_30 rfl (lv_at hl 0 rfl) ?_
          refine va_get (D := (dC, dI)) (ci := 0) (v := .ref w) (C := RR) (T := TR) (N := 2) hx hb hts lyR hown hK hP 0 rfl rfl 0 (by decide) (hts _ fl_R_11) (fun _ h9 => h9) rfl dR_anyIn_31 ?_
          refine lv_iload hx hb dR_anyIn_34 (lv_at hl 3 rfl) ?_
          refine va_lald hx hb hK hP 1 0 rfl rfl (vp_in_nI (by omega) (by decide)) dR_anyIn_36 ?_
          refine ls_topl (y := f (a + d * j)) (by rw [nI_clamp (by omega)]) ?_
          refine lv_lload_n hx hb dR_anyIn_37 rfl (lv_at hl 2 rfl) ?_
          refine lv_land hx hb dR_anyIn_38 ?_
          refine lv_lconst (v := 0) hx hb dR_anyIn_39 (by decide) ?_
          refine W.lcmp hx hb dR_anyIn_40 ?_
          refine lv_if_eq (tgt := 46) hx hb dR_anyIn_41 (by decide) (fun c5 => ?_) (fun c5 => ?_)
          · have c5 := (ls_cmp0 _).mp c5
            refine lv_iload hx hb dR_anyIn_46 (lv_at hl 3 rfl) ?_
            refine lv_iload_n hx hb dR_anyIn_48 rfl (lv_at hl 1 rfl) ?_
            refine lv_iadd hx hb dR_anyIn_49 ?_
            refine ls_topi (y := nI (a + d * (j + 1))) (by rw [nI_add, Nat.mul_add, Nat.mul_one, Nat.add_assoc]) ?_
            refine lv_istore (lv' := [(5, .int (nI (a + d * (j + 1)))), (0, .ref h), (2, .int (nI d)), (3, .long bits)]) hx hb dR_anyIn_50 hl (by decide) rfl (fun ls hl => ?_)
            refine lv_goto (tgt := 21) hx hb dR_anyIn_52 (by decide) ?_
            exact ih (j + 1) _ _ _ (by show U - (j + 1) < U - j; have : 1 * j ≤ d * j := Nat.mul_le_mul_right _ h1; omega) ⟨⟨by rw [Nat.mul_add]; omega, fun k hk => by
                rcases Nat.lt_or_ge k j with q | q
                · exact hg k q
                · rw [show k = j by omega]; exact c5⟩, hP, hD, hS, lv_sub hl [1, 2, 3, 0] rfl⟩
          · refine lv_iconst (v := 1) hx hb dR_anyIn_44 (by decide) ?_
            exact (W.zret (v := 1) hx hb hr (rfl) (fun t ht hW => ⟨⟨1, (), rfl, Or.inl ⟨rfl, j, c4, fun q => c5 ((ls_cmp0 _).mpr q)⟩, by rw [ht]; exact hP, va_K.moved hW.alike hK, hD⟩, hS.F ht⟩) hS.2.2 dR_anyIn_45)
      · have c3 : 1024 < d := Nat.lt_of_not_le (fun q => c3 ((nI_leI (a := d) (b := 1024) (by omega) (by omega)).mpr q))
        exact absurd c3 (by omega)
set_option maxHeartbeats 4000000 in
set_option maxRecDepth 100000 in
/-- keepWith(l) -/
theorem k_R_keepWith (l : Launch) (dC : Nat → ClassId) (dI : Nat → Nat → Nat) (tI sz : Nat) (h w : Nat) (cL : ClassId) (f : Nat → Int64) (U : Nat) (hU : U ≤ 1024) (L : Nat) (hL : L < 32) : Met l yR_keepWith (Cond.code yR_keepWith cR_keepWith 5 (some .boolean) :: GG) (lvr 1 0 0) (va_Pc [.ref h, .int (nI L)] (wPre dC dI [(cL, .long)] [(h, .inr (0, [.ref w, .int (nI U)])), (w, .inl (cL, 1024, .inr (.inl f)))] sz tI)) (va_Qi (fun (r : Int32) (u : Nat → Int64) => (∀ k, k < U → u k = f k &&& ls_rw L k) ∧ ((r = 1 ∧ ∃ k, k < U ∧ u k ≠ 0) ∨ (r = 0 ∧ ∀ k, k < U → u k = 0))) (fun u t => wB dC dI [(cL, .long)] (va_A [(h, .inr (0, [.ref w, .int (nI U)])), (w, .inl (cL, 1024, .inr (.inl f)))] sz) [(h, .inr (0, [.ref w, .int (nI U)])), (w, .inl (cL, 1024, .inr (.inl u)))] t) (va_A [(h, .inr (0, [.ref w, .int (nI U)])), (w, .inl (cL, 1024, .inr (.inl f)))] sz)) 0 0 (va_A [(h, .inr (0, [.ref w, .int (nI U)])), (w, .inl (cL, 1024, .inr (.inl f)))] sz) := by
  refine Met.ofW (cc := cR_keepWith) (maxL := 5) (ret := (some .boolean)) (by decide) rfl ?_
  intro p e s m args below meth c s₁ B hml hv
  obtain ⟨rfl, hsz, hP, hK, hD0, hZ, hX⟩ := hv
  have hx := B.exec
  have hb := B.bytes
  have hr := B.returns
  have hts : ∀ w ∈ GG, w.before ([.ref h, .int (nI L)] : List Value).toArray s = true := fun w h => atoms_spec (ws := _ :: GG) B.pre w (List.mem_cons_of_mem _ h)
  have hown : s.vm.findClass RR = some m.cls := findClass_of_methodNamed B.named
  have hlocks := B.notSynchronized
  subst hsz
  have hD := hD0.self (sz := s.heap.size)
  generalize hAe : va_A [(h, .inr (0, [.ref w, .int (nI U)])), (w, .inl (cL, 1024, .inr (.inl f)))] s.heap.size = A at hD hZ ⊢
  have hA : ∀ q : Nat, s.heap.size ≤ q → A q := fun q h => by rw [← hAe]; exact Or.inr h
  have hS : va_S A s.heap s.heap [] := va_S.rf
  have hl := lv_entry ([.ref h, .int (nI L)]) (n := 5) (Nat.le_of_ble_eq_true rfl)
  rw [lg_entry_eq]
  generalize (lg_sl ([.ref h, .int (nI L)]) ++ List.replicate (5 - (lg_sl ([.ref h, .int (nI L)])).length) Slot.unset).toArray = ls at hl ⊢
  have hl : lv_has ls 5 [(0, .ref h), (1, .int (nI L))] := hl
  have SF : CallFix p m c cR_keepWith 5 s ([.ref h, .int (nI L)] : List Value).toArray GG RR := ⟨hx, hb, hml, hown, hts⟩
  skip
  have hP : va_P (dC, dI) vwCl [(h, .inr (0, [.ref w, .int (nI U)])), (w, .inl (cL, 1024, .inr (.inl f)))] s.heap := hP
  refine lv_lconst (v := 0) hx hb dR_keepWith_0 (by decide) ?_
  refine lv_lstore_n (lv' := [(2, .long 0), (0, .ref h), (1, .int (nI L))]) hx hb dR_keepWith_1 rfl hl (by decide) rfl (fun ls hl => ?_)
  refine lv_iconst (v := 0) hx hb dR_keepWith_2 (by decide) ?_
  refine lv_istore (lv' := [(4, .int 0), (2, .long 0), (0, .ref h), (1, .int (nI L))]) hx hb dR_keepWith_3 hl (by decide) rfl (fun ls hl => ?_)
  refine lp_mu (α := Nat × (Nat → Int64) × Int64) (fun a_ => match a_ with | (i, g, left) => U - i) (fun a_ H locs ls => match a_ with | (i, g, left) => (ax_KW f L U i g left) ∧ va_P (dC, dI) vwCl [(h, .inr (0, [.ref w, .int (nI U)])), (w, .inl (cL, 1024, .inr (.inl g)))] H ∧ va_D A [(h, .inr (0, [.ref w, .int (nI U)])), (w, .inl (cL, 1024, .inr (.inl g)))] ∧ va_S A s.heap H locs ∧ lv_has ls 5 [(0, .ref h), (1, .int (nI L)), (2, .long left), (4, .int (nI i))]) ?_ (0, f, 0) ⟨ax_kw0, hP, hD, hS, lv_sub hl [2, 3, 1, 0] rfl⟩
  intro a_ H locs ls hI ih
  obtain ⟨i, g, left⟩ := a_
  obtain ⟨hI, hP, hD, hS, hl⟩ := hI
  have hI : ax_KW f L U i g left := hI
  have hP : va_P (dC, dI) vwCl [(h, .inr (0, [.ref w, .int (nI U)])), (w, .inl (cL, 1024, .inr (.inl g)))] H := hP
  have hD : va_D A [(h, .inr (0, [.ref w, .int (nI U)])), (w, .inl (cL, 1024, .inr (.inl g)))] := hD
  have hl : lv_has ls 5 [(0, .ref h), (1, .int (nI L)), (2, .long left), (4, .int (nI i))] := hl
  obtain ⟨hi, hg, hge, hk0, hb0⟩ := hI
  refine lv_iload hx hb dR_keepWith_5 (lv_at hl 3 rfl) ?_
  refine lv_aload_n hx hb dR_keepWith_7 rfl (lv_at hl 0 rfl) ?_
  refine va_get (D := (dC, dI)) (ci := 0) (v := .int (nI U)) (C := RR) (T := TR) (N := 2) hx hb hts lyR hown hK hP 0 rfl rfl 1 (by decide) (hts _ fl_R_15) (fun _ h9 => h9) rfl dR_keepWith_8 ?_
  refine lv_icmp_ge (tgt := 46) hx hb dR_keepWith_11 (by decide) (fun c1 => ?_) (fun c1 => ?_)
  · have c1 : U ≤ i := (nI_leI (a := U) (b := i) (by omega) (by omega)).mp c1
    refine lv_lload_n hx hb dR_keepWith_46 rfl (lv_at hl 2 rfl) ?_
    refine lv_lconst (v := 0) hx hb dR_keepWith_47 (by decide) ?_
    refine W.lcmp hx hb dR_keepWith_48 ?_
    refine lv_if_eq (tgt := 56) hx hb dR_keepWith_49 (by decide) (fun c2 => ?_) (fun c2 => ?_)
    · have c2 := (ls_cmp0 _).mp c2
      refine lv_iconst (v := 0) hx hb dR_keepWith_56 (by decide) ?_
      exact (W.zret (v := 0) hx hb hr (rfl) (fun t ht hW => ⟨⟨0, g, rfl, ⟨fun k hk => hg k (by omega), Or.inr ⟨rfl, fun k hk => hb0 c2 k (by omega)⟩⟩, by rw [ht]; exact hP, va_K.moved hW.alike hK, hD⟩, hS.F ht⟩) hS.2.2 dR_keepWith_57)
    · refine lv_iconst (v := 1) hx hb dR_keepWith_52 (by decide) ?_
      refine lv_goto (tgt := 57) hx hb dR_keepWith_53 (by decide) ?_
      exact (W.zret (v := 1) hx hb hr (rfl) (fun t ht hW => ⟨⟨1, g, rfl, ⟨fun k hk => hg k (by omega), Or.inl ⟨rfl, by
          refine Classical.byContradiction fun q => c2 ((ls_cmp0 _).mpr (hk0 (fun k hk => ?_)))
          refine Classical.byContradiction fun q2 => q ⟨k, by omega, q2⟩⟩⟩, by rw [ht]; exact hP, va_K.moved hW.alike hK, hD⟩, hS.F ht⟩) hS.2.2 dR_keepWith_57)
  · have c1 : i < U := Nat.lt_of_not_le (fun q => c1 ((nI_leI (a := U) (b := i) (by omega) (by omega)).mpr q))
    refine lv_aload_n hx hb dR_keepWith_14 rfl (lv_at hl 0 rfl) ?_
    refine va_get (D := (dC, dI)) (ci := 0) (v := .ref w) (C := RR) (T := TR) (N := 2) hx hb hts lyR hown hK hP 0 rfl rfl 0 (by decide) (hts _ fl_R_11) (fun _ h9 => h9) rfl dR_keepWith_15 ?_
    refine lv_iload hx hb dR_keepWith_18 (lv_at hl 3 rfl) ?_
    refine lv_dup2_11 hx hb dR_keepWith_20 rfl rfl ?_
    refine va_lald hx hb hK hP 1 0 rfl rfl (vp_in_nI (by omega) (by decide)) dR_keepWith_21 ?_
    refine ls_topl (y := f i) (by rw [nI_clamp (by omega)]; exact hge i (Nat.le_refl i)) ?_
    refine lv_iload_n hx hb dR_keepWith_22 rfl (lv_at hl 1 rfl) ?_
    refine lv_iload hx hb dR_keepWith_23 (lv_at hl 3 rfl) ?_
    have hFc := va_free (wc := []) hD hS hA [] rfl
    refine wc_l (wc_S (As := [.int (nI L), .int (nI i)]) (rest := [.long (f i), .int (nI i), .ref w]) (n := 2) SF (k_R_rowsWith l dC dI tI _ L i hL (by omega)) ml_R_32 st_R_rowsWith in_R co_R_rowsWith (by decide +kernel) rfl rfl rfl ⟨Nat.le_of_ble_eq_true rfl, Nat.le_of_ble_eq_true rfl⟩ (hP.sub [] rfl) (hD.sub [] (by decide) rfl) (hK.sub [] rfl) hZ hX hS hFc rfl hl.1 (Nat.le_of_ble_eq_true rfl) dR_keepWith_25 ⟨Nat.le_of_ble_eq_true rfl, Nat.le_of_ble_eq_true rfl⟩) hP hD hS hFc [] [0, 1] (wr := [(h, .inr (0, [.ref w, .int (nI U)])), (w, .inl (cL, 1024, .inr (.inl g)))]) rfl rfl rfl (by decide) (fun z uu H locs hw hP hD hS => ?_)
    have hP : va_P (dC, dI) vwCl [(h, .inr (0, [.ref w, .int (nI U)])), (w, .inl (cL, 1024, .inr (.inl g)))] H := hP.sub [0, 1] rfl
    have hD : va_D A [(h, .inr (0, [.ref w, .int (nI U)])), (w, .inl (cL, 1024, .inr (.inl g)))] := hD.sub [0, 1] (by decide) rfl
    have hw : z = ls_rw L i := hw
    subst hw
    refine lv_land hx hb dR_keepWith_28 ?_
    refine va_last hx hb hK hP hD hS 1 0 rfl rfl (vp_in_nI (by omega) (by decide)) dR_keepWith_29 (fun H locs hP hD hS => ?_)
    rw [show vp_updL g (nI i).toNatClampNeg ((f i) &&& (ls_rw L i)) = vp_updL g i (f i &&& ls_rw L i) from by rw [nI_clamp (by omega)]] at hP hD
    have hP : va_P (dC, dI) vwCl [(h, .inr (0, [.ref w, .int (nI U)])), (w, .inl (cL, 1024, .inr (.inl (vp_updL g i (f i &&& ls_rw L i)))))] H := hP
    have hD : va_D A [(h, .inr (0, [.ref w, .int (nI U)])), (w, .inl (cL, 1024, .inr (.inl (vp_updL g i (f i &&& ls_rw L i)))))] := hD
    refine lv_lload_n hx hb dR_keepWith_30 rfl (lv_at hl 2 rfl) ?_
    refine lv_aload_n hx hb dR_keepWith_31 rfl (lv_at hl 0 rfl) ?_
    refine va_get (D := (dC, dI)) (ci := 0) (v := .ref w) (C := RR) (T := TR) (N := 2) hx hb hts lyR hown hK hP 0 rfl rfl 0 (by decide) (hts _ fl_R_11) (fun _ h9 => h9) rfl dR_keepWith_32 ?_
    refine lv_iload hx hb dR_keepWith_35 (lv_at hl 3 rfl) ?_
    refine va_lald hx hb hK hP 1 0 rfl rfl (vp_in_nI (by omega) (by decide)) dR_keepWith_37 ?_
    refine ls_topl (y := f i &&& ls_rw L i) (by rw [nI_clamp (by omega)]; simp [vp_updL]) ?_
    refine lv_lor hx hb dR_keepWith_38 ?_
    refine lv_lstore_n (lv' := [(2, .long (left ||| (f i &&& ls_rw L i))), (0, .ref h), (1, .int (nI L)), (4, .int (nI i))]) hx hb dR_keepWith_39 rfl hl (by decide) rfl (fun ls hl => ?_)
    refine lv_iinc (v := nI (i + 1)) (lv' := [(4, .int (nI (i + 1))), (2, .long (left ||| (f i &&& ls_rw L i))), (0, .ref h), (1, .int (nI L))]) hx hb dR_keepWith_40 hl (k := 3) rfl (nI_1 _) (by decide) rfl (fun ls hl => ?_)
    refine lv_goto (tgt := 5) hx hb dR_keepWith_43 (by decide) ?_
    exact ih (i + 1, vp_updL g i (f i &&& ls_rw L i), left ||| (f i &&& ls_rw L i)) _ _ _ (by show U - (i + 1) < U - i; omega) ⟨ax_kw c1 hg hge hk0 hb0, hP, hD, hS, lv_sub hl [2, 3, 1, 0] rfl⟩
set_option maxHeartbeats 4000000 in
set_option maxRecDepth 100000 in
/-- Long.bitCount -/
theorem k_J_bitCount (l : Launch) (dC : Nat → ClassId) (dI : Nat → Nat → Nat) (tI sz : Nat) (n : Nat) (hn : n < 2 ^ 64) : Met l yJ_bitCount (Cond.code yJ_bitCount cJ_bitCount 2 (some .int) :: GG) (lvr 0 0 0) (va_Pc [.long (lN n)] (wPre dC dI [] [] sz tI)) (va_Qi (fun (r : Int32) (u : Unit) => r = nI (ls_cnt (fun i => n.testBit i) 64)) (fun u t => wB dC dI [] (va_A [] sz) [] t) (va_A [] sz)) 0 0 (va_A [] sz) := by
  refine Met.ofW (cc := cJ_bitCount) (maxL := 2) (ret := (some .int)) (by decide) rfl ?_
  intro p e s m args below meth c s₁ B hml hv
  obtain ⟨rfl, hsz, hP, hK, hD0, hZ, hX⟩ := hv
  have hx := B.exec
  have hb := B.bytes
  have hr := B.returns
  have hts : ∀ w ∈ GG, w.before ([.long (lN n)] : List Value).toArray s = true := fun w h => atoms_spec (ws := _ :: GG) B.pre w (List.mem_cons_of_mem _ h)
  have hown : s.vm.findClass RJ = some m.cls := findClass_of_methodNamed B.named
  have hlocks := B.notSynchronized
  subst hsz
  have hD := hD0.self (sz := s.heap.size)
  generalize hAe : va_A [] s.heap.size = A at hD hZ ⊢
  have hA : ∀ q : Nat, s.heap.size ≤ q → A q := fun q h => by rw [← hAe]; exact Or.inr h
  have hS : va_S A s.heap s.heap [] := va_S.rf
  have hl := lv_entry ([.long (lN n)]) (n := 2) (Nat.le_of_ble_eq_true rfl)
  rw [lg_entry_eq]
  generalize (lg_sl ([.long (lN n)]) ++ List.replicate (2 - (lg_sl ([.long (lN n)])).length) Slot.unset).toArray = ls at hl ⊢
  have hl : lv_has ls 2 [(0, .long (lN n))] := hl
  have SF : CallFix p m c cJ_bitCount 2 s ([.long (lN n)] : List Value).toArray GG RJ := ⟨hx, hb, hml, hown, hts⟩
  skip
  have hP : va_P (dC, dI) vwCl [] s.heap := hP
  obtain ⟨x1, x2, x3, x4, x5, x6, e1, l1, e2, l2, e3, l3, e4, l4, e5, l5, e6, hc⟩ := bc_java n hn
  refine lv_lload_n hx hb dJ_bitCount_0 rfl (lv_at hl 0 rfl) ?_
  refine lv_lload_n hx hb dJ_bitCount_1 rfl (lv_at hl 0 rfl) ?_
  refine lv_iconst (v := 1) hx hb dJ_bitCount_2 (by decide) ?_
  refine lv_lushr hx hb dJ_bitCount_3 rfl ?_
  refine ls_topl (y := lN (n / 2)) (wb_shr (k := 1) hn (by decide)) ?_
  refine lv_ldc2 (v := 6148914691236517205) hx hb hown (hts _ cj_J_314) dJ_bitCount_4 ?_
  refine lv_land hx hb dJ_bitCount_7 ?_
  refine lv_lsub hx hb dJ_bitCount_8 ?_
  refine ls_topl (y := lN x1) (e1) ?_
  refine lv_lstore_n (lv' := [(0, .long (lN x1))]) hx hb dJ_bitCount_9 rfl hl (by decide) rfl (fun ls hl => ?_)
  refine lv_lload_n hx hb dJ_bitCount_10 rfl (lv_at hl 0 rfl) ?_
  refine lv_ldc2 (v := 3689348814741910323) hx hb hown (hts _ cj_J_316) dJ_bitCount_11 ?_
  refine lv_land hx hb dJ_bitCount_14 ?_
  refine lv_lload_n hx hb dJ_bitCount_15 rfl (lv_at hl 0 rfl) ?_
  refine lv_iconst (v := 2) hx hb dJ_bitCount_16 (by decide) ?_
  refine lv_lushr hx hb dJ_bitCount_17 rfl ?_
  refine ls_topl (y := lN (x1 / 4)) (wb_shr (k := 2) l1 (by decide)) ?_
  refine lv_ldc2 (v := 3689348814741910323) hx hb hown (hts _ cj_J_316) dJ_bitCount_18 ?_
  refine lv_land hx hb dJ_bitCount_21 ?_
  refine lv_ladd hx hb dJ_bitCount_22 ?_
  refine ls_topl (y := lN x2) (e2) ?_
  refine lv_lstore_n (lv' := [(0, .long (lN x2))]) hx hb dJ_bitCount_23 rfl hl (by decide) rfl (fun ls hl => ?_)
  refine lv_lload_n hx hb dJ_bitCount_24 rfl (lv_at hl 0 rfl) ?_
  refine lv_lload_n hx hb dJ_bitCount_25 rfl (lv_at hl 0 rfl) ?_
  refine lv_iconst (v := 4) hx hb dJ_bitCount_26 (by decide) ?_
  refine lv_lushr hx hb dJ_bitCount_27 rfl ?_
  refine ls_topl (y := lN (x2 / 16)) (wb_shr (k := 4) l2 (by decide)) ?_
  refine lv_ladd hx hb dJ_bitCount_28 ?_
  refine lv_ldc2 (v := 1085102592571150095) hx hb hown (hts _ cj_J_318) dJ_bitCount_29 ?_
  refine lv_land hx hb dJ_bitCount_32 ?_
  refine ls_topl (y := lN x3) (e3) ?_
  refine lv_lstore_n (lv' := [(0, .long (lN x3))]) hx hb dJ_bitCount_33 rfl hl (by decide) rfl (fun ls hl => ?_)
  refine lv_lload_n hx hb dJ_bitCount_34 rfl (lv_at hl 0 rfl) ?_
  refine lv_lload_n hx hb dJ_bitCount_35 rfl (lv_at hl 0 rfl) ?_
  refine lv_bipush (v := 8) hx hb dJ_bitCount_36 (by decide) ?_
  refine lv_lushr hx hb dJ_bitCount_38 rfl ?_
  refine ls_topl (y := lN (x3 / 256)) (wb_shr (k := 8) l3 (by decide)) ?_
  refine lv_ladd hx hb dJ_bitCount_39 ?_
  refine ls_topl (y := lN x4) (e4) ?_
  refine lv_lstore_n (lv' := [(0, .long (lN x4))]) hx hb dJ_bitCount_40 rfl hl (by decide) rfl (fun ls hl => ?_)
  refine lv_lload_n hx hb dJ_bitCount_41 rfl (lv_at hl 0 rfl) ?_
  refine lv_lload_n hx hb dJ_bitCount_42 rfl (lv_at hl 0 rfl) ?_
  refine lv_bipush (v := 16) hx hb dJ_bitCount_43 (by decide) ?_
  refine lv_lushr hx hb dJ_bitCount_45 rfl ?_
  refine ls_topl (y := lN (x4 / 65536)) (wb_shr (k := 16) l4 (by decide)) ?_
  refine lv_ladd hx hb dJ_bitCount_46 ?_
  refine ls_topl (y := lN x5) (e5) ?_
  refine lv_lstore_n (lv' := [(0, .long (lN x5))]) hx hb dJ_bitCount_47 rfl hl (by decide) rfl (fun ls hl => ?_)
  refine lv_lload_n hx hb dJ_bitCount_48 rfl (lv_at hl 0 rfl) ?_
  refine lv_lload_n hx hb dJ_bitCount_49 rfl (lv_at hl 0 rfl) ?_
  refine lv_bipush (v := 32) hx hb dJ_bitCount_50 (by decide) ?_
  refine lv_lushr hx hb dJ_bitCount_52 rfl ?_
  refine ls_topl (y := lN (x5 / 4294967296)) (wb_shr (k := 32) l5 (by decide)) ?_
  refine lv_ladd hx hb dJ_bitCount_53 ?_
  refine ls_topl (y := lN x6) (e6) ?_
  refine lv_lstore_n (lv' := [(0, .long (lN x6))]) hx hb dJ_bitCount_54 rfl hl (by decide) rfl (fun ls hl => ?_)
  refine lv_lload_n hx hb dJ_bitCount_55 rfl (lv_at hl 0 rfl) ?_
  refine lv_l2i hx hb dJ_bitCount_56 rfl ?_
  refine lv_bipush (v := 127) hx hb dJ_bitCount_57 (by decide) ?_
  refine lv_iand hx hb dJ_bitCount_59 ?_
  refine ls_topi (y := nI (x6 % 128)) (by rw [lN_i]; exact ax_m7 x6) ?_
  exact (W.iret (v := nI (x6 % 128)) hx hb hr (fun t ht hW => ⟨⟨nI (x6 % 128), (), rfl, (show _ = nI (ls_cnt (fun i => n.testBit i) 64) by rw [hc]), by rw [ht]; exact hP, va_K.moved hW.alike hK, hD⟩, hS.F ht⟩) hS.2.2 dJ_bitCount_60)
set_option maxHeartbeats 4000000 in
set_option maxRecDepth 100000 in
/-- count() -/
theorem k_R_count (l : Launch) (dC : Nat → ClassId) (dI : Nat → Nat → Nat) (tI sz : Nat) (h w : Nat) (cL : ClassId) (f : Nat → Int64) (U : Nat) (hU : U ≤ 1024) : Met l yR_count (Cond.code yR_count cR_count 3 (some .int) :: GG) (lvr 1 0 0) (va_Pc [.ref h] (wPre dC dI [(cL, .long)] [(h, .inr (0, [.ref w, .int (nI U)])), (w, .inl (cL, 1024, .inr (.inl f)))] sz tI)) (va_Qi (fun (r : Int32) (u : Unit) => r = nI (ls_sum f U)) (fun u t => wB dC dI [(cL, .long)] (va_A [(h, .inr (0, [.ref w, .int (nI U)])), (w, .inl (cL, 1024, .inr (.inl f)))] sz) [(h, .inr (0, [.ref w, .int (nI U)])), (w, .inl (cL, 1024, .inr (.inl f)))] t) (va_A [(h, .inr (0, [.ref w, .int (nI U)])), (w, .inl (cL, 1024, .inr (.inl f)))] sz)) 0 0 (va_A [(h, .inr (0, [.ref w, .int (nI U)])), (w, .inl (cL, 1024, .inr (.inl f)))] sz) := by
  refine Met.ofW (cc := cR_count) (maxL := 3) (ret := (some .int)) (by decide) rfl ?_
  intro p e s m args below meth c s₁ B hml hv
  obtain ⟨rfl, hsz, hP, hK, hD0, hZ, hX⟩ := hv
  have hx := B.exec
  have hb := B.bytes
  have hr := B.returns
  have hts : ∀ w ∈ GG, w.before ([.ref h] : List Value).toArray s = true := fun w h => atoms_spec (ws := _ :: GG) B.pre w (List.mem_cons_of_mem _ h)
  have hown : s.vm.findClass RR = some m.cls := findClass_of_methodNamed B.named
  have hlocks := B.notSynchronized
  subst hsz
  have hD := hD0.self (sz := s.heap.size)
  generalize hAe : va_A [(h, .inr (0, [.ref w, .int (nI U)])), (w, .inl (cL, 1024, .inr (.inl f)))] s.heap.size = A at hD hZ ⊢
  have hA : ∀ q : Nat, s.heap.size ≤ q → A q := fun q h => by rw [← hAe]; exact Or.inr h
  have hS : va_S A s.heap s.heap [] := va_S.rf
  have hl := lv_entry ([.ref h]) (n := 3) (Nat.le_of_ble_eq_true rfl)
  rw [lg_entry_eq]
  generalize (lg_sl ([.ref h]) ++ List.replicate (3 - (lg_sl ([.ref h])).length) Slot.unset).toArray = ls at hl ⊢
  have hl : lv_has ls 3 [(0, .ref h)] := hl
  have SF : CallFix p m c cR_count 3 s ([.ref h] : List Value).toArray GG RR := ⟨hx, hb, hml, hown, hts⟩
  skip
  have hP : va_P (dC, dI) vwCl [(h, .inr (0, [.ref w, .int (nI U)])), (w, .inl (cL, 1024, .inr (.inl f)))] s.heap := hP
  refine lv_iconst (v := 0) hx hb dR_count_0 (by decide) ?_
  refine lv_istore_n (lv' := [(1, .int 0), (0, .ref h)]) hx hb dR_count_1 rfl hl (by decide) rfl (fun ls hl => ?_)
  refine lv_iconst (v := 0) hx hb dR_count_2 (by decide) ?_
  refine lv_istore_n (lv' := [(2, .int 0), (1, .int 0), (0, .ref h)]) hx hb dR_count_3 rfl hl (by decide) rfl (fun ls hl => ?_)
  refine lp_mu (α := Nat) (fun a_ => match a_ with | i => U - i) (fun a_ H locs ls => match a_ with | i => (i ≤ U ∧ True) ∧ va_P (dC, dI) vwCl [(h, .inr (0, [.ref w, .int (nI U)])), (w, .inl (cL, 1024, .inr (.inl f)))] H ∧ va_D A [(h, .inr (0, [.ref w, .int (nI U)])), (w, .inl (cL, 1024, .inr (.inl f)))] ∧ va_S A s.heap H locs ∧ lv_has ls 3 [(0, .ref h), (1, .int (nI (ls_sum f i))), (2, .int (nI i))]) ?_ (0) ⟨⟨Nat.zero_le _, trivial⟩, hP, hD, hS, lv_sub hl [2, 1, 0] rfl⟩
  intro a_ H locs ls hI ih
  obtain ⟨i, rfl⟩ : ∃ z, z = a_ := ⟨_, rfl⟩
  obtain ⟨hI, hP, hD, hS, hl⟩ := hI
  have hI : i ≤ U ∧ True := hI
  have hP : va_P (dC, dI) vwCl [(h, .inr (0, [.ref w, .int (nI U)])), (w, .inl (cL, 1024, .inr (.inl f)))] H := hP
  have hD : va_D A [(h, .inr (0, [.ref w, .int (nI U)])), (w, .inl (cL, 1024, .inr (.inl f)))] := hD
  have hl : lv_has ls 3 [(0, .ref h), (1, .int (nI (ls_sum f i))), (2, .int (nI i))] := hl
  obtain ⟨hi, hg⟩ := hI
  refine lv_iload_n hx hb dR_count_4 rfl (lv_at hl 2 rfl) ?_
  refine lv_aload_n hx hb dR_count_5 rfl (lv_at hl 0 rfl) ?_
  refine va_get (D := (dC, dI)) (ci := 0) (v := .int (nI U)) (C := RR) (T := TR) (N := 2) hx hb hts lyR hown hK hP 0 rfl rfl 1 (by decide) (hts _ fl_R_15) (fun _ h9 => h9) rfl dR_count_6 ?_
  refine lv_icmp_ge (tgt := 30) hx hb dR_count_9 (by decide) (fun c1 => ?_) (fun c1 => ?_)
  · have c1 : U ≤ i := (nI_leI (a := U) (b := i) (by omega) (by omega)).mp c1
    refine lv_iload_n hx hb dR_count_30 rfl (lv_at hl 1 rfl) ?_
    exact (W.iret (v := nI (ls_sum f i)) hx hb hr (fun t ht hW => ⟨⟨nI (ls_sum f i), (), rfl, (show _ = nI (ls_sum f U) by rw [show U = i by omega]), by rw [ht]; exact hP, va_K.moved hW.alike hK, hD⟩, hS.F ht⟩) hS.2.2 dR_count_31)
  · have c1 : i < U := Nat.lt_of_not_le (fun q => c1 ((nI_leI (a := U) (b := i) (by omega) (by omega)).mpr q))
    refine lv_iload_n hx hb dR_count_12 rfl (lv_at hl 1 rfl) ?_
    refine lv_aload_n hx hb dR_count_13 rfl (lv_at hl 0 rfl) ?_
    refine va_get (D := (dC, dI)) (ci := 0) (v := .ref w) (C := RR) (T := TR) (N := 2) hx hb hts lyR hown hK hP 0 rfl rfl 0 (by decide) (hts _ fl_R_11) (fun _ h9 => h9) rfl dR_count_14 ?_
    refine lv_iload_n hx hb dR_count_17 rfl (lv_at hl 2 rfl) ?_
    refine va_lald hx hb hK hP 1 0 rfl rfl (vp_in_nI (by omega) (by decide)) dR_count_18 ?_
    obtain ⟨n, hn, en⟩ := wb_of (f i)
    refine ls_topl (y := lN n) (by rw [nI_clamp (by omega)]; exact en) ?_
    have hFc := va_free (wc := []) hD hS hA [] rfl
    refine wc_i (wc_S (As := [.long (lN n)]) (rest := [.int (nI (ls_sum f i))]) (n := 1) SF (k_J_bitCount l dC dI tI _ n hn) ml_R_40 st_J_bitCount in_J co_J_bitCount (by decide +kernel) rfl rfl rfl ⟨Nat.le_of_ble_eq_true rfl, Nat.le_of_ble_eq_true rfl⟩ (hP.sub [] rfl) (hD.sub [] (by decide) rfl) (hK.sub [] rfl) hZ hX hS hFc rfl hl.1 (Nat.le_of_ble_eq_true rfl) dR_count_19 ⟨Nat.le_of_ble_eq_true rfl, Nat.le_of_ble_eq_true rfl⟩) hP hD hS hFc [] [0, 1] (wr := [(h, .inr (0, [.ref w, .int (nI U)])), (w, .inl (cL, 1024, .inr (.inl f)))]) rfl rfl rfl (by decide) (fun z uu H locs hw hP hD hS => ?_)
    have hP : va_P (dC, dI) vwCl [(h, .inr (0, [.ref w, .int (nI U)])), (w, .inl (cL, 1024, .inr (.inl f)))] H := hP.sub [0, 1] rfl
    have hD : va_D A [(h, .inr (0, [.ref w, .int (nI U)])), (w, .inl (cL, 1024, .inr (.inl f)))] := hD.sub [0, 1] (by decide) rfl
    have hw : z = nI (ls_cnt (ls_b (f i)) 64) := by
      rw [show z = nI (ls_cnt (fun i => n.testBit i) 64) from hw]
      congr 1
      exact ls_cnt_congr (fun b _ => by rw [en, ls_b_lN hn])
    subst hw
    refine lv_iadd hx hb dR_count_22 ?_
    refine ls_topi (y := nI (ls_sum f (i + 1))) (nI_add _ _) ?_
    refine lv_istore_n (lv' := [(1, .int (nI (ls_sum f (i + 1)))), (0, .ref h), (2, .int (nI i))]) hx hb dR_count_23 rfl hl (by decide) rfl (fun ls hl => ?_)
    refine lv_iinc (v := nI (i + 1)) (lv' := [(2, .int (nI (i + 1))), (1, .int (nI (ls_sum f (i + 1)))), (0, .ref h)]) hx hb dR_count_24 hl (k := 2) rfl (nI_1 _) (by decide) rfl (fun ls hl => ?_)
    refine lv_goto (tgt := 4) hx hb dR_count_27 (by decide) ?_
    exact ih (i + 1) _ _ _ (by show U - (i + 1) < U - i; omega) ⟨⟨c1, trivial⟩, hP, hD, hS, lv_sub hl [2, 1, 0] rfl⟩
end
section
set_option maxHeartbeats 4000000 in
set_option maxRecDepth 100000 in
/-- addVariable(v) -/
theorem k_R_addVariable (l : Launch) (dC : Nat → ClassId) (dI : Nat → Nat → Nat) (tI sz : Nat) (h w : Nat) (cL : ClassId) (f : Nat → Int64) (U : Nat) (hU : U ≤ 1024) (V : Nat) (hV : V < 16) (h2 : V < 6 ∨ 2 * U ≤ 1024) : Met l yR_addVariable (Cond.code yR_addVariable cR_addVariable 3 none :: GG) (lvr 0 0 0) (va_Pc [.ref h, .int (nI V)] (wPre dC dI [(cL, .long)] [(h, .inr (0, [.ref w, .int (nI U)])), (w, .inl (cL, 1024, .inr (.inl f)))] sz tI)) (va_Qv (fun (u : (Nat → Int64) × Nat) => (V < 6 ∧ u = (f, U)) ∨ (6 ≤ V ∧ u.2 = 2 * U ∧ ∀ k, k < U → u.1 k = f k ∧ u.1 (U + k) = f k)) (fun u t => wB dC dI [(cL, .long)] (va_A [(h, .inr (0, [.ref w, .int (nI U)])), (w, .inl (cL, 1024, .inr (.inl f)))] sz) [(h, .inr (0, [.ref w, .int (nI u.2)])), (w, .inl (cL, 1024, .inr (.inl u.1)))] t) (va_A [(h, .inr (0, [.ref w, .int (nI U)])), (w, .inl (cL, 1024, .inr (.inl f)))] sz)) 0 0 (va_A [(h, .inr (0, [.ref w, .int (nI U)])), (w, .inl (cL, 1024, .inr (.inl f)))] sz) := by
  refine Met.ofW (cc := cR_addVariable) (maxL := 3) (ret := none) (by decide) rfl ?_
  intro p e s m args below meth c s₁ B hml hv
  obtain ⟨rfl, hsz, hP, hK, hD0, hZ, hX⟩ := hv
  have hx := B.exec
  have hb := B.bytes
  have hr := B.returns
  have hts : ∀ w ∈ GG, w.before ([.ref h, .int (nI V)] : List Value).toArray s = true := fun w h => atoms_spec (ws := _ :: GG) B.pre w (List.mem_cons_of_mem _ h)
  have hown : s.vm.findClass RR = some m.cls := findClass_of_methodNamed B.named
  have hlocks := B.notSynchronized
  subst hsz
  have hD := hD0.self (sz := s.heap.size)
  generalize hAe : va_A [(h, .inr (0, [.ref w, .int (nI U)])), (w, .inl (cL, 1024, .inr (.inl f)))] s.heap.size = A at hD hZ ⊢
  have hA : ∀ q : Nat, s.heap.size ≤ q → A q := fun q h => by rw [← hAe]; exact Or.inr h
  have hS : va_S A s.heap s.heap [] := va_S.rf
  have hl := lv_entry ([.ref h, .int (nI V)]) (n := 3) (Nat.le_of_ble_eq_true rfl)
  rw [lg_entry_eq]
  generalize (lg_sl ([.ref h, .int (nI V)]) ++ List.replicate (3 - (lg_sl ([.ref h, .int (nI V)])).length) Slot.unset).toArray = ls at hl ⊢
  have hl : lv_has ls 3 [(0, .ref h), (1, .int (nI V))] := hl
  have SF : CallFix p m c cR_addVariable 3 s ([.ref h, .int (nI V)] : List Value).toArray GG RR := ⟨hx, hb, hml, hown, hts⟩
  skip
  have hP : va_P (dC, dI) vwCl [(h, .inr (0, [.ref w, .int (nI U)])), (w, .inl (cL, 1024, .inr (.inl f)))] s.heap := hP
  refine lv_iload_n hx hb dR_addVariable_0 rfl (lv_at hl 1 rfl) ?_
  refine lv_bipush (v := 6) hx hb dR_addVariable_1 (by decide) ?_
  refine lv_icmp_lt (tgt := 20) hx hb dR_addVariable_3 (by decide) (fun c1 => ?_) (fun c1 => ?_)
  · have c1 : V < 6 := (nI_ltI (a := V) (b := 6) (by omega) (by omega)).mp c1
    exact (W.vret hx hb hr (fun t ht hW => ⟨⟨(f, U), rfl, Or.inl ⟨c1, rfl⟩, by rw [ht]; exact hP, va_K.moved hW.alike hK, hD⟩, hS.F ht⟩) hS.2.2 dR_addVariable_20)
  · have c1 : 6 ≤ V := Nat.le_of_not_lt (fun q => c1 ((nI_ltI (a := V) (b := 6) (by omega) (by omega)).mpr q))
    refine lv_aload_n hx hb dR_addVariable_6 rfl (lv_at hl 0 rfl) ?_
    refine va_get (D := (dC, dI)) (ci := 0) (v := .int (nI U)) (C := RR) (T := TR) (N := 2) hx hb hts lyR hown hK hP 0 rfl rfl 1 (by decide) (hts _ fl_R_15) (fun _ h9 => h9) rfl dR_addVariable_7 ?_
    refine lv_aload_n hx hb dR_addVariable_10 rfl (lv_at hl 0 rfl) ?_
    refine va_get (D := (dC, dI)) (ci := 0) (v := .ref w) (C := RR) (T := TR) (N := 2) hx hb hts lyR hown hK hP 0 rfl rfl 0 (by decide) (hts _ fl_R_11) (fun _ h9 => h9) rfl dR_addVariable_11 ?_
    refine va_alen (v := 1024) hx hb hK hP 1 0 rfl rfl rfl dR_addVariable_14 ?_
    refine lv_iconst (v := 2) hx hb dR_addVariable_15 (by decide) ?_
    refine lv_idiv hx hb dR_addVariable_16 (by decide) ?_
    refine ls_topi (y := nI 512) (by decide) ?_
    refine lv_icmp_le (tgt := 21) hx hb dR_addVariable_17 (by decide) (fun c2 => ?_) (fun c2 => ?_)
    · have c2 : U ≤ 512 := (nI_leI (a := U) (b := 512) (by omega) (by omega)).mp c2
      refine lv_iconst (v := 0) hx hb dR_addVariable_21 (by decide) ?_
      refine lv_istore_n (lv' := [(2, .int 0), (0, .ref h), (1, .int (nI V))]) hx hb dR_addVariable_22 rfl hl (by decide) rfl (fun ls hl => ?_)
      refine lp_mu (α := Nat × (Nat → Int64)) (fun a_ => match a_ with | (i, g) => U - i) (fun a_ H locs ls => match a_ with | (i, g) => (i ≤ U ∧ (∀ k, k < U → g k = f k) ∧ ∀ k, k < i → g (U + k) = f k) ∧ va_P (dC, dI) vwCl [(h, .inr (0, [.ref w, .int (nI U)])), (w, .inl (cL, 1024, .inr (.inl g)))] H ∧ va_D A [(h, .inr (0, [.ref w, .int (nI U)])), (w, .inl (cL, 1024, .inr (.inl g)))] ∧ va_S A s.heap H locs ∧ lv_has ls 3 [(0, .ref h), (2, .int (nI i))]) ?_ (0, f) ⟨⟨Nat.zero_le _, fun _ _ => rfl, fun k hk => absurd hk (Nat.not_lt_zero _)⟩, hP, hD, hS, lv_sub hl [1, 0] rfl⟩
      intro a_ H locs ls hI ih
      obtain ⟨i, g⟩ := a_
      obtain ⟨hI, hP, hD, hS, hl⟩ := hI
      have hI : i ≤ U ∧ (∀ k, k < U → g k = f k) ∧ ∀ k, k < i → g (U + k) = f k := hI
      have hP : va_P (dC, dI) vwCl [(h, .inr (0, [.ref w, .int (nI U)])), (w, .inl (cL, 1024, .inr (.inl g)))] H := hP
      have hD : va_D A [(h, .inr (0, [.ref w, .int (nI U)])), (w, .inl (cL, 1024, .inr (.inl g)))] := hD
      have hl : lv_has ls 3 [(0, .ref h), (2, .int (nI i))] := hl
      obtain ⟨hi, hlo, hhi⟩ := hI
      refine lv_iload_n hx hb dR_addVariable_23 rfl (lv_at hl 1 rfl) ?_
      refine lv_aload_n hx hb dR_addVariable_24 rfl (lv_at hl 0 rfl) ?_
      refine va_get (D := (dC, dI)) (ci := 0) (v := .int (nI U)) (C := RR) (T := TR) (N := 2) hx hb hts lyR hown hK hP 0 rfl rfl 1 (by decide) (hts _ fl_R_15) (fun _ h9 => h9) rfl dR_addVariable_25 ?_
      refine lv_icmp_ge (tgt := 54) hx hb dR_addVariable_28 (by decide) (fun c3 => ?_) (fun c3 => ?_)
      · have c3 : U ≤ i := (nI_leI (a := U) (b := i) (by omega) (by omega)).mp c3
        refine lv_aload_n hx hb dR_addVariable_54 rfl (lv_at hl 0 rfl) ?_
        refine lv_iconst (v := 2) hx hb dR_addVariable_55 (by decide) ?_
        refine lv_aload_n hx hb dR_addVariable_56 rfl (lv_at hl 0 rfl) ?_
        refine va_get (D := (dC, dI)) (ci := 0) (v := .int (nI U)) (C := RR) (T := TR) (N := 2) hx hb hts lyR hown hK hP 0 rfl rfl 1 (by decide) (hts _ fl_R_15) (fun _ h9 => h9) rfl dR_addVariable_57 ?_
        refine lv_imul hx hb dR_addVariable_60 ?_
        refine ls_topi (y := nI (2 * U)) (pk_mul 2 U) ?_
        refine va_put (D := (dC, dI)) (ci := 0) (v := .int (nI (2 * U))) (ty := .int) (C := RR) (T := TR) (N := 2) hx hb hts lyR tyR tyR_ok nmR hown hK hP hD hS 0 rfl rfl 1 (by decide) (hts _ fl_R_15) (fun _ h9 => h9) rfl (by decide +kernel) rfl rfl (Nat.le_of_ble_eq_true rfl) dR_addVariable_61 (fun H locs hP hD hS => ?_)
        have hP : va_P (dC, dI) vwCl [(h, .inr (0, [.ref w, .int (nI (2 * U))])), (w, .inl (cL, 1024, .inr (.inl g)))] H := hP
        have hD : va_D A [(h, .inr (0, [.ref w, .int (nI (2 * U))])), (w, .inl (cL, 1024, .inr (.inl g)))] := hD
        exact (W.vret hx hb hr (fun t ht hW => ⟨⟨(g, 2 * U), rfl, Or.inr ⟨c1, rfl, fun k hk => ⟨hlo k hk, hhi k (by omega)⟩⟩, by rw [ht]; exact hP, va_K.moved hW.alike hK, hD⟩, hS.F ht⟩) hS.2.2 dR_addVariable_64)
      · have c3 : i < U := Nat.lt_of_not_le (fun q => c3 ((nI_leI (a := U) (b := i) (by omega) (by omega)).mpr q))
        refine lv_aload_n hx hb dR_addVariable_31 rfl (lv_at hl 0 rfl) ?_
        refine va_get (D := (dC, dI)) (ci := 0) (v := .ref w) (C := RR) (T := TR) (N := 2) hx hb hts lyR hown hK hP 0 rfl rfl 0 (by decide) (hts _ fl_R_11) (fun _ h9 => h9) rfl dR_addVariable_32 ?_
        refine lv_aload_n hx hb dR_addVariable_35 rfl (lv_at hl 0 rfl) ?_
        refine va_get (D := (dC, dI)) (ci := 0) (v := .int (nI U)) (C := RR) (T := TR) (N := 2) hx hb hts lyR hown hK hP 0 rfl rfl 1 (by decide) (hts _ fl_R_15) (fun _ h9 => h9) rfl dR_addVariable_36 ?_
        refine lv_iload_n hx hb dR_addVariable_39 rfl (lv_at hl 1 rfl) ?_
        refine lv_iadd hx hb dR_addVariable_40 ?_
        refine ls_topi (y := nI (U + i)) (nI_add _ _) ?_
        refine lv_aload_n hx hb dR_addVariable_41 rfl (lv_at hl 0 rfl) ?_
        refine va_get (D := (dC, dI)) (ci := 0) (v := .ref w) (C := RR) (T := TR) (N := 2) hx hb hts lyR hown hK hP 0 rfl rfl 0 (by decide) (hts _ fl_R_11) (fun _ h9 => h9) rfl dR_addVariable_42 ?_
        refine lv_iload_n hx hb dR_addVariable_45 rfl (lv_at hl 1 rfl) ?_
        refine va_lald hx hb hK hP 1 0 rfl rfl (vp_in_nI (by omega) (by decide)) dR_addVariable_46 ?_
        refine ls_topl (y := f i) (by rw [nI_clamp (by omega)]; exact hlo i c3) ?_
        refine va_last hx hb hK hP hD hS 1 0 rfl rfl (vp_in_nI (by omega) (by decide)) dR_addVariable_47 (fun H locs hP hD hS => ?_)
        rw [show vp_updL g (nI (U + i)).toNatClampNeg (f i) = vp_updL g (U + i) (f i) from by rw [nI_clamp (by omega)]] at hP hD
        have hP : va_P (dC, dI) vwCl [(h, .inr (0, [.ref w, .int (nI U)])), (w, .inl (cL, 1024, .inr (.inl (vp_updL g (U + i) (f i)))))] H := hP
        have hD : va_D A [(h, .inr (0, [.ref w, .int (nI U)])), (w, .inl (cL, 1024, .inr (.inl (vp_updL g (U + i) (f i)))))] := hD
        refine lv_iinc (v := nI (i + 1)) (lv' := [(2, .int (nI (i + 1))), (0, .ref h)]) hx hb dR_addVariable_48 hl (k := 1) rfl (nI_1 _) (by decide) rfl (fun ls hl => ?_)
        refine lv_goto (tgt := 23) hx hb dR_addVariable_51 (by decide) ?_
        exact ih (i + 1, vp_updL g (U + i) (f i)) _ _ _ (by show U - (i + 1) < U - i; omega) ⟨⟨c3, fun k hk => by unfold vp_updL; rw [if_neg (by omega)]; exact hlo k hk, fun k hk => by
            unfold vp_updL
            by_cases q : k = i
            · rw [if_pos (by omega), q]
            · rw [if_neg (by omega)]; exact hhi k (by omega)⟩, hP, hD, hS, lv_sub hl [1, 0] rfl⟩
    · have c2 : 512 < U := Nat.lt_of_not_le (fun q => c2 ((nI_leI (a := U) (b := 512) (by omega) (by omega)).mpr q))
      exact absurd c2 (by omega)
set_option maxHeartbeats 4000000 in
set_option maxRecDepth 100000 in
/-- dropInner(distance, zeros) -/
theorem k_R_dropInner (l : Launch) (dC : Nat → ClassId) (dI : Nat → Nat → Nat) (tI sz : Nat) (h w : Nat) (cL : ClassId) (f : Nat → Int64) (U : Nat) (hU : U ≤ 1024) (K : Nat) (zs : Int64) : Met l yR_dropInner (Cond.code yR_dropInner cR_dropInner 5 none :: GG) (lvr 0 0 0) (va_Pc [.ref h, .int (nI K), .long zs] (wPre dC dI [(cL, .long)] [(h, .inr (0, [.ref w, .int (nI U)])), (w, .inl (cL, 1024, .inr (.inl f)))] sz tI)) (va_Qv (fun (u : Nat → Int64) => ∀ k, k < U → u k = (f k ||| ls_ush (f k) K) &&& zs) (fun u t => wB dC dI [(cL, .long)] (va_A [(h, .inr (0, [.ref w, .int (nI U)])), (w, .inl (cL, 1024, .inr (.inl f)))] sz) [(h, .inr (0, [.ref w, .int (nI U)])), (w, .inl (cL, 1024, .inr (.inl u)))] t) (va_A [(h, .inr (0, [.ref w, .int (nI U)])), (w, .inl (cL, 1024, .inr (.inl f)))] sz)) 0 0 (va_A [(h, .inr (0, [.ref w, .int (nI U)])), (w, .inl (cL, 1024, .inr (.inl f)))] sz) := by
  refine Met.ofW (cc := cR_dropInner) (maxL := 5) (ret := none) (by decide) rfl ?_
  intro p e s m args below meth c s₁ B hml hv
  obtain ⟨rfl, hsz, hP, hK, hD0, hZ, hX⟩ := hv
  have hx := B.exec
  have hb := B.bytes
  have hr := B.returns
  have hts : ∀ w ∈ GG, w.before ([.ref h, .int (nI K), .long zs] : List Value).toArray s = true := fun w h => atoms_spec (ws := _ :: GG) B.pre w (List.mem_cons_of_mem _ h)
  have hown : s.vm.findClass RR = some m.cls := findClass_of_methodNamed B.named
  have hlocks := B.notSynchronized
  subst hsz
  have hD := hD0.self (sz := s.heap.size)
  generalize hAe : va_A [(h, .inr (0, [.ref w, .int (nI U)])), (w, .inl (cL, 1024, .inr (.inl f)))] s.heap.size = A at hD hZ ⊢
  have hA : ∀ q : Nat, s.heap.size ≤ q → A q := fun q h => by rw [← hAe]; exact Or.inr h
  have hS : va_S A s.heap s.heap [] := va_S.rf
  have hl := lv_entry ([.ref h, .int (nI K), .long zs]) (n := 5) (Nat.le_of_ble_eq_true rfl)
  rw [lg_entry_eq]
  generalize (lg_sl ([.ref h, .int (nI K), .long zs]) ++ List.replicate (5 - (lg_sl ([.ref h, .int (nI K), .long zs])).length) Slot.unset).toArray = ls at hl ⊢
  have hl : lv_has ls 5 [(0, .ref h), (1, .int (nI K)), (2, .long zs)] := hl
  have SF : CallFix p m c cR_dropInner 5 s ([.ref h, .int (nI K), .long zs] : List Value).toArray GG RR := ⟨hx, hb, hml, hown, hts⟩
  skip
  have hP : va_P (dC, dI) vwCl [(h, .inr (0, [.ref w, .int (nI U)])), (w, .inl (cL, 1024, .inr (.inl f)))] s.heap := hP
  refine lv_iconst (v := 0) hx hb dR_dropInner_0 (by decide) ?_
  refine lv_istore (lv' := [(4, .int 0), (0, .ref h), (1, .int (nI K)), (2, .long zs)]) hx hb dR_dropInner_1 hl (by decide) rfl (fun ls hl => ?_)
  refine lp_mu (α := Nat × (Nat → Int64)) (fun a_ => match a_ with | (i, g) => U - i) (fun a_ H locs ls => match a_ with | (i, g) => (i ≤ U ∧ (∀ k, k < i → g k = (f k ||| ls_ush (f k) K) &&& zs) ∧ ∀ k, i ≤ k → g k = f k) ∧ va_P (dC, dI) vwCl [(h, .inr (0, [.ref w, .int (nI U)])), (w, .inl (cL, 1024, .inr (.inl g)))] H ∧ va_D A [(h, .inr (0, [.ref w, .int (nI U)])), (w, .inl (cL, 1024, .inr (.inl g)))] ∧ va_S A s.heap H locs ∧ lv_has ls 5 [(0, .ref h), (1, .int (nI K)), (2, .long zs), (4, .int (nI i))]) ?_ (0, f) ⟨⟨Nat.zero_le _, fun k hk => absurd hk (Nat.not_lt_zero _), fun _ _ => rfl⟩, hP, hD, hS, lv_sub hl [1, 2, 3, 0] rfl⟩
  intro a_ H locs ls hI ih
  obtain ⟨i, g⟩ := a_
  obtain ⟨hI, hP, hD, hS, hl⟩ := hI
  have hI : i ≤ U ∧ (∀ k, k < i → g k = (f k ||| ls_ush (f k) K) &&& zs) ∧ ∀ k, i ≤ k → g k = f k := hI
  have hP : va_P (dC, dI) vwCl [(h, .inr (0, [.ref w, .int (nI U)])), (w, .inl (cL, 1024, .inr (.inl g)))] H := hP
  have hD : va_D A [(h, .inr (0, [.ref w, .int (nI U)])), (w, .inl (cL, 1024, .inr (.inl g)))] := hD
  have hl : lv_has ls 5 [(0, .ref h), (1, .int (nI K)), (2, .long zs), (4, .int (nI i))] := hl
  obtain ⟨hi, hg, hge⟩ := hI
  refine lv_iload hx hb dR_dropInner_3 (lv_at hl 3 rfl) ?_
  refine lv_aload_n hx hb dR_dropInner_5 rfl (lv_at hl 0 rfl) ?_
  refine va_get (D := (dC, dI)) (ci := 0) (v := .int (nI U)) (C := RR) (T := TR) (N := 2) hx hb hts lyR hown hK hP 0 rfl rfl 1 (by decide) (hts _ fl_R_15) (fun _ h9 => h9) rfl dR_dropInner_6 ?_
  refine lv_icmp_ge (tgt := 44) hx hb dR_dropInner_9 (by decide) (fun c1 => ?_) (fun c1 => ?_)
  · have c1 : U ≤ i := (nI_leI (a := U) (b := i) (by omega) (by omega)).mp c1
    exact (W.vret hx hb hr (fun t ht hW => ⟨⟨g, rfl, fun k hk => hg k (by omega), by rw [ht]; exact hP, va_K.moved hW.alike hK, hD⟩, hS.F ht⟩) hS.2.2 dR_dropInner_44)
  · have c1 : i < U := Nat.lt_of_not_le (fun q => c1 ((nI_leI (a := U) (b := i) (by omega) (by omega)).mpr q))
    refine lv_aload_n hx hb dR_dropInner_12 rfl (lv_at hl 0 rfl) ?_
    refine va_get (D := (dC, dI)) (ci := 0) (v := .ref w) (C := RR) (T := TR) (N := 2) hx hb hts lyR hown hK hP 0 rfl rfl 0 (by decide) (hts _ fl_R_11) (fun _ h9 => h9) rfl dR_dropInner_13 ?_
    refine lv_iload hx hb dR_dropInner_16 (lv_at hl 3 rfl) ?_
    refine lv_aload_n hx hb dR_dropInner_18 rfl (lv_at hl 0 rfl) ?_
    refine va_get (D := (dC, dI)) (ci := 0) (v := .ref w) (C := RR) (T := TR) (N := 2) hx hb hts lyR hown hK hP 0 rfl rfl 0 (by decide) (hts _ fl_R_11) (fun _ h9 => h9) rfl dR_dropInner_19 ?_
    refine lv_iload hx hb dR_dropInner_22 (lv_at hl 3 rfl) ?_
    refine va_lald hx hb hK hP 1 0 rfl rfl (vp_in_nI (by omega) (by decide)) dR_dropInner_24 ?_
    refine ls_topl (y := f i) (by rw [nI_clamp (by omega)]; exact hge i (Nat.le_refl i)) ?_
    refine lv_aload_n hx hb dR_dropInner_25 rfl (lv_at hl 0 rfl) ?_
    refine va_get (D := (dC, dI)) (ci := 0) (v := .ref w) (C := RR) (T := TR) (N := 2) hx hb hts lyR hown hK hP 0 rfl rfl 0 (by decide) (hts _ fl_R_11) (fun _ h9 => h9) rfl dR_dropInner_26 ?_
    refine lv_iload hx hb dR_dropInner_29 (lv_at hl 3 rfl) ?_
    refine va_lald hx hb hK hP 1 0 rfl rfl (vp_in_nI (by omega) (by decide)) dR_dropInner_31 ?_
    refine ls_topl (y := f i) (by rw [nI_clamp (by omega)]; exact hge i (Nat.le_refl i)) ?_
    refine lv_iload_n hx hb dR_dropInner_32 rfl (lv_at hl 1 rfl) ?_
    refine lv_lushr hx hb dR_dropInner_33 rfl ?_
    refine ls_topl (y := ls_ush (f i) K) (rfl) ?_
    refine lv_lor hx hb dR_dropInner_34 ?_
    refine lv_lload_n hx hb dR_dropInner_35 rfl (lv_at hl 2 rfl) ?_
    refine lv_land hx hb dR_dropInner_36 ?_
    refine va_last hx hb hK hP hD hS 1 0 rfl rfl (vp_in_nI (by omega) (by decide)) dR_dropInner_37 (fun H locs hP hD hS => ?_)
    rw [show vp_updL g (nI i).toNatClampNeg (((f i) ||| (ls_ush (f i) K)) &&& zs) = vp_updL g i ((f i ||| ls_ush (f i) K) &&& zs) from by rw [nI_clamp (by omega)]] at hP hD
    have hP : va_P (dC, dI) vwCl [(h, .inr (0, [.ref w, .int (nI U)])), (w, .inl (cL, 1024, .inr (.inl (vp_updL g i ((f i ||| ls_ush (f i) K) &&& zs)))))] H := hP
    have hD : va_D A [(h, .inr (0, [.ref w, .int (nI U)])), (w, .inl (cL, 1024, .inr (.inl (vp_updL g i ((f i ||| ls_ush (f i) K) &&& zs)))))] := hD
    refine lv_iinc (v := nI (i + 1)) (lv' := [(4, .int (nI (i + 1))), (0, .ref h), (1, .int (nI K)), (2, .long zs)]) hx hb dR_dropInner_38 hl (k := 3) rfl (nI_1 _) (by decide) rfl (fun ls hl => ?_)
    refine lv_goto (tgt := 3) hx hb dR_dropInner_41 (by decide) ?_
    exact ih (i + 1, vp_updL g i ((f i ||| ls_ush (f i) K) &&& zs)) _ _ _ (by show U - (i + 1) < U - i; omega) ⟨⟨c1, ax_lt (f := fun k => (f k ||| ls_ush (f k) K) &&& zs) hg rfl, ax_ge hge⟩, hP, hD, hS, lv_sub hl [1, 2, 3, 0] rfl⟩
set_option maxHeartbeats 4000000 in
set_option maxRecDepth 100000 in
/-- dropOuter(distance) -/
theorem k_R_dropOuter (l : Launch) (dC : Nat → ClassId) (dI : Nat → Nat → Nat) (tI sz : Nat) (h w : Nat) (cL : ClassId) (f : Nat → Int64) (U : Nat) (hU : U ≤ 1024) (ex n : Nat) (hn : U = 2 ^ n) (hn1 : n ≤ 10) (he : ex < 10) : Met l yR_dropOuter (Cond.code yR_dropOuter cR_dropOuter 4 none :: GG) (lvr 0 0 0) (va_Pc [.ref h, .int (nI (2 ^ ex))] (wPre dC dI [(cL, .long)] [(h, .inr (0, [.ref w, .int (nI U)])), (w, .inl (cL, 1024, .inr (.inl f)))] sz tI)) (va_Qv (fun (u : (Nat → Int64) × Nat) => (U ≤ 2 ^ ex ∧ u = (f, U)) ∨ (2 ^ ex < U ∧ u.2 = U / 2 ∧ ∀ k, k < U / 2 → u.1 k = f (dp_in ex k) ||| f (dp_in ex k + 2 ^ ex))) (fun u t => wB dC dI [(cL, .long)] (va_A [(h, .inr (0, [.ref w, .int (nI U)])), (w, .inl (cL, 1024, .inr (.inl f)))] sz) [(h, .inr (0, [.ref w, .int (nI u.2)])), (w, .inl (cL, 1024, .inr (.inl u.1)))] t) (va_A [(h, .inr (0, [.ref w, .int (nI U)])), (w, .inl (cL, 1024, .inr (.inl f)))] sz)) 0 0 (va_A [(h, .inr (0, [.ref w, .int (nI U)])), (w, .inl (cL, 1024, .inr (.inl f)))] sz) := by
  refine Met.ofW (cc := cR_dropOuter) (maxL := 4) (ret := none) (by decide) rfl ?_
  intro p e s m args below meth c s₁ B hml hv
  obtain ⟨rfl, hsz, hP, hK, hD0, hZ, hX⟩ := hv
  have hx := B.exec
  have hb := B.bytes
  have hr := B.returns
  have hts : ∀ w ∈ GG, w.before ([.ref h, .int (nI (2 ^ ex))] : List Value).toArray s = true := fun w h => atoms_spec (ws := _ :: GG) B.pre w (List.mem_cons_of_mem _ h)
  have hown : s.vm.findClass RR = some m.cls := findClass_of_methodNamed B.named
  have hlocks := B.notSynchronized
  subst hsz
  have hD := hD0.self (sz := s.heap.size)
  generalize hAe : va_A [(h, .inr (0, [.ref w, .int (nI U)])), (w, .inl (cL, 1024, .inr (.inl f)))] s.heap.size = A at hD hZ ⊢
  have hA : ∀ q : Nat, s.heap.size ≤ q → A q := fun q h => by rw [← hAe]; exact Or.inr h
  have hS : va_S A s.heap s.heap [] := va_S.rf
  have hl := lv_entry ([.ref h, .int (nI (2 ^ ex))]) (n := 4) (Nat.le_of_ble_eq_true rfl)
  rw [lg_entry_eq]
  generalize (lg_sl ([.ref h, .int (nI (2 ^ ex))]) ++ List.replicate (4 - (lg_sl ([.ref h, .int (nI (2 ^ ex))])).length) Slot.unset).toArray = ls at hl ⊢
  have hl : lv_has ls 4 [(0, .ref h), (1, .int (nI (2 ^ ex)))] := hl
  have SF : CallFix p m c cR_dropOuter 4 s ([.ref h, .int (nI (2 ^ ex))] : List Value).toArray GG RR := ⟨hx, hb, hml, hown, hts⟩
  skip
  have hP : va_P (dC, dI) vwCl [(h, .inr (0, [.ref w, .int (nI U)])), (w, .inl (cL, 1024, .inr (.inl f)))] s.heap := hP
  have hp : 2 ^ ex ≤ 512 := Nat.le_trans (Nat.pow_le_pow_right (by decide) (show ex ≤ 9 by omega)) (by decide)
  refine lv_iload_n hx hb dR_dropOuter_0 rfl (lv_at hl 1 rfl) ?_
  refine lv_aload_n hx hb dR_dropOuter_1 rfl (lv_at hl 0 rfl) ?_
  refine va_get (D := (dC, dI)) (ci := 0) (v := .int (nI U)) (C := RR) (T := TR) (N := 2) hx hb hts lyR hown hK hP 0 rfl rfl 1 (by decide) (hts _ fl_R_15) (fun _ h9 => h9) rfl dR_dropOuter_2 ?_
  refine lv_icmp_lt (tgt := 9) hx hb dR_dropOuter_5 (by decide) (fun c1 => ?_) (fun c1 => ?_)
  · have c1 : (2 ^ ex) < U := (nI_ltI (a := (2 ^ ex)) (b := U) (by omega) (by omega)).mp c1
    refine lv_iconst (v := 0) hx hb dR_dropOuter_9 (by decide) ?_
    refine lv_istore_n (lv' := [(2, .int 0), (0, .ref h), (1, .int (nI (2 ^ ex)))]) hx hb dR_dropOuter_10 rfl hl (by decide) rfl (fun ls hl => ?_)
    refine lv_iconst (v := 0) hx hb dR_dropOuter_11 (by decide) ?_
    refine lv_istore_n (lv' := [(3, .int 0), (2, .int 0), (0, .ref h), (1, .int (nI (2 ^ ex)))]) hx hb dR_dropOuter_12 rfl hl (by decide) rfl (fun ls hl => ?_)
    have hd0 : dp_kp ex 0 = 0 := dp_0 ex
    have hl : lv_has ls 4 [(3, .int 0), (2, .int (nI (dp_kp ex 0))), (0, .ref h), (1, .int (nI (2 ^ ex)))] := by rw [hd0]; exact hl
    refine lp_mu (α := Nat × (Nat → Int64)) (fun a_ => match a_ with | (i, g) => U - i) (fun a_ H locs ls => match a_ with | (i, g) => (dp_I f U ex i g) ∧ va_P (dC, dI) vwCl [(h, .inr (0, [.ref w, .int (nI U)])), (w, .inl (cL, 1024, .inr (.inl g)))] H ∧ va_D A [(h, .inr (0, [.ref w, .int (nI U)])), (w, .inl (cL, 1024, .inr (.inl g)))] ∧ va_S A s.heap H locs ∧ lv_has ls 4 [(0, .ref h), (1, .int (nI (2 ^ ex))), (2, .int (nI (dp_kp ex i))), (3, .int (nI i))]) ?_ (0, f) ⟨dp_I0 c1, hP, hD, hS, lv_sub hl [2, 3, 1, 0] rfl⟩
    intro a_ H locs ls hI ih
    obtain ⟨i, g⟩ := a_
    obtain ⟨hI, hP, hD, hS, hl⟩ := hI
    have hI : dp_I f U ex i g := hI
    have hP : va_P (dC, dI) vwCl [(h, .inr (0, [.ref w, .int (nI U)])), (w, .inl (cL, 1024, .inr (.inl g)))] H := hP
    have hD : va_D A [(h, .inr (0, [.ref w, .int (nI U)])), (w, .inl (cL, 1024, .inr (.inl g)))] := hD
    have hl : lv_has ls 4 [(0, .ref h), (1, .int (nI (2 ^ ex))), (2, .int (nI (dp_kp ex i))), (3, .int (nI i))] := hl
    have hkl := dp_le (e := ex) (i := i) (by omega)
    have hle := hI.1
    refine lv_iload_n hx hb dR_dropOuter_13 rfl (lv_at hl 3 rfl) ?_
    refine lv_iload_n hx hb dR_dropOuter_14 rfl (lv_at hl 1 rfl) ?_
    refine lv_iadd hx hb dR_dropOuter_15 ?_
    refine ls_topi (y := nI (i + 2 ^ ex)) (nI_add _ _) ?_
    refine lv_aload_n hx hb dR_dropOuter_16 rfl (lv_at hl 0 rfl) ?_
    refine va_get (D := (dC, dI)) (ci := 0) (v := .int (nI U)) (C := RR) (T := TR) (N := 2) hx hb hts lyR hown hK hP 0 rfl rfl 1 (by decide) (hts _ fl_R_15) (fun _ h9 => h9) rfl dR_dropOuter_17 ?_
    refine lv_icmp_ge (tgt := 59) hx hb dR_dropOuter_20 (by decide) (fun c2 => ?_) (fun c2 => ?_)
    · have c2 : U ≤ (i + 2 ^ ex) := (nI_leI (a := U) (b := (i + 2 ^ ex)) (by omega) (by omega)).mp c2
      obtain ⟨ek, hen⟩ := dp_end (e := ex) (n := n) (i := i) (by omega) (by rw [← hn]; exact c1) (by rw [← hn]; exact c2) (by rw [← hn]; exact hle)
      refine lv_aload_n hx hb dR_dropOuter_59 rfl (lv_at hl 0 rfl) ?_
      refine lv_iload_n hx hb dR_dropOuter_60 rfl (lv_at hl 2 rfl) ?_
      refine va_put (D := (dC, dI)) (ci := 0) (v := .int (nI (dp_kp ex i))) (ty := .int) (C := RR) (T := TR) (N := 2) hx hb hts lyR tyR tyR_ok nmR hown hK hP hD hS 0 rfl rfl 1 (by decide) (hts _ fl_R_15) (fun _ h9 => h9) rfl (by decide +kernel) rfl rfl (Nat.le_of_ble_eq_true rfl) dR_dropOuter_61 (fun H locs hP hD hS => ?_)
      have hP : va_P (dC, dI) vwCl [(h, .inr (0, [.ref w, .int (nI (dp_kp ex i))])), (w, .inl (cL, 1024, .inr (.inl g)))] H := hP
      have hD : va_D A [(h, .inr (0, [.ref w, .int (nI (dp_kp ex i))])), (w, .inl (cL, 1024, .inr (.inl g)))] := hD
      exact (W.vret hx hb hr (fun t ht hW => ⟨⟨(g, dp_kp ex i), rfl, Or.inr ⟨c1, by show dp_kp ex i = _; rw [ek, hn], fun k hk => hI.2.1 k (by rw [ek, ← hn]; exact hk)⟩, by rw [ht]; exact hP, va_K.moved hW.alike hK, hD⟩, hS.F ht⟩) hS.2.2 dR_dropOuter_64)
    · have c2 : (i + 2 ^ ex) < U := Nat.lt_of_not_le (fun q => c2 ((nI_leI (a := U) (b := (i + 2 ^ ex)) (by omega) (by omega)).mpr q))
      refine lv_iload_n hx hb dR_dropOuter_23 rfl (lv_at hl 3 rfl) ?_
      refine lv_iload_n hx hb dR_dropOuter_24 rfl (lv_at hl 1 rfl) ?_
      refine lv_iand hx hb dR_dropOuter_25 ?_
      refine ls_topi (y := nI (i / 2 ^ ex % 2 * 2 ^ ex)) (by rw [nx_and, dp_and]) ?_
      have hm : i / 2 ^ ex % 2 = 0 ∨ i / 2 ^ ex % 2 = 1 := by omega
      have hpp : 0 < 2 ^ ex := Nat.pow_pos (by decide)
      refine lv_if_ne (tgt := 53) hx hb dR_dropOuter_26 (by decide) (fun c3 => ?_) (fun c3 => ?_)
      · have hz : i / 2 ^ ex % 2 = 1 := by
          rcases hm with q | q
          · rw [q, Nat.zero_mul] at c3; exact absurd rfl c3
          · exact q
        refine lv_iinc (v := nI (i + 1)) (lv' := [(3, .int (nI (i + 1))), (0, .ref h), (1, .int (nI (2 ^ ex))), (2, .int (nI (dp_kp ex i)))]) hx hb dR_dropOuter_53 hl (k := 3) rfl (nI_1 _) (by decide) rfl (fun ls hl => ?_)
        refine lv_goto (tgt := 13) hx hb dR_dropOuter_56 (by decide) ?_
        rw [← dp_o (by omega) hz] at hl
        exact ih (i + 1, g) _ _ _ (by show U - (i + 1) < U - i; omega) ⟨dp_Io (by omega) hI c2 hz, hP, hD, hS, lv_sub hl [1, 2, 3, 0] rfl⟩
      · have hz : i / 2 ^ ex % 2 = 0 := by
          rcases hm with q | q
          · exact q
          · rw [q, Nat.one_mul] at c3; exact absurd c3 (nI_ne0 hpp (by omega))
        refine lv_aload_n hx hb dR_dropOuter_29 rfl (lv_at hl 0 rfl) ?_
        refine va_get (D := (dC, dI)) (ci := 0) (v := .ref w) (C := RR) (T := TR) (N := 2) hx hb hts lyR hown hK hP 0 rfl rfl 0 (by decide) (hts _ fl_R_11) (fun _ h9 => h9) rfl dR_dropOuter_30 ?_
        refine lv_iload_n hx hb dR_dropOuter_33 rfl (lv_at hl 2 rfl) ?_
        refine lv_aload_n hx hb dR_dropOuter_34 rfl (lv_at hl 0 rfl) ?_
        refine va_get (D := (dC, dI)) (ci := 0) (v := .ref w) (C := RR) (T := TR) (N := 2) hx hb hts lyR hown hK hP 0 rfl rfl 0 (by decide) (hts _ fl_R_11) (fun _ h9 => h9) rfl dR_dropOuter_35 ?_
        refine lv_iload_n hx hb dR_dropOuter_38 rfl (lv_at hl 3 rfl) ?_
        refine va_lald hx hb hK hP 1 0 rfl rfl (vp_in_nI (by omega) (by decide)) dR_dropOuter_39 ?_
        refine ls_topl (y := f i) (by rw [nI_clamp (by omega)]; exact hI.2.2 i hkl) ?_
        refine lv_aload_n hx hb dR_dropOuter_40 rfl (lv_at hl 0 rfl) ?_
        refine va_get (D := (dC, dI)) (ci := 0) (v := .ref w) (C := RR) (T := TR) (N := 2) hx hb hts lyR hown hK hP 0 rfl rfl 0 (by decide) (hts _ fl_R_11) (fun _ h9 => h9) rfl dR_dropOuter_41 ?_
        refine lv_iload_n hx hb dR_dropOuter_44 rfl (lv_at hl 3 rfl) ?_
        refine lv_iload_n hx hb dR_dropOuter_45 rfl (lv_at hl 1 rfl) ?_
        refine lv_iadd hx hb dR_dropOuter_46 ?_
        refine ls_topi (y := nI (i + 2 ^ ex)) (nI_add _ _) ?_
        refine va_lald hx hb hK hP 1 0 rfl rfl (vp_in_nI (by omega) (by decide)) dR_dropOuter_47 ?_
        refine ls_topl (y := f (i + 2 ^ ex)) (by rw [nI_clamp (by omega)]; exact hI.2.2 _ (by omega)) ?_
        refine lv_lor hx hb dR_dropOuter_48 ?_
        refine va_last hx hb hK hP hD hS 1 0 rfl rfl (vp_in_nI (by omega) (by decide)) dR_dropOuter_49 (fun H locs hP hD hS => ?_)
        rw [show vp_updL g (nI (dp_kp ex i)).toNatClampNeg ((f i) ||| (f (i + 2 ^ ex))) = vp_updL g (dp_kp ex i) (f i ||| f (i + 2 ^ ex)) from by rw [nI_clamp (by omega)]] at hP hD
        have hP : va_P (dC, dI) vwCl [(h, .inr (0, [.ref w, .int (nI U)])), (w, .inl (cL, 1024, .inr (.inl (vp_updL g (dp_kp ex i) (f i ||| f (i + 2 ^ ex))))))] H := hP
        have hD : va_D A [(h, .inr (0, [.ref w, .int (nI U)])), (w, .inl (cL, 1024, .inr (.inl (vp_updL g (dp_kp ex i) (f i ||| f (i + 2 ^ ex))))))] := hD
        refine lv_iinc (v := nI (dp_kp ex (i + 1))) (lv' := [(2, .int (nI (dp_kp ex (i + 1)))), (0, .ref h), (1, .int (nI (2 ^ ex))), (3, .int (nI i))]) hx hb dR_dropOuter_50 hl (k := 2) rfl (by rw [(dp_z (by omega) hz).1]; exact nI_1 _) (by decide) rfl (fun ls hl => ?_)
        refine lv_iinc (v := nI (i + 1)) (lv' := [(3, .int (nI (i + 1))), (2, .int (nI (dp_kp ex (i + 1)))), (0, .ref h), (1, .int (nI (2 ^ ex)))]) hx hb dR_dropOuter_53 hl (k := 3) rfl (nI_1 _) (by decide) rfl (fun ls hl => ?_)
        refine lv_goto (tgt := 13) hx hb dR_dropOuter_56 (by decide) ?_
        exact ih (i + 1, vp_updL g (dp_kp ex i) (f i ||| f (i + 2 ^ ex))) _ _ _ (by show U - (i + 1) < U - i; omega) ⟨dp_Iz (by omega) hI c2 hz, hP, hD, hS, lv_sub hl [2, 3, 1, 0] rfl⟩
  · have c1 : U ≤ (2 ^ ex) := Nat.le_of_not_lt (fun q => c1 ((nI_ltI (a := (2 ^ ex)) (b := U) (by omega) (by omega)).mpr q))
    exact (W.vret hx hb hr (fun t ht hW => ⟨⟨(f, U), rfl, Or.inl ⟨c1, rfl⟩, by rw [ht]; exact hP, va_K.moved hW.alike hK, hD⟩, hS.F ht⟩) hS.2.2 dR_dropOuter_8)
set_option maxHeartbeats 4000000 in
set_option maxRecDepth 100000 in
/-- dropVariable(v) -/
theorem k_R_dropVariable (l : Launch) (dC : Nat → ClassId) (dI : Nat → Nat → Nat) (tI sz : Nat) (h w : Nat) (cL : ClassId) (f : Nat → Int64) (U : Nat) (hU : U ≤ 1024) (V n : Nat) (hn : U = 2 ^ n) (hn1 : n ≤ 10) (hV : V < 16) : Met l yR_dropVariable (Cond.code yR_dropVariable cR_dropVariable 2 none :: GG) (lvr 1 0 0) (va_Pc [.ref h, .int (nI V)] (wPre dC dI [(cL, .long)] [(h, .inr (0, [.ref w, .int (nI U)])), (w, .inl (cL, 1024, .inr (.inl f)))] sz tI)) (va_Qv (fun (u : (Nat → Int64) × Nat) => (V < 6 ∧ u.2 = U ∧ ∀ k, k < U → u.1 k = (f k ||| ls_ush (f k) (2 ^ V)) &&& (ls_ones V ^^^ (-1))) ∨ (6 ≤ V ∧ ((U ≤ 2 ^ (V - 6) ∧ u = (f, U)) ∨ (2 ^ (V - 6) < U ∧ u.2 = U / 2 ∧ ∀ k, k < U / 2 → u.1 k = f (dp_in (V - 6) k) ||| f (dp_in (V - 6) k + 2 ^ (V - 6)))))) (fun u t => wB dC dI [(cL, .long)] (va_A [(h, .inr (0, [.ref w, .int (nI U)])), (w, .inl (cL, 1024, .inr (.inl f)))] sz) [(h, .inr (0, [.ref w, .int (nI u.2)])), (w, .inl (cL, 1024, .inr (.inl u.1)))] t) (va_A [(h, .inr (0, [.ref w, .int (nI U)])), (w, .inl (cL, 1024, .inr (.inl f)))] sz)) 0 0 (va_A [(h, .inr (0, [.ref w, .int (nI U)])), (w, .inl (cL, 1024, .inr (.inl f)))] sz) := by
  refine Met.ofW (cc := cR_dropVariable) (maxL := 2) (ret := none) (by decide) rfl ?_
  intro p e s m args below meth c s₁ B hml hv
  obtain ⟨rfl, hsz, hP, hK, hD0, hZ, hX⟩ := hv
  have hx := B.exec
  have hb := B.bytes
  have hr := B.returns
  have hts : ∀ w ∈ GG, w.before ([.ref h, .int (nI V)] : List Value).toArray s = true := fun w h => atoms_spec (ws := _ :: GG) B.pre w (List.mem_cons_of_mem _ h)
  have hown : s.vm.findClass RR = some m.cls := findClass_of_methodNamed B.named
  have hlocks := B.notSynchronized
  subst hsz
  have hD := hD0.self (sz := s.heap.size)
  generalize hAe : va_A [(h, .inr (0, [.ref w, .int (nI U)])), (w, .inl (cL, 1024, .inr (.inl f)))] s.heap.size = A at hD hZ ⊢
  have hA : ∀ q : Nat, s.heap.size ≤ q → A q := fun q h => by rw [← hAe]; exact Or.inr h
  have hS : va_S A s.heap s.heap [] := va_S.rf
  have hl := lv_entry ([.ref h, .int (nI V)]) (n := 2) (Nat.le_of_ble_eq_true rfl)
  rw [lg_entry_eq]
  generalize (lg_sl ([.ref h, .int (nI V)]) ++ List.replicate (2 - (lg_sl ([.ref h, .int (nI V)])).length) Slot.unset).toArray = ls at hl ⊢
  have hl : lv_has ls 2 [(0, .ref h), (1, .int (nI V))] := hl
  have SF : CallFix p m c cR_dropVariable 2 s ([.ref h, .int (nI V)] : List Value).toArray GG RR := ⟨hx, hb, hml, hown, hts⟩
  skip
  have hP : va_P (dC, dI) vwCl [(h, .inr (0, [.ref w, .int (nI U)])), (w, .inl (cL, 1024, .inr (.inl f)))] s.heap := hP
  refine lv_iload_n hx hb dR_dropVariable_0 rfl (lv_at hl 1 rfl) ?_
  refine lv_if_lt (tgt := 10) hx hb dR_dropVariable_1 (by decide) (fun c1 => ?_) (fun c1 => ?_)
  · have c1 : V < 0 := (nI_ltI (a := V) (b := 0) (by omega) (by omega)).mp c1
    exact absurd c1 (Nat.not_lt_zero _)
  · have c1 : 0 ≤ V := Nat.le_of_not_lt (fun q => c1 ((nI_ltI (a := V) (b := 0) (by omega) (by omega)).mpr q))
    refine lv_iload_n hx hb dR_dropVariable_4 rfl (lv_at hl 1 rfl) ?_
    refine lv_bipush (v := 16) hx hb dR_dropVariable_5 (by decide) ?_
    refine lv_icmp_lt (tgt := 11) hx hb dR_dropVariable_7 (by decide) (fun c2 => ?_) (fun c2 => ?_)
    · have c2 : V < 16 := (nI_ltI (a := V) (b := 16) (by omega) (by omega)).mp c2
      refine lv_iload_n hx hb dR_dropVariable_11 rfl (lv_at hl 1 rfl) ?_
      refine va_gets hx hb hZ.1 hS hown (hts _ fl_R_21) (fun _ h9 => h9) dR_dropVariable_12 ?_
      refine va_tlen (v := 6) hx hb hZ.2.1 hS rfl dR_dropVariable_15 ?_
      refine lv_icmp_ge (tgt := 38) hx hb dR_dropVariable_16 (by decide) (fun c3 => ?_) (fun c3 => ?_)
      · have c3 : 6 ≤ V := (nI_leI (a := 6) (b := V) (by omega) (by omega)).mp c3
        refine lv_aload_n hx hb dR_dropVariable_38 rfl (lv_at hl 0 rfl) ?_
        refine lv_iconst (v := 1) hx hb dR_dropVariable_39 (by decide) ?_
        refine lv_iload_n hx hb dR_dropVariable_40 rfl (lv_at hl 1 rfl) ?_
        refine lv_bipush (v := 6) hx hb dR_dropVariable_41 (by decide) ?_
        refine lv_isub hx hb dR_dropVariable_43 ?_
        refine ls_topi (y := nI (V - 6)) (pk_sub c3) ?_
        refine lv_ishl hx hb dR_dropVariable_44 ?_
        refine ls_topi (y := nI (2 ^ (V - 6))) (by have q := ls_shl (n := 1) (k := V - 6) (by omega) (by rw [Nat.one_mul]; exact Nat.pow_lt_pow_right (by decide) (by omega)); rw [Nat.one_mul] at q; exact q) ?_
        have hFc := va_free (wc := [(h, .inr (0, [.ref w, .int (nI U)])), (w, .inl (cL, 1024, .inr (.inl f)))]) hD hS hA [0, 1] rfl
        refine wc_v (wc_V (As := [.int (nI (2 ^ (V - 6)))]) (rest := []) (n := 1) SF (k_R_dropOuter l dC dI tI _ h w cL f U hU (V - 6) n hn hn1 (by omega)) ml_R_28 im_R_dropOuter se_R_dropOuter in_R co_R_dropOuter (by decide +kernel) rfl rfl rfl ⟨Nat.le_of_ble_eq_true rfl, Nat.le_of_ble_eq_true rfl⟩ (va_recv (hK.sub (tys' := []) [] rfl) (hP.sub (ws' := [(h, .inr (0, [.ref w, .int (nI U)])), (w, .inl (cL, 1024, .inr (.inl f)))]) [0, 1] rfl) (ci := 0) (q0 := 0) rfl rfl) (hP.sub [0, 1] rfl) (hD.sub [0, 1] (by decide) rfl) (hK.sub [0] rfl) hZ hX hS hFc rfl hl.1 (Nat.le_of_ble_eq_true rfl) dR_dropVariable_45 ⟨Nat.le_of_ble_eq_true rfl, Nat.le_of_ble_eq_true rfl⟩) hP hD hS hFc [0, 1] [] (wr := []) rfl rfl rfl (by decide) (fun uu H locs hw hP hD hS => ?_)
        have hP : va_P (dC, dI) vwCl [(h, .inr (0, [.ref w, .int (nI uu.2)])), (w, .inl (cL, 1024, .inr (.inl uu.1)))] H := hP.sub [0, 1] rfl
        have hD : va_D A [(h, .inr (0, [.ref w, .int (nI uu.2)])), (w, .inl (cL, 1024, .inr (.inl uu.1)))] := hD.sub [0, 1] (by decide) rfl
        exact (W.vret hx hb hr (fun t ht hW => ⟨⟨(uu.1, uu.2), rfl, Or.inr ⟨c3, hw⟩, by rw [ht]; exact hP, va_K.moved hW.alike hK, hD⟩, hS.F ht⟩) hS.2.2 dR_dropVariable_48)
      · have c3 : V < 6 := Nat.lt_of_not_le (fun q => c3 ((nI_leI (a := 6) (b := V) (by omega) (by omega)).mpr q))
        refine lv_aload_n hx hb dR_dropVariable_19 rfl (lv_at hl 0 rfl) ?_
        refine lv_iconst (v := 1) hx hb dR_dropVariable_20 (by decide) ?_
        refine lv_iload_n hx hb dR_dropVariable_21 rfl (lv_at hl 1 rfl) ?_
        refine lv_ishl hx hb dR_dropVariable_22 ?_
        refine ls_topi (y := nI (2 ^ V)) (by have q := ls_shl (n := 1) (k := V) (by omega) (by rw [Nat.one_mul]; exact Nat.pow_lt_pow_right (by decide) (by omega)); rw [Nat.one_mul] at q; exact q) ?_
        refine va_gets hx hb hZ.1 hS hown (hts _ fl_R_21) (fun _ h9 => h9) dR_dropVariable_23 ?_
        refine lv_iload_n hx hb dR_dropVariable_26 rfl (lv_at hl 1 rfl) ?_
        refine va_tl (v := .long (ls_ones V)) hx hb hZ.2.1 hS (vp_in_nI c3 (by decide)) (by rw [nI_clamp (by omega)]) dR_dropVariable_27 ?_
        refine lv_ldc2 (v := (-1)) hx hb hown (hts _ cj_R_19) dR_dropVariable_28 ?_
        refine lv_lxor hx hb dR_dropVariable_31 ?_
        have hFc := va_free (wc := [(h, .inr (0, [.ref w, .int (nI U)])), (w, .inl (cL, 1024, .inr (.inl f)))]) hD hS hA [0, 1] rfl
        refine wc_v (wc_V (As := [.int (nI (2 ^ V)), .long ((ls_ones V) ^^^ (-1))]) (rest := []) (n := 2) SF (k_R_dropInner l dC dI tI _ h w cL f U hU (2 ^ V) (ls_ones V ^^^ (-1))) ml_R_24 im_R_dropInner se_R_dropInner in_R co_R_dropInner (by decide +kernel) rfl rfl rfl ⟨Nat.le_of_ble_eq_true rfl, Nat.le_of_ble_eq_true rfl⟩ (va_recv (hK.sub (tys' := []) [] rfl) (hP.sub (ws' := [(h, .inr (0, [.ref w, .int (nI U)])), (w, .inl (cL, 1024, .inr (.inl f)))]) [0, 1] rfl) (ci := 0) (q0 := 0) rfl rfl) (hP.sub [0, 1] rfl) (hD.sub [0, 1] (by decide) rfl) (hK.sub [0] rfl) hZ hX hS hFc rfl hl.1 (Nat.le_of_ble_eq_true rfl) dR_dropVariable_32 ⟨Nat.le_of_ble_eq_true rfl, Nat.le_of_ble_eq_true rfl⟩) hP hD hS hFc [0, 1] [] (wr := []) rfl rfl rfl (by decide) (fun uu H locs hw hP hD hS => ?_)
        have hP : va_P (dC, dI) vwCl [(h, .inr (0, [.ref w, .int (nI U)])), (w, .inl (cL, 1024, .inr (.inl uu)))] H := hP.sub [0, 1] rfl
        have hD : va_D A [(h, .inr (0, [.ref w, .int (nI U)])), (w, .inl (cL, 1024, .inr (.inl uu)))] := hD.sub [0, 1] (by decide) rfl
        refine lv_goto (tgt := 48) hx hb dR_dropVariable_35 (by decide) ?_
        exact (W.vret hx hb hr (fun t ht hW => ⟨⟨(uu, U), rfl, Or.inl ⟨c3, rfl, hw⟩, by rw [ht]; exact hP, va_K.moved hW.alike hK, hD⟩, hS.F ht⟩) hS.2.2 dR_dropVariable_48)
    · have c2 : 16 ≤ V := Nat.le_of_not_lt (fun q => c2 ((nI_ltI (a := V) (b := 16) (by omega) (by omega)).mpr q))
      exact absurd c2 (by omega)
set_option maxHeartbeats 4000000 in
set_option maxRecDepth 100000 in
/-- keepClause(clause, length) -/
theorem k_R_keepClause (l : Launch) (dC : Nat → ClassId) (dI : Nat → Nat → Nat) (tI sz : Nat) (h w : Nat) (cL : ClassId) (f : Nat → Int64) (U : Nat) (hU : U ≤ 1024) (q : Nat) (cI : ClassId) (cf : Nat → Int32) (cn : Nat → Nat) (n : Nat) (hn : n ≤ 40) (hc : ∀ j, j < n → cf j = nI (cn j) ∧ cn j < 32) : Met l yR_keepClause (Cond.code yR_keepClause cR_keepClause 7 none :: GG) (lvr 1 0 0) (va_Pc [.ref h, .ref q, .int (nI n)] (wPre dC dI [(cL, .long), (cI, .int)] [(h, .inr (0, [.ref w, .int (nI U)])), (w, .inl (cL, 1024, .inr (.inl f))), (q, .inl (cI, 40, .inl cf))] sz tI)) (va_Qv (fun (u : Nat → Int64) => ∀ k, k < U → u k = f k &&& ls_or cn k n) (fun u t => wB dC dI [(cL, .long), (cI, .int)] (va_A [(h, .inr (0, [.ref w, .int (nI U)])), (w, .inl (cL, 1024, .inr (.inl f))), (q, .inl (cI, 40, .inl cf))] sz) [(h, .inr (0, [.ref w, .int (nI U)])), (w, .inl (cL, 1024, .inr (.inl u))), (q, .inl (cI, 40, .inl cf))] t) (va_A [(h, .inr (0, [.ref w, .int (nI U)])), (w, .inl (cL, 1024, .inr (.inl f))), (q, .inl (cI, 40, .inl cf))] sz)) 0 0 (va_A [(h, .inr (0, [.ref w, .int (nI U)])), (w, .inl (cL, 1024, .inr (.inl f))), (q, .inl (cI, 40, .inl cf))] sz) := by
  refine Met.ofW (cc := cR_keepClause) (maxL := 7) (ret := none) (by decide) rfl ?_
  intro p e s m args below meth c s₁ B hml hv
  obtain ⟨rfl, hsz, hP, hK, hD0, hZ, hX⟩ := hv
  have hx := B.exec
  have hb := B.bytes
  have hr := B.returns
  have hts : ∀ w ∈ GG, w.before ([.ref h, .ref q, .int (nI n)] : List Value).toArray s = true := fun w h => atoms_spec (ws := _ :: GG) B.pre w (List.mem_cons_of_mem _ h)
  have hown : s.vm.findClass RR = some m.cls := findClass_of_methodNamed B.named
  have hlocks := B.notSynchronized
  subst hsz
  have hD := hD0.self (sz := s.heap.size)
  generalize hAe : va_A [(h, .inr (0, [.ref w, .int (nI U)])), (w, .inl (cL, 1024, .inr (.inl f))), (q, .inl (cI, 40, .inl cf))] s.heap.size = A at hD hZ ⊢
  have hA : ∀ q : Nat, s.heap.size ≤ q → A q := fun q h => by rw [← hAe]; exact Or.inr h
  have hS : va_S A s.heap s.heap [] := va_S.rf
  have hl := lv_entry ([.ref h, .ref q, .int (nI n)]) (n := 7) (Nat.le_of_ble_eq_true rfl)
  rw [lg_entry_eq]
  generalize (lg_sl ([.ref h, .ref q, .int (nI n)]) ++ List.replicate (7 - (lg_sl ([.ref h, .ref q, .int (nI n)])).length) Slot.unset).toArray = ls at hl ⊢
  have hl : lv_has ls 7 [(0, .ref h), (1, .ref q), (2, .int (nI n))] := hl
  have SF : CallFix p m c cR_keepClause 7 s ([.ref h, .ref q, .int (nI n)] : List Value).toArray GG RR := ⟨hx, hb, hml, hown, hts⟩
  skip
  have hP : va_P (dC, dI) vwCl [(h, .inr (0, [.ref w, .int (nI U)])), (w, .inl (cL, 1024, .inr (.inl f))), (q, .inl (cI, 40, .inl cf))] s.heap := hP
  refine lv_aload_n hx hb dR_keepClause_0 rfl (lv_at hl 1 rfl) ?_
  refine lv_ifnonnull (tgt := 5) hx hb dR_keepClause_1 (by decide) ?_
  refine lv_iconst (v := 0) hx hb dR_keepClause_5 (by decide) ?_
  refine lv_istore_n (lv' := [(3, .int 0), (0, .ref h), (1, .ref q), (2, .int (nI n))]) hx hb dR_keepClause_6 rfl hl (by decide) rfl (fun ls hl => ?_)
  refine lp_mu (α := Nat × (Nat → Int64)) (fun a_ => match a_ with | (i, g) => U - i) (fun a_ H locs ls => match a_ with | (i, g) => (i ≤ U ∧ (∀ k, k < i → g k = f k &&& ls_or cn k n) ∧ ∀ k, i ≤ k → g k = f k) ∧ va_P (dC, dI) vwCl [(h, .inr (0, [.ref w, .int (nI U)])), (w, .inl (cL, 1024, .inr (.inl g))), (q, .inl (cI, 40, .inl cf))] H ∧ va_D A [(h, .inr (0, [.ref w, .int (nI U)])), (w, .inl (cL, 1024, .inr (.inl g))), (q, .inl (cI, 40, .inl cf))] ∧ va_S A s.heap H locs ∧ lv_has ls 7 [(0, .ref h), (1, .ref q), (2, .int (nI n)), (3, .int (nI i))]) ?_ (0, f) ⟨⟨Nat.zero_le _, fun k hk => absurd hk (Nat.not_lt_zero _), fun _ _ => rfl⟩, hP, hD, hS, lv_sub hl [1, 2, 3, 0] rfl⟩
  intro a_ H locs ls hI ih
  obtain ⟨i, g⟩ := a_
  obtain ⟨hI, hP, hD, hS, hl⟩ := hI
  have hI : i ≤ U ∧ (∀ k, k < i → g k = f k &&& ls_or cn k n) ∧ ∀ k, i ≤ k → g k = f k := hI
  have hP : va_P (dC, dI) vwCl [(h, .inr (0, [.ref w, .int (nI U)])), (w, .inl (cL, 1024, .inr (.inl g))), (q, .inl (cI, 40, .inl cf))] H := hP
  have hD : va_D A [(h, .inr (0, [.ref w, .int (nI U)])), (w, .inl (cL, 1024, .inr (.inl g))), (q, .inl (cI, 40, .inl cf))] := hD
  have hl : lv_has ls 7 [(0, .ref h), (1, .ref q), (2, .int (nI n)), (3, .int (nI i))] := hl
  obtain ⟨hi, hg, hge⟩ := hI
  refine lv_iload_n hx hb dR_keepClause_7 rfl (lv_at hl 3 rfl) ?_
  refine lv_aload_n hx hb dR_keepClause_8 rfl (lv_at hl 0 rfl) ?_
  refine va_get (D := (dC, dI)) (ci := 0) (v := .int (nI U)) (C := RR) (T := TR) (N := 2) hx hb hts lyR hown hK hP 0 rfl rfl 1 (by decide) (hts _ fl_R_15) (fun _ h9 => h9) rfl dR_keepClause_9 ?_
  refine lv_icmp_ge (tgt := 70) hx hb dR_keepClause_12 (by decide) (fun c1 => ?_) (fun c1 => ?_)
  · have c1 : U ≤ i := (nI_leI (a := U) (b := i) (by omega) (by omega)).mp c1
    exact (W.vret hx hb hr (fun t ht hW => ⟨⟨g, rfl, fun k hk => hg k (by omega), by rw [ht]; exact hP, va_K.moved hW.alike hK, hD⟩, hS.F ht⟩) hS.2.2 dR_keepClause_70)
  · have c1 : i < U := Nat.lt_of_not_le (fun q => c1 ((nI_leI (a := U) (b := i) (by omega) (by omega)).mpr q))
    refine lv_lconst (v := 0) hx hb dR_keepClause_15 (by decide) ?_
    refine lv_lstore (lv' := [(4, .long 0), (0, .ref h), (1, .ref q), (2, .int (nI n)), (3, .int (nI i))]) hx hb dR_keepClause_16 hl (by decide) rfl (fun ls hl => ?_)
    refine lv_iconst (v := 0) hx hb dR_keepClause_18 (by decide) ?_
    refine lv_istore (lv' := [(6, .int 0), (4, .long 0), (0, .ref h), (1, .ref q), (2, .int (nI n)), (3, .int (nI i))]) hx hb dR_keepClause_19 hl (by decide) rfl (fun ls hl => ?_)
    refine lp_mu (α := Nat) (fun a_ => match a_ with | j => n - j) (fun a_ H locs ls => match a_ with | j => (j ≤ n) ∧ va_P (dC, dI) vwCl [(h, .inr (0, [.ref w, .int (nI U)])), (w, .inl (cL, 1024, .inr (.inl g))), (q, .inl (cI, 40, .inl cf))] H ∧ va_D A [(h, .inr (0, [.ref w, .int (nI U)])), (w, .inl (cL, 1024, .inr (.inl g))), (q, .inl (cI, 40, .inl cf))] ∧ va_S A s.heap H locs ∧ lv_has ls 7 [(0, .ref h), (1, .ref q), (2, .int (nI n)), (3, .int (nI i)), (4, .long (ls_or cn i j)), (6, .int (nI j))]) ?_ (0) ⟨Nat.zero_le _, hP, hD, hS, lv_sub hl [2, 3, 4, 5, 1, 0] rfl⟩
    intro a_ H locs ls hJ ih2
    obtain ⟨j, rfl⟩ : ∃ z, z = a_ := ⟨_, rfl⟩
    obtain ⟨hJ, hP, hD, hS, hl⟩ := hJ
    have hJ : j ≤ n := hJ
    have hP : va_P (dC, dI) vwCl [(h, .inr (0, [.ref w, .int (nI U)])), (w, .inl (cL, 1024, .inr (.inl g))), (q, .inl (cI, 40, .inl cf))] H := hP
    have hD : va_D A [(h, .inr (0, [.ref w, .int (nI U)])), (w, .inl (cL, 1024, .inr (.inl g))), (q, .inl (cI, 40, .inl cf))] := hD
    have hl : lv_has ls 7 [(0, .ref h), (1, .ref q), (2, .int (nI n)), (3, .int (nI i)), (4, .long (ls_or cn i j)), (6, .int (nI j))] := hl
    have hj := hJ
    refine lv_iload hx hb dR_keepClause_21 (lv_at hl 5 rfl) ?_
    refine lv_iload_n hx hb dR_keepClause_23 rfl (lv_at hl 2 rfl) ?_
    refine lv_icmp_ge (tgt := 53) hx hb dR_keepClause_24 (by decide) (fun c2 => ?_) (fun c2 => ?_)
    · have c2 : n ≤ j := (nI_leI (a := n) (b := j) (by omega) (by omega)).mp c2
      refine lv_aload_n hx hb dR_keepClause_53 rfl (lv_at hl 0 rfl) ?_
      refine va_get (D := (dC, dI)) (ci := 0) (v := .ref w) (C := RR) (T := TR) (N := 2) hx hb hts lyR hown hK hP 0 rfl rfl 0 (by decide) (hts _ fl_R_11) (fun _ h9 => h9) rfl dR_keepClause_54 ?_
      refine lv_iload_n hx hb dR_keepClause_57 rfl (lv_at hl 3 rfl) ?_
      refine lv_dup2_11 hx hb dR_keepClause_58 rfl rfl ?_
      refine va_lald hx hb hK hP 1 0 rfl rfl (vp_in_nI (by omega) (by decide)) dR_keepClause_59 ?_
      refine ls_topl (y := f i) (by rw [nI_clamp (by omega)]; exact hge i (Nat.le_refl i)) ?_
      refine lv_lload hx hb dR_keepClause_60 (lv_at hl 4 rfl) ?_
      refine ls_topl (y := ls_or cn i n) (by rw [show j = n by omega]) ?_
      refine lv_land hx hb dR_keepClause_62 ?_
      refine va_last hx hb hK hP hD hS 1 0 rfl rfl (vp_in_nI (by omega) (by decide)) dR_keepClause_63 (fun H locs hP hD hS => ?_)
      rw [show vp_updL g (nI i).toNatClampNeg ((f i) &&& (ls_or cn i n)) = vp_updL g i (f i &&& ls_or cn i n) from by rw [nI_clamp (by omega)]] at hP hD
      have hP : va_P (dC, dI) vwCl [(h, .inr (0, [.ref w, .int (nI U)])), (w, .inl (cL, 1024, .inr (.inl (vp_updL g i (f i &&& ls_or cn i n))))), (q, .inl (cI, 40, .inl cf))] H := hP
      have hD : va_D A [(h, .inr (0, [.ref w, .int (nI U)])), (w, .inl (cL, 1024, .inr (.inl (vp_updL g i (f i &&& ls_or cn i n))))), (q, .inl (cI, 40, .inl cf))] := hD
      refine lv_iinc (v := nI (i + 1)) (lv' := [(3, .int (nI (i + 1))), (0, .ref h), (1, .ref q), (2, .int (nI n)), (4, .long (ls_or cn i j)), (6, .int (nI j))]) hx hb dR_keepClause_64 hl (k := 3) rfl (nI_1 _) (by decide) rfl (fun ls hl => ?_)
      refine lv_goto (tgt := 7) hx hb dR_keepClause_67 (by decide) ?_
      exact ih (i + 1, vp_updL g i (f i &&& ls_or cn i n)) _ _ _ (by show U - (i + 1) < U - i; omega) ⟨⟨c1, ax_lt (f := fun k => f k &&& ls_or cn k n) hg rfl, ax_ge hge⟩, hP, hD, hS, lv_sub hl [1, 2, 3, 0] rfl⟩
    · have c2 : j < n := Nat.lt_of_not_le (fun q => c2 ((nI_leI (a := n) (b := j) (by omega) (by omega)).mpr q))
      refine lv_iload hx hb dR_keepClause_27 (lv_at hl 5 rfl) ?_
      refine lv_aload_n hx hb dR_keepClause_29 rfl (lv_at hl 1 rfl) ?_
      refine va_alen (v := 40) hx hb hK hP 2 1 rfl rfl rfl dR_keepClause_30 ?_
      refine lv_icmp_ge (tgt := 53) hx hb dR_keepClause_31 (by decide) (fun c3 => ?_) (fun c3 => ?_)
      · have c3 : 40 ≤ j := (nI_leI (a := 40) (b := j) (by omega) (by omega)).mp c3
        exact absurd c3 (by omega)
      · have c3 : j < 40 := Nat.lt_of_not_le (fun q => c3 ((nI_leI (a := 40) (b := j) (by omega) (by omega)).mpr q))
        refine lv_lload hx hb dR_keepClause_34 (lv_at hl 4 rfl) ?_
        refine lv_aload_n hx hb dR_keepClause_36 rfl (lv_at hl 1 rfl) ?_
        refine lv_iload hx hb dR_keepClause_37 (lv_at hl 5 rfl) ?_
        refine va_iald hx hb hK hP 2 1 rfl rfl (vp_in_nI (by omega) (by decide)) dR_keepClause_39 ?_
        refine ls_topi (y := nI (cn j)) (by rw [nI_clamp (by omega)]; exact (hc j c2).1) ?_
        refine lv_iload_n hx hb dR_keepClause_40 rfl (lv_at hl 3 rfl) ?_
        have hFc := va_free (wc := []) hD hS hA [] rfl
        refine wc_l (wc_S (As := [.int (nI (cn j)), .int (nI i)]) (rest := [.long (ls_or cn i j)]) (n := 2) SF (k_R_rowsWith l dC dI tI _ (cn j) i (hc j c2).2 (by omega)) ml_R_32 st_R_rowsWith in_R co_R_rowsWith (by decide +kernel) rfl rfl rfl ⟨Nat.le_of_ble_eq_true rfl, Nat.le_of_ble_eq_true rfl⟩ (hP.sub [] rfl) (hD.sub [] (by decide) rfl) (hK.sub [] rfl) hZ hX hS hFc rfl hl.1 (Nat.le_of_ble_eq_true rfl) dR_keepClause_41 ⟨Nat.le_of_ble_eq_true rfl, Nat.le_of_ble_eq_true rfl⟩) hP hD hS hFc [] [0, 1, 2] (wr := [(h, .inr (0, [.ref w, .int (nI U)])), (w, .inl (cL, 1024, .inr (.inl g))), (q, .inl (cI, 40, .inl cf))]) rfl rfl rfl (by decide) (fun z uu H locs hw hP hD hS => ?_)
        have hP : va_P (dC, dI) vwCl [(h, .inr (0, [.ref w, .int (nI U)])), (w, .inl (cL, 1024, .inr (.inl g))), (q, .inl (cI, 40, .inl cf))] H := hP.sub [0, 1, 2] rfl
        have hD : va_D A [(h, .inr (0, [.ref w, .int (nI U)])), (w, .inl (cL, 1024, .inr (.inl g))), (q, .inl (cI, 40, .inl cf))] := hD.sub [0, 1, 2] (by decide) rfl
        have hw : z = ls_rw (cn j) i := hw
        subst hw
        refine lv_lor hx hb dR_keepClause_44 ?_
        refine ls_topl (y := ls_or cn i (j + 1)) (rfl) ?_
        refine lv_lstore (lv' := [(4, .long (ls_or cn i (j + 1))), (0, .ref h), (1, .ref q), (2, .int (nI n)), (3, .int (nI i)), (6, .int (nI j))]) hx hb dR_keepClause_45 hl (by decide) rfl (fun ls hl => ?_)
        refine lv_iinc (v := nI (j + 1)) (lv' := [(6, .int (nI (j + 1))), (4, .long (ls_or cn i (j + 1))), (0, .ref h), (1, .ref q), (2, .int (nI n)), (3, .int (nI i))]) hx hb dR_keepClause_47 hl (k := 5) rfl (nI_1 _) (by decide) rfl (fun ls hl => ?_)
        refine lv_goto (tgt := 21) hx hb dR_keepClause_50 (by decide) ?_
        exact ih2 (j + 1) _ _ _ (by show n - (j + 1) < n - j; omega) ⟨c2, hP, hD, hS, lv_sub hl [2, 3, 4, 5, 1, 0] rfl⟩
end
section
/-! the least row: what the three loops keep -/
def lr_any (f : Nat → Int64) (U b : Nat) : Prop := ∃ k, k < U ∧ ls_b (f k) b = true
def ls_mem (f : Nat → Int64) (r : Nat) : Bool := ls_b (f (r / 64)) (r % 64)
theorem lr_ms (x i : Nat) : x % 2 ^ (i + 1) = x % 2 ^ i + (if x.testBit i = true then 2 ^ i else 0) := by
  rw [Nat.pow_succ, Nat.mod_mul, ls_bit]
  split <;> simp
theorem lr_or {a i : Nat} (h : a < 2 ^ i) : a ||| 2 ^ i = a + 2 ^ i := by
  have := Nat.two_pow_add_eq_or_of_lt h 1
  rw [Nat.mul_one] at this
  rw [Nat.or_comm, ← this, Nat.add_comm]
theorem lr_tl {a i u : Nat} (h : a < 2 ^ i) (hu : u < i) : (a + 2 ^ i).testBit u = a.testBit u ∧ (a + 2 ^ i) % 2 ^ u = a % 2 ^ u := by
  refine ⟨?_, ?_⟩
  · rw [← lr_or h, Nat.testBit_or, Nat.testBit_two_pow]
    simp; omega
  · obtain ⟨d, rfl⟩ : ∃ d, i = u + d := ⟨i - u, by omega⟩
    rw [Nat.pow_add, Nat.add_mul_mod_self_left]
theorem lr_ti {a i : Nat} (h : a < 2 ^ i) : (a + 2 ^ i).testBit i = true ∧ (a + 2 ^ i) % 2 ^ i = a := by
  refine ⟨?_, ?_⟩
  · rw [← lr_or h, Nat.testBit_or, Nat.testBit_two_pow]
    simp
  · rw [Nat.add_mod_right, Nat.mod_eq_of_lt h]
def lr_2 (f : Nat → Int64) (U v : Nat) (bits : Int64) (inn : Nat) : Prop := v ≤ 6 ∧ inn < 2 ^ v ∧ bits ≠ 0 ∧ (∀ b, b < 64 → (ls_b bits b = true ↔ lr_any f U b ∧ b % 2 ^ v = inn)) ∧ ∀ u, u < v → inn.testBit u = true → ∀ b, b < 64 → lr_any f U b → b % 2 ^ u = inn % 2 ^ u → b.testBit u = true
theorem lr_20 {f : Nat → Int64} {U : Nat} {bits : Int64} (h : ∀ b, b < 64 → (ls_b bits b = true ↔ lr_any f U b)) (hne : ∃ k, k < U ∧ f k ≠ 0) : lr_2 f U 0 bits 0 := by
  refine ⟨by decide, by decide, ?_, fun b hb => ?_, fun u hu => absurd hu (Nat.not_lt_zero _)⟩
  · obtain ⟨k, hk, hn⟩ := hne
    obtain ⟨b, hb, hv⟩ := ls_b_ne hn
    intro q
    have := (h b hb).mpr ⟨k, hk, hv⟩
    rw [q, ls_b_0] at this
    cases this
  · rw [h b hb]
    simp [Nat.mod_one]
theorem lr_zb (bits : Int64) {v b : Nat} (hv : v < 6) (hb : b < 64) : ls_b (bits &&& (ls_ones v ^^^ (-1))) b = (ls_b bits b && !b.testBit v) := by
  rw [ls_b_and, ls_b_not _ hb, ls_ones_b v hv b hb]
theorem lr_2z {f : Nat → Int64} {U v : Nat} {bits : Int64} {inn : Nat} (h : lr_2 f U v bits inn) (hv : v < 6) (hz : bits &&& (ls_ones v ^^^ (-1)) ≠ 0) : lr_2 f U (v + 1) (bits &&& (ls_ones v ^^^ (-1))) inn := by
  obtain ⟨h1, h2, h3, h4, h5⟩ := h
  refine ⟨hv, Nat.lt_of_lt_of_le h2 (Nat.pow_le_pow_right (by decide) (by omega)), hz, fun b hb => ?_, fun u hu => ?_⟩
  · rw [lr_zb bits hv hb, Bool.and_eq_true, h4 b hb, lr_ms]
    cases hbv : b.testBit v with
    | false => simp
    | true =>
      simp
      intro _ q
      omega
  · rcases Nat.lt_or_ge u v with q | q
    · exact h5 u q
    · rw [show u = v by omega, Nat.testBit_lt_two_pow h2]
      intro q; cases q
theorem lr_2o {f : Nat → Int64} {U v : Nat} {bits : Int64} {inn : Nat} (h : lr_2 f U v bits inn) (hv : v < 6) (hz : bits &&& (ls_ones v ^^^ (-1)) = 0) : lr_2 f U (v + 1) bits (inn + 2 ^ v) := by
  obtain ⟨h1, h2, h3, h4, h5⟩ := h
  have hb1 : ∀ b, b < 64 → ls_b bits b = true → b.testBit v = true := fun b hb hv1 => by
    have := congrArg (fun z => ls_b z b) hz
    simp only [ls_b_0] at this
    rw [lr_zb bits hv hb, hv1] at this
    simpa using this
  refine ⟨hv, by rw [Nat.pow_succ]; omega, h3, fun b hb => ?_, fun u hu => ?_⟩
  · rw [lr_ms]
    constructor
    · intro q
      obtain ⟨a1, a2⟩ := (h4 b hb).mp q
      rw [if_pos (hb1 b hb q), a2]
      exact ⟨a1, rfl⟩
    · intro q
      refine (h4 b hb).mpr ⟨q.1, ?_⟩
      have q2 := q.2
      split at q2
      · omega
      · have := Nat.mod_lt b (show 0 < 2 ^ v from Nat.pow_pos (by decide))
        omega
  · rcases Nat.lt_or_ge u v with q | q
    · rw [(lr_tl h2 q).1, (lr_tl h2 q).2]
      exact h5 u q
    · rw [show u = v by omega, (lr_ti h2).2]
      intro _ b hb ha he
      exact hb1 b hb ((h4 b hb).mpr ⟨ha, he⟩)
def lr_3 (f : Nat → Int64) (U inn j wd : Nat) : Prop := wd < 2 ^ j ∧ (∃ k, k < U ∧ k % 2 ^ j = wd ∧ ls_b (f k) inn = true) ∧ ∀ u, u < j → wd.testBit u = true → ∀ k, k < U → ls_b (f k) inn = true → k % 2 ^ u = wd % 2 ^ u → k.testBit u = true
theorem lr_6 {f : Nat → Int64} {U : Nat} {bits : Int64} {inn : Nat} (h : lr_2 f U 6 bits inn) : inn < 64 ∧ (∀ b, b < 64 → (ls_b bits b = true ↔ lr_any f U b ∧ b = inn)) ∧ lr_3 f U inn 0 0 := by
  obtain ⟨h1, h2, h3, h4, h5⟩ := h
  have hb : ∀ b, b < 64 → (ls_b bits b = true ↔ lr_any f U b ∧ b = inn) := fun b hb => by
    rw [h4 b hb, show b % 2 ^ 6 = b from Nat.mod_eq_of_lt hb]
  refine ⟨h2, hb, by decide, ?_, fun u hu => absurd hu (Nat.not_lt_zero _)⟩
  obtain ⟨b, hb9, hv⟩ := ls_b_ne h3
  obtain ⟨⟨k, hk, hv2⟩, rfl⟩ := (hb b hb9).mp hv
  exact ⟨k, hk, by simp [Nat.mod_one], hv2⟩
theorem lr_nz {f : Nat → Int64} {U k : Nat} {bits : Int64} {inn : Nat} (hi : inn < 64) (h : ∀ b, b < 64 → (ls_b bits b = true ↔ lr_any f U b ∧ b = inn)) (hk : k < U) : f k &&& bits ≠ 0 ↔ ls_b (f k) inn = true := by
  constructor
  · intro q
    obtain ⟨b, hb, hv⟩ := ls_b_ne q
    rw [ls_b_and, Bool.and_eq_true] at hv
    rw [← ((h b hb).mp hv.2).2]
    exact hv.1
  · intro q q0
    have := congrArg (fun z => ls_b z inn) q0
    simp only [ls_b_0, ls_b_and, q, (h inn hi).mpr ⟨⟨k, hk, q⟩, rfl⟩] at this
    cases this
theorem lr_3y {f : Nat → Int64} {U inn j wd t : Nat} (h : lr_3 f U inn j wd) (ht : wd + 2 ^ (j + 1) * t < U) (hv : ls_b (f (wd + 2 ^ (j + 1) * t)) inn = true) : lr_3 f U inn (j + 1) wd := by
  obtain ⟨h1, h2, h3⟩ := h
  have h1' : wd < 2 ^ (j + 1) := by rw [Nat.pow_succ]; omega
  refine ⟨h1', ⟨_, ht, by rw [Nat.add_mul_mod_self_left, Nat.mod_eq_of_lt h1'], hv⟩, fun u hu => ?_⟩
  rcases Nat.lt_or_ge u j with q | q
  · exact h3 u q
  · rw [show u = j by omega, Nat.testBit_lt_two_pow h1]
    intro q; cases q
theorem lr_3n {f : Nat → Int64} {U inn j wd : Nat} (h : lr_3 f U inn j wd) (hn : ∀ t, wd + 2 ^ (j + 1) * t < U → ¬ ls_b (f (wd + 2 ^ (j + 1) * t)) inn = true) : lr_3 f U inn (j + 1) (wd + 2 ^ j) := by
  obtain ⟨h1, ⟨k, hk, hm, hv⟩, h3⟩ := h
  have key : ∀ k, k < U → k % 2 ^ j = wd → ls_b (f k) inn = true → k.testBit j = true := fun k hk hm hv => by
    cases hb : k.testBit j with
    | true => rfl
    | false =>
      have e : k % 2 ^ (j + 1) = wd := by rw [lr_ms, hm, hb]; simp
      have e2 : wd + 2 ^ (j + 1) * (k / 2 ^ (j + 1)) = k := by rw [← e]; exact Nat.mod_add_div _ _
      exact absurd (by rw [e2]; exact hv) (hn (k / 2 ^ (j + 1)) (by rw [e2]; exact hk))
  refine ⟨by rw [Nat.pow_succ]; omega, ⟨k, hk, by rw [lr_ms, hm, if_pos (key k hk hm hv)], hv⟩, fun u hu => ?_⟩
  rcases Nat.lt_or_ge u j with q | q
  · rw [(lr_tl h1 q).1, (lr_tl h1 q).2]
    exact h3 u q
  · rw [show u = j by omega, (lr_ti h1).2]
    intro _ k hk hv hm
    exact key k hk hm hv
/-- a row of the set, and each of its ones is forced -/
def lr_L (f : Nat → Int64) (n r : Nat) : Prop := r < 64 * 2 ^ n ∧ ls_mem f r = true ∧ ∀ v, v < n + 6 → r.testBit v = true → ∀ q, q < 64 * 2 ^ n → ls_mem f q = true → q % 2 ^ v = r % 2 ^ v → q.testBit v = true
theorem lr_end {f : Nat → Int64} {n inn wd : Nat} {bits : Int64} (h2 : lr_2 f (2 ^ n) 6 bits inn) (h3 : lr_3 f (2 ^ n) inn n wd) : lr_L f n (64 * wd + inn) := by
  have hi : inn < 64 := h2.2.1
  obtain ⟨a1, ⟨k, hk, hm, hv⟩, a3⟩ := h3
  rw [Nat.mod_eq_of_lt hk] at hm
  subst hm
  have d1 : (64 * k + inn) / 64 = k := by omega
  have d2 : (64 * k + inn) % 64 = inn := by omega
  refine ⟨by omega, by unfold ls_mem; rw [d1, d2]; exact hv, fun v hvn hr q hq hqm he => ?_⟩
  have eq : q = 64 * (q / 64) + q % 64 := by omega
  have hb : q % 64 < 64 := Nat.mod_lt _ (by decide)
  have hqk : q / 64 < 2 ^ n := by omega
  rw [eq, ls_tb hb]
  rw [ls_tb hi] at hr
  unfold ls_mem at hqm
  by_cases h6 : v < 6
  · rw [if_pos h6] at hr ⊢
    refine h2.2.2.2.2 v h6 hr (q % 64) hb ⟨q / 64, hqk, hqm⟩ ?_
    have e64 : ∀ x : Nat, x % 64 % 2 ^ v = x % 2 ^ v := fun x => by
      obtain ⟨d, hd⟩ : ∃ d, 6 = v + d := ⟨6 - v, by omega⟩
      rw [show (64 : Nat) = 2 ^ 6 from rfl, hd, Nat.pow_add, Nat.mod_mul_right_mod]
    rw [e64, he, ← e64, d2]
  · rw [if_neg h6] at hr ⊢
    have ev : ∀ x : Nat, x % 2 ^ v = x % 64 + 64 * (x / 64 % 2 ^ (v - 6)) := fun x => by
      have : 2 ^ v = 64 * 2 ^ (v - 6) := by
        rw [show (64 : Nat) = 2 ^ 6 from rfl, ← Nat.pow_add]; congr 1; omega
      rw [this, Nat.mod_mul]
    rw [ev, ev, d1, d2] at he
    have e1 : q % 64 = inn := by omega
    have e2 : q / 64 % 2 ^ (v - 6) = k % 2 ^ (v - 6) := by omega
    rw [e1] at hqm
    exact a3 (v - 6) (by omega) hr (q / 64) hqk hqm e2
end
section
set_option maxHeartbeats 4000000 in
set_option maxRecDepth 100000 in
/-- leastRow() -/
theorem k_R_leastRow (l : Launch) (dC : Nat → ClassId) (dI : Nat → Nat → Nat) (tI sz : Nat) (h w : Nat) (cL : ClassId) (f : Nat → Int64) (U : Nat) (hU : U ≤ 1024) (n : Nat) (hn : U = 2 ^ n) (hn1 : n ≤ 10) (hne : ∃ k, k < U ∧ f k ≠ 0) : Met l yR_leastRow (Cond.code yR_leastRow cR_leastRow 7 (some .int) :: GG) (lvr 1 0 0) (va_Pc [.ref h] (wPre dC dI [(cL, .long)] [(h, .inr (0, [.ref w, .int (nI U)])), (w, .inl (cL, 1024, .inr (.inl f)))] sz tI)) (va_Qi (fun (r : Int32) (u : Unit) => ∃ q, r = nI q ∧ lr_L f n q) (fun u t => wB dC dI [(cL, .long)] (va_A [(h, .inr (0, [.ref w, .int (nI U)])), (w, .inl (cL, 1024, .inr (.inl f)))] sz) [(h, .inr (0, [.ref w, .int (nI U)])), (w, .inl (cL, 1024, .inr (.inl f)))] t) (va_A [(h, .inr (0, [.ref w, .int (nI U)])), (w, .inl (cL, 1024, .inr (.inl f)))] sz)) 0 0 (va_A [(h, .inr (0, [.ref w, .int (nI U)])), (w, .inl (cL, 1024, .inr (.inl f)))] sz) := by
  refine Met.ofW (cc := cR_leastRow) (maxL := 7) (ret := (some .int)) (by decide) rfl ?_
  intro p e s m args below meth c s₁ B hml hv
  obtain ⟨rfl, hsz, hP, hK, hD0, hZ, hX⟩ := hv
  have hx := B.exec
  have hb := B.bytes
  have hr := B.returns
  have hts : ∀ w ∈ GG, w.before ([.ref h] : List Value).toArray s = true := fun w h => atoms_spec (ws := _ :: GG) B.pre w (List.mem_cons_of_mem _ h)
  have hown : s.vm.findClass RR = some m.cls := findClass_of_methodNamed B.named
  have hlocks := B.notSynchronized
  subst hsz
  have hD := hD0.self (sz := s.heap.size)
  generalize hAe : va_A [(h, .inr (0, [.ref w, .int (nI U)])), (w, .inl (cL, 1024, .inr (.inl f)))] s.heap.size = A at hD hZ ⊢
  have hA : ∀ q : Nat, s.heap.size ≤ q → A q := fun q h => by rw [← hAe]; exact Or.inr h
  have hS : va_S A s.heap s.heap [] := va_S.rf
  have hl := lv_entry ([.ref h]) (n := 7) (Nat.le_of_ble_eq_true rfl)
  rw [lg_entry_eq]
  generalize (lg_sl ([.ref h]) ++ List.replicate (7 - (lg_sl ([.ref h])).length) Slot.unset).toArray = ls at hl ⊢
  have hl : lv_has ls 7 [(0, .ref h)] := hl
  have SF : CallFix p m c cR_leastRow 7 s ([.ref h] : List Value).toArray GG RR := ⟨hx, hb, hml, hown, hts⟩
  skip
  have hP : va_P (dC, dI) vwCl [(h, .inr (0, [.ref w, .int (nI U)])), (w, .inl (cL, 1024, .inr (.inl f)))] s.heap := hP
  refine lv_lconst (v := 0) hx hb dR_leastRow_0 (by decide) ?_
  refine lv_lstore_n (lv' := [(1, .long 0), (0, .ref h)]) hx hb dR_leastRow_1 rfl hl (by decide) rfl (fun ls hl => ?_)
  refine lv_iconst (v := 0) hx hb dR_leastRow_2 (by decide) ?_
  refine lv_istore_n (lv' := [(3, .int 0), (1, .long 0), (0, .ref h)]) hx hb dR_leastRow_3 rfl hl (by decide) rfl (fun ls hl => ?_)
  refine lp_mu (α := Nat × Int64) (fun a_ => match a_ with | (i, bits) => U - i) (fun a_ H locs ls => match a_ with | (i, bits) => (i ≤ U ∧ ∀ b, b < 64 → (ls_b bits b = true ↔ ∃ k, k < i ∧ ls_b (f k) b = true)) ∧ va_P (dC, dI) vwCl [(h, .inr (0, [.ref w, .int (nI U)])), (w, .inl (cL, 1024, .inr (.inl f)))] H ∧ va_D A [(h, .inr (0, [.ref w, .int (nI U)])), (w, .inl (cL, 1024, .inr (.inl f)))] ∧ va_S A s.heap H locs ∧ lv_has ls 7 [(0, .ref h), (1, .long bits), (3, .int (nI i))]) ?_ (0, 0) ⟨⟨Nat.zero_le _, fun b hb => by rw [ls_b_0]; simp⟩, hP, hD, hS, lv_sub hl [2, 1, 0] rfl⟩
  intro a_ H locs ls hI ih
  obtain ⟨i, bits⟩ := a_
  obtain ⟨hI, hP, hD, hS, hl⟩ := hI
  have hI : i ≤ U ∧ ∀ b, b < 64 → (ls_b bits b = true ↔ ∃ k, k < i ∧ ls_b (f k) b = true) := hI
  have hP : va_P (dC, dI) vwCl [(h, .inr (0, [.ref w, .int (nI U)])), (w, .inl (cL, 1024, .inr (.inl f)))] H := hP
  have hD : va_D A [(h, .inr (0, [.ref w, .int (nI U)])), (w, .inl (cL, 1024, .inr (.inl f)))] := hD
  have hl : lv_has ls 7 [(0, .ref h), (1, .long bits), (3, .int (nI i))] := hl
  obtain ⟨hi, hb1⟩ := hI
  refine lv_iload_n hx hb dR_leastRow_4 rfl (lv_at hl 2 rfl) ?_
  refine lv_aload_n hx hb dR_leastRow_5 rfl (lv_at hl 0 rfl) ?_
  refine va_get (D := (dC, dI)) (ci := 0) (v := .int (nI U)) (C := RR) (T := TR) (N := 2) hx hb hts lyR hown hK hP 0 rfl rfl 1 (by decide) (hts _ fl_R_15) (fun _ h9 => h9) rfl dR_leastRow_6 ?_
  refine lv_icmp_ge (tgt := 27) hx hb dR_leastRow_9 (by decide) (fun c1 => ?_) (fun c1 => ?_)
  · have c1 : U ≤ i := (nI_leI (a := U) (b := i) (by omega) (by omega)).mp c1
    have h20 : lr_2 f U 0 bits 0 := lr_20 (fun b hb => by rw [hb1 b hb, show i = U by omega]; rfl) hne
    refine lv_iconst (v := 0) hx hb dR_leastRow_27 (by decide) ?_
    refine lv_istore_n (lv' := [(3, .int 0), (0, .ref h), (1, .long bits)]) hx hb dR_leastRow_28 rfl hl (by decide) rfl (fun ls hl => ?_)
    refine lv_iconst (v := 0) hx hb dR_leastRow_29 (by decide) ?_
    refine lv_istore (lv' := [(4, .int 0), (3, .int 0), (0, .ref h), (1, .long bits)]) hx hb dR_leastRow_30 hl (by decide) rfl (fun ls hl => ?_)
    refine lp_mu (α := Nat × Int64 × Nat) (fun a_ => match a_ with | (v, bt, inn) => 6 - v) (fun a_ H locs ls => match a_ with | (v, bt, inn) => (lr_2 f U v bt inn) ∧ va_P (dC, dI) vwCl [(h, .inr (0, [.ref w, .int (nI U)])), (w, .inl (cL, 1024, .inr (.inl f)))] H ∧ va_D A [(h, .inr (0, [.ref w, .int (nI U)])), (w, .inl (cL, 1024, .inr (.inl f)))] ∧ va_S A s.heap H locs ∧ lv_has ls 7 [(0, .ref h), (1, .long bt), (3, .int (nI inn)), (4, .int (nI v))]) ?_ (0, bits, 0) ⟨h20, hP, hD, hS, lv_sub hl [2, 3, 1, 0] rfl⟩
    intro a_ H locs ls hJ ih2
    obtain ⟨v, bt, inn⟩ := a_
    obtain ⟨hJ, hP, hD, hS, hl⟩ := hJ
    have hJ : lr_2 f U v bt inn := hJ
    have hP : va_P (dC, dI) vwCl [(h, .inr (0, [.ref w, .int (nI U)])), (w, .inl (cL, 1024, .inr (.inl f)))] H := hP
    have hD : va_D A [(h, .inr (0, [.ref w, .int (nI U)])), (w, .inl (cL, 1024, .inr (.inl f)))] := hD
    have hl : lv_has ls 7 [(0, .ref h), (1, .long bt), (3, .int (nI inn)), (4, .int (nI v))] := hl
    have hv6 := hJ.1
    have hin := hJ.2.1
    have hpv : 2 ^ v ≤ 64 := Nat.le_trans (Nat.pow_le_pow_right (by decide) hv6) (by decide)
    refine lv_iload hx hb dR_leastRow_32 (lv_at hl 3 rfl) ?_
    refine va_gets hx hb hZ.1 hS hown (hts _ fl_R_21) (fun _ h9 => h9) dR_leastRow_34 ?_
    refine va_tlen (v := 6) hx hb hZ.2.1 hS rfl dR_leastRow_37 ?_
    refine lv_icmp_ge (tgt := 81) hx hb dR_leastRow_38 (by decide) (fun c2 => ?_) (fun c2 => ?_)
    · have c2 : 6 ≤ v := (nI_leI (a := 6) (b := v) (by omega) (by omega)).mp c2
      have hv : v = 6 := by omega
      subst hv
      obtain ⟨hi64, hbb, h30⟩ := lr_6 hJ
      refine lv_iconst (v := 0) hx hb dR_leastRow_81 (by decide) ?_
      refine lv_istore (lv' := [(4, .int 0), (0, .ref h), (1, .long bt), (3, .int (nI inn))]) hx hb dR_leastRow_82 hl (by decide) rfl (fun ls hl => ?_)
      refine lv_iconst (v := 1) hx hb dR_leastRow_84 (by decide) ?_
      refine lv_istore (lv' := [(5, .int 1), (4, .int 0), (0, .ref h), (1, .long bt), (3, .int (nI inn))]) hx hb dR_leastRow_85 hl (by decide) rfl (fun ls hl => ?_)
      refine lp_mu (α := Nat × Nat) (fun a_ => match a_ with | (j, wd) => n - j) (fun a_ H locs ls => match a_ with | (j, wd) => (j ≤ n ∧ lr_3 f U inn j wd) ∧ va_P (dC, dI) vwCl [(h, .inr (0, [.ref w, .int (nI U)])), (w, .inl (cL, 1024, .inr (.inl f)))] H ∧ va_D A [(h, .inr (0, [.ref w, .int (nI U)])), (w, .inl (cL, 1024, .inr (.inl f)))] ∧ va_S A s.heap H locs ∧ lv_has ls 7 [(0, .ref h), (1, .long bt), (3, .int (nI inn)), (4, .int (nI wd)), (5, .int (nI (2 ^ j)))]) ?_ (0, 0) ⟨⟨Nat.zero_le _, h30⟩, hP, hD, hS, lv_sub hl [2, 3, 4, 1, 0] rfl⟩
      intro a_ H locs ls hK3 ih3
      obtain ⟨j, wd⟩ := a_
      obtain ⟨hK3, hP, hD, hS, hl⟩ := hK3
      have hK3 : j ≤ n ∧ lr_3 f U inn j wd := hK3
      have hP : va_P (dC, dI) vwCl [(h, .inr (0, [.ref w, .int (nI U)])), (w, .inl (cL, 1024, .inr (.inl f)))] H := hP
      have hD : va_D A [(h, .inr (0, [.ref w, .int (nI U)])), (w, .inl (cL, 1024, .inr (.inl f)))] := hD
      have hl : lv_has ls 7 [(0, .ref h), (1, .long bt), (3, .int (nI inn)), (4, .int (nI wd)), (5, .int (nI (2 ^ j)))] := hl
      obtain ⟨hjn, h3⟩ := hK3
      have hwd := h3.1
      have hpj : 2 ^ j ≤ 2 ^ n := Nat.pow_le_pow_right (by decide) hjn
      refine lv_iload hx hb dR_leastRow_87 (lv_at hl 4 rfl) ?_
      refine lv_aload_n hx hb dR_leastRow_89 rfl (lv_at hl 0 rfl) ?_
      refine va_get (D := (dC, dI)) (ci := 0) (v := .int (nI U)) (C := RR) (T := TR) (N := 2) hx hb hts lyR hown hK hP 0 rfl rfl 1 (by decide) (hts _ fl_R_15) (fun _ h9 => h9) rfl dR_leastRow_90 ?_
      refine lv_icmp_ge (tgt := 134) hx hb dR_leastRow_93 (by decide) (fun c4 => ?_) (fun c4 => ?_)
      · have c4 : U ≤ (2 ^ j) := (nI_leI (a := U) (b := (2 ^ j)) (by omega) (by omega)).mp c4
        have ej : j = n := by
          rcases Nat.lt_or_ge j n with q | q
          · have := Nat.pow_lt_pow_right (a := 2) (by decide) q
            omega
          · omega
        subst ej
        refine lv_iload hx hb dR_leastRow_134 (lv_at hl 3 rfl) ?_
        refine lv_bipush (v := 6) hx hb dR_leastRow_136 (by decide) ?_
        refine lv_ishl hx hb dR_leastRow_138 ?_
        refine ls_topi (y := nI (64 * wd)) (by have q := ls_shl (n := wd) (k := 6) (by decide) (by omega); rw [Nat.mul_comm] at q; exact q) ?_
        refine lv_iload_n hx hb dR_leastRow_139 rfl (lv_at hl 2 rfl) ?_
        refine lv_ior hx hb dR_leastRow_140 ?_
        refine ls_topi (y := nI (64 * wd + inn)) (by rw [nx_or]; congr 1; have q := Nat.two_pow_add_eq_or_of_lt (i := 6) (b := inn) hi64 wd; exact q.symm) ?_
        exact (W.iret (v := nI (64 * wd + inn)) hx hb hr (fun t ht hW => ⟨⟨nI (64 * wd + inn), (), rfl, ⟨_, rfl, by rw [hn] at hJ h3; exact lr_end hJ h3⟩, by rw [ht]; exact hP, va_K.moved hW.alike hK, hD⟩, hS.F ht⟩) hS.2.2 dR_leastRow_141)
      · have c4 : (2 ^ j) < U := Nat.lt_of_not_le (fun q => c4 ((nI_leI (a := U) (b := (2 ^ j)) (by omega) (by omega)).mpr q))
        have hjl : j < n := (Nat.pow_lt_pow_iff_right (a := 2) (by decide)).mp (by omega)
        have hj1 : 2 ^ (j + 1) ≤ 2 ^ n := Nat.pow_le_pow_right (by decide) hjl
        have hj2 : 2 ^ (j + 1) = 2 ^ j * 2 := Nat.pow_succ 2 j
        refine lv_iload hx hb dR_leastRow_96 (lv_at hl 4 rfl) ?_
        refine lv_sipush (v := 1024) hx hb dR_leastRow_98 (by decide) ?_
        refine lv_icmp_ge (tgt := 134) hx hb dR_leastRow_101 (by decide) (fun c5 => ?_) (fun c5 => ?_)
        · have c5 : 1024 ≤ (2 ^ j) := (nI_leI (a := 1024) (b := (2 ^ j)) (by omega) (by omega)).mp c5
          exact absurd c5 (by omega)
        · have c5 : (2 ^ j) < 1024 := Nat.lt_of_not_le (fun q => c5 ((nI_leI (a := 1024) (b := (2 ^ j)) (by omega) (by omega)).mpr q))
          refine lv_aload_n hx hb dR_leastRow_104 rfl (lv_at hl 0 rfl) ?_
          refine lv_iload hx hb dR_leastRow_105 (lv_at hl 3 rfl) ?_
          refine lv_iconst (v := 2) hx hb dR_leastRow_107 (by decide) ?_
          refine lv_iload hx hb dR_leastRow_108 (lv_at hl 4 rfl) ?_
          refine lv_imul hx hb dR_leastRow_110 ?_
          refine ls_topi (y := nI (2 ^ (j + 1))) (by rw [hj2, Nat.mul_comm]; exact pk_mul 2 _) ?_
          refine lv_lload_n hx hb dR_leastRow_111 rfl (lv_at hl 1 rfl) ?_
          have hFc := va_free (wc := [(h, .inr (0, [.ref w, .int (nI U)])), (w, .inl (cL, 1024, .inr (.inl f)))]) hD hS hA [0, 1] rfl
          refine wc_i (wc_V (As := [.int (nI wd), .int (nI (2 ^ (j + 1))), .long bt]) (rest := []) (n := 3) SF (k_R_anyIn l dC dI tI _ h w cL f U hU wd (2 ^ (j + 1)) bt (by omega) (by omega) (by omega)) ml_R_36 im_R_anyIn se_R_anyIn in_R co_R_anyIn (by decide +kernel) rfl rfl rfl ⟨Nat.le_of_ble_eq_true rfl, Nat.le_of_ble_eq_true rfl⟩ (va_recv (hK.sub (tys' := []) [] rfl) (hP.sub (ws' := [(h, .inr (0, [.ref w, .int (nI U)])), (w, .inl (cL, 1024, .inr (.inl f)))]) [0, 1] rfl) (ci := 0) (q0 := 0) rfl rfl) (hP.sub [0, 1] rfl) (hD.sub [0, 1] (by decide) rfl) (hK.sub [0] rfl) hZ hX hS hFc rfl hl.1 (Nat.le_of_ble_eq_true rfl) dR_leastRow_112 ⟨Nat.le_of_ble_eq_true rfl, Nat.le_of_ble_eq_true rfl⟩) hP hD hS hFc [0, 1] [] (wr := []) rfl rfl rfl (by decide) (fun z uu H locs hw hP hD hS => ?_)
          have hP : va_P (dC, dI) vwCl [(h, .inr (0, [.ref w, .int (nI U)])), (w, .inl (cL, 1024, .inr (.inl f)))] H := hP.sub [0, 1] rfl
          have hD : va_D A [(h, .inr (0, [.ref w, .int (nI U)])), (w, .inl (cL, 1024, .inr (.inl f)))] := hD.sub [0, 1] (by decide) rfl
          refine lv_if_ne (tgt := 125) hx hb dR_leastRow_115 (by decide) (fun c6 => ?_) (fun c6 => ?_)
          · obtain ⟨t, ht, htv⟩ : ∃ t, wd + 2 ^ (j + 1) * t < U ∧ f (wd + 2 ^ (j + 1) * t) &&& bt ≠ 0 := by
              rcases hw with ⟨_, q⟩ | ⟨q, _⟩
              · exact q
              · exact absurd q c6
            refine lv_iload hx hb dR_leastRow_125 (lv_at hl 4 rfl) ?_
            refine lv_iconst (v := 2) hx hb dR_leastRow_127 (by decide) ?_
            refine lv_imul hx hb dR_leastRow_128 ?_
            refine ls_topi (y := nI (2 ^ (j + 1))) (by rw [hj2]; exact pk_mul _ 2) ?_
            refine lv_istore (lv' := [(5, .int (nI (2 ^ (j + 1)))), (0, .ref h), (1, .long bt), (3, .int (nI inn)), (4, .int (nI wd))]) hx hb dR_leastRow_129 hl (by decide) rfl (fun ls hl => ?_)
            refine lv_goto (tgt := 87) hx hb dR_leastRow_131 (by decide) ?_
            exact ih3 (j + 1, wd) _ _ _ (by show n - (j + 1) < n - j; omega) ⟨⟨hjl, lr_3y h3 ht ((lr_nz hi64 hbb ht).mp htv)⟩, hP, hD, hS, lv_sub hl [1, 2, 3, 4, 0] rfl⟩
          · have hno : ∀ t, wd + 2 ^ (j + 1) * t < U → ¬ ls_b (f (wd + 2 ^ (j + 1) * t)) inn = true := by
              rcases hw with ⟨q, _⟩ | ⟨_, q⟩
              · rw [q] at c6; exact absurd c6 (by decide)
              · exact fun t ht hv => ((lr_nz hi64 hbb ht).mpr hv) (q t ht)
            refine lv_iload hx hb dR_leastRow_118 (lv_at hl 3 rfl) ?_
            refine lv_iload hx hb dR_leastRow_120 (lv_at hl 4 rfl) ?_
            refine lv_ior hx hb dR_leastRow_122 ?_
            refine ls_topi (y := nI (wd + 2 ^ j)) (by rw [nx_or, lr_or hwd]) ?_
            refine lv_istore (lv' := [(4, .int (nI (wd + 2 ^ j))), (0, .ref h), (1, .long bt), (3, .int (nI inn)), (5, .int (nI (2 ^ j)))]) hx hb dR_leastRow_123 hl (by decide) rfl (fun ls hl => ?_)
            refine lv_iload hx hb dR_leastRow_125 (lv_at hl 4 rfl) ?_
            refine lv_iconst (v := 2) hx hb dR_leastRow_127 (by decide) ?_
            refine lv_imul hx hb dR_leastRow_128 ?_
            refine ls_topi (y := nI (2 ^ (j + 1))) (by rw [hj2]; exact pk_mul _ 2) ?_
            refine lv_istore (lv' := [(5, .int (nI (2 ^ (j + 1)))), (4, .int (nI (wd + 2 ^ j))), (0, .ref h), (1, .long bt), (3, .int (nI inn))]) hx hb dR_leastRow_129 hl (by decide) rfl (fun ls hl => ?_)
            refine lv_goto (tgt := 87) hx hb dR_leastRow_131 (by decide) ?_
            exact ih3 (j + 1, wd + 2 ^ j) _ _ _ (by show n - (j + 1) < n - j; omega) ⟨⟨hjl, lr_3n h3 hno⟩, hP, hD, hS, lv_sub hl [2, 3, 4, 1, 0] rfl⟩
    · have c2 : v < 6 := Nat.lt_of_not_le (fun q => c2 ((nI_leI (a := 6) (b := v) (by omega) (by omega)).mpr q))
      refine lv_lload_n hx hb dR_leastRow_41 rfl (lv_at hl 1 rfl) ?_
      refine va_gets hx hb hZ.1 hS hown (hts _ fl_R_21) (fun _ h9 => h9) dR_leastRow_42 ?_
      refine lv_iload hx hb dR_leastRow_45 (lv_at hl 3 rfl) ?_
      refine va_tl (v := .long (ls_ones v)) hx hb hZ.2.1 hS (vp_in_nI c2 (by decide)) (by rw [nI_clamp (by omega)]) dR_leastRow_47 ?_
      refine lv_ldc2 (v := (-1)) hx hb hown (hts _ cj_R_19) dR_leastRow_48 ?_
      refine lv_lxor hx hb dR_leastRow_51 ?_
      refine lv_land hx hb dR_leastRow_52 ?_
      refine lv_lstore (lv' := [(5, .long (bt &&& ((ls_ones v) ^^^ (-1)))), (0, .ref h), (1, .long bt), (3, .int (nI inn)), (4, .int (nI v))]) hx hb dR_leastRow_53 hl (by decide) rfl (fun ls hl => ?_)
      refine lv_lload hx hb dR_leastRow_55 (lv_at hl 0 rfl) ?_
      refine lv_lconst (v := 0) hx hb dR_leastRow_57 (by decide) ?_
      refine W.lcmp hx hb dR_leastRow_58 ?_
      refine lv_if_eq (tgt := 68) hx hb dR_leastRow_59 (by decide) (fun c3 => ?_) (fun c3 => ?_)
      · have c3 := (ls_cmp0 _).mp c3
        refine lv_iload_n hx hb dR_leastRow_68 rfl (lv_at hl 3 rfl) ?_
        refine lv_iconst (v := 1) hx hb dR_leastRow_69 (by decide) ?_
        refine lv_iload hx hb dR_leastRow_70 (lv_at hl 4 rfl) ?_
        refine lv_ishl hx hb dR_leastRow_72 ?_
        refine ls_topi (y := nI (2 ^ v)) (by have q := ls_shl (n := 1) (k := v) (by omega) (by rw [Nat.one_mul]; exact Nat.pow_lt_pow_right (by decide) (by omega)); rw [Nat.one_mul] at q; exact q) ?_
        refine lv_ior hx hb dR_leastRow_73 ?_
        refine ls_topi (y := nI (inn + 2 ^ v)) (by rw [nx_or, lr_or hin]) ?_
        refine lv_istore_n (lv' := [(3, .int (nI (inn + 2 ^ v))), (5, .long (bt &&& ((ls_ones v) ^^^ (-1)))), (0, .ref h), (1, .long bt), (4, .int (nI v))]) hx hb dR_leastRow_74 rfl hl (by decide) rfl (fun ls hl => ?_)
        refine lv_iinc (v := nI (v + 1)) (lv' := [(4, .int (nI (v + 1))), (3, .int (nI (inn + 2 ^ v))), (5, .long (bt &&& ((ls_ones v) ^^^ (-1)))), (0, .ref h), (1, .long bt)]) hx hb dR_leastRow_75 hl (k := 4) rfl (nI_1 _) (by decide) rfl (fun ls hl => ?_)
        refine lv_goto (tgt := 32) hx hb dR_leastRow_78 (by decide) ?_
        exact ih2 (v + 1, bt, inn + 2 ^ v) _ _ _ (by show 6 - (v + 1) < 6 - v; omega) ⟨lr_2o hJ c2 c3, hP, hD, hS, lv_sub hl [3, 4, 1, 0] rfl⟩
      · refine lv_lload hx hb dR_leastRow_62 (lv_at hl 0 rfl) ?_
        refine lv_lstore_n (lv' := [(1, .long (bt &&& ((ls_ones v) ^^^ (-1)))), (5, .long (bt &&& ((ls_ones v) ^^^ (-1)))), (0, .ref h), (3, .int (nI inn)), (4, .int (nI v))]) hx hb dR_leastRow_64 rfl hl (by decide) rfl (fun ls hl => ?_)
        refine lv_goto (tgt := 75) hx hb dR_leastRow_65 (by decide) ?_
        refine lv_iinc (v := nI (v + 1)) (lv' := [(4, .int (nI (v + 1))), (1, .long (bt &&& ((ls_ones v) ^^^ (-1)))), (5, .long (bt &&& ((ls_ones v) ^^^ (-1)))), (0, .ref h), (3, .int (nI inn))]) hx hb dR_leastRow_75 hl (k := 4) rfl (nI_1 _) (by decide) rfl (fun ls hl => ?_)
        refine lv_goto (tgt := 32) hx hb dR_leastRow_78 (by decide) ?_
        exact ih2 (v + 1, bt &&& (ls_ones v ^^^ (-1)), inn) _ _ _ (by show 6 - (v + 1) < 6 - v; omega) ⟨lr_2z hJ c2 (fun q => c3 ((ls_cmp0 _).mpr q)), hP, hD, hS, lv_sub hl [3, 1, 4, 0] rfl⟩
  · have c1 : i < U := Nat.lt_of_not_le (fun q => c1 ((nI_leI (a := U) (b := i) (by omega) (by omega)).mpr q))
    refine lv_lload_n hx hb dR_leastRow_12 rfl (lv_at hl 1 rfl) ?_
    refine lv_aload_n hx hb dR_leastRow_13 rfl (lv_at hl 0 rfl) ?_
    refine va_get (D := (dC, dI)) (ci := 0) (v := .ref w) (C := RR) (T := TR) (N := 2) hx hb hts lyR hown hK hP 0 rfl rfl 0 (by decide) (hts _ fl_R_11) (fun _ h9 => h9) rfl dR_leastRow_14 ?_
    refine lv_iload_n hx hb dR_leastRow_17 rfl (lv_at hl 2 rfl) ?_
    refine va_lald hx hb hK hP 1 0 rfl rfl (vp_in_nI (by omega) (by decide)) dR_leastRow_18 ?_
    refine ls_topl (y := f i) (by rw [nI_clamp (by omega)]) ?_
    refine lv_lor hx hb dR_leastRow_19 ?_
    refine lv_lstore_n (lv' := [(1, .long (bits ||| (f i))), (0, .ref h), (3, .int (nI i))]) hx hb dR_leastRow_20 rfl hl (by decide) rfl (fun ls hl => ?_)
    refine lv_iinc (v := nI (i + 1)) (lv' := [(3, .int (nI (i + 1))), (1, .long (bits ||| (f i))), (0, .ref h)]) hx hb dR_leastRow_21 hl (k := 2) rfl (nI_1 _) (by decide) rfl (fun ls hl => ?_)
    refine lv_goto (tgt := 4) hx hb dR_leastRow_24 (by decide) ?_
    exact ih (i + 1, bits ||| f i) _ _ _ (by show U - (i + 1) < U - i; omega) ⟨⟨c1, fun b hb => by
        rw [ls_b_or, Bool.or_eq_true, hb1 b hb]
        constructor
        · intro q
          rcases q with ⟨k, h, g⟩ | q
          · exact ⟨k, by omega, g⟩
          · exact ⟨i, by omega, q⟩
        · rintro ⟨k, h, g⟩
          rcases Nat.lt_or_ge k i with q | q
          · exact Or.inl ⟨k, q, g⟩
          · rw [show k = i by omega] at g; exact Or.inr g⟩, hP, hD, hS, lv_sub hl [2, 1, 0] rfl⟩
end
section
section WB2
variable {p : Program} {l : Launch} {e : Env} {R : Room} {s : State} {m : MethodId} {args : Array Value} {below : List Frame} {meth : Method} {c : Code} {H : Heap} {locs : List Loc} {cells slots : Nat} {Q : State → Prop} {pc : Nat} {ls : Array Slot} {rest st0 : List Value}
variable {dC : Nat → ClassId} {dI : Nat → Nat → Nat} {tysC : List (ClassId × FieldType)} {tI mc ms : Nat} {A : Nat → Prop} {ws wc wr : va_W} {a : Array Value} {H0 : Heap}
theorem wc_vK {S : Type} {post : S → Prop} {wsf : S → va_W} {tyf : S → List (ClassId × FieldType)} (hr : va_Run p l e R s m args below meth c H locs cells slots mc ms (F0 m pc ls st0) rest (va_Qv post (fun u t => wB dC dI (tyf u) (va_A wc H.size) (wsf u) t) (va_A wc H.size) a) (va_A wc H.size)) (hP : va_P (dC, dI) vwCl ws H) (hD : va_D A ws) (hS : va_S A H0 H locs) (hF : ∀ q, va_A wc H.size q → A q) (isC isR : List Nat) (hC : isC.map (fun i => ws[i]?) = wc.map some) (hR : isR.map (fun i => ws[i]?) = wr.map some) (hn : va_nd isR = true) (hdis : ∀ i ∈ isR, i ∉ isC)
    (kk : ∀ (u : S) (H1 : Heap) (locs1 : List Loc), post u → va_P (dC, dI) vwCl (wr ++ wsf u) H1 → va_D A (wr ++ wsf u) → va_S A H0 H1 locs1 → va_K (dC, dI) vwCl (tyf u) s → W p l e R s m args below meth c H1 locs1 (cells + mc) (slots + ms) Q (F0 m (pc + 3) ls rest)) : W p l e R s m args below meth c H locs cells slots Q (F0 m pc ls st0) := by
  refine va_callv hr hS (fun q _ h => hF q h) hF (fun u t H1 locs1 ht hvm hw hB hz hk hS1 => ?_)
  obtain ⟨hP1, hK1, hD1⟩ := hB
  rw [ht] at hP1
  obtain ⟨hP2, hD2⟩ := va_join (wr := wr) (w1 := wsf u) hP hD isC isR hC hR hn hdis hk hF hP1 hD1
  exact kk u H1 locs1 hw hP2 hD2 hS1 (va_K.moved hvm.symm hK1)
end WB2
/-- the words k under the first i assumptions -/
def na_F (f : Nat → Int64) (an : Nat → Nat) (k : Nat) : Nat → Int64
  | 0 => f k
  | i + 1 => na_F f an k i &&& ls_rw (an i) k
theorem na_F_congr {f g : Nat → Int64} {an : Nat → Nat} {k : Nat} (h : f k = g k) (i : Nat) : na_F f an k i = na_F g an k i := by
  induction i with
  | zero => exact h
  | succ i ih => show _ &&& _ = _ &&& _; rw [ih]
def na_P (f : Nat → Int64) (an : Nat → Nat) (ac U : Nat) (b : Int32) : Prop := (b = 0 ∧ ∀ k, k < U → f k = 0) ∨ (∃ i, i < ac ∧ b = nI (i + 1) ∧ (∃ k, k < U ∧ na_F f an k i ≠ 0) ∧ ∀ k, k < U → na_F f an k (i + 1) = 0) ∨ (b = -1 ∧ ∃ k, k < U ∧ na_F f an k ac ≠ 0)
theorem na_P_congr {f g : Nat → Int64} {an : Nat → Nat} {ac U : Nat} {b : Int32} (h : ∀ k, k < U → f k = g k) (hp : na_P f an ac U b) : na_P g an ac U b := by
  rcases hp with ⟨h1, h2⟩ | ⟨i, h1, h2, ⟨k, h3, h4⟩, h5⟩ | ⟨h1, k, h3, h4⟩
  · exact Or.inl ⟨h1, fun k hk => by rw [← h k hk]; exact h2 k hk⟩
  · exact Or.inr (Or.inl ⟨i, h1, h2, ⟨k, h3, by rw [← na_F_congr (h k h3)]; exact h4⟩, fun k hk => by rw [← na_F_congr (h k hk)]; exact h5 k hk⟩)
  · exact Or.inr (Or.inr ⟨h1, k, h3, by rw [← na_F_congr (h k h3)]; exact h4⟩)
theorem lr_L_congr {f g : Nat → Int64} {n q : Nat} (h : ∀ k, k < 2 ^ n → f k = g k) (hp : lr_L f n q) : lr_L g n q := by
  have hm : ∀ r, r < 64 * 2 ^ n → ls_mem g r = ls_mem f r := fun r hr => by
    unfold ls_mem
    rw [h (r / 64) (by omega)]
  obtain ⟨h1, h2, h3⟩ := hp
  exact ⟨h1, by rw [hm q h1]; exact h2, fun v hv hb r hr hrm => h3 v hv hb r hr (by rw [← hm r hr]; exact hrm)⟩
theorem ax_am1 (x : Int64) : x &&& (-1) = x := ls_b_ext fun b hb => by rw [ls_b_and, ls_b_m1 b hb, Bool.and_true]
theorem ax_nm1 {i : Nat} (h : i + 1 < 2 ^ 31) : ¬ nI (i + 1) = -1 := fun q => absurd (nI_pos h) (by rw [q]; decide)
end
section
set_option maxHeartbeats 4000000 in
set_option maxRecDepth 100000 in
/-- Rows() -/
theorem k_R_init (l : Launch) (dC : Nat → ClassId) (dI : Nat → Nat → Nat) (tI sz : Nat) (h : Nat) : Met l yR_init (Cond.code yR_init cR_init 1 none :: GG) (lvr 1 1 1024) (va_Pc [.ref h] (wPre dC dI [] [(h, .inr (0, [.null, .int 0]))] sz tI)) (va_Qv (fun (u : Nat × ClassId) => True) (fun u t => wB dC dI [(u.2, .long)] (va_A [(h, .inr (0, [.null, .int 0]))] sz) [(h, .inr (0, [.ref u.1, .int 0])), (u.1, .inl (u.2, 1024, .inr (.inl (fun _ => 0))))] t) (va_A [(h, .inr (0, [.null, .int 0]))] sz)) 1 1024 (va_A [(h, .inr (0, [.null, .int 0]))] sz) := by
  refine Met.ofW (cc := cR_init) (maxL := 1) (ret := none) (by decide) rfl ?_
  intro p e s m args below meth c s₁ B hml hv
  obtain ⟨rfl, hsz, hP, hK, hD0, hZ, hX⟩ := hv
  have hx := B.exec
  have hb := B.bytes
  have hr := B.returns
  have hts : ∀ w ∈ GG, w.before ([.ref h] : List Value).toArray s = true := fun w h => atoms_spec (ws := _ :: GG) B.pre w (List.mem_cons_of_mem _ h)
  have hown : s.vm.findClass RR = some m.cls := findClass_of_methodNamed B.named
  have hlocks := B.notSynchronized
  have hin : meth.name = "<init>" := (name_of_methodNamed B.named B.method).1
  subst hsz
  have hD := hD0.self (sz := s.heap.size)
  generalize hAe : va_A [(h, .inr (0, [.null, .int 0]))] s.heap.size = A at hD hZ ⊢
  have hA : ∀ q : Nat, s.heap.size ≤ q → A q := fun q h => by rw [← hAe]; exact Or.inr h
  have hS : va_S A s.heap s.heap [] := va_S.rf
  have hl := lv_entry ([.ref h]) (n := 1) (Nat.le_of_ble_eq_true rfl)
  rw [lg_entry_eq]
  generalize (lg_sl ([.ref h]) ++ List.replicate (1 - (lg_sl ([.ref h])).length) Slot.unset).toArray = ls at hl ⊢
  have hl : lv_has ls 1 [(0, .ref h)] := hl
  have SF : CallFix p m c cR_init 1 s ([.ref h] : List Value).toArray GG RR := ⟨hx, hb, hml, hown, hts⟩
  skip
  have hP : va_P (dC, dI) vwCl [(h, .inr (0, [.null, .int 0]))] s.heap := hP
  refine lv_aload_n hx hb dR_init_0 rfl (lv_at hl 0 rfl) ?_
  refine W.objInit hx hb hown (hts _ ml_R_5) (hts _ im_object) (hts _ co_object) rfl (by rw [hml]; exact hl.1) rfl dR_init_1 (Nat.le_of_ble_eq_true rfl) (Nat.le_of_ble_eq_true rfl) ?_
  refine W.eq (g2 := F0 m 4 ls []) rfl ?_
  refine lv_aload_n hx hb dR_init_4 rfl (lv_at hl 0 rfl) ?_
  refine lv_sipush (v := 1024) hx hb dR_init_5 (by decide) ?_
  refine va_newa (atype := .long) (a0 := (1024, .inr (.inl (fun _ => 0)))) hx hb (hts _ ac_long) rfl hK hP hD hS hA (fun _ => rfl) (by decide) rfl (by decide) (Nat.le_of_ble_eq_true rfl) (Nat.le_of_ble_eq_true rfl) dR_init_8 (fun q cA H hK hP hD hS => ?_)
  have hP : va_P (dC, dI) vwCl [(h, .inr (0, [.null, .int 0])), (q, .inl (cA, 1024, .inr (.inl (fun _ => 0))))] H := hP
  have hD : va_D A [(h, .inr (0, [.null, .int 0])), (q, .inl (cA, 1024, .inr (.inl (fun _ => 0))))] := hD
  have hK : va_K (dC, dI) vwCl [(cA, .long)] s := hK
  refine va_putF (D := (dC, dI)) (ci := 0) (v := .ref q) (ty := .array .long) (C := RR) (T := TR) (N := 2) hx hb hts lyR tyR tyR_ok nmR hown hK hP hD hS 0 rfl rfl 0 (by decide) (hts _ fl_R_11) (fun _ h9 => h9) rfl hin rfl (by decide +kernel) rfl rfl (Nat.le_of_ble_eq_true rfl) dR_init_10 (fun H locs hP hD hS => ?_)
  have hP : va_P (dC, dI) vwCl [(h, .inr (0, [.ref q, .int 0])), (q, .inl (cA, 1024, .inr (.inl (fun _ => 0))))] H := hP
  have hD : va_D A [(h, .inr (0, [.ref q, .int 0])), (q, .inl (cA, 1024, .inr (.inl (fun _ => 0))))] := hD
  refine lv_aload_n hx hb dR_init_13 rfl (lv_at hl 0 rfl) ?_
  refine lv_iconst (v := 0) hx hb dR_init_14 (by decide) ?_
  refine va_put (D := (dC, dI)) (ci := 0) (v := .int 0) (ty := .int) (C := RR) (T := TR) (N := 2) hx hb hts lyR tyR tyR_ok nmR hown hK hP hD hS 0 rfl rfl 1 (by decide) (hts _ fl_R_15) (fun _ h9 => h9) rfl (by decide +kernel) rfl rfl (Nat.le_of_ble_eq_true rfl) dR_init_15 (fun H locs hP hD hS => ?_)
  have hP : va_P (dC, dI) vwCl [(h, .inr (0, [.ref q, .int 0])), (q, .inl (cA, 1024, .inr (.inl (fun _ => 0))))] H := hP
  have hD : va_D A [(h, .inr (0, [.ref q, .int 0])), (q, .inl (cA, 1024, .inr (.inl (fun _ => 0))))] := hD
  refine W.widen (k := 1) (n := 1024) (Nat.le_of_ble_eq_true rfl) (Nat.le_of_ble_eq_true rfl) ?_
  exact (W.vret hx hb hr (fun t ht hW => ⟨⟨(q, cA), rfl, trivial, by rw [ht]; exact hP, va_K.moved hW.alike hK, hD⟩, hS.F ht⟩) hS.2.2 dR_init_18)
set_option maxHeartbeats 4000000 in
set_option maxRecDepth 100000 in
theorem k_S_blame (l : Launch) (dC : Nat → ClassId) (dI : Nat → Nat → Nat) (tI sz : Nat) (h0 h1 h2 aw aa : Nat) (nv nl nc wc ac vt : Nat) (fo bl lv : Int32) : Met l yS_blame (Cond.code yS_blame cS_blame 1 (some .int) :: GG) (lvr 0 0 0) (va_Pc [.ref h0] (wPre dC dI [] [(h0, .inr (1, [.ref h1, .ref h2, .ref aw, .ref aa, .int (nI nv), .int (nI nl), .int (nI nc), .int (nI wc), .int (nI ac), .int fo, .int bl, .int lv, .int (nI vt)]))] sz tI)) (va_Qi (fun (r : Int32) (u : Unit) => r = bl) (fun u t => wB dC dI [] (va_A [(h0, .inr (1, [.ref h1, .ref h2, .ref aw, .ref aa, .int (nI nv), .int (nI nl), .int (nI nc), .int (nI wc), .int (nI ac), .int fo, .int bl, .int lv, .int (nI vt)]))] sz) [(h0, .inr (1, [.ref h1, .ref h2, .ref aw, .ref aa, .int (nI nv), .int (nI nl), .int (nI nc), .int (nI wc), .int (nI ac), .int fo, .int bl, .int lv, .int (nI vt)]))] t) (va_A [(h0, .inr (1, [.ref h1, .ref h2, .ref aw, .ref aa, .int (nI nv), .int (nI nl), .int (nI nc), .int (nI wc), .int (nI ac), .int fo, .int bl, .int lv, .int (nI vt)]))] sz)) 0 0 (va_A [(h0, .inr (1, [.ref h1, .ref h2, .ref aw, .ref aa, .int (nI nv), .int (nI nl), .int (nI nc), .int (nI wc), .int (nI ac), .int fo, .int bl, .int lv, .int (nI vt)]))] sz) := by
  refine Met.ofW (cc := cS_blame) (maxL := 1) (ret := (some .int)) (by decide) rfl ?_
  intro p e s m args below meth c s₁ B hml hv
  obtain ⟨rfl, hsz, hP, hK, hD0, hZ, hX⟩ := hv
  have hx := B.exec
  have hb := B.bytes
  have hr := B.returns
  have hts : ∀ w ∈ GG, w.before ([.ref h0] : List Value).toArray s = true := fun w h => atoms_spec (ws := _ :: GG) B.pre w (List.mem_cons_of_mem _ h)
  have hown : s.vm.findClass RS = some m.cls := findClass_of_methodNamed B.named
  have hlocks := B.notSynchronized
  subst hsz
  have hD := hD0.self (sz := s.heap.size)
  generalize hAe : va_A [(h0, .inr (1, [.ref h1, .ref h2, .ref aw, .ref aa, .int (nI nv), .int (nI nl), .int (nI nc), .int (nI wc), .int (nI ac), .int fo, .int bl, .int lv, .int (nI vt)]))] s.heap.size = A at hD hZ ⊢
  have hA : ∀ q : Nat, s.heap.size ≤ q → A q := fun q h => by rw [← hAe]; exact Or.inr h
  have hS : va_S A s.heap s.heap [] := va_S.rf
  have hl := lv_entry ([.ref h0]) (n := 1) (Nat.le_of_ble_eq_true rfl)
  rw [lg_entry_eq]
  generalize (lg_sl ([.ref h0]) ++ List.replicate (1 - (lg_sl ([.ref h0])).length) Slot.unset).toArray = ls at hl ⊢
  have hl : lv_has ls 1 [(0, .ref h0)] := hl
  have SF : CallFix p m c cS_blame 1 s ([.ref h0] : List Value).toArray GG RS := ⟨hx, hb, hml, hown, hts⟩
  skip
  have hP : va_P (dC, dI) vwCl [(h0, .inr (1, [.ref h1, .ref h2, .ref aw, .ref aa, .int (nI nv), .int (nI nl), .int (nI nc), .int (nI wc), .int (nI ac), .int fo, .int bl, .int lv, .int (nI vt)]))] s.heap := hP
  refine lv_aload_n hx hb dS_blame_0 rfl (lv_at hl 0 rfl) ?_
  refine va_get (D := (dC, dI)) (ci := 1) (v := .int bl) (C := RS) (T := TS) (N := 13) hx hb hts lyS hown hK hP 0 rfl rfl 10 (by decide) (hts _ fl_S_79) (fun _ h9 => h9) rfl dS_blame_1 ?_
  exact (W.iret (v := bl) hx hb hr (fun t ht hW => ⟨⟨bl, (), rfl, rfl, by rw [ht]; exact hP, va_K.moved hW.alike hK, hD⟩, hS.F ht⟩) hS.2.2 dS_blame_4)
set_option maxHeartbeats 4000000 in
set_option maxRecDepth 100000 in
theorem k_S_shown (l : Launch) (dC : Nat → ClassId) (dI : Nat → Nat → Nat) (tI sz : Nat) (h0 h1 h2 aw aa : Nat) (nv nl nc wc ac vt : Nat) (fo bl lv : Int32) (hfo : fo = 1 ∨ fo = 0) : Met l yS_shown (Cond.code yS_shown cS_shown 1 (some .boolean) :: GG) (lvr 0 0 0) (va_Pc [.ref h0] (wPre dC dI [] [(h0, .inr (1, [.ref h1, .ref h2, .ref aw, .ref aa, .int (nI nv), .int (nI nl), .int (nI nc), .int (nI wc), .int (nI ac), .int fo, .int bl, .int lv, .int (nI vt)]))] sz tI)) (va_Qi (fun (r : Int32) (u : Unit) => r = fo) (fun u t => wB dC dI [] (va_A [(h0, .inr (1, [.ref h1, .ref h2, .ref aw, .ref aa, .int (nI nv), .int (nI nl), .int (nI nc), .int (nI wc), .int (nI ac), .int fo, .int bl, .int lv, .int (nI vt)]))] sz) [(h0, .inr (1, [.ref h1, .ref h2, .ref aw, .ref aa, .int (nI nv), .int (nI nl), .int (nI nc), .int (nI wc), .int (nI ac), .int fo, .int bl, .int lv, .int (nI vt)]))] t) (va_A [(h0, .inr (1, [.ref h1, .ref h2, .ref aw, .ref aa, .int (nI nv), .int (nI nl), .int (nI nc), .int (nI wc), .int (nI ac), .int fo, .int bl, .int lv, .int (nI vt)]))] sz)) 0 0 (va_A [(h0, .inr (1, [.ref h1, .ref h2, .ref aw, .ref aa, .int (nI nv), .int (nI nl), .int (nI nc), .int (nI wc), .int (nI ac), .int fo, .int bl, .int lv, .int (nI vt)]))] sz) := by
  refine Met.ofW (cc := cS_shown) (maxL := 1) (ret := (some .boolean)) (by decide) rfl ?_
  intro p e s m args below meth c s₁ B hml hv
  obtain ⟨rfl, hsz, hP, hK, hD0, hZ, hX⟩ := hv
  have hx := B.exec
  have hb := B.bytes
  have hr := B.returns
  have hts : ∀ w ∈ GG, w.before ([.ref h0] : List Value).toArray s = true := fun w h => atoms_spec (ws := _ :: GG) B.pre w (List.mem_cons_of_mem _ h)
  have hown : s.vm.findClass RS = some m.cls := findClass_of_methodNamed B.named
  have hlocks := B.notSynchronized
  subst hsz
  have hD := hD0.self (sz := s.heap.size)
  generalize hAe : va_A [(h0, .inr (1, [.ref h1, .ref h2, .ref aw, .ref aa, .int (nI nv), .int (nI nl), .int (nI nc), .int (nI wc), .int (nI ac), .int fo, .int bl, .int lv, .int (nI vt)]))] s.heap.size = A at hD hZ ⊢
  have hA : ∀ q : Nat, s.heap.size ≤ q → A q := fun q h => by rw [← hAe]; exact Or.inr h
  have hS : va_S A s.heap s.heap [] := va_S.rf
  have hl := lv_entry ([.ref h0]) (n := 1) (Nat.le_of_ble_eq_true rfl)
  rw [lg_entry_eq]
  generalize (lg_sl ([.ref h0]) ++ List.replicate (1 - (lg_sl ([.ref h0])).length) Slot.unset).toArray = ls at hl ⊢
  have hl : lv_has ls 1 [(0, .ref h0)] := hl
  have SF : CallFix p m c cS_shown 1 s ([.ref h0] : List Value).toArray GG RS := ⟨hx, hb, hml, hown, hts⟩
  skip
  have hP : va_P (dC, dI) vwCl [(h0, .inr (1, [.ref h1, .ref h2, .ref aw, .ref aa, .int (nI nv), .int (nI nl), .int (nI nc), .int (nI wc), .int (nI ac), .int fo, .int bl, .int lv, .int (nI vt)]))] s.heap := hP
  refine lv_aload_n hx hb dS_shown_0 rfl (lv_at hl 0 rfl) ?_
  refine va_get (D := (dC, dI)) (ci := 1) (v := .int fo) (C := RS) (T := TS) (N := 13) hx hb hts lyS hown hK hP 0 rfl rfl 9 (by decide) (hts _ fl_S_82) (fun _ h9 => h9) rfl dS_shown_1 ?_
  exact (W.zret (v := fo) hx hb hr ((ax_b01 hfo).1) (fun t ht hW => ⟨⟨fo, (), rfl, rfl, by rw [ht]; exact hP, va_K.moved hW.alike hK, hD⟩, hS.F ht⟩) hS.2.2 dS_shown_4)
set_option maxHeartbeats 4000000 in
set_option maxRecDepth 100000 in
theorem k_S_proved (l : Launch) (dC : Nat → ClassId) (dI : Nat → Nat → Nat) (tI sz : Nat) (h0 h1 h2 aw aa : Nat) (nv nl nc wc ac vt : Nat) (fo bl lv : Int32) : Met l yS_proved (Cond.code yS_proved cS_proved 1 (some .boolean) :: GG) (lvr 0 0 0) (va_Pc [.ref h0] (wPre dC dI [] [(h0, .inr (1, [.ref h1, .ref h2, .ref aw, .ref aa, .int (nI nv), .int (nI nl), .int (nI nc), .int (nI wc), .int (nI ac), .int fo, .int bl, .int lv, .int (nI vt)]))] sz tI)) (va_Qi (fun (r : Int32) (u : Unit) => (r = 1 ∧ ¬ bl = -1) ∨ (r = 0 ∧ bl = -1)) (fun u t => wB dC dI [] (va_A [(h0, .inr (1, [.ref h1, .ref h2, .ref aw, .ref aa, .int (nI nv), .int (nI nl), .int (nI nc), .int (nI wc), .int (nI ac), .int fo, .int bl, .int lv, .int (nI vt)]))] sz) [(h0, .inr (1, [.ref h1, .ref h2, .ref aw, .ref aa, .int (nI nv), .int (nI nl), .int (nI nc), .int (nI wc), .int (nI ac), .int fo, .int bl, .int lv, .int (nI vt)]))] t) (va_A [(h0, .inr (1, [.ref h1, .ref h2, .ref aw, .ref aa, .int (nI nv), .int (nI nl), .int (nI nc), .int (nI wc), .int (nI ac), .int fo, .int bl, .int lv, .int (nI vt)]))] sz)) 0 0 (va_A [(h0, .inr (1, [.ref h1, .ref h2, .ref aw, .ref aa, .int (nI nv), .int (nI nl), .int (nI nc), .int (nI wc), .int (nI ac), .int fo, .int bl, .int lv, .int (nI vt)]))] sz) := by
  refine Met.ofW (cc := cS_proved) (maxL := 1) (ret := (some .boolean)) (by decide) rfl ?_
  intro p e s m args below meth c s₁ B hml hv
  obtain ⟨rfl, hsz, hP, hK, hD0, hZ, hX⟩ := hv
  have hx := B.exec
  have hb := B.bytes
  have hr := B.returns
  have hts : ∀ w ∈ GG, w.before ([.ref h0] : List Value).toArray s = true := fun w h => atoms_spec (ws := _ :: GG) B.pre w (List.mem_cons_of_mem _ h)
  have hown : s.vm.findClass RS = some m.cls := findClass_of_methodNamed B.named
  have hlocks := B.notSynchronized
  subst hsz
  have hD := hD0.self (sz := s.heap.size)
  generalize hAe : va_A [(h0, .inr (1, [.ref h1, .ref h2, .ref aw, .ref aa, .int (nI nv), .int (nI nl), .int (nI nc), .int (nI wc), .int (nI ac), .int fo, .int bl, .int lv, .int (nI vt)]))] s.heap.size = A at hD hZ ⊢
  have hA : ∀ q : Nat, s.heap.size ≤ q → A q := fun q h => by rw [← hAe]; exact Or.inr h
  have hS : va_S A s.heap s.heap [] := va_S.rf
  have hl := lv_entry ([.ref h0]) (n := 1) (Nat.le_of_ble_eq_true rfl)
  rw [lg_entry_eq]
  generalize (lg_sl ([.ref h0]) ++ List.replicate (1 - (lg_sl ([.ref h0])).length) Slot.unset).toArray = ls at hl ⊢
  have hl : lv_has ls 1 [(0, .ref h0)] := hl
  have SF : CallFix p m c cS_proved 1 s ([.ref h0] : List Value).toArray GG RS := ⟨hx, hb, hml, hown, hts⟩
  skip
  have hP : va_P (dC, dI) vwCl [(h0, .inr (1, [.ref h1, .ref h2, .ref aw, .ref aa, .int (nI nv), .int (nI nl), .int (nI nc), .int (nI wc), .int (nI ac), .int fo, .int bl, .int lv, .int (nI vt)]))] s.heap := hP
  refine lv_aload_n hx hb dS_proved_0 rfl (lv_at hl 0 rfl) ?_
  refine va_get (D := (dC, dI)) (ci := 1) (v := .int bl) (C := RS) (T := TS) (N := 13) hx hb hts lyS hown hK hP 0 rfl rfl 10 (by decide) (hts _ fl_S_79) (fun _ h9 => h9) rfl dS_proved_1 ?_
  refine lv_iconst (v := (-1)) hx hb dS_proved_4 (by decide) ?_
  refine lv_icmp_eq (tgt := 12) hx hb dS_proved_5 (by decide) (fun c1 => ?_) (fun c1 => ?_)
  · refine lv_iconst (v := 0) hx hb dS_proved_12 (by decide) ?_
    exact (W.zret (v := 0) hx hb hr (rfl) (fun t ht hW => ⟨⟨0, (), rfl, Or.inr ⟨rfl, c1⟩, by rw [ht]; exact hP, va_K.moved hW.alike hK, hD⟩, hS.F ht⟩) hS.2.2 dS_proved_13)
  · refine lv_iconst (v := 1) hx hb dS_proved_8 (by decide) ?_
    refine lv_goto (tgt := 13) hx hb dS_proved_9 (by decide) ?_
    exact (W.zret (v := 1) hx hb hr (rfl) (fun t ht hW => ⟨⟨1, (), rfl, Or.inl ⟨rfl, c1⟩, by rw [ht]; exact hP, va_K.moved hW.alike hK, hD⟩, hS.F ht⟩) hS.2.2 dS_proved_13)
set_option maxHeartbeats 4000000 in
set_option maxRecDepth 100000 in
theorem k_S_startAnew (l : Launch) (dC : Nat → ClassId) (dI : Nat → Nat → Nat) (tI sz : Nat) (h0 h1 w1 h2 aw aa : Nat) (cL : ClassId) (f : Nat → Int64) (x : Int32) (i4 i5 i6 i7 i8 i9 i10 i11 i12 : Int32) : Met l yS_startAnew (Cond.code yS_startAnew cS_startAnew 1 none :: GG) (lvr 1 0 0) (va_Pc [.ref h0] (wPre dC dI [(cL, .long)] [(h0, .inr (1, [.ref h1, .ref h2, .ref aw, .ref aa, .int i4, .int i5, .int i6, .int i7, .int i8, .int i9, .int i10, .int i11, .int i12])), (h1, .inr (0, [.ref w1, .int x])), (w1, .inl (cL, 1024, .inr (.inl f)))] sz tI)) (va_Qv (fun (u : Unit) => True) (fun u t => wB dC dI [(cL, .long)] (va_A [(h0, .inr (1, [.ref h1, .ref h2, .ref aw, .ref aa, .int i4, .int i5, .int i6, .int i7, .int i8, .int i9, .int i10, .int i11, .int i12])), (h1, .inr (0, [.ref w1, .int x])), (w1, .inl (cL, 1024, .inr (.inl f)))] sz) [(h0, .inr (1, [.ref h1, .ref h2, .ref aw, .ref aa, .int 0, .int 0, .int 0, .int 0, .int 0, .int 0, .int (-1), .int 0, .int 0])), (h1, .inr (0, [.ref w1, .int 1])), (w1, .inl (cL, 1024, .inr (.inl (vp_updL f 0 (-1)))))] t) (va_A [(h0, .inr (1, [.ref h1, .ref h2, .ref aw, .ref aa, .int i4, .int i5, .int i6, .int i7, .int i8, .int i9, .int i10, .int i11, .int i12])), (h1, .inr (0, [.ref w1, .int x])), (w1, .inl (cL, 1024, .inr (.inl f)))] sz)) 0 0 (va_A [(h0, .inr (1, [.ref h1, .ref h2, .ref aw, .ref aa, .int i4, .int i5, .int i6, .int i7, .int i8, .int i9, .int i10, .int i11, .int i12])), (h1, .inr (0, [.ref w1, .int x])), (w1, .inl (cL, 1024, .inr (.inl f)))] sz) := by
  refine Met.ofW (cc := cS_startAnew) (maxL := 1) (ret := none) (by decide) rfl ?_
  intro p e s m args below meth c s₁ B hml hv
  obtain ⟨rfl, hsz, hP, hK, hD0, hZ, hX⟩ := hv
  have hx := B.exec
  have hb := B.bytes
  have hr := B.returns
  have hts : ∀ w ∈ GG, w.before ([.ref h0] : List Value).toArray s = true := fun w h => atoms_spec (ws := _ :: GG) B.pre w (List.mem_cons_of_mem _ h)
  have hown : s.vm.findClass RS = some m.cls := findClass_of_methodNamed B.named
  have hlocks := B.notSynchronized
  subst hsz
  have hD := hD0.self (sz := s.heap.size)
  generalize hAe : va_A [(h0, .inr (1, [.ref h1, .ref h2, .ref aw, .ref aa, .int i4, .int i5, .int i6, .int i7, .int i8, .int i9, .int i10, .int i11, .int i12])), (h1, .inr (0, [.ref w1, .int x])), (w1, .inl (cL, 1024, .inr (.inl f)))] s.heap.size = A at hD hZ ⊢
  have hA : ∀ q : Nat, s.heap.size ≤ q → A q := fun q h => by rw [← hAe]; exact Or.inr h
  have hS : va_S A s.heap s.heap [] := va_S.rf
  have hl := lv_entry ([.ref h0]) (n := 1) (Nat.le_of_ble_eq_true rfl)
  rw [lg_entry_eq]
  generalize (lg_sl ([.ref h0]) ++ List.replicate (1 - (lg_sl ([.ref h0])).length) Slot.unset).toArray = ls at hl ⊢
  have hl : lv_has ls 1 [(0, .ref h0)] := hl
  have SF : CallFix p m c cS_startAnew 1 s ([.ref h0] : List Value).toArray GG RS := ⟨hx, hb, hml, hown, hts⟩
  skip
  have hP : va_P (dC, dI) vwCl [(h0, .inr (1, [.ref h1, .ref h2, .ref aw, .ref aa, .int i4, .int i5, .int i6, .int i7, .int i8, .int i9, .int i10, .int i11, .int i12])), (h1, .inr (0, [.ref w1, .int x])), (w1, .inl (cL, 1024, .inr (.inl f)))] s.heap := hP
  refine lv_aload_n hx hb dS_startAnew_0 rfl (lv_at hl 0 rfl) ?_
  refine va_get (D := (dC, dI)) (ci := 1) (v := .ref h1) (C := RS) (T := TS) (N := 13) hx hb hts lyS hown hK hP 0 rfl rfl 0 (by decide) (hts _ fl_S_10) (fun _ h9 => h9) rfl dS_startAnew_1 ?_
  have hFc := va_free (wc := [(h1, .inr (0, [.ref w1, .int x])), (w1, .inl (cL, 1024, .inr (.inl f)))]) hD hS hA [1, 2] rfl
  refine wc_v (wc_V (As := []) (rest := []) (n := 0) SF (k_R_holdAll l dC dI tI _ h1 w1 cL f x) ml_S_117 im_R_holdAll se_R_holdAll in_R co_R_holdAll (by decide +kernel) rfl rfl rfl ⟨Nat.le_of_ble_eq_true rfl, Nat.le_of_ble_eq_true rfl⟩ (va_recv (hK.sub (tys' := []) [] rfl) (hP.sub (ws' := [(h1, .inr (0, [.ref w1, .int x])), (w1, .inl (cL, 1024, .inr (.inl f)))]) [1, 2] rfl) (ci := 0) (q0 := 0) rfl rfl) (hP.sub [1, 2] rfl) (hD.sub [1, 2] (by decide) rfl) (hK.sub [0] rfl) hZ hX hS hFc rfl hl.1 (Nat.le_of_ble_eq_true rfl) dS_startAnew_4 ⟨Nat.le_of_ble_eq_true rfl, Nat.le_of_ble_eq_true rfl⟩) hP hD hS hFc [1, 2] [0] (wr := [(h0, .inr (1, [.ref h1, .ref h2, .ref aw, .ref aa, .int i4, .int i5, .int i6, .int i7, .int i8, .int i9, .int i10, .int i11, .int i12]))]) rfl rfl rfl (by decide) (fun uu H locs hw hP hD hS => ?_)
  have hP : va_P (dC, dI) vwCl [(h0, .inr (1, [.ref h1, .ref h2, .ref aw, .ref aa, .int i4, .int i5, .int i6, .int i7, .int i8, .int i9, .int i10, .int i11, .int i12])), (h1, .inr (0, [.ref w1, .int 1])), (w1, .inl (cL, 1024, .inr (.inl (vp_updL f 0 (-1)))))] H := hP.sub [0, 1, 2] rfl
  have hD : va_D A [(h0, .inr (1, [.ref h1, .ref h2, .ref aw, .ref aa, .int i4, .int i5, .int i6, .int i7, .int i8, .int i9, .int i10, .int i11, .int i12])), (h1, .inr (0, [.ref w1, .int 1])), (w1, .inl (cL, 1024, .inr (.inl (vp_updL f 0 (-1)))))] := hD.sub [0, 1, 2] (by decide) rfl
  refine lv_aload_n hx hb dS_startAnew_7 rfl (lv_at hl 0 rfl) ?_
  refine lv_iconst (v := 0) hx hb dS_startAnew_8 (by decide) ?_
  refine va_put (D := (dC, dI)) (ci := 1) (v := .int 0) (ty := .int) (C := RS) (T := TS) (N := 13) hx hb hts lyS tyS tyS_ok nmS hown hK hP hD hS 0 rfl rfl 4 (by decide) (hts _ fl_S_29) (fun _ h9 => h9) rfl (by decide +kernel) rfl rfl (Nat.le_of_ble_eq_true rfl) dS_startAnew_9 (fun H locs hP hD hS => ?_)
  have hP : va_P (dC, dI) vwCl [(h0, .inr (1, [.ref h1, .ref h2, .ref aw, .ref aa, .int 0, .int i5, .int i6, .int i7, .int i8, .int i9, .int i10, .int i11, .int i12])), (h1, .inr (0, [.ref w1, .int 1])), (w1, .inl (cL, 1024, .inr (.inl (vp_updL f 0 (-1)))))] H := hP
  have hD : va_D A [(h0, .inr (1, [.ref h1, .ref h2, .ref aw, .ref aa, .int 0, .int i5, .int i6, .int i7, .int i8, .int i9, .int i10, .int i11, .int i12])), (h1, .inr (0, [.ref w1, .int 1])), (w1, .inl (cL, 1024, .inr (.inl (vp_updL f 0 (-1)))))] := hD
  refine lv_aload_n hx hb dS_startAnew_12 rfl (lv_at hl 0 rfl) ?_
  refine lv_iconst (v := 0) hx hb dS_startAnew_13 (by decide) ?_
  refine va_put (D := (dC, dI)) (ci := 1) (v := .int 0) (ty := .int) (C := RS) (T := TS) (N := 13) hx hb hts lyS tyS tyS_ok nmS hown hK hP hD hS 0 rfl rfl 5 (by decide) (hts _ fl_S_52) (fun _ h9 => h9) rfl (by decide +kernel) rfl rfl (Nat.le_of_ble_eq_true rfl) dS_startAnew_14 (fun H locs hP hD hS => ?_)
  have hP : va_P (dC, dI) vwCl [(h0, .inr (1, [.ref h1, .ref h2, .ref aw, .ref aa, .int 0, .int 0, .int i6, .int i7, .int i8, .int i9, .int i10, .int i11, .int i12])), (h1, .inr (0, [.ref w1, .int 1])), (w1, .inl (cL, 1024, .inr (.inl (vp_updL f 0 (-1)))))] H := hP
  have hD : va_D A [(h0, .inr (1, [.ref h1, .ref h2, .ref aw, .ref aa, .int 0, .int 0, .int i6, .int i7, .int i8, .int i9, .int i10, .int i11, .int i12])), (h1, .inr (0, [.ref w1, .int 1])), (w1, .inl (cL, 1024, .inr (.inl (vp_updL f 0 (-1)))))] := hD
  refine lv_aload_n hx hb dS_startAnew_17 rfl (lv_at hl 0 rfl) ?_
  refine lv_iconst (v := 0) hx hb dS_startAnew_18 (by decide) ?_
  refine va_put (D := (dC, dI)) (ci := 1) (v := .int 0) (ty := .int) (C := RS) (T := TS) (N := 13) hx hb hts lyS tyS tyS_ok nmS hown hK hP hD hS 0 rfl rfl 6 (by decide) (hts _ fl_S_57) (fun _ h9 => h9) rfl (by decide +kernel) rfl rfl (Nat.le_of_ble_eq_true rfl) dS_startAnew_19 (fun H locs hP hD hS => ?_)
  have hP : va_P (dC, dI) vwCl [(h0, .inr (1, [.ref h1, .ref h2, .ref aw, .ref aa, .int 0, .int 0, .int 0, .int i7, .int i8, .int i9, .int i10, .int i11, .int i12])), (h1, .inr (0, [.ref w1, .int 1])), (w1, .inl (cL, 1024, .inr (.inl (vp_updL f 0 (-1)))))] H := hP
  have hD : va_D A [(h0, .inr (1, [.ref h1, .ref h2, .ref aw, .ref aa, .int 0, .int 0, .int 0, .int i7, .int i8, .int i9, .int i10, .int i11, .int i12])), (h1, .inr (0, [.ref w1, .int 1])), (w1, .inl (cL, 1024, .inr (.inl (vp_updL f 0 (-1)))))] := hD
  refine lv_aload_n hx hb dS_startAnew_22 rfl (lv_at hl 0 rfl) ?_
  refine lv_iconst (v := 0) hx hb dS_startAnew_23 (by decide) ?_
  refine va_put (D := (dC, dI)) (ci := 1) (v := .int 0) (ty := .int) (C := RS) (T := TS) (N := 13) hx hb hts lyS tyS tyS_ok nmS hown hK hP hD hS 0 rfl rfl 7 (by decide) (hts _ fl_S_47) (fun _ h9 => h9) rfl (by decide +kernel) rfl rfl (Nat.le_of_ble_eq_true rfl) dS_startAnew_24 (fun H locs hP hD hS => ?_)
  have hP : va_P (dC, dI) vwCl [(h0, .inr (1, [.ref h1, .ref h2, .ref aw, .ref aa, .int 0, .int 0, .int 0, .int 0, .int i8, .int i9, .int i10, .int i11, .int i12])), (h1, .inr (0, [.ref w1, .int 1])), (w1, .inl (cL, 1024, .inr (.inl (vp_updL f 0 (-1)))))] H := hP
  have hD : va_D A [(h0, .inr (1, [.ref h1, .ref h2, .ref aw, .ref aa, .int 0, .int 0, .int 0, .int 0, .int i8, .int i9, .int i10, .int i11, .int i12])), (h1, .inr (0, [.ref w1, .int 1])), (w1, .inl (cL, 1024, .inr (.inl (vp_updL f 0 (-1)))))] := hD
  refine lv_aload_n hx hb dS_startAnew_27 rfl (lv_at hl 0 rfl) ?_
  refine lv_iconst (v := 0) hx hb dS_startAnew_28 (by decide) ?_
  refine va_put (D := (dC, dI)) (ci := 1) (v := .int 0) (ty := .int) (C := RS) (T := TS) (N := 13) hx hb hts lyS tyS tyS_ok nmS hown hK hP hD hS 0 rfl rfl 8 (by decide) (hts _ fl_S_66) (fun _ h9 => h9) rfl (by decide +kernel) rfl rfl (Nat.le_of_ble_eq_true rfl) dS_startAnew_29 (fun H locs hP hD hS => ?_)
  have hP : va_P (dC, dI) vwCl [(h0, .inr (1, [.ref h1, .ref h2, .ref aw, .ref aa, .int 0, .int 0, .int 0, .int 0, .int 0, .int i9, .int i10, .int i11, .int i12])), (h1, .inr (0, [.ref w1, .int 1])), (w1, .inl (cL, 1024, .inr (.inl (vp_updL f 0 (-1)))))] H := hP
  have hD : va_D A [(h0, .inr (1, [.ref h1, .ref h2, .ref aw, .ref aa, .int 0, .int 0, .int 0, .int 0, .int 0, .int i9, .int i10, .int i11, .int i12])), (h1, .inr (0, [.ref w1, .int 1])), (w1, .inl (cL, 1024, .inr (.inl (vp_updL f 0 (-1)))))] := hD
  refine lv_aload_n hx hb dS_startAnew_32 rfl (lv_at hl 0 rfl) ?_
  refine lv_iconst (v := 0) hx hb dS_startAnew_33 (by decide) ?_
  refine va_put (D := (dC, dI)) (ci := 1) (v := .int 0) (ty := .boolean) (C := RS) (T := TS) (N := 13) hx hb hts lyS tyS tyS_ok nmS hown hK hP hD hS 0 rfl rfl 9 (by decide) (hts _ fl_S_82) (fun _ h9 => h9) rfl (by decide +kernel) rfl rfl (Nat.le_of_ble_eq_true rfl) dS_startAnew_34 (fun H locs hP hD hS => ?_)
  have hP : va_P (dC, dI) vwCl [(h0, .inr (1, [.ref h1, .ref h2, .ref aw, .ref aa, .int 0, .int 0, .int 0, .int 0, .int 0, .int 0, .int i10, .int i11, .int i12])), (h1, .inr (0, [.ref w1, .int 1])), (w1, .inl (cL, 1024, .inr (.inl (vp_updL f 0 (-1)))))] H := hP
  have hD : va_D A [(h0, .inr (1, [.ref h1, .ref h2, .ref aw, .ref aa, .int 0, .int 0, .int 0, .int 0, .int 0, .int 0, .int i10, .int i11, .int i12])), (h1, .inr (0, [.ref w1, .int 1])), (w1, .inl (cL, 1024, .inr (.inl (vp_updL f 0 (-1)))))] := hD
  refine lv_aload_n hx hb dS_startAnew_37 rfl (lv_at hl 0 rfl) ?_
  refine lv_iconst (v := (-1)) hx hb dS_startAnew_38 (by decide) ?_
  refine va_put (D := (dC, dI)) (ci := 1) (v := .int (-1)) (ty := .int) (C := RS) (T := TS) (N := 13) hx hb hts lyS tyS tyS_ok nmS hown hK hP hD hS 0 rfl rfl 10 (by decide) (hts _ fl_S_79) (fun _ h9 => h9) rfl (by decide +kernel) rfl rfl (Nat.le_of_ble_eq_true rfl) dS_startAnew_39 (fun H locs hP hD hS => ?_)
  have hP : va_P (dC, dI) vwCl [(h0, .inr (1, [.ref h1, .ref h2, .ref aw, .ref aa, .int 0, .int 0, .int 0, .int 0, .int 0, .int 0, .int (-1), .int i11, .int i12])), (h1, .inr (0, [.ref w1, .int 1])), (w1, .inl (cL, 1024, .inr (.inl (vp_updL f 0 (-1)))))] H := hP
  have hD : va_D A [(h0, .inr (1, [.ref h1, .ref h2, .ref aw, .ref aa, .int 0, .int 0, .int 0, .int 0, .int 0, .int 0, .int (-1), .int i11, .int i12])), (h1, .inr (0, [.ref w1, .int 1])), (w1, .inl (cL, 1024, .inr (.inl (vp_updL f 0 (-1)))))] := hD
  refine lv_aload_n hx hb dS_startAnew_42 rfl (lv_at hl 0 rfl) ?_
  refine lv_iconst (v := 0) hx hb dS_startAnew_43 (by decide) ?_
  refine va_put (D := (dC, dI)) (ci := 1) (v := .int 0) (ty := .int) (C := RS) (T := TS) (N := 13) hx hb hts lyS tyS tyS_ok nmS hown hK hP hD hS 0 rfl rfl 11 (by decide) (hts _ fl_S_89) (fun _ h9 => h9) rfl (by decide +kernel) rfl rfl (Nat.le_of_ble_eq_true rfl) dS_startAnew_44 (fun H locs hP hD hS => ?_)
  have hP : va_P (dC, dI) vwCl [(h0, .inr (1, [.ref h1, .ref h2, .ref aw, .ref aa, .int 0, .int 0, .int 0, .int 0, .int 0, .int 0, .int (-1), .int 0, .int i12])), (h1, .inr (0, [.ref w1, .int 1])), (w1, .inl (cL, 1024, .inr (.inl (vp_updL f 0 (-1)))))] H := hP
  have hD : va_D A [(h0, .inr (1, [.ref h1, .ref h2, .ref aw, .ref aa, .int 0, .int 0, .int 0, .int 0, .int 0, .int 0, .int (-1), .int 0, .int i12])), (h1, .inr (0, [.ref w1, .int 1])), (w1, .inl (cL, 1024, .inr (.inl (vp_updL f 0 (-1)))))] := hD
  refine lv_aload_n hx hb dS_startAnew_47 rfl (lv_at hl 0 rfl) ?_
  refine lv_iconst (v := 0) hx hb dS_startAnew_48 (by decide) ?_
  refine va_put (D := (dC, dI)) (ci := 1) (v := .int 0) (ty := .int) (C := RS) (T := TS) (N := 13) hx hb hts lyS tyS tyS_ok nmS hown hK hP hD hS 0 rfl rfl 12 (by decide) (hts _ fl_S_92) (fun _ h9 => h9) rfl (by decide +kernel) rfl rfl (Nat.le_of_ble_eq_true rfl) dS_startAnew_49 (fun H locs hP hD hS => ?_)
  have hP : va_P (dC, dI) vwCl [(h0, .inr (1, [.ref h1, .ref h2, .ref aw, .ref aa, .int 0, .int 0, .int 0, .int 0, .int 0, .int 0, .int (-1), .int 0, .int 0])), (h1, .inr (0, [.ref w1, .int 1])), (w1, .inl (cL, 1024, .inr (.inl (vp_updL f 0 (-1)))))] H := hP
  have hD : va_D A [(h0, .inr (1, [.ref h1, .ref h2, .ref aw, .ref aa, .int 0, .int 0, .int 0, .int 0, .int 0, .int 0, .int (-1), .int 0, .int 0])), (h1, .inr (0, [.ref w1, .int 1])), (w1, .inl (cL, 1024, .inr (.inl (vp_updL f 0 (-1)))))] := hD
  exact (W.vret hx hb hr (fun t ht hW => ⟨⟨(), rfl, trivial, by rw [ht]; exact hP, va_K.moved hW.alike hK, hD⟩, hS.F ht⟩) hS.2.2 dS_startAnew_52)
set_option maxHeartbeats 4000000 in
set_option maxRecDepth 100000 in
theorem k_S_clear (l : Launch) (dC : Nat → ClassId) (dI : Nat → Nat → Nat) (tI sz : Nat) (h0 h1 w1 h2 aw aa : Nat) (cL : ClassId) (f : Nat → Int64) (x : Int32) (i4 i5 i6 i7 i8 i9 i10 i11 i12 : Int32) : Met l yS_clear (Cond.code yS_clear cS_clear 1 none :: GG) (lvr 2 0 0) (va_Pc [.ref h0] (wPre dC dI [(cL, .long)] [(h0, .inr (1, [.ref h1, .ref h2, .ref aw, .ref aa, .int i4, .int i5, .int i6, .int i7, .int i8, .int i9, .int i10, .int i11, .int i12])), (h1, .inr (0, [.ref w1, .int x])), (w1, .inl (cL, 1024, .inr (.inl f)))] sz tI)) (va_Qv (fun (u : Unit) => True) (fun u t => wB dC dI [(cL, .long)] (va_A [(h0, .inr (1, [.ref h1, .ref h2, .ref aw, .ref aa, .int i4, .int i5, .int i6, .int i7, .int i8, .int i9, .int i10, .int i11, .int i12])), (h1, .inr (0, [.ref w1, .int x])), (w1, .inl (cL, 1024, .inr (.inl f)))] sz) [(h0, .inr (1, [.ref h1, .ref h2, .ref aw, .ref aa, .int 0, .int 0, .int 0, .int 0, .int 0, .int 0, .int (-1), .int 0, .int 0])), (h1, .inr (0, [.ref w1, .int 1])), (w1, .inl (cL, 1024, .inr (.inl (vp_updL f 0 (-1)))))] t) (va_A [(h0, .inr (1, [.ref h1, .ref h2, .ref aw, .ref aa, .int i4, .int i5, .int i6, .int i7, .int i8, .int i9, .int i10, .int i11, .int i12])), (h1, .inr (0, [.ref w1, .int x])), (w1, .inl (cL, 1024, .inr (.inl f)))] sz)) 0 0 (va_A [(h0, .inr (1, [.ref h1, .ref h2, .ref aw, .ref aa, .int i4, .int i5, .int i6, .int i7, .int i8, .int i9, .int i10, .int i11, .int i12])), (h1, .inr (0, [.ref w1, .int x])), (w1, .inl (cL, 1024, .inr (.inl f)))] sz) := by
  refine Met.ofW (cc := cS_clear) (maxL := 1) (ret := none) (by decide) rfl ?_
  intro p e s m args below meth c s₁ B hml hv
  obtain ⟨rfl, hsz, hP, hK, hD0, hZ, hX⟩ := hv
  have hx := B.exec
  have hb := B.bytes
  have hr := B.returns
  have hts : ∀ w ∈ GG, w.before ([.ref h0] : List Value).toArray s = true := fun w h => atoms_spec (ws := _ :: GG) B.pre w (List.mem_cons_of_mem _ h)
  have hown : s.vm.findClass RS = some m.cls := findClass_of_methodNamed B.named
  have hlocks := B.notSynchronized
  subst hsz
  have hD := hD0.self (sz := s.heap.size)
  generalize hAe : va_A [(h0, .inr (1, [.ref h1, .ref h2, .ref aw, .ref aa, .int i4, .int i5, .int i6, .int i7, .int i8, .int i9, .int i10, .int i11, .int i12])), (h1, .inr (0, [.ref w1, .int x])), (w1, .inl (cL, 1024, .inr (.inl f)))] s.heap.size = A at hD hZ ⊢
  have hA : ∀ q : Nat, s.heap.size ≤ q → A q := fun q h => by rw [← hAe]; exact Or.inr h
  have hS : va_S A s.heap s.heap [] := va_S.rf
  have hl := lv_entry ([.ref h0]) (n := 1) (Nat.le_of_ble_eq_true rfl)
  rw [lg_entry_eq]
  generalize (lg_sl ([.ref h0]) ++ List.replicate (1 - (lg_sl ([.ref h0])).length) Slot.unset).toArray = ls at hl ⊢
  have hl : lv_has ls 1 [(0, .ref h0)] := hl
  have SF : CallFix p m c cS_clear 1 s ([.ref h0] : List Value).toArray GG RS := ⟨hx, hb, hml, hown, hts⟩
  skip
  have hP : va_P (dC, dI) vwCl [(h0, .inr (1, [.ref h1, .ref h2, .ref aw, .ref aa, .int i4, .int i5, .int i6, .int i7, .int i8, .int i9, .int i10, .int i11, .int i12])), (h1, .inr (0, [.ref w1, .int x])), (w1, .inl (cL, 1024, .inr (.inl f)))] s.heap := hP
  refine lv_aload_n hx hb dS_clear_0 rfl (lv_at hl 0 rfl) ?_
  have hFc := va_free (wc := [(h0, .inr (1, [.ref h1, .ref h2, .ref aw, .ref aa, .int i4, .int i5, .int i6, .int i7, .int i8, .int i9, .int i10, .int i11, .int i12])), (h1, .inr (0, [.ref w1, .int x])), (w1, .inl (cL, 1024, .inr (.inl f)))]) hD hS hA [0, 1, 2] rfl
  refine wc_v (wc_V (As := []) (rest := []) (n := 0) SF (k_S_startAnew l dC dI tI _ h0 h1 w1 h2 aw aa cL f x i4 i5 i6 i7 i8 i9 i10 i11 i12) ml_S_26 im_S_startAnew se_S_startAnew in_S co_S_startAnew (by decide +kernel) rfl rfl rfl ⟨Nat.le_of_ble_eq_true rfl, Nat.le_of_ble_eq_true rfl⟩ (va_recv (hK.sub (tys' := []) [] rfl) (hP.sub (ws' := [(h0, .inr (1, [.ref h1, .ref h2, .ref aw, .ref aa, .int i4, .int i5, .int i6, .int i7, .int i8, .int i9, .int i10, .int i11, .int i12])), (h1, .inr (0, [.ref w1, .int x])), (w1, .inl (cL, 1024, .inr (.inl f)))]) [0, 1, 2] rfl) (ci := 1) (q0 := 0) rfl rfl) (hP.sub [0, 1, 2] rfl) (hD.sub [0, 1, 2] (by decide) rfl) (hK.sub [0] rfl) hZ hX hS hFc rfl hl.1 (Nat.le_of_ble_eq_true rfl) dS_clear_1 ⟨Nat.le_of_ble_eq_true rfl, Nat.le_of_ble_eq_true rfl⟩) hP hD hS hFc [0, 1, 2] [] (wr := []) rfl rfl rfl (by decide) (fun uu H locs hw hP hD hS => ?_)
  have hP : va_P (dC, dI) vwCl [(h0, .inr (1, [.ref h1, .ref h2, .ref aw, .ref aa, .int 0, .int 0, .int 0, .int 0, .int 0, .int 0, .int (-1), .int 0, .int 0])), (h1, .inr (0, [.ref w1, .int 1])), (w1, .inl (cL, 1024, .inr (.inl (vp_updL f 0 (-1)))))] H := hP.sub [0, 1, 2] rfl
  have hD : va_D A [(h0, .inr (1, [.ref h1, .ref h2, .ref aw, .ref aa, .int 0, .int 0, .int 0, .int 0, .int 0, .int 0, .int (-1), .int 0, .int 0])), (h1, .inr (0, [.ref w1, .int 1])), (w1, .inl (cL, 1024, .inr (.inl (vp_updL f 0 (-1)))))] := hD.sub [0, 1, 2] (by decide) rfl
  exact (W.vret hx hb hr (fun t ht hW => ⟨⟨(), rfl, trivial, by rw [ht]; exact hP, va_K.moved hW.alike hK, hD⟩, hS.F ht⟩) hS.2.2 dS_clear_4)
set_option maxHeartbeats 4000000 in
set_option maxRecDepth 100000 in
theorem k_S_init (l : Launch) (dC : Nat → ClassId) (dI : Nat → Nat → Nat) (tI sz : Nat) (h0 : Nat) : Met l yS_init (Cond.code yS_init cS_init 1 none :: GG) (lvr 2 6 2156) (va_Pc [.ref h0] (wPre dC dI [] [(h0, .inr (1, [.null, .null, .null, .null, .int 0, .int 0, .int 0, .int 0, .int 0, .int 0, .int 0, .int 0, .int 0]))] sz tI)) (va_Qv (fun (u : Nat × Nat × Nat × Nat × Nat × Nat × ClassId × ClassId × ClassId × ClassId) => True) (fun u t => wB dC dI [(u.2.2.2.2.2.2.1, .long), (u.2.2.2.2.2.2.2.1, .long), (u.2.2.2.2.2.2.2.2.1, .int), (u.2.2.2.2.2.2.2.2.2, .int)] (va_A [(h0, .inr (1, [.null, .null, .null, .null, .int 0, .int 0, .int 0, .int 0, .int 0, .int 0, .int 0, .int 0, .int 0]))] sz) [(h0, .inr (1, [.ref u.1, .ref u.2.2.1, .ref u.2.2.2.2.1, .ref u.2.2.2.2.2.1, .int 0, .int 0, .int 0, .int 0, .int 0, .int 0, .int (-1), .int 0, .int 0])), (u.1, .inr (0, [.ref u.2.1, .int 1])), (u.2.1, .inl (u.2.2.2.2.2.2.1, 1024, .inr (.inl (vp_updL (fun _ => 0) 0 (-1))))), (u.2.2.1, .inr (0, [.ref u.2.2.2.1, .int 0])), (u.2.2.2.1, .inl (u.2.2.2.2.2.2.2.1, 1024, .inr (.inl (fun _ => 0)))), (u.2.2.2.2.1, .inl (u.2.2.2.2.2.2.2.2.1, 40, .inl (fun _ => 0))), (u.2.2.2.2.2.1, .inl (u.2.2.2.2.2.2.2.2.2, 64, .inl (fun _ => 0)))] t) (va_A [(h0, .inr (1, [.null, .null, .null, .null, .int 0, .int 0, .int 0, .int 0, .int 0, .int 0, .int 0, .int 0, .int 0]))] sz)) 6 2156 (va_A [(h0, .inr (1, [.null, .null, .null, .null, .int 0, .int 0, .int 0, .int 0, .int 0, .int 0, .int 0, .int 0, .int 0]))] sz) := by
  refine Met.ofW (cc := cS_init) (maxL := 1) (ret := none) (by decide) rfl ?_
  intro p e s m args below meth c s₁ B hml hv
  obtain ⟨rfl, hsz, hP, hK, hD0, hZ, hX⟩ := hv
  have hx := B.exec
  have hb := B.bytes
  have hr := B.returns
  have hts : ∀ w ∈ GG, w.before ([.ref h0] : List Value).toArray s = true := fun w h => atoms_spec (ws := _ :: GG) B.pre w (List.mem_cons_of_mem _ h)
  have hown : s.vm.findClass RS = some m.cls := findClass_of_methodNamed B.named
  have hlocks := B.notSynchronized
  have hin : meth.name = "<init>" := (name_of_methodNamed B.named B.method).1
  subst hsz
  have hD := hD0.self (sz := s.heap.size)
  generalize hAe : va_A [(h0, .inr (1, [.null, .null, .null, .null, .int 0, .int 0, .int 0, .int 0, .int 0, .int 0, .int 0, .int 0, .int 0]))] s.heap.size = A at hD hZ ⊢
  have hA : ∀ q : Nat, s.heap.size ≤ q → A q := fun q h => by rw [← hAe]; exact Or.inr h
  have hS : va_S A s.heap s.heap [] := va_S.rf
  have hl := lv_entry ([.ref h0]) (n := 1) (Nat.le_of_ble_eq_true rfl)
  rw [lg_entry_eq]
  generalize (lg_sl ([.ref h0]) ++ List.replicate (1 - (lg_sl ([.ref h0])).length) Slot.unset).toArray = ls at hl ⊢
  have hl : lv_has ls 1 [(0, .ref h0)] := hl
  have SF : CallFix p m c cS_init 1 s ([.ref h0] : List Value).toArray GG RS := ⟨hx, hb, hml, hown, hts⟩
  skip
  have hP : va_P (dC, dI) vwCl [(h0, .inr (1, [.null, .null, .null, .null, .int 0, .int 0, .int 0, .int 0, .int 0, .int 0, .int 0, .int 0, .int 0]))] s.heap := hP
  refine lv_aload_n hx hb dS_init_0 rfl (lv_at hl 0 rfl) ?_
  refine W.objInit hx hb hown (hts _ ml_S_1) (hts _ im_object) (hts _ co_object) rfl (by rw [hml]; exact hl.1) rfl dS_init_1 (Nat.le_of_ble_eq_true rfl) (Nat.le_of_ble_eq_true rfl) ?_
  refine W.eq (g2 := F0 m 4 ls []) rfl ?_
  refine lv_aload_n hx hb dS_init_4 rfl (lv_at hl 0 rfl) ?_
  refine va_new (ci := 0) (fs := [.null, .int 0]) (C := RR) (T := TR) (N := 2) hx hb hts lyR tyR tyR_ok hown (hts _ cl_S_7) (hts _ it_R) (hts _ in_R) hK hP hD hS hA rfl (fun j hj => by rcases (show j = 0 ∨ j = 1 by omega) with rfl | rfl <;> rfl) (Nat.le_of_ble_eq_true rfl) (Nat.le_of_ble_eq_true rfl) dS_init_5 (fun q1 H hP hD hS => ?_)
  have hP : va_P (dC, dI) vwCl [(h0, .inr (1, [.null, .null, .null, .null, .int 0, .int 0, .int 0, .int 0, .int 0, .int 0, .int 0, .int 0, .int 0])), (q1, .inr (0, [.null, .int 0]))] H := hP
  have hD : va_D A [(h0, .inr (1, [.null, .null, .null, .null, .int 0, .int 0, .int 0, .int 0, .int 0, .int 0, .int 0, .int 0, .int 0])), (q1, .inr (0, [.null, .int 0]))] := hD
  refine lv_dup hx hb dS_init_8 rfl ?_
  have hFc := va_free (wc := [(q1, .inr (0, [.null, .int 0]))]) hD hS hA [1] rfl
  refine wc_vK (wc_I (As := []) (rest := [.ref q1, .ref h0]) (n := 0) SF (k_R_init l dC dI tI _ q1) ml_S_9 im_R_init in_R co_R_init rfl (by decide +kernel) rfl rfl rfl ⟨Nat.le_of_ble_eq_true rfl, Nat.le_of_ble_eq_true rfl⟩ (hP.sub [1] rfl) (hD.sub [1] (by decide) rfl) (hK.sub [] rfl) hZ hX hS hFc rfl hl.1 (Nat.le_of_ble_eq_true rfl) dS_init_9 ⟨Nat.le_of_ble_eq_true rfl, Nat.le_of_ble_eq_true rfl⟩) hP hD hS hFc [1] [0] (wr := [(h0, .inr (1, [.null, .null, .null, .null, .int 0, .int 0, .int 0, .int 0, .int 0, .int 0, .int 0, .int 0, .int 0]))]) rfl rfl rfl (by decide) (fun uu H locs hw hP hD hS hK1 => ?_)
  have hK : va_K (dC, dI) vwCl [(uu.2, .long)] s := hK.app hK1
  have hP : va_P (dC, dI) vwCl [(h0, .inr (1, [.null, .null, .null, .null, .int 0, .int 0, .int 0, .int 0, .int 0, .int 0, .int 0, .int 0, .int 0])), (q1, .inr (0, [.ref uu.1, .int 0])), (uu.1, .inl (uu.2, 1024, .inr (.inl (fun _ => 0))))] H := hP.sub [0, 1, 2] rfl
  have hD : va_D A [(h0, .inr (1, [.null, .null, .null, .null, .int 0, .int 0, .int 0, .int 0, .int 0, .int 0, .int 0, .int 0, .int 0])), (q1, .inr (0, [.ref uu.1, .int 0])), (uu.1, .inl (uu.2, 1024, .inr (.inl (fun _ => 0))))] := hD.sub [0, 1, 2] (by decide) rfl
  refine va_putF (D := (dC, dI)) (ci := 1) (v := .ref q1) (ty := .object "LearningSolver$Rows") (C := RS) (T := TS) (N := 13) hx hb hts lyS tyS tyS_ok nmS hown hK hP hD hS 0 rfl rfl 0 (by decide) (hts _ fl_S_10) (fun _ h9 => h9) rfl hin rfl (by decide +kernel) rfl rfl (Nat.le_of_ble_eq_true rfl) dS_init_12 (fun H locs hP hD hS => ?_)
  have hP : va_P (dC, dI) vwCl [(h0, .inr (1, [.ref q1, .null, .null, .null, .int 0, .int 0, .int 0, .int 0, .int 0, .int 0, .int 0, .int 0, .int 0])), (q1, .inr (0, [.ref uu.1, .int 0])), (uu.1, .inl (uu.2, 1024, .inr (.inl (fun _ => 0))))] H := hP
  have hD : va_D A [(h0, .inr (1, [.ref q1, .null, .null, .null, .int 0, .int 0, .int 0, .int 0, .int 0, .int 0, .int 0, .int 0, .int 0])), (q1, .inr (0, [.ref uu.1, .int 0])), (uu.1, .inl (uu.2, 1024, .inr (.inl (fun _ => 0))))] := hD
  refine lv_aload_n hx hb dS_init_15 rfl (lv_at hl 0 rfl) ?_
  refine va_new (ci := 0) (fs := [.null, .int 0]) (C := RR) (T := TR) (N := 2) hx hb hts lyR tyR tyR_ok hown (hts _ cl_S_7) (hts _ it_R) (hts _ in_R) hK hP hD hS hA rfl (fun j hj => by rcases (show j = 0 ∨ j = 1 by omega) with rfl | rfl <;> rfl) (Nat.le_of_ble_eq_true rfl) (Nat.le_of_ble_eq_true rfl) dS_init_16 (fun q2 H hP hD hS => ?_)
  have hP : va_P (dC, dI) vwCl [(h0, .inr (1, [.ref q1, .null, .null, .null, .int 0, .int 0, .int 0, .int 0, .int 0, .int 0, .int 0, .int 0, .int 0])), (q1, .inr (0, [.ref uu.1, .int 0])), (uu.1, .inl (uu.2, 1024, .inr (.inl (fun _ => 0)))), (q2, .inr (0, [.null, .int 0]))] H := hP
  have hD : va_D A [(h0, .inr (1, [.ref q1, .null, .null, .null, .int 0, .int 0, .int 0, .int 0, .int 0, .int 0, .int 0, .int 0, .int 0])), (q1, .inr (0, [.ref uu.1, .int 0])), (uu.1, .inl (uu.2, 1024, .inr (.inl (fun _ => 0)))), (q2, .inr (0, [.null, .int 0]))] := hD
  refine lv_dup hx hb dS_init_19 rfl ?_
  have hFc := va_free (wc := [(q2, .inr (0, [.null, .int 0]))]) hD hS hA [3] rfl
  refine wc_vK (wc_I (As := []) (rest := [.ref q2, .ref h0]) (n := 0) SF (k_R_init l dC dI tI _ q2) ml_S_9 im_R_init in_R co_R_init rfl (by decide +kernel) rfl rfl rfl ⟨Nat.le_of_ble_eq_true rfl, Nat.le_of_ble_eq_true rfl⟩ (hP.sub [3] rfl) (hD.sub [3] (by decide) rfl) (hK.sub [] rfl) hZ hX hS hFc rfl hl.1 (Nat.le_of_ble_eq_true rfl) dS_init_20 ⟨Nat.le_of_ble_eq_true rfl, Nat.le_of_ble_eq_true rfl⟩) hP hD hS hFc [3] [0, 1, 2] (wr := [(h0, .inr (1, [.ref q1, .null, .null, .null, .int 0, .int 0, .int 0, .int 0, .int 0, .int 0, .int 0, .int 0, .int 0])), (q1, .inr (0, [.ref uu.1, .int 0])), (uu.1, .inl (uu.2, 1024, .inr (.inl (fun _ => 0))))]) rfl rfl rfl (by decide) (fun vv H locs hw hP hD hS hK1 => ?_)
  have hK : va_K (dC, dI) vwCl [(uu.2, .long), (vv.2, .long)] s := hK.app hK1
  have hP : va_P (dC, dI) vwCl [(h0, .inr (1, [.ref q1, .null, .null, .null, .int 0, .int 0, .int 0, .int 0, .int 0, .int 0, .int 0, .int 0, .int 0])), (q1, .inr (0, [.ref uu.1, .int 0])), (uu.1, .inl (uu.2, 1024, .inr (.inl (fun _ => 0)))), (q2, .inr (0, [.ref vv.1, .int 0])), (vv.1, .inl (vv.2, 1024, .inr (.inl (fun _ => 0))))] H := hP.sub [0, 1, 2, 3, 4] rfl
  have hD : va_D A [(h0, .inr (1, [.ref q1, .null, .null, .null, .int 0, .int 0, .int 0, .int 0, .int 0, .int 0, .int 0, .int 0, .int 0])), (q1, .inr (0, [.ref uu.1, .int 0])), (uu.1, .inl (uu.2, 1024, .inr (.inl (fun _ => 0)))), (q2, .inr (0, [.ref vv.1, .int 0])), (vv.1, .inl (vv.2, 1024, .inr (.inl (fun _ => 0))))] := hD.sub [0, 1, 2, 3, 4] (by decide) rfl
  refine va_putF (D := (dC, dI)) (ci := 1) (v := .ref q2) (ty := .object "LearningSolver$Rows") (C := RS) (T := TS) (N := 13) hx hb hts lyS tyS tyS_ok nmS hown hK hP hD hS 0 rfl rfl 1 (by decide) (hts _ fl_S_16) (fun _ h9 => h9) rfl hin rfl (by decide +kernel) rfl rfl (Nat.le_of_ble_eq_true rfl) dS_init_23 (fun H locs hP hD hS => ?_)
  have hP : va_P (dC, dI) vwCl [(h0, .inr (1, [.ref q1, .ref q2, .null, .null, .int 0, .int 0, .int 0, .int 0, .int 0, .int 0, .int 0, .int 0, .int 0])), (q1, .inr (0, [.ref uu.1, .int 0])), (uu.1, .inl (uu.2, 1024, .inr (.inl (fun _ => 0)))), (q2, .inr (0, [.ref vv.1, .int 0])), (vv.1, .inl (vv.2, 1024, .inr (.inl (fun _ => 0))))] H := hP
  have hD : va_D A [(h0, .inr (1, [.ref q1, .ref q2, .null, .null, .int 0, .int 0, .int 0, .int 0, .int 0, .int 0, .int 0, .int 0, .int 0])), (q1, .inr (0, [.ref uu.1, .int 0])), (uu.1, .inl (uu.2, 1024, .inr (.inl (fun _ => 0)))), (q2, .inr (0, [.ref vv.1, .int 0])), (vv.1, .inl (vv.2, 1024, .inr (.inl (fun _ => 0))))] := hD
  refine lv_aload_n hx hb dS_init_26 rfl (lv_at hl 0 rfl) ?_
  refine lv_bipush (v := 40) hx hb dS_init_27 (by decide) ?_
  refine va_newa (atype := .int) (a0 := (40, .inl (fun _ => 0))) hx hb (hts _ ac_int) rfl hK hP hD hS hA (fun _ => rfl) (by decide) rfl (by decide) (Nat.le_of_ble_eq_true rfl) (Nat.le_of_ble_eq_true rfl) dS_init_29 (fun q3 cI H hK hP hD hS => ?_)
  have hP : va_P (dC, dI) vwCl [(h0, .inr (1, [.ref q1, .ref q2, .null, .null, .int 0, .int 0, .int 0, .int 0, .int 0, .int 0, .int 0, .int 0, .int 0])), (q1, .inr (0, [.ref uu.1, .int 0])), (uu.1, .inl (uu.2, 1024, .inr (.inl (fun _ => 0)))), (q2, .inr (0, [.ref vv.1, .int 0])), (vv.1, .inl (vv.2, 1024, .inr (.inl (fun _ => 0)))), (q3, .inl (cI, 40, .inl (fun _ => 0)))] H := hP
  have hD : va_D A [(h0, .inr (1, [.ref q1, .ref q2, .null, .null, .int 0, .int 0, .int 0, .int 0, .int 0, .int 0, .int 0, .int 0, .int 0])), (q1, .inr (0, [.ref uu.1, .int 0])), (uu.1, .inl (uu.2, 1024, .inr (.inl (fun _ => 0)))), (q2, .inr (0, [.ref vv.1, .int 0])), (vv.1, .inl (vv.2, 1024, .inr (.inl (fun _ => 0)))), (q3, .inl (cI, 40, .inl (fun _ => 0)))] := hD
  have hK : va_K (dC, dI) vwCl [(uu.2, .long), (vv.2, .long), (cI, .int)] s := hK
  refine va_putF (D := (dC, dI)) (ci := 1) (v := .ref q3) (ty := .array .int) (C := RS) (T := TS) (N := 13) hx hb hts lyS tyS tyS_ok nmS hown hK hP hD hS 0 rfl rfl 2 (by decide) (hts _ fl_S_19) (fun _ h9 => h9) rfl hin rfl (by decide +kernel) rfl rfl (Nat.le_of_ble_eq_true rfl) dS_init_31 (fun H locs hP hD hS => ?_)
  have hP : va_P (dC, dI) vwCl [(h0, .inr (1, [.ref q1, .ref q2, .ref q3, .null, .int 0, .int 0, .int 0, .int 0, .int 0, .int 0, .int 0, .int 0, .int 0])), (q1, .inr (0, [.ref uu.1, .int 0])), (uu.1, .inl (uu.2, 1024, .inr (.inl (fun _ => 0)))), (q2, .inr (0, [.ref vv.1, .int 0])), (vv.1, .inl (vv.2, 1024, .inr (.inl (fun _ => 0)))), (q3, .inl (cI, 40, .inl (fun _ => 0)))] H := hP
  have hD : va_D A [(h0, .inr (1, [.ref q1, .ref q2, .ref q3, .null, .int 0, .int 0, .int 0, .int 0, .int 0, .int 0, .int 0, .int 0, .int 0])), (q1, .inr (0, [.ref uu.1, .int 0])), (uu.1, .inl (uu.2, 1024, .inr (.inl (fun _ => 0)))), (q2, .inr (0, [.ref vv.1, .int 0])), (vv.1, .inl (vv.2, 1024, .inr (.inl (fun _ => 0)))), (q3, .inl (cI, 40, .inl (fun _ => 0)))] := hD
  refine lv_aload_n hx hb dS_init_34 rfl (lv_at hl 0 rfl) ?_
  refine lv_bipush (v := 64) hx hb dS_init_35 (by decide) ?_
  refine va_newa (atype := .int) (a0 := (64, .inl (fun _ => 0))) hx hb (hts _ ac_int) rfl hK hP hD hS hA (fun _ => rfl) (by decide) rfl (by decide) (Nat.le_of_ble_eq_true rfl) (Nat.le_of_ble_eq_true rfl) dS_init_37 (fun q4 cJ H hK hP hD hS => ?_)
  have hP : va_P (dC, dI) vwCl [(h0, .inr (1, [.ref q1, .ref q2, .ref q3, .null, .int 0, .int 0, .int 0, .int 0, .int 0, .int 0, .int 0, .int 0, .int 0])), (q1, .inr (0, [.ref uu.1, .int 0])), (uu.1, .inl (uu.2, 1024, .inr (.inl (fun _ => 0)))), (q2, .inr (0, [.ref vv.1, .int 0])), (vv.1, .inl (vv.2, 1024, .inr (.inl (fun _ => 0)))), (q3, .inl (cI, 40, .inl (fun _ => 0))), (q4, .inl (cJ, 64, .inl (fun _ => 0)))] H := hP
  have hD : va_D A [(h0, .inr (1, [.ref q1, .ref q2, .ref q3, .null, .int 0, .int 0, .int 0, .int 0, .int 0, .int 0, .int 0, .int 0, .int 0])), (q1, .inr (0, [.ref uu.1, .int 0])), (uu.1, .inl (uu.2, 1024, .inr (.inl (fun _ => 0)))), (q2, .inr (0, [.ref vv.1, .int 0])), (vv.1, .inl (vv.2, 1024, .inr (.inl (fun _ => 0)))), (q3, .inl (cI, 40, .inl (fun _ => 0))), (q4, .inl (cJ, 64, .inl (fun _ => 0)))] := hD
  have hK : va_K (dC, dI) vwCl [(uu.2, .long), (vv.2, .long), (cI, .int), (cJ, .int)] s := hK
  refine va_putF (D := (dC, dI)) (ci := 1) (v := .ref q4) (ty := .array .int) (C := RS) (T := TS) (N := 13) hx hb hts lyS tyS tyS_ok nmS hown hK hP hD hS 0 rfl rfl 3 (by decide) (hts _ fl_S_23) (fun _ h9 => h9) rfl hin rfl (by decide +kernel) rfl rfl (Nat.le_of_ble_eq_true rfl) dS_init_39 (fun H locs hP hD hS => ?_)
  have hP : va_P (dC, dI) vwCl [(h0, .inr (1, [.ref q1, .ref q2, .ref q3, .ref q4, .int 0, .int 0, .int 0, .int 0, .int 0, .int 0, .int 0, .int 0, .int 0])), (q1, .inr (0, [.ref uu.1, .int 0])), (uu.1, .inl (uu.2, 1024, .inr (.inl (fun _ => 0)))), (q2, .inr (0, [.ref vv.1, .int 0])), (vv.1, .inl (vv.2, 1024, .inr (.inl (fun _ => 0)))), (q3, .inl (cI, 40, .inl (fun _ => 0))), (q4, .inl (cJ, 64, .inl (fun _ => 0)))] H := hP
  have hD : va_D A [(h0, .inr (1, [.ref q1, .ref q2, .ref q3, .ref q4, .int 0, .int 0, .int 0, .int 0, .int 0, .int 0, .int 0, .int 0, .int 0])), (q1, .inr (0, [.ref uu.1, .int 0])), (uu.1, .inl (uu.2, 1024, .inr (.inl (fun _ => 0)))), (q2, .inr (0, [.ref vv.1, .int 0])), (vv.1, .inl (vv.2, 1024, .inr (.inl (fun _ => 0)))), (q3, .inl (cI, 40, .inl (fun _ => 0))), (q4, .inl (cJ, 64, .inl (fun _ => 0)))] := hD
  refine lv_aload_n hx hb dS_init_42 rfl (lv_at hl 0 rfl) ?_
  have hFc := va_free (wc := [(h0, .inr (1, [.ref q1, .ref q2, .ref q3, .ref q4, .int 0, .int 0, .int 0, .int 0, .int 0, .int 0, .int 0, .int 0, .int 0])), (q1, .inr (0, [.ref uu.1, .int 0])), (uu.1, .inl (uu.2, 1024, .inr (.inl (fun _ => 0))))]) hD hS hA [0, 1, 2] rfl
  refine wc_v (wc_V (As := []) (rest := []) (n := 0) SF (k_S_startAnew l dC dI tI _ h0 q1 uu.1 q2 q3 q4 uu.2 (fun _ => 0) 0 0 0 0 0 0 0 0 0 0) ml_S_26 im_S_startAnew se_S_startAnew in_S co_S_startAnew (by decide +kernel) rfl rfl rfl ⟨Nat.le_of_ble_eq_true rfl, Nat.le_of_ble_eq_true rfl⟩ (va_recv (hK.sub (tys' := []) [] rfl) (hP.sub (ws' := [(h0, .inr (1, [.ref q1, .ref q2, .ref q3, .ref q4, .int 0, .int 0, .int 0, .int 0, .int 0, .int 0, .int 0, .int 0, .int 0])), (q1, .inr (0, [.ref uu.1, .int 0])), (uu.1, .inl (uu.2, 1024, .inr (.inl (fun _ => 0))))]) [0, 1, 2] rfl) (ci := 1) (q0 := 0) rfl rfl) (hP.sub [0, 1, 2] rfl) (hD.sub [0, 1, 2] (by decide) rfl) (hK.sub [0] rfl) hZ hX hS hFc rfl hl.1 (Nat.le_of_ble_eq_true rfl) dS_init_43 ⟨Nat.le_of_ble_eq_true rfl, Nat.le_of_ble_eq_true rfl⟩) hP hD hS hFc [0, 1, 2] [3, 4, 5, 6] (wr := [(q2, .inr (0, [.ref vv.1, .int 0])), (vv.1, .inl (vv.2, 1024, .inr (.inl (fun _ => 0)))), (q3, .inl (cI, 40, .inl (fun _ => 0))), (q4, .inl (cJ, 64, .inl (fun _ => 0)))]) rfl rfl rfl (by decide) (fun xx H locs hw hP hD hS => ?_)
  have hP : va_P (dC, dI) vwCl [(h0, .inr (1, [.ref q1, .ref q2, .ref q3, .ref q4, .int 0, .int 0, .int 0, .int 0, .int 0, .int 0, .int (-1), .int 0, .int 0])), (q1, .inr (0, [.ref uu.1, .int 1])), (uu.1, .inl (uu.2, 1024, .inr (.inl (vp_updL (fun _ => 0) 0 (-1))))), (q2, .inr (0, [.ref vv.1, .int 0])), (vv.1, .inl (vv.2, 1024, .inr (.inl (fun _ => 0)))), (q3, .inl (cI, 40, .inl (fun _ => 0))), (q4, .inl (cJ, 64, .inl (fun _ => 0)))] H := hP.sub [4, 5, 6, 0, 1, 2, 3] rfl
  have hD : va_D A [(h0, .inr (1, [.ref q1, .ref q2, .ref q3, .ref q4, .int 0, .int 0, .int 0, .int 0, .int 0, .int 0, .int (-1), .int 0, .int 0])), (q1, .inr (0, [.ref uu.1, .int 1])), (uu.1, .inl (uu.2, 1024, .inr (.inl (vp_updL (fun _ => 0) 0 (-1))))), (q2, .inr (0, [.ref vv.1, .int 0])), (vv.1, .inl (vv.2, 1024, .inr (.inl (fun _ => 0)))), (q3, .inl (cI, 40, .inl (fun _ => 0))), (q4, .inl (cJ, 64, .inl (fun _ => 0)))] := hD.sub [4, 5, 6, 0, 1, 2, 3] (by decide) rfl
  refine W.widen (k := 6) (n := 2156) (Nat.le_of_ble_eq_true rfl) (Nat.le_of_ble_eq_true rfl) ?_
  exact (W.vret hx hb hr (fun t ht hW => ⟨⟨(q1, uu.1, q2, vv.1, q3, q4, uu.2, vv.2, cI, cJ), rfl, trivial, by rw [ht]; exact hP, va_K.moved hW.alike hK, hD⟩, hS.F ht⟩) hS.2.2 dS_init_46)
set_option maxHeartbeats 4000000 in
set_option maxRecDepth 100000 in
theorem k_S_narrow (l : Launch) (dC : Nat → ClassId) (dI : Nat → Nat → Nat) (tI sz : Nat) (h0 h1 h2 w2 aw aa : Nat) (cM cJ : ClassId) (f : Nat → Int64) (af : Nat → Int32) (an : Nat → Nat) (U : Nat) (hU : U ≤ 1024) (nv nl nc wc ac vt : Nat) (fo bl lv : Int32) (hac : ac ≤ 64) (hn1 : ∀ j, j < ac → af j = nI (an j) ∧ an j < 32) : Met l yS_narrowToAssumptions (Cond.code yS_narrowToAssumptions cS_narrowToAssumptions 2 (some .int) :: GG) (lvr 2 0 0) (va_Pc [.ref h0] (wPre dC dI [(cM, .long), (cJ, .int)] [(h0, .inr (1, [.ref h1, .ref h2, .ref aw, .ref aa, .int (nI nv), .int (nI nl), .int (nI nc), .int (nI wc), .int (nI ac), .int fo, .int bl, .int lv, .int (nI vt)])), (h2, .inr (0, [.ref w2, .int (nI U)])), (w2, .inl (cM, 1024, .inr (.inl f))), (aa, .inl (cJ, 64, .inl af))] sz tI)) (va_Qi (fun (r : Int32) (u : Nat → Int64) => na_P f an ac U r ∧ (r = -1 → ∀ k, k < U → u k = na_F f an k ac)) (fun u t => wB dC dI [(cM, .long), (cJ, .int)] (va_A [(h0, .inr (1, [.ref h1, .ref h2, .ref aw, .ref aa, .int (nI nv), .int (nI nl), .int (nI nc), .int (nI wc), .int (nI ac), .int fo, .int bl, .int lv, .int (nI vt)])), (h2, .inr (0, [.ref w2, .int (nI U)])), (w2, .inl (cM, 1024, .inr (.inl f))), (aa, .inl (cJ, 64, .inl af))] sz) [(h0, .inr (1, [.ref h1, .ref h2, .ref aw, .ref aa, .int (nI nv), .int (nI nl), .int (nI nc), .int (nI wc), .int (nI ac), .int fo, .int bl, .int lv, .int (nI vt)])), (h2, .inr (0, [.ref w2, .int (nI U)])), (w2, .inl (cM, 1024, .inr (.inl u))), (aa, .inl (cJ, 64, .inl af))] t) (va_A [(h0, .inr (1, [.ref h1, .ref h2, .ref aw, .ref aa, .int (nI nv), .int (nI nl), .int (nI nc), .int (nI wc), .int (nI ac), .int fo, .int bl, .int lv, .int (nI vt)])), (h2, .inr (0, [.ref w2, .int (nI U)])), (w2, .inl (cM, 1024, .inr (.inl f))), (aa, .inl (cJ, 64, .inl af))] sz)) 0 0 (va_A [(h0, .inr (1, [.ref h1, .ref h2, .ref aw, .ref aa, .int (nI nv), .int (nI nl), .int (nI nc), .int (nI wc), .int (nI ac), .int fo, .int bl, .int lv, .int (nI vt)])), (h2, .inr (0, [.ref w2, .int (nI U)])), (w2, .inl (cM, 1024, .inr (.inl f))), (aa, .inl (cJ, 64, .inl af))] sz) := by
  refine Met.ofW (cc := cS_narrowToAssumptions) (maxL := 2) (ret := (some .int)) (by decide) rfl ?_
  intro p e s m args below meth c s₁ B hml hv
  obtain ⟨rfl, hsz, hP, hK, hD0, hZ, hX⟩ := hv
  have hx := B.exec
  have hb := B.bytes
  have hr := B.returns
  have hts : ∀ w ∈ GG, w.before ([.ref h0] : List Value).toArray s = true := fun w h => atoms_spec (ws := _ :: GG) B.pre w (List.mem_cons_of_mem _ h)
  have hown : s.vm.findClass RS = some m.cls := findClass_of_methodNamed B.named
  have hlocks := B.notSynchronized
  subst hsz
  have hD := hD0.self (sz := s.heap.size)
  generalize hAe : va_A [(h0, .inr (1, [.ref h1, .ref h2, .ref aw, .ref aa, .int (nI nv), .int (nI nl), .int (nI nc), .int (nI wc), .int (nI ac), .int fo, .int bl, .int lv, .int (nI vt)])), (h2, .inr (0, [.ref w2, .int (nI U)])), (w2, .inl (cM, 1024, .inr (.inl f))), (aa, .inl (cJ, 64, .inl af))] s.heap.size = A at hD hZ ⊢
  have hA : ∀ q : Nat, s.heap.size ≤ q → A q := fun q h => by rw [← hAe]; exact Or.inr h
  have hS : va_S A s.heap s.heap [] := va_S.rf
  have hl := lv_entry ([.ref h0]) (n := 2) (Nat.le_of_ble_eq_true rfl)
  rw [lg_entry_eq]
  generalize (lg_sl ([.ref h0]) ++ List.replicate (2 - (lg_sl ([.ref h0])).length) Slot.unset).toArray = ls at hl ⊢
  have hl : lv_has ls 2 [(0, .ref h0)] := hl
  have SF : CallFix p m c cS_narrowToAssumptions 2 s ([.ref h0] : List Value).toArray GG RS := ⟨hx, hb, hml, hown, hts⟩
  skip
  have hP : va_P (dC, dI) vwCl [(h0, .inr (1, [.ref h1, .ref h2, .ref aw, .ref aa, .int (nI nv), .int (nI nl), .int (nI nc), .int (nI wc), .int (nI ac), .int fo, .int bl, .int lv, .int (nI vt)])), (h2, .inr (0, [.ref w2, .int (nI U)])), (w2, .inl (cM, 1024, .inr (.inl f))), (aa, .inl (cJ, 64, .inl af))] s.heap := hP
  refine lv_aload_n hx hb dS_narrowToAssumptions_0 rfl (lv_at hl 0 rfl) ?_
  refine va_get (D := (dC, dI)) (ci := 1) (v := .ref h2) (C := RS) (T := TS) (N := 13) hx hb hts lyS hown hK hP 0 rfl rfl 1 (by decide) (hts _ fl_S_16) (fun _ h9 => h9) rfl dS_narrowToAssumptions_1 ?_
  refine lv_iconst (v := 0) hx hb dS_narrowToAssumptions_4 (by decide) ?_
  refine lv_iconst (v := 1) hx hb dS_narrowToAssumptions_5 (by decide) ?_
  refine lv_ldc2 (v := (-1)) hx hb hown (hts _ cj_S_122) dS_narrowToAssumptions_6 ?_
  have hFc := va_free (wc := [(h2, .inr (0, [.ref w2, .int (nI U)])), (w2, .inl (cM, 1024, .inr (.inl f)))]) hD hS hA [1, 2] rfl
  refine wc_i (wc_V (As := [.int 0, .int 1, .long (-1)]) (rest := []) (n := 3) SF (k_R_anyIn l dC dI tI _ h2 w2 cM f U hU 0 1 (-1) (by decide) (by decide) (by decide)) ml_S_124 im_R_anyIn se_R_anyIn in_R co_R_anyIn (by decide +kernel) rfl rfl rfl ⟨Nat.le_of_ble_eq_true rfl, Nat.le_of_ble_eq_true rfl⟩ (va_recv (hK.sub (tys' := []) [] rfl) (hP.sub (ws' := [(h2, .inr (0, [.ref w2, .int (nI U)])), (w2, .inl (cM, 1024, .inr (.inl f)))]) [1, 2] rfl) (ci := 0) (q0 := 0) rfl rfl) (hP.sub [1, 2] rfl) (hD.sub [1, 2] (by decide) rfl) (hK.sub [0] rfl) hZ hX hS hFc rfl hl.1 (Nat.le_of_ble_eq_true rfl) dS_narrowToAssumptions_9 ⟨Nat.le_of_ble_eq_true rfl, Nat.le_of_ble_eq_true rfl⟩) hP hD hS hFc [1, 2] [0, 3] (wr := [(h0, .inr (1, [.ref h1, .ref h2, .ref aw, .ref aa, .int (nI nv), .int (nI nl), .int (nI nc), .int (nI wc), .int (nI ac), .int fo, .int bl, .int lv, .int (nI vt)])), (aa, .inl (cJ, 64, .inl af))]) rfl rfl rfl (by decide) (fun z uu H locs hw hP hD hS => ?_)
  have hP : va_P (dC, dI) vwCl [(h0, .inr (1, [.ref h1, .ref h2, .ref aw, .ref aa, .int (nI nv), .int (nI nl), .int (nI nc), .int (nI wc), .int (nI ac), .int fo, .int bl, .int lv, .int (nI vt)])), (h2, .inr (0, [.ref w2, .int (nI U)])), (w2, .inl (cM, 1024, .inr (.inl f))), (aa, .inl (cJ, 64, .inl af))] H := hP.sub [0, 2, 3, 1] rfl
  have hD : va_D A [(h0, .inr (1, [.ref h1, .ref h2, .ref aw, .ref aa, .int (nI nv), .int (nI nl), .int (nI nc), .int (nI wc), .int (nI ac), .int fo, .int bl, .int lv, .int (nI vt)])), (h2, .inr (0, [.ref w2, .int (nI U)])), (w2, .inl (cM, 1024, .inr (.inl f))), (aa, .inl (cJ, 64, .inl af))] := hD.sub [0, 2, 3, 1] (by decide) rfl
  refine lv_if_ne (tgt := 17) hx hb dS_narrowToAssumptions_12 (by decide) (fun c1 => ?_) (fun c1 => ?_)
  · have hs : ∃ k, k < U ∧ f k ≠ 0 := by
      rcases hw with ⟨_, k, h3, h4⟩ | ⟨q, _⟩
      · exact ⟨0 + 1 * k, h3, by rw [ax_am1] at h4; exact h4⟩
      · exact absurd q c1
    refine lv_iconst (v := 0) hx hb dS_narrowToAssumptions_17 (by decide) ?_
    refine lv_istore_n (lv' := [(1, .int 0), (0, .ref h0)]) hx hb dS_narrowToAssumptions_18 rfl hl (by decide) rfl (fun ls hl => ?_)
    refine lp_mu (α := Nat × (Nat → Int64)) (fun a_ => match a_ with | (i, g) => ac - i) (fun a_ H locs ls => match a_ with | (i, g) => (i ≤ ac ∧ (∀ k, k < U → g k = na_F f an k i) ∧ ∃ k, k < U ∧ na_F f an k i ≠ 0) ∧ va_P (dC, dI) vwCl [(h0, .inr (1, [.ref h1, .ref h2, .ref aw, .ref aa, .int (nI nv), .int (nI nl), .int (nI nc), .int (nI wc), .int (nI ac), .int fo, .int bl, .int lv, .int (nI vt)])), (h2, .inr (0, [.ref w2, .int (nI U)])), (w2, .inl (cM, 1024, .inr (.inl g))), (aa, .inl (cJ, 64, .inl af))] H ∧ va_D A [(h0, .inr (1, [.ref h1, .ref h2, .ref aw, .ref aa, .int (nI nv), .int (nI nl), .int (nI nc), .int (nI wc), .int (nI ac), .int fo, .int bl, .int lv, .int (nI vt)])), (h2, .inr (0, [.ref w2, .int (nI U)])), (w2, .inl (cM, 1024, .inr (.inl g))), (aa, .inl (cJ, 64, .inl af))] ∧ va_S A s.heap H locs ∧ lv_has ls 2 [(0, .ref h0), (1, .int (nI i))]) ?_ (0, f) ⟨⟨Nat.zero_le _, fun _ _ => rfl, hs⟩, hP, hD, hS, lv_sub hl [1, 0] rfl⟩
    intro a_ H locs ls hI ih
    obtain ⟨i, g⟩ := a_
    obtain ⟨hI, hP, hD, hS, hl⟩ := hI
    have hI : i ≤ ac ∧ (∀ k, k < U → g k = na_F f an k i) ∧ ∃ k, k < U ∧ na_F f an k i ≠ 0 := hI
    have hP : va_P (dC, dI) vwCl [(h0, .inr (1, [.ref h1, .ref h2, .ref aw, .ref aa, .int (nI nv), .int (nI nl), .int (nI nc), .int (nI wc), .int (nI ac), .int fo, .int bl, .int lv, .int (nI vt)])), (h2, .inr (0, [.ref w2, .int (nI U)])), (w2, .inl (cM, 1024, .inr (.inl g))), (aa, .inl (cJ, 64, .inl af))] H := hP
    have hD : va_D A [(h0, .inr (1, [.ref h1, .ref h2, .ref aw, .ref aa, .int (nI nv), .int (nI nl), .int (nI nc), .int (nI wc), .int (nI ac), .int fo, .int bl, .int lv, .int (nI vt)])), (h2, .inr (0, [.ref w2, .int (nI U)])), (w2, .inl (cM, 1024, .inr (.inl g))), (aa, .inl (cJ, 64, .inl af))] := hD
    have hl : lv_has ls 2 [(0, .ref h0), (1, .int (nI i))] := hl
    obtain ⟨hi, hg, hn⟩ := hI
    refine lv_iload_n hx hb dS_narrowToAssumptions_19 rfl (lv_at hl 1 rfl) ?_
    refine lv_aload_n hx hb dS_narrowToAssumptions_20 rfl (lv_at hl 0 rfl) ?_
    refine va_get (D := (dC, dI)) (ci := 1) (v := .int (nI ac)) (C := RS) (T := TS) (N := 13) hx hb hts lyS hown hK hP 0 rfl rfl 8 (by decide) (hts _ fl_S_66) (fun _ h9 => h9) rfl dS_narrowToAssumptions_21 ?_
    refine lv_icmp_ge (tgt := 62) hx hb dS_narrowToAssumptions_24 (by decide) (fun c2 => ?_) (fun c2 => ?_)
    · have c2 : ac ≤ i := (nI_leI (a := ac) (b := i) (by omega) (by omega)).mp c2
      refine lv_iconst (v := (-1)) hx hb dS_narrowToAssumptions_62 (by decide) ?_
      exact (W.iret (v := (-1)) hx hb hr (fun t ht hW => ⟨⟨(-1), g, rfl, ⟨Or.inr (Or.inr ⟨rfl, by rw [show ac = i by omega]; exact hn⟩), fun _ k hk => by rw [show ac = i by omega]; exact hg k hk⟩, by rw [ht]; exact hP, va_K.moved hW.alike hK, hD⟩, hS.F ht⟩) hS.2.2 dS_narrowToAssumptions_63)
    · have c2 : i < ac := Nat.lt_of_not_le (fun q => c2 ((nI_leI (a := ac) (b := i) (by omega) (by omega)).mpr q))
      refine lv_iload_n hx hb dS_narrowToAssumptions_27 rfl (lv_at hl 1 rfl) ?_
      refine lv_aload_n hx hb dS_narrowToAssumptions_28 rfl (lv_at hl 0 rfl) ?_
      refine va_get (D := (dC, dI)) (ci := 1) (v := .ref aa) (C := RS) (T := TS) (N := 13) hx hb hts lyS hown hK hP 0 rfl rfl 3 (by decide) (hts _ fl_S_23) (fun _ h9 => h9) rfl dS_narrowToAssumptions_29 ?_
      refine va_alen (v := 64) hx hb hK hP 3 1 rfl rfl rfl dS_narrowToAssumptions_32 ?_
      refine lv_icmp_ge (tgt := 62) hx hb dS_narrowToAssumptions_33 (by decide) (fun c3 => ?_) (fun c3 => ?_)
      · have c3 : 64 ≤ i := (nI_leI (a := 64) (b := i) (by omega) (by omega)).mp c3
        exact absurd c3 (by omega)
      · have c3 : i < 64 := Nat.lt_of_not_le (fun q => c3 ((nI_leI (a := 64) (b := i) (by omega) (by omega)).mpr q))
        refine lv_aload_n hx hb dS_narrowToAssumptions_36 rfl (lv_at hl 0 rfl) ?_
        refine va_get (D := (dC, dI)) (ci := 1) (v := .ref h2) (C := RS) (T := TS) (N := 13) hx hb hts lyS hown hK hP 0 rfl rfl 1 (by decide) (hts _ fl_S_16) (fun _ h9 => h9) rfl dS_narrowToAssumptions_37 ?_
        refine lv_aload_n hx hb dS_narrowToAssumptions_40 rfl (lv_at hl 0 rfl) ?_
        refine va_get (D := (dC, dI)) (ci := 1) (v := .ref aa) (C := RS) (T := TS) (N := 13) hx hb hts lyS hown hK hP 0 rfl rfl 3 (by decide) (hts _ fl_S_23) (fun _ h9 => h9) rfl dS_narrowToAssumptions_41 ?_
        refine lv_iload_n hx hb dS_narrowToAssumptions_44 rfl (lv_at hl 1 rfl) ?_
        refine va_iald hx hb hK hP 3 1 rfl rfl (vp_in_nI (by omega) (by decide)) dS_narrowToAssumptions_45 ?_
        refine ls_topi (y := nI (an i)) (by rw [nI_clamp (by omega)]; exact (hn1 i c2).1) ?_
        have hFc := va_free (wc := [(h2, .inr (0, [.ref w2, .int (nI U)])), (w2, .inl (cM, 1024, .inr (.inl g)))]) hD hS hA [1, 2] rfl
        refine wc_i (wc_V (As := [.int (nI (an i))]) (rest := []) (n := 1) SF (k_R_keepWith l dC dI tI _ h2 w2 cM g U hU (an i) (hn1 i c2).2) ml_S_128 im_R_keepWith se_R_keepWith in_R co_R_keepWith (by decide +kernel) rfl rfl rfl ⟨Nat.le_of_ble_eq_true rfl, Nat.le_of_ble_eq_true rfl⟩ (va_recv (hK.sub (tys' := []) [] rfl) (hP.sub (ws' := [(h2, .inr (0, [.ref w2, .int (nI U)])), (w2, .inl (cM, 1024, .inr (.inl g)))]) [1, 2] rfl) (ci := 0) (q0 := 0) rfl rfl) (hP.sub [1, 2] rfl) (hD.sub [1, 2] (by decide) rfl) (hK.sub [0] rfl) hZ hX hS hFc rfl hl.1 (Nat.le_of_ble_eq_true rfl) dS_narrowToAssumptions_46 ⟨Nat.le_of_ble_eq_true rfl, Nat.le_of_ble_eq_true rfl⟩) hP hD hS hFc [1, 2] [0, 3] (wr := [(h0, .inr (1, [.ref h1, .ref h2, .ref aw, .ref aa, .int (nI nv), .int (nI nl), .int (nI nc), .int (nI wc), .int (nI ac), .int fo, .int bl, .int lv, .int (nI vt)])), (aa, .inl (cJ, 64, .inl af))]) rfl rfl rfl (by decide) (fun z gg H locs hw hP hD hS => ?_)
        have hP : va_P (dC, dI) vwCl [(h0, .inr (1, [.ref h1, .ref h2, .ref aw, .ref aa, .int (nI nv), .int (nI nl), .int (nI nc), .int (nI wc), .int (nI ac), .int fo, .int bl, .int lv, .int (nI vt)])), (h2, .inr (0, [.ref w2, .int (nI U)])), (w2, .inl (cM, 1024, .inr (.inl gg))), (aa, .inl (cJ, 64, .inl af))] H := hP.sub [0, 2, 3, 1] rfl
        have hD : va_D A [(h0, .inr (1, [.ref h1, .ref h2, .ref aw, .ref aa, .int (nI nv), .int (nI nl), .int (nI nc), .int (nI wc), .int (nI ac), .int fo, .int bl, .int lv, .int (nI vt)])), (h2, .inr (0, [.ref w2, .int (nI U)])), (w2, .inl (cM, 1024, .inr (.inl gg))), (aa, .inl (cJ, 64, .inl af))] := hD.sub [0, 2, 3, 1] (by decide) rfl
        have hg2 : ∀ k, k < U → gg k = na_F f an k (i + 1) := fun k hk => by rw [hw.1 k hk, hg k hk]; rfl
        refine lv_if_ne (tgt := 56) hx hb dS_narrowToAssumptions_49 (by decide) (fun c4 => ?_) (fun c4 => ?_)
        · have hs2 : ∃ k, k < U ∧ na_F f an k (i + 1) ≠ 0 := by
            rcases hw.2 with ⟨_, k, h3, h4⟩ | ⟨q, _⟩
            · exact ⟨k, h3, by rw [← hg2 k h3]; exact h4⟩
            · exact absurd q c4
          refine lv_iinc (v := nI (i + 1)) (lv' := [(1, .int (nI (i + 1))), (0, .ref h0)]) hx hb dS_narrowToAssumptions_56 hl (k := 1) rfl (nI_1 _) (by decide) rfl (fun ls hl => ?_)
          refine lv_goto (tgt := 19) hx hb dS_narrowToAssumptions_59 (by decide) ?_
          exact ih (i + 1, gg) _ _ _ (by show ac - (i + 1) < ac - i; omega) ⟨⟨c2, hg2, hs2⟩, hP, hD, hS, lv_sub hl [1, 0] rfl⟩
        · have hz2 : ∀ k, k < U → na_F f an k (i + 1) = 0 := by
            rcases hw.2 with ⟨q, _⟩ | ⟨_, q⟩
            · rw [q] at c4; exact absurd c4 (by decide)
            · exact fun k hk => by rw [← hg2 k hk]; exact q k hk
          refine lv_iload_n hx hb dS_narrowToAssumptions_52 rfl (lv_at hl 1 rfl) ?_
          refine lv_iconst (v := 1) hx hb dS_narrowToAssumptions_53 (by decide) ?_
          refine lv_iadd hx hb dS_narrowToAssumptions_54 ?_
          refine ls_topi (y := nI (i + 1)) (nI_1 _) ?_
          exact (W.iret (v := nI (i + 1)) hx hb hr (fun t ht hW => ⟨⟨nI (i + 1), gg, rfl, ⟨Or.inr (Or.inl ⟨i, c2, rfl, hn, hz2⟩), fun q => absurd q (ax_nm1 (by omega))⟩, by rw [ht]; exact hP, va_K.moved hW.alike hK, hD⟩, hS.F ht⟩) hS.2.2 dS_narrowToAssumptions_55)
  · have hz : ∀ k, k < U → f k = 0 := by
      rcases hw with ⟨q, _⟩ | ⟨_, q⟩
      · rw [q] at c1; exact absurd c1 (by decide)
      · intro k hk; have q2 := q k (by omega); rw [ax_am1, Nat.zero_add, Nat.one_mul] at q2; exact q2
    refine lv_iconst (v := 0) hx hb dS_narrowToAssumptions_15 (by decide) ?_
    exact (W.iret (v := 0) hx hb hr (fun t ht hW => ⟨⟨0, f, rfl, ⟨Or.inl ⟨rfl, hz⟩, fun q => absurd q (by decide)⟩, by rw [ht]; exact hP, va_K.moved hW.alike hK, hD⟩, hS.F ht⟩) hS.2.2 dS_narrowToAssumptions_16)
set_option maxHeartbeats 4000000 in
set_option maxRecDepth 100000 in
theorem k_S_solve (l : Launch) (dC : Nat → ClassId) (dI : Nat → Nat → Nat) (tI sz : Nat) (h0 h1 w1 h2 w2 aw aa : Nat) (cL cM cJ : ClassId) (f g : Nat → Int64) (af : Nat → Int32) (an : Nat → Nat) (y : Int32) (U n : Nat) (hU : U ≤ 1024) (hn : U = 2 ^ n) (hnn : n ≤ 10) (nv nl nc wc ac vt : Nat) (fo bl lv : Int32) (hac : ac ≤ 64) (hn1 : ∀ j, j < ac → af j = nI (an j) ∧ an j < 32) : Met l yS_solve (Cond.code yS_solve cS_solve 1 (some .boolean) :: GG) (lvr 3 0 0) (va_Pc [.ref h0] (wPre dC dI [(cL, .long), (cM, .long), (cJ, .int)] [(h0, .inr (1, [.ref h1, .ref h2, .ref aw, .ref aa, .int (nI nv), .int (nI nl), .int (nI nc), .int (nI wc), .int (nI ac), .int fo, .int bl, .int lv, .int (nI vt)])), (h1, .inr (0, [.ref w1, .int (nI U)])), (w1, .inl (cL, 1024, .inr (.inl f))), (h2, .inr (0, [.ref w2, .int y])), (w2, .inl (cM, 1024, .inr (.inl g))), (aa, .inl (cJ, 64, .inl af))] sz tI)) (va_Qi (fun (r : Int32) (u : (Nat → Int64) × Int32 × Int32 × Int32) => na_P f an ac U u.2.1 ∧ (u.2.1 = -1 → r = 1 ∧ ∃ q, u.2.2.1 = nI q ∧ lr_L (fun k => na_F f an k ac) n q) ∧ (¬ u.2.1 = -1 → r = 0 ∧ u.2.2.1 = 0) ∧ r = u.2.2.2) (fun u t => wB dC dI [(cL, .long), (cM, .long), (cJ, .int)] (va_A [(h0, .inr (1, [.ref h1, .ref h2, .ref aw, .ref aa, .int (nI nv), .int (nI nl), .int (nI nc), .int (nI wc), .int (nI ac), .int fo, .int bl, .int lv, .int (nI vt)])), (h1, .inr (0, [.ref w1, .int (nI U)])), (w1, .inl (cL, 1024, .inr (.inl f))), (h2, .inr (0, [.ref w2, .int y])), (w2, .inl (cM, 1024, .inr (.inl g))), (aa, .inl (cJ, 64, .inl af))] sz) [(h0, .inr (1, [.ref h1, .ref h2, .ref aw, .ref aa, .int (nI nv), .int (nI nl), .int (nI nc), .int (nI wc), .int 0, .int u.2.2.2, .int u.2.1, .int u.2.2.1, .int (nI nv)])), (h1, .inr (0, [.ref w1, .int (nI U)])), (w1, .inl (cL, 1024, .inr (.inl f))), (h2, .inr (0, [.ref w2, .int (nI U)])), (w2, .inl (cM, 1024, .inr (.inl u.1))), (aa, .inl (cJ, 64, .inl af))] t) (va_A [(h0, .inr (1, [.ref h1, .ref h2, .ref aw, .ref aa, .int (nI nv), .int (nI nl), .int (nI nc), .int (nI wc), .int (nI ac), .int fo, .int bl, .int lv, .int (nI vt)])), (h1, .inr (0, [.ref w1, .int (nI U)])), (w1, .inl (cL, 1024, .inr (.inl f))), (h2, .inr (0, [.ref w2, .int y])), (w2, .inl (cM, 1024, .inr (.inl g))), (aa, .inl (cJ, 64, .inl af))] sz)) 0 0 (va_A [(h0, .inr (1, [.ref h1, .ref h2, .ref aw, .ref aa, .int (nI nv), .int (nI nl), .int (nI nc), .int (nI wc), .int (nI ac), .int fo, .int bl, .int lv, .int (nI vt)])), (h1, .inr (0, [.ref w1, .int (nI U)])), (w1, .inl (cL, 1024, .inr (.inl f))), (h2, .inr (0, [.ref w2, .int y])), (w2, .inl (cM, 1024, .inr (.inl g))), (aa, .inl (cJ, 64, .inl af))] sz) := by
  refine Met.ofW (cc := cS_solve) (maxL := 1) (ret := (some .boolean)) (by decide) rfl ?_
  intro p e s m args below meth c s₁ B hml hv
  obtain ⟨rfl, hsz, hP, hK, hD0, hZ, hX⟩ := hv
  have hx := B.exec
  have hb := B.bytes
  have hr := B.returns
  have hts : ∀ w ∈ GG, w.before ([.ref h0] : List Value).toArray s = true := fun w h => atoms_spec (ws := _ :: GG) B.pre w (List.mem_cons_of_mem _ h)
  have hown : s.vm.findClass RS = some m.cls := findClass_of_methodNamed B.named
  have hlocks := B.notSynchronized
  subst hsz
  have hD := hD0.self (sz := s.heap.size)
  generalize hAe : va_A [(h0, .inr (1, [.ref h1, .ref h2, .ref aw, .ref aa, .int (nI nv), .int (nI nl), .int (nI nc), .int (nI wc), .int (nI ac), .int fo, .int bl, .int lv, .int (nI vt)])), (h1, .inr (0, [.ref w1, .int (nI U)])), (w1, .inl (cL, 1024, .inr (.inl f))), (h2, .inr (0, [.ref w2, .int y])), (w2, .inl (cM, 1024, .inr (.inl g))), (aa, .inl (cJ, 64, .inl af))] s.heap.size = A at hD hZ ⊢
  have hA : ∀ q : Nat, s.heap.size ≤ q → A q := fun q h => by rw [← hAe]; exact Or.inr h
  have hS : va_S A s.heap s.heap [] := va_S.rf
  have hl := lv_entry ([.ref h0]) (n := 1) (Nat.le_of_ble_eq_true rfl)
  rw [lg_entry_eq]
  generalize (lg_sl ([.ref h0]) ++ List.replicate (1 - (lg_sl ([.ref h0])).length) Slot.unset).toArray = ls at hl ⊢
  have hl : lv_has ls 1 [(0, .ref h0)] := hl
  have SF : CallFix p m c cS_solve 1 s ([.ref h0] : List Value).toArray GG RS := ⟨hx, hb, hml, hown, hts⟩
  skip
  have hP : va_P (dC, dI) vwCl [(h0, .inr (1, [.ref h1, .ref h2, .ref aw, .ref aa, .int (nI nv), .int (nI nl), .int (nI nc), .int (nI wc), .int (nI ac), .int fo, .int bl, .int lv, .int (nI vt)])), (h1, .inr (0, [.ref w1, .int (nI U)])), (w1, .inl (cL, 1024, .inr (.inl f))), (h2, .inr (0, [.ref w2, .int y])), (w2, .inl (cM, 1024, .inr (.inl g))), (aa, .inl (cJ, 64, .inl af))] s.heap := hP
  refine lv_aload_n hx hb dS_solve_0 rfl (lv_at hl 0 rfl) ?_
  refine va_get (D := (dC, dI)) (ci := 1) (v := .ref h2) (C := RS) (T := TS) (N := 13) hx hb hts lyS hown hK hP 0 rfl rfl 1 (by decide) (hts _ fl_S_16) (fun _ h9 => h9) rfl dS_solve_1 ?_
  refine lv_aload_n hx hb dS_solve_4 rfl (lv_at hl 0 rfl) ?_
  refine va_get (D := (dC, dI)) (ci := 1) (v := .ref h1) (C := RS) (T := TS) (N := 13) hx hb hts lyS hown hK hP 0 rfl rfl 0 (by decide) (hts _ fl_S_10) (fun _ h9 => h9) rfl dS_solve_5 ?_
  have hFc := va_free (wc := [(h2, .inr (0, [.ref w2, .int y])), (w2, .inl (cM, 1024, .inr (.inl g))), (h1, .inr (0, [.ref w1, .int (nI U)])), (w1, .inl (cL, 1024, .inr (.inl f)))]) hD hS hA [3, 4, 1, 2] rfl
  refine wc_v (wc_V (As := [.ref h1]) (rest := []) (n := 1) SF (k_R_copyFrom l dC dI tI _ h2 w2 h1 w1 cM cL g f y U hU) ml_S_71 im_R_copyFrom se_R_copyFrom in_R co_R_copyFrom (by decide +kernel) rfl rfl rfl ⟨Nat.le_of_ble_eq_true rfl, Nat.le_of_ble_eq_true rfl⟩ (va_recv (hK.sub (tys' := []) [] rfl) (hP.sub (ws' := [(h2, .inr (0, [.ref w2, .int y])), (w2, .inl (cM, 1024, .inr (.inl g))), (h1, .inr (0, [.ref w1, .int (nI U)])), (w1, .inl (cL, 1024, .inr (.inl f)))]) [3, 4, 1, 2] rfl) (ci := 0) (q0 := 0) rfl rfl) (hP.sub [3, 4, 1, 2] rfl) (hD.sub [3, 4, 1, 2] (by decide) rfl) (hK.sub [1, 0] rfl) hZ hX hS hFc rfl hl.1 (Nat.le_of_ble_eq_true rfl) dS_solve_8 ⟨Nat.le_of_ble_eq_true rfl, Nat.le_of_ble_eq_true rfl⟩) hP hD hS hFc [3, 4, 1, 2] [0, 5] (wr := [(h0, .inr (1, [.ref h1, .ref h2, .ref aw, .ref aa, .int (nI nv), .int (nI nl), .int (nI nc), .int (nI wc), .int (nI ac), .int fo, .int bl, .int lv, .int (nI vt)])), (aa, .inl (cJ, 64, .inl af))]) rfl rfl rfl (by decide) (fun g1 H locs hg1 hP hD hS => ?_)
  have hP : va_P (dC, dI) vwCl [(h0, .inr (1, [.ref h1, .ref h2, .ref aw, .ref aa, .int (nI nv), .int (nI nl), .int (nI nc), .int (nI wc), .int (nI ac), .int fo, .int bl, .int lv, .int (nI vt)])), (h1, .inr (0, [.ref w1, .int (nI U)])), (w1, .inl (cL, 1024, .inr (.inl f))), (h2, .inr (0, [.ref w2, .int (nI U)])), (w2, .inl (cM, 1024, .inr (.inl g1))), (aa, .inl (cJ, 64, .inl af))] H := hP.sub [0, 4, 5, 2, 3, 1] rfl
  have hD : va_D A [(h0, .inr (1, [.ref h1, .ref h2, .ref aw, .ref aa, .int (nI nv), .int (nI nl), .int (nI nc), .int (nI wc), .int (nI ac), .int fo, .int bl, .int lv, .int (nI vt)])), (h1, .inr (0, [.ref w1, .int (nI U)])), (w1, .inl (cL, 1024, .inr (.inl f))), (h2, .inr (0, [.ref w2, .int (nI U)])), (w2, .inl (cM, 1024, .inr (.inl g1))), (aa, .inl (cJ, 64, .inl af))] := hD.sub [0, 4, 5, 2, 3, 1] (by decide) rfl
  refine lv_aload_n hx hb dS_solve_11 rfl (lv_at hl 0 rfl) ?_
  refine lv_aload_n hx hb dS_solve_12 rfl (lv_at hl 0 rfl) ?_
  have hFc := va_free (wc := [(h0, .inr (1, [.ref h1, .ref h2, .ref aw, .ref aa, .int (nI nv), .int (nI nl), .int (nI nc), .int (nI wc), .int (nI ac), .int fo, .int bl, .int lv, .int (nI vt)])), (h2, .inr (0, [.ref w2, .int (nI U)])), (w2, .inl (cM, 1024, .inr (.inl g1))), (aa, .inl (cJ, 64, .inl af))]) hD hS hA [0, 3, 4, 5] rfl
  refine wc_i (wc_V (As := []) (rest := [.ref h0]) (n := 0) SF (k_S_narrow l dC dI tI _ h0 h1 h2 w2 aw aa cM cJ g1 af an U hU nv nl nc wc ac vt fo bl lv hac hn1) ml_S_75 im_S_narrowToAssumptions se_S_narrowToAssumptions in_S co_S_narrowToAssumptions (by decide +kernel) rfl rfl rfl ⟨Nat.le_of_ble_eq_true rfl, Nat.le_of_ble_eq_true rfl⟩ (va_recv (hK.sub (tys' := []) [] rfl) (hP.sub (ws' := [(h0, .inr (1, [.ref h1, .ref h2, .ref aw, .ref aa, .int (nI nv), .int (nI nl), .int (nI nc), .int (nI wc), .int (nI ac), .int fo, .int bl, .int lv, .int (nI vt)])), (h2, .inr (0, [.ref w2, .int (nI U)])), (w2, .inl (cM, 1024, .inr (.inl g1))), (aa, .inl (cJ, 64, .inl af))]) [0, 3, 4, 5] rfl) (ci := 1) (q0 := 0) rfl rfl) (hP.sub [0, 3, 4, 5] rfl) (hD.sub [0, 3, 4, 5] (by decide) rfl) (hK.sub [1, 2] rfl) hZ hX hS hFc rfl hl.1 (Nat.le_of_ble_eq_true rfl) dS_solve_13 ⟨Nat.le_of_ble_eq_true rfl, Nat.le_of_ble_eq_true rfl⟩) hP hD hS hFc [0, 3, 4, 5] [1, 2] (wr := [(h1, .inr (0, [.ref w1, .int (nI U)])), (w1, .inl (cL, 1024, .inr (.inl f)))]) rfl rfl rfl (by decide) (fun b g2 H locs hnw hP hD hS => ?_)
  have hP : va_P (dC, dI) vwCl [(h0, .inr (1, [.ref h1, .ref h2, .ref aw, .ref aa, .int (nI nv), .int (nI nl), .int (nI nc), .int (nI wc), .int (nI ac), .int fo, .int bl, .int lv, .int (nI vt)])), (h1, .inr (0, [.ref w1, .int (nI U)])), (w1, .inl (cL, 1024, .inr (.inl f))), (h2, .inr (0, [.ref w2, .int (nI U)])), (w2, .inl (cM, 1024, .inr (.inl g2))), (aa, .inl (cJ, 64, .inl af))] H := hP.sub [2, 0, 1, 3, 4, 5] rfl
  have hD : va_D A [(h0, .inr (1, [.ref h1, .ref h2, .ref aw, .ref aa, .int (nI nv), .int (nI nl), .int (nI nc), .int (nI wc), .int (nI ac), .int fo, .int bl, .int lv, .int (nI vt)])), (h1, .inr (0, [.ref w1, .int (nI U)])), (w1, .inl (cL, 1024, .inr (.inl f))), (h2, .inr (0, [.ref w2, .int (nI U)])), (w2, .inl (cM, 1024, .inr (.inl g2))), (aa, .inl (cJ, 64, .inl af))] := hD.sub [2, 0, 1, 3, 4, 5] (by decide) rfl
  have hnP : na_P f an ac U b := na_P_congr hg1 hnw.1
  refine va_put (D := (dC, dI)) (ci := 1) (v := .int b) (ty := .int) (C := RS) (T := TS) (N := 13) hx hb hts lyS tyS tyS_ok nmS hown hK hP hD hS 0 rfl rfl 10 (by decide) (hts _ fl_S_79) (fun _ h9 => h9) rfl (by decide +kernel) rfl rfl (Nat.le_of_ble_eq_true rfl) dS_solve_16 (fun H locs hP hD hS => ?_)
  have hP : va_P (dC, dI) vwCl [(h0, .inr (1, [.ref h1, .ref h2, .ref aw, .ref aa, .int (nI nv), .int (nI nl), .int (nI nc), .int (nI wc), .int (nI ac), .int fo, .int b, .int lv, .int (nI vt)])), (h1, .inr (0, [.ref w1, .int (nI U)])), (w1, .inl (cL, 1024, .inr (.inl f))), (h2, .inr (0, [.ref w2, .int (nI U)])), (w2, .inl (cM, 1024, .inr (.inl g2))), (aa, .inl (cJ, 64, .inl af))] H := hP
  have hD : va_D A [(h0, .inr (1, [.ref h1, .ref h2, .ref aw, .ref aa, .int (nI nv), .int (nI nl), .int (nI nc), .int (nI wc), .int (nI ac), .int fo, .int b, .int lv, .int (nI vt)])), (h1, .inr (0, [.ref w1, .int (nI U)])), (w1, .inl (cL, 1024, .inr (.inl f))), (h2, .inr (0, [.ref w2, .int (nI U)])), (w2, .inl (cM, 1024, .inr (.inl g2))), (aa, .inl (cJ, 64, .inl af))] := hD
  refine lv_aload_n hx hb dS_solve_19 rfl (lv_at hl 0 rfl) ?_
  refine lv_aload_n hx hb dS_solve_20 rfl (lv_at hl 0 rfl) ?_
  refine va_get (D := (dC, dI)) (ci := 1) (v := .int b) (C := RS) (T := TS) (N := 13) hx hb hts lyS hown hK hP 0 rfl rfl 10 (by decide) (hts _ fl_S_79) (fun _ h9 => h9) rfl dS_solve_21 ?_
  refine lv_iconst (v := (-1)) hx hb dS_solve_24 (by decide) ?_
  refine lv_icmp_ne (tgt := 32) hx hb dS_solve_25 (by decide) (fun c1 => ?_) (fun c1 => ?_)
  · refine lv_iconst (v := 0) hx hb dS_solve_32 (by decide) ?_
    refine va_put (D := (dC, dI)) (ci := 1) (v := .int 0) (ty := .boolean) (C := RS) (T := TS) (N := 13) hx hb hts lyS tyS tyS_ok nmS hown hK hP hD hS 0 rfl rfl 9 (by decide) (hts _ fl_S_82) (fun _ h9 => h9) rfl (by decide +kernel) rfl rfl (Nat.le_of_ble_eq_true rfl) dS_solve_33 (fun H locs hP hD hS => ?_)
    have hP : va_P (dC, dI) vwCl [(h0, .inr (1, [.ref h1, .ref h2, .ref aw, .ref aa, .int (nI nv), .int (nI nl), .int (nI nc), .int (nI wc), .int (nI ac), .int 0, .int b, .int lv, .int (nI vt)])), (h1, .inr (0, [.ref w1, .int (nI U)])), (w1, .inl (cL, 1024, .inr (.inl f))), (h2, .inr (0, [.ref w2, .int (nI U)])), (w2, .inl (cM, 1024, .inr (.inl g2))), (aa, .inl (cJ, 64, .inl af))] H := hP
    have hD : va_D A [(h0, .inr (1, [.ref h1, .ref h2, .ref aw, .ref aa, .int (nI nv), .int (nI nl), .int (nI nc), .int (nI wc), .int (nI ac), .int 0, .int b, .int lv, .int (nI vt)])), (h1, .inr (0, [.ref w1, .int (nI U)])), (w1, .inl (cL, 1024, .inr (.inl f))), (h2, .inr (0, [.ref w2, .int (nI U)])), (w2, .inl (cM, 1024, .inr (.inl g2))), (aa, .inl (cJ, 64, .inl af))] := hD
    refine lv_aload_n hx hb dS_solve_36 rfl (lv_at hl 0 rfl) ?_
    refine lv_aload_n hx hb dS_solve_37 rfl (lv_at hl 0 rfl) ?_
    refine va_get (D := (dC, dI)) (ci := 1) (v := .int 0) (C := RS) (T := TS) (N := 13) hx hb hts lyS hown hK hP 0 rfl rfl 9 (by decide) (hts _ fl_S_82) (fun _ h9 => h9) rfl dS_solve_38 ?_
    refine lv_if_eq (tgt := 54) hx hb dS_solve_41 (by decide) (fun c2 => ?_) (fun c2 => ?_)
    · refine lv_iconst (v := 0) hx hb dS_solve_54 (by decide) ?_
      refine va_put (D := (dC, dI)) (ci := 1) (v := .int 0) (ty := .int) (C := RS) (T := TS) (N := 13) hx hb hts lyS tyS tyS_ok nmS hown hK hP hD hS 0 rfl rfl 11 (by decide) (hts _ fl_S_89) (fun _ h9 => h9) rfl (by decide +kernel) rfl rfl (Nat.le_of_ble_eq_true rfl) dS_solve_55 (fun H locs hP hD hS => ?_)
      have hP : va_P (dC, dI) vwCl [(h0, .inr (1, [.ref h1, .ref h2, .ref aw, .ref aa, .int (nI nv), .int (nI nl), .int (nI nc), .int (nI wc), .int (nI ac), .int 0, .int b, .int 0, .int (nI vt)])), (h1, .inr (0, [.ref w1, .int (nI U)])), (w1, .inl (cL, 1024, .inr (.inl f))), (h2, .inr (0, [.ref w2, .int (nI U)])), (w2, .inl (cM, 1024, .inr (.inl g2))), (aa, .inl (cJ, 64, .inl af))] H := hP
      have hD : va_D A [(h0, .inr (1, [.ref h1, .ref h2, .ref aw, .ref aa, .int (nI nv), .int (nI nl), .int (nI nc), .int (nI wc), .int (nI ac), .int 0, .int b, .int 0, .int (nI vt)])), (h1, .inr (0, [.ref w1, .int (nI U)])), (w1, .inl (cL, 1024, .inr (.inl f))), (h2, .inr (0, [.ref w2, .int (nI U)])), (w2, .inl (cM, 1024, .inr (.inl g2))), (aa, .inl (cJ, 64, .inl af))] := hD
      refine lv_aload_n hx hb dS_solve_58 rfl (lv_at hl 0 rfl) ?_
      refine lv_aload_n hx hb dS_solve_59 rfl (lv_at hl 0 rfl) ?_
      refine va_get (D := (dC, dI)) (ci := 1) (v := .int (nI nv)) (C := RS) (T := TS) (N := 13) hx hb hts lyS hown hK hP 0 rfl rfl 4 (by decide) (hts _ fl_S_29) (fun _ h9 => h9) rfl dS_solve_60 ?_
      refine va_put (D := (dC, dI)) (ci := 1) (v := .int (nI nv)) (ty := .int) (C := RS) (T := TS) (N := 13) hx hb hts lyS tyS tyS_ok nmS hown hK hP hD hS 0 rfl rfl 12 (by decide) (hts _ fl_S_92) (fun _ h9 => h9) rfl (by decide +kernel) rfl rfl (Nat.le_of_ble_eq_true rfl) dS_solve_63 (fun H locs hP hD hS => ?_)
      have hP : va_P (dC, dI) vwCl [(h0, .inr (1, [.ref h1, .ref h2, .ref aw, .ref aa, .int (nI nv), .int (nI nl), .int (nI nc), .int (nI wc), .int (nI ac), .int 0, .int b, .int 0, .int (nI nv)])), (h1, .inr (0, [.ref w1, .int (nI U)])), (w1, .inl (cL, 1024, .inr (.inl f))), (h2, .inr (0, [.ref w2, .int (nI U)])), (w2, .inl (cM, 1024, .inr (.inl g2))), (aa, .inl (cJ, 64, .inl af))] H := hP
      have hD : va_D A [(h0, .inr (1, [.ref h1, .ref h2, .ref aw, .ref aa, .int (nI nv), .int (nI nl), .int (nI nc), .int (nI wc), .int (nI ac), .int 0, .int b, .int 0, .int (nI nv)])), (h1, .inr (0, [.ref w1, .int (nI U)])), (w1, .inl (cL, 1024, .inr (.inl f))), (h2, .inr (0, [.ref w2, .int (nI U)])), (w2, .inl (cM, 1024, .inr (.inl g2))), (aa, .inl (cJ, 64, .inl af))] := hD
      refine lv_aload_n hx hb dS_solve_66 rfl (lv_at hl 0 rfl) ?_
      refine lv_iconst (v := 0) hx hb dS_solve_67 (by decide) ?_
      refine va_put (D := (dC, dI)) (ci := 1) (v := .int 0) (ty := .int) (C := RS) (T := TS) (N := 13) hx hb hts lyS tyS tyS_ok nmS hown hK hP hD hS 0 rfl rfl 8 (by decide) (hts _ fl_S_66) (fun _ h9 => h9) rfl (by decide +kernel) rfl rfl (Nat.le_of_ble_eq_true rfl) dS_solve_68 (fun H locs hP hD hS => ?_)
      have hP : va_P (dC, dI) vwCl [(h0, .inr (1, [.ref h1, .ref h2, .ref aw, .ref aa, .int (nI nv), .int (nI nl), .int (nI nc), .int (nI wc), .int 0, .int 0, .int b, .int 0, .int (nI nv)])), (h1, .inr (0, [.ref w1, .int (nI U)])), (w1, .inl (cL, 1024, .inr (.inl f))), (h2, .inr (0, [.ref w2, .int (nI U)])), (w2, .inl (cM, 1024, .inr (.inl g2))), (aa, .inl (cJ, 64, .inl af))] H := hP
      have hD : va_D A [(h0, .inr (1, [.ref h1, .ref h2, .ref aw, .ref aa, .int (nI nv), .int (nI nl), .int (nI nc), .int (nI wc), .int 0, .int 0, .int b, .int 0, .int (nI nv)])), (h1, .inr (0, [.ref w1, .int (nI U)])), (w1, .inl (cL, 1024, .inr (.inl f))), (h2, .inr (0, [.ref w2, .int (nI U)])), (w2, .inl (cM, 1024, .inr (.inl g2))), (aa, .inl (cJ, 64, .inl af))] := hD
      refine lv_aload_n hx hb dS_solve_71 rfl (lv_at hl 0 rfl) ?_
      refine va_get (D := (dC, dI)) (ci := 1) (v := .int 0) (C := RS) (T := TS) (N := 13) hx hb hts lyS hown hK hP 0 rfl rfl 9 (by decide) (hts _ fl_S_82) (fun _ h9 => h9) rfl dS_solve_72 ?_
      exact (W.zret (v := 0) hx hb hr (rfl) (fun t ht hW => ⟨⟨0, (g2, b, 0, 0), rfl, ⟨hnP, fun q => absurd q c1, fun _ => ⟨rfl, rfl⟩, rfl⟩, by rw [ht]; exact hP, va_K.moved hW.alike hK, hD⟩, hS.F ht⟩) hS.2.2 dS_solve_75)
    · exact absurd rfl c2
  · have hgk : ∀ k, k < U → g2 k = na_F f an k ac := fun k hk => by rw [hnw.2 c1 k hk, na_F_congr (hg1 k hk)]
    have hne : ∃ k, k < U ∧ g2 k ≠ 0 := by
      rcases hnP with ⟨q, _⟩ | ⟨i, h1, q, _⟩ | ⟨_, k, hk, hv⟩
      · rw [q] at c1; exact absurd c1 (by decide)
      · exact absurd (q.symm.trans c1) (ax_nm1 (by omega))
      · exact ⟨k, hk, by rw [hgk k hk]; exact hv⟩
    refine lv_iconst (v := 1) hx hb dS_solve_28 (by decide) ?_
    refine lv_goto (tgt := 33) hx hb dS_solve_29 (by decide) ?_
    refine va_put (D := (dC, dI)) (ci := 1) (v := .int 1) (ty := .boolean) (C := RS) (T := TS) (N := 13) hx hb hts lyS tyS tyS_ok nmS hown hK hP hD hS 0 rfl rfl 9 (by decide) (hts _ fl_S_82) (fun _ h9 => h9) rfl (by decide +kernel) rfl rfl (Nat.le_of_ble_eq_true rfl) dS_solve_33 (fun H locs hP hD hS => ?_)
    have hP : va_P (dC, dI) vwCl [(h0, .inr (1, [.ref h1, .ref h2, .ref aw, .ref aa, .int (nI nv), .int (nI nl), .int (nI nc), .int (nI wc), .int (nI ac), .int 1, .int b, .int lv, .int (nI vt)])), (h1, .inr (0, [.ref w1, .int (nI U)])), (w1, .inl (cL, 1024, .inr (.inl f))), (h2, .inr (0, [.ref w2, .int (nI U)])), (w2, .inl (cM, 1024, .inr (.inl g2))), (aa, .inl (cJ, 64, .inl af))] H := hP
    have hD : va_D A [(h0, .inr (1, [.ref h1, .ref h2, .ref aw, .ref aa, .int (nI nv), .int (nI nl), .int (nI nc), .int (nI wc), .int (nI ac), .int 1, .int b, .int lv, .int (nI vt)])), (h1, .inr (0, [.ref w1, .int (nI U)])), (w1, .inl (cL, 1024, .inr (.inl f))), (h2, .inr (0, [.ref w2, .int (nI U)])), (w2, .inl (cM, 1024, .inr (.inl g2))), (aa, .inl (cJ, 64, .inl af))] := hD
    refine lv_aload_n hx hb dS_solve_36 rfl (lv_at hl 0 rfl) ?_
    refine lv_aload_n hx hb dS_solve_37 rfl (lv_at hl 0 rfl) ?_
    refine va_get (D := (dC, dI)) (ci := 1) (v := .int 1) (C := RS) (T := TS) (N := 13) hx hb hts lyS hown hK hP 0 rfl rfl 9 (by decide) (hts _ fl_S_82) (fun _ h9 => h9) rfl dS_solve_38 ?_
    refine lv_if_eq (tgt := 54) hx hb dS_solve_41 (by decide) (fun c2 => ?_) (fun c2 => ?_)
    · exact absurd c2 (by decide)
    · refine lv_aload_n hx hb dS_solve_44 rfl (lv_at hl 0 rfl) ?_
      refine va_get (D := (dC, dI)) (ci := 1) (v := .ref h2) (C := RS) (T := TS) (N := 13) hx hb hts lyS hown hK hP 0 rfl rfl 1 (by decide) (hts _ fl_S_16) (fun _ h9 => h9) rfl dS_solve_45 ?_
      have hFc := va_free (wc := [(h2, .inr (0, [.ref w2, .int (nI U)])), (w2, .inl (cM, 1024, .inr (.inl g2)))]) hD hS hA [3, 4] rfl
      refine wc_i (wc_V (As := []) (rest := [.ref h0]) (n := 0) SF (k_R_leastRow l dC dI tI _ h2 w2 cM g2 U hU n hn hnn hne) ml_S_86 im_R_leastRow se_R_leastRow in_R co_R_leastRow (by decide +kernel) rfl rfl rfl ⟨Nat.le_of_ble_eq_true rfl, Nat.le_of_ble_eq_true rfl⟩ (va_recv (hK.sub (tys' := []) [] rfl) (hP.sub (ws' := [(h2, .inr (0, [.ref w2, .int (nI U)])), (w2, .inl (cM, 1024, .inr (.inl g2)))]) [3, 4] rfl) (ci := 0) (q0 := 0) rfl rfl) (hP.sub [3, 4] rfl) (hD.sub [3, 4] (by decide) rfl) (hK.sub [1] rfl) hZ hX hS hFc rfl hl.1 (Nat.le_of_ble_eq_true rfl) dS_solve_48 ⟨Nat.le_of_ble_eq_true rfl, Nat.le_of_ble_eq_true rfl⟩) hP hD hS hFc [3, 4] [0, 1, 2, 5] (wr := [(h0, .inr (1, [.ref h1, .ref h2, .ref aw, .ref aa, .int (nI nv), .int (nI nl), .int (nI nc), .int (nI wc), .int (nI ac), .int 1, .int b, .int lv, .int (nI vt)])), (h1, .inr (0, [.ref w1, .int (nI U)])), (w1, .inl (cL, 1024, .inr (.inl f))), (aa, .inl (cJ, 64, .inl af))]) rfl rfl rfl (by decide) (fun z uu H locs hlr hP hD hS => ?_)
      have hP : va_P (dC, dI) vwCl [(h0, .inr (1, [.ref h1, .ref h2, .ref aw, .ref aa, .int (nI nv), .int (nI nl), .int (nI nc), .int (nI wc), .int (nI ac), .int 1, .int b, .int lv, .int (nI vt)])), (h1, .inr (0, [.ref w1, .int (nI U)])), (w1, .inl (cL, 1024, .inr (.inl f))), (h2, .inr (0, [.ref w2, .int (nI U)])), (w2, .inl (cM, 1024, .inr (.inl g2))), (aa, .inl (cJ, 64, .inl af))] H := hP.sub [0, 1, 2, 4, 5, 3] rfl
      have hD : va_D A [(h0, .inr (1, [.ref h1, .ref h2, .ref aw, .ref aa, .int (nI nv), .int (nI nl), .int (nI nc), .int (nI wc), .int (nI ac), .int 1, .int b, .int lv, .int (nI vt)])), (h1, .inr (0, [.ref w1, .int (nI U)])), (w1, .inl (cL, 1024, .inr (.inl f))), (h2, .inr (0, [.ref w2, .int (nI U)])), (w2, .inl (cM, 1024, .inr (.inl g2))), (aa, .inl (cJ, 64, .inl af))] := hD.sub [0, 1, 2, 4, 5, 3] (by decide) rfl
      refine lv_goto (tgt := 55) hx hb dS_solve_51 (by decide) ?_
      refine va_put (D := (dC, dI)) (ci := 1) (v := .int z) (ty := .int) (C := RS) (T := TS) (N := 13) hx hb hts lyS tyS tyS_ok nmS hown hK hP hD hS 0 rfl rfl 11 (by decide) (hts _ fl_S_89) (fun _ h9 => h9) rfl (by decide +kernel) rfl rfl (Nat.le_of_ble_eq_true rfl) dS_solve_55 (fun H locs hP hD hS => ?_)
      have hP : va_P (dC, dI) vwCl [(h0, .inr (1, [.ref h1, .ref h2, .ref aw, .ref aa, .int (nI nv), .int (nI nl), .int (nI nc), .int (nI wc), .int (nI ac), .int 1, .int b, .int z, .int (nI vt)])), (h1, .inr (0, [.ref w1, .int (nI U)])), (w1, .inl (cL, 1024, .inr (.inl f))), (h2, .inr (0, [.ref w2, .int (nI U)])), (w2, .inl (cM, 1024, .inr (.inl g2))), (aa, .inl (cJ, 64, .inl af))] H := hP
      have hD : va_D A [(h0, .inr (1, [.ref h1, .ref h2, .ref aw, .ref aa, .int (nI nv), .int (nI nl), .int (nI nc), .int (nI wc), .int (nI ac), .int 1, .int b, .int z, .int (nI vt)])), (h1, .inr (0, [.ref w1, .int (nI U)])), (w1, .inl (cL, 1024, .inr (.inl f))), (h2, .inr (0, [.ref w2, .int (nI U)])), (w2, .inl (cM, 1024, .inr (.inl g2))), (aa, .inl (cJ, 64, .inl af))] := hD
      refine lv_aload_n hx hb dS_solve_58 rfl (lv_at hl 0 rfl) ?_
      refine lv_aload_n hx hb dS_solve_59 rfl (lv_at hl 0 rfl) ?_
      refine va_get (D := (dC, dI)) (ci := 1) (v := .int (nI nv)) (C := RS) (T := TS) (N := 13) hx hb hts lyS hown hK hP 0 rfl rfl 4 (by decide) (hts _ fl_S_29) (fun _ h9 => h9) rfl dS_solve_60 ?_
      refine va_put (D := (dC, dI)) (ci := 1) (v := .int (nI nv)) (ty := .int) (C := RS) (T := TS) (N := 13) hx hb hts lyS tyS tyS_ok nmS hown hK hP hD hS 0 rfl rfl 12 (by decide) (hts _ fl_S_92) (fun _ h9 => h9) rfl (by decide +kernel) rfl rfl (Nat.le_of_ble_eq_true rfl) dS_solve_63 (fun H locs hP hD hS => ?_)
      have hP : va_P (dC, dI) vwCl [(h0, .inr (1, [.ref h1, .ref h2, .ref aw, .ref aa, .int (nI nv), .int (nI nl), .int (nI nc), .int (nI wc), .int (nI ac), .int 1, .int b, .int z, .int (nI nv)])), (h1, .inr (0, [.ref w1, .int (nI U)])), (w1, .inl (cL, 1024, .inr (.inl f))), (h2, .inr (0, [.ref w2, .int (nI U)])), (w2, .inl (cM, 1024, .inr (.inl g2))), (aa, .inl (cJ, 64, .inl af))] H := hP
      have hD : va_D A [(h0, .inr (1, [.ref h1, .ref h2, .ref aw, .ref aa, .int (nI nv), .int (nI nl), .int (nI nc), .int (nI wc), .int (nI ac), .int 1, .int b, .int z, .int (nI nv)])), (h1, .inr (0, [.ref w1, .int (nI U)])), (w1, .inl (cL, 1024, .inr (.inl f))), (h2, .inr (0, [.ref w2, .int (nI U)])), (w2, .inl (cM, 1024, .inr (.inl g2))), (aa, .inl (cJ, 64, .inl af))] := hD
      refine lv_aload_n hx hb dS_solve_66 rfl (lv_at hl 0 rfl) ?_
      refine lv_iconst (v := 0) hx hb dS_solve_67 (by decide) ?_
      refine va_put (D := (dC, dI)) (ci := 1) (v := .int 0) (ty := .int) (C := RS) (T := TS) (N := 13) hx hb hts lyS tyS tyS_ok nmS hown hK hP hD hS 0 rfl rfl 8 (by decide) (hts _ fl_S_66) (fun _ h9 => h9) rfl (by decide +kernel) rfl rfl (Nat.le_of_ble_eq_true rfl) dS_solve_68 (fun H locs hP hD hS => ?_)
      have hP : va_P (dC, dI) vwCl [(h0, .inr (1, [.ref h1, .ref h2, .ref aw, .ref aa, .int (nI nv), .int (nI nl), .int (nI nc), .int (nI wc), .int 0, .int 1, .int b, .int z, .int (nI nv)])), (h1, .inr (0, [.ref w1, .int (nI U)])), (w1, .inl (cL, 1024, .inr (.inl f))), (h2, .inr (0, [.ref w2, .int (nI U)])), (w2, .inl (cM, 1024, .inr (.inl g2))), (aa, .inl (cJ, 64, .inl af))] H := hP
      have hD : va_D A [(h0, .inr (1, [.ref h1, .ref h2, .ref aw, .ref aa, .int (nI nv), .int (nI nl), .int (nI nc), .int (nI wc), .int 0, .int 1, .int b, .int z, .int (nI nv)])), (h1, .inr (0, [.ref w1, .int (nI U)])), (w1, .inl (cL, 1024, .inr (.inl f))), (h2, .inr (0, [.ref w2, .int (nI U)])), (w2, .inl (cM, 1024, .inr (.inl g2))), (aa, .inl (cJ, 64, .inl af))] := hD
      refine lv_aload_n hx hb dS_solve_71 rfl (lv_at hl 0 rfl) ?_
      refine va_get (D := (dC, dI)) (ci := 1) (v := .int 1) (C := RS) (T := TS) (N := 13) hx hb hts lyS hown hK hP 0 rfl rfl 9 (by decide) (hts _ fl_S_82) (fun _ h9 => h9) rfl dS_solve_72 ?_
      exact (W.zret (v := 1) hx hb hr (rfl) (fun t ht hW => ⟨⟨1, (g2, b, z, 1), rfl, ⟨hnP, fun _ => ⟨rfl, by
          obtain ⟨q, e1, e2⟩ := hlr
          exact ⟨q, e1, lr_L_congr (fun k hk => hgk k (by rw [hn]; exact hk)) e2⟩⟩, fun q => absurd c1 q, rfl⟩, by rw [ht]; exact hP, va_K.moved hW.alike hK, hD⟩, hS.F ht⟩) hS.2.2 dS_solve_75)
end
section
abbrev xNs : List String := ["java/lang/RuntimeException", "java/lang/Exception"]
set_option maxRecDepth 100000 in
theorem xt_S_in : ∀ w ∈ (vx_atS RS 37 xS xNs).filter goodWord, w ∈ GG := by decide +kernel
theorem xt_S_bad : ∀ w ∈ (vx_atS RS 37 xS xNs).filter (fun w => !goodWord w), w ∈ ([.castable xS xS, .declares ⟨"java/lang/RuntimeException", "<init>", "(Ljava/lang/String;)V"⟩, .declares ⟨"java/lang/Exception", "<init>", "(Ljava/lang/String;)V"⟩, .declares ⟨"java/lang/Throwable", "<init>", "(Ljava/lang/String;)V"⟩] : List Cond) := by decide +kernel
theorem xt_S_ot : ∀ w ∈ Cond.classLink RS 33 xS :: Cond.initialized xS :: vx_atS RS 37 xS xNs, vx_ot w = true := by decide +kernel
theorem xt_S_hat {args : Array Value} {s : State} (hts : ∀ w ∈ GG, w.before args s = true) (hX : wX s) : ∀ w ∈ vx_atS RS 37 xS xNs, w.before args s = true := vx_hat (B := ([.castable xS xS, .declares ⟨"java/lang/RuntimeException", "<init>", "(Ljava/lang/String;)V"⟩, .declares ⟨"java/lang/Exception", "<init>", "(Ljava/lang/String;)V"⟩, .declares ⟨"java/lang/Throwable", "<init>", "(Ljava/lang/String;)V"⟩] : List Cond)) (fun w hw => hts w (xt_S_in w hw)) xt_S_bad (vx_c (va_Nw.use rfl (hX.1 xS (by decide))) (vx_c (va_Nw.use rfl (hX.2.1 _ (by decide))) (vx_c (va_Nw.use rfl (hX.2.1 _ (by decide))) (vx_c (va_Nw.use rfl (hX.2.1 _ (by decide))) vx_n))))
set_option maxRecDepth 100000 in
theorem xt_A_in : ∀ w ∈ (vx_atS RS 108 xA xNs).filter goodWord, w ∈ GG := by decide +kernel
theorem xt_A_bad : ∀ w ∈ (vx_atS RS 108 xA xNs).filter (fun w => !goodWord w), w ∈ ([.castable xA xA, .declares ⟨"java/lang/RuntimeException", "<init>", "(Ljava/lang/String;)V"⟩, .declares ⟨"java/lang/Exception", "<init>", "(Ljava/lang/String;)V"⟩, .declares ⟨"java/lang/Throwable", "<init>", "(Ljava/lang/String;)V"⟩] : List Cond) := by decide +kernel
theorem xt_A_ot : ∀ w ∈ Cond.classLink RS 104 xA :: Cond.initialized xA :: vx_atS RS 108 xA xNs, vx_ot w = true := by decide +kernel
theorem xt_A_hat {args : Array Value} {s : State} (hts : ∀ w ∈ GG, w.before args s = true) (hX : wX s) : ∀ w ∈ vx_atS RS 108 xA xNs, w.before args s = true := vx_hat (B := ([.castable xA xA, .declares ⟨"java/lang/RuntimeException", "<init>", "(Ljava/lang/String;)V"⟩, .declares ⟨"java/lang/Exception", "<init>", "(Ljava/lang/String;)V"⟩, .declares ⟨"java/lang/Throwable", "<init>", "(Ljava/lang/String;)V"⟩] : List Cond)) (fun w hw => hts w (xt_A_in w hw)) xt_A_bad (vx_c (va_Nw.use rfl (hX.1 xA (by decide))) (vx_c (va_Nw.use rfl (hX.2.1 _ (by decide))) (vx_c (va_Nw.use rfl (hX.2.1 _ (by decide))) (vx_c (va_Nw.use rfl (hX.2.1 _ (by decide))) vx_n))))
set_option maxRecDepth 100000 in
theorem xt_I_in : ∀ w ∈ (vx_atS RS 99 xI xNs).filter goodWord, w ∈ GG := by decide +kernel
theorem xt_I_bad : ∀ w ∈ (vx_atS RS 99 xI xNs).filter (fun w => !goodWord w), w ∈ ([.castable xI xI, .declares ⟨"java/lang/RuntimeException", "<init>", "(Ljava/lang/String;)V"⟩, .declares ⟨"java/lang/Exception", "<init>", "(Ljava/lang/String;)V"⟩, .declares ⟨"java/lang/Throwable", "<init>", "(Ljava/lang/String;)V"⟩] : List Cond) := by decide +kernel
theorem xt_I_ot : ∀ w ∈ Cond.classLink RS 95 xI :: Cond.initialized xI :: vx_atS RS 99 xI xNs, vx_ot w = true := by decide +kernel
theorem xt_I_hat {args : Array Value} {s : State} (hts : ∀ w ∈ GG, w.before args s = true) (hX : wX s) : ∀ w ∈ vx_atS RS 99 xI xNs, w.before args s = true := vx_hat (B := ([.castable xI xI, .declares ⟨"java/lang/RuntimeException", "<init>", "(Ljava/lang/String;)V"⟩, .declares ⟨"java/lang/Exception", "<init>", "(Ljava/lang/String;)V"⟩, .declares ⟨"java/lang/Throwable", "<init>", "(Ljava/lang/String;)V"⟩] : List Cond)) (fun w hw => hts w (xt_I_in w hw)) xt_I_bad (vx_c (va_Nw.use rfl (hX.1 xI (by decide))) (vx_c (va_Nw.use rfl (hX.2.1 _ (by decide))) (vx_c (va_Nw.use rfl (hX.2.1 _ (by decide))) (vx_c (va_Nw.use rfl (hX.2.1 _ (by decide))) vx_n))))
/-- what a throw leaves: the world as it was -/
abbrev wXC (dC : Nat → ClassId) (dI : Nat → Nat → Nat) (tys : List (ClassId × FieldType)) (ws : va_W) (sz : Nat) (XE : String → Prop) : String → State → State → Prop := vx_X (fun _ : Unit => True) (fun E _ t => XE E ∧ wB dC dI tys (va_A ws sz) ws t) (va_A ws sz)
theorem wx_end {dC : Nat → ClassId} {dI : Nat → Nat → Nat} {tys : List (ClassId × FieldType)} {ws : va_W} {A : Nat → Prop} {s t : State} {H : Heap} {locs : List Loc} (hP : va_P (dC, dI) vwCl ws H) (hK : va_K (dC, dI) vwCl tys s) (hD : va_D A ws) (hS : va_S A s.heap H locs) (hvm : s.vm.Alike t.vm) (hsz : H.size ≤ t.heap.size) (hk : ∀ q : Nat, q < H.size → t.heap[q]? = H[q]?) : wB dC dI tys A ws t ∧ va_F A s t :=
  ⟨⟨hP.kept (fun k q hq => hk q.1 (hP k q hq).lt), va_K.moved hvm hK, hD⟩, Nat.le_trans hS.1 hsz, fun q h1 h2 => by rw [hk q (Nat.lt_of_lt_of_le h1 hS.1)]; exact hS.2.1 q h1 h2⟩
section WB3
variable {p : Program} {l : Launch} {e : Env} {R : Room} {s : State} {m : MethodId} {args : Array Value} {below : List Frame} {meth : Method} {c : Code} {H : Heap} {locs : List Loc} {cells slots : Nat} {Q : State → Prop} {pc : Nat} {ls : Array Slot} {rest st0 : List Value}
variable {dC : Nat → ClassId} {dI : Nat → Nat → Nat} {tysC : List (ClassId × FieldType)} {tI mc ms : Nat} {A : Nat → Prop} {ws wc wr : va_W} {a : Array Value} {H0 : Heap} {XE : String → Prop}
theorem wcx_v {S : Type} {post : S → Prop} {wsf : S → va_W} (hr : vx_Run p l e R s m args below meth c H locs cells slots mc ms (F0 m pc ls st0) rest (va_Qv post (fun u t => wB dC dI tysC (va_A wc H.size) (wsf u) t) (va_A wc H.size) a) (wXC dC dI tysC wc H.size XE) (va_A wc H.size)) (hP : va_P (dC, dI) vwCl ws H) (hD : va_D A ws) (hS : va_S A H0 H locs) (hF : ∀ q, va_A wc H.size q → A q) (isC isR : List Nat) (hC : isC.map (fun i => ws[i]?) = wc.map some) (hR : isR.map (fun i => ws[i]?) = wr.map some) (hn : va_nd isR = true) (hdis : ∀ i ∈ isR, i ∉ isC)
    (kx : ∀ (E : String) (ce : Cell) (q9 : Addr) (H1 : Heap) (locs1 : List Loc), XE E → va_P (dC, dI) vwCl (wr ++ wc) H1 → va_D A (wr ++ wc) → va_S A H0 H1 locs1 → H1[q9]? = some ce → ce.vm = .none → s.vm.findClass E = some ce.cls → vx_W p l e R s m args below meth c H1 locs1 (cells + mc) (slots + ms) Q (F0 m pc ls rest) q9)
    (kk : ∀ (u : S) (H1 : Heap) (locs1 : List Loc), post u → va_P (dC, dI) vwCl (wr ++ wsf u) H1 → va_D A (wr ++ wsf u) → va_S A H0 H1 locs1 → W p l e R s m args below meth c H1 locs1 (cells + mc) (slots + ms) Q (F0 m (pc + 3) ls rest)) : W p l e R s m args below meth c H locs cells slots Q (F0 m pc ls st0) := by
  refine vx_callv hr hS (fun q _ h => hF q h) hF (fun q _ h => hF q h) (fun E ce q9 u t H1 locs1 ht hvm hw hB hz hk hS1 h7 h8 h9 => ?_) (fun u t H1 locs1 ht hvm hw hB hz hk hS1 => ?_)
  · obtain ⟨hE, hP1, hK1, hD1⟩ := hB
    rw [ht] at hP1
    obtain ⟨hP2, hD2⟩ := va_join (wr := wr) (w1 := wc) hP hD isC isR hC hR hn hdis hk hF hP1 hD1
    exact kx E ce q9 H1 locs1 hE hP2 hD2 hS1 h7 h8 h9
  · obtain ⟨hP1, hK1, hD1⟩ := hB
    rw [ht] at hP1
    obtain ⟨hP2, hD2⟩ := va_join (wr := wr) (w1 := wsf u) hP hD isC isR hC hR hn hdis hk hF hP1 hD1
    exact kk u H1 locs1 hw hP2 hD2 hS1
theorem wcx_i {S : Type} {post : Int32 → S → Prop} {wsf : S → va_W} (hr : vx_Run p l e R s m args below meth c H locs cells slots mc ms (F0 m pc ls st0) rest (va_Qi post (fun u t => wB dC dI tysC (va_A wc H.size) (wsf u) t) (va_A wc H.size) a) (wXC dC dI tysC wc H.size XE) (va_A wc H.size)) (hP : va_P (dC, dI) vwCl ws H) (hD : va_D A ws) (hS : va_S A H0 H locs) (hF : ∀ q, va_A wc H.size q → A q) (isC isR : List Nat) (hC : isC.map (fun i => ws[i]?) = wc.map some) (hR : isR.map (fun i => ws[i]?) = wr.map some) (hn : va_nd isR = true) (hdis : ∀ i ∈ isR, i ∉ isC)
    (kx : ∀ (E : String) (ce : Cell) (q9 : Addr) (H1 : Heap) (locs1 : List Loc), XE E → va_P (dC, dI) vwCl (wr ++ wc) H1 → va_D A (wr ++ wc) → va_S A H0 H1 locs1 → H1[q9]? = some ce → ce.vm = .none → s.vm.findClass E = some ce.cls → vx_W p l e R s m args below meth c H1 locs1 (cells + mc) (slots + ms) Q (F0 m pc ls rest) q9)
    (kk : ∀ (r : Int32) (u : S) (H1 : Heap) (locs1 : List Loc), post r u → va_P (dC, dI) vwCl (wr ++ wsf u) H1 → va_D A (wr ++ wsf u) → va_S A H0 H1 locs1 → W p l e R s m args below meth c H1 locs1 (cells + mc) (slots + ms) Q (F0 m (pc + 3) ls (.int r :: rest))) : W p l e R s m args below meth c H locs cells slots Q (F0 m pc ls st0) := by
  refine vx_calli hr hS (fun q _ h => hF q h) hF (fun q _ h => hF q h) (fun E ce q9 u t H1 locs1 ht hvm hw hB hz hk hS1 h7 h8 h9 => ?_) (fun r u t H1 locs1 ht hvm hw hB hz hk hS1 => ?_)
  · obtain ⟨hE, hP1, hK1, hD1⟩ := hB
    rw [ht] at hP1
    obtain ⟨hP2, hD2⟩ := va_join (wr := wr) (w1 := wc) hP hD isC isR hC hR hn hdis hk hF hP1 hD1
    exact kx E ce q9 H1 locs1 hE hP2 hD2 hS1 h7 h8 h9
  · obtain ⟨hP1, hK1, hD1⟩ := hB
    rw [ht] at hP1
    obtain ⟨hP2, hD2⟩ := va_join (wr := wr) (w1 := wsf u) hP hD isC isR hC hR hn hdis hk hF hP1 hD1
    exact kk r u H1 locs1 hw hP2 hD2 hS1
variable {y : MethodName} {bytes cc : ByteArray} {maxL nL n index : Nat} {ret : Option FieldType} {rm : Room} {own C : String} {b : Nat} {As : List Value} {Qc : Array Value → State → Outcome → State → Prop} {free : Addr → Prop} {A' : Nat → Prop} {XC : String → State → State → Prop}
theorem wcx_V (S : CallFix p m c cc nL s args GG own) (hM : vx_Met l y (Cond.code y bytes maxL ret :: GG) rm (va_Pc (.ref b :: As) (wPre dC dI tysC wc H.size tI)) Qc XC mc ms free) (w1 : Cond.methodLink own index y ∈ GG) (w2 : Cond.instanceMethod y ∈ GG) (w3 : Cond.selects C y y ∈ GG) (w4 : Cond.initialized C ∈ GG) (w5 : Cond.code y bytes maxL ret ∈ GG)
    (hd : y.cls = C ∧ y.cls ≠ "java/lang/invoke/MethodHandle" ∧ y.cls ≠ "java/lang/invoke/VarHandle" ∧ (parseMethodDescriptor y.desc).map (fun d => d.parameters.length) = some n) (hn : As.length = n) (hrc : rm.cells = mc) (hrs : rm.slots = ms) (hR : rm.frames + 1 ≤ R.frames ∧ 8 + (maxL + 11) + rm.locals ≤ R.locals)
    (hrecv : ∃ cellB : Cell, H[b]? = some cellB ∧ cellB.vm.isStatics = false ∧ s.vm.findClass C = some cellB.cls) (hPc : va_P (dC, dI) vwCl wc H) (hDc : va_D A' wc) (hKc : va_K (dC, dI) vwCl tysC s) (hZ : wZ tI A s s.heap) (hX : wX s) (hS : va_S A s.heap H locs) (hF : ∀ q, va_A wc H.size q → A q)
    (hst : st0 = As.reverse ++ .ref b :: rest) (hsize : ls.size = nL) (hW : (rest.map fun v => v.category).sum ≤ 8) (hdg : decode cc pc = .ok (.invokevirtual index, 3)) (hf : cells + mc ≤ R.cells ∧ slots + ms ≤ R.slots) :
    vx_Run p l e R s m args below meth c H locs cells slots mc ms (F0 m pc ls st0) rest (Qc (Value.ref b :: As).toArray) XC free :=
  vx_runV (As := As) (rest := rest) S hM (cwV n S.2.2.2.2 (GG_good (fun w hw => by
    rcases List.mem_append.mp hw with h | h
    · simp only [List.mem_cons, List.not_mem_nil, or_false] at h
      rcases h with rfl | rfl | rfl | rfl
      · exact w1
      · exact w2
      · exact w3
      · exact w4
    · rcases List.mem_cons.mp h with h | h
      · rw [h]; exact w5
      · exact h)) rfl hrc hrs hd hR) ⟨wPre_blind _ _ _ _ _ _ _, hrecv, fun U hU hW => ⟨rfl, wPre_of hPc hDc hKc hZ hX hS hF hU hW⟩⟩ rfl hn hsize hst (lv_room hW) hdg hf
theorem wcx_SW {hh : List (Nat × Nat × Nat × Nat)} (S : CallFix p m c cc nL s args GG own) (hM : Met l y (Cond.codeWith y bytes maxL ret hh :: GG) rm (va_Pc As (wPre dC dI tysC wc H.size tI)) Qc mc ms free) (w1 : Cond.methodLink own index y ∈ GG) (w2 : Cond.static y ∈ GG) (w4 : Cond.initialized y.cls ∈ GG) (w5 : Cond.codeWith y bytes maxL ret hh ∈ GG)
    (hd : y.cls ≠ "java/lang/invoke/MethodHandle" ∧ y.cls ≠ "java/lang/invoke/VarHandle" ∧ (parseMethodDescriptor y.desc).map (fun d => d.parameters.length) = some n) (hn : As.length = n) (hrc : rm.cells = mc) (hrs : rm.slots = ms) (hR : rm.frames + 1 ≤ R.frames ∧ 8 + (maxL + 11) + rm.locals ≤ R.locals)
    (hPc : va_P (dC, dI) vwCl wc H) (hDc : va_D A' wc) (hKc : va_K (dC, dI) vwCl tysC s) (hZ : wZ tI A s s.heap) (hX : wX s) (hS : va_S A s.heap H locs) (hF : ∀ q, va_A wc H.size q → A q)
    (hst : st0 = As.reverse ++ rest) (hsize : ls.size = nL) (hW : (rest.map fun v => v.category).sum ≤ 8) (hdg : decode cc pc = .ok (.invokestatic index, 3)) (hf : cells + mc ≤ R.cells ∧ slots + ms ≤ R.slots) :
    va_Run p l e R s m args below meth c H locs cells slots mc ms (F0 m pc ls st0) rest (Qc As.toArray) free :=
  vx_runSW (As := As) (rest := rest) S hM (vx_cwSW n S.2.2.2.2 (GG_good (fun w hw => by
    rcases List.mem_append.mp hw with h | h
    · simp only [List.mem_cons, List.not_mem_nil, or_false] at h
      rcases h with rfl | rfl | rfl
      · exact w1
      · exact w2
      · exact w4
    · rcases List.mem_cons.mp h with h | h
      · rw [h]; exact w5
      · exact h)) rfl hrc hrs hd hR) ⟨wPre_blind _ _ _ _ _ _ _, fun U hU hW => ⟨rfl, wPre_of hPc hDc hKc hZ hX hS hF hU hW⟩⟩ rfl hn hsize hst (lv_room hW) hdg hf
end WB3
end
section
def mu_x (L : Nat) : Nat := if L % 2 = 0 then L + 1 else L - 1
theorem mu_xor : ∀ L, L < 32 → nI L ^^^ 1 = nI (mu_x L) := by decide +kernel
theorem mu_lt : ∀ {L}, L < 32 → mu_x L < 32 := by decide +kernel
def mu_P (f : Nat → Int64) (U L : Nat) : Prop := ∃ k, k < U ∧ f k &&& ls_rw L k ≠ 0
theorem mu_0 {f : Nat → Int64} {U L : Nat} {r : Int32} (h : (r = 1 ∧ ∃ k, k < U ∧ f k &&& ls_rw L k ≠ 0) ∨ (r = 0 ∧ ∀ k, k < U → f k &&& ls_rw L k = 0)) (c : r = 0) : ¬ mu_P f U L := by
  rcases h with ⟨h, _⟩ | ⟨_, h⟩
  · rw [h] at c; exact absurd c (by decide)
  · rintro ⟨k, hk, hv⟩; exact hv (h k hk)
theorem mu_1 {f : Nat → Int64} {U L : Nat} {r : Int32} (h : (r = 1 ∧ ∃ k, k < U ∧ f k &&& ls_rw L k ≠ 0) ∨ (r = 0 ∧ ∀ k, k < U → f k &&& ls_rw L k = 0)) (c : ¬ r = 0) : mu_P f U L := by
  rcases h with ⟨_, h⟩ | ⟨h, _⟩
  · exact h
  · exact absurd h c
set_option maxHeartbeats 4000000 in
set_option maxRecDepth 100000 in
theorem k_S_refuse (l : Launch) (hst : l.stackTraces = false) (dC : Nat → ClassId) (dI : Nat → Nat → Nat) (tI sz : Nat) (h0 h1 h2 aw aa : Nat) (nv nl nc wc ac vt : Nat) (fo bl lv : Int32) (x : Int32) (hnv : nv ≤ 16) : vx_Met l yS_refuseUnknownLiteral (Cond.code yS_refuseUnknownLiteral cS_refuseUnknownLiteral 2 none :: GG) (lvr 6 1 6) (va_Pc [.ref h0, .int x] (wPre dC dI [] [(h0, .inr (1, [.ref h1, .ref h2, .ref aw, .ref aa, .int (nI nv), .int (nI nl), .int (nI nc), .int (nI wc), .int (nI ac), .int fo, .int bl, .int lv, .int (nI vt)]))] sz tI)) (va_Qv (fun (u : Unit) => (∃ L, L < 2 * nv ∧ x = nI L)) (fun u t => wB dC dI [] (va_A [(h0, .inr (1, [.ref h1, .ref h2, .ref aw, .ref aa, .int (nI nv), .int (nI nl), .int (nI nc), .int (nI wc), .int (nI ac), .int fo, .int bl, .int lv, .int (nI vt)]))] sz) [(h0, .inr (1, [.ref h1, .ref h2, .ref aw, .ref aa, .int (nI nv), .int (nI nl), .int (nI nc), .int (nI wc), .int (nI ac), .int fo, .int bl, .int lv, .int (nI vt)]))] t) (va_A [(h0, .inr (1, [.ref h1, .ref h2, .ref aw, .ref aa, .int (nI nv), .int (nI nl), .int (nI nc), .int (nI wc), .int (nI ac), .int fo, .int bl, .int lv, .int (nI vt)]))] sz)) (wXC dC dI [] [(h0, .inr (1, [.ref h1, .ref h2, .ref aw, .ref aa, .int (nI nv), .int (nI nl), .int (nI nc), .int (nI wc), .int (nI ac), .int fo, .int bl, .int lv, .int (nI vt)]))] sz (fun E => E = xA ∧ ¬ (∃ L, L < 2 * nv ∧ x = nI L))) 1 6 (va_A [(h0, .inr (1, [.ref h1, .ref h2, .ref aw, .ref aa, .int (nI nv), .int (nI nl), .int (nI nc), .int (nI wc), .int (nI ac), .int fo, .int bl, .int lv, .int (nI vt)]))] sz) := by
  unfold wXC
  refine vx_ofW (cc := cS_refuseUnknownLiteral) (maxL := 2) (ret := none) (by decide) rfl ?_
  intro p e s m args below meth c s₁ B hml hnt hv
  obtain ⟨rfl, hsz, hP, hK, hD0, hZ, hX⟩ := hv
  have hx := B.exec
  have hb := B.bytes
  have hr := B.returns
  have hts : ∀ w ∈ GG, w.before ([.ref h0, .int x] : List Value).toArray s = true := fun w h => atoms_spec (ws := _ :: GG) B.pre w (List.mem_cons_of_mem _ h)
  have hown : s.vm.findClass RS = some m.cls := findClass_of_methodNamed B.named
  have hlocks := B.notSynchronized
  subst hsz
  have hD := hD0.self (sz := s.heap.size)
  generalize hAe : va_A [(h0, .inr (1, [.ref h1, .ref h2, .ref aw, .ref aa, .int (nI nv), .int (nI nl), .int (nI nc), .int (nI wc), .int (nI ac), .int fo, .int bl, .int lv, .int (nI vt)]))] s.heap.size = A at hD hZ ⊢
  have hA : ∀ q : Nat, s.heap.size ≤ q → A q := fun q h => by rw [← hAe]; exact Or.inr h
  have hS : va_S A s.heap s.heap [] := va_S.rf
  have hl := lv_entry ([.ref h0, .int x]) (n := 2) (Nat.le_of_ble_eq_true rfl)
  rw [lg_entry_eq]
  generalize (lg_sl ([.ref h0, .int x]) ++ List.replicate (2 - (lg_sl ([.ref h0, .int x])).length) Slot.unset).toArray = ls at hl ⊢
  have hl : lv_has ls 2 [(0, .ref h0), (1, .int x)] := hl
  have SF : CallFix p m c cS_refuseUnknownLiteral 2 s ([.ref h0, .int x] : List Value).toArray GG RS := ⟨hx, hb, hml, hown, hts⟩
  skip
  have hP : va_P (dC, dI) vwCl [(h0, .inr (1, [.ref h1, .ref h2, .ref aw, .ref aa, .int (nI nv), .int (nI nl), .int (nI nc), .int (nI wc), .int (nI ac), .int fo, .int bl, .int lv, .int (nI vt)]))] s.heap := hP
  refine lv_iload_n hx hb dS_refuseUnknownLiteral_0 rfl (lv_at hl 1 rfl) ?_
  refine lv_if_lt (tgt := 14) hx hb dS_refuseUnknownLiteral_1 (by decide) (fun c1 => ?_) (fun c1 => ?_)
  · obtain ⟨sa, hstr⟩ := hX.2.2.2.2 (120, "there is no such literal") (by decide)
    exact vx_throwS (mc := 1) (ms := 6) hx hb hst (own := RS) (cls := xA) (names := xNs) (A := A) hown (by decide) (by decide) (hts _ cl_S_104) (hts _ in_IllegalArgumentException) hstr (xt_A_hat hts hX) xt_A_ot hZ.2.2.1 hZ.2.2.2 hS (by rw [hml]; exact hl.1) dS_refuseUnknownLiteral_14 dS_refuseUnknownLiteral_17 dS_refuseUnknownLiteral_18 dS_refuseUnknownLiteral_20 dS_refuseUnknownLiteral_23 (fun x hx => (hnt x hx).elim) (Nat.le_of_ble_eq_true rfl) (Nat.le_of_ble_eq_true rfl) (Nat.le_of_ble_eq_true rfl) (Nat.le_of_ble_eq_true rfl) hlocks (fun t hvm hsz hk => ⟨(), trivial, ⟨⟨rfl, fun ⟨L, hL, e⟩ => absurd c1 (by rw [e]; exact nI_pos (by omega))⟩, (wx_end hP hK hD hS hvm hsz hk).1⟩, (wx_end hP hK hD hS hvm hsz hk).2⟩) hS.2.2 (Nat.le_of_ble_eq_true rfl) (Nat.le_of_ble_eq_true rfl)
  · refine lv_iload_n hx hb dS_refuseUnknownLiteral_4 rfl (lv_at hl 1 rfl) ?_
    refine lv_iconst (v := 2) hx hb dS_refuseUnknownLiteral_5 (by decide) ?_
    refine lv_aload_n hx hb dS_refuseUnknownLiteral_6 rfl (lv_at hl 0 rfl) ?_
    refine va_get (D := (dC, dI)) (ci := 1) (v := .int (nI nv)) (C := RS) (T := TS) (N := 13) hx hb hts lyS hown hK hP 0 rfl rfl 4 (by decide) (hts _ fl_S_29) (fun _ h9 => h9) rfl dS_refuseUnknownLiteral_7 ?_
    refine lv_imul hx hb dS_refuseUnknownLiteral_10 ?_
    refine ls_topi (y := nI (2 * nv)) (pk_mul 2 nv) ?_
    refine lv_icmp_lt (tgt := 24) hx hb dS_refuseUnknownLiteral_11 (by decide) (fun c2 => ?_) (fun c2 => ?_)
    · obtain ⟨L, hL31, eL⟩ := nI_of c1
      refine W.widen (k := 1) (n := 6) (Nat.le_of_ble_eq_true rfl) (Nat.le_of_ble_eq_true rfl) ?_
      exact vx_ret (W.vret hx hb hr (fun t ht hW => ⟨⟨(), rfl, ⟨L, (nI_ltI (by omega) (by omega)).mp (by rw [← eL]; exact c2), eL⟩, by rw [ht]; exact hP, va_K.moved hW.alike hK, hD⟩, hS.F ht⟩) hS.2.2 dS_refuseUnknownLiteral_24)
    · obtain ⟨sa, hstr⟩ := hX.2.2.2.2 (120, "there is no such literal") (by decide)
      exact vx_throwS (mc := 1) (ms := 6) hx hb hst (own := RS) (cls := xA) (names := xNs) (A := A) hown (by decide) (by decide) (hts _ cl_S_104) (hts _ in_IllegalArgumentException) hstr (xt_A_hat hts hX) xt_A_ot hZ.2.2.1 hZ.2.2.2 hS (by rw [hml]; exact hl.1) dS_refuseUnknownLiteral_14 dS_refuseUnknownLiteral_17 dS_refuseUnknownLiteral_18 dS_refuseUnknownLiteral_20 dS_refuseUnknownLiteral_23 (fun x hx => (hnt x hx).elim) (Nat.le_of_ble_eq_true rfl) (Nat.le_of_ble_eq_true rfl) (Nat.le_of_ble_eq_true rfl) (Nat.le_of_ble_eq_true rfl) hlocks (fun t hvm hsz hk => ⟨(), trivial, ⟨⟨rfl, fun ⟨L, hL, e⟩ => c2 (by rw [e]; exact nI_lt hL (by omega))⟩, (wx_end hP hK hD hS hvm hsz hk).1⟩, (wx_end hP hK hD hS hvm hsz hk).2⟩) hS.2.2 (Nat.le_of_ble_eq_true rfl) (Nat.le_of_ble_eq_true rfl)
set_option maxHeartbeats 4000000 in
set_option maxRecDepth 100000 in
theorem k_S_variable (l : Launch) (hst : l.stackTraces = false) (dC : Nat → ClassId) (dI : Nat → Nat → Nat) (tI sz : Nat) (h0 h1 w1 h2 aw aa : Nat) (cL : ClassId) (f : Nat → Int64) (U : Nat) (hU : U ≤ 1024) (nv nl nc wc ac vt : Nat) (fo bl lv : Int32) (hnv : nv ≤ 16) (h22 : nv < 6 ∨ 2 * U ≤ 1024) : vx_Met l yS_variable (Cond.code yS_variable cS_variable 2 (some .int) :: GG) (lvr 6 1 6) (va_Pc [.ref h0] (wPre dC dI [(cL, .long)] [(h0, .inr (1, [.ref h1, .ref h2, .ref aw, .ref aa, .int (nI nv), .int (nI nl), .int (nI nc), .int (nI wc), .int (nI ac), .int fo, .int bl, .int lv, .int (nI vt)])), (h1, .inr (0, [.ref w1, .int (nI U)])), (w1, .inl (cL, 1024, .inr (.inl f)))] sz tI)) (va_Qi (fun (r : Int32) (u : (Nat → Int64) × Nat) => nv < 16 ∧ r = nI nv ∧ ((nv < 6 ∧ u = (f, U)) ∨ (6 ≤ nv ∧ u.2 = 2 * U ∧ ∀ k, k < U → u.1 k = f k ∧ u.1 (U + k) = f k))) (fun u t => wB dC dI [(cL, .long)] (va_A [(h0, .inr (1, [.ref h1, .ref h2, .ref aw, .ref aa, .int (nI nv), .int (nI nl), .int (nI nc), .int (nI wc), .int (nI ac), .int fo, .int bl, .int lv, .int (nI vt)])), (h1, .inr (0, [.ref w1, .int (nI U)])), (w1, .inl (cL, 1024, .inr (.inl f)))] sz) [(h0, .inr (1, [.ref h1, .ref h2, .ref aw, .ref aa, .int (nI (nv + 1)), .int (nI nl), .int (nI nc), .int (nI wc), .int (nI ac), .int fo, .int bl, .int lv, .int (nI vt)])), (h1, .inr (0, [.ref w1, .int (nI u.2)])), (w1, .inl (cL, 1024, .inr (.inl u.1)))] t) (va_A [(h0, .inr (1, [.ref h1, .ref h2, .ref aw, .ref aa, .int (nI nv), .int (nI nl), .int (nI nc), .int (nI wc), .int (nI ac), .int fo, .int bl, .int lv, .int (nI vt)])), (h1, .inr (0, [.ref w1, .int (nI U)])), (w1, .inl (cL, 1024, .inr (.inl f)))] sz)) (wXC dC dI [(cL, .long)] [(h0, .inr (1, [.ref h1, .ref h2, .ref aw, .ref aa, .int (nI nv), .int (nI nl), .int (nI nc), .int (nI wc), .int (nI ac), .int fo, .int bl, .int lv, .int (nI vt)])), (h1, .inr (0, [.ref w1, .int (nI U)])), (w1, .inl (cL, 1024, .inr (.inl f)))] sz (fun E => E = xS ∧ 16 ≤ nv)) 1 6 (va_A [(h0, .inr (1, [.ref h1, .ref h2, .ref aw, .ref aa, .int (nI nv), .int (nI nl), .int (nI nc), .int (nI wc), .int (nI ac), .int fo, .int bl, .int lv, .int (nI vt)])), (h1, .inr (0, [.ref w1, .int (nI U)])), (w1, .inl (cL, 1024, .inr (.inl f)))] sz) := by
  unfold wXC
  refine vx_ofW (cc := cS_variable) (maxL := 2) (ret := (some .int)) (by decide) rfl ?_
  intro p e s m args below meth c s₁ B hml hnt hv
  obtain ⟨rfl, hsz, hP, hK, hD0, hZ, hX⟩ := hv
  have hx := B.exec
  have hb := B.bytes
  have hr := B.returns
  have hts : ∀ w ∈ GG, w.before ([.ref h0] : List Value).toArray s = true := fun w h => atoms_spec (ws := _ :: GG) B.pre w (List.mem_cons_of_mem _ h)
  have hown : s.vm.findClass RS = some m.cls := findClass_of_methodNamed B.named
  have hlocks := B.notSynchronized
  subst hsz
  have hD := hD0.self (sz := s.heap.size)
  generalize hAe : va_A [(h0, .inr (1, [.ref h1, .ref h2, .ref aw, .ref aa, .int (nI nv), .int (nI nl), .int (nI nc), .int (nI wc), .int (nI ac), .int fo, .int bl, .int lv, .int (nI vt)])), (h1, .inr (0, [.ref w1, .int (nI U)])), (w1, .inl (cL, 1024, .inr (.inl f)))] s.heap.size = A at hD hZ ⊢
  have hA : ∀ q : Nat, s.heap.size ≤ q → A q := fun q h => by rw [← hAe]; exact Or.inr h
  have hS : va_S A s.heap s.heap [] := va_S.rf
  have hl := lv_entry ([.ref h0]) (n := 2) (Nat.le_of_ble_eq_true rfl)
  rw [lg_entry_eq]
  generalize (lg_sl ([.ref h0]) ++ List.replicate (2 - (lg_sl ([.ref h0])).length) Slot.unset).toArray = ls at hl ⊢
  have hl : lv_has ls 2 [(0, .ref h0)] := hl
  have SF : CallFix p m c cS_variable 2 s ([.ref h0] : List Value).toArray GG RS := ⟨hx, hb, hml, hown, hts⟩
  skip
  have hP : va_P (dC, dI) vwCl [(h0, .inr (1, [.ref h1, .ref h2, .ref aw, .ref aa, .int (nI nv), .int (nI nl), .int (nI nc), .int (nI wc), .int (nI ac), .int fo, .int bl, .int lv, .int (nI vt)])), (h1, .inr (0, [.ref w1, .int (nI U)])), (w1, .inl (cL, 1024, .inr (.inl f)))] s.heap := hP
  refine lv_aload_n hx hb dS_variable_0 rfl (lv_at hl 0 rfl) ?_
  refine va_get (D := (dC, dI)) (ci := 1) (v := .int (nI nv)) (C := RS) (T := TS) (N := 13) hx hb hts lyS hown hK hP 0 rfl rfl 4 (by decide) (hts _ fl_S_29) (fun _ h9 => h9) rfl dS_variable_1 ?_
  refine lv_bipush (v := 16) hx hb dS_variable_4 (by decide) ?_
  refine lv_icmp_lt (tgt := 19) hx hb dS_variable_6 (by decide) (fun c1 => ?_) (fun c1 => ?_)
  · have c1 : nv < 16 := (nI_ltI (a := nv) (b := 16) (by omega) (by omega)).mp c1
    refine lv_aload_n hx hb dS_variable_19 rfl (lv_at hl 0 rfl) ?_
    refine va_get (D := (dC, dI)) (ci := 1) (v := .int (nI nv)) (C := RS) (T := TS) (N := 13) hx hb hts lyS hown hK hP 0 rfl rfl 4 (by decide) (hts _ fl_S_29) (fun _ h9 => h9) rfl dS_variable_20 ?_
    refine lv_istore_n (lv' := [(1, .int (nI nv)), (0, .ref h0)]) hx hb dS_variable_23 rfl hl (by decide) rfl (fun ls hl => ?_)
    refine lv_aload_n hx hb dS_variable_24 rfl (lv_at hl 1 rfl) ?_
    refine va_get (D := (dC, dI)) (ci := 1) (v := .ref h1) (C := RS) (T := TS) (N := 13) hx hb hts lyS hown hK hP 0 rfl rfl 0 (by decide) (hts _ fl_S_10) (fun _ h9 => h9) rfl dS_variable_25 ?_
    refine lv_iload_n hx hb dS_variable_28 rfl (lv_at hl 0 rfl) ?_
    have hFc := va_free (wc := [(h1, .inr (0, [.ref w1, .int (nI U)])), (w1, .inl (cL, 1024, .inr (.inl f)))]) hD hS hA [1, 2] rfl
    refine wc_v (wc_V (As := [.int (nI nv)]) (rest := []) (n := 1) SF (k_R_addVariable l dC dI tI _ h1 w1 cL f U hU nv (by omega) h22) ml_S_40 im_R_addVariable se_R_addVariable in_R co_R_addVariable (by decide +kernel) rfl rfl rfl ⟨Nat.le_of_ble_eq_true rfl, Nat.le_of_ble_eq_true rfl⟩ (va_recv (hK.sub (tys' := []) [] rfl) (hP.sub (ws' := [(h1, .inr (0, [.ref w1, .int (nI U)])), (w1, .inl (cL, 1024, .inr (.inl f)))]) [1, 2] rfl) (ci := 0) (q0 := 0) rfl rfl) (hP.sub [1, 2] rfl) (hD.sub [1, 2] (by decide) rfl) (hK.sub [0] rfl) hZ hX hS hFc rfl hl.1 (Nat.le_of_ble_eq_true rfl) dS_variable_29 ⟨Nat.le_of_ble_eq_true rfl, Nat.le_of_ble_eq_true rfl⟩) hP hD hS hFc [1, 2] [0] (wr := [(h0, .inr (1, [.ref h1, .ref h2, .ref aw, .ref aa, .int (nI nv), .int (nI nl), .int (nI nc), .int (nI wc), .int (nI ac), .int fo, .int bl, .int lv, .int (nI vt)]))]) rfl rfl rfl (by decide) (fun uu H locs hw hP hD hS => ?_)
    have hP : va_P (dC, dI) vwCl [(h0, .inr (1, [.ref h1, .ref h2, .ref aw, .ref aa, .int (nI nv), .int (nI nl), .int (nI nc), .int (nI wc), .int (nI ac), .int fo, .int bl, .int lv, .int (nI vt)])), (h1, .inr (0, [.ref w1, .int (nI uu.2)])), (w1, .inl (cL, 1024, .inr (.inl uu.1)))] H := hP.sub [0, 1, 2] rfl
    have hD : va_D A [(h0, .inr (1, [.ref h1, .ref h2, .ref aw, .ref aa, .int (nI nv), .int (nI nl), .int (nI nc), .int (nI wc), .int (nI ac), .int fo, .int bl, .int lv, .int (nI vt)])), (h1, .inr (0, [.ref w1, .int (nI uu.2)])), (w1, .inl (cL, 1024, .inr (.inl uu.1)))] := hD.sub [0, 1, 2] (by decide) rfl
    refine lv_aload_n hx hb dS_variable_32 rfl (lv_at hl 1 rfl) ?_
    refine lv_dup hx hb dS_variable_33 rfl ?_
    refine va_get (D := (dC, dI)) (ci := 1) (v := .int (nI nv)) (C := RS) (T := TS) (N := 13) hx hb hts lyS hown hK hP 0 rfl rfl 4 (by decide) (hts _ fl_S_29) (fun _ h9 => h9) rfl dS_variable_34 ?_
    refine lv_iconst (v := 1) hx hb dS_variable_37 (by decide) ?_
    refine lv_iadd hx hb dS_variable_38 ?_
    refine ls_topi (y := nI (nv + 1)) (nI_1 _) ?_
    refine va_put (D := (dC, dI)) (ci := 1) (v := .int (nI (nv + 1))) (ty := .int) (C := RS) (T := TS) (N := 13) hx hb hts lyS tyS tyS_ok nmS hown hK hP hD hS 0 rfl rfl 4 (by decide) (hts _ fl_S_29) (fun _ h9 => h9) rfl (by decide +kernel) rfl rfl (Nat.le_of_ble_eq_true rfl) dS_variable_39 (fun H locs hP hD hS => ?_)
    have hP : va_P (dC, dI) vwCl [(h0, .inr (1, [.ref h1, .ref h2, .ref aw, .ref aa, .int (nI (nv + 1)), .int (nI nl), .int (nI nc), .int (nI wc), .int (nI ac), .int fo, .int bl, .int lv, .int (nI vt)])), (h1, .inr (0, [.ref w1, .int (nI uu.2)])), (w1, .inl (cL, 1024, .inr (.inl uu.1)))] H := hP
    have hD : va_D A [(h0, .inr (1, [.ref h1, .ref h2, .ref aw, .ref aa, .int (nI (nv + 1)), .int (nI nl), .int (nI nc), .int (nI wc), .int (nI ac), .int fo, .int bl, .int lv, .int (nI vt)])), (h1, .inr (0, [.ref w1, .int (nI uu.2)])), (w1, .inl (cL, 1024, .inr (.inl uu.1)))] := hD
    refine lv_iload_n hx hb dS_variable_42 rfl (lv_at hl 0 rfl) ?_
    refine W.widen (k := 1) (n := 6) (Nat.le_of_ble_eq_true rfl) (Nat.le_of_ble_eq_true rfl) ?_
    exact vx_ret (W.iret (v := nI nv) hx hb hr (fun t ht hW => ⟨⟨nI nv, (uu.1, uu.2), rfl, ⟨c1, rfl, hw⟩, by rw [ht]; exact hP, va_K.moved hW.alike hK, hD⟩, hS.F ht⟩) hS.2.2 dS_variable_43)
  · have c1 : 16 ≤ nv := Nat.le_of_not_lt (fun q => c1 ((nI_ltI (a := nv) (b := 16) (by omega) (by omega)).mpr q))
    obtain ⟨sa, hstr⟩ := hX.2.2.2.2 (35, "there are 16 variables") (by decide)
    exact vx_throwS (mc := 1) (ms := 6) hx hb hst (own := RS) (cls := xS) (names := xNs) (A := A) hown (by decide) (by decide) (hts _ cl_S_33) (hts _ in_IllegalStateException) hstr (xt_S_hat hts hX) xt_S_ot hZ.2.2.1 hZ.2.2.2 hS (by rw [hml]; exact hl.1) dS_variable_9 dS_variable_12 dS_variable_13 dS_variable_15 dS_variable_18 (fun x hx => (hnt x hx).elim) (Nat.le_of_ble_eq_true rfl) (Nat.le_of_ble_eq_true rfl) (Nat.le_of_ble_eq_true rfl) (Nat.le_of_ble_eq_true rfl) hlocks (fun t hvm hsz hk => ⟨(), trivial, ⟨⟨rfl, c1⟩, (wx_end hP hK hD hS hvm hsz hk).1⟩, (wx_end hP hK hD hS hvm hsz hk).2⟩) hS.2.2 (Nat.le_of_ble_eq_true rfl) (Nat.le_of_ble_eq_true rfl)
set_option maxHeartbeats 4000000 in
set_option maxRecDepth 100000 in
theorem k_S_literal (l : Launch) (hst : l.stackTraces = false) (dC : Nat → ClassId) (dI : Nat → Nat → Nat) (tI sz : Nat) (h0 h1 h2 aw aa : Nat) (cI : ClassId) (wf : Nat → Int32) (nv nl nc wc ac vt : Nat) (fo bl lv : Int32) (x : Int32) (hnv : nv ≤ 16) (hwc : wc ≤ 40) (hnl : nl ≤ 4000) : vx_Met l yS_literal (Cond.code yS_literal cS_literal 2 (some .int) :: GG) (lvr 7 2 12) (va_Pc [.ref h0, .int x] (wPre dC dI [(cI, .int)] [(h0, .inr (1, [.ref h1, .ref h2, .ref aw, .ref aa, .int (nI nv), .int (nI nl), .int (nI nc), .int (nI wc), .int (nI ac), .int fo, .int bl, .int lv, .int (nI vt)])), (aw, .inl (cI, 40, .inl wf))] sz tI)) (va_Qi (fun (r : Int32) (u : Unit) => (∃ L, L < 2 * nv ∧ x = nI L) ∧ wc < 40 ∧ nl < 4000 ∧ r = nI (wc + 1)) (fun u t => wB dC dI [(cI, .int)] (va_A [(h0, .inr (1, [.ref h1, .ref h2, .ref aw, .ref aa, .int (nI nv), .int (nI nl), .int (nI nc), .int (nI wc), .int (nI ac), .int fo, .int bl, .int lv, .int (nI vt)])), (aw, .inl (cI, 40, .inl wf))] sz) [(h0, .inr (1, [.ref h1, .ref h2, .ref aw, .ref aa, .int (nI nv), .int (nI (nl + 1)), .int (nI nc), .int (nI (wc + 1)), .int (nI ac), .int fo, .int bl, .int lv, .int (nI vt)])), (aw, .inl (cI, 40, .inl (upd wf wc x)))] t) (va_A [(h0, .inr (1, [.ref h1, .ref h2, .ref aw, .ref aa, .int (nI nv), .int (nI nl), .int (nI nc), .int (nI wc), .int (nI ac), .int fo, .int bl, .int lv, .int (nI vt)])), (aw, .inl (cI, 40, .inl wf))] sz)) (wXC dC dI [(cI, .int)] [(h0, .inr (1, [.ref h1, .ref h2, .ref aw, .ref aa, .int (nI nv), .int (nI nl), .int (nI nc), .int (nI wc), .int (nI ac), .int fo, .int bl, .int lv, .int (nI vt)])), (aw, .inl (cI, 40, .inl wf))] sz (fun E => (E = xA ∧ ¬ (∃ L, L < 2 * nv ∧ x = nI L)) ∨ (E = xS ∧ (∃ L, L < 2 * nv ∧ x = nI L) ∧ (40 ≤ wc ∨ 4000 ≤ nl)))) 2 12 (va_A [(h0, .inr (1, [.ref h1, .ref h2, .ref aw, .ref aa, .int (nI nv), .int (nI nl), .int (nI nc), .int (nI wc), .int (nI ac), .int fo, .int bl, .int lv, .int (nI vt)])), (aw, .inl (cI, 40, .inl wf))] sz) := by
  unfold wXC
  refine vx_ofW (cc := cS_literal) (maxL := 2) (ret := (some .int)) (by decide) rfl ?_
  intro p e s m args below meth c s₁ B hml hnt hv
  obtain ⟨rfl, hsz, hP, hK, hD0, hZ, hX⟩ := hv
  have hx := B.exec
  have hb := B.bytes
  have hr := B.returns
  have hts : ∀ w ∈ GG, w.before ([.ref h0, .int x] : List Value).toArray s = true := fun w h => atoms_spec (ws := _ :: GG) B.pre w (List.mem_cons_of_mem _ h)
  have hown : s.vm.findClass RS = some m.cls := findClass_of_methodNamed B.named
  have hlocks := B.notSynchronized
  subst hsz
  have hD := hD0.self (sz := s.heap.size)
  generalize hAe : va_A [(h0, .inr (1, [.ref h1, .ref h2, .ref aw, .ref aa, .int (nI nv), .int (nI nl), .int (nI nc), .int (nI wc), .int (nI ac), .int fo, .int bl, .int lv, .int (nI vt)])), (aw, .inl (cI, 40, .inl wf))] s.heap.size = A at hD hZ ⊢
  have hA : ∀ q : Nat, s.heap.size ≤ q → A q := fun q h => by rw [← hAe]; exact Or.inr h
  have hS : va_S A s.heap s.heap [] := va_S.rf
  have hl := lv_entry ([.ref h0, .int x]) (n := 2) (Nat.le_of_ble_eq_true rfl)
  rw [lg_entry_eq]
  generalize (lg_sl ([.ref h0, .int x]) ++ List.replicate (2 - (lg_sl ([.ref h0, .int x])).length) Slot.unset).toArray = ls at hl ⊢
  have hl : lv_has ls 2 [(0, .ref h0), (1, .int x)] := hl
  have SF : CallFix p m c cS_literal 2 s ([.ref h0, .int x] : List Value).toArray GG RS := ⟨hx, hb, hml, hown, hts⟩
  skip
  have hP : va_P (dC, dI) vwCl [(h0, .inr (1, [.ref h1, .ref h2, .ref aw, .ref aa, .int (nI nv), .int (nI nl), .int (nI nc), .int (nI wc), .int (nI ac), .int fo, .int bl, .int lv, .int (nI vt)])), (aw, .inl (cI, 40, .inl wf))] s.heap := hP
  refine lv_aload_n hx hb dS_literal_0 rfl (lv_at hl 0 rfl) ?_
  refine lv_iload_n hx hb dS_literal_1 rfl (lv_at hl 1 rfl) ?_
  have hFc := va_free (wc := [(h0, .inr (1, [.ref h1, .ref h2, .ref aw, .ref aa, .int (nI nv), .int (nI nl), .int (nI nc), .int (nI wc), .int (nI ac), .int fo, .int bl, .int lv, .int (nI vt)]))]) hD hS hA [0] rfl
  refine wcx_v (wcx_V (As := [.int x]) (rest := []) (n := 1) SF (k_S_refuse l hst dC dI tI _ h0 h1 h2 aw aa nv nl nc wc ac vt fo bl lv x hnv) ml_S_44 im_S_refuseUnknownLiteral se_S_refuseUnknownLiteral in_S co_S_refuseUnknownLiteral (by decide +kernel) rfl rfl rfl ⟨Nat.le_of_ble_eq_true rfl, Nat.le_of_ble_eq_true rfl⟩ (va_recv (hK.sub (tys' := []) [] rfl) (hP.sub (ws' := [(h0, .inr (1, [.ref h1, .ref h2, .ref aw, .ref aa, .int (nI nv), .int (nI nl), .int (nI nc), .int (nI wc), .int (nI ac), .int fo, .int bl, .int lv, .int (nI vt)]))]) [0] rfl) (ci := 1) (q0 := 0) rfl rfl) (hP.sub [0] rfl) (hD.sub [0] (by decide) rfl) (hK.sub [] rfl) hZ hX hS hFc rfl hl.1 (Nat.le_of_ble_eq_true rfl) dS_literal_2 ⟨Nat.le_of_ble_eq_true rfl, Nat.le_of_ble_eq_true rfl⟩) hP hD hS hFc [0] [1] (wr := [(aw, .inl (cI, 40, .inl wf))]) rfl rfl rfl (by decide) (fun E ce q9 H locs hE hP hD hS h7 h8 h9 => ?_) (fun uu H locs hlit hP hD hS => ?_)
  · have hP : va_P (dC, dI) vwCl [(h0, .inr (1, [.ref h1, .ref h2, .ref aw, .ref aa, .int (nI nv), .int (nI nl), .int (nI nc), .int (nI wc), .int (nI ac), .int fo, .int bl, .int lv, .int (nI vt)])), (aw, .inl (cI, 40, .inl wf))] H := hP.sub [1, 0] rfl
    have hD : va_D A [(h0, .inr (1, [.ref h1, .ref h2, .ref aw, .ref aa, .int (nI nv), .int (nI nl), .int (nI nc), .int (nI wc), .int (nI ac), .int fo, .int bl, .int lv, .int (nI vt)])), (aw, .inl (cI, 40, .inl wf))] := hD.sub [1, 0] (by decide) rfl
    exact vx_out (fun x hx => (hnt x hx).elim) hlocks h7 h8 h9 (fun t ht hvm => ⟨(), trivial, ⟨Or.inl hE, by rw [ht]; exact hP, va_K.moved hvm hK, hD⟩, hS.F ht⟩) hS.2.2 (Nat.le_of_ble_eq_true rfl) (Nat.le_of_ble_eq_true rfl)
  · have hP : va_P (dC, dI) vwCl [(h0, .inr (1, [.ref h1, .ref h2, .ref aw, .ref aa, .int (nI nv), .int (nI nl), .int (nI nc), .int (nI wc), .int (nI ac), .int fo, .int bl, .int lv, .int (nI vt)])), (aw, .inl (cI, 40, .inl wf))] H := hP.sub [1, 0] rfl
    have hD : va_D A [(h0, .inr (1, [.ref h1, .ref h2, .ref aw, .ref aa, .int (nI nv), .int (nI nl), .int (nI nc), .int (nI wc), .int (nI ac), .int fo, .int bl, .int lv, .int (nI vt)])), (aw, .inl (cI, 40, .inl wf))] := hD.sub [1, 0] (by decide) rfl
    refine lv_aload_n hx hb dS_literal_5 rfl (lv_at hl 0 rfl) ?_
    refine va_get (D := (dC, dI)) (ci := 1) (v := .int (nI wc)) (C := RS) (T := TS) (N := 13) hx hb hts lyS hown hK hP 0 rfl rfl 7 (by decide) (hts _ fl_S_47) (fun _ h9 => h9) rfl dS_literal_6 ?_
    refine lv_aload_n hx hb dS_literal_9 rfl (lv_at hl 0 rfl) ?_
    refine va_get (D := (dC, dI)) (ci := 1) (v := .ref aw) (C := RS) (T := TS) (N := 13) hx hb hts lyS hown hK hP 0 rfl rfl 2 (by decide) (hts _ fl_S_19) (fun _ h9 => h9) rfl dS_literal_10 ?_
    refine va_alen (v := 40) hx hb hK hP 1 0 rfl rfl rfl dS_literal_13 ?_
    refine lv_icmp_lt (tgt := 27) hx hb dS_literal_14 (by decide) (fun c1 => ?_) (fun c1 => ?_)
    · have c1 : wc < 40 := (nI_ltI (a := wc) (b := 40) (by omega) (by omega)).mp c1
      refine lv_aload_n hx hb dS_literal_27 rfl (lv_at hl 0 rfl) ?_
      refine va_get (D := (dC, dI)) (ci := 1) (v := .int (nI nl)) (C := RS) (T := TS) (N := 13) hx hb hts lyS hown hK hP 0 rfl rfl 5 (by decide) (hts _ fl_S_52) (fun _ h9 => h9) rfl dS_literal_28 ?_
      refine lv_sipush (v := 4000) hx hb dS_literal_31 (by decide) ?_
      refine lv_icmp_lt (tgt := 47) hx hb dS_literal_34 (by decide) (fun c2 => ?_) (fun c2 => ?_)
      · have c2 : nl < 4000 := (nI_ltI (a := nl) (b := 4000) (by omega) (by omega)).mp c2
        refine lv_aload_n hx hb dS_literal_47 rfl (lv_at hl 0 rfl) ?_
        refine va_get (D := (dC, dI)) (ci := 1) (v := .ref aw) (C := RS) (T := TS) (N := 13) hx hb hts lyS hown hK hP 0 rfl rfl 2 (by decide) (hts _ fl_S_19) (fun _ h9 => h9) rfl dS_literal_48 ?_
        refine lv_aload_n hx hb dS_literal_51 rfl (lv_at hl 0 rfl) ?_
        refine va_get (D := (dC, dI)) (ci := 1) (v := .int (nI wc)) (C := RS) (T := TS) (N := 13) hx hb hts lyS hown hK hP 0 rfl rfl 7 (by decide) (hts _ fl_S_47) (fun _ h9 => h9) rfl dS_literal_52 ?_
        refine lv_iload_n hx hb dS_literal_55 rfl (lv_at hl 1 rfl) ?_
        refine va_iast hx hb hK hP hD hS 1 0 rfl rfl (vp_in_nI (by omega) (by decide)) dS_literal_56 (fun H locs hP hD hS => ?_)
        rw [show upd wf (nI wc).toNatClampNeg x = upd wf wc x from by rw [nI_clamp (by omega)]] at hP hD
        have hP : va_P (dC, dI) vwCl [(h0, .inr (1, [.ref h1, .ref h2, .ref aw, .ref aa, .int (nI nv), .int (nI nl), .int (nI nc), .int (nI wc), .int (nI ac), .int fo, .int bl, .int lv, .int (nI vt)])), (aw, .inl (cI, 40, .inl (upd wf wc x)))] H := hP
        have hD : va_D A [(h0, .inr (1, [.ref h1, .ref h2, .ref aw, .ref aa, .int (nI nv), .int (nI nl), .int (nI nc), .int (nI wc), .int (nI ac), .int fo, .int bl, .int lv, .int (nI vt)])), (aw, .inl (cI, 40, .inl (upd wf wc x)))] := hD
        refine lv_aload_n hx hb dS_literal_57 rfl (lv_at hl 0 rfl) ?_
        refine lv_dup hx hb dS_literal_58 rfl ?_
        refine va_get (D := (dC, dI)) (ci := 1) (v := .int (nI wc)) (C := RS) (T := TS) (N := 13) hx hb hts lyS hown hK hP 0 rfl rfl 7 (by decide) (hts _ fl_S_47) (fun _ h9 => h9) rfl dS_literal_59 ?_
        refine lv_iconst (v := 1) hx hb dS_literal_62 (by decide) ?_
        refine lv_iadd hx hb dS_literal_63 ?_
        refine ls_topi (y := nI (wc + 1)) (nI_1 _) ?_
        refine va_put (D := (dC, dI)) (ci := 1) (v := .int (nI (wc + 1))) (ty := .int) (C := RS) (T := TS) (N := 13) hx hb hts lyS tyS tyS_ok nmS hown hK hP hD hS 0 rfl rfl 7 (by decide) (hts _ fl_S_47) (fun _ h9 => h9) rfl (by decide +kernel) rfl rfl (Nat.le_of_ble_eq_true rfl) dS_literal_64 (fun H locs hP hD hS => ?_)
        have hP : va_P (dC, dI) vwCl [(h0, .inr (1, [.ref h1, .ref h2, .ref aw, .ref aa, .int (nI nv), .int (nI nl), .int (nI nc), .int (nI (wc + 1)), .int (nI ac), .int fo, .int bl, .int lv, .int (nI vt)])), (aw, .inl (cI, 40, .inl (upd wf wc x)))] H := hP
        have hD : va_D A [(h0, .inr (1, [.ref h1, .ref h2, .ref aw, .ref aa, .int (nI nv), .int (nI nl), .int (nI nc), .int (nI (wc + 1)), .int (nI ac), .int fo, .int bl, .int lv, .int (nI vt)])), (aw, .inl (cI, 40, .inl (upd wf wc x)))] := hD
        refine lv_aload_n hx hb dS_literal_67 rfl (lv_at hl 0 rfl) ?_
        refine lv_dup hx hb dS_literal_68 rfl ?_
        refine va_get (D := (dC, dI)) (ci := 1) (v := .int (nI nl)) (C := RS) (T := TS) (N := 13) hx hb hts lyS hown hK hP 0 rfl rfl 5 (by decide) (hts _ fl_S_52) (fun _ h9 => h9) rfl dS_literal_69 ?_
        refine lv_iconst (v := 1) hx hb dS_literal_72 (by decide) ?_
        refine lv_iadd hx hb dS_literal_73 ?_
        refine ls_topi (y := nI (nl + 1)) (nI_1 _) ?_
        refine va_put (D := (dC, dI)) (ci := 1) (v := .int (nI (nl + 1))) (ty := .int) (C := RS) (T := TS) (N := 13) hx hb hts lyS tyS tyS_ok nmS hown hK hP hD hS 0 rfl rfl 5 (by decide) (hts _ fl_S_52) (fun _ h9 => h9) rfl (by decide +kernel) rfl rfl (Nat.le_of_ble_eq_true rfl) dS_literal_74 (fun H locs hP hD hS => ?_)
        have hP : va_P (dC, dI) vwCl [(h0, .inr (1, [.ref h1, .ref h2, .ref aw, .ref aa, .int (nI nv), .int (nI (nl + 1)), .int (nI nc), .int (nI (wc + 1)), .int (nI ac), .int fo, .int bl, .int lv, .int (nI vt)])), (aw, .inl (cI, 40, .inl (upd wf wc x)))] H := hP
        have hD : va_D A [(h0, .inr (1, [.ref h1, .ref h2, .ref aw, .ref aa, .int (nI nv), .int (nI (nl + 1)), .int (nI nc), .int (nI (wc + 1)), .int (nI ac), .int fo, .int bl, .int lv, .int (nI vt)])), (aw, .inl (cI, 40, .inl (upd wf wc x)))] := hD
        refine lv_aload_n hx hb dS_literal_77 rfl (lv_at hl 0 rfl) ?_
        refine va_get (D := (dC, dI)) (ci := 1) (v := .int (nI (wc + 1))) (C := RS) (T := TS) (N := 13) hx hb hts lyS hown hK hP 0 rfl rfl 7 (by decide) (hts _ fl_S_47) (fun _ h9 => h9) rfl dS_literal_78 ?_
        refine W.widen (k := 2) (n := 12) (Nat.le_of_ble_eq_true rfl) (Nat.le_of_ble_eq_true rfl) ?_
        exact vx_ret (W.iret (v := nI (wc + 1)) hx hb hr (fun t ht hW => ⟨⟨nI (wc + 1), (), rfl, ⟨hlit, c1, c2, rfl⟩, by rw [ht]; exact hP, va_K.moved hW.alike hK, hD⟩, hS.F ht⟩) hS.2.2 dS_literal_81)
      · have c2 : 4000 ≤ nl := Nat.le_of_not_lt (fun q => c2 ((nI_ltI (a := nl) (b := 4000) (by omega) (by omega)).mpr q))
        obtain ⟨sa, hstr⟩ := hX.2.2.2.2 (55, "all clauses have 4000 literals") (by decide)
        exact vx_throwS (mc := 2) (ms := 12) hx hb hst (own := RS) (cls := xS) (names := xNs) (A := A) hown (by decide) (by decide) (hts _ cl_S_33) (hts _ in_IllegalStateException) hstr (xt_S_hat hts hX) xt_S_ot hZ.2.2.1 hZ.2.2.2 hS (by rw [hml]; exact hl.1) dS_literal_37 dS_literal_40 dS_literal_41 dS_literal_43 dS_literal_46 (fun x hx => (hnt x hx).elim) (Nat.le_of_ble_eq_true rfl) (Nat.le_of_ble_eq_true rfl) (Nat.le_of_ble_eq_true rfl) (Nat.le_of_ble_eq_true rfl) hlocks (fun t hvm hsz hk => ⟨(), trivial, ⟨Or.inr ⟨rfl, hlit, Or.inr c2⟩, (wx_end hP hK hD hS hvm hsz hk).1⟩, (wx_end hP hK hD hS hvm hsz hk).2⟩) hS.2.2 (Nat.le_of_ble_eq_true rfl) (Nat.le_of_ble_eq_true rfl)
    · have c1 : 40 ≤ wc := Nat.le_of_not_lt (fun q => c1 ((nI_ltI (a := wc) (b := 40) (by omega) (by omega)).mpr q))
      obtain ⟨sa, hstr⟩ := hX.2.2.2.2 (50, "the clause has 40 literals") (by decide)
      exact vx_throwS (mc := 2) (ms := 12) hx hb hst (own := RS) (cls := xS) (names := xNs) (A := A) hown (by decide) (by decide) (hts _ cl_S_33) (hts _ in_IllegalStateException) hstr (xt_S_hat hts hX) xt_S_ot hZ.2.2.1 hZ.2.2.2 hS (by rw [hml]; exact hl.1) dS_literal_17 dS_literal_20 dS_literal_21 dS_literal_23 dS_literal_26 (fun x hx => (hnt x hx).elim) (Nat.le_of_ble_eq_true rfl) (Nat.le_of_ble_eq_true rfl) (Nat.le_of_ble_eq_true rfl) (Nat.le_of_ble_eq_true rfl) hlocks (fun t hvm hsz hk => ⟨(), trivial, ⟨Or.inr ⟨rfl, hlit, Or.inl c1⟩, (wx_end hP hK hD hS hvm hsz hk).1⟩, (wx_end hP hK hD hS hvm hsz hk).2⟩) hS.2.2 (Nat.le_of_ble_eq_true rfl) (Nat.le_of_ble_eq_true rfl)
set_option maxHeartbeats 4000000 in
set_option maxRecDepth 100000 in
theorem k_S_close (l : Launch) (hst : l.stackTraces = false) (dC : Nat → ClassId) (dI : Nat → Nat → Nat) (tI sz : Nat) (h0 h1 w1 h2 aw aa : Nat) (cL cI : ClassId) (f : Nat → Int64) (wf : Nat → Int32) (cn : Nat → Nat) (U : Nat) (hU : U ≤ 1024) (nv nl nc wc ac vt : Nat) (fo bl lv : Int32) (hnc : nc ≤ 500) (hwc : wc ≤ 40) (hcn : ∀ j, j < wc → wf j = nI (cn j) ∧ cn j < 32) : vx_Met l yS_close (Cond.code yS_close cS_close 1 (some .int) :: GG) (lvr 6 1 6) (va_Pc [.ref h0] (wPre dC dI [(cL, .long), (cI, .int)] [(h0, .inr (1, [.ref h1, .ref h2, .ref aw, .ref aa, .int (nI nv), .int (nI nl), .int (nI nc), .int (nI wc), .int (nI ac), .int fo, .int bl, .int lv, .int (nI vt)])), (h1, .inr (0, [.ref w1, .int (nI U)])), (w1, .inl (cL, 1024, .inr (.inl f))), (aw, .inl (cI, 40, .inl wf))] sz tI)) (va_Qi (fun (r : Int32) (u : Nat → Int64) => nc < 500 ∧ r = nI (nc + 1) ∧ ∀ k, k < U → u k = f k &&& ls_or cn k wc) (fun u t => wB dC dI [(cL, .long), (cI, .int)] (va_A [(h0, .inr (1, [.ref h1, .ref h2, .ref aw, .ref aa, .int (nI nv), .int (nI nl), .int (nI nc), .int (nI wc), .int (nI ac), .int fo, .int bl, .int lv, .int (nI vt)])), (h1, .inr (0, [.ref w1, .int (nI U)])), (w1, .inl (cL, 1024, .inr (.inl f))), (aw, .inl (cI, 40, .inl wf))] sz) [(h0, .inr (1, [.ref h1, .ref h2, .ref aw, .ref aa, .int (nI nv), .int (nI nl), .int (nI (nc + 1)), .int 0, .int (nI ac), .int fo, .int bl, .int lv, .int (nI vt)])), (h1, .inr (0, [.ref w1, .int (nI U)])), (w1, .inl (cL, 1024, .inr (.inl u))), (aw, .inl (cI, 40, .inl wf))] t) (va_A [(h0, .inr (1, [.ref h1, .ref h2, .ref aw, .ref aa, .int (nI nv), .int (nI nl), .int (nI nc), .int (nI wc), .int (nI ac), .int fo, .int bl, .int lv, .int (nI vt)])), (h1, .inr (0, [.ref w1, .int (nI U)])), (w1, .inl (cL, 1024, .inr (.inl f))), (aw, .inl (cI, 40, .inl wf))] sz)) (wXC dC dI [(cL, .long), (cI, .int)] [(h0, .inr (1, [.ref h1, .ref h2, .ref aw, .ref aa, .int (nI nv), .int (nI nl), .int (nI nc), .int (nI wc), .int (nI ac), .int fo, .int bl, .int lv, .int (nI vt)])), (h1, .inr (0, [.ref w1, .int (nI U)])), (w1, .inl (cL, 1024, .inr (.inl f))), (aw, .inl (cI, 40, .inl wf))] sz (fun E => E = xS ∧ 500 ≤ nc)) 1 6 (va_A [(h0, .inr (1, [.ref h1, .ref h2, .ref aw, .ref aa, .int (nI nv), .int (nI nl), .int (nI nc), .int (nI wc), .int (nI ac), .int fo, .int bl, .int lv, .int (nI vt)])), (h1, .inr (0, [.ref w1, .int (nI U)])), (w1, .inl (cL, 1024, .inr (.inl f))), (aw, .inl (cI, 40, .inl wf))] sz) := by
  unfold wXC
  refine vx_ofW (cc := cS_close) (maxL := 1) (ret := (some .int)) (by decide) rfl ?_
  intro p e s m args below meth c s₁ B hml hnt hv
  obtain ⟨rfl, hsz, hP, hK, hD0, hZ, hX⟩ := hv
  have hx := B.exec
  have hb := B.bytes
  have hr := B.returns
  have hts : ∀ w ∈ GG, w.before ([.ref h0] : List Value).toArray s = true := fun w h => atoms_spec (ws := _ :: GG) B.pre w (List.mem_cons_of_mem _ h)
  have hown : s.vm.findClass RS = some m.cls := findClass_of_methodNamed B.named
  have hlocks := B.notSynchronized
  subst hsz
  have hD := hD0.self (sz := s.heap.size)
  generalize hAe : va_A [(h0, .inr (1, [.ref h1, .ref h2, .ref aw, .ref aa, .int (nI nv), .int (nI nl), .int (nI nc), .int (nI wc), .int (nI ac), .int fo, .int bl, .int lv, .int (nI vt)])), (h1, .inr (0, [.ref w1, .int (nI U)])), (w1, .inl (cL, 1024, .inr (.inl f))), (aw, .inl (cI, 40, .inl wf))] s.heap.size = A at hD hZ ⊢
  have hA : ∀ q : Nat, s.heap.size ≤ q → A q := fun q h => by rw [← hAe]; exact Or.inr h
  have hS : va_S A s.heap s.heap [] := va_S.rf
  have hl := lv_entry ([.ref h0]) (n := 1) (Nat.le_of_ble_eq_true rfl)
  rw [lg_entry_eq]
  generalize (lg_sl ([.ref h0]) ++ List.replicate (1 - (lg_sl ([.ref h0])).length) Slot.unset).toArray = ls at hl ⊢
  have hl : lv_has ls 1 [(0, .ref h0)] := hl
  have SF : CallFix p m c cS_close 1 s ([.ref h0] : List Value).toArray GG RS := ⟨hx, hb, hml, hown, hts⟩
  skip
  have hP : va_P (dC, dI) vwCl [(h0, .inr (1, [.ref h1, .ref h2, .ref aw, .ref aa, .int (nI nv), .int (nI nl), .int (nI nc), .int (nI wc), .int (nI ac), .int fo, .int bl, .int lv, .int (nI vt)])), (h1, .inr (0, [.ref w1, .int (nI U)])), (w1, .inl (cL, 1024, .inr (.inl f))), (aw, .inl (cI, 40, .inl wf))] s.heap := hP
  refine lv_aload_n hx hb dS_close_0 rfl (lv_at hl 0 rfl) ?_
  refine va_get (D := (dC, dI)) (ci := 1) (v := .int (nI nc)) (C := RS) (T := TS) (N := 13) hx hb hts lyS hown hK hP 0 rfl rfl 6 (by decide) (hts _ fl_S_57) (fun _ h9 => h9) rfl dS_close_1 ?_
  refine lv_sipush (v := 500) hx hb dS_close_4 (by decide) ?_
  refine lv_icmp_lt (tgt := 20) hx hb dS_close_7 (by decide) (fun c1 => ?_) (fun c1 => ?_)
  · have c1 : nc < 500 := (nI_ltI (a := nc) (b := 500) (by omega) (by omega)).mp c1
    refine lv_aload_n hx hb dS_close_20 rfl (lv_at hl 0 rfl) ?_
    refine va_get (D := (dC, dI)) (ci := 1) (v := .ref h1) (C := RS) (T := TS) (N := 13) hx hb hts lyS hown hK hP 0 rfl rfl 0 (by decide) (hts _ fl_S_10) (fun _ h9 => h9) rfl dS_close_21 ?_
    refine lv_aload_n hx hb dS_close_24 rfl (lv_at hl 0 rfl) ?_
    refine va_get (D := (dC, dI)) (ci := 1) (v := .ref aw) (C := RS) (T := TS) (N := 13) hx hb hts lyS hown hK hP 0 rfl rfl 2 (by decide) (hts _ fl_S_19) (fun _ h9 => h9) rfl dS_close_25 ?_
    refine lv_aload_n hx hb dS_close_28 rfl (lv_at hl 0 rfl) ?_
    refine va_get (D := (dC, dI)) (ci := 1) (v := .int (nI wc)) (C := RS) (T := TS) (N := 13) hx hb hts lyS hown hK hP 0 rfl rfl 7 (by decide) (hts _ fl_S_47) (fun _ h9 => h9) rfl dS_close_29 ?_
    have hFc := va_free (wc := [(h1, .inr (0, [.ref w1, .int (nI U)])), (w1, .inl (cL, 1024, .inr (.inl f))), (aw, .inl (cI, 40, .inl wf))]) hD hS hA [1, 2, 3] rfl
    refine wc_v (wc_V (As := [.ref aw, .int (nI wc)]) (rest := []) (n := 2) SF (k_R_keepClause l dC dI tI _ h1 w1 cL f U hU aw cI wf cn wc hwc hcn) ml_S_62 im_R_keepClause se_R_keepClause in_R co_R_keepClause (by decide +kernel) rfl rfl rfl ⟨Nat.le_of_ble_eq_true rfl, Nat.le_of_ble_eq_true rfl⟩ (va_recv (hK.sub (tys' := []) [] rfl) (hP.sub (ws' := [(h1, .inr (0, [.ref w1, .int (nI U)])), (w1, .inl (cL, 1024, .inr (.inl f))), (aw, .inl (cI, 40, .inl wf))]) [1, 2, 3] rfl) (ci := 0) (q0 := 0) rfl rfl) (hP.sub [1, 2, 3] rfl) (hD.sub [1, 2, 3] (by decide) rfl) (hK.sub [0, 1] rfl) hZ hX hS hFc rfl hl.1 (Nat.le_of_ble_eq_true rfl) dS_close_32 ⟨Nat.le_of_ble_eq_true rfl, Nat.le_of_ble_eq_true rfl⟩) hP hD hS hFc [1, 2, 3] [0] (wr := [(h0, .inr (1, [.ref h1, .ref h2, .ref aw, .ref aa, .int (nI nv), .int (nI nl), .int (nI nc), .int (nI wc), .int (nI ac), .int fo, .int bl, .int lv, .int (nI vt)]))]) rfl rfl rfl (by decide) (fun uu H locs hw hP hD hS => ?_)
    have hP : va_P (dC, dI) vwCl [(h0, .inr (1, [.ref h1, .ref h2, .ref aw, .ref aa, .int (nI nv), .int (nI nl), .int (nI nc), .int (nI wc), .int (nI ac), .int fo, .int bl, .int lv, .int (nI vt)])), (h1, .inr (0, [.ref w1, .int (nI U)])), (w1, .inl (cL, 1024, .inr (.inl uu))), (aw, .inl (cI, 40, .inl wf))] H := hP.sub [0, 1, 2, 3] rfl
    have hD : va_D A [(h0, .inr (1, [.ref h1, .ref h2, .ref aw, .ref aa, .int (nI nv), .int (nI nl), .int (nI nc), .int (nI wc), .int (nI ac), .int fo, .int bl, .int lv, .int (nI vt)])), (h1, .inr (0, [.ref w1, .int (nI U)])), (w1, .inl (cL, 1024, .inr (.inl uu))), (aw, .inl (cI, 40, .inl wf))] := hD.sub [0, 1, 2, 3] (by decide) rfl
    refine lv_aload_n hx hb dS_close_35 rfl (lv_at hl 0 rfl) ?_
    refine lv_iconst (v := 0) hx hb dS_close_36 (by decide) ?_
    refine va_put (D := (dC, dI)) (ci := 1) (v := .int 0) (ty := .int) (C := RS) (T := TS) (N := 13) hx hb hts lyS tyS tyS_ok nmS hown hK hP hD hS 0 rfl rfl 7 (by decide) (hts _ fl_S_47) (fun _ h9 => h9) rfl (by decide +kernel) rfl rfl (Nat.le_of_ble_eq_true rfl) dS_close_37 (fun H locs hP hD hS => ?_)
    have hP : va_P (dC, dI) vwCl [(h0, .inr (1, [.ref h1, .ref h2, .ref aw, .ref aa, .int (nI nv), .int (nI nl), .int (nI nc), .int 0, .int (nI ac), .int fo, .int bl, .int lv, .int (nI vt)])), (h1, .inr (0, [.ref w1, .int (nI U)])), (w1, .inl (cL, 1024, .inr (.inl uu))), (aw, .inl (cI, 40, .inl wf))] H := hP
    have hD : va_D A [(h0, .inr (1, [.ref h1, .ref h2, .ref aw, .ref aa, .int (nI nv), .int (nI nl), .int (nI nc), .int 0, .int (nI ac), .int fo, .int bl, .int lv, .int (nI vt)])), (h1, .inr (0, [.ref w1, .int (nI U)])), (w1, .inl (cL, 1024, .inr (.inl uu))), (aw, .inl (cI, 40, .inl wf))] := hD
    refine lv_aload_n hx hb dS_close_40 rfl (lv_at hl 0 rfl) ?_
    refine lv_dup hx hb dS_close_41 rfl ?_
    refine va_get (D := (dC, dI)) (ci := 1) (v := .int (nI nc)) (C := RS) (T := TS) (N := 13) hx hb hts lyS hown hK hP 0 rfl rfl 6 (by decide) (hts _ fl_S_57) (fun _ h9 => h9) rfl dS_close_42 ?_
    refine lv_iconst (v := 1) hx hb dS_close_45 (by decide) ?_
    refine lv_iadd hx hb dS_close_46 ?_
    refine ls_topi (y := nI (nc + 1)) (nI_1 _) ?_
    refine va_put (D := (dC, dI)) (ci := 1) (v := .int (nI (nc + 1))) (ty := .int) (C := RS) (T := TS) (N := 13) hx hb hts lyS tyS tyS_ok nmS hown hK hP hD hS 0 rfl rfl 6 (by decide) (hts _ fl_S_57) (fun _ h9 => h9) rfl (by decide +kernel) rfl rfl (Nat.le_of_ble_eq_true rfl) dS_close_47 (fun H locs hP hD hS => ?_)
    have hP : va_P (dC, dI) vwCl [(h0, .inr (1, [.ref h1, .ref h2, .ref aw, .ref aa, .int (nI nv), .int (nI nl), .int (nI (nc + 1)), .int 0, .int (nI ac), .int fo, .int bl, .int lv, .int (nI vt)])), (h1, .inr (0, [.ref w1, .int (nI U)])), (w1, .inl (cL, 1024, .inr (.inl uu))), (aw, .inl (cI, 40, .inl wf))] H := hP
    have hD : va_D A [(h0, .inr (1, [.ref h1, .ref h2, .ref aw, .ref aa, .int (nI nv), .int (nI nl), .int (nI (nc + 1)), .int 0, .int (nI ac), .int fo, .int bl, .int lv, .int (nI vt)])), (h1, .inr (0, [.ref w1, .int (nI U)])), (w1, .inl (cL, 1024, .inr (.inl uu))), (aw, .inl (cI, 40, .inl wf))] := hD
    refine lv_aload_n hx hb dS_close_50 rfl (lv_at hl 0 rfl) ?_
    refine va_get (D := (dC, dI)) (ci := 1) (v := .int (nI (nc + 1))) (C := RS) (T := TS) (N := 13) hx hb hts lyS hown hK hP 0 rfl rfl 6 (by decide) (hts _ fl_S_57) (fun _ h9 => h9) rfl dS_close_51 ?_
    refine W.widen (k := 1) (n := 6) (Nat.le_of_ble_eq_true rfl) (Nat.le_of_ble_eq_true rfl) ?_
    exact vx_ret (W.iret (v := nI (nc + 1)) hx hb hr (fun t ht hW => ⟨⟨nI (nc + 1), uu, rfl, ⟨c1, rfl, hw⟩, by rw [ht]; exact hP, va_K.moved hW.alike hK, hD⟩, hS.F ht⟩) hS.2.2 dS_close_54)
  · have c1 : 500 ≤ nc := Nat.le_of_not_lt (fun q => c1 ((nI_ltI (a := nc) (b := 500) (by omega) (by omega)).mpr q))
    obtain ⟨sa, hstr⟩ := hX.2.2.2.2 (60, "there are 500 clauses") (by decide)
    exact vx_throwS (mc := 1) (ms := 6) hx hb hst (own := RS) (cls := xS) (names := xNs) (A := A) hown (by decide) (by decide) (hts _ cl_S_33) (hts _ in_IllegalStateException) hstr (xt_S_hat hts hX) xt_S_ot hZ.2.2.1 hZ.2.2.2 hS (by rw [hml]; exact hl.1) dS_close_10 dS_close_13 dS_close_14 dS_close_16 dS_close_19 (fun x hx => (hnt x hx).elim) (Nat.le_of_ble_eq_true rfl) (Nat.le_of_ble_eq_true rfl) (Nat.le_of_ble_eq_true rfl) (Nat.le_of_ble_eq_true rfl) hlocks (fun t hvm hsz hk => ⟨(), trivial, ⟨⟨rfl, c1⟩, (wx_end hP hK hD hS hvm hsz hk).1⟩, (wx_end hP hK hD hS hvm hsz hk).2⟩) hS.2.2 (Nat.le_of_ble_eq_true rfl) (Nat.le_of_ble_eq_true rfl)
set_option maxHeartbeats 4000000 in
set_option maxRecDepth 100000 in
theorem k_S_assume (l : Launch) (hst : l.stackTraces = false) (dC : Nat → ClassId) (dI : Nat → Nat → Nat) (tI sz : Nat) (h0 h1 h2 aw aa : Nat) (cJ : ClassId) (af : Nat → Int32) (nv nl nc wc ac vt : Nat) (fo bl lv : Int32) (x : Int32) (hnv : nv ≤ 16) (hac : ac ≤ 64) : vx_Met l yS_assume (Cond.code yS_assume cS_assume 2 (some .int) :: GG) (lvr 7 2 12) (va_Pc [.ref h0, .int x] (wPre dC dI [(cJ, .int)] [(h0, .inr (1, [.ref h1, .ref h2, .ref aw, .ref aa, .int (nI nv), .int (nI nl), .int (nI nc), .int (nI wc), .int (nI ac), .int fo, .int bl, .int lv, .int (nI vt)])), (aa, .inl (cJ, 64, .inl af))] sz tI)) (va_Qi (fun (r : Int32) (u : Unit) => (∃ L, L < 2 * nv ∧ x = nI L) ∧ ac < 64 ∧ r = nI (ac + 1)) (fun u t => wB dC dI [(cJ, .int)] (va_A [(h0, .inr (1, [.ref h1, .ref h2, .ref aw, .ref aa, .int (nI nv), .int (nI nl), .int (nI nc), .int (nI wc), .int (nI ac), .int fo, .int bl, .int lv, .int (nI vt)])), (aa, .inl (cJ, 64, .inl af))] sz) [(h0, .inr (1, [.ref h1, .ref h2, .ref aw, .ref aa, .int (nI nv), .int (nI nl), .int (nI nc), .int (nI wc), .int (nI (ac + 1)), .int fo, .int bl, .int lv, .int (nI vt)])), (aa, .inl (cJ, 64, .inl (upd af ac x)))] t) (va_A [(h0, .inr (1, [.ref h1, .ref h2, .ref aw, .ref aa, .int (nI nv), .int (nI nl), .int (nI nc), .int (nI wc), .int (nI ac), .int fo, .int bl, .int lv, .int (nI vt)])), (aa, .inl (cJ, 64, .inl af))] sz)) (wXC dC dI [(cJ, .int)] [(h0, .inr (1, [.ref h1, .ref h2, .ref aw, .ref aa, .int (nI nv), .int (nI nl), .int (nI nc), .int (nI wc), .int (nI ac), .int fo, .int bl, .int lv, .int (nI vt)])), (aa, .inl (cJ, 64, .inl af))] sz (fun E => (E = xA ∧ ¬ (∃ L, L < 2 * nv ∧ x = nI L)) ∨ (E = xS ∧ (∃ L, L < 2 * nv ∧ x = nI L) ∧ 64 ≤ ac))) 2 12 (va_A [(h0, .inr (1, [.ref h1, .ref h2, .ref aw, .ref aa, .int (nI nv), .int (nI nl), .int (nI nc), .int (nI wc), .int (nI ac), .int fo, .int bl, .int lv, .int (nI vt)])), (aa, .inl (cJ, 64, .inl af))] sz) := by
  unfold wXC
  refine vx_ofW (cc := cS_assume) (maxL := 2) (ret := (some .int)) (by decide) rfl ?_
  intro p e s m args below meth c s₁ B hml hnt hv
  obtain ⟨rfl, hsz, hP, hK, hD0, hZ, hX⟩ := hv
  have hx := B.exec
  have hb := B.bytes
  have hr := B.returns
  have hts : ∀ w ∈ GG, w.before ([.ref h0, .int x] : List Value).toArray s = true := fun w h => atoms_spec (ws := _ :: GG) B.pre w (List.mem_cons_of_mem _ h)
  have hown : s.vm.findClass RS = some m.cls := findClass_of_methodNamed B.named
  have hlocks := B.notSynchronized
  subst hsz
  have hD := hD0.self (sz := s.heap.size)
  generalize hAe : va_A [(h0, .inr (1, [.ref h1, .ref h2, .ref aw, .ref aa, .int (nI nv), .int (nI nl), .int (nI nc), .int (nI wc), .int (nI ac), .int fo, .int bl, .int lv, .int (nI vt)])), (aa, .inl (cJ, 64, .inl af))] s.heap.size = A at hD hZ ⊢
  have hA : ∀ q : Nat, s.heap.size ≤ q → A q := fun q h => by rw [← hAe]; exact Or.inr h
  have hS : va_S A s.heap s.heap [] := va_S.rf
  have hl := lv_entry ([.ref h0, .int x]) (n := 2) (Nat.le_of_ble_eq_true rfl)
  rw [lg_entry_eq]
  generalize (lg_sl ([.ref h0, .int x]) ++ List.replicate (2 - (lg_sl ([.ref h0, .int x])).length) Slot.unset).toArray = ls at hl ⊢
  have hl : lv_has ls 2 [(0, .ref h0), (1, .int x)] := hl
  have SF : CallFix p m c cS_assume 2 s ([.ref h0, .int x] : List Value).toArray GG RS := ⟨hx, hb, hml, hown, hts⟩
  skip
  have hP : va_P (dC, dI) vwCl [(h0, .inr (1, [.ref h1, .ref h2, .ref aw, .ref aa, .int (nI nv), .int (nI nl), .int (nI nc), .int (nI wc), .int (nI ac), .int fo, .int bl, .int lv, .int (nI vt)])), (aa, .inl (cJ, 64, .inl af))] s.heap := hP
  refine lv_aload_n hx hb dS_assume_0 rfl (lv_at hl 0 rfl) ?_
  refine lv_iload_n hx hb dS_assume_1 rfl (lv_at hl 1 rfl) ?_
  have hFc := va_free (wc := [(h0, .inr (1, [.ref h1, .ref h2, .ref aw, .ref aa, .int (nI nv), .int (nI nl), .int (nI nc), .int (nI wc), .int (nI ac), .int fo, .int bl, .int lv, .int (nI vt)]))]) hD hS hA [0] rfl
  refine wcx_v (wcx_V (As := [.int x]) (rest := []) (n := 1) SF (k_S_refuse l hst dC dI tI _ h0 h1 h2 aw aa nv nl nc wc ac vt fo bl lv x hnv) ml_S_44 im_S_refuseUnknownLiteral se_S_refuseUnknownLiteral in_S co_S_refuseUnknownLiteral (by decide +kernel) rfl rfl rfl ⟨Nat.le_of_ble_eq_true rfl, Nat.le_of_ble_eq_true rfl⟩ (va_recv (hK.sub (tys' := []) [] rfl) (hP.sub (ws' := [(h0, .inr (1, [.ref h1, .ref h2, .ref aw, .ref aa, .int (nI nv), .int (nI nl), .int (nI nc), .int (nI wc), .int (nI ac), .int fo, .int bl, .int lv, .int (nI vt)]))]) [0] rfl) (ci := 1) (q0 := 0) rfl rfl) (hP.sub [0] rfl) (hD.sub [0] (by decide) rfl) (hK.sub [] rfl) hZ hX hS hFc rfl hl.1 (Nat.le_of_ble_eq_true rfl) dS_assume_2 ⟨Nat.le_of_ble_eq_true rfl, Nat.le_of_ble_eq_true rfl⟩) hP hD hS hFc [0] [1] (wr := [(aa, .inl (cJ, 64, .inl af))]) rfl rfl rfl (by decide) (fun E ce q9 H locs hE hP hD hS h7 h8 h9 => ?_) (fun uu H locs hlit hP hD hS => ?_)
  · have hP : va_P (dC, dI) vwCl [(h0, .inr (1, [.ref h1, .ref h2, .ref aw, .ref aa, .int (nI nv), .int (nI nl), .int (nI nc), .int (nI wc), .int (nI ac), .int fo, .int bl, .int lv, .int (nI vt)])), (aa, .inl (cJ, 64, .inl af))] H := hP.sub [1, 0] rfl
    have hD : va_D A [(h0, .inr (1, [.ref h1, .ref h2, .ref aw, .ref aa, .int (nI nv), .int (nI nl), .int (nI nc), .int (nI wc), .int (nI ac), .int fo, .int bl, .int lv, .int (nI vt)])), (aa, .inl (cJ, 64, .inl af))] := hD.sub [1, 0] (by decide) rfl
    exact vx_out (fun x hx => (hnt x hx).elim) hlocks h7 h8 h9 (fun t ht hvm => ⟨(), trivial, ⟨Or.inl hE, by rw [ht]; exact hP, va_K.moved hvm hK, hD⟩, hS.F ht⟩) hS.2.2 (Nat.le_of_ble_eq_true rfl) (Nat.le_of_ble_eq_true rfl)
  · have hP : va_P (dC, dI) vwCl [(h0, .inr (1, [.ref h1, .ref h2, .ref aw, .ref aa, .int (nI nv), .int (nI nl), .int (nI nc), .int (nI wc), .int (nI ac), .int fo, .int bl, .int lv, .int (nI vt)])), (aa, .inl (cJ, 64, .inl af))] H := hP.sub [1, 0] rfl
    have hD : va_D A [(h0, .inr (1, [.ref h1, .ref h2, .ref aw, .ref aa, .int (nI nv), .int (nI nl), .int (nI nc), .int (nI wc), .int (nI ac), .int fo, .int bl, .int lv, .int (nI vt)])), (aa, .inl (cJ, 64, .inl af))] := hD.sub [1, 0] (by decide) rfl
    refine lv_aload_n hx hb dS_assume_5 rfl (lv_at hl 0 rfl) ?_
    refine va_get (D := (dC, dI)) (ci := 1) (v := .int (nI ac)) (C := RS) (T := TS) (N := 13) hx hb hts lyS hown hK hP 0 rfl rfl 8 (by decide) (hts _ fl_S_66) (fun _ h9 => h9) rfl dS_assume_6 ?_
    refine lv_aload_n hx hb dS_assume_9 rfl (lv_at hl 0 rfl) ?_
    refine va_get (D := (dC, dI)) (ci := 1) (v := .ref aa) (C := RS) (T := TS) (N := 13) hx hb hts lyS hown hK hP 0 rfl rfl 3 (by decide) (hts _ fl_S_23) (fun _ h9 => h9) rfl dS_assume_10 ?_
    refine va_alen (v := 64) hx hb hK hP 1 0 rfl rfl rfl dS_assume_13 ?_
    refine lv_icmp_lt (tgt := 27) hx hb dS_assume_14 (by decide) (fun c1 => ?_) (fun c1 => ?_)
    · have c1 : ac < 64 := (nI_ltI (a := ac) (b := 64) (by omega) (by omega)).mp c1
      refine lv_aload_n hx hb dS_assume_27 rfl (lv_at hl 0 rfl) ?_
      refine va_get (D := (dC, dI)) (ci := 1) (v := .ref aa) (C := RS) (T := TS) (N := 13) hx hb hts lyS hown hK hP 0 rfl rfl 3 (by decide) (hts _ fl_S_23) (fun _ h9 => h9) rfl dS_assume_28 ?_
      refine lv_aload_n hx hb dS_assume_31 rfl (lv_at hl 0 rfl) ?_
      refine va_get (D := (dC, dI)) (ci := 1) (v := .int (nI ac)) (C := RS) (T := TS) (N := 13) hx hb hts lyS hown hK hP 0 rfl rfl 8 (by decide) (hts _ fl_S_66) (fun _ h9 => h9) rfl dS_assume_32 ?_
      refine lv_iload_n hx hb dS_assume_35 rfl (lv_at hl 1 rfl) ?_
      refine va_iast hx hb hK hP hD hS 1 0 rfl rfl (vp_in_nI (by omega) (by decide)) dS_assume_36 (fun H locs hP hD hS => ?_)
      rw [show upd af (nI ac).toNatClampNeg x = upd af ac x from by rw [nI_clamp (by omega)]] at hP hD
      have hP : va_P (dC, dI) vwCl [(h0, .inr (1, [.ref h1, .ref h2, .ref aw, .ref aa, .int (nI nv), .int (nI nl), .int (nI nc), .int (nI wc), .int (nI ac), .int fo, .int bl, .int lv, .int (nI vt)])), (aa, .inl (cJ, 64, .inl (upd af ac x)))] H := hP
      have hD : va_D A [(h0, .inr (1, [.ref h1, .ref h2, .ref aw, .ref aa, .int (nI nv), .int (nI nl), .int (nI nc), .int (nI wc), .int (nI ac), .int fo, .int bl, .int lv, .int (nI vt)])), (aa, .inl (cJ, 64, .inl (upd af ac x)))] := hD
      refine lv_aload_n hx hb dS_assume_37 rfl (lv_at hl 0 rfl) ?_
      refine lv_dup hx hb dS_assume_38 rfl ?_
      refine va_get (D := (dC, dI)) (ci := 1) (v := .int (nI ac)) (C := RS) (T := TS) (N := 13) hx hb hts lyS hown hK hP 0 rfl rfl 8 (by decide) (hts _ fl_S_66) (fun _ h9 => h9) rfl dS_assume_39 ?_
      refine lv_iconst (v := 1) hx hb dS_assume_42 (by decide) ?_
      refine lv_iadd hx hb dS_assume_43 ?_
      refine ls_topi (y := nI (ac + 1)) (nI_1 _) ?_
      refine va_put (D := (dC, dI)) (ci := 1) (v := .int (nI (ac + 1))) (ty := .int) (C := RS) (T := TS) (N := 13) hx hb hts lyS tyS tyS_ok nmS hown hK hP hD hS 0 rfl rfl 8 (by decide) (hts _ fl_S_66) (fun _ h9 => h9) rfl (by decide +kernel) rfl rfl (Nat.le_of_ble_eq_true rfl) dS_assume_44 (fun H locs hP hD hS => ?_)
      have hP : va_P (dC, dI) vwCl [(h0, .inr (1, [.ref h1, .ref h2, .ref aw, .ref aa, .int (nI nv), .int (nI nl), .int (nI nc), .int (nI wc), .int (nI (ac + 1)), .int fo, .int bl, .int lv, .int (nI vt)])), (aa, .inl (cJ, 64, .inl (upd af ac x)))] H := hP
      have hD : va_D A [(h0, .inr (1, [.ref h1, .ref h2, .ref aw, .ref aa, .int (nI nv), .int (nI nl), .int (nI nc), .int (nI wc), .int (nI (ac + 1)), .int fo, .int bl, .int lv, .int (nI vt)])), (aa, .inl (cJ, 64, .inl (upd af ac x)))] := hD
      refine lv_aload_n hx hb dS_assume_47 rfl (lv_at hl 0 rfl) ?_
      refine va_get (D := (dC, dI)) (ci := 1) (v := .int (nI (ac + 1))) (C := RS) (T := TS) (N := 13) hx hb hts lyS hown hK hP 0 rfl rfl 8 (by decide) (hts _ fl_S_66) (fun _ h9 => h9) rfl dS_assume_48 ?_
      refine W.widen (k := 2) (n := 12) (Nat.le_of_ble_eq_true rfl) (Nat.le_of_ble_eq_true rfl) ?_
      exact vx_ret (W.iret (v := nI (ac + 1)) hx hb hr (fun t ht hW => ⟨⟨nI (ac + 1), (), rfl, ⟨hlit, c1, rfl⟩, by rw [ht]; exact hP, va_K.moved hW.alike hK, hD⟩, hS.F ht⟩) hS.2.2 dS_assume_51)
    · have c1 : 64 ≤ ac := Nat.le_of_not_lt (fun q => c1 ((nI_ltI (a := ac) (b := 64) (by omega) (by omega)).mpr q))
      obtain ⟨sa, hstr⟩ := hX.2.2.2.2 (69, "there are 64 assumptions") (by decide)
      exact vx_throwS (mc := 2) (ms := 12) hx hb hst (own := RS) (cls := xS) (names := xNs) (A := A) hown (by decide) (by decide) (hts _ cl_S_33) (hts _ in_IllegalStateException) hstr (xt_S_hat hts hX) xt_S_ot hZ.2.2.1 hZ.2.2.2 hS (by rw [hml]; exact hl.1) dS_assume_17 dS_assume_20 dS_assume_21 dS_assume_23 dS_assume_26 (fun x hx => (hnt x hx).elim) (Nat.le_of_ble_eq_true rfl) (Nat.le_of_ble_eq_true rfl) (Nat.le_of_ble_eq_true rfl) (Nat.le_of_ble_eq_true rfl) hlocks (fun t hvm hsz hk => ⟨(), trivial, ⟨Or.inr ⟨rfl, hlit, c1⟩, (wx_end hP hK hD hS hvm hsz hk).1⟩, (wx_end hP hK hD hS hvm hsz hk).2⟩) hS.2.2 (Nat.le_of_ble_eq_true rfl) (Nat.le_of_ble_eq_true rfl)
set_option maxHeartbeats 4000000 in
set_option maxRecDepth 100000 in
theorem k_S_least (l : Launch) (hst : l.stackTraces = false) (dC : Nat → ClassId) (dI : Nat → Nat → Nat) (tI sz : Nat) (h0 h1 h2 aw aa : Nat) (nv nl nc wc ac vt : Nat) (fo bl lv : Int32) (x : Int32) (hnv : nv ≤ 16) (hvt : vt ≤ 16) : vx_Met l yS_least (Cond.code yS_least cS_least 2 (some .int) :: GG) (lvr 6 1 6) (va_Pc [.ref h0, .int x] (wPre dC dI [] [(h0, .inr (1, [.ref h1, .ref h2, .ref aw, .ref aa, .int (nI nv), .int (nI nl), .int (nI nc), .int (nI wc), .int (nI ac), .int fo, .int bl, .int lv, .int (nI vt)]))] sz tI)) (va_Qi (fun (r : Int32) (u : Unit) => ∃ v, v < nv ∧ x = nI v ∧ ((r = -1 ∧ (fo = 0 ∨ vt ≤ v)) ∨ (¬ fo = 0 ∧ v < vt ∧ r = (lv >>> (nI v &&& 31)) &&& 1))) (fun u t => wB dC dI [] (va_A [(h0, .inr (1, [.ref h1, .ref h2, .ref aw, .ref aa, .int (nI nv), .int (nI nl), .int (nI nc), .int (nI wc), .int (nI ac), .int fo, .int bl, .int lv, .int (nI vt)]))] sz) [(h0, .inr (1, [.ref h1, .ref h2, .ref aw, .ref aa, .int (nI nv), .int (nI nl), .int (nI nc), .int (nI wc), .int (nI ac), .int fo, .int bl, .int lv, .int (nI vt)]))] t) (va_A [(h0, .inr (1, [.ref h1, .ref h2, .ref aw, .ref aa, .int (nI nv), .int (nI nl), .int (nI nc), .int (nI wc), .int (nI ac), .int fo, .int bl, .int lv, .int (nI vt)]))] sz)) (wXC dC dI [] [(h0, .inr (1, [.ref h1, .ref h2, .ref aw, .ref aa, .int (nI nv), .int (nI nl), .int (nI nc), .int (nI wc), .int (nI ac), .int fo, .int bl, .int lv, .int (nI vt)]))] sz (fun E => E = xI ∧ ¬ (∃ v, v < nv ∧ x = nI v))) 1 6 (va_A [(h0, .inr (1, [.ref h1, .ref h2, .ref aw, .ref aa, .int (nI nv), .int (nI nl), .int (nI nc), .int (nI wc), .int (nI ac), .int fo, .int bl, .int lv, .int (nI vt)]))] sz) := by
  unfold wXC
  refine vx_ofW (cc := cS_least) (maxL := 2) (ret := (some .int)) (by decide) rfl ?_
  intro p e s m args below meth c s₁ B hml hnt hv
  obtain ⟨rfl, hsz, hP, hK, hD0, hZ, hX⟩ := hv
  have hx := B.exec
  have hb := B.bytes
  have hr := B.returns
  have hts : ∀ w ∈ GG, w.before ([.ref h0, .int x] : List Value).toArray s = true := fun w h => atoms_spec (ws := _ :: GG) B.pre w (List.mem_cons_of_mem _ h)
  have hown : s.vm.findClass RS = some m.cls := findClass_of_methodNamed B.named
  have hlocks := B.notSynchronized
  subst hsz
  have hD := hD0.self (sz := s.heap.size)
  generalize hAe : va_A [(h0, .inr (1, [.ref h1, .ref h2, .ref aw, .ref aa, .int (nI nv), .int (nI nl), .int (nI nc), .int (nI wc), .int (nI ac), .int fo, .int bl, .int lv, .int (nI vt)]))] s.heap.size = A at hD hZ ⊢
  have hA : ∀ q : Nat, s.heap.size ≤ q → A q := fun q h => by rw [← hAe]; exact Or.inr h
  have hS : va_S A s.heap s.heap [] := va_S.rf
  have hl := lv_entry ([.ref h0, .int x]) (n := 2) (Nat.le_of_ble_eq_true rfl)
  rw [lg_entry_eq]
  generalize (lg_sl ([.ref h0, .int x]) ++ List.replicate (2 - (lg_sl ([.ref h0, .int x])).length) Slot.unset).toArray = ls at hl ⊢
  have hl : lv_has ls 2 [(0, .ref h0), (1, .int x)] := hl
  have SF : CallFix p m c cS_least 2 s ([.ref h0, .int x] : List Value).toArray GG RS := ⟨hx, hb, hml, hown, hts⟩
  skip
  have hP : va_P (dC, dI) vwCl [(h0, .inr (1, [.ref h1, .ref h2, .ref aw, .ref aa, .int (nI nv), .int (nI nl), .int (nI nc), .int (nI wc), .int (nI ac), .int fo, .int bl, .int lv, .int (nI vt)]))] s.heap := hP
  refine lv_iload_n hx hb dS_least_0 rfl (lv_at hl 1 rfl) ?_
  refine lv_if_lt (tgt := 12) hx hb dS_least_1 (by decide) (fun c1 => ?_) (fun c1 => ?_)
  · obtain ⟨sa, hstr⟩ := hX.2.2.2.2 (97, "there is no such variable") (by decide)
    exact vx_throwS (mc := 1) (ms := 6) hx hb hst (own := RS) (cls := xI) (names := xNs) (A := A) hown (by decide) (by decide) (hts _ cl_S_95) (hts _ in_IndexOutOfBoundsException) hstr (xt_I_hat hts hX) xt_I_ot hZ.2.2.1 hZ.2.2.2 hS (by rw [hml]; exact hl.1) dS_least_12 dS_least_15 dS_least_16 dS_least_18 dS_least_21 (fun x hx => (hnt x hx).elim) (Nat.le_of_ble_eq_true rfl) (Nat.le_of_ble_eq_true rfl) (Nat.le_of_ble_eq_true rfl) (Nat.le_of_ble_eq_true rfl) hlocks (fun t hvm hsz hk => ⟨(), trivial, ⟨⟨rfl, fun ⟨v, hv, e⟩ => absurd c1 (by rw [e]; exact nI_pos (by omega))⟩, (wx_end hP hK hD hS hvm hsz hk).1⟩, (wx_end hP hK hD hS hvm hsz hk).2⟩) hS.2.2 (Nat.le_of_ble_eq_true rfl) (Nat.le_of_ble_eq_true rfl)
  · refine lv_iload_n hx hb dS_least_4 rfl (lv_at hl 1 rfl) ?_
    refine lv_aload_n hx hb dS_least_5 rfl (lv_at hl 0 rfl) ?_
    refine va_get (D := (dC, dI)) (ci := 1) (v := .int (nI nv)) (C := RS) (T := TS) (N := 13) hx hb hts lyS hown hK hP 0 rfl rfl 4 (by decide) (hts _ fl_S_29) (fun _ h9 => h9) rfl dS_least_6 ?_
    refine lv_icmp_lt (tgt := 22) hx hb dS_least_9 (by decide) (fun c2 => ?_) (fun c2 => ?_)
    · obtain ⟨v, hv31, ev⟩ := nI_of c1
      have hv : v < nv := (nI_ltI (by omega) (by omega)).mp (by rw [← ev]; exact c2)
      subst ev
      refine lv_aload_n hx hb dS_least_22 rfl (lv_at hl 0 rfl) ?_
      refine va_get (D := (dC, dI)) (ci := 1) (v := .int fo) (C := RS) (T := TS) (N := 13) hx hb hts lyS hown hK hP 0 rfl rfl 9 (by decide) (hts _ fl_S_82) (fun _ h9 => h9) rfl dS_least_23 ?_
      refine lv_if_eq (tgt := 37) hx hb dS_least_26 (by decide) (fun c3 => ?_) (fun c3 => ?_)
      · refine lv_iconst (v := (-1)) hx hb dS_least_37 (by decide) ?_
        refine W.widen (k := 1) (n := 6) (Nat.le_of_ble_eq_true rfl) (Nat.le_of_ble_eq_true rfl) ?_
        exact vx_ret (W.iret (v := (-1)) hx hb hr (fun t ht hW => ⟨⟨(-1), (), rfl, ⟨v, hv, rfl, Or.inl ⟨rfl, Or.inl c3⟩⟩, by rw [ht]; exact hP, va_K.moved hW.alike hK, hD⟩, hS.F ht⟩) hS.2.2 dS_least_38)
      · refine lv_iload_n hx hb dS_least_29 rfl (lv_at hl 1 rfl) ?_
        refine lv_aload_n hx hb dS_least_30 rfl (lv_at hl 0 rfl) ?_
        refine va_get (D := (dC, dI)) (ci := 1) (v := .int (nI vt)) (C := RS) (T := TS) (N := 13) hx hb hts lyS hown hK hP 0 rfl rfl 12 (by decide) (hts _ fl_S_92) (fun _ h9 => h9) rfl dS_least_31 ?_
        refine lv_icmp_lt (tgt := 39) hx hb dS_least_34 (by decide) (fun c4 => ?_) (fun c4 => ?_)
        · have c4 : v < vt := (nI_ltI (a := v) (b := vt) (by omega) (by omega)).mp c4
          refine lv_aload_n hx hb dS_least_39 rfl (lv_at hl 0 rfl) ?_
          refine va_get (D := (dC, dI)) (ci := 1) (v := .int lv) (C := RS) (T := TS) (N := 13) hx hb hts lyS hown hK hP 0 rfl rfl 11 (by decide) (hts _ fl_S_89) (fun _ h9 => h9) rfl dS_least_40 ?_
          refine lv_iload_n hx hb dS_least_43 rfl (lv_at hl 1 rfl) ?_
          refine lv_ishr hx hb dS_least_44 ?_
          refine lv_iconst (v := 1) hx hb dS_least_45 (by decide) ?_
          refine lv_iand hx hb dS_least_46 ?_
          refine W.widen (k := 1) (n := 6) (Nat.le_of_ble_eq_true rfl) (Nat.le_of_ble_eq_true rfl) ?_
          exact vx_ret (W.iret (v := (lv >>> ((nI v) &&& 31)) &&& 1) hx hb hr (fun t ht hW => ⟨⟨(lv >>> ((nI v) &&& 31)) &&& 1, (), rfl, ⟨v, hv, rfl, Or.inr ⟨c3, c4, rfl⟩⟩, by rw [ht]; exact hP, va_K.moved hW.alike hK, hD⟩, hS.F ht⟩) hS.2.2 dS_least_47)
        · have c4 : vt ≤ v := Nat.le_of_not_lt (fun q => c4 ((nI_ltI (a := v) (b := vt) (by omega) (by omega)).mpr q))
          refine lv_iconst (v := (-1)) hx hb dS_least_37 (by decide) ?_
          refine W.widen (k := 1) (n := 6) (Nat.le_of_ble_eq_true rfl) (Nat.le_of_ble_eq_true rfl) ?_
          exact vx_ret (W.iret (v := (-1)) hx hb hr (fun t ht hW => ⟨⟨(-1), (), rfl, ⟨v, hv, rfl, Or.inl ⟨rfl, Or.inr c4⟩⟩, by rw [ht]; exact hP, va_K.moved hW.alike hK, hD⟩, hS.F ht⟩) hS.2.2 dS_least_38)
    · obtain ⟨sa, hstr⟩ := hX.2.2.2.2 (97, "there is no such variable") (by decide)
      exact vx_throwS (mc := 1) (ms := 6) hx hb hst (own := RS) (cls := xI) (names := xNs) (A := A) hown (by decide) (by decide) (hts _ cl_S_95) (hts _ in_IndexOutOfBoundsException) hstr (xt_I_hat hts hX) xt_I_ot hZ.2.2.1 hZ.2.2.2 hS (by rw [hml]; exact hl.1) dS_least_12 dS_least_15 dS_least_16 dS_least_18 dS_least_21 (fun x hx => (hnt x hx).elim) (Nat.le_of_ble_eq_true rfl) (Nat.le_of_ble_eq_true rfl) (Nat.le_of_ble_eq_true rfl) (Nat.le_of_ble_eq_true rfl) hlocks (fun t hvm hsz hk => ⟨(), trivial, ⟨⟨rfl, fun ⟨v, hv, e⟩ => c2 (by rw [e]; exact nI_lt hv (by omega))⟩, (wx_end hP hK hD hS hvm hsz hk).1⟩, (wx_end hP hK hD hS hvm hsz hk).2⟩) hS.2.2 (Nat.le_of_ble_eq_true rfl) (Nat.le_of_ble_eq_true rfl)
set_option maxHeartbeats 4000000 in
set_option maxRecDepth 100000 in
theorem k_S_must (l : Launch) (hst : l.stackTraces = false) (dC : Nat → ClassId) (dI : Nat → Nat → Nat) (tI sz : Nat) (h0 h1 w1 h2 aw aa : Nat) (cL : ClassId) (f : Nat → Int64) (U : Nat) (hU : U ≤ 1024) (nv nl nc wc ac vt : Nat) (fo bl lv : Int32) (x : Int32) (hnv : nv ≤ 16) : vx_Met l yS_must (Cond.code yS_must cS_must 4 (some .int) :: GG) (lvr 7 1 6) (va_Pc [.ref h0, .int x] (wPre dC dI [(cL, .long)] [(h0, .inr (1, [.ref h1, .ref h2, .ref aw, .ref aa, .int (nI nv), .int (nI nl), .int (nI nc), .int (nI wc), .int (nI ac), .int fo, .int bl, .int lv, .int (nI vt)])), (h1, .inr (0, [.ref w1, .int (nI U)])), (w1, .inl (cL, 1024, .inr (.inl f)))] sz tI)) (va_Qi (fun (r : Int32) (u : Unit) => ∃ L, L < 2 * nv ∧ x = nI L ∧ ((mu_P f U L ∧ mu_P f U (mu_x L) ∧ r = 2) ∨ (mu_P f U L ∧ ¬ mu_P f U (mu_x L) ∧ r = 1) ∨ (¬ mu_P f U L ∧ mu_P f U (mu_x L) ∧ r = 0) ∨ (¬ mu_P f U L ∧ ¬ mu_P f U (mu_x L) ∧ r = -1))) (fun u t => wB dC dI [(cL, .long)] (va_A [(h0, .inr (1, [.ref h1, .ref h2, .ref aw, .ref aa, .int (nI nv), .int (nI nl), .int (nI nc), .int (nI wc), .int (nI ac), .int fo, .int bl, .int lv, .int (nI vt)])), (h1, .inr (0, [.ref w1, .int (nI U)])), (w1, .inl (cL, 1024, .inr (.inl f)))] sz) [(h0, .inr (1, [.ref h1, .ref h2, .ref aw, .ref aa, .int (nI nv), .int (nI nl), .int (nI nc), .int (nI wc), .int (nI ac), .int fo, .int bl, .int lv, .int (nI vt)])), (h1, .inr (0, [.ref w1, .int (nI U)])), (w1, .inl (cL, 1024, .inr (.inl f)))] t) (va_A [(h0, .inr (1, [.ref h1, .ref h2, .ref aw, .ref aa, .int (nI nv), .int (nI nl), .int (nI nc), .int (nI wc), .int (nI ac), .int fo, .int bl, .int lv, .int (nI vt)])), (h1, .inr (0, [.ref w1, .int (nI U)])), (w1, .inl (cL, 1024, .inr (.inl f)))] sz)) (wXC dC dI [(cL, .long)] [(h0, .inr (1, [.ref h1, .ref h2, .ref aw, .ref aa, .int (nI nv), .int (nI nl), .int (nI nc), .int (nI wc), .int (nI ac), .int fo, .int bl, .int lv, .int (nI vt)])), (h1, .inr (0, [.ref w1, .int (nI U)])), (w1, .inl (cL, 1024, .inr (.inl f)))] sz (fun E => E = xA ∧ ¬ (∃ L, L < 2 * nv ∧ x = nI L))) 1 6 (va_A [(h0, .inr (1, [.ref h1, .ref h2, .ref aw, .ref aa, .int (nI nv), .int (nI nl), .int (nI nc), .int (nI wc), .int (nI ac), .int fo, .int bl, .int lv, .int (nI vt)])), (h1, .inr (0, [.ref w1, .int (nI U)])), (w1, .inl (cL, 1024, .inr (.inl f)))] sz) := by
  unfold wXC
  refine vx_ofW (cc := cS_must) (maxL := 4) (ret := (some .int)) (by decide) rfl ?_
  intro p e s m args below meth c s₁ B hml hnt hv
  obtain ⟨rfl, hsz, hP, hK, hD0, hZ, hX⟩ := hv
  have hx := B.exec
  have hb := B.bytes
  have hr := B.returns
  have hts : ∀ w ∈ GG, w.before ([.ref h0, .int x] : List Value).toArray s = true := fun w h => atoms_spec (ws := _ :: GG) B.pre w (List.mem_cons_of_mem _ h)
  have hown : s.vm.findClass RS = some m.cls := findClass_of_methodNamed B.named
  have hlocks := B.notSynchronized
  subst hsz
  have hD := hD0.self (sz := s.heap.size)
  generalize hAe : va_A [(h0, .inr (1, [.ref h1, .ref h2, .ref aw, .ref aa, .int (nI nv), .int (nI nl), .int (nI nc), .int (nI wc), .int (nI ac), .int fo, .int bl, .int lv, .int (nI vt)])), (h1, .inr (0, [.ref w1, .int (nI U)])), (w1, .inl (cL, 1024, .inr (.inl f)))] s.heap.size = A at hD hZ ⊢
  have hA : ∀ q : Nat, s.heap.size ≤ q → A q := fun q h => by rw [← hAe]; exact Or.inr h
  have hS : va_S A s.heap s.heap [] := va_S.rf
  have hl := lv_entry ([.ref h0, .int x]) (n := 4) (Nat.le_of_ble_eq_true rfl)
  rw [lg_entry_eq]
  generalize (lg_sl ([.ref h0, .int x]) ++ List.replicate (4 - (lg_sl ([.ref h0, .int x])).length) Slot.unset).toArray = ls at hl ⊢
  have hl : lv_has ls 4 [(0, .ref h0), (1, .int x)] := hl
  have SF : CallFix p m c cS_must 4 s ([.ref h0, .int x] : List Value).toArray GG RS := ⟨hx, hb, hml, hown, hts⟩
  skip
  have hP : va_P (dC, dI) vwCl [(h0, .inr (1, [.ref h1, .ref h2, .ref aw, .ref aa, .int (nI nv), .int (nI nl), .int (nI nc), .int (nI wc), .int (nI ac), .int fo, .int bl, .int lv, .int (nI vt)])), (h1, .inr (0, [.ref w1, .int (nI U)])), (w1, .inl (cL, 1024, .inr (.inl f)))] s.heap := hP
  refine lv_aload_n hx hb dS_must_0 rfl (lv_at hl 0 rfl) ?_
  refine lv_iload_n hx hb dS_must_1 rfl (lv_at hl 1 rfl) ?_
  have hFc := va_free (wc := [(h0, .inr (1, [.ref h1, .ref h2, .ref aw, .ref aa, .int (nI nv), .int (nI nl), .int (nI nc), .int (nI wc), .int (nI ac), .int fo, .int bl, .int lv, .int (nI vt)]))]) hD hS hA [0] rfl
  refine wcx_v (wcx_V (As := [.int x]) (rest := []) (n := 1) SF (k_S_refuse l hst dC dI tI _ h0 h1 h2 aw aa nv nl nc wc ac vt fo bl lv x hnv) ml_S_44 im_S_refuseUnknownLiteral se_S_refuseUnknownLiteral in_S co_S_refuseUnknownLiteral (by decide +kernel) rfl rfl rfl ⟨Nat.le_of_ble_eq_true rfl, Nat.le_of_ble_eq_true rfl⟩ (va_recv (hK.sub (tys' := []) [] rfl) (hP.sub (ws' := [(h0, .inr (1, [.ref h1, .ref h2, .ref aw, .ref aa, .int (nI nv), .int (nI nl), .int (nI nc), .int (nI wc), .int (nI ac), .int fo, .int bl, .int lv, .int (nI vt)]))]) [0] rfl) (ci := 1) (q0 := 0) rfl rfl) (hP.sub [0] rfl) (hD.sub [0] (by decide) rfl) (hK.sub [] rfl) hZ hX hS hFc rfl hl.1 (Nat.le_of_ble_eq_true rfl) dS_must_2 ⟨Nat.le_of_ble_eq_true rfl, Nat.le_of_ble_eq_true rfl⟩) hP hD hS hFc [0] [1, 2] (wr := [(h1, .inr (0, [.ref w1, .int (nI U)])), (w1, .inl (cL, 1024, .inr (.inl f)))]) rfl rfl rfl (by decide) (fun E ce q9 H locs hE hP hD hS h7 h8 h9 => ?_) (fun uu H locs hlit hP hD hS => ?_)
  · have hP : va_P (dC, dI) vwCl [(h0, .inr (1, [.ref h1, .ref h2, .ref aw, .ref aa, .int (nI nv), .int (nI nl), .int (nI nc), .int (nI wc), .int (nI ac), .int fo, .int bl, .int lv, .int (nI vt)])), (h1, .inr (0, [.ref w1, .int (nI U)])), (w1, .inl (cL, 1024, .inr (.inl f)))] H := hP.sub [2, 0, 1] rfl
    have hD : va_D A [(h0, .inr (1, [.ref h1, .ref h2, .ref aw, .ref aa, .int (nI nv), .int (nI nl), .int (nI nc), .int (nI wc), .int (nI ac), .int fo, .int bl, .int lv, .int (nI vt)])), (h1, .inr (0, [.ref w1, .int (nI U)])), (w1, .inl (cL, 1024, .inr (.inl f)))] := hD.sub [2, 0, 1] (by decide) rfl
    exact vx_out (fun x hx => (hnt x hx).elim) hlocks h7 h8 h9 (fun t ht hvm => ⟨(), trivial, ⟨hE, by rw [ht]; exact hP, va_K.moved hvm hK, hD⟩, hS.F ht⟩) hS.2.2 (Nat.le_of_ble_eq_true rfl) (Nat.le_of_ble_eq_true rfl)
  · have hP : va_P (dC, dI) vwCl [(h0, .inr (1, [.ref h1, .ref h2, .ref aw, .ref aa, .int (nI nv), .int (nI nl), .int (nI nc), .int (nI wc), .int (nI ac), .int fo, .int bl, .int lv, .int (nI vt)])), (h1, .inr (0, [.ref w1, .int (nI U)])), (w1, .inl (cL, 1024, .inr (.inl f)))] H := hP.sub [2, 0, 1] rfl
    have hD : va_D A [(h0, .inr (1, [.ref h1, .ref h2, .ref aw, .ref aa, .int (nI nv), .int (nI nl), .int (nI nc), .int (nI wc), .int (nI ac), .int fo, .int bl, .int lv, .int (nI vt)])), (h1, .inr (0, [.ref w1, .int (nI U)])), (w1, .inl (cL, 1024, .inr (.inl f)))] := hD.sub [2, 0, 1] (by decide) rfl
    obtain ⟨L, hL, eL⟩ := hlit
    subst eL
    refine lv_aload_n hx hb dS_must_5 rfl (lv_at hl 0 rfl) ?_
    refine va_get (D := (dC, dI)) (ci := 1) (v := .ref h1) (C := RS) (T := TS) (N := 13) hx hb hts lyS hown hK hP 0 rfl rfl 0 (by decide) (hts _ fl_S_10) (fun _ h9 => h9) rfl dS_must_6 ?_
    refine lv_iload_n hx hb dS_must_9 rfl (lv_at hl 1 rfl) ?_
    have hFc := va_free (wc := [(h1, .inr (0, [.ref w1, .int (nI U)])), (w1, .inl (cL, 1024, .inr (.inl f)))]) hD hS hA [1, 2] rfl
    refine wc_i (wc_V (As := [.int (nI L)]) (rest := []) (n := 1) SF (k_R_anyWith l dC dI tI _ h1 w1 cL f U hU L (by omega)) ml_S_100 im_R_anyWith se_R_anyWith in_R co_R_anyWith (by decide +kernel) rfl rfl rfl ⟨Nat.le_of_ble_eq_true rfl, Nat.le_of_ble_eq_true rfl⟩ (va_recv (hK.sub (tys' := []) [] rfl) (hP.sub (ws' := [(h1, .inr (0, [.ref w1, .int (nI U)])), (w1, .inl (cL, 1024, .inr (.inl f)))]) [1, 2] rfl) (ci := 0) (q0 := 0) rfl rfl) (hP.sub [1, 2] rfl) (hD.sub [1, 2] (by decide) rfl) (hK.sub [0] rfl) hZ hX hS hFc rfl hl.1 (Nat.le_of_ble_eq_true rfl) dS_must_10 ⟨Nat.le_of_ble_eq_true rfl, Nat.le_of_ble_eq_true rfl⟩) hP hD hS hFc [1, 2] [0] (wr := [(h0, .inr (1, [.ref h1, .ref h2, .ref aw, .ref aa, .int (nI nv), .int (nI nl), .int (nI nc), .int (nI wc), .int (nI ac), .int fo, .int bl, .int lv, .int (nI vt)]))]) rfl rfl rfl (by decide) (fun z1 uu1 H locs hz1 hP hD hS => ?_)
    have hP : va_P (dC, dI) vwCl [(h0, .inr (1, [.ref h1, .ref h2, .ref aw, .ref aa, .int (nI nv), .int (nI nl), .int (nI nc), .int (nI wc), .int (nI ac), .int fo, .int bl, .int lv, .int (nI vt)])), (h1, .inr (0, [.ref w1, .int (nI U)])), (w1, .inl (cL, 1024, .inr (.inl f)))] H := hP.sub [0, 1, 2] rfl
    have hD : va_D A [(h0, .inr (1, [.ref h1, .ref h2, .ref aw, .ref aa, .int (nI nv), .int (nI nl), .int (nI nc), .int (nI wc), .int (nI ac), .int fo, .int bl, .int lv, .int (nI vt)])), (h1, .inr (0, [.ref w1, .int (nI U)])), (w1, .inl (cL, 1024, .inr (.inl f)))] := hD.sub [0, 1, 2] (by decide) rfl
    refine lv_istore_n (lv' := [(2, .int z1), (0, .ref h0), (1, .int (nI L))]) hx hb dS_must_13 rfl hl (by decide) rfl (fun ls hl => ?_)
    refine lv_aload_n hx hb dS_must_14 rfl (lv_at hl 1 rfl) ?_
    refine va_get (D := (dC, dI)) (ci := 1) (v := .ref h1) (C := RS) (T := TS) (N := 13) hx hb hts lyS hown hK hP 0 rfl rfl 0 (by decide) (hts _ fl_S_10) (fun _ h9 => h9) rfl dS_must_15 ?_
    refine lv_iload_n hx hb dS_must_18 rfl (lv_at hl 2 rfl) ?_
    refine lv_iconst (v := 1) hx hb dS_must_19 (by decide) ?_
    refine lv_ixor hx hb dS_must_20 ?_
    refine ls_topi (y := nI (mu_x L)) (mu_xor L (by omega)) ?_
    have hFc := va_free (wc := [(h1, .inr (0, [.ref w1, .int (nI U)])), (w1, .inl (cL, 1024, .inr (.inl f)))]) hD hS hA [1, 2] rfl
    refine wc_i (wc_V (As := [.int (nI (mu_x L))]) (rest := []) (n := 1) SF (k_R_anyWith l dC dI tI _ h1 w1 cL f U hU (mu_x L) (mu_lt (by omega))) ml_S_100 im_R_anyWith se_R_anyWith in_R co_R_anyWith (by decide +kernel) rfl rfl rfl ⟨Nat.le_of_ble_eq_true rfl, Nat.le_of_ble_eq_true rfl⟩ (va_recv (hK.sub (tys' := []) [] rfl) (hP.sub (ws' := [(h1, .inr (0, [.ref w1, .int (nI U)])), (w1, .inl (cL, 1024, .inr (.inl f)))]) [1, 2] rfl) (ci := 0) (q0 := 0) rfl rfl) (hP.sub [1, 2] rfl) (hD.sub [1, 2] (by decide) rfl) (hK.sub [0] rfl) hZ hX hS hFc rfl hl.1 (Nat.le_of_ble_eq_true rfl) dS_must_21 ⟨Nat.le_of_ble_eq_true rfl, Nat.le_of_ble_eq_true rfl⟩) hP hD hS hFc [1, 2] [0] (wr := [(h0, .inr (1, [.ref h1, .ref h2, .ref aw, .ref aa, .int (nI nv), .int (nI nl), .int (nI nc), .int (nI wc), .int (nI ac), .int fo, .int bl, .int lv, .int (nI vt)]))]) rfl rfl rfl (by decide) (fun z2 uu2 H locs hz2 hP hD hS => ?_)
    have hP : va_P (dC, dI) vwCl [(h0, .inr (1, [.ref h1, .ref h2, .ref aw, .ref aa, .int (nI nv), .int (nI nl), .int (nI nc), .int (nI wc), .int (nI ac), .int fo, .int bl, .int lv, .int (nI vt)])), (h1, .inr (0, [.ref w1, .int (nI U)])), (w1, .inl (cL, 1024, .inr (.inl f)))] H := hP.sub [0, 1, 2] rfl
    have hD : va_D A [(h0, .inr (1, [.ref h1, .ref h2, .ref aw, .ref aa, .int (nI nv), .int (nI nl), .int (nI nc), .int (nI wc), .int (nI ac), .int fo, .int bl, .int lv, .int (nI vt)])), (h1, .inr (0, [.ref w1, .int (nI U)])), (w1, .inl (cL, 1024, .inr (.inl f)))] := hD.sub [0, 1, 2] (by decide) rfl
    refine lv_istore_n (lv' := [(3, .int z2), (2, .int z1), (0, .ref h0), (1, .int (nI L))]) hx hb dS_must_24 rfl hl (by decide) rfl (fun ls hl => ?_)
    refine lv_iload_n hx hb dS_must_25 rfl (lv_at hl 1 rfl) ?_
    refine lv_if_eq (tgt := 39) hx hb dS_must_26 (by decide) (fun c1 => ?_) (fun c1 => ?_)
    · have hn1 := mu_0 hz1 c1
      refine lv_iload_n hx hb dS_must_39 rfl (lv_at hl 0 rfl) ?_
      refine lv_if_eq (tgt := 47) hx hb dS_must_40 (by decide) (fun c2 => ?_) (fun c2 => ?_)
      · have hn2 := mu_0 hz2 c2
        refine lv_iconst (v := (-1)) hx hb dS_must_47 (by decide) ?_
        refine W.widen (k := 1) (n := 6) (Nat.le_of_ble_eq_true rfl) (Nat.le_of_ble_eq_true rfl) ?_
        exact vx_ret (W.iret (v := (-1)) hx hb hr (fun t ht hW => ⟨⟨(-1), (), rfl, ⟨L, hL, rfl, Or.inr (Or.inr (Or.inr ⟨hn1, hn2, rfl⟩))⟩, by rw [ht]; exact hP, va_K.moved hW.alike hK, hD⟩, hS.F ht⟩) hS.2.2 dS_must_48)
      · have hn2 := mu_1 hz2 c2
        refine lv_iconst (v := 0) hx hb dS_must_43 (by decide) ?_
        refine lv_goto (tgt := 48) hx hb dS_must_44 (by decide) ?_
        refine W.widen (k := 1) (n := 6) (Nat.le_of_ble_eq_true rfl) (Nat.le_of_ble_eq_true rfl) ?_
        exact vx_ret (W.iret (v := 0) hx hb hr (fun t ht hW => ⟨⟨0, (), rfl, ⟨L, hL, rfl, Or.inr (Or.inr (Or.inl ⟨hn1, hn2, rfl⟩))⟩, by rw [ht]; exact hP, va_K.moved hW.alike hK, hD⟩, hS.F ht⟩) hS.2.2 dS_must_48)
    · have hn1 := mu_1 hz1 c1
      refine lv_iload_n hx hb dS_must_29 rfl (lv_at hl 0 rfl) ?_
      refine lv_if_eq (tgt := 37) hx hb dS_must_30 (by decide) (fun c2 => ?_) (fun c2 => ?_)
      · have hn2 := mu_0 hz2 c2
        refine lv_iconst (v := 1) hx hb dS_must_37 (by decide) ?_
        refine W.widen (k := 1) (n := 6) (Nat.le_of_ble_eq_true rfl) (Nat.le_of_ble_eq_true rfl) ?_
        exact vx_ret (W.iret (v := 1) hx hb hr (fun t ht hW => ⟨⟨1, (), rfl, ⟨L, hL, rfl, Or.inr (Or.inl ⟨hn1, hn2, rfl⟩)⟩, by rw [ht]; exact hP, va_K.moved hW.alike hK, hD⟩, hS.F ht⟩) hS.2.2 dS_must_38)
      · have hn2 := mu_1 hz2 c2
        refine lv_iconst (v := 2) hx hb dS_must_33 (by decide) ?_
        refine lv_goto (tgt := 38) hx hb dS_must_34 (by decide) ?_
        refine W.widen (k := 1) (n := 6) (Nat.le_of_ble_eq_true rfl) (Nat.le_of_ble_eq_true rfl) ?_
        exact vx_ret (W.iret (v := 2) hx hb hr (fun t ht hW => ⟨⟨2, (), rfl, ⟨L, hL, rfl, Or.inl ⟨hn1, hn2, rfl⟩⟩, by rw [ht]; exact hP, va_K.moved hW.alike hK, hD⟩, hS.F ht⟩) hS.2.2 dS_must_38)
end
section
/-! the reference's clauses: chains, what a clause asks, what its search keeps -/
def lm_ch (nf : Nat → Int32) : Int32 → List Nat → Prop
  | x, [] => x = -1
  | x, c :: t => x = nI c ∧ lm_ch nf (nf c) t
def lm_C (lf sf : Nat → Int32) (lit st : Nat → Nat) (cs : List Nat) : Prop := ∀ c ∈ cs, c < 500 ∧ sf c = nI (st c) ∧ sf (c + 1) = nI (st (c + 1)) ∧ st c ≤ st (c + 1) ∧ st (c + 1) ≤ 4000 ∧ ∀ k, st c ≤ k → k < st (c + 1) → lf k = nI (lit k) ∧ lit k < 32
def lm_T (lit st a : Nat → Nat) (c : Nat) : Prop := ∃ k, st c ≤ k ∧ k < st (c + 1) ∧ a (lit k / 2) = 1 - lit k % 2
/-- the chain's loop: t is left, rt is the flag -/
def lm_I (nf : Nat → Int32) (lit st a : Nat → Nat) (cs : List Nat) (x : Int32) (t : List Nat) (rt : Nat) : Prop := lm_ch nf x t ∧ (∀ c ∈ t, c ∈ cs) ∧ ((rt = 1 ∧ ((∀ c ∈ t, lm_T lit st a c) → ∀ c ∈ cs, lm_T lit st a c)) ∨ (rt = 0 ∧ ∃ c ∈ cs, ¬ lm_T lit st a c))
theorem lm_I0 {nf : Nat → Int32} {lit st a : Nat → Nat} {cs : List Nat} {x : Int32} (h : lm_ch nf x cs) : lm_I nf lit st a cs x cs 1 := ⟨h, fun _ h => h, Or.inl ⟨rfl, fun h => h⟩⟩
theorem lm_cons {nf : Nat → Int32} {x : Int32} {t : List Nat} (h : lm_ch nf x t) (hx : ¬ x = -1) : ∃ c t', t = c :: t' ∧ x = nI c ∧ lm_ch nf (nf c) t' := by
  cases t with
  | nil => exact absurd h hx
  | cons c t' => exact ⟨c, t', rfl, h.1, h.2⟩
theorem lm_nil {nf : Nat → Int32} {x : Int32} {t : List Nat} (h : lm_ch nf x t) (hx : x = -1) (hc : ∀ c ∈ t, c < 500) : t = [] := by
  cases t with
  | nil => rfl
  | cons c t' =>
    have h1 := h.1
    have h2 := hc c (by simp)
    rw [hx] at h1
    exact absurd (nI_pos (n := c) (by omega)) (by rw [← h1]; decide)
theorem lm_It {nf : Nat → Int32} {lit st a : Nat → Nat} {cs : List Nat} {c : Nat} {t : List Nat} (h : lm_I nf lit st a cs (nI c) (c :: t) 1) (hT : lm_T lit st a c) : lm_I nf lit st a cs (nf c) t 1 := by
  obtain ⟨h1, h2, h3⟩ := h
  refine ⟨h1.2, fun c hc => h2 c (by simp [hc]), Or.inl ⟨rfl, fun h => ?_⟩⟩
  rcases h3 with ⟨_, h3⟩ | ⟨h3, _⟩
  · exact h3 (fun c' hc' => by rcases List.mem_cons.mp hc' with e | e; rw [e]; exact hT; exact h c' e)
  · cases h3
theorem lm_If {nf : Nat → Int32} {lit st a : Nat → Nat} {cs : List Nat} {c : Nat} {t : List Nat} (h : lm_I nf lit st a cs (nI c) (c :: t) 1) (hT : ¬ lm_T lit st a c) : lm_I nf lit st a cs (nf c) t 0 := by
  obtain ⟨h1, h2, h3⟩ := h
  exact ⟨h1.2, fun c hc => h2 c (by simp [hc]), Or.inr ⟨rfl, c, h2 c (by simp), hT⟩⟩
/-! the search -/
section SE
variable (N : Nat) (lit st : Nat → Nat) (ch : Nat → List Nat) (ff : Nat → Int32)
def se_R (v : Nat) (a : Nat → Nat) : Prop := ∀ c ∈ ch v, lm_T lit st a c
def se_F (v : Nat) (a : Nat → Nat) : Prop := a v ≤ 1 ∧ (ff v = -1 ∨ ff v = nI (a v))
def se_S (a : Nat → Nat) : Prop := ch 16 = [] ∧ ∀ v, v < N → se_R lit st ch v a ∧ se_F ff v a
/-- a clause of the chain v speaks of variables up to v -/
def se_D : Prop := ∀ v, v < N → ∀ c ∈ ch v, ∀ k, st c ≤ k → k < st (c + 1) → lit k / 2 ≤ v
/-- a prefix of length v is right, and each of its ones is forced -/
def se_P (v : Nat) (a : Nat → Nat) : Prop := (∀ j, j < v → se_R lit st ch j a ∧ se_F ff j a) ∧ ∀ j, j < v → a j = 1 → ∀ b, se_S N lit st ch ff b → (∀ i, i < j → b i = a i) → b j = 1
def se_B (v : Nat) (a : Nat → Nat) : Prop := se_P N lit st ch ff v a ∧ se_F ff v a ∧ (∀ b, se_S N lit st ch ff b → (∀ i, i < v + 1 → b i = a i) → False) ∧ (a v = 1 → ∀ b, se_S N lit st ch ff b → (∀ i, i < v → b i = a i) → b v = 1)
end SE
def se_u (a : Nat → Nat) (v x : Nat) : Nat → Nat := fun j => if j = v then x else a j
theorem se_us (a : Nat → Nat) (v x : Nat) : se_u a v x v = x := by unfold se_u; rw [if_pos rfl]
theorem se_un {a : Nat → Nat} {v x j : Nat} (h : j ≠ v) : se_u a v x j = a j := by unfold se_u; rw [if_neg h]
section SE2
variable {N : Nat} {lit st : Nat → Nat} {ch : Nat → List Nat} {ff : Nat → Int32} {v : Nat} {a b : Nat → Nat}
theorem se_Rc (hd : se_D N lit st ch) (hv : v < N) (h : ∀ j, j ≤ v → a j = b j) (hr : se_R lit st ch v a) : se_R lit st ch v b := fun c hc => by
  obtain ⟨k, h1, h2, h3⟩ := hr c hc
  exact ⟨k, h1, h2, by rw [← h _ (hd v hv c hc k h1 h2)]; exact h3⟩
theorem se_Pc (hd : se_D N lit st ch) (hv : v ≤ N) (h : ∀ j, j < v → a j = b j) (hp : se_P N lit st ch ff v a) : se_P N lit st ch ff v b := by
  refine ⟨fun j hj => ⟨se_Rc hd (by omega) (fun i hi => h i (by omega)) (hp.1 j hj).1, ?_⟩, fun j hj h1 s hs he => hp.2 j hj (by rw [h j hj]; exact h1) s hs (fun i hi => by rw [he i hi, h i (by omega)])⟩
  have := (hp.1 j hj).2
  unfold se_F at this ⊢
  rw [← h j hj]
  exact this
/-- the value that is tried first -/
theorem se_first (hd : se_D N lit st ch) (hv : v < N) (hp : se_P N lit st ch ff v a) {x : Nat} (hx : (ff v = 1 ∧ x = 1) ∨ (¬ ff v = 1 ∧ x = 0)) (hff : ff v = -1 ∨ ff v = 0 ∨ ff v = 1) : se_P N lit st ch ff v (se_u a v x) ∧ se_F ff v (se_u a v x) ∧ (se_u a v x v = 1 → ∀ b, se_S N lit st ch ff b → (∀ i, i < v → b i = se_u a v x i) → b v = 1) := by
  refine ⟨se_Pc hd (by omega) (fun j hj => (se_un (by omega)).symm) hp, ?_, ?_⟩
  · unfold se_F
    rw [se_us]
    rcases hx with ⟨h1, rfl⟩ | ⟨h1, rfl⟩
    · exact ⟨by decide, Or.inr h1⟩
    · rcases hff with h | h | h
      · exact ⟨by decide, Or.inl h⟩
      · exact ⟨by decide, Or.inr h⟩
      · exact absurd h h1
  · rw [se_us]
    intro h1 b hb _
    rcases hx with ⟨h2, rfl⟩ | ⟨_, rfl⟩
    · obtain ⟨q1, q2⟩ := (hb.2 v hv).2
      rcases q2 with q | q
      · rw [h2] at q; exact absurd q (by decide)
      · rw [h2] at q
        exact ((nI_eq (a := 1) (b := b v) (by decide) (by omega)).mp q).symm
    · cases h1
theorem se_up (hp : se_P N lit st ch ff v a) (hf : se_F ff v a) (hr : se_R lit st ch v a) (h1 : a v = 1 → ∀ b, se_S N lit st ch ff b → (∀ i, i < v → b i = a i) → b v = 1) : se_P N lit st ch ff (v + 1) a := by
  refine ⟨fun j hj => ?_, fun j hj => ?_⟩
  · rcases Nat.lt_or_ge j v with q | q
    · exact hp.1 j q
    · rw [show j = v by omega]; exact ⟨hr, hf⟩
  · rcases Nat.lt_or_ge j v with q | q
    · exact hp.2 j q
    · rw [show j = v by omega]; exact h1
theorem se_no (hd : se_D N lit st ch) (hv : v < N) (hp : se_P N lit st ch ff v a) (hf : se_F ff v a) (hr : ¬ se_R lit st ch v a) (h1 : a v = 1 → ∀ b, se_S N lit st ch ff b → (∀ i, i < v → b i = a i) → b v = 1) : se_B N lit st ch ff v a :=
  ⟨hp, hf, fun b hb he => hr (se_Rc hd hv (fun j hj => he j (by omega)) (hb.2 v hv).1), h1⟩
/-- the second value -/
theorem se_second (hd : se_D N lit st ch) (hv : v < N) (hb : se_B N lit st ch ff v a) (h0 : ¬ a v = 1) (hff : ff v = -1) : se_P N lit st ch ff v (se_u a v 1) ∧ se_F ff v (se_u a v 1) ∧ (se_u a v 1 v = 1 → ∀ b, se_S N lit st ch ff b → (∀ i, i < v → b i = se_u a v 1 i) → b v = 1) := by
  obtain ⟨hp, hf, hn, _⟩ := hb
  refine ⟨se_Pc hd (by omega) (fun j hj => (se_un (by omega)).symm) hp, ?_, ?_⟩
  · unfold se_F
    rw [se_us]
    exact ⟨by decide, Or.inl hff⟩
  · intro _ b hb he
    have hbv := (hb.2 v hv).2.1
    have hav := hf.1
    refine Classical.byContradiction fun q => hn b hb (fun i hi => ?_)
    rcases Nat.lt_or_ge i v with q2 | q2
    · rw [he i q2, se_un (by omega)]
    · rw [show i = v by omega]; omega
theorem se_none (hv : v < N) (hb : se_B N lit st ch ff v a) (h : a v = 1 ∨ ¬ ff v = -1) : ∀ b, se_S N lit st ch ff b → (∀ i, i < v → b i = a i) → False := by
  obtain ⟨hp, hf, hn, h1⟩ := hb
  intro b hb he
  refine hn b hb (fun i hi => ?_)
  rcases Nat.lt_or_ge i v with q | q
  · exact he i q
  · rw [show i = v by omega]
    rcases h with h | h
    · rw [h]; exact h1 h b hb he
    · have q1 := hf.2.resolve_left h
      have q2 := (hb.2 v hv).2.2.resolve_left h
      have := (hb.2 v hv).2.1
      have := hf.1
      exact (nI_eq (by omega) (by omega)).mp (q2.symm.trans q1)
theorem se_down (hv : v + 1 < N) (hb : se_B N lit st ch ff (v + 1) a) (h : a (v + 1) = 1 ∨ ¬ ff (v + 1) = -1) : se_B N lit st ch ff v a := by
  have hn := se_none hv hb h
  obtain ⟨hp, hf, _, _⟩ := hb
  exact ⟨⟨fun j hj => hp.1 j (by omega), fun j hj => hp.2 j (by omega)⟩, (hp.1 v (by omega)).2, fun b hb he => hn b hb he, hp.2 v (by omega)⟩
end SE2
/-- the search's measure -/
def se_f : Nat → Nat
  | 0 => 1
  | d + 1 => 2 * se_f d + 4
def se_G (N : Nat) (a : Nat → Nat) : Nat → Nat
  | 0 => 0
  | v + 1 => se_G N a v + (if a v = 0 then se_f (N - 1 - v) + 1 else 0) + 1
theorem se_Gu {N : Nat} {a b : Nat → Nat} {v : Nat} (h : ∀ j, j < v → a j = b j) : se_G N a v = se_G N b v := by
  induction v with
  | zero => rfl
  | succ v ih => simp only [se_G]; rw [ih (fun j hj => h j (by omega)), h v (by omega)]
def se_mu (N v bk : Nat) (a : Nat → Nat) : Nat := if bk = 0 then se_f (N - v) + se_G N a v else se_G N a (v + 1)
theorem se_mf {N v : Nat} (hv : v < N) : se_f (N - v) = 2 * se_f (N - 1 - v) + 4 := by
  obtain ⟨d, hd⟩ : ∃ d, N - v = d + 1 := ⟨N - v - 1, by omega⟩
  rw [hd, show N - 1 - v = d by omega]; rfl
theorem se_m1 {N v x : Nat} {a : Nat → Nat} (hv : v < N) : se_mu N (v + 1) 0 (se_u a v x) < se_mu N v 0 a ∧ se_mu N v 1 (se_u a v x) < se_mu N v 0 a := by
  have h1 : se_G N (se_u a v x) v = se_G N a v := se_Gu (fun j hj => se_un (by omega))
  have h2 := se_mf hv
  have h3 : N - (v + 1) = N - 1 - v := by omega
  simp only [se_mu, se_G, h1, se_us, if_true, h3, if_neg (show ¬ (1 : Nat) = 0 by decide)]
  split <;> omega
theorem se_m2 {N v : Nat} {a : Nat → Nat} (hv : v < N) (h0 : a v = 0) : se_mu N (v + 1) 0 (se_u a v 1) < se_mu N v 1 a ∧ se_mu N v 1 (se_u a v 1) < se_mu N v 1 a := by
  have h1 : se_G N (se_u a v 1) v = se_G N a v := se_Gu (fun j hj => se_un (by omega))
  have h3 : N - (v + 1) = N - 1 - v := by omega
  simp only [se_mu, se_G, h1, se_us, if_true, h3, h0, if_neg (show ¬ (1 : Nat) = 0 by decide)]
  omega
theorem se_m3 {N v : Nat} {a : Nat → Nat} : se_mu N v 1 a < se_mu N (v + 1) 1 a := by
  unfold se_mu
  rw [if_neg (by decide), if_neg (by decide)]
  show _ < se_G N a (v + 1) + _ + 1
  omega
end
section
set_option maxHeartbeats 4000000 in
set_option maxRecDepth 100000 in
theorem k_M_thrown (l : Launch) (dC : Nat → ClassId) (dI : Nat → Nat → Nat) (tI sz : Nat) (g0 aL aS aF aN aA aO aV aT : Nat) (nv nc us dr as th : Nat) (co la bl : Int32) : Met l yM_thrown (Cond.code yM_thrown cM_thrown 1 (some .int) :: GG) (lvr 0 0 0) (va_Pc [.ref g0] (wPre dC dI [] [(g0, .inr (2, [.int co, .int (nI nv), .int (nI nc), .ref aL, .int (nI us), .ref aS, .int (nI dr), .ref aF, .ref aN, .ref aA, .int (nI as), .ref aO, .ref aV, .int la, .int bl, .ref aT, .int (nI th)]))] sz tI)) (va_Qi (fun (r : Int32) (u : Unit) => r = co) (fun u t => wB dC dI [] (va_A [(g0, .inr (2, [.int co, .int (nI nv), .int (nI nc), .ref aL, .int (nI us), .ref aS, .int (nI dr), .ref aF, .ref aN, .ref aA, .int (nI as), .ref aO, .ref aV, .int la, .int bl, .ref aT, .int (nI th)]))] sz) [(g0, .inr (2, [.int co, .int (nI nv), .int (nI nc), .ref aL, .int (nI us), .ref aS, .int (nI dr), .ref aF, .ref aN, .ref aA, .int (nI as), .ref aO, .ref aV, .int la, .int bl, .ref aT, .int (nI th)]))] t) (va_A [(g0, .inr (2, [.int co, .int (nI nv), .int (nI nc), .ref aL, .int (nI us), .ref aS, .int (nI dr), .ref aF, .ref aN, .ref aA, .int (nI as), .ref aO, .ref aV, .int la, .int bl, .ref aT, .int (nI th)]))] sz)) 0 0 (va_A [(g0, .inr (2, [.int co, .int (nI nv), .int (nI nc), .ref aL, .int (nI us), .ref aS, .int (nI dr), .ref aF, .ref aN, .ref aA, .int (nI as), .ref aO, .ref aV, .int la, .int bl, .ref aT, .int (nI th)]))] sz) := by
  refine Met.ofW (cc := cM_thrown) (maxL := 1) (ret := (some .int)) (by decide) rfl ?_
  intro p e s m args below meth c s₁ B hml hv
  obtain ⟨rfl, hsz, hP, hK, hD0, hZ, hX⟩ := hv
  have hx := B.exec
  have hb := B.bytes
  have hr := B.returns
  have hts : ∀ w ∈ GG, w.before ([.ref g0] : List Value).toArray s = true := fun w h => atoms_spec (ws := _ :: GG) B.pre w (List.mem_cons_of_mem _ h)
  have hown : s.vm.findClass RM = some m.cls := findClass_of_methodNamed B.named
  have hlocks := B.notSynchronized
  subst hsz
  have hD := hD0.self (sz := s.heap.size)
  generalize hAe : va_A [(g0, .inr (2, [.int co, .int (nI nv), .int (nI nc), .ref aL, .int (nI us), .ref aS, .int (nI dr), .ref aF, .ref aN, .ref aA, .int (nI as), .ref aO, .ref aV, .int la, .int bl, .ref aT, .int (nI th)]))] s.heap.size = A at hD hZ ⊢
  have hA : ∀ q : Nat, s.heap.size ≤ q → A q := fun q h => by rw [← hAe]; exact Or.inr h
  have hS : va_S A s.heap s.heap [] := va_S.rf
  have hl := lv_entry ([.ref g0]) (n := 1) (Nat.le_of_ble_eq_true rfl)
  rw [lg_entry_eq]
  generalize (lg_sl ([.ref g0]) ++ List.replicate (1 - (lg_sl ([.ref g0])).length) Slot.unset).toArray = ls at hl ⊢
  have hl : lv_has ls 1 [(0, .ref g0)] := hl
  have SF : CallFix p m c cM_thrown 1 s ([.ref g0] : List Value).toArray GG RM := ⟨hx, hb, hml, hown, hts⟩
  skip
  have hP : va_P (dC, dI) vwCl [(g0, .inr (2, [.int co, .int (nI nv), .int (nI nc), .ref aL, .int (nI us), .ref aS, .int (nI dr), .ref aF, .ref aN, .ref aA, .int (nI as), .ref aO, .ref aV, .int la, .int bl, .ref aT, .int (nI th)]))] s.heap := hP
  refine lv_aload_n hx hb dM_thrown_0 rfl (lv_at hl 0 rfl) ?_
  refine va_get (D := (dC, dI)) (ci := 2) (v := .int co) (C := RM) (T := TM) (N := 17) hx hb hts lyM hown hK hP 0 rfl rfl 0 (by decide) (hts _ fl_M_37) (fun _ h9 => h9) rfl dM_thrown_1 ?_
  exact (W.iret (v := co) hx hb hr (fun t ht hW => ⟨⟨co, (), rfl, rfl, by rw [ht]; exact hP, va_K.moved hW.alike hK, hD⟩, hS.F ht⟩) hS.2.2 dM_thrown_4)
set_option maxHeartbeats 4000000 in
set_option maxRecDepth 100000 in
theorem k_M_clearAll (l : Launch) (dC : Nat → ClassId) (dI : Nat → Nat → Nat) (tI sz : Nat) (g0 aL aS aF aN aA aO aV aT : Nat) (kF : ClassId) (ff : Nat → Int32) (i0 i1 i2 i4 i6 i10 i13 i14 i16 : Int32) : Met l yM_clearAll (Cond.code yM_clearAll cM_clearAll 2 none :: GG) (lvr 0 0 0) (va_Pc [.ref g0] (wPre dC dI [(kF, .int)] [(g0, .inr (2, [.int i0, .int i1, .int i2, .ref aL, .int i4, .ref aS, .int i6, .ref aF, .ref aN, .ref aA, .int i10, .ref aO, .ref aV, .int i13, .int i14, .ref aT, .int i16])), (aF, .inl (kF, 17, .inl ff))] sz tI)) (va_Qv (fun (u : Nat → Int32) => ∀ k, k < 17 → u k = -1) (fun u t => wB dC dI [(kF, .int)] (va_A [(g0, .inr (2, [.int i0, .int i1, .int i2, .ref aL, .int i4, .ref aS, .int i6, .ref aF, .ref aN, .ref aA, .int i10, .ref aO, .ref aV, .int i13, .int i14, .ref aT, .int i16])), (aF, .inl (kF, 17, .inl ff))] sz) [(g0, .inr (2, [.int i0, .int 0, .int 0, .ref aL, .int 0, .ref aS, .int 0, .ref aF, .ref aN, .ref aA, .int 0, .ref aO, .ref aV, .int 0, .int i14, .ref aT, .int 0])), (aF, .inl (kF, 17, .inl u))] t) (va_A [(g0, .inr (2, [.int i0, .int i1, .int i2, .ref aL, .int i4, .ref aS, .int i6, .ref aF, .ref aN, .ref aA, .int i10, .ref aO, .ref aV, .int i13, .int i14, .ref aT, .int i16])), (aF, .inl (kF, 17, .inl ff))] sz)) 0 0 (va_A [(g0, .inr (2, [.int i0, .int i1, .int i2, .ref aL, .int i4, .ref aS, .int i6, .ref aF, .ref aN, .ref aA, .int i10, .ref aO, .ref aV, .int i13, .int i14, .ref aT, .int i16])), (aF, .inl (kF, 17, .inl ff))] sz) := by
  refine Met.ofW (cc := cM_clearAll) (maxL := 2) (ret := none) (by decide) rfl ?_
  intro p e s m args below meth c s₁ B hml hv
  obtain ⟨rfl, hsz, hP, hK, hD0, hZ, hX⟩ := hv
  have hx := B.exec
  have hb := B.bytes
  have hr := B.returns
  have hts : ∀ w ∈ GG, w.before ([.ref g0] : List Value).toArray s = true := fun w h => atoms_spec (ws := _ :: GG) B.pre w (List.mem_cons_of_mem _ h)
  have hown : s.vm.findClass RM = some m.cls := findClass_of_methodNamed B.named
  have hlocks := B.notSynchronized
  subst hsz
  have hD := hD0.self (sz := s.heap.size)
  generalize hAe : va_A [(g0, .inr (2, [.int i0, .int i1, .int i2, .ref aL, .int i4, .ref aS, .int i6, .ref aF, .ref aN, .ref aA, .int i10, .ref aO, .ref aV, .int i13, .int i14, .ref aT, .int i16])), (aF, .inl (kF, 17, .inl ff))] s.heap.size = A at hD hZ ⊢
  have hA : ∀ q : Nat, s.heap.size ≤ q → A q := fun q h => by rw [← hAe]; exact Or.inr h
  have hS : va_S A s.heap s.heap [] := va_S.rf
  have hl := lv_entry ([.ref g0]) (n := 2) (Nat.le_of_ble_eq_true rfl)
  rw [lg_entry_eq]
  generalize (lg_sl ([.ref g0]) ++ List.replicate (2 - (lg_sl ([.ref g0])).length) Slot.unset).toArray = ls at hl ⊢
  have hl : lv_has ls 2 [(0, .ref g0)] := hl
  have SF : CallFix p m c cM_clearAll 2 s ([.ref g0] : List Value).toArray GG RM := ⟨hx, hb, hml, hown, hts⟩
  skip
  have hP : va_P (dC, dI) vwCl [(g0, .inr (2, [.int i0, .int i1, .int i2, .ref aL, .int i4, .ref aS, .int i6, .ref aF, .ref aN, .ref aA, .int i10, .ref aO, .ref aV, .int i13, .int i14, .ref aT, .int i16])), (aF, .inl (kF, 17, .inl ff))] s.heap := hP
  refine lv_aload_n hx hb dM_clearAll_0 rfl (lv_at hl 0 rfl) ?_
  refine lv_iconst (v := 0) hx hb dM_clearAll_1 (by decide) ?_
  refine va_put (D := (dC, dI)) (ci := 2) (v := .int 0) (ty := .int) (C := RM) (T := TM) (N := 17) hx hb hts lyM tyM tyM_ok nmM hown hK hP hD hS 0 rfl rfl 1 (by decide) (hts _ fl_M_41) (fun _ h9 => h9) rfl (by decide +kernel) rfl rfl (Nat.le_of_ble_eq_true rfl) dM_clearAll_2 (fun H locs hP hD hS => ?_)
  have hP : va_P (dC, dI) vwCl [(g0, .inr (2, [.int i0, .int 0, .int i2, .ref aL, .int i4, .ref aS, .int i6, .ref aF, .ref aN, .ref aA, .int i10, .ref aO, .ref aV, .int i13, .int i14, .ref aT, .int i16])), (aF, .inl (kF, 17, .inl ff))] H := hP
  have hD : va_D A [(g0, .inr (2, [.int i0, .int 0, .int i2, .ref aL, .int i4, .ref aS, .int i6, .ref aF, .ref aN, .ref aA, .int i10, .ref aO, .ref aV, .int i13, .int i14, .ref aT, .int i16])), (aF, .inl (kF, 17, .inl ff))] := hD
  refine lv_aload_n hx hb dM_clearAll_5 rfl (lv_at hl 0 rfl) ?_
  refine lv_iconst (v := 0) hx hb dM_clearAll_6 (by decide) ?_
  refine va_put (D := (dC, dI)) (ci := 2) (v := .int 0) (ty := .int) (C := RM) (T := TM) (N := 17) hx hb hts lyM tyM tyM_ok nmM hown hK hP hD hS 0 rfl rfl 2 (by decide) (hts _ fl_M_44) (fun _ h9 => h9) rfl (by decide +kernel) rfl rfl (Nat.le_of_ble_eq_true rfl) dM_clearAll_7 (fun H locs hP hD hS => ?_)
  have hP : va_P (dC, dI) vwCl [(g0, .inr (2, [.int i0, .int 0, .int 0, .ref aL, .int i4, .ref aS, .int i6, .ref aF, .ref aN, .ref aA, .int i10, .ref aO, .ref aV, .int i13, .int i14, .ref aT, .int i16])), (aF, .inl (kF, 17, .inl ff))] H := hP
  have hD : va_D A [(g0, .inr (2, [.int i0, .int 0, .int 0, .ref aL, .int i4, .ref aS, .int i6, .ref aF, .ref aN, .ref aA, .int i10, .ref aO, .ref aV, .int i13, .int i14, .ref aT, .int i16])), (aF, .inl (kF, 17, .inl ff))] := hD
  refine lv_aload_n hx hb dM_clearAll_10 rfl (lv_at hl 0 rfl) ?_
  refine lv_iconst (v := 0) hx hb dM_clearAll_11 (by decide) ?_
  refine va_put (D := (dC, dI)) (ci := 2) (v := .int 0) (ty := .int) (C := RM) (T := TM) (N := 17) hx hb hts lyM tyM tyM_ok nmM hown hK hP hD hS 0 rfl rfl 4 (by decide) (hts _ fl_M_47) (fun _ h9 => h9) rfl (by decide +kernel) rfl rfl (Nat.le_of_ble_eq_true rfl) dM_clearAll_12 (fun H locs hP hD hS => ?_)
  have hP : va_P (dC, dI) vwCl [(g0, .inr (2, [.int i0, .int 0, .int 0, .ref aL, .int 0, .ref aS, .int i6, .ref aF, .ref aN, .ref aA, .int i10, .ref aO, .ref aV, .int i13, .int i14, .ref aT, .int i16])), (aF, .inl (kF, 17, .inl ff))] H := hP
  have hD : va_D A [(g0, .inr (2, [.int i0, .int 0, .int 0, .ref aL, .int 0, .ref aS, .int i6, .ref aF, .ref aN, .ref aA, .int i10, .ref aO, .ref aV, .int i13, .int i14, .ref aT, .int i16])), (aF, .inl (kF, 17, .inl ff))] := hD
  refine lv_aload_n hx hb dM_clearAll_15 rfl (lv_at hl 0 rfl) ?_
  refine lv_iconst (v := 0) hx hb dM_clearAll_16 (by decide) ?_
  refine va_put (D := (dC, dI)) (ci := 2) (v := .int 0) (ty := .int) (C := RM) (T := TM) (N := 17) hx hb hts lyM tyM tyM_ok nmM hown hK hP hD hS 0 rfl rfl 6 (by decide) (hts _ fl_M_50) (fun _ h9 => h9) rfl (by decide +kernel) rfl rfl (Nat.le_of_ble_eq_true rfl) dM_clearAll_17 (fun H locs hP hD hS => ?_)
  have hP : va_P (dC, dI) vwCl [(g0, .inr (2, [.int i0, .int 0, .int 0, .ref aL, .int 0, .ref aS, .int 0, .ref aF, .ref aN, .ref aA, .int i10, .ref aO, .ref aV, .int i13, .int i14, .ref aT, .int i16])), (aF, .inl (kF, 17, .inl ff))] H := hP
  have hD : va_D A [(g0, .inr (2, [.int i0, .int 0, .int 0, .ref aL, .int 0, .ref aS, .int 0, .ref aF, .ref aN, .ref aA, .int i10, .ref aO, .ref aV, .int i13, .int i14, .ref aT, .int i16])), (aF, .inl (kF, 17, .inl ff))] := hD
  refine lv_aload_n hx hb dM_clearAll_20 rfl (lv_at hl 0 rfl) ?_
  refine lv_iconst (v := 0) hx hb dM_clearAll_21 (by decide) ?_
  refine va_put (D := (dC, dI)) (ci := 2) (v := .int 0) (ty := .int) (C := RM) (T := TM) (N := 17) hx hb hts lyM tyM tyM_ok nmM hown hK hP hD hS 0 rfl rfl 10 (by decide) (hts _ fl_M_53) (fun _ h9 => h9) rfl (by decide +kernel) rfl rfl (Nat.le_of_ble_eq_true rfl) dM_clearAll_22 (fun H locs hP hD hS => ?_)
  have hP : va_P (dC, dI) vwCl [(g0, .inr (2, [.int i0, .int 0, .int 0, .ref aL, .int 0, .ref aS, .int 0, .ref aF, .ref aN, .ref aA, .int 0, .ref aO, .ref aV, .int i13, .int i14, .ref aT, .int i16])), (aF, .inl (kF, 17, .inl ff))] H := hP
  have hD : va_D A [(g0, .inr (2, [.int i0, .int 0, .int 0, .ref aL, .int 0, .ref aS, .int 0, .ref aF, .ref aN, .ref aA, .int 0, .ref aO, .ref aV, .int i13, .int i14, .ref aT, .int i16])), (aF, .inl (kF, 17, .inl ff))] := hD
  refine lv_aload_n hx hb dM_clearAll_25 rfl (lv_at hl 0 rfl) ?_
  refine lv_iconst (v := 0) hx hb dM_clearAll_26 (by decide) ?_
  refine va_put (D := (dC, dI)) (ci := 2) (v := .int 0) (ty := .int) (C := RM) (T := TM) (N := 17) hx hb hts lyM tyM tyM_ok nmM hown hK hP hD hS 0 rfl rfl 13 (by decide) (hts _ fl_M_56) (fun _ h9 => h9) rfl (by decide +kernel) rfl rfl (Nat.le_of_ble_eq_true rfl) dM_clearAll_27 (fun H locs hP hD hS => ?_)
  have hP : va_P (dC, dI) vwCl [(g0, .inr (2, [.int i0, .int 0, .int 0, .ref aL, .int 0, .ref aS, .int 0, .ref aF, .ref aN, .ref aA, .int 0, .ref aO, .ref aV, .int 0, .int i14, .ref aT, .int i16])), (aF, .inl (kF, 17, .inl ff))] H := hP
  have hD : va_D A [(g0, .inr (2, [.int i0, .int 0, .int 0, .ref aL, .int 0, .ref aS, .int 0, .ref aF, .ref aN, .ref aA, .int 0, .ref aO, .ref aV, .int 0, .int i14, .ref aT, .int i16])), (aF, .inl (kF, 17, .inl ff))] := hD
  refine lv_aload_n hx hb dM_clearAll_30 rfl (lv_at hl 0 rfl) ?_
  refine lv_iconst (v := 0) hx hb dM_clearAll_31 (by decide) ?_
  refine va_put (D := (dC, dI)) (ci := 2) (v := .int 0) (ty := .int) (C := RM) (T := TM) (N := 17) hx hb hts lyM tyM tyM_ok nmM hown hK hP hD hS 0 rfl rfl 16 (by decide) (hts _ fl_M_59) (fun _ h9 => h9) rfl (by decide +kernel) rfl rfl (Nat.le_of_ble_eq_true rfl) dM_clearAll_32 (fun H locs hP hD hS => ?_)
  have hP : va_P (dC, dI) vwCl [(g0, .inr (2, [.int i0, .int 0, .int 0, .ref aL, .int 0, .ref aS, .int 0, .ref aF, .ref aN, .ref aA, .int 0, .ref aO, .ref aV, .int 0, .int i14, .ref aT, .int 0])), (aF, .inl (kF, 17, .inl ff))] H := hP
  have hD : va_D A [(g0, .inr (2, [.int i0, .int 0, .int 0, .ref aL, .int 0, .ref aS, .int 0, .ref aF, .ref aN, .ref aA, .int 0, .ref aO, .ref aV, .int 0, .int i14, .ref aT, .int 0])), (aF, .inl (kF, 17, .inl ff))] := hD
  refine lv_iconst (v := 0) hx hb dM_clearAll_35 (by decide) ?_
  refine lv_istore_n (lv' := [(1, .int 0), (0, .ref g0)]) hx hb dM_clearAll_36 rfl hl (by decide) rfl (fun ls hl => ?_)
  refine lp_mu (α := Nat × (Nat → Int32)) (fun a_ => match a_ with | (i, g) => 17 - i) (fun a_ H locs ls => match a_ with | (i, g) => (i ≤ 17 ∧ ∀ k, k < i → g k = -1) ∧ va_P (dC, dI) vwCl [(g0, .inr (2, [.int i0, .int 0, .int 0, .ref aL, .int 0, .ref aS, .int 0, .ref aF, .ref aN, .ref aA, .int 0, .ref aO, .ref aV, .int 0, .int i14, .ref aT, .int 0])), (aF, .inl (kF, 17, .inl g))] H ∧ va_D A [(g0, .inr (2, [.int i0, .int 0, .int 0, .ref aL, .int 0, .ref aS, .int 0, .ref aF, .ref aN, .ref aA, .int 0, .ref aO, .ref aV, .int 0, .int i14, .ref aT, .int 0])), (aF, .inl (kF, 17, .inl g))] ∧ va_S A s.heap H locs ∧ lv_has ls 2 [(0, .ref g0), (1, .int (nI i))]) ?_ (0, ff) ⟨⟨Nat.zero_le _, fun k hk => absurd hk (Nat.not_lt_zero _)⟩, hP, hD, hS, lv_sub hl [1, 0] rfl⟩
  intro a_ H locs ls hI ih
  obtain ⟨i, g⟩ := a_
  obtain ⟨hI, hP, hD, hS, hl⟩ := hI
  have hI : i ≤ 17 ∧ ∀ k, k < i → g k = -1 := hI
  have hP : va_P (dC, dI) vwCl [(g0, .inr (2, [.int i0, .int 0, .int 0, .ref aL, .int 0, .ref aS, .int 0, .ref aF, .ref aN, .ref aA, .int 0, .ref aO, .ref aV, .int 0, .int i14, .ref aT, .int 0])), (aF, .inl (kF, 17, .inl g))] H := hP
  have hD : va_D A [(g0, .inr (2, [.int i0, .int 0, .int 0, .ref aL, .int 0, .ref aS, .int 0, .ref aF, .ref aN, .ref aA, .int 0, .ref aO, .ref aV, .int 0, .int i14, .ref aT, .int 0])), (aF, .inl (kF, 17, .inl g))] := hD
  have hl : lv_has ls 2 [(0, .ref g0), (1, .int (nI i))] := hl
  obtain ⟨hi, hg⟩ := hI
  refine lv_iload_n hx hb dM_clearAll_37 rfl (lv_at hl 1 rfl) ?_
  refine lv_bipush (v := 17) hx hb dM_clearAll_38 (by decide) ?_
  refine lv_icmp_ge (tgt := 56) hx hb dM_clearAll_40 (by decide) (fun c1 => ?_) (fun c1 => ?_)
  · have c1 : 17 ≤ i := (nI_leI (a := 17) (b := i) (by omega) (by omega)).mp c1
    exact (W.vret hx hb hr (fun t ht hW => ⟨⟨g, rfl, fun k hk => hg k (by omega), by rw [ht]; exact hP, va_K.moved hW.alike hK, hD⟩, hS.F ht⟩) hS.2.2 dM_clearAll_56)
  · have c1 : i < 17 := Nat.lt_of_not_le (fun q => c1 ((nI_leI (a := 17) (b := i) (by omega) (by omega)).mpr q))
    refine lv_aload_n hx hb dM_clearAll_43 rfl (lv_at hl 0 rfl) ?_
    refine va_get (D := (dC, dI)) (ci := 2) (v := .ref aF) (C := RM) (T := TM) (N := 17) hx hb hts lyM hown hK hP 0 rfl rfl 7 (by decide) (hts _ fl_M_16) (fun _ h9 => h9) rfl dM_clearAll_44 ?_
    refine lv_iload_n hx hb dM_clearAll_47 rfl (lv_at hl 1 rfl) ?_
    refine lv_iconst (v := (-1)) hx hb dM_clearAll_48 (by decide) ?_
    refine va_iast hx hb hK hP hD hS 1 0 rfl rfl (vp_in_nI (by omega) (by decide)) dM_clearAll_49 (fun H locs hP hD hS => ?_)
    rw [show upd g (nI i).toNatClampNeg (-1) = upd g i (-1) from by rw [nI_clamp (by omega)]] at hP hD
    have hP : va_P (dC, dI) vwCl [(g0, .inr (2, [.int i0, .int 0, .int 0, .ref aL, .int 0, .ref aS, .int 0, .ref aF, .ref aN, .ref aA, .int 0, .ref aO, .ref aV, .int 0, .int i14, .ref aT, .int 0])), (aF, .inl (kF, 17, .inl (upd g i (-1))))] H := hP
    have hD : va_D A [(g0, .inr (2, [.int i0, .int 0, .int 0, .ref aL, .int 0, .ref aS, .int 0, .ref aF, .ref aN, .ref aA, .int 0, .ref aO, .ref aV, .int 0, .int i14, .ref aT, .int 0])), (aF, .inl (kF, 17, .inl (upd g i (-1))))] := hD
    refine lv_iinc (v := nI (i + 1)) (lv' := [(1, .int (nI (i + 1))), (0, .ref g0)]) hx hb dM_clearAll_50 hl (k := 1) rfl (nI_1 _) (by decide) rfl (fun ls hl => ?_)
    refine lv_goto (tgt := 37) hx hb dM_clearAll_53 (by decide) ?_
    exact ih (i + 1, upd g i (-1)) _ _ _ (by show 17 - (i + 1) < 17 - i; omega) ⟨⟨c1, fun k hk => by
        unfold upd
        by_cases q : k = i
        · rw [if_pos q]
        · rw [if_neg q]; exact hg k (by omega)⟩, hP, hD, hS, lv_sub hl [1, 0] rfl⟩
set_option maxHeartbeats 4000000 in
set_option maxRecDepth 100000 in
theorem k_M_clear (l : Launch) (dC : Nat → ClassId) (dI : Nat → Nat → Nat) (tI sz : Nat) (g0 aL aS aF aN aA aO aV aT : Nat) (kF : ClassId) (ff : Nat → Int32) (i0 i1 i2 i4 i6 i10 i13 i14 i16 : Int32) : Met l yM_clear (Cond.code yM_clear cM_clear 1 none :: GG) (lvr 1 0 0) (va_Pc [.ref g0] (wPre dC dI [(kF, .int)] [(g0, .inr (2, [.int i0, .int i1, .int i2, .ref aL, .int i4, .ref aS, .int i6, .ref aF, .ref aN, .ref aA, .int i10, .ref aO, .ref aV, .int i13, .int i14, .ref aT, .int i16])), (aF, .inl (kF, 17, .inl ff))] sz tI)) (va_Qv (fun (u : Nat → Int32) => ∀ k, k < 17 → u k = -1) (fun u t => wB dC dI [(kF, .int)] (va_A [(g0, .inr (2, [.int i0, .int i1, .int i2, .ref aL, .int i4, .ref aS, .int i6, .ref aF, .ref aN, .ref aA, .int i10, .ref aO, .ref aV, .int i13, .int i14, .ref aT, .int i16])), (aF, .inl (kF, 17, .inl ff))] sz) [(g0, .inr (2, [.int 0, .int 0, .int 0, .ref aL, .int 0, .ref aS, .int 0, .ref aF, .ref aN, .ref aA, .int 0, .ref aO, .ref aV, .int 0, .int i14, .ref aT, .int 0])), (aF, .inl (kF, 17, .inl u))] t) (va_A [(g0, .inr (2, [.int i0, .int i1, .int i2, .ref aL, .int i4, .ref aS, .int i6, .ref aF, .ref aN, .ref aA, .int i10, .ref aO, .ref aV, .int i13, .int i14, .ref aT, .int i16])), (aF, .inl (kF, 17, .inl ff))] sz)) 0 0 (va_A [(g0, .inr (2, [.int i0, .int i1, .int i2, .ref aL, .int i4, .ref aS, .int i6, .ref aF, .ref aN, .ref aA, .int i10, .ref aO, .ref aV, .int i13, .int i14, .ref aT, .int i16])), (aF, .inl (kF, 17, .inl ff))] sz) := by
  refine Met.ofW (cc := cM_clear) (maxL := 1) (ret := none) (by decide) rfl ?_
  intro p e s m args below meth c s₁ B hml hv
  obtain ⟨rfl, hsz, hP, hK, hD0, hZ, hX⟩ := hv
  have hx := B.exec
  have hb := B.bytes
  have hr := B.returns
  have hts : ∀ w ∈ GG, w.before ([.ref g0] : List Value).toArray s = true := fun w h => atoms_spec (ws := _ :: GG) B.pre w (List.mem_cons_of_mem _ h)
  have hown : s.vm.findClass RM = some m.cls := findClass_of_methodNamed B.named
  have hlocks := B.notSynchronized
  subst hsz
  have hD := hD0.self (sz := s.heap.size)
  generalize hAe : va_A [(g0, .inr (2, [.int i0, .int i1, .int i2, .ref aL, .int i4, .ref aS, .int i6, .ref aF, .ref aN, .ref aA, .int i10, .ref aO, .ref aV, .int i13, .int i14, .ref aT, .int i16])), (aF, .inl (kF, 17, .inl ff))] s.heap.size = A at hD hZ ⊢
  have hA : ∀ q : Nat, s.heap.size ≤ q → A q := fun q h => by rw [← hAe]; exact Or.inr h
  have hS : va_S A s.heap s.heap [] := va_S.rf
  have hl := lv_entry ([.ref g0]) (n := 1) (Nat.le_of_ble_eq_true rfl)
  rw [lg_entry_eq]
  generalize (lg_sl ([.ref g0]) ++ List.replicate (1 - (lg_sl ([.ref g0])).length) Slot.unset).toArray = ls at hl ⊢
  have hl : lv_has ls 1 [(0, .ref g0)] := hl
  have SF : CallFix p m c cM_clear 1 s ([.ref g0] : List Value).toArray GG RM := ⟨hx, hb, hml, hown, hts⟩
  skip
  have hP : va_P (dC, dI) vwCl [(g0, .inr (2, [.int i0, .int i1, .int i2, .ref aL, .int i4, .ref aS, .int i6, .ref aF, .ref aN, .ref aA, .int i10, .ref aO, .ref aV, .int i13, .int i14, .ref aT, .int i16])), (aF, .inl (kF, 17, .inl ff))] s.heap := hP
  refine lv_aload_n hx hb dM_clear_0 rfl (lv_at hl 0 rfl) ?_
  refine lv_iconst (v := 0) hx hb dM_clear_1 (by decide) ?_
  refine va_put (D := (dC, dI)) (ci := 2) (v := .int 0) (ty := .int) (C := RM) (T := TM) (N := 17) hx hb hts lyM tyM tyM_ok nmM hown hK hP hD hS 0 rfl rfl 0 (by decide) (hts _ fl_M_37) (fun _ h9 => h9) rfl (by decide +kernel) rfl rfl (Nat.le_of_ble_eq_true rfl) dM_clear_2 (fun H locs hP hD hS => ?_)
  have hP : va_P (dC, dI) vwCl [(g0, .inr (2, [.int 0, .int i1, .int i2, .ref aL, .int i4, .ref aS, .int i6, .ref aF, .ref aN, .ref aA, .int i10, .ref aO, .ref aV, .int i13, .int i14, .ref aT, .int i16])), (aF, .inl (kF, 17, .inl ff))] H := hP
  have hD : va_D A [(g0, .inr (2, [.int 0, .int i1, .int i2, .ref aL, .int i4, .ref aS, .int i6, .ref aF, .ref aN, .ref aA, .int i10, .ref aO, .ref aV, .int i13, .int i14, .ref aT, .int i16])), (aF, .inl (kF, 17, .inl ff))] := hD
  refine lv_aload_n hx hb dM_clear_5 rfl (lv_at hl 0 rfl) ?_
  have hFc := va_free (wc := [(g0, .inr (2, [.int 0, .int i1, .int i2, .ref aL, .int i4, .ref aS, .int i6, .ref aF, .ref aN, .ref aA, .int i10, .ref aO, .ref aV, .int i13, .int i14, .ref aT, .int i16])), (aF, .inl (kF, 17, .inl ff))]) hD hS hA [0, 1] rfl
  refine wc_v (wc_V (As := []) (rest := []) (n := 0) SF (k_M_clearAll l dC dI tI _ g0 aL aS aF aN aA aO aV aT kF ff 0 i1 i2 i4 i6 i10 i13 i14 i16) ml_M_34 im_M_clearAll se_M_clearAll in_M co_M_clearAll (by decide +kernel) rfl rfl rfl ⟨Nat.le_of_ble_eq_true rfl, Nat.le_of_ble_eq_true rfl⟩ (va_recv (hK.sub (tys' := []) [] rfl) (hP.sub (ws' := [(g0, .inr (2, [.int 0, .int i1, .int i2, .ref aL, .int i4, .ref aS, .int i6, .ref aF, .ref aN, .ref aA, .int i10, .ref aO, .ref aV, .int i13, .int i14, .ref aT, .int i16])), (aF, .inl (kF, 17, .inl ff))]) [0, 1] rfl) (ci := 2) (q0 := 0) rfl rfl) (hP.sub [0, 1] rfl) (hD.sub [0, 1] (by decide) rfl) (hK.sub [0] rfl) hZ hX hS hFc rfl hl.1 (Nat.le_of_ble_eq_true rfl) dM_clear_6 ⟨Nat.le_of_ble_eq_true rfl, Nat.le_of_ble_eq_true rfl⟩) hP hD hS hFc [0, 1] [] (wr := []) rfl rfl rfl (by decide) (fun uu H locs hw hP hD hS => ?_)
  have hP : va_P (dC, dI) vwCl [(g0, .inr (2, [.int 0, .int 0, .int 0, .ref aL, .int 0, .ref aS, .int 0, .ref aF, .ref aN, .ref aA, .int 0, .ref aO, .ref aV, .int 0, .int i14, .ref aT, .int 0])), (aF, .inl (kF, 17, .inl uu))] H := hP.sub [0, 1] rfl
  have hD : va_D A [(g0, .inr (2, [.int 0, .int 0, .int 0, .ref aL, .int 0, .ref aS, .int 0, .ref aF, .ref aN, .ref aA, .int 0, .ref aO, .ref aV, .int 0, .int i14, .ref aT, .int 0])), (aF, .inl (kF, 17, .inl uu))] := hD.sub [0, 1] (by decide) rfl
  exact (W.vret hx hb hr (fun t ht hW => ⟨⟨uu, rfl, hw, by rw [ht]; exact hP, va_K.moved hW.alike hK, hD⟩, hS.F ht⟩) hS.2.2 dM_clear_9)
set_option maxHeartbeats 4000000 in
set_option maxRecDepth 100000 in
theorem k_M_variable (l : Launch) (dC : Nat → ClassId) (dI : Nat → Nat → Nat) (tI sz : Nat) (g0 aL aS aF aN aA aO aV aT : Nat) (nv nc us dr as th : Nat) (co la bl : Int32) (hnv : nv ≤ 16) : Met l yM_variable (Cond.code yM_variable cM_variable 1 (some .int) :: GG) (lvr 0 0 0) (va_Pc [.ref g0] (wPre dC dI [] [(g0, .inr (2, [.int co, .int (nI nv), .int (nI nc), .ref aL, .int (nI us), .ref aS, .int (nI dr), .ref aF, .ref aN, .ref aA, .int (nI as), .ref aO, .ref aV, .int la, .int bl, .ref aT, .int (nI th)]))] sz tI)) (va_Qi (fun (r : Int32) (u : Int32 × Nat) => (nv = 16 ∧ u = (1, nv)) ∨ (nv < 16 ∧ u = (0, nv + 1) ∧ r = nI nv)) (fun u t => wB dC dI [] (va_A [(g0, .inr (2, [.int co, .int (nI nv), .int (nI nc), .ref aL, .int (nI us), .ref aS, .int (nI dr), .ref aF, .ref aN, .ref aA, .int (nI as), .ref aO, .ref aV, .int la, .int bl, .ref aT, .int (nI th)]))] sz) [(g0, .inr (2, [.int u.1, .int (nI u.2), .int (nI nc), .ref aL, .int (nI us), .ref aS, .int (nI dr), .ref aF, .ref aN, .ref aA, .int (nI as), .ref aO, .ref aV, .int la, .int bl, .ref aT, .int (nI th)]))] t) (va_A [(g0, .inr (2, [.int co, .int (nI nv), .int (nI nc), .ref aL, .int (nI us), .ref aS, .int (nI dr), .ref aF, .ref aN, .ref aA, .int (nI as), .ref aO, .ref aV, .int la, .int bl, .ref aT, .int (nI th)]))] sz)) 0 0 (va_A [(g0, .inr (2, [.int co, .int (nI nv), .int (nI nc), .ref aL, .int (nI us), .ref aS, .int (nI dr), .ref aF, .ref aN, .ref aA, .int (nI as), .ref aO, .ref aV, .int la, .int bl, .ref aT, .int (nI th)]))] sz) := by
  refine Met.ofW (cc := cM_variable) (maxL := 1) (ret := (some .int)) (by decide) rfl ?_
  intro p e s m args below meth c s₁ B hml hv
  obtain ⟨rfl, hsz, hP, hK, hD0, hZ, hX⟩ := hv
  have hx := B.exec
  have hb := B.bytes
  have hr := B.returns
  have hts : ∀ w ∈ GG, w.before ([.ref g0] : List Value).toArray s = true := fun w h => atoms_spec (ws := _ :: GG) B.pre w (List.mem_cons_of_mem _ h)
  have hown : s.vm.findClass RM = some m.cls := findClass_of_methodNamed B.named
  have hlocks := B.notSynchronized
  subst hsz
  have hD := hD0.self (sz := s.heap.size)
  generalize hAe : va_A [(g0, .inr (2, [.int co, .int (nI nv), .int (nI nc), .ref aL, .int (nI us), .ref aS, .int (nI dr), .ref aF, .ref aN, .ref aA, .int (nI as), .ref aO, .ref aV, .int la, .int bl, .ref aT, .int (nI th)]))] s.heap.size = A at hD hZ ⊢
  have hA : ∀ q : Nat, s.heap.size ≤ q → A q := fun q h => by rw [← hAe]; exact Or.inr h
  have hS : va_S A s.heap s.heap [] := va_S.rf
  have hl := lv_entry ([.ref g0]) (n := 1) (Nat.le_of_ble_eq_true rfl)
  rw [lg_entry_eq]
  generalize (lg_sl ([.ref g0]) ++ List.replicate (1 - (lg_sl ([.ref g0])).length) Slot.unset).toArray = ls at hl ⊢
  have hl : lv_has ls 1 [(0, .ref g0)] := hl
  have SF : CallFix p m c cM_variable 1 s ([.ref g0] : List Value).toArray GG RM := ⟨hx, hb, hml, hown, hts⟩
  skip
  have hP : va_P (dC, dI) vwCl [(g0, .inr (2, [.int co, .int (nI nv), .int (nI nc), .ref aL, .int (nI us), .ref aS, .int (nI dr), .ref aF, .ref aN, .ref aA, .int (nI as), .ref aO, .ref aV, .int la, .int bl, .ref aT, .int (nI th)]))] s.heap := hP
  refine lv_aload_n hx hb dM_variable_0 rfl (lv_at hl 0 rfl) ?_
  refine lv_aload_n hx hb dM_variable_1 rfl (lv_at hl 0 rfl) ?_
  refine va_get (D := (dC, dI)) (ci := 2) (v := .int (nI nv)) (C := RM) (T := TM) (N := 17) hx hb hts lyM hown hK hP 0 rfl rfl 1 (by decide) (hts _ fl_M_41) (fun _ h9 => h9) rfl dM_variable_2 ?_
  refine lv_bipush (v := 16) hx hb dM_variable_5 (by decide) ?_
  refine lv_icmp_ne (tgt := 14) hx hb dM_variable_7 (by decide) (fun c1 => ?_) (fun c1 => ?_)
  · have c1 : nv ≠ 16 := fun q => c1 ((nI_eq (a := nv) (b := 16) (by omega) (by omega)).mpr q)
    refine lv_iconst (v := 0) hx hb dM_variable_14 (by decide) ?_
    refine va_put (D := (dC, dI)) (ci := 2) (v := .int 0) (ty := .int) (C := RM) (T := TM) (N := 17) hx hb hts lyM tyM tyM_ok nmM hown hK hP hD hS 0 rfl rfl 0 (by decide) (hts _ fl_M_37) (fun _ h9 => h9) rfl (by decide +kernel) rfl rfl (Nat.le_of_ble_eq_true rfl) dM_variable_15 (fun H locs hP hD hS => ?_)
    have hP : va_P (dC, dI) vwCl [(g0, .inr (2, [.int 0, .int (nI nv), .int (nI nc), .ref aL, .int (nI us), .ref aS, .int (nI dr), .ref aF, .ref aN, .ref aA, .int (nI as), .ref aO, .ref aV, .int la, .int bl, .ref aT, .int (nI th)]))] H := hP
    have hD : va_D A [(g0, .inr (2, [.int 0, .int (nI nv), .int (nI nc), .ref aL, .int (nI us), .ref aS, .int (nI dr), .ref aF, .ref aN, .ref aA, .int (nI as), .ref aO, .ref aV, .int la, .int bl, .ref aT, .int (nI th)]))] := hD
    refine lv_aload_n hx hb dM_variable_18 rfl (lv_at hl 0 rfl) ?_
    refine va_get (D := (dC, dI)) (ci := 2) (v := .int 0) (C := RM) (T := TM) (N := 17) hx hb hts lyM hown hK hP 0 rfl rfl 0 (by decide) (hts _ fl_M_37) (fun _ h9 => h9) rfl dM_variable_19 ?_
    refine lv_if_le (tgt := 27) hx hb dM_variable_22 (by decide) (fun c2 => ?_) (fun c2 => ?_)
    · refine lv_aload_n hx hb dM_variable_27 rfl (lv_at hl 0 rfl) ?_
      refine lv_dup hx hb dM_variable_28 rfl ?_
      refine va_get (D := (dC, dI)) (ci := 2) (v := .int (nI nv)) (C := RM) (T := TM) (N := 17) hx hb hts lyM hown hK hP 0 rfl rfl 1 (by decide) (hts _ fl_M_41) (fun _ h9 => h9) rfl dM_variable_29 ?_
      refine lv_iconst (v := 1) hx hb dM_variable_32 (by decide) ?_
      refine lv_iadd hx hb dM_variable_33 ?_
      refine ls_topi (y := nI (nv + 1)) (nI_1 _) ?_
      refine va_put (D := (dC, dI)) (ci := 2) (v := .int (nI (nv + 1))) (ty := .int) (C := RM) (T := TM) (N := 17) hx hb hts lyM tyM tyM_ok nmM hown hK hP hD hS 0 rfl rfl 1 (by decide) (hts _ fl_M_41) (fun _ h9 => h9) rfl (by decide +kernel) rfl rfl (Nat.le_of_ble_eq_true rfl) dM_variable_34 (fun H locs hP hD hS => ?_)
      have hP : va_P (dC, dI) vwCl [(g0, .inr (2, [.int 0, .int (nI (nv + 1)), .int (nI nc), .ref aL, .int (nI us), .ref aS, .int (nI dr), .ref aF, .ref aN, .ref aA, .int (nI as), .ref aO, .ref aV, .int la, .int bl, .ref aT, .int (nI th)]))] H := hP
      have hD : va_D A [(g0, .inr (2, [.int 0, .int (nI (nv + 1)), .int (nI nc), .ref aL, .int (nI us), .ref aS, .int (nI dr), .ref aF, .ref aN, .ref aA, .int (nI as), .ref aO, .ref aV, .int la, .int bl, .ref aT, .int (nI th)]))] := hD
      refine lv_aload_n hx hb dM_variable_37 rfl (lv_at hl 0 rfl) ?_
      refine va_get (D := (dC, dI)) (ci := 2) (v := .int (nI (nv + 1))) (C := RM) (T := TM) (N := 17) hx hb hts lyM hown hK hP 0 rfl rfl 1 (by decide) (hts _ fl_M_41) (fun _ h9 => h9) rfl dM_variable_38 ?_
      refine lv_iconst (v := 1) hx hb dM_variable_41 (by decide) ?_
      refine lv_isub hx hb dM_variable_42 ?_
      refine ls_topi (y := nI nv) (nI_pred _) ?_
      exact (W.iret (v := nI nv) hx hb hr (fun t ht hW => ⟨⟨nI nv, (0, nv + 1), rfl, Or.inr ⟨by omega, rfl, rfl⟩, by rw [ht]; exact hP, va_K.moved hW.alike hK, hD⟩, hS.F ht⟩) hS.2.2 dM_variable_43)
    · exact absurd (by decide) c2
  · have c1 : nv = 16 := (nI_eq (a := nv) (b := 16) (by omega) (by omega)).mp c1
    refine lv_iconst (v := 1) hx hb dM_variable_10 (by decide) ?_
    refine lv_goto (tgt := 15) hx hb dM_variable_11 (by decide) ?_
    refine va_put (D := (dC, dI)) (ci := 2) (v := .int 1) (ty := .int) (C := RM) (T := TM) (N := 17) hx hb hts lyM tyM tyM_ok nmM hown hK hP hD hS 0 rfl rfl 0 (by decide) (hts _ fl_M_37) (fun _ h9 => h9) rfl (by decide +kernel) rfl rfl (Nat.le_of_ble_eq_true rfl) dM_variable_15 (fun H locs hP hD hS => ?_)
    have hP : va_P (dC, dI) vwCl [(g0, .inr (2, [.int 1, .int (nI nv), .int (nI nc), .ref aL, .int (nI us), .ref aS, .int (nI dr), .ref aF, .ref aN, .ref aA, .int (nI as), .ref aO, .ref aV, .int la, .int bl, .ref aT, .int (nI th)]))] H := hP
    have hD : va_D A [(g0, .inr (2, [.int 1, .int (nI nv), .int (nI nc), .ref aL, .int (nI us), .ref aS, .int (nI dr), .ref aF, .ref aN, .ref aA, .int (nI as), .ref aO, .ref aV, .int la, .int bl, .ref aT, .int (nI th)]))] := hD
    refine lv_aload_n hx hb dM_variable_18 rfl (lv_at hl 0 rfl) ?_
    refine va_get (D := (dC, dI)) (ci := 2) (v := .int 1) (C := RM) (T := TM) (N := 17) hx hb hts lyM hown hK hP 0 rfl rfl 0 (by decide) (hts _ fl_M_37) (fun _ h9 => h9) rfl dM_variable_19 ?_
    refine lv_if_le (tgt := 27) hx hb dM_variable_22 (by decide) (fun c2 => ?_) (fun c2 => ?_)
    · exact absurd c2 (by decide)
    · refine lv_iconst (v := 0) hx hb dM_variable_25 (by decide) ?_
      exact (W.iret (v := 0) hx hb hr (fun t ht hW => ⟨⟨0, (1, nv), rfl, Or.inl ⟨c1, rfl⟩, by rw [ht]; exact hP, va_K.moved hW.alike hK, hD⟩, hS.F ht⟩) hS.2.2 dM_variable_26)
set_option maxHeartbeats 4000000 in
set_option maxRecDepth 100000 in
theorem k_M_isLiteral (l : Launch) (dC : Nat → ClassId) (dI : Nat → Nat → Nat) (tI sz : Nat) (g0 aL aS aF aN aA aO aV aT : Nat) (nv nc us dr as th : Nat) (co la bl : Int32) (x : Int32) (hnv : nv ≤ 16) : Met l yM_isLiteral (Cond.code yM_isLiteral cM_isLiteral 2 (some .boolean) :: GG) (lvr 0 0 0) (va_Pc [.ref g0, .int x] (wPre dC dI [] [(g0, .inr (2, [.int co, .int (nI nv), .int (nI nc), .ref aL, .int (nI us), .ref aS, .int (nI dr), .ref aF, .ref aN, .ref aA, .int (nI as), .ref aO, .ref aV, .int la, .int bl, .ref aT, .int (nI th)]))] sz tI)) (va_Qi (fun (r : Int32) (u : Unit) => (r = 1 ∧ (∃ L, L < 2 * nv ∧ x = nI L)) ∨ (r = 0 ∧ ¬ (∃ L, L < 2 * nv ∧ x = nI L))) (fun u t => wB dC dI [] (va_A [(g0, .inr (2, [.int co, .int (nI nv), .int (nI nc), .ref aL, .int (nI us), .ref aS, .int (nI dr), .ref aF, .ref aN, .ref aA, .int (nI as), .ref aO, .ref aV, .int la, .int bl, .ref aT, .int (nI th)]))] sz) [(g0, .inr (2, [.int co, .int (nI nv), .int (nI nc), .ref aL, .int (nI us), .ref aS, .int (nI dr), .ref aF, .ref aN, .ref aA, .int (nI as), .ref aO, .ref aV, .int la, .int bl, .ref aT, .int (nI th)]))] t) (va_A [(g0, .inr (2, [.int co, .int (nI nv), .int (nI nc), .ref aL, .int (nI us), .ref aS, .int (nI dr), .ref aF, .ref aN, .ref aA, .int (nI as), .ref aO, .ref aV, .int la, .int bl, .ref aT, .int (nI th)]))] sz)) 0 0 (va_A [(g0, .inr (2, [.int co, .int (nI nv), .int (nI nc), .ref aL, .int (nI us), .ref aS, .int (nI dr), .ref aF, .ref aN, .ref aA, .int (nI as), .ref aO, .ref aV, .int la, .int bl, .ref aT, .int (nI th)]))] sz) := by
  refine Met.ofW (cc := cM_isLiteral) (maxL := 2) (ret := (some .boolean)) (by decide) rfl ?_
  intro p e s m args below meth c s₁ B hml hv
  obtain ⟨rfl, hsz, hP, hK, hD0, hZ, hX⟩ := hv
  have hx := B.exec
  have hb := B.bytes
  have hr := B.returns
  have hts : ∀ w ∈ GG, w.before ([.ref g0, .int x] : List Value).toArray s = true := fun w h => atoms_spec (ws := _ :: GG) B.pre w (List.mem_cons_of_mem _ h)
  have hown : s.vm.findClass RM = some m.cls := findClass_of_methodNamed B.named
  have hlocks := B.notSynchronized
  subst hsz
  have hD := hD0.self (sz := s.heap.size)
  generalize hAe : va_A [(g0, .inr (2, [.int co, .int (nI nv), .int (nI nc), .ref aL, .int (nI us), .ref aS, .int (nI dr), .ref aF, .ref aN, .ref aA, .int (nI as), .ref aO, .ref aV, .int la, .int bl, .ref aT, .int (nI th)]))] s.heap.size = A at hD hZ ⊢
  have hA : ∀ q : Nat, s.heap.size ≤ q → A q := fun q h => by rw [← hAe]; exact Or.inr h
  have hS : va_S A s.heap s.heap [] := va_S.rf
  have hl := lv_entry ([.ref g0, .int x]) (n := 2) (Nat.le_of_ble_eq_true rfl)
  rw [lg_entry_eq]
  generalize (lg_sl ([.ref g0, .int x]) ++ List.replicate (2 - (lg_sl ([.ref g0, .int x])).length) Slot.unset).toArray = ls at hl ⊢
  have hl : lv_has ls 2 [(0, .ref g0), (1, .int x)] := hl
  have SF : CallFix p m c cM_isLiteral 2 s ([.ref g0, .int x] : List Value).toArray GG RM := ⟨hx, hb, hml, hown, hts⟩
  skip
  have hP : va_P (dC, dI) vwCl [(g0, .inr (2, [.int co, .int (nI nv), .int (nI nc), .ref aL, .int (nI us), .ref aS, .int (nI dr), .ref aF, .ref aN, .ref aA, .int (nI as), .ref aO, .ref aV, .int la, .int bl, .ref aT, .int (nI th)]))] s.heap := hP
  refine lv_iload_n hx hb dM_isLiteral_0 rfl (lv_at hl 1 rfl) ?_
  refine lv_if_lt (tgt := 18) hx hb dM_isLiteral_1 (by decide) (fun c1 => ?_) (fun c1 => ?_)
  · refine lv_iconst (v := 0) hx hb dM_isLiteral_18 (by decide) ?_
    exact (W.zret (v := 0) hx hb hr (rfl) (fun t ht hW => ⟨⟨0, (), rfl, Or.inr ⟨rfl, fun ⟨L, hL, e⟩ => absurd c1 (by rw [e]; exact nI_pos (by omega))⟩, by rw [ht]; exact hP, va_K.moved hW.alike hK, hD⟩, hS.F ht⟩) hS.2.2 dM_isLiteral_19)
  · refine lv_iload_n hx hb dM_isLiteral_4 rfl (lv_at hl 1 rfl) ?_
    refine lv_iconst (v := 2) hx hb dM_isLiteral_5 (by decide) ?_
    refine lv_aload_n hx hb dM_isLiteral_6 rfl (lv_at hl 0 rfl) ?_
    refine va_get (D := (dC, dI)) (ci := 2) (v := .int (nI nv)) (C := RM) (T := TM) (N := 17) hx hb hts lyM hown hK hP 0 rfl rfl 1 (by decide) (hts _ fl_M_41) (fun _ h9 => h9) rfl dM_isLiteral_7 ?_
    refine lv_imul hx hb dM_isLiteral_10 ?_
    refine ls_topi (y := nI (2 * nv)) (pk_mul 2 nv) ?_
    refine lv_icmp_ge (tgt := 18) hx hb dM_isLiteral_11 (by decide) (fun c2 => ?_) (fun c2 => ?_)
    · refine lv_iconst (v := 0) hx hb dM_isLiteral_18 (by decide) ?_
      exact (W.zret (v := 0) hx hb hr (rfl) (fun t ht hW => ⟨⟨0, (), rfl, Or.inr ⟨rfl, fun ⟨L, hL, e⟩ => absurd c2 (by rw [e]; exact nI_ge hL (by omega))⟩, by rw [ht]; exact hP, va_K.moved hW.alike hK, hD⟩, hS.F ht⟩) hS.2.2 dM_isLiteral_19)
    · obtain ⟨L, hL31, eL⟩ := nI_of c1
      refine lv_iconst (v := 1) hx hb dM_isLiteral_14 (by decide) ?_
      refine lv_goto (tgt := 19) hx hb dM_isLiteral_15 (by decide) ?_
      exact (W.zret (v := 1) hx hb hr (rfl) (fun t ht hW => ⟨⟨1, (), rfl, Or.inl ⟨rfl, L, Nat.lt_of_not_le (fun q => c2 (by rw [eL]; exact nI_le q (by omega))), eL⟩, by rw [ht]; exact hP, va_K.moved hW.alike hK, hD⟩, hS.F ht⟩) hS.2.2 dM_isLiteral_19)
set_option maxHeartbeats 4000000 in
set_option maxRecDepth 100000 in
theorem k_M_literal (l : Launch) (dC : Nat → ClassId) (dI : Nat → Nat → Nat) (tI sz : Nat) (g0 aL aS aF aN aA aO aV aT : Nat) (kL : ClassId) (lf : Nat → Int32) (nv nc us dr as th : Nat) (co la bl : Int32) (x : Int32) (hnv : nv ≤ 16) (hdr : dr ≤ 40) (hus : us + dr ≤ 4000) : Met l yM_literal (Cond.code yM_literal cM_literal 2 (some .int) :: GG) (lvr 1 0 0) (va_Pc [.ref g0, .int x] (wPre dC dI [(kL, .int)] [(g0, .inr (2, [.int co, .int (nI nv), .int (nI nc), .ref aL, .int (nI us), .ref aS, .int (nI dr), .ref aF, .ref aN, .ref aA, .int (nI as), .ref aO, .ref aV, .int la, .int bl, .ref aT, .int (nI th)])), (aL, .inl (kL, 4000, .inl lf))] sz tI)) (va_Qi (fun (r : Int32) (u : (Nat → Int32) × Int32 × Nat) => (u = (lf, 1, dr) ∧ ¬ (∃ L, L < 2 * nv ∧ x = nI L)) ∨ (u = (lf, 2, dr) ∧ (∃ L, L < 2 * nv ∧ x = nI L) ∧ (dr = 40 ∨ us + dr = 4000)) ∨ (u = (upd lf (us + dr) x, 0, dr + 1) ∧ (∃ L, L < 2 * nv ∧ x = nI L) ∧ dr < 40 ∧ us + dr < 4000 ∧ r = nI (dr + 1))) (fun u t => wB dC dI [(kL, .int)] (va_A [(g0, .inr (2, [.int co, .int (nI nv), .int (nI nc), .ref aL, .int (nI us), .ref aS, .int (nI dr), .ref aF, .ref aN, .ref aA, .int (nI as), .ref aO, .ref aV, .int la, .int bl, .ref aT, .int (nI th)])), (aL, .inl (kL, 4000, .inl lf))] sz) [(g0, .inr (2, [.int u.2.1, .int (nI nv), .int (nI nc), .ref aL, .int (nI us), .ref aS, .int (nI u.2.2), .ref aF, .ref aN, .ref aA, .int (nI as), .ref aO, .ref aV, .int la, .int bl, .ref aT, .int (nI th)])), (aL, .inl (kL, 4000, .inl u.1))] t) (va_A [(g0, .inr (2, [.int co, .int (nI nv), .int (nI nc), .ref aL, .int (nI us), .ref aS, .int (nI dr), .ref aF, .ref aN, .ref aA, .int (nI as), .ref aO, .ref aV, .int la, .int bl, .ref aT, .int (nI th)])), (aL, .inl (kL, 4000, .inl lf))] sz)) 0 0 (va_A [(g0, .inr (2, [.int co, .int (nI nv), .int (nI nc), .ref aL, .int (nI us), .ref aS, .int (nI dr), .ref aF, .ref aN, .ref aA, .int (nI as), .ref aO, .ref aV, .int la, .int bl, .ref aT, .int (nI th)])), (aL, .inl (kL, 4000, .inl lf))] sz) := by
  refine Met.ofW (cc := cM_literal) (maxL := 2) (ret := (some .int)) (by decide) rfl ?_
  intro p e s m args below meth c s₁ B hml hv
  obtain ⟨rfl, hsz, hP, hK, hD0, hZ, hX⟩ := hv
  have hx := B.exec
  have hb := B.bytes
  have hr := B.returns
  have hts : ∀ w ∈ GG, w.before ([.ref g0, .int x] : List Value).toArray s = true := fun w h => atoms_spec (ws := _ :: GG) B.pre w (List.mem_cons_of_mem _ h)
  have hown : s.vm.findClass RM = some m.cls := findClass_of_methodNamed B.named
  have hlocks := B.notSynchronized
  subst hsz
  have hD := hD0.self (sz := s.heap.size)
  generalize hAe : va_A [(g0, .inr (2, [.int co, .int (nI nv), .int (nI nc), .ref aL, .int (nI us), .ref aS, .int (nI dr), .ref aF, .ref aN, .ref aA, .int (nI as), .ref aO, .ref aV, .int la, .int bl, .ref aT, .int (nI th)])), (aL, .inl (kL, 4000, .inl lf))] s.heap.size = A at hD hZ ⊢
  have hA : ∀ q : Nat, s.heap.size ≤ q → A q := fun q h => by rw [← hAe]; exact Or.inr h
  have hS : va_S A s.heap s.heap [] := va_S.rf
  have hl := lv_entry ([.ref g0, .int x]) (n := 2) (Nat.le_of_ble_eq_true rfl)
  rw [lg_entry_eq]
  generalize (lg_sl ([.ref g0, .int x]) ++ List.replicate (2 - (lg_sl ([.ref g0, .int x])).length) Slot.unset).toArray = ls at hl ⊢
  have hl : lv_has ls 2 [(0, .ref g0), (1, .int x)] := hl
  have SF : CallFix p m c cM_literal 2 s ([.ref g0, .int x] : List Value).toArray GG RM := ⟨hx, hb, hml, hown, hts⟩
  skip
  have hP : va_P (dC, dI) vwCl [(g0, .inr (2, [.int co, .int (nI nv), .int (nI nc), .ref aL, .int (nI us), .ref aS, .int (nI dr), .ref aF, .ref aN, .ref aA, .int (nI as), .ref aO, .ref aV, .int la, .int bl, .ref aT, .int (nI th)])), (aL, .inl (kL, 4000, .inl lf))] s.heap := hP
  refine lv_aload_n hx hb dM_literal_0 rfl (lv_at hl 0 rfl) ?_
  refine lv_aload_n hx hb dM_literal_1 rfl (lv_at hl 0 rfl) ?_
  refine lv_iload_n hx hb dM_literal_2 rfl (lv_at hl 1 rfl) ?_
  have hFc := va_free (wc := [(g0, .inr (2, [.int co, .int (nI nv), .int (nI nc), .ref aL, .int (nI us), .ref aS, .int (nI dr), .ref aF, .ref aN, .ref aA, .int (nI as), .ref aO, .ref aV, .int la, .int bl, .ref aT, .int (nI th)]))]) hD hS hA [0] rfl
  refine wc_i (wc_V (As := [.int x]) (rest := [.ref g0]) (n := 1) SF (k_M_isLiteral l dC dI tI _ g0 aL aS aF aN aA aO aV aT nv nc us dr as th co la bl x hnv) ml_M_62 im_M_isLiteral se_M_isLiteral in_M co_M_isLiteral (by decide +kernel) rfl rfl rfl ⟨Nat.le_of_ble_eq_true rfl, Nat.le_of_ble_eq_true rfl⟩ (va_recv (hK.sub (tys' := []) [] rfl) (hP.sub (ws' := [(g0, .inr (2, [.int co, .int (nI nv), .int (nI nc), .ref aL, .int (nI us), .ref aS, .int (nI dr), .ref aF, .ref aN, .ref aA, .int (nI as), .ref aO, .ref aV, .int la, .int bl, .ref aT, .int (nI th)]))]) [0] rfl) (ci := 2) (q0 := 0) rfl rfl) (hP.sub [0] rfl) (hD.sub [0] (by decide) rfl) (hK.sub [] rfl) hZ hX hS hFc rfl hl.1 (Nat.le_of_ble_eq_true rfl) dM_literal_3 ⟨Nat.le_of_ble_eq_true rfl, Nat.le_of_ble_eq_true rfl⟩) hP hD hS hFc [0] [1] (wr := [(aL, .inl (kL, 4000, .inl lf))]) rfl rfl rfl (by decide) (fun z uu H locs hw hP hD hS => ?_)
  have hP : va_P (dC, dI) vwCl [(g0, .inr (2, [.int co, .int (nI nv), .int (nI nc), .ref aL, .int (nI us), .ref aS, .int (nI dr), .ref aF, .ref aN, .ref aA, .int (nI as), .ref aO, .ref aV, .int la, .int bl, .ref aT, .int (nI th)])), (aL, .inl (kL, 4000, .inl lf))] H := hP.sub [1, 0] rfl
  have hD : va_D A [(g0, .inr (2, [.int co, .int (nI nv), .int (nI nc), .ref aL, .int (nI us), .ref aS, .int (nI dr), .ref aF, .ref aN, .ref aA, .int (nI as), .ref aO, .ref aV, .int la, .int bl, .ref aT, .int (nI th)])), (aL, .inl (kL, 4000, .inl lf))] := hD.sub [1, 0] (by decide) rfl
  refine lv_if_ne (tgt := 13) hx hb dM_literal_6 (by decide) (fun c1 => ?_) (fun c1 => ?_)
  · have hlit : (∃ L, L < 2 * nv ∧ x = nI L) := by
      rcases hw with ⟨_, q⟩ | ⟨q, _⟩
      · exact q
      · exact absurd q c1
    refine lv_aload_n hx hb dM_literal_13 rfl (lv_at hl 0 rfl) ?_
    refine va_get (D := (dC, dI)) (ci := 2) (v := .int (nI dr)) (C := RM) (T := TM) (N := 17) hx hb hts lyM hown hK hP 0 rfl rfl 6 (by decide) (hts _ fl_M_50) (fun _ h9 => h9) rfl dM_literal_14 ?_
    refine lv_bipush (v := 40) hx hb dM_literal_17 (by decide) ?_
    refine lv_icmp_eq (tgt := 37) hx hb dM_literal_19 (by decide) (fun c2 => ?_) (fun c2 => ?_)
    · have c2 : dr = 40 := (nI_eq (a := dr) (b := 40) (by omega) (by omega)).mp c2
      refine lv_iconst (v := 2) hx hb dM_literal_37 (by decide) ?_
      refine lv_goto (tgt := 42) hx hb dM_literal_38 (by decide) ?_
      refine va_put (D := (dC, dI)) (ci := 2) (v := .int 2) (ty := .int) (C := RM) (T := TM) (N := 17) hx hb hts lyM tyM tyM_ok nmM hown hK hP hD hS 0 rfl rfl 0 (by decide) (hts _ fl_M_37) (fun _ h9 => h9) rfl (by decide +kernel) rfl rfl (Nat.le_of_ble_eq_true rfl) dM_literal_42 (fun H locs hP hD hS => ?_)
      have hP : va_P (dC, dI) vwCl [(g0, .inr (2, [.int 2, .int (nI nv), .int (nI nc), .ref aL, .int (nI us), .ref aS, .int (nI dr), .ref aF, .ref aN, .ref aA, .int (nI as), .ref aO, .ref aV, .int la, .int bl, .ref aT, .int (nI th)])), (aL, .inl (kL, 4000, .inl lf))] H := hP
      have hD : va_D A [(g0, .inr (2, [.int 2, .int (nI nv), .int (nI nc), .ref aL, .int (nI us), .ref aS, .int (nI dr), .ref aF, .ref aN, .ref aA, .int (nI as), .ref aO, .ref aV, .int la, .int bl, .ref aT, .int (nI th)])), (aL, .inl (kL, 4000, .inl lf))] := hD
      refine lv_aload_n hx hb dM_literal_45 rfl (lv_at hl 0 rfl) ?_
      refine va_get (D := (dC, dI)) (ci := 2) (v := .int 2) (C := RM) (T := TM) (N := 17) hx hb hts lyM hown hK hP 0 rfl rfl 0 (by decide) (hts _ fl_M_37) (fun _ h9 => h9) rfl dM_literal_46 ?_
      refine lv_if_le (tgt := 54) hx hb dM_literal_49 (by decide) (fun c9 => ?_) (fun c9 => ?_)
      · exact absurd c9 (by decide)
      · refine lv_iconst (v := 0) hx hb dM_literal_52 (by decide) ?_
        exact (W.iret (v := 0) hx hb hr (fun t ht hW => ⟨⟨0, (lf, 2, dr), rfl, Or.inr (Or.inl ⟨rfl, ⟨hlit, Or.inl c2⟩⟩), by rw [ht]; exact hP, va_K.moved hW.alike hK, hD⟩, hS.F ht⟩) hS.2.2 dM_literal_53)
    · have c2 : dr ≠ 40 := fun q => c2 ((nI_eq (a := dr) (b := 40) (by omega) (by omega)).mpr q)
      refine lv_aload_n hx hb dM_literal_22 rfl (lv_at hl 0 rfl) ?_
      refine va_get (D := (dC, dI)) (ci := 2) (v := .int (nI us)) (C := RM) (T := TM) (N := 17) hx hb hts lyM hown hK hP 0 rfl rfl 4 (by decide) (hts _ fl_M_47) (fun _ h9 => h9) rfl dM_literal_23 ?_
      refine lv_aload_n hx hb dM_literal_26 rfl (lv_at hl 0 rfl) ?_
      refine va_get (D := (dC, dI)) (ci := 2) (v := .int (nI dr)) (C := RM) (T := TM) (N := 17) hx hb hts lyM hown hK hP 0 rfl rfl 6 (by decide) (hts _ fl_M_50) (fun _ h9 => h9) rfl dM_literal_27 ?_
      refine lv_iadd hx hb dM_literal_30 ?_
      refine ls_topi (y := nI (us + dr)) (nI_add _ _) ?_
      refine lv_sipush (v := 4000) hx hb dM_literal_31 (by decide) ?_
      refine lv_icmp_ne (tgt := 41) hx hb dM_literal_34 (by decide) (fun c3 => ?_) (fun c3 => ?_)
      · have c3 : (us + dr) ≠ 4000 := fun q => c3 ((nI_eq (a := (us + dr)) (b := 4000) (by omega) (by omega)).mpr q)
        refine lv_iconst (v := 0) hx hb dM_literal_41 (by decide) ?_
        refine va_put (D := (dC, dI)) (ci := 2) (v := .int 0) (ty := .int) (C := RM) (T := TM) (N := 17) hx hb hts lyM tyM tyM_ok nmM hown hK hP hD hS 0 rfl rfl 0 (by decide) (hts _ fl_M_37) (fun _ h9 => h9) rfl (by decide +kernel) rfl rfl (Nat.le_of_ble_eq_true rfl) dM_literal_42 (fun H locs hP hD hS => ?_)
        have hP : va_P (dC, dI) vwCl [(g0, .inr (2, [.int 0, .int (nI nv), .int (nI nc), .ref aL, .int (nI us), .ref aS, .int (nI dr), .ref aF, .ref aN, .ref aA, .int (nI as), .ref aO, .ref aV, .int la, .int bl, .ref aT, .int (nI th)])), (aL, .inl (kL, 4000, .inl lf))] H := hP
        have hD : va_D A [(g0, .inr (2, [.int 0, .int (nI nv), .int (nI nc), .ref aL, .int (nI us), .ref aS, .int (nI dr), .ref aF, .ref aN, .ref aA, .int (nI as), .ref aO, .ref aV, .int la, .int bl, .ref aT, .int (nI th)])), (aL, .inl (kL, 4000, .inl lf))] := hD
        refine lv_aload_n hx hb dM_literal_45 rfl (lv_at hl 0 rfl) ?_
        refine va_get (D := (dC, dI)) (ci := 2) (v := .int 0) (C := RM) (T := TM) (N := 17) hx hb hts lyM hown hK hP 0 rfl rfl 0 (by decide) (hts _ fl_M_37) (fun _ h9 => h9) rfl dM_literal_46 ?_
        refine lv_if_le (tgt := 54) hx hb dM_literal_49 (by decide) (fun c9 => ?_) (fun c9 => ?_)
        · refine lv_aload_n hx hb dM_literal_54 rfl (lv_at hl 0 rfl) ?_
          refine va_get (D := (dC, dI)) (ci := 2) (v := .ref aL) (C := RM) (T := TM) (N := 17) hx hb hts lyM hown hK hP 0 rfl rfl 3 (by decide) (hts _ fl_M_7) (fun _ h9 => h9) rfl dM_literal_55 ?_
          refine lv_aload_n hx hb dM_literal_58 rfl (lv_at hl 0 rfl) ?_
          refine va_get (D := (dC, dI)) (ci := 2) (v := .int (nI us)) (C := RM) (T := TM) (N := 17) hx hb hts lyM hown hK hP 0 rfl rfl 4 (by decide) (hts _ fl_M_47) (fun _ h9 => h9) rfl dM_literal_59 ?_
          refine lv_aload_n hx hb dM_literal_62 rfl (lv_at hl 0 rfl) ?_
          refine va_get (D := (dC, dI)) (ci := 2) (v := .int (nI dr)) (C := RM) (T := TM) (N := 17) hx hb hts lyM hown hK hP 0 rfl rfl 6 (by decide) (hts _ fl_M_50) (fun _ h9 => h9) rfl dM_literal_63 ?_
          refine lv_iadd hx hb dM_literal_66 ?_
          refine ls_topi (y := nI (us + dr)) (nI_add _ _) ?_
          refine lv_iload_n hx hb dM_literal_67 rfl (lv_at hl 1 rfl) ?_
          refine va_iast hx hb hK hP hD hS 1 0 rfl rfl (vp_in_nI (by omega) (by decide)) dM_literal_68 (fun H locs hP hD hS => ?_)
          rw [show upd lf (nI (us + dr)).toNatClampNeg x = upd lf (us + dr) x from by rw [nI_clamp (by omega)]] at hP hD
          have hP : va_P (dC, dI) vwCl [(g0, .inr (2, [.int 0, .int (nI nv), .int (nI nc), .ref aL, .int (nI us), .ref aS, .int (nI dr), .ref aF, .ref aN, .ref aA, .int (nI as), .ref aO, .ref aV, .int la, .int bl, .ref aT, .int (nI th)])), (aL, .inl (kL, 4000, .inl (upd lf (us + dr) x)))] H := hP
          have hD : va_D A [(g0, .inr (2, [.int 0, .int (nI nv), .int (nI nc), .ref aL, .int (nI us), .ref aS, .int (nI dr), .ref aF, .ref aN, .ref aA, .int (nI as), .ref aO, .ref aV, .int la, .int bl, .ref aT, .int (nI th)])), (aL, .inl (kL, 4000, .inl (upd lf (us + dr) x)))] := hD
          refine lv_aload_n hx hb dM_literal_69 rfl (lv_at hl 0 rfl) ?_
          refine lv_dup hx hb dM_literal_70 rfl ?_
          refine va_get (D := (dC, dI)) (ci := 2) (v := .int (nI dr)) (C := RM) (T := TM) (N := 17) hx hb hts lyM hown hK hP 0 rfl rfl 6 (by decide) (hts _ fl_M_50) (fun _ h9 => h9) rfl dM_literal_71 ?_
          refine lv_iconst (v := 1) hx hb dM_literal_74 (by decide) ?_
          refine lv_iadd hx hb dM_literal_75 ?_
          refine ls_topi (y := nI (dr + 1)) (nI_1 _) ?_
          refine va_put (D := (dC, dI)) (ci := 2) (v := .int (nI (dr + 1))) (ty := .int) (C := RM) (T := TM) (N := 17) hx hb hts lyM tyM tyM_ok nmM hown hK hP hD hS 0 rfl rfl 6 (by decide) (hts _ fl_M_50) (fun _ h9 => h9) rfl (by decide +kernel) rfl rfl (Nat.le_of_ble_eq_true rfl) dM_literal_76 (fun H locs hP hD hS => ?_)
          have hP : va_P (dC, dI) vwCl [(g0, .inr (2, [.int 0, .int (nI nv), .int (nI nc), .ref aL, .int (nI us), .ref aS, .int (nI (dr + 1)), .ref aF, .ref aN, .ref aA, .int (nI as), .ref aO, .ref aV, .int la, .int bl, .ref aT, .int (nI th)])), (aL, .inl (kL, 4000, .inl (upd lf (us + dr) x)))] H := hP
          have hD : va_D A [(g0, .inr (2, [.int 0, .int (nI nv), .int (nI nc), .ref aL, .int (nI us), .ref aS, .int (nI (dr + 1)), .ref aF, .ref aN, .ref aA, .int (nI as), .ref aO, .ref aV, .int la, .int bl, .ref aT, .int (nI th)])), (aL, .inl (kL, 4000, .inl (upd lf (us + dr) x)))] := hD
          refine lv_aload_n hx hb dM_literal_79 rfl (lv_at hl 0 rfl) ?_
          refine va_get (D := (dC, dI)) (ci := 2) (v := .int (nI (dr + 1))) (C := RM) (T := TM) (N := 17) hx hb hts lyM hown hK hP 0 rfl rfl 6 (by decide) (hts _ fl_M_50) (fun _ h9 => h9) rfl dM_literal_80 ?_
          exact (W.iret (v := nI (dr + 1)) hx hb hr (fun t ht hW => ⟨⟨nI (dr + 1), (upd lf (us + dr) x, 0, dr + 1), rfl, Or.inr (Or.inr ⟨rfl, hlit, by omega, by omega, rfl⟩), by rw [ht]; exact hP, va_K.moved hW.alike hK, hD⟩, hS.F ht⟩) hS.2.2 dM_literal_83)
        · exact absurd (by decide) c9
      · have c3 : (us + dr) = 4000 := (nI_eq (a := (us + dr)) (b := 4000) (by omega) (by omega)).mp c3
        refine lv_iconst (v := 2) hx hb dM_literal_37 (by decide) ?_
        refine lv_goto (tgt := 42) hx hb dM_literal_38 (by decide) ?_
        refine va_put (D := (dC, dI)) (ci := 2) (v := .int 2) (ty := .int) (C := RM) (T := TM) (N := 17) hx hb hts lyM tyM tyM_ok nmM hown hK hP hD hS 0 rfl rfl 0 (by decide) (hts _ fl_M_37) (fun _ h9 => h9) rfl (by decide +kernel) rfl rfl (Nat.le_of_ble_eq_true rfl) dM_literal_42 (fun H locs hP hD hS => ?_)
        have hP : va_P (dC, dI) vwCl [(g0, .inr (2, [.int 2, .int (nI nv), .int (nI nc), .ref aL, .int (nI us), .ref aS, .int (nI dr), .ref aF, .ref aN, .ref aA, .int (nI as), .ref aO, .ref aV, .int la, .int bl, .ref aT, .int (nI th)])), (aL, .inl (kL, 4000, .inl lf))] H := hP
        have hD : va_D A [(g0, .inr (2, [.int 2, .int (nI nv), .int (nI nc), .ref aL, .int (nI us), .ref aS, .int (nI dr), .ref aF, .ref aN, .ref aA, .int (nI as), .ref aO, .ref aV, .int la, .int bl, .ref aT, .int (nI th)])), (aL, .inl (kL, 4000, .inl lf))] := hD
        refine lv_aload_n hx hb dM_literal_45 rfl (lv_at hl 0 rfl) ?_
        refine va_get (D := (dC, dI)) (ci := 2) (v := .int 2) (C := RM) (T := TM) (N := 17) hx hb hts lyM hown hK hP 0 rfl rfl 0 (by decide) (hts _ fl_M_37) (fun _ h9 => h9) rfl dM_literal_46 ?_
        refine lv_if_le (tgt := 54) hx hb dM_literal_49 (by decide) (fun c9 => ?_) (fun c9 => ?_)
        · exact absurd c9 (by decide)
        · refine lv_iconst (v := 0) hx hb dM_literal_52 (by decide) ?_
          exact (W.iret (v := 0) hx hb hr (fun t ht hW => ⟨⟨0, (lf, 2, dr), rfl, Or.inr (Or.inl ⟨rfl, ⟨hlit, Or.inr c3⟩⟩), by rw [ht]; exact hP, va_K.moved hW.alike hK, hD⟩, hS.F ht⟩) hS.2.2 dM_literal_53)
  · have hnl : ¬ (∃ L, L < 2 * nv ∧ x = nI L) := by
      rcases hw with ⟨q, _⟩ | ⟨_, q⟩
      · rw [q] at c1; exact absurd c1 (by decide)
      · exact q
    refine lv_iconst (v := 1) hx hb dM_literal_9 (by decide) ?_
    refine lv_goto (tgt := 42) hx hb dM_literal_10 (by decide) ?_
    refine va_put (D := (dC, dI)) (ci := 2) (v := .int 1) (ty := .int) (C := RM) (T := TM) (N := 17) hx hb hts lyM tyM tyM_ok nmM hown hK hP hD hS 0 rfl rfl 0 (by decide) (hts _ fl_M_37) (fun _ h9 => h9) rfl (by decide +kernel) rfl rfl (Nat.le_of_ble_eq_true rfl) dM_literal_42 (fun H locs hP hD hS => ?_)
    have hP : va_P (dC, dI) vwCl [(g0, .inr (2, [.int 1, .int (nI nv), .int (nI nc), .ref aL, .int (nI us), .ref aS, .int (nI dr), .ref aF, .ref aN, .ref aA, .int (nI as), .ref aO, .ref aV, .int la, .int bl, .ref aT, .int (nI th)])), (aL, .inl (kL, 4000, .inl lf))] H := hP
    have hD : va_D A [(g0, .inr (2, [.int 1, .int (nI nv), .int (nI nc), .ref aL, .int (nI us), .ref aS, .int (nI dr), .ref aF, .ref aN, .ref aA, .int (nI as), .ref aO, .ref aV, .int la, .int bl, .ref aT, .int (nI th)])), (aL, .inl (kL, 4000, .inl lf))] := hD
    refine lv_aload_n hx hb dM_literal_45 rfl (lv_at hl 0 rfl) ?_
    refine va_get (D := (dC, dI)) (ci := 2) (v := .int 1) (C := RM) (T := TM) (N := 17) hx hb hts lyM hown hK hP 0 rfl rfl 0 (by decide) (hts _ fl_M_37) (fun _ h9 => h9) rfl dM_literal_46 ?_
    refine lv_if_le (tgt := 54) hx hb dM_literal_49 (by decide) (fun c9 => ?_) (fun c9 => ?_)
    · exact absurd c9 (by decide)
    · refine lv_iconst (v := 0) hx hb dM_literal_52 (by decide) ?_
      exact (W.iret (v := 0) hx hb hr (fun t ht hW => ⟨⟨0, (lf, 1, dr), rfl, Or.inl ⟨rfl, hnl⟩, by rw [ht]; exact hP, va_K.moved hW.alike hK, hD⟩, hS.F ht⟩) hS.2.2 dM_literal_53)
set_option maxHeartbeats 4000000 in
set_option maxRecDepth 100000 in
theorem k_M_assume (l : Launch) (dC : Nat → ClassId) (dI : Nat → Nat → Nat) (tI sz : Nat) (g0 aL aS aF aN aA aO aV aT : Nat) (kA : ClassId) (af : Nat → Int32) (nv nc us dr as th : Nat) (co la bl : Int32) (x : Int32) (hnv : nv ≤ 16) (has : as ≤ 64) : Met l yM_assume (Cond.code yM_assume cM_assume 2 (some .int) :: GG) (lvr 1 0 0) (va_Pc [.ref g0, .int x] (wPre dC dI [(kA, .int)] [(g0, .inr (2, [.int co, .int (nI nv), .int (nI nc), .ref aL, .int (nI us), .ref aS, .int (nI dr), .ref aF, .ref aN, .ref aA, .int (nI as), .ref aO, .ref aV, .int la, .int bl, .ref aT, .int (nI th)])), (aA, .inl (kA, 64, .inl af))] sz tI)) (va_Qi (fun (r : Int32) (u : (Nat → Int32) × Int32 × Nat) => (u = (af, 1, as) ∧ ¬ (∃ L, L < 2 * nv ∧ x = nI L)) ∨ (u = (af, 2, as) ∧ (∃ L, L < 2 * nv ∧ x = nI L) ∧ as = 64) ∨ (u = (upd af as x, 0, as + 1) ∧ (∃ L, L < 2 * nv ∧ x = nI L) ∧ as < 64 ∧ r = nI (as + 1))) (fun u t => wB dC dI [(kA, .int)] (va_A [(g0, .inr (2, [.int co, .int (nI nv), .int (nI nc), .ref aL, .int (nI us), .ref aS, .int (nI dr), .ref aF, .ref aN, .ref aA, .int (nI as), .ref aO, .ref aV, .int la, .int bl, .ref aT, .int (nI th)])), (aA, .inl (kA, 64, .inl af))] sz) [(g0, .inr (2, [.int u.2.1, .int (nI nv), .int (nI nc), .ref aL, .int (nI us), .ref aS, .int (nI dr), .ref aF, .ref aN, .ref aA, .int (nI u.2.2), .ref aO, .ref aV, .int la, .int bl, .ref aT, .int (nI th)])), (aA, .inl (kA, 64, .inl u.1))] t) (va_A [(g0, .inr (2, [.int co, .int (nI nv), .int (nI nc), .ref aL, .int (nI us), .ref aS, .int (nI dr), .ref aF, .ref aN, .ref aA, .int (nI as), .ref aO, .ref aV, .int la, .int bl, .ref aT, .int (nI th)])), (aA, .inl (kA, 64, .inl af))] sz)) 0 0 (va_A [(g0, .inr (2, [.int co, .int (nI nv), .int (nI nc), .ref aL, .int (nI us), .ref aS, .int (nI dr), .ref aF, .ref aN, .ref aA, .int (nI as), .ref aO, .ref aV, .int la, .int bl, .ref aT, .int (nI th)])), (aA, .inl (kA, 64, .inl af))] sz) := by
  refine Met.ofW (cc := cM_assume) (maxL := 2) (ret := (some .int)) (by decide) rfl ?_
  intro p e s m args below meth c s₁ B hml hv
  obtain ⟨rfl, hsz, hP, hK, hD0, hZ, hX⟩ := hv
  have hx := B.exec
  have hb := B.bytes
  have hr := B.returns
  have hts : ∀ w ∈ GG, w.before ([.ref g0, .int x] : List Value).toArray s = true := fun w h => atoms_spec (ws := _ :: GG) B.pre w (List.mem_cons_of_mem _ h)
  have hown : s.vm.findClass RM = some m.cls := findClass_of_methodNamed B.named
  have hlocks := B.notSynchronized
  subst hsz
  have hD := hD0.self (sz := s.heap.size)
  generalize hAe : va_A [(g0, .inr (2, [.int co, .int (nI nv), .int (nI nc), .ref aL, .int (nI us), .ref aS, .int (nI dr), .ref aF, .ref aN, .ref aA, .int (nI as), .ref aO, .ref aV, .int la, .int bl, .ref aT, .int (nI th)])), (aA, .inl (kA, 64, .inl af))] s.heap.size = A at hD hZ ⊢
  have hA : ∀ q : Nat, s.heap.size ≤ q → A q := fun q h => by rw [← hAe]; exact Or.inr h
  have hS : va_S A s.heap s.heap [] := va_S.rf
  have hl := lv_entry ([.ref g0, .int x]) (n := 2) (Nat.le_of_ble_eq_true rfl)
  rw [lg_entry_eq]
  generalize (lg_sl ([.ref g0, .int x]) ++ List.replicate (2 - (lg_sl ([.ref g0, .int x])).length) Slot.unset).toArray = ls at hl ⊢
  have hl : lv_has ls 2 [(0, .ref g0), (1, .int x)] := hl
  have SF : CallFix p m c cM_assume 2 s ([.ref g0, .int x] : List Value).toArray GG RM := ⟨hx, hb, hml, hown, hts⟩
  skip
  have hP : va_P (dC, dI) vwCl [(g0, .inr (2, [.int co, .int (nI nv), .int (nI nc), .ref aL, .int (nI us), .ref aS, .int (nI dr), .ref aF, .ref aN, .ref aA, .int (nI as), .ref aO, .ref aV, .int la, .int bl, .ref aT, .int (nI th)])), (aA, .inl (kA, 64, .inl af))] s.heap := hP
  refine lv_aload_n hx hb dM_assume_0 rfl (lv_at hl 0 rfl) ?_
  refine lv_aload_n hx hb dM_assume_1 rfl (lv_at hl 0 rfl) ?_
  refine lv_iload_n hx hb dM_assume_2 rfl (lv_at hl 1 rfl) ?_
  have hFc := va_free (wc := [(g0, .inr (2, [.int co, .int (nI nv), .int (nI nc), .ref aL, .int (nI us), .ref aS, .int (nI dr), .ref aF, .ref aN, .ref aA, .int (nI as), .ref aO, .ref aV, .int la, .int bl, .ref aT, .int (nI th)]))]) hD hS hA [0] rfl
  refine wc_i (wc_V (As := [.int x]) (rest := [.ref g0]) (n := 1) SF (k_M_isLiteral l dC dI tI _ g0 aL aS aF aN aA aO aV aT nv nc us dr as th co la bl x hnv) ml_M_62 im_M_isLiteral se_M_isLiteral in_M co_M_isLiteral (by decide +kernel) rfl rfl rfl ⟨Nat.le_of_ble_eq_true rfl, Nat.le_of_ble_eq_true rfl⟩ (va_recv (hK.sub (tys' := []) [] rfl) (hP.sub (ws' := [(g0, .inr (2, [.int co, .int (nI nv), .int (nI nc), .ref aL, .int (nI us), .ref aS, .int (nI dr), .ref aF, .ref aN, .ref aA, .int (nI as), .ref aO, .ref aV, .int la, .int bl, .ref aT, .int (nI th)]))]) [0] rfl) (ci := 2) (q0 := 0) rfl rfl) (hP.sub [0] rfl) (hD.sub [0] (by decide) rfl) (hK.sub [] rfl) hZ hX hS hFc rfl hl.1 (Nat.le_of_ble_eq_true rfl) dM_assume_3 ⟨Nat.le_of_ble_eq_true rfl, Nat.le_of_ble_eq_true rfl⟩) hP hD hS hFc [0] [1] (wr := [(aA, .inl (kA, 64, .inl af))]) rfl rfl rfl (by decide) (fun z uu H locs hw hP hD hS => ?_)
  have hP : va_P (dC, dI) vwCl [(g0, .inr (2, [.int co, .int (nI nv), .int (nI nc), .ref aL, .int (nI us), .ref aS, .int (nI dr), .ref aF, .ref aN, .ref aA, .int (nI as), .ref aO, .ref aV, .int la, .int bl, .ref aT, .int (nI th)])), (aA, .inl (kA, 64, .inl af))] H := hP.sub [1, 0] rfl
  have hD : va_D A [(g0, .inr (2, [.int co, .int (nI nv), .int (nI nc), .ref aL, .int (nI us), .ref aS, .int (nI dr), .ref aF, .ref aN, .ref aA, .int (nI as), .ref aO, .ref aV, .int la, .int bl, .ref aT, .int (nI th)])), (aA, .inl (kA, 64, .inl af))] := hD.sub [1, 0] (by decide) rfl
  refine lv_if_ne (tgt := 13) hx hb dM_assume_6 (by decide) (fun c1 => ?_) (fun c1 => ?_)
  · have hlit : (∃ L, L < 2 * nv ∧ x = nI L) := by
      rcases hw with ⟨_, q⟩ | ⟨q, _⟩
      · exact q
      · exact absurd q c1
    refine lv_aload_n hx hb dM_assume_13 rfl (lv_at hl 0 rfl) ?_
    refine va_get (D := (dC, dI)) (ci := 2) (v := .int (nI as)) (C := RM) (T := TM) (N := 17) hx hb hts lyM hown hK hP 0 rfl rfl 10 (by decide) (hts _ fl_M_53) (fun _ h9 => h9) rfl dM_assume_14 ?_
    refine lv_bipush (v := 64) hx hb dM_assume_17 (by decide) ?_
    refine lv_icmp_ne (tgt := 26) hx hb dM_assume_19 (by decide) (fun c2 => ?_) (fun c2 => ?_)
    · have c2 : as ≠ 64 := fun q => c2 ((nI_eq (a := as) (b := 64) (by omega) (by omega)).mpr q)
      refine lv_iconst (v := 0) hx hb dM_assume_26 (by decide) ?_
      refine va_put (D := (dC, dI)) (ci := 2) (v := .int 0) (ty := .int) (C := RM) (T := TM) (N := 17) hx hb hts lyM tyM tyM_ok nmM hown hK hP hD hS 0 rfl rfl 0 (by decide) (hts _ fl_M_37) (fun _ h9 => h9) rfl (by decide +kernel) rfl rfl (Nat.le_of_ble_eq_true rfl) dM_assume_27 (fun H locs hP hD hS => ?_)
      have hP : va_P (dC, dI) vwCl [(g0, .inr (2, [.int 0, .int (nI nv), .int (nI nc), .ref aL, .int (nI us), .ref aS, .int (nI dr), .ref aF, .ref aN, .ref aA, .int (nI as), .ref aO, .ref aV, .int la, .int bl, .ref aT, .int (nI th)])), (aA, .inl (kA, 64, .inl af))] H := hP
      have hD : va_D A [(g0, .inr (2, [.int 0, .int (nI nv), .int (nI nc), .ref aL, .int (nI us), .ref aS, .int (nI dr), .ref aF, .ref aN, .ref aA, .int (nI as), .ref aO, .ref aV, .int la, .int bl, .ref aT, .int (nI th)])), (aA, .inl (kA, 64, .inl af))] := hD
      refine lv_aload_n hx hb dM_assume_30 rfl (lv_at hl 0 rfl) ?_
      refine va_get (D := (dC, dI)) (ci := 2) (v := .int 0) (C := RM) (T := TM) (N := 17) hx hb hts lyM hown hK hP 0 rfl rfl 0 (by decide) (hts _ fl_M_37) (fun _ h9 => h9) rfl dM_assume_31 ?_
      refine lv_if_le (tgt := 39) hx hb dM_assume_34 (by decide) (fun c9 => ?_) (fun c9 => ?_)
      · refine lv_aload_n hx hb dM_assume_39 rfl (lv_at hl 0 rfl) ?_
        refine va_get (D := (dC, dI)) (ci := 2) (v := .ref aA) (C := RM) (T := TM) (N := 17) hx hb hts lyM hown hK hP 0 rfl rfl 9 (by decide) (hts _ fl_M_22) (fun _ h9 => h9) rfl dM_assume_40 ?_
        refine lv_aload_n hx hb dM_assume_43 rfl (lv_at hl 0 rfl) ?_
        refine va_get (D := (dC, dI)) (ci := 2) (v := .int (nI as)) (C := RM) (T := TM) (N := 17) hx hb hts lyM hown hK hP 0 rfl rfl 10 (by decide) (hts _ fl_M_53) (fun _ h9 => h9) rfl dM_assume_44 ?_
        refine lv_iload_n hx hb dM_assume_47 rfl (lv_at hl 1 rfl) ?_
        refine va_iast hx hb hK hP hD hS 1 0 rfl rfl (vp_in_nI (by omega) (by decide)) dM_assume_48 (fun H locs hP hD hS => ?_)
        rw [show upd af (nI as).toNatClampNeg x = upd af as x from by rw [nI_clamp (by omega)]] at hP hD
        have hP : va_P (dC, dI) vwCl [(g0, .inr (2, [.int 0, .int (nI nv), .int (nI nc), .ref aL, .int (nI us), .ref aS, .int (nI dr), .ref aF, .ref aN, .ref aA, .int (nI as), .ref aO, .ref aV, .int la, .int bl, .ref aT, .int (nI th)])), (aA, .inl (kA, 64, .inl (upd af as x)))] H := hP
        have hD : va_D A [(g0, .inr (2, [.int 0, .int (nI nv), .int (nI nc), .ref aL, .int (nI us), .ref aS, .int (nI dr), .ref aF, .ref aN, .ref aA, .int (nI as), .ref aO, .ref aV, .int la, .int bl, .ref aT, .int (nI th)])), (aA, .inl (kA, 64, .inl (upd af as x)))] := hD
        refine lv_aload_n hx hb dM_assume_49 rfl (lv_at hl 0 rfl) ?_
        refine lv_dup hx hb dM_assume_50 rfl ?_
        refine va_get (D := (dC, dI)) (ci := 2) (v := .int (nI as)) (C := RM) (T := TM) (N := 17) hx hb hts lyM hown hK hP 0 rfl rfl 10 (by decide) (hts _ fl_M_53) (fun _ h9 => h9) rfl dM_assume_51 ?_
        refine lv_iconst (v := 1) hx hb dM_assume_54 (by decide) ?_
        refine lv_iadd hx hb dM_assume_55 ?_
        refine ls_topi (y := nI (as + 1)) (nI_1 _) ?_
        refine va_put (D := (dC, dI)) (ci := 2) (v := .int (nI (as + 1))) (ty := .int) (C := RM) (T := TM) (N := 17) hx hb hts lyM tyM tyM_ok nmM hown hK hP hD hS 0 rfl rfl 10 (by decide) (hts _ fl_M_53) (fun _ h9 => h9) rfl (by decide +kernel) rfl rfl (Nat.le_of_ble_eq_true rfl) dM_assume_56 (fun H locs hP hD hS => ?_)
        have hP : va_P (dC, dI) vwCl [(g0, .inr (2, [.int 0, .int (nI nv), .int (nI nc), .ref aL, .int (nI us), .ref aS, .int (nI dr), .ref aF, .ref aN, .ref aA, .int (nI (as + 1)), .ref aO, .ref aV, .int la, .int bl, .ref aT, .int (nI th)])), (aA, .inl (kA, 64, .inl (upd af as x)))] H := hP
        have hD : va_D A [(g0, .inr (2, [.int 0, .int (nI nv), .int (nI nc), .ref aL, .int (nI us), .ref aS, .int (nI dr), .ref aF, .ref aN, .ref aA, .int (nI (as + 1)), .ref aO, .ref aV, .int la, .int bl, .ref aT, .int (nI th)])), (aA, .inl (kA, 64, .inl (upd af as x)))] := hD
        refine lv_aload_n hx hb dM_assume_59 rfl (lv_at hl 0 rfl) ?_
        refine va_get (D := (dC, dI)) (ci := 2) (v := .int (nI (as + 1))) (C := RM) (T := TM) (N := 17) hx hb hts lyM hown hK hP 0 rfl rfl 10 (by decide) (hts _ fl_M_53) (fun _ h9 => h9) rfl dM_assume_60 ?_
        exact (W.iret (v := nI (as + 1)) hx hb hr (fun t ht hW => ⟨⟨nI (as + 1), (upd af as x, 0, as + 1), rfl, Or.inr (Or.inr ⟨rfl, hlit, by omega, rfl⟩), by rw [ht]; exact hP, va_K.moved hW.alike hK, hD⟩, hS.F ht⟩) hS.2.2 dM_assume_63)
      · exact absurd (by decide) c9
    · have c2 : as = 64 := (nI_eq (a := as) (b := 64) (by omega) (by omega)).mp c2
      refine lv_iconst (v := 2) hx hb dM_assume_22 (by decide) ?_
      refine lv_goto (tgt := 27) hx hb dM_assume_23 (by decide) ?_
      refine va_put (D := (dC, dI)) (ci := 2) (v := .int 2) (ty := .int) (C := RM) (T := TM) (N := 17) hx hb hts lyM tyM tyM_ok nmM hown hK hP hD hS 0 rfl rfl 0 (by decide) (hts _ fl_M_37) (fun _ h9 => h9) rfl (by decide +kernel) rfl rfl (Nat.le_of_ble_eq_true rfl) dM_assume_27 (fun H locs hP hD hS => ?_)
      have hP : va_P (dC, dI) vwCl [(g0, .inr (2, [.int 2, .int (nI nv), .int (nI nc), .ref aL, .int (nI us), .ref aS, .int (nI dr), .ref aF, .ref aN, .ref aA, .int (nI as), .ref aO, .ref aV, .int la, .int bl, .ref aT, .int (nI th)])), (aA, .inl (kA, 64, .inl af))] H := hP
      have hD : va_D A [(g0, .inr (2, [.int 2, .int (nI nv), .int (nI nc), .ref aL, .int (nI us), .ref aS, .int (nI dr), .ref aF, .ref aN, .ref aA, .int (nI as), .ref aO, .ref aV, .int la, .int bl, .ref aT, .int (nI th)])), (aA, .inl (kA, 64, .inl af))] := hD
      refine lv_aload_n hx hb dM_assume_30 rfl (lv_at hl 0 rfl) ?_
      refine va_get (D := (dC, dI)) (ci := 2) (v := .int 2) (C := RM) (T := TM) (N := 17) hx hb hts lyM hown hK hP 0 rfl rfl 0 (by decide) (hts _ fl_M_37) (fun _ h9 => h9) rfl dM_assume_31 ?_
      refine lv_if_le (tgt := 39) hx hb dM_assume_34 (by decide) (fun c9 => ?_) (fun c9 => ?_)
      · exact absurd c9 (by decide)
      · refine lv_iconst (v := 0) hx hb dM_assume_37 (by decide) ?_
        exact (W.iret (v := 0) hx hb hr (fun t ht hW => ⟨⟨0, (af, 2, as), rfl, Or.inr (Or.inl ⟨rfl, ⟨hlit, c2⟩⟩), by rw [ht]; exact hP, va_K.moved hW.alike hK, hD⟩, hS.F ht⟩) hS.2.2 dM_assume_38)
  · have hnl : ¬ (∃ L, L < 2 * nv ∧ x = nI L) := by
      rcases hw with ⟨q, _⟩ | ⟨_, q⟩
      · rw [q] at c1; exact absurd c1 (by decide)
      · exact q
    refine lv_iconst (v := 1) hx hb dM_assume_9 (by decide) ?_
    refine lv_goto (tgt := 27) hx hb dM_assume_10 (by decide) ?_
    refine va_put (D := (dC, dI)) (ci := 2) (v := .int 1) (ty := .int) (C := RM) (T := TM) (N := 17) hx hb hts lyM tyM tyM_ok nmM hown hK hP hD hS 0 rfl rfl 0 (by decide) (hts _ fl_M_37) (fun _ h9 => h9) rfl (by decide +kernel) rfl rfl (Nat.le_of_ble_eq_true rfl) dM_assume_27 (fun H locs hP hD hS => ?_)
    have hP : va_P (dC, dI) vwCl [(g0, .inr (2, [.int 1, .int (nI nv), .int (nI nc), .ref aL, .int (nI us), .ref aS, .int (nI dr), .ref aF, .ref aN, .ref aA, .int (nI as), .ref aO, .ref aV, .int la, .int bl, .ref aT, .int (nI th)])), (aA, .inl (kA, 64, .inl af))] H := hP
    have hD : va_D A [(g0, .inr (2, [.int 1, .int (nI nv), .int (nI nc), .ref aL, .int (nI us), .ref aS, .int (nI dr), .ref aF, .ref aN, .ref aA, .int (nI as), .ref aO, .ref aV, .int la, .int bl, .ref aT, .int (nI th)])), (aA, .inl (kA, 64, .inl af))] := hD
    refine lv_aload_n hx hb dM_assume_30 rfl (lv_at hl 0 rfl) ?_
    refine va_get (D := (dC, dI)) (ci := 2) (v := .int 1) (C := RM) (T := TM) (N := 17) hx hb hts lyM hown hK hP 0 rfl rfl 0 (by decide) (hts _ fl_M_37) (fun _ h9 => h9) rfl dM_assume_31 ?_
    refine lv_if_le (tgt := 39) hx hb dM_assume_34 (by decide) (fun c9 => ?_) (fun c9 => ?_)
    · exact absurd c9 (by decide)
    · refine lv_iconst (v := 0) hx hb dM_assume_37 (by decide) ?_
      exact (W.iret (v := 0) hx hb hr (fun t ht hW => ⟨⟨0, (af, 1, as), rfl, Or.inl ⟨rfl, hnl⟩, by rw [ht]; exact hP, va_K.moved hW.alike hK, hD⟩, hS.F ht⟩) hS.2.2 dM_assume_38)
set_option maxHeartbeats 4000000 in
set_option maxRecDepth 100000 in
theorem k_M_blame (l : Launch) (dC : Nat → ClassId) (dI : Nat → Nat → Nat) (tI sz : Nat) (g0 aL aS aF aN aA aO aV aT : Nat) (nv nc us dr as th : Nat) (co la bl : Int32) : Met l yM_blame (Cond.code yM_blame cM_blame 1 (some .int) :: GG) (lvr 0 0 0) (va_Pc [.ref g0] (wPre dC dI [] [(g0, .inr (2, [.int co, .int (nI nv), .int (nI nc), .ref aL, .int (nI us), .ref aS, .int (nI dr), .ref aF, .ref aN, .ref aA, .int (nI as), .ref aO, .ref aV, .int la, .int bl, .ref aT, .int (nI th)]))] sz tI)) (va_Qi (fun (r : Int32) (u : Unit) => (la = 2 ∧ r = bl) ∨ (¬ la = 2 ∧ r = -1)) (fun u t => wB dC dI [] (va_A [(g0, .inr (2, [.int co, .int (nI nv), .int (nI nc), .ref aL, .int (nI us), .ref aS, .int (nI dr), .ref aF, .ref aN, .ref aA, .int (nI as), .ref aO, .ref aV, .int la, .int bl, .ref aT, .int (nI th)]))] sz) [(g0, .inr (2, [.int 0, .int (nI nv), .int (nI nc), .ref aL, .int (nI us), .ref aS, .int (nI dr), .ref aF, .ref aN, .ref aA, .int (nI as), .ref aO, .ref aV, .int la, .int bl, .ref aT, .int (nI th)]))] t) (va_A [(g0, .inr (2, [.int co, .int (nI nv), .int (nI nc), .ref aL, .int (nI us), .ref aS, .int (nI dr), .ref aF, .ref aN, .ref aA, .int (nI as), .ref aO, .ref aV, .int la, .int bl, .ref aT, .int (nI th)]))] sz)) 0 0 (va_A [(g0, .inr (2, [.int co, .int (nI nv), .int (nI nc), .ref aL, .int (nI us), .ref aS, .int (nI dr), .ref aF, .ref aN, .ref aA, .int (nI as), .ref aO, .ref aV, .int la, .int bl, .ref aT, .int (nI th)]))] sz) := by
  refine Met.ofW (cc := cM_blame) (maxL := 1) (ret := (some .int)) (by decide) rfl ?_
  intro p e s m args below meth c s₁ B hml hv
  obtain ⟨rfl, hsz, hP, hK, hD0, hZ, hX⟩ := hv
  have hx := B.exec
  have hb := B.bytes
  have hr := B.returns
  have hts : ∀ w ∈ GG, w.before ([.ref g0] : List Value).toArray s = true := fun w h => atoms_spec (ws := _ :: GG) B.pre w (List.mem_cons_of_mem _ h)
  have hown : s.vm.findClass RM = some m.cls := findClass_of_methodNamed B.named
  have hlocks := B.notSynchronized
  subst hsz
  have hD := hD0.self (sz := s.heap.size)
  generalize hAe : va_A [(g0, .inr (2, [.int co, .int (nI nv), .int (nI nc), .ref aL, .int (nI us), .ref aS, .int (nI dr), .ref aF, .ref aN, .ref aA, .int (nI as), .ref aO, .ref aV, .int la, .int bl, .ref aT, .int (nI th)]))] s.heap.size = A at hD hZ ⊢
  have hA : ∀ q : Nat, s.heap.size ≤ q → A q := fun q h => by rw [← hAe]; exact Or.inr h
  have hS : va_S A s.heap s.heap [] := va_S.rf
  have hl := lv_entry ([.ref g0]) (n := 1) (Nat.le_of_ble_eq_true rfl)
  rw [lg_entry_eq]
  generalize (lg_sl ([.ref g0]) ++ List.replicate (1 - (lg_sl ([.ref g0])).length) Slot.unset).toArray = ls at hl ⊢
  have hl : lv_has ls 1 [(0, .ref g0)] := hl
  have SF : CallFix p m c cM_blame 1 s ([.ref g0] : List Value).toArray GG RM := ⟨hx, hb, hml, hown, hts⟩
  skip
  have hP : va_P (dC, dI) vwCl [(g0, .inr (2, [.int co, .int (nI nv), .int (nI nc), .ref aL, .int (nI us), .ref aS, .int (nI dr), .ref aF, .ref aN, .ref aA, .int (nI as), .ref aO, .ref aV, .int la, .int bl, .ref aT, .int (nI th)]))] s.heap := hP
  refine lv_aload_n hx hb dM_blame_0 rfl (lv_at hl 0 rfl) ?_
  refine lv_iconst (v := 0) hx hb dM_blame_1 (by decide) ?_
  refine va_put (D := (dC, dI)) (ci := 2) (v := .int 0) (ty := .int) (C := RM) (T := TM) (N := 17) hx hb hts lyM tyM tyM_ok nmM hown hK hP hD hS 0 rfl rfl 0 (by decide) (hts _ fl_M_37) (fun _ h9 => h9) rfl (by decide +kernel) rfl rfl (Nat.le_of_ble_eq_true rfl) dM_blame_2 (fun H locs hP hD hS => ?_)
  have hP : va_P (dC, dI) vwCl [(g0, .inr (2, [.int 0, .int (nI nv), .int (nI nc), .ref aL, .int (nI us), .ref aS, .int (nI dr), .ref aF, .ref aN, .ref aA, .int (nI as), .ref aO, .ref aV, .int la, .int bl, .ref aT, .int (nI th)]))] H := hP
  have hD : va_D A [(g0, .inr (2, [.int 0, .int (nI nv), .int (nI nc), .ref aL, .int (nI us), .ref aS, .int (nI dr), .ref aF, .ref aN, .ref aA, .int (nI as), .ref aO, .ref aV, .int la, .int bl, .ref aT, .int (nI th)]))] := hD
  refine lv_aload_n hx hb dM_blame_5 rfl (lv_at hl 0 rfl) ?_
  refine va_get (D := (dC, dI)) (ci := 2) (v := .int la) (C := RM) (T := TM) (N := 17) hx hb hts lyM hown hK hP 0 rfl rfl 13 (by decide) (hts _ fl_M_56) (fun _ h9 => h9) rfl dM_blame_6 ?_
  refine lv_iconst (v := 2) hx hb dM_blame_9 (by decide) ?_
  refine lv_icmp_ne (tgt := 20) hx hb dM_blame_10 (by decide) (fun c1 => ?_) (fun c1 => ?_)
  · refine lv_iconst (v := (-1)) hx hb dM_blame_20 (by decide) ?_
    exact (W.iret (v := (-1)) hx hb hr (fun t ht hW => ⟨⟨(-1), (), rfl, Or.inr ⟨c1, rfl⟩, by rw [ht]; exact hP, va_K.moved hW.alike hK, hD⟩, hS.F ht⟩) hS.2.2 dM_blame_21)
  · refine lv_aload_n hx hb dM_blame_13 rfl (lv_at hl 0 rfl) ?_
    refine va_get (D := (dC, dI)) (ci := 2) (v := .int bl) (C := RM) (T := TM) (N := 17) hx hb hts lyM hown hK hP 0 rfl rfl 14 (by decide) (hts _ fl_M_82) (fun _ h9 => h9) rfl dM_blame_14 ?_
    refine lv_goto (tgt := 21) hx hb dM_blame_17 (by decide) ?_
    exact (W.iret (v := bl) hx hb hr (fun t ht hW => ⟨⟨bl, (), rfl, Or.inl ⟨c1, rfl⟩, by rw [ht]; exact hP, va_K.moved hW.alike hK, hD⟩, hS.F ht⟩) hS.2.2 dM_blame_21)
set_option maxHeartbeats 4000000 in
set_option maxRecDepth 100000 in
theorem k_M_shown (l : Launch) (dC : Nat → ClassId) (dI : Nat → Nat → Nat) (tI sz : Nat) (g0 aL aS aF aN aA aO aV aT : Nat) (nv nc us dr as th : Nat) (co la bl : Int32) : Met l yM_shown (Cond.code yM_shown cM_shown 1 (some .boolean) :: GG) (lvr 0 0 0) (va_Pc [.ref g0] (wPre dC dI [] [(g0, .inr (2, [.int co, .int (nI nv), .int (nI nc), .ref aL, .int (nI us), .ref aS, .int (nI dr), .ref aF, .ref aN, .ref aA, .int (nI as), .ref aO, .ref aV, .int la, .int bl, .ref aT, .int (nI th)]))] sz tI)) (va_Qi (fun (r : Int32) (u : Unit) => (la = 1 ∧ r = 1) ∨ (¬ la = 1 ∧ r = 0)) (fun u t => wB dC dI [] (va_A [(g0, .inr (2, [.int co, .int (nI nv), .int (nI nc), .ref aL, .int (nI us), .ref aS, .int (nI dr), .ref aF, .ref aN, .ref aA, .int (nI as), .ref aO, .ref aV, .int la, .int bl, .ref aT, .int (nI th)]))] sz) [(g0, .inr (2, [.int 0, .int (nI nv), .int (nI nc), .ref aL, .int (nI us), .ref aS, .int (nI dr), .ref aF, .ref aN, .ref aA, .int (nI as), .ref aO, .ref aV, .int la, .int bl, .ref aT, .int (nI th)]))] t) (va_A [(g0, .inr (2, [.int co, .int (nI nv), .int (nI nc), .ref aL, .int (nI us), .ref aS, .int (nI dr), .ref aF, .ref aN, .ref aA, .int (nI as), .ref aO, .ref aV, .int la, .int bl, .ref aT, .int (nI th)]))] sz)) 0 0 (va_A [(g0, .inr (2, [.int co, .int (nI nv), .int (nI nc), .ref aL, .int (nI us), .ref aS, .int (nI dr), .ref aF, .ref aN, .ref aA, .int (nI as), .ref aO, .ref aV, .int la, .int bl, .ref aT, .int (nI th)]))] sz) := by
  refine Met.ofW (cc := cM_shown) (maxL := 1) (ret := (some .boolean)) (by decide) rfl ?_
  intro p e s m args below meth c s₁ B hml hv
  obtain ⟨rfl, hsz, hP, hK, hD0, hZ, hX⟩ := hv
  have hx := B.exec
  have hb := B.bytes
  have hr := B.returns
  have hts : ∀ w ∈ GG, w.before ([.ref g0] : List Value).toArray s = true := fun w h => atoms_spec (ws := _ :: GG) B.pre w (List.mem_cons_of_mem _ h)
  have hown : s.vm.findClass RM = some m.cls := findClass_of_methodNamed B.named
  have hlocks := B.notSynchronized
  subst hsz
  have hD := hD0.self (sz := s.heap.size)
  generalize hAe : va_A [(g0, .inr (2, [.int co, .int (nI nv), .int (nI nc), .ref aL, .int (nI us), .ref aS, .int (nI dr), .ref aF, .ref aN, .ref aA, .int (nI as), .ref aO, .ref aV, .int la, .int bl, .ref aT, .int (nI th)]))] s.heap.size = A at hD hZ ⊢
  have hA : ∀ q : Nat, s.heap.size ≤ q → A q := fun q h => by rw [← hAe]; exact Or.inr h
  have hS : va_S A s.heap s.heap [] := va_S.rf
  have hl := lv_entry ([.ref g0]) (n := 1) (Nat.le_of_ble_eq_true rfl)
  rw [lg_entry_eq]
  generalize (lg_sl ([.ref g0]) ++ List.replicate (1 - (lg_sl ([.ref g0])).length) Slot.unset).toArray = ls at hl ⊢
  have hl : lv_has ls 1 [(0, .ref g0)] := hl
  have SF : CallFix p m c cM_shown 1 s ([.ref g0] : List Value).toArray GG RM := ⟨hx, hb, hml, hown, hts⟩
  skip
  have hP : va_P (dC, dI) vwCl [(g0, .inr (2, [.int co, .int (nI nv), .int (nI nc), .ref aL, .int (nI us), .ref aS, .int (nI dr), .ref aF, .ref aN, .ref aA, .int (nI as), .ref aO, .ref aV, .int la, .int bl, .ref aT, .int (nI th)]))] s.heap := hP
  refine lv_aload_n hx hb dM_shown_0 rfl (lv_at hl 0 rfl) ?_
  refine lv_iconst (v := 0) hx hb dM_shown_1 (by decide) ?_
  refine va_put (D := (dC, dI)) (ci := 2) (v := .int 0) (ty := .int) (C := RM) (T := TM) (N := 17) hx hb hts lyM tyM tyM_ok nmM hown hK hP hD hS 0 rfl rfl 0 (by decide) (hts _ fl_M_37) (fun _ h9 => h9) rfl (by decide +kernel) rfl rfl (Nat.le_of_ble_eq_true rfl) dM_shown_2 (fun H locs hP hD hS => ?_)
  have hP : va_P (dC, dI) vwCl [(g0, .inr (2, [.int 0, .int (nI nv), .int (nI nc), .ref aL, .int (nI us), .ref aS, .int (nI dr), .ref aF, .ref aN, .ref aA, .int (nI as), .ref aO, .ref aV, .int la, .int bl, .ref aT, .int (nI th)]))] H := hP
  have hD : va_D A [(g0, .inr (2, [.int 0, .int (nI nv), .int (nI nc), .ref aL, .int (nI us), .ref aS, .int (nI dr), .ref aF, .ref aN, .ref aA, .int (nI as), .ref aO, .ref aV, .int la, .int bl, .ref aT, .int (nI th)]))] := hD
  refine lv_aload_n hx hb dM_shown_5 rfl (lv_at hl 0 rfl) ?_
  refine va_get (D := (dC, dI)) (ci := 2) (v := .int la) (C := RM) (T := TM) (N := 17) hx hb hts lyM hown hK hP 0 rfl rfl 13 (by decide) (hts _ fl_M_56) (fun _ h9 => h9) rfl dM_shown_6 ?_
  refine lv_iconst (v := 1) hx hb dM_shown_9 (by decide) ?_
  refine lv_icmp_ne (tgt := 17) hx hb dM_shown_10 (by decide) (fun c1 => ?_) (fun c1 => ?_)
  · refine lv_iconst (v := 0) hx hb dM_shown_17 (by decide) ?_
    exact (W.zret (v := 0) hx hb hr (rfl) (fun t ht hW => ⟨⟨0, (), rfl, Or.inr ⟨c1, rfl⟩, by rw [ht]; exact hP, va_K.moved hW.alike hK, hD⟩, hS.F ht⟩) hS.2.2 dM_shown_18)
  · refine lv_iconst (v := 1) hx hb dM_shown_13 (by decide) ?_
    refine lv_goto (tgt := 18) hx hb dM_shown_14 (by decide) ?_
    exact (W.zret (v := 1) hx hb hr (rfl) (fun t ht hW => ⟨⟨1, (), rfl, Or.inl ⟨c1, rfl⟩, by rw [ht]; exact hP, va_K.moved hW.alike hK, hD⟩, hS.F ht⟩) hS.2.2 dM_shown_18)
set_option maxHeartbeats 4000000 in
set_option maxRecDepth 100000 in
theorem k_M_proved (l : Launch) (dC : Nat → ClassId) (dI : Nat → Nat → Nat) (tI sz : Nat) (g0 aL aS aF aN aA aO aV aT : Nat) (nv nc us dr as th : Nat) (co la bl : Int32) : Met l yM_proved (Cond.code yM_proved cM_proved 1 (some .boolean) :: GG) (lvr 0 0 0) (va_Pc [.ref g0] (wPre dC dI [] [(g0, .inr (2, [.int co, .int (nI nv), .int (nI nc), .ref aL, .int (nI us), .ref aS, .int (nI dr), .ref aF, .ref aN, .ref aA, .int (nI as), .ref aO, .ref aV, .int la, .int bl, .ref aT, .int (nI th)]))] sz tI)) (va_Qi (fun (r : Int32) (u : Unit) => (la = 2 ∧ r = 1) ∨ (¬ la = 2 ∧ r = 0)) (fun u t => wB dC dI [] (va_A [(g0, .inr (2, [.int co, .int (nI nv), .int (nI nc), .ref aL, .int (nI us), .ref aS, .int (nI dr), .ref aF, .ref aN, .ref aA, .int (nI as), .ref aO, .ref aV, .int la, .int bl, .ref aT, .int (nI th)]))] sz) [(g0, .inr (2, [.int 0, .int (nI nv), .int (nI nc), .ref aL, .int (nI us), .ref aS, .int (nI dr), .ref aF, .ref aN, .ref aA, .int (nI as), .ref aO, .ref aV, .int la, .int bl, .ref aT, .int (nI th)]))] t) (va_A [(g0, .inr (2, [.int co, .int (nI nv), .int (nI nc), .ref aL, .int (nI us), .ref aS, .int (nI dr), .ref aF, .ref aN, .ref aA, .int (nI as), .ref aO, .ref aV, .int la, .int bl, .ref aT, .int (nI th)]))] sz)) 0 0 (va_A [(g0, .inr (2, [.int co, .int (nI nv), .int (nI nc), .ref aL, .int (nI us), .ref aS, .int (nI dr), .ref aF, .ref aN, .ref aA, .int (nI as), .ref aO, .ref aV, .int la, .int bl, .ref aT, .int (nI th)]))] sz) := by
  refine Met.ofW (cc := cM_proved) (maxL := 1) (ret := (some .boolean)) (by decide) rfl ?_
  intro p e s m args below meth c s₁ B hml hv
  obtain ⟨rfl, hsz, hP, hK, hD0, hZ, hX⟩ := hv
  have hx := B.exec
  have hb := B.bytes
  have hr := B.returns
  have hts : ∀ w ∈ GG, w.before ([.ref g0] : List Value).toArray s = true := fun w h => atoms_spec (ws := _ :: GG) B.pre w (List.mem_cons_of_mem _ h)
  have hown : s.vm.findClass RM = some m.cls := findClass_of_methodNamed B.named
  have hlocks := B.notSynchronized
  subst hsz
  have hD := hD0.self (sz := s.heap.size)
  generalize hAe : va_A [(g0, .inr (2, [.int co, .int (nI nv), .int (nI nc), .ref aL, .int (nI us), .ref aS, .int (nI dr), .ref aF, .ref aN, .ref aA, .int (nI as), .ref aO, .ref aV, .int la, .int bl, .ref aT, .int (nI th)]))] s.heap.size = A at hD hZ ⊢
  have hA : ∀ q : Nat, s.heap.size ≤ q → A q := fun q h => by rw [← hAe]; exact Or.inr h
  have hS : va_S A s.heap s.heap [] := va_S.rf
  have hl := lv_entry ([.ref g0]) (n := 1) (Nat.le_of_ble_eq_true rfl)
  rw [lg_entry_eq]
  generalize (lg_sl ([.ref g0]) ++ List.replicate (1 - (lg_sl ([.ref g0])).length) Slot.unset).toArray = ls at hl ⊢
  have hl : lv_has ls 1 [(0, .ref g0)] := hl
  have SF : CallFix p m c cM_proved 1 s ([.ref g0] : List Value).toArray GG RM := ⟨hx, hb, hml, hown, hts⟩
  skip
  have hP : va_P (dC, dI) vwCl [(g0, .inr (2, [.int co, .int (nI nv), .int (nI nc), .ref aL, .int (nI us), .ref aS, .int (nI dr), .ref aF, .ref aN, .ref aA, .int (nI as), .ref aO, .ref aV, .int la, .int bl, .ref aT, .int (nI th)]))] s.heap := hP
  refine lv_aload_n hx hb dM_proved_0 rfl (lv_at hl 0 rfl) ?_
  refine lv_iconst (v := 0) hx hb dM_proved_1 (by decide) ?_
  refine va_put (D := (dC, dI)) (ci := 2) (v := .int 0) (ty := .int) (C := RM) (T := TM) (N := 17) hx hb hts lyM tyM tyM_ok nmM hown hK hP hD hS 0 rfl rfl 0 (by decide) (hts _ fl_M_37) (fun _ h9 => h9) rfl (by decide +kernel) rfl rfl (Nat.le_of_ble_eq_true rfl) dM_proved_2 (fun H locs hP hD hS => ?_)
  have hP : va_P (dC, dI) vwCl [(g0, .inr (2, [.int 0, .int (nI nv), .int (nI nc), .ref aL, .int (nI us), .ref aS, .int (nI dr), .ref aF, .ref aN, .ref aA, .int (nI as), .ref aO, .ref aV, .int la, .int bl, .ref aT, .int (nI th)]))] H := hP
  have hD : va_D A [(g0, .inr (2, [.int 0, .int (nI nv), .int (nI nc), .ref aL, .int (nI us), .ref aS, .int (nI dr), .ref aF, .ref aN, .ref aA, .int (nI as), .ref aO, .ref aV, .int la, .int bl, .ref aT, .int (nI th)]))] := hD
  refine lv_aload_n hx hb dM_proved_5 rfl (lv_at hl 0 rfl) ?_
  refine va_get (D := (dC, dI)) (ci := 2) (v := .int la) (C := RM) (T := TM) (N := 17) hx hb hts lyM hown hK hP 0 rfl rfl 13 (by decide) (hts _ fl_M_56) (fun _ h9 => h9) rfl dM_proved_6 ?_
  refine lv_iconst (v := 2) hx hb dM_proved_9 (by decide) ?_
  refine lv_icmp_ne (tgt := 17) hx hb dM_proved_10 (by decide) (fun c1 => ?_) (fun c1 => ?_)
  · refine lv_iconst (v := 0) hx hb dM_proved_17 (by decide) ?_
    exact (W.zret (v := 0) hx hb hr (rfl) (fun t ht hW => ⟨⟨0, (), rfl, Or.inr ⟨c1, rfl⟩, by rw [ht]; exact hP, va_K.moved hW.alike hK, hD⟩, hS.F ht⟩) hS.2.2 dM_proved_18)
  · refine lv_iconst (v := 1) hx hb dM_proved_13 (by decide) ?_
    refine lv_goto (tgt := 18) hx hb dM_proved_14 (by decide) ?_
    exact (W.zret (v := 1) hx hb hr (rfl) (fun t ht hW => ⟨⟨1, (), rfl, Or.inl ⟨c1, rfl⟩, by rw [ht]; exact hP, va_K.moved hW.alike hK, hD⟩, hS.F ht⟩) hS.2.2 dM_proved_18)
set_option maxHeartbeats 4000000 in
set_option maxRecDepth 100000 in
theorem k_M_least (l : Launch) (dC : Nat → ClassId) (dI : Nat → Nat → Nat) (tI sz : Nat) (g0 aL aS aF aN aA aO aV aT : Nat) (kT : ClassId) (tf : Nat → Int32) (nv nc us dr as th : Nat) (co la bl : Int32) (x : Int32) (hnv : nv ≤ 16) (hth : th ≤ 16) : Met l yM_least (Cond.code yM_least cM_least 2 (some .int) :: GG) (lvr 0 0 0) (va_Pc [.ref g0, .int x] (wPre dC dI [(kT, .int)] [(g0, .inr (2, [.int co, .int (nI nv), .int (nI nc), .ref aL, .int (nI us), .ref aS, .int (nI dr), .ref aF, .ref aN, .ref aA, .int (nI as), .ref aO, .ref aV, .int la, .int bl, .ref aT, .int (nI th)])), (aT, .inl (kT, 16, .inl tf))] sz tI)) (va_Qi (fun (r : Int32) (u : Int32) => (u = 1 ∧ ¬ (∃ v, v < nv ∧ x = nI v)) ∨ (u = 0 ∧ ∃ v, v < nv ∧ x = nI v ∧ ((r = -1 ∧ (¬ la = 1 ∨ th ≤ v)) ∨ (la = 1 ∧ v < th ∧ r = tf v)))) (fun u t => wB dC dI [(kT, .int)] (va_A [(g0, .inr (2, [.int co, .int (nI nv), .int (nI nc), .ref aL, .int (nI us), .ref aS, .int (nI dr), .ref aF, .ref aN, .ref aA, .int (nI as), .ref aO, .ref aV, .int la, .int bl, .ref aT, .int (nI th)])), (aT, .inl (kT, 16, .inl tf))] sz) [(g0, .inr (2, [.int u, .int (nI nv), .int (nI nc), .ref aL, .int (nI us), .ref aS, .int (nI dr), .ref aF, .ref aN, .ref aA, .int (nI as), .ref aO, .ref aV, .int la, .int bl, .ref aT, .int (nI th)])), (aT, .inl (kT, 16, .inl tf))] t) (va_A [(g0, .inr (2, [.int co, .int (nI nv), .int (nI nc), .ref aL, .int (nI us), .ref aS, .int (nI dr), .ref aF, .ref aN, .ref aA, .int (nI as), .ref aO, .ref aV, .int la, .int bl, .ref aT, .int (nI th)])), (aT, .inl (kT, 16, .inl tf))] sz)) 0 0 (va_A [(g0, .inr (2, [.int co, .int (nI nv), .int (nI nc), .ref aL, .int (nI us), .ref aS, .int (nI dr), .ref aF, .ref aN, .ref aA, .int (nI as), .ref aO, .ref aV, .int la, .int bl, .ref aT, .int (nI th)])), (aT, .inl (kT, 16, .inl tf))] sz) := by
  refine Met.ofW (cc := cM_least) (maxL := 2) (ret := (some .int)) (by decide) rfl ?_
  intro p e s m args below meth c s₁ B hml hv
  obtain ⟨rfl, hsz, hP, hK, hD0, hZ, hX⟩ := hv
  have hx := B.exec
  have hb := B.bytes
  have hr := B.returns
  have hts : ∀ w ∈ GG, w.before ([.ref g0, .int x] : List Value).toArray s = true := fun w h => atoms_spec (ws := _ :: GG) B.pre w (List.mem_cons_of_mem _ h)
  have hown : s.vm.findClass RM = some m.cls := findClass_of_methodNamed B.named
  have hlocks := B.notSynchronized
  subst hsz
  have hD := hD0.self (sz := s.heap.size)
  generalize hAe : va_A [(g0, .inr (2, [.int co, .int (nI nv), .int (nI nc), .ref aL, .int (nI us), .ref aS, .int (nI dr), .ref aF, .ref aN, .ref aA, .int (nI as), .ref aO, .ref aV, .int la, .int bl, .ref aT, .int (nI th)])), (aT, .inl (kT, 16, .inl tf))] s.heap.size = A at hD hZ ⊢
  have hA : ∀ q : Nat, s.heap.size ≤ q → A q := fun q h => by rw [← hAe]; exact Or.inr h
  have hS : va_S A s.heap s.heap [] := va_S.rf
  have hl := lv_entry ([.ref g0, .int x]) (n := 2) (Nat.le_of_ble_eq_true rfl)
  rw [lg_entry_eq]
  generalize (lg_sl ([.ref g0, .int x]) ++ List.replicate (2 - (lg_sl ([.ref g0, .int x])).length) Slot.unset).toArray = ls at hl ⊢
  have hl : lv_has ls 2 [(0, .ref g0), (1, .int x)] := hl
  have SF : CallFix p m c cM_least 2 s ([.ref g0, .int x] : List Value).toArray GG RM := ⟨hx, hb, hml, hown, hts⟩
  skip
  have hP : va_P (dC, dI) vwCl [(g0, .inr (2, [.int co, .int (nI nv), .int (nI nc), .ref aL, .int (nI us), .ref aS, .int (nI dr), .ref aF, .ref aN, .ref aA, .int (nI as), .ref aO, .ref aV, .int la, .int bl, .ref aT, .int (nI th)])), (aT, .inl (kT, 16, .inl tf))] s.heap := hP
  refine lv_aload_n hx hb dM_least_0 rfl (lv_at hl 0 rfl) ?_
  refine lv_iload_n hx hb dM_least_1 rfl (lv_at hl 1 rfl) ?_
  refine lv_if_lt (tgt := 13) hx hb dM_least_2 (by decide) (fun c1 => ?_) (fun c1 => ?_)
  · refine lv_iconst (v := 1) hx hb dM_least_13 (by decide) ?_
    refine lv_goto (tgt := 18) hx hb dM_least_14 (by decide) ?_
    refine va_put (D := (dC, dI)) (ci := 2) (v := .int 1) (ty := .int) (C := RM) (T := TM) (N := 17) hx hb hts lyM tyM tyM_ok nmM hown hK hP hD hS 0 rfl rfl 0 (by decide) (hts _ fl_M_37) (fun _ h9 => h9) rfl (by decide +kernel) rfl rfl (Nat.le_of_ble_eq_true rfl) dM_least_18 (fun H locs hP hD hS => ?_)
    have hP : va_P (dC, dI) vwCl [(g0, .inr (2, [.int 1, .int (nI nv), .int (nI nc), .ref aL, .int (nI us), .ref aS, .int (nI dr), .ref aF, .ref aN, .ref aA, .int (nI as), .ref aO, .ref aV, .int la, .int bl, .ref aT, .int (nI th)])), (aT, .inl (kT, 16, .inl tf))] H := hP
    have hD : va_D A [(g0, .inr (2, [.int 1, .int (nI nv), .int (nI nc), .ref aL, .int (nI us), .ref aS, .int (nI dr), .ref aF, .ref aN, .ref aA, .int (nI as), .ref aO, .ref aV, .int la, .int bl, .ref aT, .int (nI th)])), (aT, .inl (kT, 16, .inl tf))] := hD
    refine lv_aload_n hx hb dM_least_21 rfl (lv_at hl 0 rfl) ?_
    refine va_get (D := (dC, dI)) (ci := 2) (v := .int 1) (C := RM) (T := TM) (N := 17) hx hb hts lyM hown hK hP 0 rfl rfl 0 (by decide) (hts _ fl_M_37) (fun _ h9 => h9) rfl dM_least_22 ?_
    refine lv_if_le (tgt := 30) hx hb dM_least_25 (by decide) (fun c9 => ?_) (fun c9 => ?_)
    · exact absurd c9 (by decide)
    · refine lv_iconst (v := 0) hx hb dM_least_28 (by decide) ?_
      exact (W.iret (v := 0) hx hb hr (fun t ht hW => ⟨⟨0, 1, rfl, Or.inl ⟨rfl, fun ⟨v, hv, e⟩ => absurd c1 (by rw [e]; exact nI_pos (by omega))⟩, by rw [ht]; exact hP, va_K.moved hW.alike hK, hD⟩, hS.F ht⟩) hS.2.2 dM_least_29)
  · refine lv_iload_n hx hb dM_least_5 rfl (lv_at hl 1 rfl) ?_
    refine lv_aload_n hx hb dM_least_6 rfl (lv_at hl 0 rfl) ?_
    refine va_get (D := (dC, dI)) (ci := 2) (v := .int (nI nv)) (C := RM) (T := TM) (N := 17) hx hb hts lyM hown hK hP 0 rfl rfl 1 (by decide) (hts _ fl_M_41) (fun _ h9 => h9) rfl dM_least_7 ?_
    refine lv_icmp_lt (tgt := 17) hx hb dM_least_10 (by decide) (fun c2 => ?_) (fun c2 => ?_)
    · obtain ⟨v, hv31, ev⟩ := nI_of c1
      have hv : v < nv := (nI_ltI (by omega) (by omega)).mp (by rw [← ev]; exact c2)
      subst ev
      refine lv_iconst (v := 0) hx hb dM_least_17 (by decide) ?_
      refine va_put (D := (dC, dI)) (ci := 2) (v := .int 0) (ty := .int) (C := RM) (T := TM) (N := 17) hx hb hts lyM tyM tyM_ok nmM hown hK hP hD hS 0 rfl rfl 0 (by decide) (hts _ fl_M_37) (fun _ h9 => h9) rfl (by decide +kernel) rfl rfl (Nat.le_of_ble_eq_true rfl) dM_least_18 (fun H locs hP hD hS => ?_)
      have hP : va_P (dC, dI) vwCl [(g0, .inr (2, [.int 0, .int (nI nv), .int (nI nc), .ref aL, .int (nI us), .ref aS, .int (nI dr), .ref aF, .ref aN, .ref aA, .int (nI as), .ref aO, .ref aV, .int la, .int bl, .ref aT, .int (nI th)])), (aT, .inl (kT, 16, .inl tf))] H := hP
      have hD : va_D A [(g0, .inr (2, [.int 0, .int (nI nv), .int (nI nc), .ref aL, .int (nI us), .ref aS, .int (nI dr), .ref aF, .ref aN, .ref aA, .int (nI as), .ref aO, .ref aV, .int la, .int bl, .ref aT, .int (nI th)])), (aT, .inl (kT, 16, .inl tf))] := hD
      refine lv_aload_n hx hb dM_least_21 rfl (lv_at hl 0 rfl) ?_
      refine va_get (D := (dC, dI)) (ci := 2) (v := .int 0) (C := RM) (T := TM) (N := 17) hx hb hts lyM hown hK hP 0 rfl rfl 0 (by decide) (hts _ fl_M_37) (fun _ h9 => h9) rfl dM_least_22 ?_
      refine lv_if_le (tgt := 30) hx hb dM_least_25 (by decide) (fun c9 => ?_) (fun c9 => ?_)
      · refine lv_aload_n hx hb dM_least_30 rfl (lv_at hl 0 rfl) ?_
        refine va_get (D := (dC, dI)) (ci := 2) (v := .int la) (C := RM) (T := TM) (N := 17) hx hb hts lyM hown hK hP 0 rfl rfl 13 (by decide) (hts _ fl_M_56) (fun _ h9 => h9) rfl dM_least_31 ?_
        refine lv_iconst (v := 1) hx hb dM_least_34 (by decide) ?_
        refine lv_icmp_ne (tgt := 55) hx hb dM_least_35 (by decide) (fun c3 => ?_) (fun c3 => ?_)
        · refine lv_iconst (v := (-1)) hx hb dM_least_55 (by decide) ?_
          exact (W.iret (v := (-1)) hx hb hr (fun t ht hW => ⟨⟨(-1), 0, rfl, Or.inr ⟨rfl, v, hv, rfl, Or.inl ⟨rfl, Or.inl c3⟩⟩, by rw [ht]; exact hP, va_K.moved hW.alike hK, hD⟩, hS.F ht⟩) hS.2.2 dM_least_56)
        · refine lv_iload_n hx hb dM_least_38 rfl (lv_at hl 1 rfl) ?_
          refine lv_aload_n hx hb dM_least_39 rfl (lv_at hl 0 rfl) ?_
          refine va_get (D := (dC, dI)) (ci := 2) (v := .int (nI th)) (C := RM) (T := TM) (N := 17) hx hb hts lyM hown hK hP 0 rfl rfl 16 (by decide) (hts _ fl_M_59) (fun _ h9 => h9) rfl dM_least_40 ?_
          refine lv_icmp_ge (tgt := 55) hx hb dM_least_43 (by decide) (fun c4 => ?_) (fun c4 => ?_)
          · have c4 : th ≤ v := (nI_leI (a := th) (b := v) (by omega) (by omega)).mp c4
            refine lv_iconst (v := (-1)) hx hb dM_least_55 (by decide) ?_
            exact (W.iret (v := (-1)) hx hb hr (fun t ht hW => ⟨⟨(-1), 0, rfl, Or.inr ⟨rfl, v, hv, rfl, Or.inl ⟨rfl, Or.inr c4⟩⟩, by rw [ht]; exact hP, va_K.moved hW.alike hK, hD⟩, hS.F ht⟩) hS.2.2 dM_least_56)
          · have c4 : v < th := Nat.lt_of_not_le (fun q => c4 ((nI_leI (a := th) (b := v) (by omega) (by omega)).mpr q))
            refine lv_aload_n hx hb dM_least_46 rfl (lv_at hl 0 rfl) ?_
            refine va_get (D := (dC, dI)) (ci := 2) (v := .ref aT) (C := RM) (T := TM) (N := 17) hx hb hts lyM hown hK hP 0 rfl rfl 15 (by decide) (hts _ fl_M_31) (fun _ h9 => h9) rfl dM_least_47 ?_
            refine lv_iload_n hx hb dM_least_50 rfl (lv_at hl 1 rfl) ?_
            refine va_iald hx hb hK hP 1 0 rfl rfl (vp_in_nI (by omega) (by decide)) dM_least_51 ?_
            refine ls_topi (y := tf v) (by rw [nI_clamp (by omega)]) ?_
            refine lv_goto (tgt := 56) hx hb dM_least_52 (by decide) ?_
            exact (W.iret (v := tf v) hx hb hr (fun t ht hW => ⟨⟨tf v, 0, rfl, Or.inr ⟨rfl, v, hv, rfl, Or.inr ⟨c3, c4, rfl⟩⟩, by rw [ht]; exact hP, va_K.moved hW.alike hK, hD⟩, hS.F ht⟩) hS.2.2 dM_least_56)
      · exact absurd (by decide) c9
    · refine lv_iconst (v := 1) hx hb dM_least_13 (by decide) ?_
      refine lv_goto (tgt := 18) hx hb dM_least_14 (by decide) ?_
      refine va_put (D := (dC, dI)) (ci := 2) (v := .int 1) (ty := .int) (C := RM) (T := TM) (N := 17) hx hb hts lyM tyM tyM_ok nmM hown hK hP hD hS 0 rfl rfl 0 (by decide) (hts _ fl_M_37) (fun _ h9 => h9) rfl (by decide +kernel) rfl rfl (Nat.le_of_ble_eq_true rfl) dM_least_18 (fun H locs hP hD hS => ?_)
      have hP : va_P (dC, dI) vwCl [(g0, .inr (2, [.int 1, .int (nI nv), .int (nI nc), .ref aL, .int (nI us), .ref aS, .int (nI dr), .ref aF, .ref aN, .ref aA, .int (nI as), .ref aO, .ref aV, .int la, .int bl, .ref aT, .int (nI th)])), (aT, .inl (kT, 16, .inl tf))] H := hP
      have hD : va_D A [(g0, .inr (2, [.int 1, .int (nI nv), .int (nI nc), .ref aL, .int (nI us), .ref aS, .int (nI dr), .ref aF, .ref aN, .ref aA, .int (nI as), .ref aO, .ref aV, .int la, .int bl, .ref aT, .int (nI th)])), (aT, .inl (kT, 16, .inl tf))] := hD
      refine lv_aload_n hx hb dM_least_21 rfl (lv_at hl 0 rfl) ?_
      refine va_get (D := (dC, dI)) (ci := 2) (v := .int 1) (C := RM) (T := TM) (N := 17) hx hb hts lyM hown hK hP 0 rfl rfl 0 (by decide) (hts _ fl_M_37) (fun _ h9 => h9) rfl dM_least_22 ?_
      refine lv_if_le (tgt := 30) hx hb dM_least_25 (by decide) (fun c9 => ?_) (fun c9 => ?_)
      · exact absurd c9 (by decide)
      · refine lv_iconst (v := 0) hx hb dM_least_28 (by decide) ?_
        exact (W.iret (v := 0) hx hb hr (fun t ht hW => ⟨⟨0, 1, rfl, Or.inl ⟨rfl, fun ⟨v, hv, e⟩ => c2 (by rw [e]; exact nI_lt hv (by omega))⟩, by rw [ht]; exact hP, va_K.moved hW.alike hK, hD⟩, hS.F ht⟩) hS.2.2 dM_least_29)
set_option maxHeartbeats 4000000 in
set_option maxRecDepth 100000 in
theorem k_M_free (l : Launch) (dC : Nat → ClassId) (dI : Nat → Nat → Nat) (tI sz : Nat) (g0 aL aS aF aN aA aO aV aT : Nat) (kO : ClassId) (of : Nat → Int32) (nv nc us dr as th : Nat) (co la bl : Int32) (hnv : nv ≤ 16) : Met l yM_free (Cond.code yM_free cM_free 2 none :: GG) (lvr 0 0 0) (va_Pc [.ref g0] (wPre dC dI [(kO, .int)] [(g0, .inr (2, [.int co, .int (nI nv), .int (nI nc), .ref aL, .int (nI us), .ref aS, .int (nI dr), .ref aF, .ref aN, .ref aA, .int (nI as), .ref aO, .ref aV, .int la, .int bl, .ref aT, .int (nI th)])), (aO, .inl (kO, 16, .inl of))] sz tI)) (va_Qv (fun (u : Nat → Int32) => ∀ k, k < nv → u k = -1) (fun u t => wB dC dI [(kO, .int)] (va_A [(g0, .inr (2, [.int co, .int (nI nv), .int (nI nc), .ref aL, .int (nI us), .ref aS, .int (nI dr), .ref aF, .ref aN, .ref aA, .int (nI as), .ref aO, .ref aV, .int la, .int bl, .ref aT, .int (nI th)])), (aO, .inl (kO, 16, .inl of))] sz) [(g0, .inr (2, [.int co, .int (nI nv), .int (nI nc), .ref aL, .int (nI us), .ref aS, .int (nI dr), .ref aF, .ref aN, .ref aA, .int (nI as), .ref aO, .ref aV, .int la, .int bl, .ref aT, .int (nI th)])), (aO, .inl (kO, 16, .inl u))] t) (va_A [(g0, .inr (2, [.int co, .int (nI nv), .int (nI nc), .ref aL, .int (nI us), .ref aS, .int (nI dr), .ref aF, .ref aN, .ref aA, .int (nI as), .ref aO, .ref aV, .int la, .int bl, .ref aT, .int (nI th)])), (aO, .inl (kO, 16, .inl of))] sz)) 0 0 (va_A [(g0, .inr (2, [.int co, .int (nI nv), .int (nI nc), .ref aL, .int (nI us), .ref aS, .int (nI dr), .ref aF, .ref aN, .ref aA, .int (nI as), .ref aO, .ref aV, .int la, .int bl, .ref aT, .int (nI th)])), (aO, .inl (kO, 16, .inl of))] sz) := by
  refine Met.ofW (cc := cM_free) (maxL := 2) (ret := none) (by decide) rfl ?_
  intro p e s m args below meth c s₁ B hml hv
  obtain ⟨rfl, hsz, hP, hK, hD0, hZ, hX⟩ := hv
  have hx := B.exec
  have hb := B.bytes
  have hr := B.returns
  have hts : ∀ w ∈ GG, w.before ([.ref g0] : List Value).toArray s = true := fun w h => atoms_spec (ws := _ :: GG) B.pre w (List.mem_cons_of_mem _ h)
  have hown : s.vm.findClass RM = some m.cls := findClass_of_methodNamed B.named
  have hlocks := B.notSynchronized
  subst hsz
  have hD := hD0.self (sz := s.heap.size)
  generalize hAe : va_A [(g0, .inr (2, [.int co, .int (nI nv), .int (nI nc), .ref aL, .int (nI us), .ref aS, .int (nI dr), .ref aF, .ref aN, .ref aA, .int (nI as), .ref aO, .ref aV, .int la, .int bl, .ref aT, .int (nI th)])), (aO, .inl (kO, 16, .inl of))] s.heap.size = A at hD hZ ⊢
  have hA : ∀ q : Nat, s.heap.size ≤ q → A q := fun q h => by rw [← hAe]; exact Or.inr h
  have hS : va_S A s.heap s.heap [] := va_S.rf
  have hl := lv_entry ([.ref g0]) (n := 2) (Nat.le_of_ble_eq_true rfl)
  rw [lg_entry_eq]
  generalize (lg_sl ([.ref g0]) ++ List.replicate (2 - (lg_sl ([.ref g0])).length) Slot.unset).toArray = ls at hl ⊢
  have hl : lv_has ls 2 [(0, .ref g0)] := hl
  have SF : CallFix p m c cM_free 2 s ([.ref g0] : List Value).toArray GG RM := ⟨hx, hb, hml, hown, hts⟩
  skip
  have hP : va_P (dC, dI) vwCl [(g0, .inr (2, [.int co, .int (nI nv), .int (nI nc), .ref aL, .int (nI us), .ref aS, .int (nI dr), .ref aF, .ref aN, .ref aA, .int (nI as), .ref aO, .ref aV, .int la, .int bl, .ref aT, .int (nI th)])), (aO, .inl (kO, 16, .inl of))] s.heap := hP
  refine lv_iconst (v := 0) hx hb dM_free_0 (by decide) ?_
  refine lv_istore_n (lv' := [(1, .int 0), (0, .ref g0)]) hx hb dM_free_1 rfl hl (by decide) rfl (fun ls hl => ?_)
  refine lp_mu (α := Nat × (Nat → Int32)) (fun a_ => match a_ with | (i, g) => nv - i) (fun a_ H locs ls => match a_ with | (i, g) => (i ≤ nv ∧ ∀ k, k < i → g k = -1) ∧ va_P (dC, dI) vwCl [(g0, .inr (2, [.int co, .int (nI nv), .int (nI nc), .ref aL, .int (nI us), .ref aS, .int (nI dr), .ref aF, .ref aN, .ref aA, .int (nI as), .ref aO, .ref aV, .int la, .int bl, .ref aT, .int (nI th)])), (aO, .inl (kO, 16, .inl g))] H ∧ va_D A [(g0, .inr (2, [.int co, .int (nI nv), .int (nI nc), .ref aL, .int (nI us), .ref aS, .int (nI dr), .ref aF, .ref aN, .ref aA, .int (nI as), .ref aO, .ref aV, .int la, .int bl, .ref aT, .int (nI th)])), (aO, .inl (kO, 16, .inl g))] ∧ va_S A s.heap H locs ∧ lv_has ls 2 [(0, .ref g0), (1, .int (nI i))]) ?_ (0, of) ⟨⟨Nat.zero_le _, fun k hk => absurd hk (Nat.not_lt_zero _)⟩, hP, hD, hS, lv_sub hl [1, 0] rfl⟩
  intro a_ H locs ls hI ih
  obtain ⟨i, g⟩ := a_
  obtain ⟨hI, hP, hD, hS, hl⟩ := hI
  have hI : i ≤ nv ∧ ∀ k, k < i → g k = -1 := hI
  have hP : va_P (dC, dI) vwCl [(g0, .inr (2, [.int co, .int (nI nv), .int (nI nc), .ref aL, .int (nI us), .ref aS, .int (nI dr), .ref aF, .ref aN, .ref aA, .int (nI as), .ref aO, .ref aV, .int la, .int bl, .ref aT, .int (nI th)])), (aO, .inl (kO, 16, .inl g))] H := hP
  have hD : va_D A [(g0, .inr (2, [.int co, .int (nI nv), .int (nI nc), .ref aL, .int (nI us), .ref aS, .int (nI dr), .ref aF, .ref aN, .ref aA, .int (nI as), .ref aO, .ref aV, .int la, .int bl, .ref aT, .int (nI th)])), (aO, .inl (kO, 16, .inl g))] := hD
  have hl : lv_has ls 2 [(0, .ref g0), (1, .int (nI i))] := hl
  obtain ⟨hi, hg⟩ := hI
  refine lv_iload_n hx hb dM_free_2 rfl (lv_at hl 1 rfl) ?_
  refine lv_aload_n hx hb dM_free_3 rfl (lv_at hl 0 rfl) ?_
  refine va_get (D := (dC, dI)) (ci := 2) (v := .int (nI nv)) (C := RM) (T := TM) (N := 17) hx hb hts lyM hown hK hP 0 rfl rfl 1 (by decide) (hts _ fl_M_41) (fun _ h9 => h9) rfl dM_free_4 ?_
  refine lv_icmp_ge (tgt := 23) hx hb dM_free_7 (by decide) (fun c1 => ?_) (fun c1 => ?_)
  · have c1 : nv ≤ i := (nI_leI (a := nv) (b := i) (by omega) (by omega)).mp c1
    exact (W.vret hx hb hr (fun t ht hW => ⟨⟨g, rfl, fun k hk => hg k (by omega), by rw [ht]; exact hP, va_K.moved hW.alike hK, hD⟩, hS.F ht⟩) hS.2.2 dM_free_23)
  · have c1 : i < nv := Nat.lt_of_not_le (fun q => c1 ((nI_leI (a := nv) (b := i) (by omega) (by omega)).mpr q))
    refine lv_aload_n hx hb dM_free_10 rfl (lv_at hl 0 rfl) ?_
    refine va_get (D := (dC, dI)) (ci := 2) (v := .ref aO) (C := RM) (T := TM) (N := 17) hx hb hts lyM hown hK hP 0 rfl rfl 11 (by decide) (hts _ fl_M_25) (fun _ h9 => h9) rfl dM_free_11 ?_
    refine lv_iload_n hx hb dM_free_14 rfl (lv_at hl 1 rfl) ?_
    refine lv_iconst (v := (-1)) hx hb dM_free_15 (by decide) ?_
    refine va_iast hx hb hK hP hD hS 1 0 rfl rfl (vp_in_nI (by omega) (by decide)) dM_free_16 (fun H locs hP hD hS => ?_)
    rw [show upd g (nI i).toNatClampNeg (-1) = upd g i (-1) from by rw [nI_clamp (by omega)]] at hP hD
    have hP : va_P (dC, dI) vwCl [(g0, .inr (2, [.int co, .int (nI nv), .int (nI nc), .ref aL, .int (nI us), .ref aS, .int (nI dr), .ref aF, .ref aN, .ref aA, .int (nI as), .ref aO, .ref aV, .int la, .int bl, .ref aT, .int (nI th)])), (aO, .inl (kO, 16, .inl (upd g i (-1))))] H := hP
    have hD : va_D A [(g0, .inr (2, [.int co, .int (nI nv), .int (nI nc), .ref aL, .int (nI us), .ref aS, .int (nI dr), .ref aF, .ref aN, .ref aA, .int (nI as), .ref aO, .ref aV, .int la, .int bl, .ref aT, .int (nI th)])), (aO, .inl (kO, 16, .inl (upd g i (-1))))] := hD
    refine lv_iinc (v := nI (i + 1)) (lv' := [(1, .int (nI (i + 1))), (0, .ref g0)]) hx hb dM_free_17 hl (k := 1) rfl (nI_1 _) (by decide) rfl (fun ls hl => ?_)
    refine lv_goto (tgt := 2) hx hb dM_free_20 (by decide) ?_
    exact ih (i + 1, upd g i (-1)) _ _ _ (by show nv - (i + 1) < nv - i; omega) ⟨⟨c1, fun k hk => by
        unfold upd
        by_cases q : k = i
        · rw [if_pos q]
        · rw [if_neg q]; exact hg k (by omega)⟩, hP, hD, hS, lv_sub hl [1, 0] rfl⟩
set_option maxHeartbeats 4000000 in
set_option maxRecDepth 100000 in
theorem k_M_force (l : Launch) (dC : Nat → ClassId) (dI : Nat → Nat → Nat) (tI sz : Nat) (g0 aL aS aF aN aA aO aV aT : Nat) (kO : ClassId) (of : Nat → Int32) (nv nc us dr as th : Nat) (co la bl : Int32) (L : Nat) (hL : L < 32) : Met l yM_force (Cond.code yM_force cM_force 4 (some .boolean) :: GG) (lvr 0 0 0) (va_Pc [.ref g0, .int (nI L)] (wPre dC dI [(kO, .int)] [(g0, .inr (2, [.int co, .int (nI nv), .int (nI nc), .ref aL, .int (nI us), .ref aS, .int (nI dr), .ref aF, .ref aN, .ref aA, .int (nI as), .ref aO, .ref aV, .int la, .int bl, .ref aT, .int (nI th)])), (aO, .inl (kO, 16, .inl of))] sz tI)) (va_Qi (fun (r : Int32) (u : Unit) => (r = 1 ∧ (of (L / 2) = -1 ∨ of (L / 2) = nI (1 - L % 2))) ∨ (r = 0 ∧ ¬ of (L / 2) = -1 ∧ ¬ of (L / 2) = nI (1 - L % 2))) (fun u t => wB dC dI [(kO, .int)] (va_A [(g0, .inr (2, [.int co, .int (nI nv), .int (nI nc), .ref aL, .int (nI us), .ref aS, .int (nI dr), .ref aF, .ref aN, .ref aA, .int (nI as), .ref aO, .ref aV, .int la, .int bl, .ref aT, .int (nI th)])), (aO, .inl (kO, 16, .inl of))] sz) [(g0, .inr (2, [.int co, .int (nI nv), .int (nI nc), .ref aL, .int (nI us), .ref aS, .int (nI dr), .ref aF, .ref aN, .ref aA, .int (nI as), .ref aO, .ref aV, .int la, .int bl, .ref aT, .int (nI th)])), (aO, .inl (kO, 16, .inl (upd of (L / 2) (nI (1 - L % 2)))))] t) (va_A [(g0, .inr (2, [.int co, .int (nI nv), .int (nI nc), .ref aL, .int (nI us), .ref aS, .int (nI dr), .ref aF, .ref aN, .ref aA, .int (nI as), .ref aO, .ref aV, .int la, .int bl, .ref aT, .int (nI th)])), (aO, .inl (kO, 16, .inl of))] sz)) 0 0 (va_A [(g0, .inr (2, [.int co, .int (nI nv), .int (nI nc), .ref aL, .int (nI us), .ref aS, .int (nI dr), .ref aF, .ref aN, .ref aA, .int (nI as), .ref aO, .ref aV, .int la, .int bl, .ref aT, .int (nI th)])), (aO, .inl (kO, 16, .inl of))] sz) := by
  refine Met.ofW (cc := cM_force) (maxL := 4) (ret := (some .boolean)) (by decide) rfl ?_
  intro p e s m args below meth c s₁ B hml hv
  obtain ⟨rfl, hsz, hP, hK, hD0, hZ, hX⟩ := hv
  have hx := B.exec
  have hb := B.bytes
  have hr := B.returns
  have hts : ∀ w ∈ GG, w.before ([.ref g0, .int (nI L)] : List Value).toArray s = true := fun w h => atoms_spec (ws := _ :: GG) B.pre w (List.mem_cons_of_mem _ h)
  have hown : s.vm.findClass RM = some m.cls := findClass_of_methodNamed B.named
  have hlocks := B.notSynchronized
  subst hsz
  have hD := hD0.self (sz := s.heap.size)
  generalize hAe : va_A [(g0, .inr (2, [.int co, .int (nI nv), .int (nI nc), .ref aL, .int (nI us), .ref aS, .int (nI dr), .ref aF, .ref aN, .ref aA, .int (nI as), .ref aO, .ref aV, .int la, .int bl, .ref aT, .int (nI th)])), (aO, .inl (kO, 16, .inl of))] s.heap.size = A at hD hZ ⊢
  have hA : ∀ q : Nat, s.heap.size ≤ q → A q := fun q h => by rw [← hAe]; exact Or.inr h
  have hS : va_S A s.heap s.heap [] := va_S.rf
  have hl := lv_entry ([.ref g0, .int (nI L)]) (n := 4) (Nat.le_of_ble_eq_true rfl)
  rw [lg_entry_eq]
  generalize (lg_sl ([.ref g0, .int (nI L)]) ++ List.replicate (4 - (lg_sl ([.ref g0, .int (nI L)])).length) Slot.unset).toArray = ls at hl ⊢
  have hl : lv_has ls 4 [(0, .ref g0), (1, .int (nI L))] := hl
  have SF : CallFix p m c cM_force 4 s ([.ref g0, .int (nI L)] : List Value).toArray GG RM := ⟨hx, hb, hml, hown, hts⟩
  skip
  have hP : va_P (dC, dI) vwCl [(g0, .inr (2, [.int co, .int (nI nv), .int (nI nc), .ref aL, .int (nI us), .ref aS, .int (nI dr), .ref aF, .ref aN, .ref aA, .int (nI as), .ref aO, .ref aV, .int la, .int bl, .ref aT, .int (nI th)])), (aO, .inl (kO, 16, .inl of))] s.heap := hP
  refine lv_iconst (v := 1) hx hb dM_force_0 (by decide) ?_
  refine lv_iload_n hx hb dM_force_1 rfl (lv_at hl 1 rfl) ?_
  refine lv_iconst (v := 2) hx hb dM_force_2 (by decide) ?_
  refine lv_irem hx hb dM_force_3 (by decide) ?_
  refine ls_topi (y := nI (L % 2)) (pk_rem (by omega) (by decide) (by decide)) ?_
  refine lv_isub hx hb dM_force_4 ?_
  refine ls_topi (y := nI (1 - L % 2)) (pk_sub (a := 1) (by omega)) ?_
  refine lv_istore_n (lv' := [(2, .int (nI (1 - L % 2))), (0, .ref g0), (1, .int (nI L))]) hx hb dM_force_5 rfl hl (by decide) rfl (fun ls hl => ?_)
  refine lv_aload_n hx hb dM_force_6 rfl (lv_at hl 1 rfl) ?_
  refine va_get (D := (dC, dI)) (ci := 2) (v := .ref aO) (C := RM) (T := TM) (N := 17) hx hb hts lyM hown hK hP 0 rfl rfl 11 (by decide) (hts _ fl_M_25) (fun _ h9 => h9) rfl dM_force_7 ?_
  refine lv_iload_n hx hb dM_force_10 rfl (lv_at hl 2 rfl) ?_
  refine lv_iconst (v := 2) hx hb dM_force_11 (by decide) ?_
  refine lv_idiv hx hb dM_force_12 (by decide) ?_
  refine ls_topi (y := nI (L / 2)) (pk_div (by omega) (by decide) (by decide)) ?_
  refine va_iald hx hb hK hP 1 0 rfl rfl (vp_in_nI (by omega) (by decide)) dM_force_13 ?_
  refine ls_topi (y := of (L / 2)) (by rw [nI_clamp (by omega)]) ?_
  refine lv_iconst (v := (-1)) hx hb dM_force_14 (by decide) ?_
  refine lv_icmp_eq (tgt := 30) hx hb dM_force_15 (by decide) (fun c1 => ?_) (fun c1 => ?_)
  · refine lv_iconst (v := 1) hx hb dM_force_30 (by decide) ?_
    refine lv_goto (tgt := 35) hx hb dM_force_31 (by decide) ?_
    refine lv_istore_n (lv' := [(3, .int 1), (2, .int (nI (1 - L % 2))), (0, .ref g0), (1, .int (nI L))]) hx hb dM_force_35 rfl hl (by decide) rfl (fun ls hl => ?_)
    refine lv_aload_n hx hb dM_force_36 rfl (lv_at hl 2 rfl) ?_
    refine va_get (D := (dC, dI)) (ci := 2) (v := .ref aO) (C := RM) (T := TM) (N := 17) hx hb hts lyM hown hK hP 0 rfl rfl 11 (by decide) (hts _ fl_M_25) (fun _ h9 => h9) rfl dM_force_37 ?_
    refine lv_iload_n hx hb dM_force_40 rfl (lv_at hl 3 rfl) ?_
    refine lv_iconst (v := 2) hx hb dM_force_41 (by decide) ?_
    refine lv_idiv hx hb dM_force_42 (by decide) ?_
    refine ls_topi (y := nI (L / 2)) (pk_div (by omega) (by decide) (by decide)) ?_
    refine lv_iload_n hx hb dM_force_43 rfl (lv_at hl 1 rfl) ?_
    refine va_iast hx hb hK hP hD hS 1 0 rfl rfl (vp_in_nI (by omega) (by decide)) dM_force_44 (fun H locs hP hD hS => ?_)
    rw [show upd of (nI (L / 2)).toNatClampNeg (nI (1 - L % 2)) = upd of (L / 2) (nI (1 - L % 2)) from by rw [nI_clamp (by omega)]] at hP hD
    have hP : va_P (dC, dI) vwCl [(g0, .inr (2, [.int co, .int (nI nv), .int (nI nc), .ref aL, .int (nI us), .ref aS, .int (nI dr), .ref aF, .ref aN, .ref aA, .int (nI as), .ref aO, .ref aV, .int la, .int bl, .ref aT, .int (nI th)])), (aO, .inl (kO, 16, .inl (upd of (L / 2) (nI (1 - L % 2)))))] H := hP
    have hD : va_D A [(g0, .inr (2, [.int co, .int (nI nv), .int (nI nc), .ref aL, .int (nI us), .ref aS, .int (nI dr), .ref aF, .ref aN, .ref aA, .int (nI as), .ref aO, .ref aV, .int la, .int bl, .ref aT, .int (nI th)])), (aO, .inl (kO, 16, .inl (upd of (L / 2) (nI (1 - L % 2)))))] := hD
    refine lv_iload_n hx hb dM_force_45 rfl (lv_at hl 0 rfl) ?_
    exact (W.zret (v := 1) hx hb hr (rfl) (fun t ht hW => ⟨⟨1, (), rfl, Or.inl ⟨rfl, Or.inl c1⟩, by rw [ht]; exact hP, va_K.moved hW.alike hK, hD⟩, hS.F ht⟩) hS.2.2 dM_force_46)
  · refine lv_aload_n hx hb dM_force_18 rfl (lv_at hl 1 rfl) ?_
    refine va_get (D := (dC, dI)) (ci := 2) (v := .ref aO) (C := RM) (T := TM) (N := 17) hx hb hts lyM hown hK hP 0 rfl rfl 11 (by decide) (hts _ fl_M_25) (fun _ h9 => h9) rfl dM_force_19 ?_
    refine lv_iload_n hx hb dM_force_22 rfl (lv_at hl 2 rfl) ?_
    refine lv_iconst (v := 2) hx hb dM_force_23 (by decide) ?_
    refine lv_idiv hx hb dM_force_24 (by decide) ?_
    refine ls_topi (y := nI (L / 2)) (pk_div (by omega) (by decide) (by decide)) ?_
    refine va_iald hx hb hK hP 1 0 rfl rfl (vp_in_nI (by omega) (by decide)) dM_force_25 ?_
    refine ls_topi (y := of (L / 2)) (by rw [nI_clamp (by omega)]) ?_
    refine lv_iload_n hx hb dM_force_26 rfl (lv_at hl 0 rfl) ?_
    refine lv_icmp_ne (tgt := 34) hx hb dM_force_27 (by decide) (fun c2 => ?_) (fun c2 => ?_)
    · refine lv_iconst (v := 0) hx hb dM_force_34 (by decide) ?_
      refine lv_istore_n (lv' := [(3, .int 0), (2, .int (nI (1 - L % 2))), (0, .ref g0), (1, .int (nI L))]) hx hb dM_force_35 rfl hl (by decide) rfl (fun ls hl => ?_)
      refine lv_aload_n hx hb dM_force_36 rfl (lv_at hl 2 rfl) ?_
      refine va_get (D := (dC, dI)) (ci := 2) (v := .ref aO) (C := RM) (T := TM) (N := 17) hx hb hts lyM hown hK hP 0 rfl rfl 11 (by decide) (hts _ fl_M_25) (fun _ h9 => h9) rfl dM_force_37 ?_
      refine lv_iload_n hx hb dM_force_40 rfl (lv_at hl 3 rfl) ?_
      refine lv_iconst (v := 2) hx hb dM_force_41 (by decide) ?_
      refine lv_idiv hx hb dM_force_42 (by decide) ?_
      refine ls_topi (y := nI (L / 2)) (pk_div (by omega) (by decide) (by decide)) ?_
      refine lv_iload_n hx hb dM_force_43 rfl (lv_at hl 1 rfl) ?_
      refine va_iast hx hb hK hP hD hS 1 0 rfl rfl (vp_in_nI (by omega) (by decide)) dM_force_44 (fun H locs hP hD hS => ?_)
      rw [show upd of (nI (L / 2)).toNatClampNeg (nI (1 - L % 2)) = upd of (L / 2) (nI (1 - L % 2)) from by rw [nI_clamp (by omega)]] at hP hD
      have hP : va_P (dC, dI) vwCl [(g0, .inr (2, [.int co, .int (nI nv), .int (nI nc), .ref aL, .int (nI us), .ref aS, .int (nI dr), .ref aF, .ref aN, .ref aA, .int (nI as), .ref aO, .ref aV, .int la, .int bl, .ref aT, .int (nI th)])), (aO, .inl (kO, 16, .inl (upd of (L / 2) (nI (1 - L % 2)))))] H := hP
      have hD : va_D A [(g0, .inr (2, [.int co, .int (nI nv), .int (nI nc), .ref aL, .int (nI us), .ref aS, .int (nI dr), .ref aF, .ref aN, .ref aA, .int (nI as), .ref aO, .ref aV, .int la, .int bl, .ref aT, .int (nI th)])), (aO, .inl (kO, 16, .inl (upd of (L / 2) (nI (1 - L % 2)))))] := hD
      refine lv_iload_n hx hb dM_force_45 rfl (lv_at hl 0 rfl) ?_
      exact (W.zret (v := 0) hx hb hr (rfl) (fun t ht hW => ⟨⟨0, (), rfl, Or.inr ⟨rfl, c1, c2⟩, by rw [ht]; exact hP, va_K.moved hW.alike hK, hD⟩, hS.F ht⟩) hS.2.2 dM_force_46)
    · refine lv_iconst (v := 1) hx hb dM_force_30 (by decide) ?_
      refine lv_goto (tgt := 35) hx hb dM_force_31 (by decide) ?_
      refine lv_istore_n (lv' := [(3, .int 1), (2, .int (nI (1 - L % 2))), (0, .ref g0), (1, .int (nI L))]) hx hb dM_force_35 rfl hl (by decide) rfl (fun ls hl => ?_)
      refine lv_aload_n hx hb dM_force_36 rfl (lv_at hl 2 rfl) ?_
      refine va_get (D := (dC, dI)) (ci := 2) (v := .ref aO) (C := RM) (T := TM) (N := 17) hx hb hts lyM hown hK hP 0 rfl rfl 11 (by decide) (hts _ fl_M_25) (fun _ h9 => h9) rfl dM_force_37 ?_
      refine lv_iload_n hx hb dM_force_40 rfl (lv_at hl 3 rfl) ?_
      refine lv_iconst (v := 2) hx hb dM_force_41 (by decide) ?_
      refine lv_idiv hx hb dM_force_42 (by decide) ?_
      refine ls_topi (y := nI (L / 2)) (pk_div (by omega) (by decide) (by decide)) ?_
      refine lv_iload_n hx hb dM_force_43 rfl (lv_at hl 1 rfl) ?_
      refine va_iast hx hb hK hP hD hS 1 0 rfl rfl (vp_in_nI (by omega) (by decide)) dM_force_44 (fun H locs hP hD hS => ?_)
      rw [show upd of (nI (L / 2)).toNatClampNeg (nI (1 - L % 2)) = upd of (L / 2) (nI (1 - L % 2)) from by rw [nI_clamp (by omega)]] at hP hD
      have hP : va_P (dC, dI) vwCl [(g0, .inr (2, [.int co, .int (nI nv), .int (nI nc), .ref aL, .int (nI us), .ref aS, .int (nI dr), .ref aF, .ref aN, .ref aA, .int (nI as), .ref aO, .ref aV, .int la, .int bl, .ref aT, .int (nI th)])), (aO, .inl (kO, 16, .inl (upd of (L / 2) (nI (1 - L % 2)))))] H := hP
      have hD : va_D A [(g0, .inr (2, [.int co, .int (nI nv), .int (nI nc), .ref aL, .int (nI us), .ref aS, .int (nI dr), .ref aF, .ref aN, .ref aA, .int (nI as), .ref aO, .ref aV, .int la, .int bl, .ref aT, .int (nI th)])), (aO, .inl (kO, 16, .inl (upd of (L / 2) (nI (1 - L % 2)))))] := hD
      refine lv_iload_n hx hb dM_force_45 rfl (lv_at hl 0 rfl) ?_
      exact (W.zret (v := 1) hx hb hr (rfl) (fun t ht hW => ⟨⟨1, (), rfl, Or.inl ⟨rfl, Or.inr c2⟩, by rw [ht]; exact hP, va_K.moved hW.alike hK, hD⟩, hS.F ht⟩) hS.2.2 dM_force_46)
end
section
/-- base solutions: every clause, every variable 0 or 1 -/
def se_0 (N : Nat) (lit st : Nat → Nat) (ch : Nat → List Nat) (b : Nat → Nat) : Prop := ch 16 = [] ∧ ∀ v, v < N → se_R lit st ch v b ∧ b v ≤ 1
def sv_Q (N : Nat) (ff : Nat → Int32) (b : Nat → Nat) : Prop := ∀ v, v < N → ff v = -1 ∨ ff v = nI (b v)
theorem se_S0 {N : Nat} {lit st : Nat → Nat} {ch : Nat → List Nat} {ff : Nat → Int32} {b : Nat → Nat} : se_S N lit st ch ff b ↔ se_0 N lit st ch b ∧ sv_Q N ff b := by
  constructor
  · intro h
    exact ⟨⟨h.1, fun v hv => ⟨(h.2 v hv).1, (h.2 v hv).2.1⟩⟩, fun v hv => (h.2 v hv).2.2⟩
  · intro h
    exact ⟨h.1.1, fun v hv => ⟨(h.1.2 v hv).1, (h.1.2 v hv).2, h.2 v hv⟩⟩
/-- what a search answers: the least base solution with Q, or none -/
def sv_P (N : Nat) (lit st : Nat → Nat) (ch : Nat → List Nat) (Q : (Nat → Nat) → Prop) (r : Int32) (a : Nat → Nat) : Prop := (r = 1 ∧ se_0 N lit st ch a ∧ Q a ∧ ∀ v, v < N → a v = 1 → ∀ b, se_0 N lit st ch b → Q b → (∀ i, i < v → b i = a i) → b v = 1) ∨ (r = 0 ∧ ∀ b, se_0 N lit st ch b → ¬ Q b)
theorem sv_yes {N : Nat} {lit st : Nat → Nat} {ch : Nat → List Nat} {ff : Nat → Int32} {a : Nat → Nat} (h16 : ch 16 = []) (h : se_P N lit st ch ff N a) : sv_P N lit st ch (sv_Q N ff) 1 a := by
  have hs : se_S N lit st ch ff a := ⟨h16, fun v hv => h.1 v hv⟩
  obtain ⟨h0, hq⟩ := se_S0.mp hs
  exact Or.inl ⟨rfl, h0, hq, fun v hv h1 b hb hQ he => h.2 v hv h1 b (se_S0.mpr ⟨hb, hQ⟩) he⟩
theorem sv_no {N : Nat} {lit st : Nat → Nat} {ch : Nat → List Nat} {ff : Nat → Int32} {a : Nat → Nat} (h : ∀ b, ¬ se_S N lit st ch ff b) : sv_P N lit st ch (sv_Q N ff) 0 a := Or.inr ⟨rfl, fun b hb hQ => h b (se_S0.mpr ⟨hb, hQ⟩)⟩
def sv_V (g : Nat → Int32) (a : Nat → Nat) : Prop := ∀ j, j < 16 → g j = nI (a j) ∧ a j ≤ 1
theorem sv_Vu {g : Nat → Int32} {a : Nat → Nat} {v x : Nat} (h : sv_V g a) (hx : x ≤ 1) : sv_V (upd g v (nI x)) (se_u a v x) := by
  intro j hj
  unfold upd se_u
  by_cases q : j = v
  · rw [if_pos q, if_pos q]; exact ⟨rfl, hx⟩
  · rw [if_neg q, if_neg q]; exact h j hj
end
section
set_option maxHeartbeats 4000000 in
set_option maxRecDepth 100000 in
theorem k_M_isRight (l : Launch) (dC : Nat → ClassId) (dI : Nat → Nat → Nat) (tI sz : Nat) (g0 aL aS aF aN aA aO aV aT : Nat) (kL kS kF kN kV : ClassId) (lf sf ff nf vf : Nat → Int32) (nv nc us dr as th : Nat) (co la bl : Int32) (v : Nat) (hv : v < 16) (lit st vv : Nat → Nat) (cs : List Nat) (hch : lm_ch nf (ff v) cs) (hC : lm_C lf sf lit st cs) (hV : sv_V vf vv) : Met l yM_isRight (Cond.code yM_isRight cM_isRight 5 (some .boolean) :: GG) (lvr 0 0 0) (va_Pc [.ref g0, .int (nI v)] (wPre dC dI [(kL, .int), (kS, .int), (kF, .int), (kN, .int), (kV, .int)] [(g0, .inr (2, [.int co, .int (nI nv), .int (nI nc), .ref aL, .int (nI us), .ref aS, .int (nI dr), .ref aF, .ref aN, .ref aA, .int (nI as), .ref aO, .ref aV, .int la, .int bl, .ref aT, .int (nI th)])), (aL, .inl (kL, 4000, .inl lf)), (aS, .inl (kS, 501, .inl sf)), (aF, .inl (kF, 17, .inl ff)), (aN, .inl (kN, 500, .inl nf)), (aV, .inl (kV, 16, .inl vf))] sz tI)) (va_Qi (fun (r : Int32) (u : Unit) => (r = 1 ∧ ∀ c ∈ cs, lm_T lit st vv c) ∨ (r = 0 ∧ ∃ c ∈ cs, ¬ lm_T lit st vv c)) (fun u t => wB dC dI [(kL, .int), (kS, .int), (kF, .int), (kN, .int), (kV, .int)] (va_A [(g0, .inr (2, [.int co, .int (nI nv), .int (nI nc), .ref aL, .int (nI us), .ref aS, .int (nI dr), .ref aF, .ref aN, .ref aA, .int (nI as), .ref aO, .ref aV, .int la, .int bl, .ref aT, .int (nI th)])), (aL, .inl (kL, 4000, .inl lf)), (aS, .inl (kS, 501, .inl sf)), (aF, .inl (kF, 17, .inl ff)), (aN, .inl (kN, 500, .inl nf)), (aV, .inl (kV, 16, .inl vf))] sz) [(g0, .inr (2, [.int co, .int (nI nv), .int (nI nc), .ref aL, .int (nI us), .ref aS, .int (nI dr), .ref aF, .ref aN, .ref aA, .int (nI as), .ref aO, .ref aV, .int la, .int bl, .ref aT, .int (nI th)])), (aL, .inl (kL, 4000, .inl lf)), (aS, .inl (kS, 501, .inl sf)), (aF, .inl (kF, 17, .inl ff)), (aN, .inl (kN, 500, .inl nf)), (aV, .inl (kV, 16, .inl vf))] t) (va_A [(g0, .inr (2, [.int co, .int (nI nv), .int (nI nc), .ref aL, .int (nI us), .ref aS, .int (nI dr), .ref aF, .ref aN, .ref aA, .int (nI as), .ref aO, .ref aV, .int la, .int bl, .ref aT, .int (nI th)])), (aL, .inl (kL, 4000, .inl lf)), (aS, .inl (kS, 501, .inl sf)), (aF, .inl (kF, 17, .inl ff)), (aN, .inl (kN, 500, .inl nf)), (aV, .inl (kV, 16, .inl vf))] sz)) 0 0 (va_A [(g0, .inr (2, [.int co, .int (nI nv), .int (nI nc), .ref aL, .int (nI us), .ref aS, .int (nI dr), .ref aF, .ref aN, .ref aA, .int (nI as), .ref aO, .ref aV, .int la, .int bl, .ref aT, .int (nI th)])), (aL, .inl (kL, 4000, .inl lf)), (aS, .inl (kS, 501, .inl sf)), (aF, .inl (kF, 17, .inl ff)), (aN, .inl (kN, 500, .inl nf)), (aV, .inl (kV, 16, .inl vf))] sz) := by
  refine Met.ofW (cc := cM_isRight) (maxL := 5) (ret := (some .boolean)) (by decide) rfl ?_
  intro p e s m args below meth c s₁ B hml hv
  obtain ⟨rfl, hsz, hP, hK, hD0, hZ, hX⟩ := hv
  have hx := B.exec
  have hb := B.bytes
  have hr := B.returns
  have hts : ∀ w ∈ GG, w.before ([.ref g0, .int (nI v)] : List Value).toArray s = true := fun w h => atoms_spec (ws := _ :: GG) B.pre w (List.mem_cons_of_mem _ h)
  have hown : s.vm.findClass RM = some m.cls := findClass_of_methodNamed B.named
  have hlocks := B.notSynchronized
  subst hsz
  have hD := hD0.self (sz := s.heap.size)
  generalize hAe : va_A [(g0, .inr (2, [.int co, .int (nI nv), .int (nI nc), .ref aL, .int (nI us), .ref aS, .int (nI dr), .ref aF, .ref aN, .ref aA, .int (nI as), .ref aO, .ref aV, .int la, .int bl, .ref aT, .int (nI th)])), (aL, .inl (kL, 4000, .inl lf)), (aS, .inl (kS, 501, .inl sf)), (aF, .inl (kF, 17, .inl ff)), (aN, .inl (kN, 500, .inl nf)), (aV, .inl (kV, 16, .inl vf))] s.heap.size = A at hD hZ ⊢
  have hA : ∀ q : Nat, s.heap.size ≤ q → A q := fun q h => by rw [← hAe]; exact Or.inr h
  have hS : va_S A s.heap s.heap [] := va_S.rf
  have hl := lv_entry ([.ref g0, .int (nI v)]) (n := 5) (Nat.le_of_ble_eq_true rfl)
  rw [lg_entry_eq]
  generalize (lg_sl ([.ref g0, .int (nI v)]) ++ List.replicate (5 - (lg_sl ([.ref g0, .int (nI v)])).length) Slot.unset).toArray = ls at hl ⊢
  have hl : lv_has ls 5 [(0, .ref g0), (1, .int (nI v))] := hl
  have SF : CallFix p m c cM_isRight 5 s ([.ref g0, .int (nI v)] : List Value).toArray GG RM := ⟨hx, hb, hml, hown, hts⟩
  skip
  have hP : va_P (dC, dI) vwCl [(g0, .inr (2, [.int co, .int (nI nv), .int (nI nc), .ref aL, .int (nI us), .ref aS, .int (nI dr), .ref aF, .ref aN, .ref aA, .int (nI as), .ref aO, .ref aV, .int la, .int bl, .ref aT, .int (nI th)])), (aL, .inl (kL, 4000, .inl lf)), (aS, .inl (kS, 501, .inl sf)), (aF, .inl (kF, 17, .inl ff)), (aN, .inl (kN, 500, .inl nf)), (aV, .inl (kV, 16, .inl vf))] s.heap := hP
  refine lv_iconst (v := 1) hx hb dM_isRight_0 (by decide) ?_
  refine lv_istore_n (lv' := [(2, .int 1), (0, .ref g0), (1, .int (nI v))]) hx hb dM_isRight_1 rfl hl (by decide) rfl (fun ls hl => ?_)
  refine lv_aload_n hx hb dM_isRight_2 rfl (lv_at hl 1 rfl) ?_
  refine va_get (D := (dC, dI)) (ci := 2) (v := .ref aF) (C := RM) (T := TM) (N := 17) hx hb hts lyM hown hK hP 0 rfl rfl 7 (by decide) (hts _ fl_M_16) (fun _ h9 => h9) rfl dM_isRight_3 ?_
  refine lv_iload_n hx hb dM_isRight_6 rfl (lv_at hl 2 rfl) ?_
  refine va_iald hx hb hK hP 3 2 rfl rfl (vp_in_nI (by omega) (by decide)) dM_isRight_7 ?_
  refine ls_topi (y := ff v) (by rw [nI_clamp (by omega)]) ?_
  refine lv_istore_n (lv' := [(3, .int (ff v)), (2, .int 1), (0, .ref g0), (1, .int (nI v))]) hx hb dM_isRight_8 rfl hl (by decide) rfl (fun ls hl => ?_)
  refine lp_mu (α := Int32 × (List Nat) × Nat) (fun a_ => match a_ with | (x, t, rt) => t.length) (fun a_ H locs ls => match a_ with | (x, t, rt) => (lm_I nf lit st vv cs x t rt) ∧ va_P (dC, dI) vwCl [(g0, .inr (2, [.int co, .int (nI nv), .int (nI nc), .ref aL, .int (nI us), .ref aS, .int (nI dr), .ref aF, .ref aN, .ref aA, .int (nI as), .ref aO, .ref aV, .int la, .int bl, .ref aT, .int (nI th)])), (aL, .inl (kL, 4000, .inl lf)), (aS, .inl (kS, 501, .inl sf)), (aF, .inl (kF, 17, .inl ff)), (aN, .inl (kN, 500, .inl nf)), (aV, .inl (kV, 16, .inl vf))] H ∧ va_D A [(g0, .inr (2, [.int co, .int (nI nv), .int (nI nc), .ref aL, .int (nI us), .ref aS, .int (nI dr), .ref aF, .ref aN, .ref aA, .int (nI as), .ref aO, .ref aV, .int la, .int bl, .ref aT, .int (nI th)])), (aL, .inl (kL, 4000, .inl lf)), (aS, .inl (kS, 501, .inl sf)), (aF, .inl (kF, 17, .inl ff)), (aN, .inl (kN, 500, .inl nf)), (aV, .inl (kV, 16, .inl vf))] ∧ va_S A s.heap H locs ∧ lv_has ls 5 [(0, .ref g0), (2, .int (nI rt)), (3, .int x)]) ?_ (ff v, cs, 1) ⟨lm_I0 hch, hP, hD, hS, lv_sub hl [2, 1, 0] rfl⟩
  intro a_ H locs ls hI ih
  obtain ⟨x, t, rt⟩ := a_
  obtain ⟨hI, hP, hD, hS, hl⟩ := hI
  have hI : lm_I nf lit st vv cs x t rt := hI
  have hP : va_P (dC, dI) vwCl [(g0, .inr (2, [.int co, .int (nI nv), .int (nI nc), .ref aL, .int (nI us), .ref aS, .int (nI dr), .ref aF, .ref aN, .ref aA, .int (nI as), .ref aO, .ref aV, .int la, .int bl, .ref aT, .int (nI th)])), (aL, .inl (kL, 4000, .inl lf)), (aS, .inl (kS, 501, .inl sf)), (aF, .inl (kF, 17, .inl ff)), (aN, .inl (kN, 500, .inl nf)), (aV, .inl (kV, 16, .inl vf))] H := hP
  have hD : va_D A [(g0, .inr (2, [.int co, .int (nI nv), .int (nI nc), .ref aL, .int (nI us), .ref aS, .int (nI dr), .ref aF, .ref aN, .ref aA, .int (nI as), .ref aO, .ref aV, .int la, .int bl, .ref aT, .int (nI th)])), (aL, .inl (kL, 4000, .inl lf)), (aS, .inl (kS, 501, .inl sf)), (aF, .inl (kF, 17, .inl ff)), (aN, .inl (kN, 500, .inl nf)), (aV, .inl (kV, 16, .inl vf))] := hD
  have hl : lv_has ls 5 [(0, .ref g0), (2, .int (nI rt)), (3, .int x)] := hl
  have hrt : rt ≤ 1 := by rcases hI.2.2 with h | h <;> omega
  refine lv_iload_n hx hb dM_isRight_9 rfl (lv_at hl 2 rfl) ?_
  refine lv_iconst (v := (-1)) hx hb dM_isRight_10 (by decide) ?_
  refine lv_icmp_eq (tgt := 95) hx hb dM_isRight_11 (by decide) (fun c1 => ?_) (fun c1 => ?_)
  · have tn := lm_nil hI.1 c1 (fun c hc => (hC c (hI.2.1 c hc)).1)
    rcases hI.2.2 with ⟨e1, h3⟩ | ⟨e1, h3⟩
    · subst e1
      refine lv_iload_n hx hb dM_isRight_95 rfl (lv_at hl 1 rfl) ?_
      exact (W.zret (v := nI 1) hx hb hr (rfl) (fun t ht hW => ⟨⟨nI 1, (), rfl, Or.inl ⟨rfl, h3 (by rw [tn]; simp)⟩, by rw [ht]; exact hP, va_K.moved hW.alike hK, hD⟩, hS.F ht⟩) hS.2.2 dM_isRight_96)
    · subst e1
      refine lv_iload_n hx hb dM_isRight_95 rfl (lv_at hl 1 rfl) ?_
      exact (W.zret (v := nI 0) hx hb hr (rfl) (fun t ht hW => ⟨⟨nI 0, (), rfl, Or.inr ⟨rfl, h3⟩, by rw [ht]; exact hP, va_K.moved hW.alike hK, hD⟩, hS.F ht⟩) hS.2.2 dM_isRight_96)
  · refine lv_iload_n hx hb dM_isRight_14 rfl (lv_at hl 1 rfl) ?_
    refine lv_if_eq (tgt := 95) hx hb dM_isRight_15 (by decide) (fun c2 => ?_) (fun c2 => ?_)
    · have c2 : rt = 0 := (nI_eq (a := rt) (b := 0) (by omega) (by omega)).mp c2
      rcases hI.2.2 with ⟨e1, h3⟩ | ⟨e1, h3⟩
      · exact absurd (e1.symm.trans c2) (by decide)
      · subst e1
        refine lv_iload_n hx hb dM_isRight_95 rfl (lv_at hl 1 rfl) ?_
        exact (W.zret (v := nI 0) hx hb hr (rfl) (fun t ht hW => ⟨⟨nI 0, (), rfl, Or.inr ⟨rfl, h3⟩, by rw [ht]; exact hP, va_K.moved hW.alike hK, hD⟩, hS.F ht⟩) hS.2.2 dM_isRight_96)
    · have c2 : rt ≠ 0 := fun q => c2 ((nI_eq (a := rt) (b := 0) (by omega) (by omega)).mpr q)
      obtain ⟨c0, t1, et, ec, hch1⟩ := lm_cons hI.1 c1
      have hr1 : rt = 1 := by omega
      subst et
      subst ec
      subst hr1
      obtain ⟨q1, q2, q3, q4, q5, q6⟩ := hC c0 (hI.2.1 c0 (by simp))
      refine lv_iconst (v := 0) hx hb dM_isRight_18 (by decide) ?_
      refine lv_istore_n (lv' := [(2, .int 0), (0, .ref g0), (3, .int (nI c0))]) hx hb dM_isRight_19 rfl hl (by decide) rfl (fun ls hl => ?_)
      refine lv_aload_n hx hb dM_isRight_20 rfl (lv_at hl 1 rfl) ?_
      refine va_get (D := (dC, dI)) (ci := 2) (v := .ref aS) (C := RM) (T := TM) (N := 17) hx hb hts lyM hown hK hP 0 rfl rfl 5 (by decide) (hts _ fl_M_13) (fun _ h9 => h9) rfl dM_isRight_21 ?_
      refine lv_iload_n hx hb dM_isRight_24 rfl (lv_at hl 2 rfl) ?_
      refine va_iald hx hb hK hP 2 1 rfl rfl (vp_in_nI (by omega) (by decide)) dM_isRight_25 ?_
      refine ls_topi (y := nI (st c0)) (by rw [nI_clamp (by omega)]; exact q2) ?_
      refine lv_istore (lv' := [(4, .int (nI (st c0))), (2, .int 0), (0, .ref g0), (3, .int (nI c0))]) hx hb dM_isRight_26 hl (by decide) rfl (fun ls hl => ?_)
      refine lp_mu (α := Nat × Nat) (fun a_ => match a_ with | (k, r2) => st (c0 + 1) - k) (fun a_ H locs ls => match a_ with | (k, r2) => (st c0 ≤ k ∧ k ≤ st (c0 + 1) ∧ ((r2 = 0 ∧ ∀ j, st c0 ≤ j → j < k → ¬ vv (lit j / 2) = 1 - lit j % 2) ∨ (r2 = 1 ∧ lm_T lit st vv c0))) ∧ va_P (dC, dI) vwCl [(g0, .inr (2, [.int co, .int (nI nv), .int (nI nc), .ref aL, .int (nI us), .ref aS, .int (nI dr), .ref aF, .ref aN, .ref aA, .int (nI as), .ref aO, .ref aV, .int la, .int bl, .ref aT, .int (nI th)])), (aL, .inl (kL, 4000, .inl lf)), (aS, .inl (kS, 501, .inl sf)), (aF, .inl (kF, 17, .inl ff)), (aN, .inl (kN, 500, .inl nf)), (aV, .inl (kV, 16, .inl vf))] H ∧ va_D A [(g0, .inr (2, [.int co, .int (nI nv), .int (nI nc), .ref aL, .int (nI us), .ref aS, .int (nI dr), .ref aF, .ref aN, .ref aA, .int (nI as), .ref aO, .ref aV, .int la, .int bl, .ref aT, .int (nI th)])), (aL, .inl (kL, 4000, .inl lf)), (aS, .inl (kS, 501, .inl sf)), (aF, .inl (kF, 17, .inl ff)), (aN, .inl (kN, 500, .inl nf)), (aV, .inl (kV, 16, .inl vf))] ∧ va_S A s.heap H locs ∧ lv_has ls 5 [(0, .ref g0), (2, .int (nI r2)), (3, .int (nI c0)), (4, .int (nI k))]) ?_ (st c0, 0) ⟨⟨Nat.le_refl _, q4, Or.inl ⟨rfl, fun j j1 j2 => absurd j2 (by omega)⟩⟩, hP, hD, hS, lv_sub hl [2, 1, 3, 0] rfl⟩
      intro a_ H locs ls hJ ih2
      obtain ⟨k, r2⟩ := a_
      obtain ⟨hJ, hP, hD, hS, hl⟩ := hJ
      have hJ : st c0 ≤ k ∧ k ≤ st (c0 + 1) ∧ ((r2 = 0 ∧ ∀ j, st c0 ≤ j → j < k → ¬ vv (lit j / 2) = 1 - lit j % 2) ∨ (r2 = 1 ∧ lm_T lit st vv c0)) := hJ
      have hP : va_P (dC, dI) vwCl [(g0, .inr (2, [.int co, .int (nI nv), .int (nI nc), .ref aL, .int (nI us), .ref aS, .int (nI dr), .ref aF, .ref aN, .ref aA, .int (nI as), .ref aO, .ref aV, .int la, .int bl, .ref aT, .int (nI th)])), (aL, .inl (kL, 4000, .inl lf)), (aS, .inl (kS, 501, .inl sf)), (aF, .inl (kF, 17, .inl ff)), (aN, .inl (kN, 500, .inl nf)), (aV, .inl (kV, 16, .inl vf))] H := hP
      have hD : va_D A [(g0, .inr (2, [.int co, .int (nI nv), .int (nI nc), .ref aL, .int (nI us), .ref aS, .int (nI dr), .ref aF, .ref aN, .ref aA, .int (nI as), .ref aO, .ref aV, .int la, .int bl, .ref aT, .int (nI th)])), (aL, .inl (kL, 4000, .inl lf)), (aS, .inl (kS, 501, .inl sf)), (aF, .inl (kF, 17, .inl ff)), (aN, .inl (kN, 500, .inl nf)), (aV, .inl (kV, 16, .inl vf))] := hD
      have hl : lv_has ls 5 [(0, .ref g0), (2, .int (nI r2)), (3, .int (nI c0)), (4, .int (nI k))] := hl
      have hr2 : r2 ≤ 1 := by rcases hJ.2.2 with h | h <;> omega
      have hk1 := hJ.1
      have hk2 := hJ.2.1
      refine lv_iload hx hb dM_isRight_28 (lv_at hl 3 rfl) ?_
      refine lv_aload_n hx hb dM_isRight_30 rfl (lv_at hl 0 rfl) ?_
      refine va_get (D := (dC, dI)) (ci := 2) (v := .ref aS) (C := RM) (T := TM) (N := 17) hx hb hts lyM hown hK hP 0 rfl rfl 5 (by decide) (hts _ fl_M_13) (fun _ h9 => h9) rfl dM_isRight_31 ?_
      refine lv_iload_n hx hb dM_isRight_34 rfl (lv_at hl 2 rfl) ?_
      refine lv_iconst (v := 1) hx hb dM_isRight_35 (by decide) ?_
      refine lv_iadd hx hb dM_isRight_36 ?_
      refine ls_topi (y := nI (c0 + 1)) (nI_1 _) ?_
      refine va_iald hx hb hK hP 2 1 rfl rfl (vp_in_nI (by omega) (by decide)) dM_isRight_37 ?_
      refine ls_topi (y := nI (st (c0 + 1))) (by rw [nI_clamp (by omega)]; exact q3) ?_
      refine lv_icmp_ge (tgt := 85) hx hb dM_isRight_38 (by decide) (fun c3 => ?_) (fun c3 => ?_)
      · have c3 : (st (c0 + 1)) ≤ k := (nI_leI (a := (st (c0 + 1))) (b := k) (by omega) (by omega)).mp c3
        rcases hJ.2.2 with ⟨e2, h2⟩ | ⟨e2, h2⟩
        · subst e2
          refine lv_aload_n hx hb dM_isRight_85 rfl (lv_at hl 0 rfl) ?_
          refine va_get (D := (dC, dI)) (ci := 2) (v := .ref aN) (C := RM) (T := TM) (N := 17) hx hb hts lyM hown hK hP 0 rfl rfl 8 (by decide) (hts _ fl_M_19) (fun _ h9 => h9) rfl dM_isRight_86 ?_
          refine lv_iload_n hx hb dM_isRight_89 rfl (lv_at hl 2 rfl) ?_
          refine va_iald hx hb hK hP 4 3 rfl rfl (vp_in_nI (by omega) (by decide)) dM_isRight_90 ?_
          refine ls_topi (y := nf c0) (by rw [nI_clamp (by omega)]) ?_
          refine lv_istore_n (lv' := [(3, .int (nf c0)), (0, .ref g0), (2, .int (nI 0)), (4, .int (nI k))]) hx hb dM_isRight_91 rfl hl (by decide) rfl (fun ls hl => ?_)
          refine lv_goto (tgt := 9) hx hb dM_isRight_92 (by decide) ?_
          exact ih (nf c0, t1, 0) _ _ _ (Nat.lt_succ_self _) ⟨lm_If hI (fun ⟨j, j1, j2, j3⟩ => h2 j j1 (by omega) j3), hP, hD, hS, lv_sub hl [1, 2, 0] rfl⟩
        · subst e2
          refine lv_aload_n hx hb dM_isRight_85 rfl (lv_at hl 0 rfl) ?_
          refine va_get (D := (dC, dI)) (ci := 2) (v := .ref aN) (C := RM) (T := TM) (N := 17) hx hb hts lyM hown hK hP 0 rfl rfl 8 (by decide) (hts _ fl_M_19) (fun _ h9 => h9) rfl dM_isRight_86 ?_
          refine lv_iload_n hx hb dM_isRight_89 rfl (lv_at hl 2 rfl) ?_
          refine va_iald hx hb hK hP 4 3 rfl rfl (vp_in_nI (by omega) (by decide)) dM_isRight_90 ?_
          refine ls_topi (y := nf c0) (by rw [nI_clamp (by omega)]) ?_
          refine lv_istore_n (lv' := [(3, .int (nf c0)), (0, .ref g0), (2, .int (nI 1)), (4, .int (nI k))]) hx hb dM_isRight_91 rfl hl (by decide) rfl (fun ls hl => ?_)
          refine lv_goto (tgt := 9) hx hb dM_isRight_92 (by decide) ?_
          exact ih (nf c0, t1, 1) _ _ _ (Nat.lt_succ_self _) ⟨lm_It hI h2, hP, hD, hS, lv_sub hl [1, 2, 0] rfl⟩
      · have c3 : k < (st (c0 + 1)) := Nat.lt_of_not_le (fun q => c3 ((nI_leI (a := (st (c0 + 1))) (b := k) (by omega) (by omega)).mpr q))
        refine lv_iload_n hx hb dM_isRight_41 rfl (lv_at hl 1 rfl) ?_
        refine lv_if_ne (tgt := 85) hx hb dM_isRight_42 (by decide) (fun c4 => ?_) (fun c4 => ?_)
        · have c4 : r2 ≠ 0 := fun q => c4 ((nI_eq (a := r2) (b := 0) (by omega) (by omega)).mpr q)
          rcases hJ.2.2 with ⟨e2, h2⟩ | ⟨e2, h2⟩
          · exact absurd e2 c4
          · subst e2
            refine lv_aload_n hx hb dM_isRight_85 rfl (lv_at hl 0 rfl) ?_
            refine va_get (D := (dC, dI)) (ci := 2) (v := .ref aN) (C := RM) (T := TM) (N := 17) hx hb hts lyM hown hK hP 0 rfl rfl 8 (by decide) (hts _ fl_M_19) (fun _ h9 => h9) rfl dM_isRight_86 ?_
            refine lv_iload_n hx hb dM_isRight_89 rfl (lv_at hl 2 rfl) ?_
            refine va_iald hx hb hK hP 4 3 rfl rfl (vp_in_nI (by omega) (by decide)) dM_isRight_90 ?_
            refine ls_topi (y := nf c0) (by rw [nI_clamp (by omega)]) ?_
            refine lv_istore_n (lv' := [(3, .int (nf c0)), (0, .ref g0), (2, .int (nI 1)), (4, .int (nI k))]) hx hb dM_isRight_91 rfl hl (by decide) rfl (fun ls hl => ?_)
            refine lv_goto (tgt := 9) hx hb dM_isRight_92 (by decide) ?_
            exact ih (nf c0, t1, 1) _ _ _ (Nat.lt_succ_self _) ⟨lm_It hI h2, hP, hD, hS, lv_sub hl [1, 2, 0] rfl⟩
        · have c4 : r2 = 0 := (nI_eq (a := r2) (b := 0) (by omega) (by omega)).mp c4
          have hall := (hJ.2.2.resolve_right (fun h => absurd (h.1.symm.trans c4) (by decide))).2
          obtain ⟨lk1, lk2⟩ := q6 k hk1 c3
          refine lv_aload_n hx hb dM_isRight_45 rfl (lv_at hl 0 rfl) ?_
          refine va_get (D := (dC, dI)) (ci := 2) (v := .ref aV) (C := RM) (T := TM) (N := 17) hx hb hts lyM hown hK hP 0 rfl rfl 12 (by decide) (hts _ fl_M_28) (fun _ h9 => h9) rfl dM_isRight_46 ?_
          refine lv_aload_n hx hb dM_isRight_49 rfl (lv_at hl 0 rfl) ?_
          refine va_get (D := (dC, dI)) (ci := 2) (v := .ref aL) (C := RM) (T := TM) (N := 17) hx hb hts lyM hown hK hP 0 rfl rfl 3 (by decide) (hts _ fl_M_7) (fun _ h9 => h9) rfl dM_isRight_50 ?_
          refine lv_iload hx hb dM_isRight_53 (lv_at hl 3 rfl) ?_
          refine va_iald hx hb hK hP 1 0 rfl rfl (vp_in_nI (by omega) (by decide)) dM_isRight_55 ?_
          refine ls_topi (y := nI (lit k)) (by rw [nI_clamp (by omega)]; exact lk1) ?_
          refine lv_iconst (v := 2) hx hb dM_isRight_56 (by decide) ?_
          refine lv_idiv hx hb dM_isRight_57 (by decide) ?_
          refine ls_topi (y := nI (lit k / 2)) (pk_div (by omega) (by decide) (by decide)) ?_
          refine va_iald hx hb hK hP 5 4 rfl rfl (vp_in_nI (by omega) (by decide)) dM_isRight_58 ?_
          refine ls_topi (y := nI (vv (lit k / 2))) (by rw [nI_clamp (by omega)]; exact (hV (lit k / 2) (by omega)).1) ?_
          refine lv_iconst (v := 1) hx hb dM_isRight_59 (by decide) ?_
          refine lv_aload_n hx hb dM_isRight_60 rfl (lv_at hl 0 rfl) ?_
          refine va_get (D := (dC, dI)) (ci := 2) (v := .ref aL) (C := RM) (T := TM) (N := 17) hx hb hts lyM hown hK hP 0 rfl rfl 3 (by decide) (hts _ fl_M_7) (fun _ h9 => h9) rfl dM_isRight_61 ?_
          refine lv_iload hx hb dM_isRight_64 (lv_at hl 3 rfl) ?_
          refine va_iald hx hb hK hP 1 0 rfl rfl (vp_in_nI (by omega) (by decide)) dM_isRight_66 ?_
          refine ls_topi (y := nI (lit k)) (by rw [nI_clamp (by omega)]; exact lk1) ?_
          refine lv_iconst (v := 2) hx hb dM_isRight_67 (by decide) ?_
          refine lv_irem hx hb dM_isRight_68 (by decide) ?_
          refine ls_topi (y := nI (lit k % 2)) (pk_rem (by omega) (by decide) (by decide)) ?_
          refine lv_isub hx hb dM_isRight_69 ?_
          refine ls_topi (y := nI (1 - lit k % 2)) (pk_sub (a := 1) (by omega)) ?_
          have hv1 := (hV (lit k / 2) (by omega)).2
          refine lv_icmp_ne (tgt := 77) hx hb dM_isRight_70 (by decide) (fun c5 => ?_) (fun c5 => ?_)
          · have c5 : (vv (lit k / 2)) ≠ (1 - lit k % 2) := fun q => c5 ((nI_eq (a := (vv (lit k / 2))) (b := (1 - lit k % 2)) (by omega) (by omega)).mpr q)
            refine lv_iconst (v := 0) hx hb dM_isRight_77 (by decide) ?_
            refine lv_istore_n (lv' := [(2, .int 0), (0, .ref g0), (3, .int (nI c0)), (4, .int (nI k))]) hx hb dM_isRight_78 rfl hl (by decide) rfl (fun ls hl => ?_)
            refine lv_iinc (v := nI (k + 1)) (lv' := [(4, .int (nI (k + 1))), (2, .int 0), (0, .ref g0), (3, .int (nI c0))]) hx hb dM_isRight_79 hl (k := 3) rfl (nI_1 _) (by decide) rfl (fun ls hl => ?_)
            refine lv_goto (tgt := 28) hx hb dM_isRight_82 (by decide) ?_
            exact ih2 (k + 1, 0) _ _ _ (by show st (c0 + 1) - (k + 1) < st (c0 + 1) - k; omega) ⟨⟨by omega, c3, Or.inl ⟨rfl, fun j j1 j2 => by
                rcases Nat.lt_or_ge j k with h | h
                · exact hall j j1 h
                · rw [show j = k by omega]; exact c5⟩⟩, hP, hD, hS, lv_sub hl [2, 1, 3, 0] rfl⟩
          · have c5 : (vv (lit k / 2)) = (1 - lit k % 2) := (nI_eq (a := (vv (lit k / 2))) (b := (1 - lit k % 2)) (by omega) (by omega)).mp c5
            refine lv_iconst (v := 1) hx hb dM_isRight_73 (by decide) ?_
            refine lv_goto (tgt := 78) hx hb dM_isRight_74 (by decide) ?_
            refine lv_istore_n (lv' := [(2, .int 1), (0, .ref g0), (3, .int (nI c0)), (4, .int (nI k))]) hx hb dM_isRight_78 rfl hl (by decide) rfl (fun ls hl => ?_)
            refine lv_iinc (v := nI (k + 1)) (lv' := [(4, .int (nI (k + 1))), (2, .int 1), (0, .ref g0), (3, .int (nI c0))]) hx hb dM_isRight_79 hl (k := 3) rfl (nI_1 _) (by decide) rfl (fun ls hl => ?_)
            refine lv_goto (tgt := 28) hx hb dM_isRight_82 (by decide) ?_
            exact ih2 (k + 1, 1) _ _ _ (by show st (c0 + 1) - (k + 1) < st (c0 + 1) - k; omega) ⟨⟨by omega, c3, Or.inr ⟨rfl, k, hk1, c3, c5⟩⟩, hP, hD, hS, lv_sub hl [2, 1, 3, 0] rfl⟩
set_option maxHeartbeats 4000000 in
set_option maxRecDepth 100000 in
theorem k_M_search (l : Launch) (dC : Nat → ClassId) (dI : Nat → Nat → Nat) (tI sz : Nat) (g0 aL aS aF aN aA aO aV aT : Nat) (kL kS kF kN kO kV : ClassId) (lf sf ff nf of vf : Nat → Int32) (nv nc us dr as th : Nat) (co la bl : Int32) (lit st vv0 : Nat → Nat) (ch : Nat → List Nat) (hnv : nv ≤ 16) (hch : ∀ v, v < nv → lm_ch nf (ff v) (ch v) ∧ lm_C lf sf lit st (ch v)) (h16 : ff 16 = -1 ↔ ch 16 = []) (hdp : se_D nv lit st ch) (hof : ∀ v, v < nv → of v = -1 ∨ of v = 0 ∨ of v = 1) (hV0 : sv_V vf vv0) : Met l yM_search (Cond.code yM_search cM_search 3 (some .boolean) :: GG) (lvr 1 0 0) (va_Pc [.ref g0] (wPre dC dI [(kL, .int), (kS, .int), (kF, .int), (kN, .int), (kO, .int), (kV, .int)] [(g0, .inr (2, [.int co, .int (nI nv), .int (nI nc), .ref aL, .int (nI us), .ref aS, .int (nI dr), .ref aF, .ref aN, .ref aA, .int (nI as), .ref aO, .ref aV, .int la, .int bl, .ref aT, .int (nI th)])), (aL, .inl (kL, 4000, .inl lf)), (aS, .inl (kS, 501, .inl sf)), (aF, .inl (kF, 17, .inl ff)), (aN, .inl (kN, 500, .inl nf)), (aO, .inl (kO, 16, .inl of)), (aV, .inl (kV, 16, .inl vf))] sz tI)) (va_Qi (fun (r : Int32) (u : (Nat → Int32) × (Nat → Nat)) => sv_V u.1 u.2 ∧ sv_P nv lit st ch (sv_Q nv of) r u.2) (fun u t => wB dC dI [(kL, .int), (kS, .int), (kF, .int), (kN, .int), (kO, .int), (kV, .int)] (va_A [(g0, .inr (2, [.int co, .int (nI nv), .int (nI nc), .ref aL, .int (nI us), .ref aS, .int (nI dr), .ref aF, .ref aN, .ref aA, .int (nI as), .ref aO, .ref aV, .int la, .int bl, .ref aT, .int (nI th)])), (aL, .inl (kL, 4000, .inl lf)), (aS, .inl (kS, 501, .inl sf)), (aF, .inl (kF, 17, .inl ff)), (aN, .inl (kN, 500, .inl nf)), (aO, .inl (kO, 16, .inl of)), (aV, .inl (kV, 16, .inl vf))] sz) [(g0, .inr (2, [.int co, .int (nI nv), .int (nI nc), .ref aL, .int (nI us), .ref aS, .int (nI dr), .ref aF, .ref aN, .ref aA, .int (nI as), .ref aO, .ref aV, .int la, .int bl, .ref aT, .int (nI th)])), (aL, .inl (kL, 4000, .inl lf)), (aS, .inl (kS, 501, .inl sf)), (aF, .inl (kF, 17, .inl ff)), (aN, .inl (kN, 500, .inl nf)), (aO, .inl (kO, 16, .inl of)), (aV, .inl (kV, 16, .inl u.1))] t) (va_A [(g0, .inr (2, [.int co, .int (nI nv), .int (nI nc), .ref aL, .int (nI us), .ref aS, .int (nI dr), .ref aF, .ref aN, .ref aA, .int (nI as), .ref aO, .ref aV, .int la, .int bl, .ref aT, .int (nI th)])), (aL, .inl (kL, 4000, .inl lf)), (aS, .inl (kS, 501, .inl sf)), (aF, .inl (kF, 17, .inl ff)), (aN, .inl (kN, 500, .inl nf)), (aO, .inl (kO, 16, .inl of)), (aV, .inl (kV, 16, .inl vf))] sz)) 0 0 (va_A [(g0, .inr (2, [.int co, .int (nI nv), .int (nI nc), .ref aL, .int (nI us), .ref aS, .int (nI dr), .ref aF, .ref aN, .ref aA, .int (nI as), .ref aO, .ref aV, .int la, .int bl, .ref aT, .int (nI th)])), (aL, .inl (kL, 4000, .inl lf)), (aS, .inl (kS, 501, .inl sf)), (aF, .inl (kF, 17, .inl ff)), (aN, .inl (kN, 500, .inl nf)), (aO, .inl (kO, 16, .inl of)), (aV, .inl (kV, 16, .inl vf))] sz) := by
  refine Met.ofW (cc := cM_search) (maxL := 3) (ret := (some .boolean)) (by decide) rfl ?_
  intro p e s m args below meth c s₁ B hml hv
  obtain ⟨rfl, hsz, hP, hK, hD0, hZ, hX⟩ := hv
  have hx := B.exec
  have hb := B.bytes
  have hr := B.returns
  have hts : ∀ w ∈ GG, w.before ([.ref g0] : List Value).toArray s = true := fun w h => atoms_spec (ws := _ :: GG) B.pre w (List.mem_cons_of_mem _ h)
  have hown : s.vm.findClass RM = some m.cls := findClass_of_methodNamed B.named
  have hlocks := B.notSynchronized
  subst hsz
  have hD := hD0.self (sz := s.heap.size)
  generalize hAe : va_A [(g0, .inr (2, [.int co, .int (nI nv), .int (nI nc), .ref aL, .int (nI us), .ref aS, .int (nI dr), .ref aF, .ref aN, .ref aA, .int (nI as), .ref aO, .ref aV, .int la, .int bl, .ref aT, .int (nI th)])), (aL, .inl (kL, 4000, .inl lf)), (aS, .inl (kS, 501, .inl sf)), (aF, .inl (kF, 17, .inl ff)), (aN, .inl (kN, 500, .inl nf)), (aO, .inl (kO, 16, .inl of)), (aV, .inl (kV, 16, .inl vf))] s.heap.size = A at hD hZ ⊢
  have hA : ∀ q : Nat, s.heap.size ≤ q → A q := fun q h => by rw [← hAe]; exact Or.inr h
  have hS : va_S A s.heap s.heap [] := va_S.rf
  have hl := lv_entry ([.ref g0]) (n := 3) (Nat.le_of_ble_eq_true rfl)
  rw [lg_entry_eq]
  generalize (lg_sl ([.ref g0]) ++ List.replicate (3 - (lg_sl ([.ref g0])).length) Slot.unset).toArray = ls at hl ⊢
  have hl : lv_has ls 3 [(0, .ref g0)] := hl
  have SF : CallFix p m c cM_search 3 s ([.ref g0] : List Value).toArray GG RM := ⟨hx, hb, hml, hown, hts⟩
  skip
  have hP : va_P (dC, dI) vwCl [(g0, .inr (2, [.int co, .int (nI nv), .int (nI nc), .ref aL, .int (nI us), .ref aS, .int (nI dr), .ref aF, .ref aN, .ref aA, .int (nI as), .ref aO, .ref aV, .int la, .int bl, .ref aT, .int (nI th)])), (aL, .inl (kL, 4000, .inl lf)), (aS, .inl (kS, 501, .inl sf)), (aF, .inl (kF, 17, .inl ff)), (aN, .inl (kN, 500, .inl nf)), (aO, .inl (kO, 16, .inl of)), (aV, .inl (kV, 16, .inl vf))] s.heap := hP
  refine lv_aload_n hx hb dM_search_0 rfl (lv_at hl 0 rfl) ?_
  refine va_get (D := (dC, dI)) (ci := 2) (v := .ref aF) (C := RM) (T := TM) (N := 17) hx hb hts lyM hown hK hP 0 rfl rfl 7 (by decide) (hts _ fl_M_16) (fun _ h9 => h9) rfl dM_search_1 ?_
  refine lv_bipush (v := 16) hx hb dM_search_4 (by decide) ?_
  refine va_iald hx hb hK hP 3 2 rfl rfl (vp_in_nI (n := 16) (by decide) (by decide)) dM_search_6 ?_
  refine ls_topi (y := ff 16) (rfl) ?_
  refine lv_iconst (v := (-1)) hx hb dM_search_7 (by decide) ?_
  refine lv_icmp_eq (tgt := 13) hx hb dM_search_8 (by decide) (fun c1 => ?_) (fun c1 => ?_)
  · have hc16 := h16.mp c1
    refine lv_iconst (v := 0) hx hb dM_search_13 (by decide) ?_
    refine lv_istore_n (lv' := [(1, .int 0), (0, .ref g0)]) hx hb dM_search_14 rfl hl (by decide) rfl (fun ls hl => ?_)
    refine lv_iconst (v := 0) hx hb dM_search_15 (by decide) ?_
    refine lv_istore_n (lv' := [(2, .int 0), (1, .int 0), (0, .ref g0)]) hx hb dM_search_16 rfl hl (by decide) rfl (fun ls hl => ?_)
    refine lp_mu (α := Nat × Nat × (Nat → Int32) × (Nat → Nat)) (fun a_ => match a_ with | (v, bk, g, va) => se_mu nv v bk va) (fun a_ H locs ls => match a_ with | (v, bk, g, va) => (sv_V g va ∧ ((bk = 0 ∧ v ≤ nv ∧ se_P nv lit st ch of v va) ∨ (bk = 1 ∧ v < nv ∧ se_B nv lit st ch of v va))) ∧ va_P (dC, dI) vwCl [(g0, .inr (2, [.int co, .int (nI nv), .int (nI nc), .ref aL, .int (nI us), .ref aS, .int (nI dr), .ref aF, .ref aN, .ref aA, .int (nI as), .ref aO, .ref aV, .int la, .int bl, .ref aT, .int (nI th)])), (aL, .inl (kL, 4000, .inl lf)), (aS, .inl (kS, 501, .inl sf)), (aF, .inl (kF, 17, .inl ff)), (aN, .inl (kN, 500, .inl nf)), (aO, .inl (kO, 16, .inl of)), (aV, .inl (kV, 16, .inl g))] H ∧ va_D A [(g0, .inr (2, [.int co, .int (nI nv), .int (nI nc), .ref aL, .int (nI us), .ref aS, .int (nI dr), .ref aF, .ref aN, .ref aA, .int (nI as), .ref aO, .ref aV, .int la, .int bl, .ref aT, .int (nI th)])), (aL, .inl (kL, 4000, .inl lf)), (aS, .inl (kS, 501, .inl sf)), (aF, .inl (kF, 17, .inl ff)), (aN, .inl (kN, 500, .inl nf)), (aO, .inl (kO, 16, .inl of)), (aV, .inl (kV, 16, .inl g))] ∧ va_S A s.heap H locs ∧ lv_has ls 3 [(0, .ref g0), (1, .int (nI v)), (2, .int (nI bk))]) ?_ (0, 0, vf, vv0) ⟨⟨hV0, Or.inl ⟨rfl, Nat.zero_le _, ⟨fun j hj => absurd hj (Nat.not_lt_zero _), fun j hj => absurd hj (Nat.not_lt_zero _)⟩⟩⟩, hP, hD, hS, lv_sub hl [2, 1, 0] rfl⟩
    intro a_ H locs ls hI ih
    obtain ⟨v, bk, g, va⟩ := a_
    obtain ⟨hI, hP, hD, hS, hl⟩ := hI
    have hI : sv_V g va ∧ ((bk = 0 ∧ v ≤ nv ∧ se_P nv lit st ch of v va) ∨ (bk = 1 ∧ v < nv ∧ se_B nv lit st ch of v va)) := hI
    have hP : va_P (dC, dI) vwCl [(g0, .inr (2, [.int co, .int (nI nv), .int (nI nc), .ref aL, .int (nI us), .ref aS, .int (nI dr), .ref aF, .ref aN, .ref aA, .int (nI as), .ref aO, .ref aV, .int la, .int bl, .ref aT, .int (nI th)])), (aL, .inl (kL, 4000, .inl lf)), (aS, .inl (kS, 501, .inl sf)), (aF, .inl (kF, 17, .inl ff)), (aN, .inl (kN, 500, .inl nf)), (aO, .inl (kO, 16, .inl of)), (aV, .inl (kV, 16, .inl g))] H := hP
    have hD : va_D A [(g0, .inr (2, [.int co, .int (nI nv), .int (nI nc), .ref aL, .int (nI us), .ref aS, .int (nI dr), .ref aF, .ref aN, .ref aA, .int (nI as), .ref aO, .ref aV, .int la, .int bl, .ref aT, .int (nI th)])), (aL, .inl (kL, 4000, .inl lf)), (aS, .inl (kS, 501, .inl sf)), (aF, .inl (kF, 17, .inl ff)), (aN, .inl (kN, 500, .inl nf)), (aO, .inl (kO, 16, .inl of)), (aV, .inl (kV, 16, .inl g))] := hD
    have hl : lv_has ls 3 [(0, .ref g0), (1, .int (nI v)), (2, .int (nI bk))] := hl
    obtain ⟨hV, hI⟩ := hI
    rcases hI with ⟨eb, hvn, hSP⟩ | ⟨eb, hvn, hSB⟩
    · subst eb
      refine lv_iload_n hx hb dM_search_17 rfl (lv_at hl 1 rfl) ?_
      refine lv_if_lt (tgt := 119) hx hb dM_search_18 (by decide) (fun c1 => ?_) (fun c1 => ?_)
      · have c1 : v < 0 := (nI_ltI (a := v) (b := 0) (by omega) (by omega)).mp c1
        exact absurd c1 (Nat.not_lt_zero _)
      · have c1 : 0 ≤ v := Nat.le_of_not_lt (fun q => c1 ((nI_ltI (a := v) (b := 0) (by omega) (by omega)).mpr q))
        refine lv_iload_n hx hb dM_search_21 rfl (lv_at hl 1 rfl) ?_
        refine lv_aload_n hx hb dM_search_22 rfl (lv_at hl 0 rfl) ?_
        refine va_get (D := (dC, dI)) (ci := 2) (v := .int (nI nv)) (C := RM) (T := TM) (N := 17) hx hb hts lyM hown hK hP 0 rfl rfl 1 (by decide) (hts _ fl_M_41) (fun _ h9 => h9) rfl dM_search_23 ?_
        refine lv_icmp_ge (tgt := 119) hx hb dM_search_26 (by decide) (fun c2 => ?_) (fun c2 => ?_)
        · have c2 : nv ≤ v := (nI_leI (a := nv) (b := v) (by omega) (by omega)).mp c2
          have ev : v = nv := by omega
          refine lv_iload_n hx hb dM_search_119 rfl (lv_at hl 1 rfl) ?_
          refine lv_aload_n hx hb dM_search_120 rfl (lv_at hl 0 rfl) ?_
          refine va_get (D := (dC, dI)) (ci := 2) (v := .int (nI nv)) (C := RM) (T := TM) (N := 17) hx hb hts lyM hown hK hP 0 rfl rfl 1 (by decide) (hts _ fl_M_41) (fun _ h9 => h9) rfl dM_search_121 ?_
          refine lv_icmp_ne (tgt := 131) hx hb dM_search_124 (by decide) (fun c3 => ?_) (fun c3 => ?_)
          · have c3 : v ≠ nv := fun q => c3 ((nI_eq (a := v) (b := nv) (by omega) (by omega)).mpr q)
            exact absurd ev c3
          · have c3 : v = nv := (nI_eq (a := v) (b := nv) (by omega) (by omega)).mp c3
            refine lv_iconst (v := 1) hx hb dM_search_127 (by decide) ?_
            refine lv_goto (tgt := 132) hx hb dM_search_128 (by decide) ?_
            exact (W.zret (v := 1) hx hb hr (rfl) (fun t ht hW => ⟨⟨1, (g, va), rfl, ⟨hV, sv_yes hc16 (by rw [ev] at hSP; exact hSP)⟩, by rw [ht]; exact hP, va_K.moved hW.alike hK, hD⟩, hS.F ht⟩) hS.2.2 dM_search_132)
        · have c2 : v < nv := Nat.lt_of_not_le (fun q => c2 ((nI_leI (a := nv) (b := v) (by omega) (by omega)).mpr q))
          refine lv_iload_n hx hb dM_search_29 rfl (lv_at hl 2 rfl) ?_
          refine lv_if_ne (tgt := 57) hx hb dM_search_30 (by decide) (fun c3 => ?_) (fun c3 => ?_)
          · have c3 : 0 ≠ 0 := fun q => c3 ((nI_eq (a := 0) (b := 0) (by omega) (by omega)).mpr q)
            exact absurd rfl c3
          · have c3 : 0 = 0 := (nI_eq (a := 0) (b := 0) (by omega) (by omega)).mp c3
            refine lv_aload_n hx hb dM_search_33 rfl (lv_at hl 0 rfl) ?_
            refine va_get (D := (dC, dI)) (ci := 2) (v := .ref aV) (C := RM) (T := TM) (N := 17) hx hb hts lyM hown hK hP 0 rfl rfl 12 (by decide) (hts _ fl_M_28) (fun _ h9 => h9) rfl dM_search_34 ?_
            refine lv_iload_n hx hb dM_search_37 rfl (lv_at hl 1 rfl) ?_
            refine lv_aload_n hx hb dM_search_38 rfl (lv_at hl 0 rfl) ?_
            refine va_get (D := (dC, dI)) (ci := 2) (v := .ref aO) (C := RM) (T := TM) (N := 17) hx hb hts lyM hown hK hP 0 rfl rfl 11 (by decide) (hts _ fl_M_25) (fun _ h9 => h9) rfl dM_search_39 ?_
            refine lv_iload_n hx hb dM_search_42 rfl (lv_at hl 1 rfl) ?_
            refine va_iald hx hb hK hP 5 4 rfl rfl (vp_in_nI (by omega) (by decide)) dM_search_43 ?_
            refine ls_topi (y := of v) (by rw [nI_clamp (by omega)]) ?_
            refine lv_iconst (v := 1) hx hb dM_search_44 (by decide) ?_
            refine lv_icmp_ne (tgt := 52) hx hb dM_search_45 (by decide) (fun c4 => ?_) (fun c4 => ?_)
            · obtain ⟨f1, f2, f3⟩ := se_first hdp c2 hSP (x := 0) (Or.inr ⟨c4, rfl⟩) (hof v c2)
              refine lv_iconst (v := 0) hx hb dM_search_52 (by decide) ?_
              refine va_iast hx hb hK hP hD hS 6 5 rfl rfl (vp_in_nI (by omega) (by decide)) dM_search_53 (fun H locs hP hD hS => ?_)
              rw [show upd g (nI v).toNatClampNeg 0 = upd g v 0 from by rw [nI_clamp (by omega)]] at hP hD
              have hP : va_P (dC, dI) vwCl [(g0, .inr (2, [.int co, .int (nI nv), .int (nI nc), .ref aL, .int (nI us), .ref aS, .int (nI dr), .ref aF, .ref aN, .ref aA, .int (nI as), .ref aO, .ref aV, .int la, .int bl, .ref aT, .int (nI th)])), (aL, .inl (kL, 4000, .inl lf)), (aS, .inl (kS, 501, .inl sf)), (aF, .inl (kF, 17, .inl ff)), (aN, .inl (kN, 500, .inl nf)), (aO, .inl (kO, 16, .inl of)), (aV, .inl (kV, 16, .inl (upd g v 0)))] H := hP
              have hD : va_D A [(g0, .inr (2, [.int co, .int (nI nv), .int (nI nc), .ref aL, .int (nI us), .ref aS, .int (nI dr), .ref aF, .ref aN, .ref aA, .int (nI as), .ref aO, .ref aV, .int la, .int bl, .ref aT, .int (nI th)])), (aL, .inl (kL, 4000, .inl lf)), (aS, .inl (kS, 501, .inl sf)), (aF, .inl (kF, 17, .inl ff)), (aN, .inl (kN, 500, .inl nf)), (aO, .inl (kO, 16, .inl of)), (aV, .inl (kV, 16, .inl (upd g v 0)))] := hD
              have hV2 : sv_V (upd g v 0) (se_u va v 0) := sv_Vu (x := 0) hV (by decide)
              refine lv_goto (tgt := 90) hx hb dM_search_54 (by decide) ?_
              refine lv_aload_n hx hb dM_search_90 rfl (lv_at hl 0 rfl) ?_
              refine lv_iload_n hx hb dM_search_91 rfl (lv_at hl 1 rfl) ?_
              have hFc := va_free (wc := [(g0, .inr (2, [.int co, .int (nI nv), .int (nI nc), .ref aL, .int (nI us), .ref aS, .int (nI dr), .ref aF, .ref aN, .ref aA, .int (nI as), .ref aO, .ref aV, .int la, .int bl, .ref aT, .int (nI th)])), (aL, .inl (kL, 4000, .inl lf)), (aS, .inl (kS, 501, .inl sf)), (aF, .inl (kF, 17, .inl ff)), (aN, .inl (kN, 500, .inl nf)), (aV, .inl (kV, 16, .inl (upd g v 0)))]) hD hS hA [0, 1, 2, 3, 4, 6] rfl
              refine wc_i (wc_V (As := [.int (nI v)]) (rest := []) (n := 1) SF (k_M_isRight l dC dI tI _ g0 aL aS aF aN aA aO aV aT kL kS kF kN kV lf sf ff nf (upd g v 0) nv nc us dr as th co la bl v (by omega) lit st (se_u va v 0) (ch v) (hch v (by omega)).1 (hch v (by omega)).2 hV2) ml_M_66 im_M_isRight se_M_isRight in_M co_M_isRight (by decide +kernel) rfl rfl rfl ⟨Nat.le_of_ble_eq_true rfl, Nat.le_of_ble_eq_true rfl⟩ (va_recv (hK.sub (tys' := []) [] rfl) (hP.sub (ws' := [(g0, .inr (2, [.int co, .int (nI nv), .int (nI nc), .ref aL, .int (nI us), .ref aS, .int (nI dr), .ref aF, .ref aN, .ref aA, .int (nI as), .ref aO, .ref aV, .int la, .int bl, .ref aT, .int (nI th)])), (aL, .inl (kL, 4000, .inl lf)), (aS, .inl (kS, 501, .inl sf)), (aF, .inl (kF, 17, .inl ff)), (aN, .inl (kN, 500, .inl nf)), (aV, .inl (kV, 16, .inl (upd g v 0)))]) [0, 1, 2, 3, 4, 6] rfl) (ci := 2) (q0 := 0) rfl rfl) (hP.sub [0, 1, 2, 3, 4, 6] rfl) (hD.sub [0, 1, 2, 3, 4, 6] (by decide) rfl) (hK.sub [0, 1, 2, 3, 5] rfl) hZ hX hS hFc rfl hl.1 (Nat.le_of_ble_eq_true rfl) dM_search_92 ⟨Nat.le_of_ble_eq_true rfl, Nat.le_of_ble_eq_true rfl⟩) hP hD hS hFc [0, 1, 2, 3, 4, 6] [5] (wr := [(aO, .inl (kO, 16, .inl of))]) rfl rfl rfl (by decide) (fun z uu H locs hw hP hD hS => ?_)
              have hP : va_P (dC, dI) vwCl [(g0, .inr (2, [.int co, .int (nI nv), .int (nI nc), .ref aL, .int (nI us), .ref aS, .int (nI dr), .ref aF, .ref aN, .ref aA, .int (nI as), .ref aO, .ref aV, .int la, .int bl, .ref aT, .int (nI th)])), (aL, .inl (kL, 4000, .inl lf)), (aS, .inl (kS, 501, .inl sf)), (aF, .inl (kF, 17, .inl ff)), (aN, .inl (kN, 500, .inl nf)), (aO, .inl (kO, 16, .inl of)), (aV, .inl (kV, 16, .inl (upd g v 0)))] H := hP.sub [1, 2, 3, 4, 5, 0, 6] rfl
              have hD : va_D A [(g0, .inr (2, [.int co, .int (nI nv), .int (nI nc), .ref aL, .int (nI us), .ref aS, .int (nI dr), .ref aF, .ref aN, .ref aA, .int (nI as), .ref aO, .ref aV, .int la, .int bl, .ref aT, .int (nI th)])), (aL, .inl (kL, 4000, .inl lf)), (aS, .inl (kS, 501, .inl sf)), (aF, .inl (kF, 17, .inl ff)), (aN, .inl (kN, 500, .inl nf)), (aO, .inl (kO, 16, .inl of)), (aV, .inl (kV, 16, .inl (upd g v 0)))] := hD.sub [1, 2, 3, 4, 5, 0, 6] (by decide) rfl
              refine lv_if_ne (tgt := 102) hx hb dM_search_95 (by decide) (fun c7 => ?_) (fun c7 => ?_)
              · have hR : se_R lit st ch v (se_u va v 0) := by
                  rcases hw with ⟨_, h⟩ | ⟨h, _⟩
                  · exact h
                  · exact absurd h c7
                refine lv_iconst (v := 0) hx hb dM_search_102 (by decide) ?_
                refine lv_istore_n (lv' := [(2, .int 0), (0, .ref g0), (1, .int (nI v))]) hx hb dM_search_103 rfl hl (by decide) rfl (fun ls hl => ?_)
                refine lv_iload_n hx hb dM_search_104 rfl (lv_at hl 0 rfl) ?_
                refine lv_if_eq (tgt := 112) hx hb dM_search_105 (by decide) (fun c8 => ?_) (fun c8 => ?_)
                · refine lv_iload_n hx hb dM_search_112 rfl (lv_at hl 2 rfl) ?_
                  refine lv_iconst (v := 1) hx hb dM_search_113 (by decide) ?_
                  refine lv_iadd hx hb dM_search_114 ?_
                  refine ls_topi (y := nI (v + 1)) (nI_1 _) ?_
                  refine lv_istore_n (lv' := [(1, .int (nI (v + 1))), (2, .int 0), (0, .ref g0)]) hx hb dM_search_115 rfl hl (by decide) rfl (fun ls hl => ?_)
                  refine lv_goto (tgt := 17) hx hb dM_search_116 (by decide) ?_
                  exact ih (v + 1, 0, upd g v 0, se_u va v 0) _ _ _ ((se_m1 c2).1) ⟨⟨hV2, Or.inl ⟨rfl, by omega, se_up f1 f2 hR f3⟩⟩, hP, hD, hS, lv_sub hl [2, 0, 1] rfl⟩
                · exact absurd rfl c8
              · have hR : ¬ se_R lit st ch v (se_u va v 0) := by
                  rcases hw with ⟨h, _⟩ | ⟨_, c, h1, h2⟩
                  · rw [h] at c7; exact absurd c7 (by decide)
                  · exact fun q => h2 (q c h1)
                refine lv_iconst (v := 1) hx hb dM_search_98 (by decide) ?_
                refine lv_goto (tgt := 103) hx hb dM_search_99 (by decide) ?_
                refine lv_istore_n (lv' := [(2, .int 1), (0, .ref g0), (1, .int (nI v))]) hx hb dM_search_103 rfl hl (by decide) rfl (fun ls hl => ?_)
                refine lv_iload_n hx hb dM_search_104 rfl (lv_at hl 0 rfl) ?_
                refine lv_if_eq (tgt := 112) hx hb dM_search_105 (by decide) (fun c8 => ?_) (fun c8 => ?_)
                · exact absurd c8 (by decide)
                · refine lv_iload_n hx hb dM_search_108 rfl (lv_at hl 2 rfl) ?_
                  refine lv_goto (tgt := 115) hx hb dM_search_109 (by decide) ?_
                  refine lv_istore_n (lv' := [(1, .int (nI v)), (2, .int 1), (0, .ref g0)]) hx hb dM_search_115 rfl hl (by decide) rfl (fun ls hl => ?_)
                  refine lv_goto (tgt := 17) hx hb dM_search_116 (by decide) ?_
                  exact ih (v, 1, upd g v 0, se_u va v 0) _ _ _ ((se_m1 c2).2) ⟨⟨hV2, Or.inr ⟨rfl, by omega, se_no hdp (by omega) f1 f2 hR f3⟩⟩, hP, hD, hS, lv_sub hl [2, 0, 1] rfl⟩
            · obtain ⟨f1, f2, f3⟩ := se_first hdp c2 hSP (x := 1) (Or.inl ⟨c4, rfl⟩) (hof v c2)
              refine lv_iconst (v := 1) hx hb dM_search_48 (by decide) ?_
              refine lv_goto (tgt := 53) hx hb dM_search_49 (by decide) ?_
              refine va_iast hx hb hK hP hD hS 6 5 rfl rfl (vp_in_nI (by omega) (by decide)) dM_search_53 (fun H locs hP hD hS => ?_)
              rw [show upd g (nI v).toNatClampNeg 1 = upd g v 1 from by rw [nI_clamp (by omega)]] at hP hD
              have hP : va_P (dC, dI) vwCl [(g0, .inr (2, [.int co, .int (nI nv), .int (nI nc), .ref aL, .int (nI us), .ref aS, .int (nI dr), .ref aF, .ref aN, .ref aA, .int (nI as), .ref aO, .ref aV, .int la, .int bl, .ref aT, .int (nI th)])), (aL, .inl (kL, 4000, .inl lf)), (aS, .inl (kS, 501, .inl sf)), (aF, .inl (kF, 17, .inl ff)), (aN, .inl (kN, 500, .inl nf)), (aO, .inl (kO, 16, .inl of)), (aV, .inl (kV, 16, .inl (upd g v 1)))] H := hP
              have hD : va_D A [(g0, .inr (2, [.int co, .int (nI nv), .int (nI nc), .ref aL, .int (nI us), .ref aS, .int (nI dr), .ref aF, .ref aN, .ref aA, .int (nI as), .ref aO, .ref aV, .int la, .int bl, .ref aT, .int (nI th)])), (aL, .inl (kL, 4000, .inl lf)), (aS, .inl (kS, 501, .inl sf)), (aF, .inl (kF, 17, .inl ff)), (aN, .inl (kN, 500, .inl nf)), (aO, .inl (kO, 16, .inl of)), (aV, .inl (kV, 16, .inl (upd g v 1)))] := hD
              have hV2 : sv_V (upd g v 1) (se_u va v 1) := sv_Vu (x := 1) hV (by decide)
              refine lv_goto (tgt := 90) hx hb dM_search_54 (by decide) ?_
              refine lv_aload_n hx hb dM_search_90 rfl (lv_at hl 0 rfl) ?_
              refine lv_iload_n hx hb dM_search_91 rfl (lv_at hl 1 rfl) ?_
              have hFc := va_free (wc := [(g0, .inr (2, [.int co, .int (nI nv), .int (nI nc), .ref aL, .int (nI us), .ref aS, .int (nI dr), .ref aF, .ref aN, .ref aA, .int (nI as), .ref aO, .ref aV, .int la, .int bl, .ref aT, .int (nI th)])), (aL, .inl (kL, 4000, .inl lf)), (aS, .inl (kS, 501, .inl sf)), (aF, .inl (kF, 17, .inl ff)), (aN, .inl (kN, 500, .inl nf)), (aV, .inl (kV, 16, .inl (upd g v 1)))]) hD hS hA [0, 1, 2, 3, 4, 6] rfl
              refine wc_i (wc_V (As := [.int (nI v)]) (rest := []) (n := 1) SF (k_M_isRight l dC dI tI _ g0 aL aS aF aN aA aO aV aT kL kS kF kN kV lf sf ff nf (upd g v 1) nv nc us dr as th co la bl v (by omega) lit st (se_u va v 1) (ch v) (hch v (by omega)).1 (hch v (by omega)).2 hV2) ml_M_66 im_M_isRight se_M_isRight in_M co_M_isRight (by decide +kernel) rfl rfl rfl ⟨Nat.le_of_ble_eq_true rfl, Nat.le_of_ble_eq_true rfl⟩ (va_recv (hK.sub (tys' := []) [] rfl) (hP.sub (ws' := [(g0, .inr (2, [.int co, .int (nI nv), .int (nI nc), .ref aL, .int (nI us), .ref aS, .int (nI dr), .ref aF, .ref aN, .ref aA, .int (nI as), .ref aO, .ref aV, .int la, .int bl, .ref aT, .int (nI th)])), (aL, .inl (kL, 4000, .inl lf)), (aS, .inl (kS, 501, .inl sf)), (aF, .inl (kF, 17, .inl ff)), (aN, .inl (kN, 500, .inl nf)), (aV, .inl (kV, 16, .inl (upd g v 1)))]) [0, 1, 2, 3, 4, 6] rfl) (ci := 2) (q0 := 0) rfl rfl) (hP.sub [0, 1, 2, 3, 4, 6] rfl) (hD.sub [0, 1, 2, 3, 4, 6] (by decide) rfl) (hK.sub [0, 1, 2, 3, 5] rfl) hZ hX hS hFc rfl hl.1 (Nat.le_of_ble_eq_true rfl) dM_search_92 ⟨Nat.le_of_ble_eq_true rfl, Nat.le_of_ble_eq_true rfl⟩) hP hD hS hFc [0, 1, 2, 3, 4, 6] [5] (wr := [(aO, .inl (kO, 16, .inl of))]) rfl rfl rfl (by decide) (fun z uu H locs hw hP hD hS => ?_)
              have hP : va_P (dC, dI) vwCl [(g0, .inr (2, [.int co, .int (nI nv), .int (nI nc), .ref aL, .int (nI us), .ref aS, .int (nI dr), .ref aF, .ref aN, .ref aA, .int (nI as), .ref aO, .ref aV, .int la, .int bl, .ref aT, .int (nI th)])), (aL, .inl (kL, 4000, .inl lf)), (aS, .inl (kS, 501, .inl sf)), (aF, .inl (kF, 17, .inl ff)), (aN, .inl (kN, 500, .inl nf)), (aO, .inl (kO, 16, .inl of)), (aV, .inl (kV, 16, .inl (upd g v 1)))] H := hP.sub [1, 2, 3, 4, 5, 0, 6] rfl
              have hD : va_D A [(g0, .inr (2, [.int co, .int (nI nv), .int (nI nc), .ref aL, .int (nI us), .ref aS, .int (nI dr), .ref aF, .ref aN, .ref aA, .int (nI as), .ref aO, .ref aV, .int la, .int bl, .ref aT, .int (nI th)])), (aL, .inl (kL, 4000, .inl lf)), (aS, .inl (kS, 501, .inl sf)), (aF, .inl (kF, 17, .inl ff)), (aN, .inl (kN, 500, .inl nf)), (aO, .inl (kO, 16, .inl of)), (aV, .inl (kV, 16, .inl (upd g v 1)))] := hD.sub [1, 2, 3, 4, 5, 0, 6] (by decide) rfl
              refine lv_if_ne (tgt := 102) hx hb dM_search_95 (by decide) (fun c7 => ?_) (fun c7 => ?_)
              · have hR : se_R lit st ch v (se_u va v 1) := by
                  rcases hw with ⟨_, h⟩ | ⟨h, _⟩
                  · exact h
                  · exact absurd h c7
                refine lv_iconst (v := 0) hx hb dM_search_102 (by decide) ?_
                refine lv_istore_n (lv' := [(2, .int 0), (0, .ref g0), (1, .int (nI v))]) hx hb dM_search_103 rfl hl (by decide) rfl (fun ls hl => ?_)
                refine lv_iload_n hx hb dM_search_104 rfl (lv_at hl 0 rfl) ?_
                refine lv_if_eq (tgt := 112) hx hb dM_search_105 (by decide) (fun c8 => ?_) (fun c8 => ?_)
                · refine lv_iload_n hx hb dM_search_112 rfl (lv_at hl 2 rfl) ?_
                  refine lv_iconst (v := 1) hx hb dM_search_113 (by decide) ?_
                  refine lv_iadd hx hb dM_search_114 ?_
                  refine ls_topi (y := nI (v + 1)) (nI_1 _) ?_
                  refine lv_istore_n (lv' := [(1, .int (nI (v + 1))), (2, .int 0), (0, .ref g0)]) hx hb dM_search_115 rfl hl (by decide) rfl (fun ls hl => ?_)
                  refine lv_goto (tgt := 17) hx hb dM_search_116 (by decide) ?_
                  exact ih (v + 1, 0, upd g v 1, se_u va v 1) _ _ _ ((se_m1 c2).1) ⟨⟨hV2, Or.inl ⟨rfl, by omega, se_up f1 f2 hR f3⟩⟩, hP, hD, hS, lv_sub hl [2, 0, 1] rfl⟩
                · exact absurd rfl c8
              · have hR : ¬ se_R lit st ch v (se_u va v 1) := by
                  rcases hw with ⟨h, _⟩ | ⟨_, c, h1, h2⟩
                  · rw [h] at c7; exact absurd c7 (by decide)
                  · exact fun q => h2 (q c h1)
                refine lv_iconst (v := 1) hx hb dM_search_98 (by decide) ?_
                refine lv_goto (tgt := 103) hx hb dM_search_99 (by decide) ?_
                refine lv_istore_n (lv' := [(2, .int 1), (0, .ref g0), (1, .int (nI v))]) hx hb dM_search_103 rfl hl (by decide) rfl (fun ls hl => ?_)
                refine lv_iload_n hx hb dM_search_104 rfl (lv_at hl 0 rfl) ?_
                refine lv_if_eq (tgt := 112) hx hb dM_search_105 (by decide) (fun c8 => ?_) (fun c8 => ?_)
                · exact absurd c8 (by decide)
                · refine lv_iload_n hx hb dM_search_108 rfl (lv_at hl 2 rfl) ?_
                  refine lv_goto (tgt := 115) hx hb dM_search_109 (by decide) ?_
                  refine lv_istore_n (lv' := [(1, .int (nI v)), (2, .int 1), (0, .ref g0)]) hx hb dM_search_115 rfl hl (by decide) rfl (fun ls hl => ?_)
                  refine lv_goto (tgt := 17) hx hb dM_search_116 (by decide) ?_
                  exact ih (v, 1, upd g v 1, se_u va v 1) _ _ _ ((se_m1 c2).2) ⟨⟨hV2, Or.inr ⟨rfl, by omega, se_no hdp (by omega) f1 f2 hR f3⟩⟩, hP, hD, hS, lv_sub hl [2, 0, 1] rfl⟩
    · subst eb
      refine lv_iload_n hx hb dM_search_17 rfl (lv_at hl 1 rfl) ?_
      refine lv_if_lt (tgt := 119) hx hb dM_search_18 (by decide) (fun c1 => ?_) (fun c1 => ?_)
      · have c1 : v < 0 := (nI_ltI (a := v) (b := 0) (by omega) (by omega)).mp c1
        exact absurd c1 (Nat.not_lt_zero _)
      · have c1 : 0 ≤ v := Nat.le_of_not_lt (fun q => c1 ((nI_ltI (a := v) (b := 0) (by omega) (by omega)).mpr q))
        refine lv_iload_n hx hb dM_search_21 rfl (lv_at hl 1 rfl) ?_
        refine lv_aload_n hx hb dM_search_22 rfl (lv_at hl 0 rfl) ?_
        refine va_get (D := (dC, dI)) (ci := 2) (v := .int (nI nv)) (C := RM) (T := TM) (N := 17) hx hb hts lyM hown hK hP 0 rfl rfl 1 (by decide) (hts _ fl_M_41) (fun _ h9 => h9) rfl dM_search_23 ?_
        refine lv_icmp_ge (tgt := 119) hx hb dM_search_26 (by decide) (fun c2 => ?_) (fun c2 => ?_)
        · have c2 : nv ≤ v := (nI_leI (a := nv) (b := v) (by omega) (by omega)).mp c2
          exact absurd hvn (by omega)
        · have c2 : v < nv := Nat.lt_of_not_le (fun q => c2 ((nI_leI (a := nv) (b := v) (by omega) (by omega)).mpr q))
          refine lv_iload_n hx hb dM_search_29 rfl (lv_at hl 2 rfl) ?_
          refine lv_if_ne (tgt := 57) hx hb dM_search_30 (by decide) (fun c3 => ?_) (fun c3 => ?_)
          · have c3 : 1 ≠ 0 := fun q => c3 ((nI_eq (a := 1) (b := 0) (by omega) (by omega)).mpr q)
            refine lv_aload_n hx hb dM_search_57 rfl (lv_at hl 0 rfl) ?_
            refine va_get (D := (dC, dI)) (ci := 2) (v := .ref aV) (C := RM) (T := TM) (N := 17) hx hb hts lyM hown hK hP 0 rfl rfl 12 (by decide) (hts _ fl_M_28) (fun _ h9 => h9) rfl dM_search_58 ?_
            refine lv_iload_n hx hb dM_search_61 rfl (lv_at hl 1 rfl) ?_
            refine va_iald hx hb hK hP 6 5 rfl rfl (vp_in_nI (by omega) (by decide)) dM_search_62 ?_
            refine ls_topi (y := nI (va v)) (by rw [nI_clamp (by omega)]; exact (hV v (by omega)).1) ?_
            refine lv_iconst (v := 1) hx hb dM_search_63 (by decide) ?_
            have hva := (hV v (by omega)).2
            refine lv_icmp_eq (tgt := 77) hx hb dM_search_64 (by decide) (fun c4 => ?_) (fun c4 => ?_)
            · have c4 : (va v) = 1 := (nI_eq (a := (va v)) (b := 1) (by omega) (by omega)).mp c4
              have hno := Or.inl (b := ¬ of v = -1) c4
              rcases Nat.eq_zero_or_pos v with v0 | v0
              · subst v0
                refine lv_iinc (v := (-1)) (lv' := [(1, .int (-1)), (0, .ref g0), (2, .int (nI 1))]) hx hb dM_search_77 hl (k := 1) rfl (by decide) (by decide) rfl (fun ls hl => ?_)
                refine lv_goto (tgt := 17) hx hb dM_search_80 (by decide) ?_
                refine lv_iload_n hx hb dM_search_17 rfl (lv_at hl 0 rfl) ?_
                refine lv_if_lt (tgt := 119) hx hb dM_search_18 (by decide) (fun c8 => ?_) (fun c8 => ?_)
                · refine lv_iload_n hx hb dM_search_119 rfl (lv_at hl 0 rfl) ?_
                  refine lv_aload_n hx hb dM_search_120 rfl (lv_at hl 1 rfl) ?_
                  refine va_get (D := (dC, dI)) (ci := 2) (v := .int (nI nv)) (C := RM) (T := TM) (N := 17) hx hb hts lyM hown hK hP 0 rfl rfl 1 (by decide) (hts _ fl_M_41) (fun _ h9 => h9) rfl dM_search_121 ?_
                  refine lv_icmp_ne (tgt := 131) hx hb dM_search_124 (by decide) (fun c9 => ?_) (fun c9 => ?_)
                  · refine lv_iconst (v := 0) hx hb dM_search_131 (by decide) ?_
                    exact (W.zret (v := 0) hx hb hr (rfl) (fun t ht hW => ⟨⟨0, (g, va), rfl, ⟨hV, sv_no (fun b hb => se_none c2 hSB hno b hb (fun i hi => absurd hi (Nat.not_lt_zero _)))⟩, by rw [ht]; exact hP, va_K.moved hW.alike hK, hD⟩, hS.F ht⟩) hS.2.2 dM_search_132)
                  · exact absurd (nI_pos (n := nv) (by omega)) (by rw [← c9]; decide)
                · exact absurd (by decide) c8
              · obtain ⟨v1, rfl⟩ : ∃ v1, v = v1 + 1 := ⟨v - 1, by omega⟩
                refine lv_iinc (v := nI v1) (lv' := [(1, .int (nI v1)), (0, .ref g0), (2, .int (nI 1))]) hx hb dM_search_77 hl (k := 1) rfl (pk_m1 v1) (by decide) rfl (fun ls hl => ?_)
                refine lv_goto (tgt := 17) hx hb dM_search_80 (by decide) ?_
                exact ih (v1, 1, g, va) _ _ _ (se_m3) ⟨⟨hV, Or.inr ⟨rfl, by omega, se_down c2 hSB hno⟩⟩, hP, hD, hS, lv_sub hl [1, 0, 2] rfl⟩
            · have c4 : (va v) ≠ 1 := fun q => c4 ((nI_eq (a := (va v)) (b := 1) (by omega) (by omega)).mpr q)
              refine lv_aload_n hx hb dM_search_67 rfl (lv_at hl 0 rfl) ?_
              refine va_get (D := (dC, dI)) (ci := 2) (v := .ref aO) (C := RM) (T := TM) (N := 17) hx hb hts lyM hown hK hP 0 rfl rfl 11 (by decide) (hts _ fl_M_25) (fun _ h9 => h9) rfl dM_search_68 ?_
              refine lv_iload_n hx hb dM_search_71 rfl (lv_at hl 1 rfl) ?_
              refine va_iald hx hb hK hP 5 4 rfl rfl (vp_in_nI (by omega) (by decide)) dM_search_72 ?_
              refine ls_topi (y := of v) (by rw [nI_clamp (by omega)]) ?_
              refine lv_iconst (v := (-1)) hx hb dM_search_73 (by decide) ?_
              refine lv_icmp_eq (tgt := 83) hx hb dM_search_74 (by decide) (fun c5 => ?_) (fun c5 => ?_)
              · obtain ⟨f1, f2, f3⟩ := se_second hdp c2 hSB c4 c5
                refine lv_aload_n hx hb dM_search_83 rfl (lv_at hl 0 rfl) ?_
                refine va_get (D := (dC, dI)) (ci := 2) (v := .ref aV) (C := RM) (T := TM) (N := 17) hx hb hts lyM hown hK hP 0 rfl rfl 12 (by decide) (hts _ fl_M_28) (fun _ h9 => h9) rfl dM_search_84 ?_
                refine lv_iload_n hx hb dM_search_87 rfl (lv_at hl 1 rfl) ?_
                refine lv_iconst (v := 1) hx hb dM_search_88 (by decide) ?_
                refine va_iast hx hb hK hP hD hS 6 5 rfl rfl (vp_in_nI (by omega) (by decide)) dM_search_89 (fun H locs hP hD hS => ?_)
                rw [show upd g (nI v).toNatClampNeg 1 = upd g v 1 from by rw [nI_clamp (by omega)]] at hP hD
                have hP : va_P (dC, dI) vwCl [(g0, .inr (2, [.int co, .int (nI nv), .int (nI nc), .ref aL, .int (nI us), .ref aS, .int (nI dr), .ref aF, .ref aN, .ref aA, .int (nI as), .ref aO, .ref aV, .int la, .int bl, .ref aT, .int (nI th)])), (aL, .inl (kL, 4000, .inl lf)), (aS, .inl (kS, 501, .inl sf)), (aF, .inl (kF, 17, .inl ff)), (aN, .inl (kN, 500, .inl nf)), (aO, .inl (kO, 16, .inl of)), (aV, .inl (kV, 16, .inl (upd g v 1)))] H := hP
                have hD : va_D A [(g0, .inr (2, [.int co, .int (nI nv), .int (nI nc), .ref aL, .int (nI us), .ref aS, .int (nI dr), .ref aF, .ref aN, .ref aA, .int (nI as), .ref aO, .ref aV, .int la, .int bl, .ref aT, .int (nI th)])), (aL, .inl (kL, 4000, .inl lf)), (aS, .inl (kS, 501, .inl sf)), (aF, .inl (kF, 17, .inl ff)), (aN, .inl (kN, 500, .inl nf)), (aO, .inl (kO, 16, .inl of)), (aV, .inl (kV, 16, .inl (upd g v 1)))] := hD
                have hV2 : sv_V (upd g v 1) (se_u va v 1) := sv_Vu (x := 1) hV (by decide)
                refine lv_aload_n hx hb dM_search_90 rfl (lv_at hl 0 rfl) ?_
                refine lv_iload_n hx hb dM_search_91 rfl (lv_at hl 1 rfl) ?_
                have hFc := va_free (wc := [(g0, .inr (2, [.int co, .int (nI nv), .int (nI nc), .ref aL, .int (nI us), .ref aS, .int (nI dr), .ref aF, .ref aN, .ref aA, .int (nI as), .ref aO, .ref aV, .int la, .int bl, .ref aT, .int (nI th)])), (aL, .inl (kL, 4000, .inl lf)), (aS, .inl (kS, 501, .inl sf)), (aF, .inl (kF, 17, .inl ff)), (aN, .inl (kN, 500, .inl nf)), (aV, .inl (kV, 16, .inl (upd g v 1)))]) hD hS hA [0, 1, 2, 3, 4, 6] rfl
                refine wc_i (wc_V (As := [.int (nI v)]) (rest := []) (n := 1) SF (k_M_isRight l dC dI tI _ g0 aL aS aF aN aA aO aV aT kL kS kF kN kV lf sf ff nf (upd g v 1) nv nc us dr as th co la bl v (by omega) lit st (se_u va v 1) (ch v) (hch v (by omega)).1 (hch v (by omega)).2 hV2) ml_M_66 im_M_isRight se_M_isRight in_M co_M_isRight (by decide +kernel) rfl rfl rfl ⟨Nat.le_of_ble_eq_true rfl, Nat.le_of_ble_eq_true rfl⟩ (va_recv (hK.sub (tys' := []) [] rfl) (hP.sub (ws' := [(g0, .inr (2, [.int co, .int (nI nv), .int (nI nc), .ref aL, .int (nI us), .ref aS, .int (nI dr), .ref aF, .ref aN, .ref aA, .int (nI as), .ref aO, .ref aV, .int la, .int bl, .ref aT, .int (nI th)])), (aL, .inl (kL, 4000, .inl lf)), (aS, .inl (kS, 501, .inl sf)), (aF, .inl (kF, 17, .inl ff)), (aN, .inl (kN, 500, .inl nf)), (aV, .inl (kV, 16, .inl (upd g v 1)))]) [0, 1, 2, 3, 4, 6] rfl) (ci := 2) (q0 := 0) rfl rfl) (hP.sub [0, 1, 2, 3, 4, 6] rfl) (hD.sub [0, 1, 2, 3, 4, 6] (by decide) rfl) (hK.sub [0, 1, 2, 3, 5] rfl) hZ hX hS hFc rfl hl.1 (Nat.le_of_ble_eq_true rfl) dM_search_92 ⟨Nat.le_of_ble_eq_true rfl, Nat.le_of_ble_eq_true rfl⟩) hP hD hS hFc [0, 1, 2, 3, 4, 6] [5] (wr := [(aO, .inl (kO, 16, .inl of))]) rfl rfl rfl (by decide) (fun z uu H locs hw hP hD hS => ?_)
                have hP : va_P (dC, dI) vwCl [(g0, .inr (2, [.int co, .int (nI nv), .int (nI nc), .ref aL, .int (nI us), .ref aS, .int (nI dr), .ref aF, .ref aN, .ref aA, .int (nI as), .ref aO, .ref aV, .int la, .int bl, .ref aT, .int (nI th)])), (aL, .inl (kL, 4000, .inl lf)), (aS, .inl (kS, 501, .inl sf)), (aF, .inl (kF, 17, .inl ff)), (aN, .inl (kN, 500, .inl nf)), (aO, .inl (kO, 16, .inl of)), (aV, .inl (kV, 16, .inl (upd g v 1)))] H := hP.sub [1, 2, 3, 4, 5, 0, 6] rfl
                have hD : va_D A [(g0, .inr (2, [.int co, .int (nI nv), .int (nI nc), .ref aL, .int (nI us), .ref aS, .int (nI dr), .ref aF, .ref aN, .ref aA, .int (nI as), .ref aO, .ref aV, .int la, .int bl, .ref aT, .int (nI th)])), (aL, .inl (kL, 4000, .inl lf)), (aS, .inl (kS, 501, .inl sf)), (aF, .inl (kF, 17, .inl ff)), (aN, .inl (kN, 500, .inl nf)), (aO, .inl (kO, 16, .inl of)), (aV, .inl (kV, 16, .inl (upd g v 1)))] := hD.sub [1, 2, 3, 4, 5, 0, 6] (by decide) rfl
                refine lv_if_ne (tgt := 102) hx hb dM_search_95 (by decide) (fun c7 => ?_) (fun c7 => ?_)
                · have hR : se_R lit st ch v (se_u va v 1) := by
                    rcases hw with ⟨_, h⟩ | ⟨h, _⟩
                    · exact h
                    · exact absurd h c7
                  refine lv_iconst (v := 0) hx hb dM_search_102 (by decide) ?_
                  refine lv_istore_n (lv' := [(2, .int 0), (0, .ref g0), (1, .int (nI v))]) hx hb dM_search_103 rfl hl (by decide) rfl (fun ls hl => ?_)
                  refine lv_iload_n hx hb dM_search_104 rfl (lv_at hl 0 rfl) ?_
                  refine lv_if_eq (tgt := 112) hx hb dM_search_105 (by decide) (fun c8 => ?_) (fun c8 => ?_)
                  · refine lv_iload_n hx hb dM_search_112 rfl (lv_at hl 2 rfl) ?_
                    refine lv_iconst (v := 1) hx hb dM_search_113 (by decide) ?_
                    refine lv_iadd hx hb dM_search_114 ?_
                    refine ls_topi (y := nI (v + 1)) (nI_1 _) ?_
                    refine lv_istore_n (lv' := [(1, .int (nI (v + 1))), (2, .int 0), (0, .ref g0)]) hx hb dM_search_115 rfl hl (by decide) rfl (fun ls hl => ?_)
                    refine lv_goto (tgt := 17) hx hb dM_search_116 (by decide) ?_
                    exact ih (v + 1, 0, upd g v 1, se_u va v 1) _ _ _ ((se_m2 c2 (by omega)).1) ⟨⟨hV2, Or.inl ⟨rfl, by omega, se_up f1 f2 hR f3⟩⟩, hP, hD, hS, lv_sub hl [2, 0, 1] rfl⟩
                  · exact absurd rfl c8
                · have hR : ¬ se_R lit st ch v (se_u va v 1) := by
                    rcases hw with ⟨h, _⟩ | ⟨_, c, h1, h2⟩
                    · rw [h] at c7; exact absurd c7 (by decide)
                    · exact fun q => h2 (q c h1)
                  refine lv_iconst (v := 1) hx hb dM_search_98 (by decide) ?_
                  refine lv_goto (tgt := 103) hx hb dM_search_99 (by decide) ?_
                  refine lv_istore_n (lv' := [(2, .int 1), (0, .ref g0), (1, .int (nI v))]) hx hb dM_search_103 rfl hl (by decide) rfl (fun ls hl => ?_)
                  refine lv_iload_n hx hb dM_search_104 rfl (lv_at hl 0 rfl) ?_
                  refine lv_if_eq (tgt := 112) hx hb dM_search_105 (by decide) (fun c8 => ?_) (fun c8 => ?_)
                  · exact absurd c8 (by decide)
                  · refine lv_iload_n hx hb dM_search_108 rfl (lv_at hl 2 rfl) ?_
                    refine lv_goto (tgt := 115) hx hb dM_search_109 (by decide) ?_
                    refine lv_istore_n (lv' := [(1, .int (nI v)), (2, .int 1), (0, .ref g0)]) hx hb dM_search_115 rfl hl (by decide) rfl (fun ls hl => ?_)
                    refine lv_goto (tgt := 17) hx hb dM_search_116 (by decide) ?_
                    exact ih (v, 1, upd g v 1, se_u va v 1) _ _ _ ((se_m2 c2 (by omega)).2) ⟨⟨hV2, Or.inr ⟨rfl, by omega, se_no hdp (by omega) f1 f2 hR f3⟩⟩, hP, hD, hS, lv_sub hl [2, 0, 1] rfl⟩
              · have hno := Or.inr (a := va v = 1) c5
                rcases Nat.eq_zero_or_pos v with v0 | v0
                · subst v0
                  refine lv_iinc (v := (-1)) (lv' := [(1, .int (-1)), (0, .ref g0), (2, .int (nI 1))]) hx hb dM_search_77 hl (k := 1) rfl (by decide) (by decide) rfl (fun ls hl => ?_)
                  refine lv_goto (tgt := 17) hx hb dM_search_80 (by decide) ?_
                  refine lv_iload_n hx hb dM_search_17 rfl (lv_at hl 0 rfl) ?_
                  refine lv_if_lt (tgt := 119) hx hb dM_search_18 (by decide) (fun c8 => ?_) (fun c8 => ?_)
                  · refine lv_iload_n hx hb dM_search_119 rfl (lv_at hl 0 rfl) ?_
                    refine lv_aload_n hx hb dM_search_120 rfl (lv_at hl 1 rfl) ?_
                    refine va_get (D := (dC, dI)) (ci := 2) (v := .int (nI nv)) (C := RM) (T := TM) (N := 17) hx hb hts lyM hown hK hP 0 rfl rfl 1 (by decide) (hts _ fl_M_41) (fun _ h9 => h9) rfl dM_search_121 ?_
                    refine lv_icmp_ne (tgt := 131) hx hb dM_search_124 (by decide) (fun c9 => ?_) (fun c9 => ?_)
                    · refine lv_iconst (v := 0) hx hb dM_search_131 (by decide) ?_
                      exact (W.zret (v := 0) hx hb hr (rfl) (fun t ht hW => ⟨⟨0, (g, va), rfl, ⟨hV, sv_no (fun b hb => se_none c2 hSB hno b hb (fun i hi => absurd hi (Nat.not_lt_zero _)))⟩, by rw [ht]; exact hP, va_K.moved hW.alike hK, hD⟩, hS.F ht⟩) hS.2.2 dM_search_132)
                    · exact absurd (nI_pos (n := nv) (by omega)) (by rw [← c9]; decide)
                  · exact absurd (by decide) c8
                · obtain ⟨v1, rfl⟩ : ∃ v1, v = v1 + 1 := ⟨v - 1, by omega⟩
                  refine lv_iinc (v := nI v1) (lv' := [(1, .int (nI v1)), (0, .ref g0), (2, .int (nI 1))]) hx hb dM_search_77 hl (k := 1) rfl (pk_m1 v1) (by decide) rfl (fun ls hl => ?_)
                  refine lv_goto (tgt := 17) hx hb dM_search_80 (by decide) ?_
                  exact ih (v1, 1, g, va) _ _ _ (se_m3) ⟨⟨hV, Or.inr ⟨rfl, by omega, se_down c2 hSB hno⟩⟩, hP, hD, hS, lv_sub hl [1, 0, 2] rfl⟩
          · have c3 : 1 = 0 := (nI_eq (a := 1) (b := 0) (by omega) (by omega)).mp c3
            exact absurd c3 (by decide)
  · refine lv_iconst (v := 0) hx hb dM_search_11 (by decide) ?_
    exact (W.zret (v := 0) hx hb hr (rfl) (fun t ht hW => ⟨⟨0, (vf, vv0), rfl, ⟨hV0, sv_no (fun b hb => c1 (h16.mpr hb.1))⟩, by rw [ht]; exact hP, va_K.moved hW.alike hK, hD⟩, hS.F ht⟩) hS.2.2 dM_search_12)
end
section
def litT (L : Nat) (b : Nat → Nat) : Prop := b (L / 2) = 1 - L % 2
def is_I (nv : Nat) (an : Nat → Nat) (k : Nat) (of : Nat → Int32) (rt : Nat) : Prop := (∀ v, v < nv → of v = -1 ∨ of v = 0 ∨ of v = 1) ∧ ((rt = 1 ∧ ∀ b : Nat → Nat, (∀ v, v < nv → b v ≤ 1) → (sv_Q nv of b ↔ ∀ i, i < k → litT (an i) b)) ∨ (rt = 0 ∧ ∀ b : Nat → Nat, (∀ v, v < nv → b v ≤ 1) → ¬ ∀ i, i < k → litT (an i) b))
theorem is_v {nv L : Nat} {of : Nat → Int32} (h : ∀ v, v < nv → of v = -1 ∨ of v = 0 ∨ of v = 1) : ∀ v, v < nv → upd of (L / 2) (nI (1 - L % 2)) v = -1 ∨ upd of (L / 2) (nI (1 - L % 2)) v = 0 ∨ upd of (L / 2) (nI (1 - L % 2)) v = 1 := by
  intro v hv
  unfold upd
  by_cases q : v = L / 2
  · rw [if_pos q]
    rcases Nat.mod_two_eq_zero_or_one L with e | e
    · rw [e]; exact Or.inr (Or.inr rfl)
    · rw [e]; exact Or.inr (Or.inl rfl)
  · rw [if_neg q]; exact h v hv
theorem is_u {nv L : Nat} {of : Nat → Int32} (hL : L / 2 < nv) (h : of (L / 2) = -1 ∨ of (L / 2) = nI (1 - L % 2)) {b : Nat → Nat} (hb : ∀ v, v < nv → b v ≤ 1) : sv_Q nv (upd of (L / 2) (nI (1 - L % 2))) b ↔ sv_Q nv of b ∧ litT L b := by
  have hne : ¬ nI (1 - L % 2) = -1 := fun q => absurd (nI_pos (n := 1 - L % 2) (by omega)) (by rw [q]; decide)
  have hbl := hb (L / 2) hL
  constructor
  · intro q
    have hT : litT L b := by
      have q1 := q (L / 2) hL
      unfold upd at q1
      rw [if_pos rfl] at q1
      exact ((nI_eq (by omega) (by omega)).mp (q1.resolve_left hne)).symm
    refine ⟨fun v hv => ?_, hT⟩
    by_cases e : v = L / 2
    · rw [e]
      rcases h with h | h
      · exact Or.inl h
      · exact Or.inr (by rw [h, show b (L / 2) = 1 - L % 2 from hT])
    · have q1 := q v hv
      unfold upd at q1
      rw [if_neg e] at q1
      exact q1
  · rintro ⟨q, hT⟩ v hv
    unfold upd
    by_cases e : v = L / 2
    · rw [if_pos e, e]; exact Or.inr (by rw [show b (L / 2) = 1 - L % 2 from hT])
    · rw [if_neg e]; exact q v hv
theorem is_lt {k : Nat} {P : Nat → Prop} : (∀ i, i < k + 1 → P i) ↔ (∀ i, i < k → P i) ∧ P k := by
  constructor
  · intro h; exact ⟨fun i hi => h i (by omega), h k (by omega)⟩
  · rintro ⟨h1, h2⟩ i hi
    rcases Nat.lt_or_ge i k with q | q
    · exact h1 i q
    · rw [show i = k by omega]; exact h2
theorem is_0 {nv : Nat} {an : Nat → Nat} {of : Nat → Int32} (h : ∀ v, v < nv → of v = -1) : is_I nv an 0 of 1 := ⟨fun v hv => Or.inl (h v hv), Or.inl ⟨rfl, fun b _ => ⟨fun _ i hi => absurd hi (Nat.not_lt_zero _), fun _ v hv => Or.inl (h v hv)⟩⟩⟩
theorem is_ok {nv : Nat} {an : Nat → Nat} {k : Nat} {of : Nat → Int32} (hI : is_I nv an k of 1) (hL : an k / 2 < nv) (h : of (an k / 2) = -1 ∨ of (an k / 2) = nI (1 - an k % 2)) : is_I nv an (k + 1) (upd of (an k / 2) (nI (1 - an k % 2))) 1 := by
  obtain ⟨h1, h2⟩ := hI
  have h2' := (h2.resolve_right (fun q => absurd q.1 (by decide))).2
  refine ⟨is_v h1, Or.inl ⟨rfl, fun b hb => ?_⟩⟩
  rw [is_u hL h hb, h2' b hb, is_lt (P := fun i => litT (an i) b)]
theorem is_bad {nv : Nat} {an : Nat → Nat} {k : Nat} {of : Nat → Int32} (hI : is_I nv an k of 1) (hL : an k / 2 < nv) (h : ¬ of (an k / 2) = -1) (h' : ¬ of (an k / 2) = nI (1 - an k % 2)) : is_I nv an (k + 1) (upd of (an k / 2) (nI (1 - an k % 2))) 0 := by
  obtain ⟨h1, h2⟩ := hI
  have h2' := (h2.resolve_right (fun q => absurd q.1 (by decide))).2
  refine ⟨is_v h1, Or.inr ⟨rfl, fun b hb q => ?_⟩⟩
  obtain ⟨q1, q2⟩ := is_lt.mp q
  have q3 := ((h2' b hb).mpr q1 (an k / 2) hL).resolve_left h
  exact h' (by rw [q3, show b (an k / 2) = 1 - an k % 2 from q2])
theorem is_keep {nv : Nat} {an : Nat → Nat} {k : Nat} {of : Nat → Int32} (hI : is_I nv an k of 0) : is_I nv an (k + 1) (upd of (an k / 2) (nI (1 - an k % 2))) 0 := by
  obtain ⟨h1, h2⟩ := hI
  have h2' := (h2.resolve_left (fun q => absurd q.1 (by decide))).2
  exact ⟨is_v h1, Or.inr ⟨rfl, fun b hb q => h2' b hb (is_lt.mp q).1⟩⟩
theorem sv_Pc {N : Nat} {lit st : Nat → Nat} {ch : Nat → List Nat} {Q Q' : (Nat → Nat) → Prop} {r : Int32} {a : Nat → Nat} (h : ∀ b, se_0 N lit st ch b → (Q b ↔ Q' b)) (hp : sv_P N lit st ch Q r a) : sv_P N lit st ch Q' r a := by
  rcases hp with ⟨h1, h2, h3, h4⟩ | ⟨h1, h2⟩
  · exact Or.inl ⟨h1, h2, (h a h2).mp h3, fun v hv e b hb hQ => h4 v hv e b hb ((h b hb).mpr hQ)⟩
  · exact Or.inr ⟨h1, fun b hb hQ => h2 b hb ((h b hb).mpr hQ)⟩
def sv_A (an : Nat → Nat) (k : Nat) (b : Nat → Nat) : Prop := ∀ i, i < k → litT (an i) b
theorem is_end {nv : Nat} {an : Nat → Nat} {k : Nat} {of : Nat → Int32} {lit st : Nat → Nat} {ch : Nat → List Nat} {r : Int32} {a : Nat → Nat} (hI : is_I nv an k of 1) (hp : sv_P nv lit st ch (sv_Q nv of) r a) : sv_P nv lit st ch (sv_A an k) r a :=
  sv_Pc (fun b hb => (hI.2.resolve_right (fun q => absurd q.1 (by decide))).2 b (fun v hv => (hb.2 v hv).2)) hp
theorem is_none {nv : Nat} {an : Nat → Nat} {k : Nat} {of : Nat → Int32} {lit st : Nat → Nat} {ch : Nat → List Nat} {a : Nat → Nat} (hI : is_I nv an k of 0) : sv_P nv lit st ch (sv_A an k) 0 a :=
  Or.inr ⟨rfl, fun b hb => (hI.2.resolve_left (fun q => absurd q.1 (by decide))).2 b (fun v hv => (hb.2 v hv).2)⟩
def sv_sat (N : Nat) (lit st : Nat → Nat) (ch : Nat → List Nat) (Q : (Nat → Nat) → Prop) : Prop := ∃ b, se_0 N lit st ch b ∧ Q b
theorem sv_P1 {N : Nat} {lit st : Nat → Nat} {ch : Nat → List Nat} {Q : (Nat → Nat) → Prop} {r : Int32} {a : Nat → Nat} (h : sv_P N lit st ch Q r a) (hr : ¬ r = 0) : r = 1 ∧ sv_sat N lit st ch Q := by
  rcases h with ⟨h1, h2, h3, _⟩ | ⟨h1, _⟩
  · exact ⟨h1, a, h2, h3⟩
  · exact absurd h1 hr
theorem sv_P0 {N : Nat} {lit st : Nat → Nat} {ch : Nat → List Nat} {Q : (Nat → Nat) → Prop} {r : Int32} {a : Nat → Nat} (h : sv_P N lit st ch Q r a) (hr : r = 0) : ¬ sv_sat N lit st ch Q := by
  rcases h with ⟨h1, _⟩ | ⟨_, h2⟩
  · rw [h1] at hr; exact absurd hr (by decide)
  · rintro ⟨b, hb, hq⟩; exact h2 b hb hq
theorem sv_P01 {N : Nat} {lit st : Nat → Nat} {ch : Nat → List Nat} {Q : (Nat → Nat) → Prop} {r : Int32} {a : Nat → Nat} (h : sv_P N lit st ch Q r a) : r = 1 ∨ r = 0 := by
  rcases h with ⟨h1, _⟩ | ⟨h1, _⟩
  · exact Or.inl h1
  · exact Or.inr h1
def sx : Nat → Int32
  | 0 => -1
  | m + 1 => nI m
/-- one forced literal -/
theorem fq_1 {nv L : Nat} {of : Nat → Int32} (hL : L / 2 < nv) (h : ∀ v, v < nv → of v = -1) {lit st : Nat → Nat} {ch : Nat → List Nat} {r : Int32} {a : Nat → Nat} (hp : sv_P nv lit st ch (sv_Q nv (upd of (L / 2) (nI (1 - L % 2)))) r a) : sv_P nv lit st ch (litT L) r a :=
  sv_Pc (fun b hb => by
    rw [is_u hL (Or.inl (h _ hL)) (fun v hv => (hb.2 v hv).2)]
    exact ⟨fun q => q.2, fun q => ⟨fun v hv => Or.inl (h v hv), q⟩⟩) hp
end
section
theorem mu_half {L nv : Nat} (h : L < 2 * nv) : mu_x L / 2 < nv := by unfold mu_x; split <;> omega
theorem sx_m1 (k : Nat) : nI k + Int32.ofInt (-1) = sx k := by
  cases k with
  | zero => decide
  | succ k => exact pk_m1 k
set_option maxHeartbeats 4000000 in
set_option maxRecDepth 100000 in
theorem k_M_isSolved (l : Launch) (dC : Nat → ClassId) (dI : Nat → Nat → Nat) (tI sz : Nat) (g0 aL aS aF aN aA aO aV aT : Nat) (kL kS kF kN kA kO kV : ClassId) (lf sf ff nf af of vf : Nat → Int32) (nv nc us dr as th : Nat) (co la bl : Int32) (lit st vv0 : Nat → Nat) (ch : Nat → List Nat) (hnv : nv ≤ 16) (hch : ∀ v, v < nv → lm_ch nf (ff v) (ch v) ∧ lm_C lf sf lit st (ch v)) (h16 : ff 16 = -1 ↔ ch 16 = []) (hdp : se_D nv lit st ch) (an : Nat → Nat) (has : as ≤ 64) (han : ∀ j, j < as → af j = nI (an j) ∧ an j < 2 * nv) (hV0 : sv_V vf vv0) (M : Nat) (hM : M ≤ as) : Met l yM_isSolved (Cond.code yM_isSolved cM_isSolved 4 (some .boolean) :: GG) (lvr 2 0 0) (va_Pc [.ref g0, .int (nI M)] (wPre dC dI [(kL, .int), (kS, .int), (kF, .int), (kN, .int), (kA, .int), (kO, .int), (kV, .int)] [(g0, .inr (2, [.int co, .int (nI nv), .int (nI nc), .ref aL, .int (nI us), .ref aS, .int (nI dr), .ref aF, .ref aN, .ref aA, .int (nI as), .ref aO, .ref aV, .int la, .int bl, .ref aT, .int (nI th)])), (aL, .inl (kL, 4000, .inl lf)), (aS, .inl (kS, 501, .inl sf)), (aF, .inl (kF, 17, .inl ff)), (aN, .inl (kN, 500, .inl nf)), (aA, .inl (kA, 64, .inl af)), (aO, .inl (kO, 16, .inl of)), (aV, .inl (kV, 16, .inl vf))] sz tI)) (va_Qi (fun (r : Int32) (u : (Nat → Int32) × (Nat → Int32) × (Nat → Nat)) => sv_V u.2.1 u.2.2 ∧ sv_P nv lit st ch (sv_A an M) r u.2.2) (fun u t => wB dC dI [(kL, .int), (kS, .int), (kF, .int), (kN, .int), (kA, .int), (kO, .int), (kV, .int)] (va_A [(g0, .inr (2, [.int co, .int (nI nv), .int (nI nc), .ref aL, .int (nI us), .ref aS, .int (nI dr), .ref aF, .ref aN, .ref aA, .int (nI as), .ref aO, .ref aV, .int la, .int bl, .ref aT, .int (nI th)])), (aL, .inl (kL, 4000, .inl lf)), (aS, .inl (kS, 501, .inl sf)), (aF, .inl (kF, 17, .inl ff)), (aN, .inl (kN, 500, .inl nf)), (aA, .inl (kA, 64, .inl af)), (aO, .inl (kO, 16, .inl of)), (aV, .inl (kV, 16, .inl vf))] sz) [(g0, .inr (2, [.int co, .int (nI nv), .int (nI nc), .ref aL, .int (nI us), .ref aS, .int (nI dr), .ref aF, .ref aN, .ref aA, .int (nI as), .ref aO, .ref aV, .int la, .int bl, .ref aT, .int (nI th)])), (aL, .inl (kL, 4000, .inl lf)), (aS, .inl (kS, 501, .inl sf)), (aF, .inl (kF, 17, .inl ff)), (aN, .inl (kN, 500, .inl nf)), (aA, .inl (kA, 64, .inl af)), (aO, .inl (kO, 16, .inl u.1)), (aV, .inl (kV, 16, .inl u.2.1))] t) (va_A [(g0, .inr (2, [.int co, .int (nI nv), .int (nI nc), .ref aL, .int (nI us), .ref aS, .int (nI dr), .ref aF, .ref aN, .ref aA, .int (nI as), .ref aO, .ref aV, .int la, .int bl, .ref aT, .int (nI th)])), (aL, .inl (kL, 4000, .inl lf)), (aS, .inl (kS, 501, .inl sf)), (aF, .inl (kF, 17, .inl ff)), (aN, .inl (kN, 500, .inl nf)), (aA, .inl (kA, 64, .inl af)), (aO, .inl (kO, 16, .inl of)), (aV, .inl (kV, 16, .inl vf))] sz)) 0 0 (va_A [(g0, .inr (2, [.int co, .int (nI nv), .int (nI nc), .ref aL, .int (nI us), .ref aS, .int (nI dr), .ref aF, .ref aN, .ref aA, .int (nI as), .ref aO, .ref aV, .int la, .int bl, .ref aT, .int (nI th)])), (aL, .inl (kL, 4000, .inl lf)), (aS, .inl (kS, 501, .inl sf)), (aF, .inl (kF, 17, .inl ff)), (aN, .inl (kN, 500, .inl nf)), (aA, .inl (kA, 64, .inl af)), (aO, .inl (kO, 16, .inl of)), (aV, .inl (kV, 16, .inl vf))] sz) := by
  refine Met.ofW (cc := cM_isSolved) (maxL := 4) (ret := (some .boolean)) (by decide) rfl ?_
  intro p e s m args below meth c s₁ B hml hv
  obtain ⟨rfl, hsz, hP, hK, hD0, hZ, hX⟩ := hv
  have hx := B.exec
  have hb := B.bytes
  have hr := B.returns
  have hts : ∀ w ∈ GG, w.before ([.ref g0, .int (nI M)] : List Value).toArray s = true := fun w h => atoms_spec (ws := _ :: GG) B.pre w (List.mem_cons_of_mem _ h)
  have hown : s.vm.findClass RM = some m.cls := findClass_of_methodNamed B.named
  have hlocks := B.notSynchronized
  subst hsz
  have hD := hD0.self (sz := s.heap.size)
  generalize hAe : va_A [(g0, .inr (2, [.int co, .int (nI nv), .int (nI nc), .ref aL, .int (nI us), .ref aS, .int (nI dr), .ref aF, .ref aN, .ref aA, .int (nI as), .ref aO, .ref aV, .int la, .int bl, .ref aT, .int (nI th)])), (aL, .inl (kL, 4000, .inl lf)), (aS, .inl (kS, 501, .inl sf)), (aF, .inl (kF, 17, .inl ff)), (aN, .inl (kN, 500, .inl nf)), (aA, .inl (kA, 64, .inl af)), (aO, .inl (kO, 16, .inl of)), (aV, .inl (kV, 16, .inl vf))] s.heap.size = A at hD hZ ⊢
  have hA : ∀ q : Nat, s.heap.size ≤ q → A q := fun q h => by rw [← hAe]; exact Or.inr h
  have hS : va_S A s.heap s.heap [] := va_S.rf
  have hl := lv_entry ([.ref g0, .int (nI M)]) (n := 4) (Nat.le_of_ble_eq_true rfl)
  rw [lg_entry_eq]
  generalize (lg_sl ([.ref g0, .int (nI M)]) ++ List.replicate (4 - (lg_sl ([.ref g0, .int (nI M)])).length) Slot.unset).toArray = ls at hl ⊢
  have hl : lv_has ls 4 [(0, .ref g0), (1, .int (nI M))] := hl
  have SF : CallFix p m c cM_isSolved 4 s ([.ref g0, .int (nI M)] : List Value).toArray GG RM := ⟨hx, hb, hml, hown, hts⟩
  skip
  have hP : va_P (dC, dI) vwCl [(g0, .inr (2, [.int co, .int (nI nv), .int (nI nc), .ref aL, .int (nI us), .ref aS, .int (nI dr), .ref aF, .ref aN, .ref aA, .int (nI as), .ref aO, .ref aV, .int la, .int bl, .ref aT, .int (nI th)])), (aL, .inl (kL, 4000, .inl lf)), (aS, .inl (kS, 501, .inl sf)), (aF, .inl (kF, 17, .inl ff)), (aN, .inl (kN, 500, .inl nf)), (aA, .inl (kA, 64, .inl af)), (aO, .inl (kO, 16, .inl of)), (aV, .inl (kV, 16, .inl vf))] s.heap := hP
  refine lv_aload_n hx hb dM_isSolved_0 rfl (lv_at hl 0 rfl) ?_
  have hFc := va_free (wc := [(g0, .inr (2, [.int co, .int (nI nv), .int (nI nc), .ref aL, .int (nI us), .ref aS, .int (nI dr), .ref aF, .ref aN, .ref aA, .int (nI as), .ref aO, .ref aV, .int la, .int bl, .ref aT, .int (nI th)])), (aO, .inl (kO, 16, .inl of))]) hD hS hA [0, 6] rfl
  refine wc_v (wc_V (As := []) (rest := []) (n := 0) SF (k_M_free l dC dI tI _ g0 aL aS aF aN aA aO aV aT kO of nv nc us dr as th co la bl hnv) ml_M_69 im_M_free se_M_free in_M co_M_free (by decide +kernel) rfl rfl rfl ⟨Nat.le_of_ble_eq_true rfl, Nat.le_of_ble_eq_true rfl⟩ (va_recv (hK.sub (tys' := []) [] rfl) (hP.sub (ws' := [(g0, .inr (2, [.int co, .int (nI nv), .int (nI nc), .ref aL, .int (nI us), .ref aS, .int (nI dr), .ref aF, .ref aN, .ref aA, .int (nI as), .ref aO, .ref aV, .int la, .int bl, .ref aT, .int (nI th)])), (aO, .inl (kO, 16, .inl of))]) [0, 6] rfl) (ci := 2) (q0 := 0) rfl rfl) (hP.sub [0, 6] rfl) (hD.sub [0, 6] (by decide) rfl) (hK.sub [5] rfl) hZ hX hS hFc rfl hl.1 (Nat.le_of_ble_eq_true rfl) dM_isSolved_1 ⟨Nat.le_of_ble_eq_true rfl, Nat.le_of_ble_eq_true rfl⟩) hP hD hS hFc [0, 6] [1, 2, 3, 4, 5, 7] (wr := [(aL, .inl (kL, 4000, .inl lf)), (aS, .inl (kS, 501, .inl sf)), (aF, .inl (kF, 17, .inl ff)), (aN, .inl (kN, 500, .inl nf)), (aA, .inl (kA, 64, .inl af)), (aV, .inl (kV, 16, .inl vf))]) rfl rfl rfl (by decide) (fun o1 H locs hw hP hD hS => ?_)
  have hP : va_P (dC, dI) vwCl [(g0, .inr (2, [.int co, .int (nI nv), .int (nI nc), .ref aL, .int (nI us), .ref aS, .int (nI dr), .ref aF, .ref aN, .ref aA, .int (nI as), .ref aO, .ref aV, .int la, .int bl, .ref aT, .int (nI th)])), (aL, .inl (kL, 4000, .inl lf)), (aS, .inl (kS, 501, .inl sf)), (aF, .inl (kF, 17, .inl ff)), (aN, .inl (kN, 500, .inl nf)), (aA, .inl (kA, 64, .inl af)), (aO, .inl (kO, 16, .inl o1)), (aV, .inl (kV, 16, .inl vf))] H := hP.sub [6, 0, 1, 2, 3, 4, 7, 5] rfl
  have hD : va_D A [(g0, .inr (2, [.int co, .int (nI nv), .int (nI nc), .ref aL, .int (nI us), .ref aS, .int (nI dr), .ref aF, .ref aN, .ref aA, .int (nI as), .ref aO, .ref aV, .int la, .int bl, .ref aT, .int (nI th)])), (aL, .inl (kL, 4000, .inl lf)), (aS, .inl (kS, 501, .inl sf)), (aF, .inl (kF, 17, .inl ff)), (aN, .inl (kN, 500, .inl nf)), (aA, .inl (kA, 64, .inl af)), (aO, .inl (kO, 16, .inl o1)), (aV, .inl (kV, 16, .inl vf))] := hD.sub [6, 0, 1, 2, 3, 4, 7, 5] (by decide) rfl
  refine lv_iconst (v := 1) hx hb dM_isSolved_4 (by decide) ?_
  refine lv_istore_n (lv' := [(2, .int 1), (0, .ref g0), (1, .int (nI M))]) hx hb dM_isSolved_5 rfl hl (by decide) rfl (fun ls hl => ?_)
  refine lv_iconst (v := 0) hx hb dM_isSolved_6 (by decide) ?_
  refine lv_istore_n (lv' := [(3, .int 0), (2, .int 1), (0, .ref g0), (1, .int (nI M))]) hx hb dM_isSolved_7 rfl hl (by decide) rfl (fun ls hl => ?_)
  refine lp_mu (α := Nat × (Nat → Int32) × Nat) (fun a_ => match a_ with | (k, o, rt) => M - k) (fun a_ H locs ls => match a_ with | (k, o, rt) => (k ≤ M ∧ is_I nv an k o rt) ∧ va_P (dC, dI) vwCl [(g0, .inr (2, [.int co, .int (nI nv), .int (nI nc), .ref aL, .int (nI us), .ref aS, .int (nI dr), .ref aF, .ref aN, .ref aA, .int (nI as), .ref aO, .ref aV, .int la, .int bl, .ref aT, .int (nI th)])), (aL, .inl (kL, 4000, .inl lf)), (aS, .inl (kS, 501, .inl sf)), (aF, .inl (kF, 17, .inl ff)), (aN, .inl (kN, 500, .inl nf)), (aA, .inl (kA, 64, .inl af)), (aO, .inl (kO, 16, .inl o)), (aV, .inl (kV, 16, .inl vf))] H ∧ va_D A [(g0, .inr (2, [.int co, .int (nI nv), .int (nI nc), .ref aL, .int (nI us), .ref aS, .int (nI dr), .ref aF, .ref aN, .ref aA, .int (nI as), .ref aO, .ref aV, .int la, .int bl, .ref aT, .int (nI th)])), (aL, .inl (kL, 4000, .inl lf)), (aS, .inl (kS, 501, .inl sf)), (aF, .inl (kF, 17, .inl ff)), (aN, .inl (kN, 500, .inl nf)), (aA, .inl (kA, 64, .inl af)), (aO, .inl (kO, 16, .inl o)), (aV, .inl (kV, 16, .inl vf))] ∧ va_S A s.heap H locs ∧ lv_has ls 4 [(0, .ref g0), (1, .int (nI M)), (2, .int (nI rt)), (3, .int (nI k))]) ?_ (0, o1, 1) ⟨⟨Nat.zero_le _, is_0 hw⟩, hP, hD, hS, lv_sub hl [2, 3, 1, 0] rfl⟩
  intro a_ H locs ls hI ih
  obtain ⟨k, o, rt⟩ := a_
  obtain ⟨hI, hP, hD, hS, hl⟩ := hI
  have hI : k ≤ M ∧ is_I nv an k o rt := hI
  have hP : va_P (dC, dI) vwCl [(g0, .inr (2, [.int co, .int (nI nv), .int (nI nc), .ref aL, .int (nI us), .ref aS, .int (nI dr), .ref aF, .ref aN, .ref aA, .int (nI as), .ref aO, .ref aV, .int la, .int bl, .ref aT, .int (nI th)])), (aL, .inl (kL, 4000, .inl lf)), (aS, .inl (kS, 501, .inl sf)), (aF, .inl (kF, 17, .inl ff)), (aN, .inl (kN, 500, .inl nf)), (aA, .inl (kA, 64, .inl af)), (aO, .inl (kO, 16, .inl o)), (aV, .inl (kV, 16, .inl vf))] H := hP
  have hD : va_D A [(g0, .inr (2, [.int co, .int (nI nv), .int (nI nc), .ref aL, .int (nI us), .ref aS, .int (nI dr), .ref aF, .ref aN, .ref aA, .int (nI as), .ref aO, .ref aV, .int la, .int bl, .ref aT, .int (nI th)])), (aL, .inl (kL, 4000, .inl lf)), (aS, .inl (kS, 501, .inl sf)), (aF, .inl (kF, 17, .inl ff)), (aN, .inl (kN, 500, .inl nf)), (aA, .inl (kA, 64, .inl af)), (aO, .inl (kO, 16, .inl o)), (aV, .inl (kV, 16, .inl vf))] := hD
  have hl : lv_has ls 4 [(0, .ref g0), (1, .int (nI M)), (2, .int (nI rt)), (3, .int (nI k))] := hl
  obtain ⟨hk, hI⟩ := hI
  have hrt : rt ≤ 1 := by rcases hI.2 with h | h <;> omega
  refine lv_iload_n hx hb dM_isSolved_8 rfl (lv_at hl 3 rfl) ?_
  refine lv_iload_n hx hb dM_isSolved_9 rfl (lv_at hl 1 rfl) ?_
  refine lv_icmp_ge (tgt := 42) hx hb dM_isSolved_10 (by decide) (fun c1 => ?_) (fun c1 => ?_)
  · have c1 : M ≤ k := (nI_leI (a := M) (b := k) (by omega) (by omega)).mp c1
    have ek : k = M := by omega
    refine lv_iload_n hx hb dM_isSolved_42 rfl (lv_at hl 2 rfl) ?_
    refine lv_if_eq (tgt := 57) hx hb dM_isSolved_43 (by decide) (fun c2 => ?_) (fun c2 => ?_)
    · have c2 : rt = 0 := (nI_eq (a := rt) (b := 0) (by omega) (by omega)).mp c2
      rw [c2] at hI
      refine lv_iconst (v := 0) hx hb dM_isSolved_57 (by decide) ?_
      exact (W.zret (v := 0) hx hb hr (rfl) (fun t ht hW => ⟨⟨0, (o, vf, vv0), rfl, ⟨hV0, by rw [ek] at hI; exact is_none hI⟩, by rw [ht]; exact hP, va_K.moved hW.alike hK, hD⟩, hS.F ht⟩) hS.2.2 dM_isSolved_58)
    · have c2 : rt ≠ 0 := fun q => c2 ((nI_eq (a := rt) (b := 0) (by omega) (by omega)).mpr q)
      have hI1 : is_I nv an k o 1 := by rw [show (1 : Nat) = rt by omega]; exact hI
      refine lv_aload_n hx hb dM_isSolved_46 rfl (lv_at hl 0 rfl) ?_
      have hFc := va_free (wc := [(g0, .inr (2, [.int co, .int (nI nv), .int (nI nc), .ref aL, .int (nI us), .ref aS, .int (nI dr), .ref aF, .ref aN, .ref aA, .int (nI as), .ref aO, .ref aV, .int la, .int bl, .ref aT, .int (nI th)])), (aL, .inl (kL, 4000, .inl lf)), (aS, .inl (kS, 501, .inl sf)), (aF, .inl (kF, 17, .inl ff)), (aN, .inl (kN, 500, .inl nf)), (aO, .inl (kO, 16, .inl o)), (aV, .inl (kV, 16, .inl vf))]) hD hS hA [0, 1, 2, 3, 4, 6, 7] rfl
      refine wc_i (wc_V (As := []) (rest := []) (n := 0) SF (k_M_search l dC dI tI _ g0 aL aS aF aN aA aO aV aT kL kS kF kN kO kV lf sf ff nf o vf nv nc us dr as th co la bl lit st vv0 ch hnv hch h16 hdp hI.1 hV0) ml_M_75 im_M_search se_M_search in_M co_M_search (by decide +kernel) rfl rfl rfl ⟨Nat.le_of_ble_eq_true rfl, Nat.le_of_ble_eq_true rfl⟩ (va_recv (hK.sub (tys' := []) [] rfl) (hP.sub (ws' := [(g0, .inr (2, [.int co, .int (nI nv), .int (nI nc), .ref aL, .int (nI us), .ref aS, .int (nI dr), .ref aF, .ref aN, .ref aA, .int (nI as), .ref aO, .ref aV, .int la, .int bl, .ref aT, .int (nI th)])), (aL, .inl (kL, 4000, .inl lf)), (aS, .inl (kS, 501, .inl sf)), (aF, .inl (kF, 17, .inl ff)), (aN, .inl (kN, 500, .inl nf)), (aO, .inl (kO, 16, .inl o)), (aV, .inl (kV, 16, .inl vf))]) [0, 1, 2, 3, 4, 6, 7] rfl) (ci := 2) (q0 := 0) rfl rfl) (hP.sub [0, 1, 2, 3, 4, 6, 7] rfl) (hD.sub [0, 1, 2, 3, 4, 6, 7] (by decide) rfl) (hK.sub [0, 1, 2, 3, 5, 6] rfl) hZ hX hS hFc rfl hl.1 (Nat.le_of_ble_eq_true rfl) dM_isSolved_47 ⟨Nat.le_of_ble_eq_true rfl, Nat.le_of_ble_eq_true rfl⟩) hP hD hS hFc [0, 1, 2, 3, 4, 6, 7] [5] (wr := [(aA, .inl (kA, 64, .inl af))]) rfl rfl rfl (by decide) (fun z uu H locs hw hP hD hS => ?_)
      have hP : va_P (dC, dI) vwCl [(g0, .inr (2, [.int co, .int (nI nv), .int (nI nc), .ref aL, .int (nI us), .ref aS, .int (nI dr), .ref aF, .ref aN, .ref aA, .int (nI as), .ref aO, .ref aV, .int la, .int bl, .ref aT, .int (nI th)])), (aL, .inl (kL, 4000, .inl lf)), (aS, .inl (kS, 501, .inl sf)), (aF, .inl (kF, 17, .inl ff)), (aN, .inl (kN, 500, .inl nf)), (aA, .inl (kA, 64, .inl af)), (aO, .inl (kO, 16, .inl o)), (aV, .inl (kV, 16, .inl uu.1))] H := hP.sub [1, 2, 3, 4, 5, 0, 6, 7] rfl
      have hD : va_D A [(g0, .inr (2, [.int co, .int (nI nv), .int (nI nc), .ref aL, .int (nI us), .ref aS, .int (nI dr), .ref aF, .ref aN, .ref aA, .int (nI as), .ref aO, .ref aV, .int la, .int bl, .ref aT, .int (nI th)])), (aL, .inl (kL, 4000, .inl lf)), (aS, .inl (kS, 501, .inl sf)), (aF, .inl (kF, 17, .inl ff)), (aN, .inl (kN, 500, .inl nf)), (aA, .inl (kA, 64, .inl af)), (aO, .inl (kO, 16, .inl o)), (aV, .inl (kV, 16, .inl uu.1))] := hD.sub [1, 2, 3, 4, 5, 0, 6, 7] (by decide) rfl
      have hw2 : sv_P nv lit st ch (sv_A an M) z uu.2 := by rw [← ek]; exact is_end hI1 hw.2
      refine lv_if_eq (tgt := 57) hx hb dM_isSolved_50 (by decide) (fun c3 => ?_) (fun c3 => ?_)
      · refine lv_iconst (v := 0) hx hb dM_isSolved_57 (by decide) ?_
        exact (W.zret (v := 0) hx hb hr (rfl) (fun t ht hW => ⟨⟨0, (o, uu.1, uu.2), rfl, ⟨hw.1, by rw [← c3]; exact hw2⟩, by rw [ht]; exact hP, va_K.moved hW.alike hK, hD⟩, hS.F ht⟩) hS.2.2 dM_isSolved_58)
      · refine lv_iconst (v := 1) hx hb dM_isSolved_53 (by decide) ?_
        refine lv_goto (tgt := 58) hx hb dM_isSolved_54 (by decide) ?_
        exact (W.zret (v := 1) hx hb hr (rfl) (fun t ht hW => ⟨⟨1, (o, uu.1, uu.2), rfl, ⟨hw.1, by rw [← (sv_P1 hw2 c3).1]; exact hw2⟩, by rw [ht]; exact hP, va_K.moved hW.alike hK, hD⟩, hS.F ht⟩) hS.2.2 dM_isSolved_58)
  · have c1 : k < M := Nat.lt_of_not_le (fun q => c1 ((nI_leI (a := M) (b := k) (by omega) (by omega)).mpr q))
    have hl2 := (han k (by omega)).2
    refine lv_aload_n hx hb dM_isSolved_13 rfl (lv_at hl 0 rfl) ?_
    refine lv_aload_n hx hb dM_isSolved_14 rfl (lv_at hl 0 rfl) ?_
    refine va_get (D := (dC, dI)) (ci := 2) (v := .ref aA) (C := RM) (T := TM) (N := 17) hx hb hts lyM hown hK hP 0 rfl rfl 9 (by decide) (hts _ fl_M_22) (fun _ h9 => h9) rfl dM_isSolved_15 ?_
    refine lv_iload_n hx hb dM_isSolved_18 rfl (lv_at hl 3 rfl) ?_
    refine va_iald hx hb hK hP 5 4 rfl rfl (vp_in_nI (by omega) (by decide)) dM_isSolved_19 ?_
    refine ls_topi (y := nI (an k)) (by rw [nI_clamp (by omega)]; exact (han k (by omega)).1) ?_
    have hFc := va_free (wc := [(g0, .inr (2, [.int co, .int (nI nv), .int (nI nc), .ref aL, .int (nI us), .ref aS, .int (nI dr), .ref aF, .ref aN, .ref aA, .int (nI as), .ref aO, .ref aV, .int la, .int bl, .ref aT, .int (nI th)])), (aO, .inl (kO, 16, .inl o))]) hD hS hA [0, 6] rfl
    refine wc_i (wc_V (As := [.int (nI (an k))]) (rest := []) (n := 1) SF (k_M_force l dC dI tI _ g0 aL aS aF aN aA aO aV aT kO o nv nc us dr as th co la bl (an k) (by omega)) ml_M_72 im_M_force se_M_force in_M co_M_force (by decide +kernel) rfl rfl rfl ⟨Nat.le_of_ble_eq_true rfl, Nat.le_of_ble_eq_true rfl⟩ (va_recv (hK.sub (tys' := []) [] rfl) (hP.sub (ws' := [(g0, .inr (2, [.int co, .int (nI nv), .int (nI nc), .ref aL, .int (nI us), .ref aS, .int (nI dr), .ref aF, .ref aN, .ref aA, .int (nI as), .ref aO, .ref aV, .int la, .int bl, .ref aT, .int (nI th)])), (aO, .inl (kO, 16, .inl o))]) [0, 6] rfl) (ci := 2) (q0 := 0) rfl rfl) (hP.sub [0, 6] rfl) (hD.sub [0, 6] (by decide) rfl) (hK.sub [5] rfl) hZ hX hS hFc rfl hl.1 (Nat.le_of_ble_eq_true rfl) dM_isSolved_20 ⟨Nat.le_of_ble_eq_true rfl, Nat.le_of_ble_eq_true rfl⟩) hP hD hS hFc [0, 6] [1, 2, 3, 4, 5, 7] (wr := [(aL, .inl (kL, 4000, .inl lf)), (aS, .inl (kS, 501, .inl sf)), (aF, .inl (kF, 17, .inl ff)), (aN, .inl (kN, 500, .inl nf)), (aA, .inl (kA, 64, .inl af)), (aV, .inl (kV, 16, .inl vf))]) rfl rfl rfl (by decide) (fun z uu H locs hw hP hD hS => ?_)
    have hP : va_P (dC, dI) vwCl [(g0, .inr (2, [.int co, .int (nI nv), .int (nI nc), .ref aL, .int (nI us), .ref aS, .int (nI dr), .ref aF, .ref aN, .ref aA, .int (nI as), .ref aO, .ref aV, .int la, .int bl, .ref aT, .int (nI th)])), (aL, .inl (kL, 4000, .inl lf)), (aS, .inl (kS, 501, .inl sf)), (aF, .inl (kF, 17, .inl ff)), (aN, .inl (kN, 500, .inl nf)), (aA, .inl (kA, 64, .inl af)), (aO, .inl (kO, 16, .inl (upd o (an k / 2) (nI (1 - an k % 2))))), (aV, .inl (kV, 16, .inl vf))] H := hP.sub [6, 0, 1, 2, 3, 4, 7, 5] rfl
    have hD : va_D A [(g0, .inr (2, [.int co, .int (nI nv), .int (nI nc), .ref aL, .int (nI us), .ref aS, .int (nI dr), .ref aF, .ref aN, .ref aA, .int (nI as), .ref aO, .ref aV, .int la, .int bl, .ref aT, .int (nI th)])), (aL, .inl (kL, 4000, .inl lf)), (aS, .inl (kS, 501, .inl sf)), (aF, .inl (kF, 17, .inl ff)), (aN, .inl (kN, 500, .inl nf)), (aA, .inl (kA, 64, .inl af)), (aO, .inl (kO, 16, .inl (upd o (an k / 2) (nI (1 - an k % 2))))), (aV, .inl (kV, 16, .inl vf))] := hD.sub [6, 0, 1, 2, 3, 4, 7, 5] (by decide) rfl
    refine lv_if_eq (tgt := 34) hx hb dM_isSolved_23 (by decide) (fun c2 => ?_) (fun c2 => ?_)
    · refine lv_iconst (v := 0) hx hb dM_isSolved_34 (by decide) ?_
      refine lv_istore_n (lv' := [(2, .int 0), (0, .ref g0), (1, .int (nI M)), (3, .int (nI k))]) hx hb dM_isSolved_35 rfl hl (by decide) rfl (fun ls hl => ?_)
      refine lv_iinc (v := nI (k + 1)) (lv' := [(3, .int (nI (k + 1))), (2, .int 0), (0, .ref g0), (1, .int (nI M))]) hx hb dM_isSolved_36 hl (k := 3) rfl (nI_1 _) (by decide) rfl (fun ls hl => ?_)
      refine lv_goto (tgt := 8) hx hb dM_isSolved_39 (by decide) ?_
      rcases (show rt = 0 ∨ rt = 1 by omega) with e1 | e1
      · rw [e1] at hI
        exact ih (k + 1, upd o (an k / 2) (nI (1 - an k % 2)), 0) _ _ _ (by show M - (k + 1) < M - k; omega) ⟨⟨c1, is_keep hI⟩, hP, hD, hS, lv_sub hl [2, 3, 1, 0] rfl⟩
      · rw [e1] at hI
        have hb : ¬ o (an k / 2) = -1 ∧ ¬ o (an k / 2) = nI (1 - an k % 2) := by
          rcases hw with ⟨q, _⟩ | ⟨_, q⟩
          · rw [q] at c2; exact absurd c2 (by decide)
          · exact q
        exact ih (k + 1, upd o (an k / 2) (nI (1 - an k % 2)), 0) _ _ _ (by show M - (k + 1) < M - k; omega) ⟨⟨c1, is_bad hI (by omega) hb.1 hb.2⟩, hP, hD, hS, lv_sub hl [2, 3, 1, 0] rfl⟩
    · have hg : o (an k / 2) = -1 ∨ o (an k / 2) = nI (1 - an k % 2) := by
        rcases hw with ⟨_, q⟩ | ⟨q, _⟩
        · exact q
        · exact absurd q c2
      refine lv_iload_n hx hb dM_isSolved_26 rfl (lv_at hl 2 rfl) ?_
      refine lv_if_eq (tgt := 34) hx hb dM_isSolved_27 (by decide) (fun c3 => ?_) (fun c3 => ?_)
      · have c3 : rt = 0 := (nI_eq (a := rt) (b := 0) (by omega) (by omega)).mp c3
        rw [c3] at hI
        refine lv_iconst (v := 0) hx hb dM_isSolved_34 (by decide) ?_
        refine lv_istore_n (lv' := [(2, .int 0), (0, .ref g0), (1, .int (nI M)), (3, .int (nI k))]) hx hb dM_isSolved_35 rfl hl (by decide) rfl (fun ls hl => ?_)
        refine lv_iinc (v := nI (k + 1)) (lv' := [(3, .int (nI (k + 1))), (2, .int 0), (0, .ref g0), (1, .int (nI M))]) hx hb dM_isSolved_36 hl (k := 3) rfl (nI_1 _) (by decide) rfl (fun ls hl => ?_)
        refine lv_goto (tgt := 8) hx hb dM_isSolved_39 (by decide) ?_
        exact ih (k + 1, upd o (an k / 2) (nI (1 - an k % 2)), 0) _ _ _ (by show M - (k + 1) < M - k; omega) ⟨⟨c1, is_keep hI⟩, hP, hD, hS, lv_sub hl [2, 3, 1, 0] rfl⟩
      · have c3 : rt ≠ 0 := fun q => c3 ((nI_eq (a := rt) (b := 0) (by omega) (by omega)).mpr q)
        have hI1 : is_I nv an k o 1 := by rw [show (1 : Nat) = rt by omega]; exact hI
        refine lv_iconst (v := 1) hx hb dM_isSolved_30 (by decide) ?_
        refine lv_goto (tgt := 35) hx hb dM_isSolved_31 (by decide) ?_
        refine lv_istore_n (lv' := [(2, .int 1), (0, .ref g0), (1, .int (nI M)), (3, .int (nI k))]) hx hb dM_isSolved_35 rfl hl (by decide) rfl (fun ls hl => ?_)
        refine lv_iinc (v := nI (k + 1)) (lv' := [(3, .int (nI (k + 1))), (2, .int 1), (0, .ref g0), (1, .int (nI M))]) hx hb dM_isSolved_36 hl (k := 3) rfl (nI_1 _) (by decide) rfl (fun ls hl => ?_)
        refine lv_goto (tgt := 8) hx hb dM_isSolved_39 (by decide) ?_
        exact ih (k + 1, upd o (an k / 2) (nI (1 - an k % 2)), 1) _ _ _ (by show M - (k + 1) < M - k; omega) ⟨⟨c1, is_ok hI1 (by omega) hg⟩, hP, hD, hS, lv_sub hl [2, 3, 1, 0] rfl⟩
set_option maxHeartbeats 4000000 in
set_option maxRecDepth 100000 in
theorem k_M_must (l : Launch) (dC : Nat → ClassId) (dI : Nat → Nat → Nat) (tI sz : Nat) (g0 aL aS aF aN aA aO aV aT : Nat) (kL kS kF kN kO kV : ClassId) (lf sf ff nf of vf : Nat → Int32) (nv nc us dr as th : Nat) (co la bl : Int32) (lit st vv0 : Nat → Nat) (ch : Nat → List Nat) (hnv : nv ≤ 16) (hch : ∀ v, v < nv → lm_ch nf (ff v) (ch v) ∧ lm_C lf sf lit st (ch v)) (h16 : ff 16 = -1 ↔ ch 16 = []) (hdp : se_D nv lit st ch) (hV0 : sv_V vf vv0) (x : Int32) : Met l yM_must (Cond.code yM_must cM_must 4 (some .int) :: GG) (lvr 2 0 0) (va_Pc [.ref g0, .int x] (wPre dC dI [(kL, .int), (kS, .int), (kF, .int), (kN, .int), (kO, .int), (kV, .int)] [(g0, .inr (2, [.int co, .int (nI nv), .int (nI nc), .ref aL, .int (nI us), .ref aS, .int (nI dr), .ref aF, .ref aN, .ref aA, .int (nI as), .ref aO, .ref aV, .int la, .int bl, .ref aT, .int (nI th)])), (aL, .inl (kL, 4000, .inl lf)), (aS, .inl (kS, 501, .inl sf)), (aF, .inl (kF, 17, .inl ff)), (aN, .inl (kN, 500, .inl nf)), (aO, .inl (kO, 16, .inl of)), (aV, .inl (kV, 16, .inl vf))] sz tI)) (va_Qi (fun (r : Int32) (u : (Nat → Int32) × (Nat → Int32) × (Nat → Nat) × Int32) => sv_V u.2.1 u.2.2.1 ∧ ((u.2.2.2 = 1 ∧ ¬ (∃ L, L < 2 * nv ∧ x = nI L)) ∨ (u.2.2.2 = 0 ∧ ∃ L, L < 2 * nv ∧ x = nI L ∧ ((sv_sat nv lit st ch (litT L) ∧ sv_sat nv lit st ch (litT (mu_x L)) ∧ r = 2) ∨ (sv_sat nv lit st ch (litT L) ∧ ¬ sv_sat nv lit st ch (litT (mu_x L)) ∧ r = 1) ∨ (¬ sv_sat nv lit st ch (litT L) ∧ sv_sat nv lit st ch (litT (mu_x L)) ∧ r = 0) ∨ (¬ sv_sat nv lit st ch (litT L) ∧ ¬ sv_sat nv lit st ch (litT (mu_x L)) ∧ r = -1))))) (fun u t => wB dC dI [(kL, .int), (kS, .int), (kF, .int), (kN, .int), (kO, .int), (kV, .int)] (va_A [(g0, .inr (2, [.int co, .int (nI nv), .int (nI nc), .ref aL, .int (nI us), .ref aS, .int (nI dr), .ref aF, .ref aN, .ref aA, .int (nI as), .ref aO, .ref aV, .int la, .int bl, .ref aT, .int (nI th)])), (aL, .inl (kL, 4000, .inl lf)), (aS, .inl (kS, 501, .inl sf)), (aF, .inl (kF, 17, .inl ff)), (aN, .inl (kN, 500, .inl nf)), (aO, .inl (kO, 16, .inl of)), (aV, .inl (kV, 16, .inl vf))] sz) [(g0, .inr (2, [.int u.2.2.2, .int (nI nv), .int (nI nc), .ref aL, .int (nI us), .ref aS, .int (nI dr), .ref aF, .ref aN, .ref aA, .int (nI as), .ref aO, .ref aV, .int la, .int bl, .ref aT, .int (nI th)])), (aL, .inl (kL, 4000, .inl lf)), (aS, .inl (kS, 501, .inl sf)), (aF, .inl (kF, 17, .inl ff)), (aN, .inl (kN, 500, .inl nf)), (aO, .inl (kO, 16, .inl u.1)), (aV, .inl (kV, 16, .inl u.2.1))] t) (va_A [(g0, .inr (2, [.int co, .int (nI nv), .int (nI nc), .ref aL, .int (nI us), .ref aS, .int (nI dr), .ref aF, .ref aN, .ref aA, .int (nI as), .ref aO, .ref aV, .int la, .int bl, .ref aT, .int (nI th)])), (aL, .inl (kL, 4000, .inl lf)), (aS, .inl (kS, 501, .inl sf)), (aF, .inl (kF, 17, .inl ff)), (aN, .inl (kN, 500, .inl nf)), (aO, .inl (kO, 16, .inl of)), (aV, .inl (kV, 16, .inl vf))] sz)) 0 0 (va_A [(g0, .inr (2, [.int co, .int (nI nv), .int (nI nc), .ref aL, .int (nI us), .ref aS, .int (nI dr), .ref aF, .ref aN, .ref aA, .int (nI as), .ref aO, .ref aV, .int la, .int bl, .ref aT, .int (nI th)])), (aL, .inl (kL, 4000, .inl lf)), (aS, .inl (kS, 501, .inl sf)), (aF, .inl (kF, 17, .inl ff)), (aN, .inl (kN, 500, .inl nf)), (aO, .inl (kO, 16, .inl of)), (aV, .inl (kV, 16, .inl vf))] sz) := by
  refine Met.ofW (cc := cM_must) (maxL := 4) (ret := (some .int)) (by decide) rfl ?_
  intro p e s m args below meth c s₁ B hml hv
  obtain ⟨rfl, hsz, hP, hK, hD0, hZ, hX⟩ := hv
  have hx := B.exec
  have hb := B.bytes
  have hr := B.returns
  have hts : ∀ w ∈ GG, w.before ([.ref g0, .int x] : List Value).toArray s = true := fun w h => atoms_spec (ws := _ :: GG) B.pre w (List.mem_cons_of_mem _ h)
  have hown : s.vm.findClass RM = some m.cls := findClass_of_methodNamed B.named
  have hlocks := B.notSynchronized
  subst hsz
  have hD := hD0.self (sz := s.heap.size)
  generalize hAe : va_A [(g0, .inr (2, [.int co, .int (nI nv), .int (nI nc), .ref aL, .int (nI us), .ref aS, .int (nI dr), .ref aF, .ref aN, .ref aA, .int (nI as), .ref aO, .ref aV, .int la, .int bl, .ref aT, .int (nI th)])), (aL, .inl (kL, 4000, .inl lf)), (aS, .inl (kS, 501, .inl sf)), (aF, .inl (kF, 17, .inl ff)), (aN, .inl (kN, 500, .inl nf)), (aO, .inl (kO, 16, .inl of)), (aV, .inl (kV, 16, .inl vf))] s.heap.size = A at hD hZ ⊢
  have hA : ∀ q : Nat, s.heap.size ≤ q → A q := fun q h => by rw [← hAe]; exact Or.inr h
  have hS : va_S A s.heap s.heap [] := va_S.rf
  have hl := lv_entry ([.ref g0, .int x]) (n := 4) (Nat.le_of_ble_eq_true rfl)
  rw [lg_entry_eq]
  generalize (lg_sl ([.ref g0, .int x]) ++ List.replicate (4 - (lg_sl ([.ref g0, .int x])).length) Slot.unset).toArray = ls at hl ⊢
  have hl : lv_has ls 4 [(0, .ref g0), (1, .int x)] := hl
  have SF : CallFix p m c cM_must 4 s ([.ref g0, .int x] : List Value).toArray GG RM := ⟨hx, hb, hml, hown, hts⟩
  skip
  have hP : va_P (dC, dI) vwCl [(g0, .inr (2, [.int co, .int (nI nv), .int (nI nc), .ref aL, .int (nI us), .ref aS, .int (nI dr), .ref aF, .ref aN, .ref aA, .int (nI as), .ref aO, .ref aV, .int la, .int bl, .ref aT, .int (nI th)])), (aL, .inl (kL, 4000, .inl lf)), (aS, .inl (kS, 501, .inl sf)), (aF, .inl (kF, 17, .inl ff)), (aN, .inl (kN, 500, .inl nf)), (aO, .inl (kO, 16, .inl of)), (aV, .inl (kV, 16, .inl vf))] s.heap := hP
  refine lv_aload_n hx hb dM_must_0 rfl (lv_at hl 0 rfl) ?_
  refine lv_aload_n hx hb dM_must_1 rfl (lv_at hl 0 rfl) ?_
  refine lv_iload_n hx hb dM_must_2 rfl (lv_at hl 1 rfl) ?_
  have hFc := va_free (wc := [(g0, .inr (2, [.int co, .int (nI nv), .int (nI nc), .ref aL, .int (nI us), .ref aS, .int (nI dr), .ref aF, .ref aN, .ref aA, .int (nI as), .ref aO, .ref aV, .int la, .int bl, .ref aT, .int (nI th)]))]) hD hS hA [0] rfl
  refine wc_i (wc_V (As := [.int x]) (rest := [.ref g0]) (n := 1) SF (k_M_isLiteral l dC dI tI _ g0 aL aS aF aN aA aO aV aT nv nc us dr as th co la bl x hnv) ml_M_62 im_M_isLiteral se_M_isLiteral in_M co_M_isLiteral (by decide +kernel) rfl rfl rfl ⟨Nat.le_of_ble_eq_true rfl, Nat.le_of_ble_eq_true rfl⟩ (va_recv (hK.sub (tys' := []) [] rfl) (hP.sub (ws' := [(g0, .inr (2, [.int co, .int (nI nv), .int (nI nc), .ref aL, .int (nI us), .ref aS, .int (nI dr), .ref aF, .ref aN, .ref aA, .int (nI as), .ref aO, .ref aV, .int la, .int bl, .ref aT, .int (nI th)]))]) [0] rfl) (ci := 2) (q0 := 0) rfl rfl) (hP.sub [0] rfl) (hD.sub [0] (by decide) rfl) (hK.sub [] rfl) hZ hX hS hFc rfl hl.1 (Nat.le_of_ble_eq_true rfl) dM_must_3 ⟨Nat.le_of_ble_eq_true rfl, Nat.le_of_ble_eq_true rfl⟩) hP hD hS hFc [0] [1, 2, 3, 4, 5, 6] (wr := [(aL, .inl (kL, 4000, .inl lf)), (aS, .inl (kS, 501, .inl sf)), (aF, .inl (kF, 17, .inl ff)), (aN, .inl (kN, 500, .inl nf)), (aO, .inl (kO, 16, .inl of)), (aV, .inl (kV, 16, .inl vf))]) rfl rfl rfl (by decide) (fun z uu H locs hw hP hD hS => ?_)
  have hP : va_P (dC, dI) vwCl [(g0, .inr (2, [.int co, .int (nI nv), .int (nI nc), .ref aL, .int (nI us), .ref aS, .int (nI dr), .ref aF, .ref aN, .ref aA, .int (nI as), .ref aO, .ref aV, .int la, .int bl, .ref aT, .int (nI th)])), (aL, .inl (kL, 4000, .inl lf)), (aS, .inl (kS, 501, .inl sf)), (aF, .inl (kF, 17, .inl ff)), (aN, .inl (kN, 500, .inl nf)), (aO, .inl (kO, 16, .inl of)), (aV, .inl (kV, 16, .inl vf))] H := hP.sub [6, 0, 1, 2, 3, 4, 5] rfl
  have hD : va_D A [(g0, .inr (2, [.int co, .int (nI nv), .int (nI nc), .ref aL, .int (nI us), .ref aS, .int (nI dr), .ref aF, .ref aN, .ref aA, .int (nI as), .ref aO, .ref aV, .int la, .int bl, .ref aT, .int (nI th)])), (aL, .inl (kL, 4000, .inl lf)), (aS, .inl (kS, 501, .inl sf)), (aF, .inl (kF, 17, .inl ff)), (aN, .inl (kN, 500, .inl nf)), (aO, .inl (kO, 16, .inl of)), (aV, .inl (kV, 16, .inl vf))] := hD.sub [6, 0, 1, 2, 3, 4, 5] (by decide) rfl
  refine lv_if_eq (tgt := 13) hx hb dM_must_6 (by decide) (fun c1 => ?_) (fun c1 => ?_)
  · have hnl : ¬ (∃ L, L < 2 * nv ∧ x = nI L) := by
      rcases hw with ⟨q, _⟩ | ⟨_, q⟩
      · rw [q] at c1; exact absurd c1 (by decide)
      · exact q
    refine lv_iconst (v := 1) hx hb dM_must_13 (by decide) ?_
    refine va_put (D := (dC, dI)) (ci := 2) (v := .int 1) (ty := .int) (C := RM) (T := TM) (N := 17) hx hb hts lyM tyM tyM_ok nmM hown hK hP hD hS 0 rfl rfl 0 (by decide) (hts _ fl_M_37) (fun _ h9 => h9) rfl (by decide +kernel) rfl rfl (Nat.le_of_ble_eq_true rfl) dM_must_14 (fun H locs hP hD hS => ?_)
    have hP : va_P (dC, dI) vwCl [(g0, .inr (2, [.int 1, .int (nI nv), .int (nI nc), .ref aL, .int (nI us), .ref aS, .int (nI dr), .ref aF, .ref aN, .ref aA, .int (nI as), .ref aO, .ref aV, .int la, .int bl, .ref aT, .int (nI th)])), (aL, .inl (kL, 4000, .inl lf)), (aS, .inl (kS, 501, .inl sf)), (aF, .inl (kF, 17, .inl ff)), (aN, .inl (kN, 500, .inl nf)), (aO, .inl (kO, 16, .inl of)), (aV, .inl (kV, 16, .inl vf))] H := hP
    have hD : va_D A [(g0, .inr (2, [.int 1, .int (nI nv), .int (nI nc), .ref aL, .int (nI us), .ref aS, .int (nI dr), .ref aF, .ref aN, .ref aA, .int (nI as), .ref aO, .ref aV, .int la, .int bl, .ref aT, .int (nI th)])), (aL, .inl (kL, 4000, .inl lf)), (aS, .inl (kS, 501, .inl sf)), (aF, .inl (kF, 17, .inl ff)), (aN, .inl (kN, 500, .inl nf)), (aO, .inl (kO, 16, .inl of)), (aV, .inl (kV, 16, .inl vf))] := hD
    refine lv_aload_n hx hb dM_must_17 rfl (lv_at hl 0 rfl) ?_
    refine va_get (D := (dC, dI)) (ci := 2) (v := .int 1) (C := RM) (T := TM) (N := 17) hx hb hts lyM hown hK hP 0 rfl rfl 0 (by decide) (hts _ fl_M_37) (fun _ h9 => h9) rfl dM_must_18 ?_
    refine lv_if_le (tgt := 26) hx hb dM_must_21 (by decide) (fun c9 => ?_) (fun c9 => ?_)
    · exact absurd c9 (by decide)
    · refine lv_iconst (v := 0) hx hb dM_must_24 (by decide) ?_
      exact (W.iret (v := 0) hx hb hr (fun t ht hW => ⟨⟨0, (of, vf, vv0, 1), rfl, ⟨hV0, Or.inl ⟨rfl, hnl⟩⟩, by rw [ht]; exact hP, va_K.moved hW.alike hK, hD⟩, hS.F ht⟩) hS.2.2 dM_must_25)
  · have hlit : (∃ L, L < 2 * nv ∧ x = nI L) := by
      rcases hw with ⟨_, q⟩ | ⟨q, _⟩
      · exact q
      · exact absurd q c1
    obtain ⟨L, hL, eL⟩ := hlit
    subst eL
    refine lv_iconst (v := 0) hx hb dM_must_9 (by decide) ?_
    refine lv_goto (tgt := 14) hx hb dM_must_10 (by decide) ?_
    refine va_put (D := (dC, dI)) (ci := 2) (v := .int 0) (ty := .int) (C := RM) (T := TM) (N := 17) hx hb hts lyM tyM tyM_ok nmM hown hK hP hD hS 0 rfl rfl 0 (by decide) (hts _ fl_M_37) (fun _ h9 => h9) rfl (by decide +kernel) rfl rfl (Nat.le_of_ble_eq_true rfl) dM_must_14 (fun H locs hP hD hS => ?_)
    have hP : va_P (dC, dI) vwCl [(g0, .inr (2, [.int 0, .int (nI nv), .int (nI nc), .ref aL, .int (nI us), .ref aS, .int (nI dr), .ref aF, .ref aN, .ref aA, .int (nI as), .ref aO, .ref aV, .int la, .int bl, .ref aT, .int (nI th)])), (aL, .inl (kL, 4000, .inl lf)), (aS, .inl (kS, 501, .inl sf)), (aF, .inl (kF, 17, .inl ff)), (aN, .inl (kN, 500, .inl nf)), (aO, .inl (kO, 16, .inl of)), (aV, .inl (kV, 16, .inl vf))] H := hP
    have hD : va_D A [(g0, .inr (2, [.int 0, .int (nI nv), .int (nI nc), .ref aL, .int (nI us), .ref aS, .int (nI dr), .ref aF, .ref aN, .ref aA, .int (nI as), .ref aO, .ref aV, .int la, .int bl, .ref aT, .int (nI th)])), (aL, .inl (kL, 4000, .inl lf)), (aS, .inl (kS, 501, .inl sf)), (aF, .inl (kF, 17, .inl ff)), (aN, .inl (kN, 500, .inl nf)), (aO, .inl (kO, 16, .inl of)), (aV, .inl (kV, 16, .inl vf))] := hD
    refine lv_aload_n hx hb dM_must_17 rfl (lv_at hl 0 rfl) ?_
    refine va_get (D := (dC, dI)) (ci := 2) (v := .int 0) (C := RM) (T := TM) (N := 17) hx hb hts lyM hown hK hP 0 rfl rfl 0 (by decide) (hts _ fl_M_37) (fun _ h9 => h9) rfl dM_must_18 ?_
    refine lv_if_le (tgt := 26) hx hb dM_must_21 (by decide) (fun c9 => ?_) (fun c9 => ?_)
    · refine lv_aload_n hx hb dM_must_26 rfl (lv_at hl 0 rfl) ?_
      have hFc := va_free (wc := [(g0, .inr (2, [.int 0, .int (nI nv), .int (nI nc), .ref aL, .int (nI us), .ref aS, .int (nI dr), .ref aF, .ref aN, .ref aA, .int (nI as), .ref aO, .ref aV, .int la, .int bl, .ref aT, .int (nI th)])), (aO, .inl (kO, 16, .inl of))]) hD hS hA [0, 5] rfl
      refine wc_v (wc_V (As := []) (rest := []) (n := 0) SF (k_M_free l dC dI tI _ g0 aL aS aF aN aA aO aV aT kO of nv nc us dr as th 0 la bl hnv) ml_M_69 im_M_free se_M_free in_M co_M_free (by decide +kernel) rfl rfl rfl ⟨Nat.le_of_ble_eq_true rfl, Nat.le_of_ble_eq_true rfl⟩ (va_recv (hK.sub (tys' := []) [] rfl) (hP.sub (ws' := [(g0, .inr (2, [.int 0, .int (nI nv), .int (nI nc), .ref aL, .int (nI us), .ref aS, .int (nI dr), .ref aF, .ref aN, .ref aA, .int (nI as), .ref aO, .ref aV, .int la, .int bl, .ref aT, .int (nI th)])), (aO, .inl (kO, 16, .inl of))]) [0, 5] rfl) (ci := 2) (q0 := 0) rfl rfl) (hP.sub [0, 5] rfl) (hD.sub [0, 5] (by decide) rfl) (hK.sub [4] rfl) hZ hX hS hFc rfl hl.1 (Nat.le_of_ble_eq_true rfl) dM_must_27 ⟨Nat.le_of_ble_eq_true rfl, Nat.le_of_ble_eq_true rfl⟩) hP hD hS hFc [0, 5] [1, 2, 3, 4, 6] (wr := [(aL, .inl (kL, 4000, .inl lf)), (aS, .inl (kS, 501, .inl sf)), (aF, .inl (kF, 17, .inl ff)), (aN, .inl (kN, 500, .inl nf)), (aV, .inl (kV, 16, .inl vf))]) rfl rfl rfl (by decide) (fun o1 H locs ho1 hP hD hS => ?_)
      have hP : va_P (dC, dI) vwCl [(g0, .inr (2, [.int 0, .int (nI nv), .int (nI nc), .ref aL, .int (nI us), .ref aS, .int (nI dr), .ref aF, .ref aN, .ref aA, .int (nI as), .ref aO, .ref aV, .int la, .int bl, .ref aT, .int (nI th)])), (aL, .inl (kL, 4000, .inl lf)), (aS, .inl (kS, 501, .inl sf)), (aF, .inl (kF, 17, .inl ff)), (aN, .inl (kN, 500, .inl nf)), (aO, .inl (kO, 16, .inl o1)), (aV, .inl (kV, 16, .inl vf))] H := hP.sub [5, 0, 1, 2, 3, 6, 4] rfl
      have hD : va_D A [(g0, .inr (2, [.int 0, .int (nI nv), .int (nI nc), .ref aL, .int (nI us), .ref aS, .int (nI dr), .ref aF, .ref aN, .ref aA, .int (nI as), .ref aO, .ref aV, .int la, .int bl, .ref aT, .int (nI th)])), (aL, .inl (kL, 4000, .inl lf)), (aS, .inl (kS, 501, .inl sf)), (aF, .inl (kF, 17, .inl ff)), (aN, .inl (kN, 500, .inl nf)), (aO, .inl (kO, 16, .inl o1)), (aV, .inl (kV, 16, .inl vf))] := hD.sub [5, 0, 1, 2, 3, 6, 4] (by decide) rfl
      refine lv_aload_n hx hb dM_must_30 rfl (lv_at hl 0 rfl) ?_
      refine lv_iload_n hx hb dM_must_31 rfl (lv_at hl 1 rfl) ?_
      have hFc := va_free (wc := [(g0, .inr (2, [.int 0, .int (nI nv), .int (nI nc), .ref aL, .int (nI us), .ref aS, .int (nI dr), .ref aF, .ref aN, .ref aA, .int (nI as), .ref aO, .ref aV, .int la, .int bl, .ref aT, .int (nI th)])), (aO, .inl (kO, 16, .inl o1))]) hD hS hA [0, 5] rfl
      refine wc_i (wc_V (As := [.int (nI L)]) (rest := []) (n := 1) SF (k_M_force l dC dI tI _ g0 aL aS aF aN aA aO aV aT kO o1 nv nc us dr as th 0 la bl L (by omega)) ml_M_72 im_M_force se_M_force in_M co_M_force (by decide +kernel) rfl rfl rfl ⟨Nat.le_of_ble_eq_true rfl, Nat.le_of_ble_eq_true rfl⟩ (va_recv (hK.sub (tys' := []) [] rfl) (hP.sub (ws' := [(g0, .inr (2, [.int 0, .int (nI nv), .int (nI nc), .ref aL, .int (nI us), .ref aS, .int (nI dr), .ref aF, .ref aN, .ref aA, .int (nI as), .ref aO, .ref aV, .int la, .int bl, .ref aT, .int (nI th)])), (aO, .inl (kO, 16, .inl o1))]) [0, 5] rfl) (ci := 2) (q0 := 0) rfl rfl) (hP.sub [0, 5] rfl) (hD.sub [0, 5] (by decide) rfl) (hK.sub [4] rfl) hZ hX hS hFc rfl hl.1 (Nat.le_of_ble_eq_true rfl) dM_must_32 ⟨Nat.le_of_ble_eq_true rfl, Nat.le_of_ble_eq_true rfl⟩) hP hD hS hFc [0, 5] [1, 2, 3, 4, 6] (wr := [(aL, .inl (kL, 4000, .inl lf)), (aS, .inl (kS, 501, .inl sf)), (aF, .inl (kF, 17, .inl ff)), (aN, .inl (kN, 500, .inl nf)), (aV, .inl (kV, 16, .inl vf))]) rfl rfl rfl (by decide) (fun z3 uu3 H locs hw3 hP hD hS => ?_)
      have hP : va_P (dC, dI) vwCl [(g0, .inr (2, [.int 0, .int (nI nv), .int (nI nc), .ref aL, .int (nI us), .ref aS, .int (nI dr), .ref aF, .ref aN, .ref aA, .int (nI as), .ref aO, .ref aV, .int la, .int bl, .ref aT, .int (nI th)])), (aL, .inl (kL, 4000, .inl lf)), (aS, .inl (kS, 501, .inl sf)), (aF, .inl (kF, 17, .inl ff)), (aN, .inl (kN, 500, .inl nf)), (aO, .inl (kO, 16, .inl (upd o1 (L / 2) (nI (1 - L % 2))))), (aV, .inl (kV, 16, .inl vf))] H := hP.sub [5, 0, 1, 2, 3, 6, 4] rfl
      have hD : va_D A [(g0, .inr (2, [.int 0, .int (nI nv), .int (nI nc), .ref aL, .int (nI us), .ref aS, .int (nI dr), .ref aF, .ref aN, .ref aA, .int (nI as), .ref aO, .ref aV, .int la, .int bl, .ref aT, .int (nI th)])), (aL, .inl (kL, 4000, .inl lf)), (aS, .inl (kS, 501, .inl sf)), (aF, .inl (kF, 17, .inl ff)), (aN, .inl (kN, 500, .inl nf)), (aO, .inl (kO, 16, .inl (upd o1 (L / 2) (nI (1 - L % 2))))), (aV, .inl (kV, 16, .inl vf))] := hD.sub [5, 0, 1, 2, 3, 6, 4] (by decide) rfl
      refine lv_pop hx hb dM_must_35 rfl ?_
      refine lv_aload_n hx hb dM_must_36 rfl (lv_at hl 0 rfl) ?_
      have hFc := va_free (wc := [(g0, .inr (2, [.int 0, .int (nI nv), .int (nI nc), .ref aL, .int (nI us), .ref aS, .int (nI dr), .ref aF, .ref aN, .ref aA, .int (nI as), .ref aO, .ref aV, .int la, .int bl, .ref aT, .int (nI th)])), (aL, .inl (kL, 4000, .inl lf)), (aS, .inl (kS, 501, .inl sf)), (aF, .inl (kF, 17, .inl ff)), (aN, .inl (kN, 500, .inl nf)), (aO, .inl (kO, 16, .inl (upd o1 (L / 2) (nI (1 - L % 2))))), (aV, .inl (kV, 16, .inl vf))]) hD hS hA [0, 1, 2, 3, 4, 5, 6] rfl
      refine wc_i (wc_V (As := []) (rest := []) (n := 0) SF (k_M_search l dC dI tI _ g0 aL aS aF aN aA aO aV aT kL kS kF kN kO kV lf sf ff nf (upd o1 (L / 2) (nI (1 - L % 2))) vf nv nc us dr as th 0 la bl lit st vv0 ch hnv hch h16 hdp (is_v (fun v hv => Or.inl (ho1 v hv))) hV0) ml_M_75 im_M_search se_M_search in_M co_M_search (by decide +kernel) rfl rfl rfl ⟨Nat.le_of_ble_eq_true rfl, Nat.le_of_ble_eq_true rfl⟩ (va_recv (hK.sub (tys' := []) [] rfl) (hP.sub (ws' := [(g0, .inr (2, [.int 0, .int (nI nv), .int (nI nc), .ref aL, .int (nI us), .ref aS, .int (nI dr), .ref aF, .ref aN, .ref aA, .int (nI as), .ref aO, .ref aV, .int la, .int bl, .ref aT, .int (nI th)])), (aL, .inl (kL, 4000, .inl lf)), (aS, .inl (kS, 501, .inl sf)), (aF, .inl (kF, 17, .inl ff)), (aN, .inl (kN, 500, .inl nf)), (aO, .inl (kO, 16, .inl (upd o1 (L / 2) (nI (1 - L % 2))))), (aV, .inl (kV, 16, .inl vf))]) [0, 1, 2, 3, 4, 5, 6] rfl) (ci := 2) (q0 := 0) rfl rfl) (hP.sub [0, 1, 2, 3, 4, 5, 6] rfl) (hD.sub [0, 1, 2, 3, 4, 5, 6] (by decide) rfl) (hK.sub [0, 1, 2, 3, 4, 5] rfl) hZ hX hS hFc rfl hl.1 (Nat.le_of_ble_eq_true rfl) dM_must_37 ⟨Nat.le_of_ble_eq_true rfl, Nat.le_of_ble_eq_true rfl⟩) hP hD hS hFc [0, 1, 2, 3, 4, 5, 6] [] (wr := []) rfl rfl rfl (by decide) (fun so u1 H locs hs1 hP hD hS => ?_)
      have hP : va_P (dC, dI) vwCl [(g0, .inr (2, [.int 0, .int (nI nv), .int (nI nc), .ref aL, .int (nI us), .ref aS, .int (nI dr), .ref aF, .ref aN, .ref aA, .int (nI as), .ref aO, .ref aV, .int la, .int bl, .ref aT, .int (nI th)])), (aL, .inl (kL, 4000, .inl lf)), (aS, .inl (kS, 501, .inl sf)), (aF, .inl (kF, 17, .inl ff)), (aN, .inl (kN, 500, .inl nf)), (aO, .inl (kO, 16, .inl (upd o1 (L / 2) (nI (1 - L % 2))))), (aV, .inl (kV, 16, .inl u1.1))] H := hP.sub [0, 1, 2, 3, 4, 5, 6] rfl
      have hD : va_D A [(g0, .inr (2, [.int 0, .int (nI nv), .int (nI nc), .ref aL, .int (nI us), .ref aS, .int (nI dr), .ref aF, .ref aN, .ref aA, .int (nI as), .ref aO, .ref aV, .int la, .int bl, .ref aT, .int (nI th)])), (aL, .inl (kL, 4000, .inl lf)), (aS, .inl (kS, 501, .inl sf)), (aF, .inl (kF, 17, .inl ff)), (aN, .inl (kN, 500, .inl nf)), (aO, .inl (kO, 16, .inl (upd o1 (L / 2) (nI (1 - L % 2))))), (aV, .inl (kV, 16, .inl u1.1))] := hD.sub [0, 1, 2, 3, 4, 5, 6] (by decide) rfl
      have hq1 := fq_1 (by omega) ho1 hs1.2
      refine lv_istore_n (lv' := [(2, .int so), (0, .ref g0), (1, .int (nI L))]) hx hb dM_must_40 rfl hl (by decide) rfl (fun ls hl => ?_)
      refine lv_aload_n hx hb dM_must_41 rfl (lv_at hl 1 rfl) ?_
      have hFc := va_free (wc := [(g0, .inr (2, [.int 0, .int (nI nv), .int (nI nc), .ref aL, .int (nI us), .ref aS, .int (nI dr), .ref aF, .ref aN, .ref aA, .int (nI as), .ref aO, .ref aV, .int la, .int bl, .ref aT, .int (nI th)])), (aO, .inl (kO, 16, .inl (upd o1 (L / 2) (nI (1 - L % 2)))))]) hD hS hA [0, 5] rfl
      refine wc_v (wc_V (As := []) (rest := []) (n := 0) SF (k_M_free l dC dI tI _ g0 aL aS aF aN aA aO aV aT kO (upd o1 (L / 2) (nI (1 - L % 2))) nv nc us dr as th 0 la bl hnv) ml_M_69 im_M_free se_M_free in_M co_M_free (by decide +kernel) rfl rfl rfl ⟨Nat.le_of_ble_eq_true rfl, Nat.le_of_ble_eq_true rfl⟩ (va_recv (hK.sub (tys' := []) [] rfl) (hP.sub (ws' := [(g0, .inr (2, [.int 0, .int (nI nv), .int (nI nc), .ref aL, .int (nI us), .ref aS, .int (nI dr), .ref aF, .ref aN, .ref aA, .int (nI as), .ref aO, .ref aV, .int la, .int bl, .ref aT, .int (nI th)])), (aO, .inl (kO, 16, .inl (upd o1 (L / 2) (nI (1 - L % 2)))))]) [0, 5] rfl) (ci := 2) (q0 := 0) rfl rfl) (hP.sub [0, 5] rfl) (hD.sub [0, 5] (by decide) rfl) (hK.sub [4] rfl) hZ hX hS hFc rfl hl.1 (Nat.le_of_ble_eq_true rfl) dM_must_42 ⟨Nat.le_of_ble_eq_true rfl, Nat.le_of_ble_eq_true rfl⟩) hP hD hS hFc [0, 5] [1, 2, 3, 4, 6] (wr := [(aL, .inl (kL, 4000, .inl lf)), (aS, .inl (kS, 501, .inl sf)), (aF, .inl (kF, 17, .inl ff)), (aN, .inl (kN, 500, .inl nf)), (aV, .inl (kV, 16, .inl u1.1))]) rfl rfl rfl (by decide) (fun o2 H locs ho2 hP hD hS => ?_)
      have hP : va_P (dC, dI) vwCl [(g0, .inr (2, [.int 0, .int (nI nv), .int (nI nc), .ref aL, .int (nI us), .ref aS, .int (nI dr), .ref aF, .ref aN, .ref aA, .int (nI as), .ref aO, .ref aV, .int la, .int bl, .ref aT, .int (nI th)])), (aL, .inl (kL, 4000, .inl lf)), (aS, .inl (kS, 501, .inl sf)), (aF, .inl (kF, 17, .inl ff)), (aN, .inl (kN, 500, .inl nf)), (aO, .inl (kO, 16, .inl o2)), (aV, .inl (kV, 16, .inl u1.1))] H := hP.sub [5, 0, 1, 2, 3, 6, 4] rfl
      have hD : va_D A [(g0, .inr (2, [.int 0, .int (nI nv), .int (nI nc), .ref aL, .int (nI us), .ref aS, .int (nI dr), .ref aF, .ref aN, .ref aA, .int (nI as), .ref aO, .ref aV, .int la, .int bl, .ref aT, .int (nI th)])), (aL, .inl (kL, 4000, .inl lf)), (aS, .inl (kS, 501, .inl sf)), (aF, .inl (kF, 17, .inl ff)), (aN, .inl (kN, 500, .inl nf)), (aO, .inl (kO, 16, .inl o2)), (aV, .inl (kV, 16, .inl u1.1))] := hD.sub [5, 0, 1, 2, 3, 6, 4] (by decide) rfl
      refine lv_aload_n hx hb dM_must_45 rfl (lv_at hl 1 rfl) ?_
      refine lv_iload_n hx hb dM_must_46 rfl (lv_at hl 2 rfl) ?_
      refine lv_iconst (v := 1) hx hb dM_must_47 (by decide) ?_
      refine lv_ixor hx hb dM_must_48 ?_
      refine ls_topi (y := nI (mu_x L)) (mu_xor L (by omega)) ?_
      have hFc := va_free (wc := [(g0, .inr (2, [.int 0, .int (nI nv), .int (nI nc), .ref aL, .int (nI us), .ref aS, .int (nI dr), .ref aF, .ref aN, .ref aA, .int (nI as), .ref aO, .ref aV, .int la, .int bl, .ref aT, .int (nI th)])), (aO, .inl (kO, 16, .inl o2))]) hD hS hA [0, 5] rfl
      refine wc_i (wc_V (As := [.int (nI (mu_x L))]) (rest := []) (n := 1) SF (k_M_force l dC dI tI _ g0 aL aS aF aN aA aO aV aT kO o2 nv nc us dr as th 0 la bl (mu_x L) (mu_lt (by omega))) ml_M_72 im_M_force se_M_force in_M co_M_force (by decide +kernel) rfl rfl rfl ⟨Nat.le_of_ble_eq_true rfl, Nat.le_of_ble_eq_true rfl⟩ (va_recv (hK.sub (tys' := []) [] rfl) (hP.sub (ws' := [(g0, .inr (2, [.int 0, .int (nI nv), .int (nI nc), .ref aL, .int (nI us), .ref aS, .int (nI dr), .ref aF, .ref aN, .ref aA, .int (nI as), .ref aO, .ref aV, .int la, .int bl, .ref aT, .int (nI th)])), (aO, .inl (kO, 16, .inl o2))]) [0, 5] rfl) (ci := 2) (q0 := 0) rfl rfl) (hP.sub [0, 5] rfl) (hD.sub [0, 5] (by decide) rfl) (hK.sub [4] rfl) hZ hX hS hFc rfl hl.1 (Nat.le_of_ble_eq_true rfl) dM_must_49 ⟨Nat.le_of_ble_eq_true rfl, Nat.le_of_ble_eq_true rfl⟩) hP hD hS hFc [0, 5] [1, 2, 3, 4, 6] (wr := [(aL, .inl (kL, 4000, .inl lf)), (aS, .inl (kS, 501, .inl sf)), (aF, .inl (kF, 17, .inl ff)), (aN, .inl (kN, 500, .inl nf)), (aV, .inl (kV, 16, .inl u1.1))]) rfl rfl rfl (by decide) (fun z4 uu4 H locs hw4 hP hD hS => ?_)
      have hP : va_P (dC, dI) vwCl [(g0, .inr (2, [.int 0, .int (nI nv), .int (nI nc), .ref aL, .int (nI us), .ref aS, .int (nI dr), .ref aF, .ref aN, .ref aA, .int (nI as), .ref aO, .ref aV, .int la, .int bl, .ref aT, .int (nI th)])), (aL, .inl (kL, 4000, .inl lf)), (aS, .inl (kS, 501, .inl sf)), (aF, .inl (kF, 17, .inl ff)), (aN, .inl (kN, 500, .inl nf)), (aO, .inl (kO, 16, .inl (upd o2 (mu_x L / 2) (nI (1 - mu_x L % 2))))), (aV, .inl (kV, 16, .inl u1.1))] H := hP.sub [5, 0, 1, 2, 3, 6, 4] rfl
      have hD : va_D A [(g0, .inr (2, [.int 0, .int (nI nv), .int (nI nc), .ref aL, .int (nI us), .ref aS, .int (nI dr), .ref aF, .ref aN, .ref aA, .int (nI as), .ref aO, .ref aV, .int la, .int bl, .ref aT, .int (nI th)])), (aL, .inl (kL, 4000, .inl lf)), (aS, .inl (kS, 501, .inl sf)), (aF, .inl (kF, 17, .inl ff)), (aN, .inl (kN, 500, .inl nf)), (aO, .inl (kO, 16, .inl (upd o2 (mu_x L / 2) (nI (1 - mu_x L % 2))))), (aV, .inl (kV, 16, .inl u1.1))] := hD.sub [5, 0, 1, 2, 3, 6, 4] (by decide) rfl
      refine lv_pop hx hb dM_must_52 rfl ?_
      refine lv_aload_n hx hb dM_must_53 rfl (lv_at hl 1 rfl) ?_
      have hFc := va_free (wc := [(g0, .inr (2, [.int 0, .int (nI nv), .int (nI nc), .ref aL, .int (nI us), .ref aS, .int (nI dr), .ref aF, .ref aN, .ref aA, .int (nI as), .ref aO, .ref aV, .int la, .int bl, .ref aT, .int (nI th)])), (aL, .inl (kL, 4000, .inl lf)), (aS, .inl (kS, 501, .inl sf)), (aF, .inl (kF, 17, .inl ff)), (aN, .inl (kN, 500, .inl nf)), (aO, .inl (kO, 16, .inl (upd o2 (mu_x L / 2) (nI (1 - mu_x L % 2))))), (aV, .inl (kV, 16, .inl u1.1))]) hD hS hA [0, 1, 2, 3, 4, 5, 6] rfl
      refine wc_i (wc_V (As := []) (rest := []) (n := 0) SF (k_M_search l dC dI tI _ g0 aL aS aF aN aA aO aV aT kL kS kF kN kO kV lf sf ff nf (upd o2 (mu_x L / 2) (nI (1 - mu_x L % 2))) u1.1 nv nc us dr as th 0 la bl lit st u1.2 ch hnv hch h16 hdp (is_v (fun v hv => Or.inl (ho2 v hv))) hs1.1) ml_M_75 im_M_search se_M_search in_M co_M_search (by decide +kernel) rfl rfl rfl ⟨Nat.le_of_ble_eq_true rfl, Nat.le_of_ble_eq_true rfl⟩ (va_recv (hK.sub (tys' := []) [] rfl) (hP.sub (ws' := [(g0, .inr (2, [.int 0, .int (nI nv), .int (nI nc), .ref aL, .int (nI us), .ref aS, .int (nI dr), .ref aF, .ref aN, .ref aA, .int (nI as), .ref aO, .ref aV, .int la, .int bl, .ref aT, .int (nI th)])), (aL, .inl (kL, 4000, .inl lf)), (aS, .inl (kS, 501, .inl sf)), (aF, .inl (kF, 17, .inl ff)), (aN, .inl (kN, 500, .inl nf)), (aO, .inl (kO, 16, .inl (upd o2 (mu_x L / 2) (nI (1 - mu_x L % 2))))), (aV, .inl (kV, 16, .inl u1.1))]) [0, 1, 2, 3, 4, 5, 6] rfl) (ci := 2) (q0 := 0) rfl rfl) (hP.sub [0, 1, 2, 3, 4, 5, 6] rfl) (hD.sub [0, 1, 2, 3, 4, 5, 6] (by decide) rfl) (hK.sub [0, 1, 2, 3, 4, 5] rfl) hZ hX hS hFc rfl hl.1 (Nat.le_of_ble_eq_true rfl) dM_must_54 ⟨Nat.le_of_ble_eq_true rfl, Nat.le_of_ble_eq_true rfl⟩) hP hD hS hFc [0, 1, 2, 3, 4, 5, 6] [] (wr := []) rfl rfl rfl (by decide) (fun no u2 H locs hs2 hP hD hS => ?_)
      have hP : va_P (dC, dI) vwCl [(g0, .inr (2, [.int 0, .int (nI nv), .int (nI nc), .ref aL, .int (nI us), .ref aS, .int (nI dr), .ref aF, .ref aN, .ref aA, .int (nI as), .ref aO, .ref aV, .int la, .int bl, .ref aT, .int (nI th)])), (aL, .inl (kL, 4000, .inl lf)), (aS, .inl (kS, 501, .inl sf)), (aF, .inl (kF, 17, .inl ff)), (aN, .inl (kN, 500, .inl nf)), (aO, .inl (kO, 16, .inl (upd o2 (mu_x L / 2) (nI (1 - mu_x L % 2))))), (aV, .inl (kV, 16, .inl u2.1))] H := hP.sub [0, 1, 2, 3, 4, 5, 6] rfl
      have hD : va_D A [(g0, .inr (2, [.int 0, .int (nI nv), .int (nI nc), .ref aL, .int (nI us), .ref aS, .int (nI dr), .ref aF, .ref aN, .ref aA, .int (nI as), .ref aO, .ref aV, .int la, .int bl, .ref aT, .int (nI th)])), (aL, .inl (kL, 4000, .inl lf)), (aS, .inl (kS, 501, .inl sf)), (aF, .inl (kF, 17, .inl ff)), (aN, .inl (kN, 500, .inl nf)), (aO, .inl (kO, 16, .inl (upd o2 (mu_x L / 2) (nI (1 - mu_x L % 2))))), (aV, .inl (kV, 16, .inl u2.1))] := hD.sub [0, 1, 2, 3, 4, 5, 6] (by decide) rfl
      have hq2 := fq_1 (mu_half (by omega)) ho2 hs2.2
      refine lv_istore_n (lv' := [(3, .int no), (2, .int so), (0, .ref g0), (1, .int (nI L))]) hx hb dM_must_57 rfl hl (by decide) rfl (fun ls hl => ?_)
      refine lv_iload_n hx hb dM_must_58 rfl (lv_at hl 1 rfl) ?_
      refine lv_if_eq (tgt := 74) hx hb dM_must_59 (by decide) (fun c5 => ?_) (fun c5 => ?_)
      · have k1 := sv_P0 hq1 c5
        refine lv_iload_n hx hb dM_must_74 rfl (lv_at hl 0 rfl) ?_
        refine lv_if_eq (tgt := 82) hx hb dM_must_75 (by decide) (fun c6 => ?_) (fun c6 => ?_)
        · have k2 := sv_P0 hq2 c6
          refine lv_iconst (v := (-1)) hx hb dM_must_82 (by decide) ?_
          exact (W.iret (v := (-1)) hx hb hr (fun t ht hW => ⟨⟨(-1), (upd o2 (mu_x L / 2) (nI (1 - mu_x L % 2)), u2.1, u2.2, 0), rfl, ⟨hs2.1, Or.inr ⟨rfl, L, hL, rfl, Or.inr (Or.inr (Or.inr ⟨k1, k2, rfl⟩))⟩⟩, by rw [ht]; exact hP, va_K.moved hW.alike hK, hD⟩, hS.F ht⟩) hS.2.2 dM_must_83)
        · have k2 := (sv_P1 hq2 c6).2
          refine lv_iconst (v := 0) hx hb dM_must_78 (by decide) ?_
          refine lv_goto (tgt := 83) hx hb dM_must_79 (by decide) ?_
          exact (W.iret (v := 0) hx hb hr (fun t ht hW => ⟨⟨0, (upd o2 (mu_x L / 2) (nI (1 - mu_x L % 2)), u2.1, u2.2, 0), rfl, ⟨hs2.1, Or.inr ⟨rfl, L, hL, rfl, Or.inr (Or.inr (Or.inl ⟨k1, k2, rfl⟩))⟩⟩, by rw [ht]; exact hP, va_K.moved hW.alike hK, hD⟩, hS.F ht⟩) hS.2.2 dM_must_83)
      · have k1 := (sv_P1 hq1 c5).2
        refine lv_iload_n hx hb dM_must_62 rfl (lv_at hl 0 rfl) ?_
        refine lv_if_eq (tgt := 70) hx hb dM_must_63 (by decide) (fun c6 => ?_) (fun c6 => ?_)
        · have k2 := sv_P0 hq2 c6
          refine lv_iconst (v := 1) hx hb dM_must_70 (by decide) ?_
          refine lv_goto (tgt := 83) hx hb dM_must_71 (by decide) ?_
          exact (W.iret (v := 1) hx hb hr (fun t ht hW => ⟨⟨1, (upd o2 (mu_x L / 2) (nI (1 - mu_x L % 2)), u2.1, u2.2, 0), rfl, ⟨hs2.1, Or.inr ⟨rfl, L, hL, rfl, Or.inr (Or.inl ⟨k1, k2, rfl⟩)⟩⟩, by rw [ht]; exact hP, va_K.moved hW.alike hK, hD⟩, hS.F ht⟩) hS.2.2 dM_must_83)
        · have k2 := (sv_P1 hq2 c6).2
          refine lv_iconst (v := 2) hx hb dM_must_66 (by decide) ?_
          refine lv_goto (tgt := 83) hx hb dM_must_67 (by decide) ?_
          exact (W.iret (v := 2) hx hb hr (fun t ht hW => ⟨⟨2, (upd o2 (mu_x L / 2) (nI (1 - mu_x L % 2)), u2.1, u2.2, 0), rfl, ⟨hs2.1, Or.inr ⟨rfl, L, hL, rfl, Or.inl ⟨k1, k2, rfl⟩⟩⟩, by rw [ht]; exact hP, va_K.moved hW.alike hK, hD⟩, hS.F ht⟩) hS.2.2 dM_must_83)
    · exact absurd (by decide) c9
set_option maxHeartbeats 4000000 in
set_option maxRecDepth 100000 in
theorem k_M_solve (l : Launch) (dC : Nat → ClassId) (dI : Nat → Nat → Nat) (tI sz : Nat) (g0 aL aS aF aN aA aO aV aT : Nat) (kL kS kF kN kA kO kV kT : ClassId) (lf sf ff nf af of vf tf : Nat → Int32) (nv nc us dr as th : Nat) (co la bl : Int32) (lit st vv0 : Nat → Nat) (ch : Nat → List Nat) (hnv : nv ≤ 16) (hch : ∀ v, v < nv → lm_ch nf (ff v) (ch v) ∧ lm_C lf sf lit st (ch v)) (h16 : ff 16 = -1 ↔ ch 16 = []) (hdp : se_D nv lit st ch) (an : Nat → Nat) (has : as ≤ 64) (han : ∀ j, j < as → af j = nI (an j) ∧ an j < 2 * nv) (hV0 : sv_V vf vv0) : Met l yM_solve (Cond.code yM_solve cM_solve 3 (some .boolean) :: GG) (lvr 3 0 0) (va_Pc [.ref g0] (wPre dC dI [(kL, .int), (kS, .int), (kF, .int), (kN, .int), (kA, .int), (kO, .int), (kV, .int), (kT, .int)] [(g0, .inr (2, [.int co, .int (nI nv), .int (nI nc), .ref aL, .int (nI us), .ref aS, .int (nI dr), .ref aF, .ref aN, .ref aA, .int (nI as), .ref aO, .ref aV, .int la, .int bl, .ref aT, .int (nI th)])), (aL, .inl (kL, 4000, .inl lf)), (aS, .inl (kS, 501, .inl sf)), (aF, .inl (kF, 17, .inl ff)), (aN, .inl (kN, 500, .inl nf)), (aA, .inl (kA, 64, .inl af)), (aO, .inl (kO, 16, .inl of)), (aV, .inl (kV, 16, .inl vf)), (aT, .inl (kT, 16, .inl tf))] sz tI)) (va_Qi (fun (r : Int32) (u : (Nat → Int32) × (Nat → Int32) × (Nat → Nat) × (Nat → Int32) × Int32 × Int32) => sv_V u.2.1 u.2.2.1 ∧ ((r = 1 ∧ u.2.2.2.2.1 = 1 ∧ u.2.2.2.2.2 = -1 ∧ sv_P nv lit st ch (sv_A an as) 1 u.2.2.1 ∧ ∀ k, k < nv → u.2.2.2.1 k = nI (u.2.2.1 k)) ∨ (r = 0 ∧ u.2.2.2.2.1 = 2 ∧ ∃ kb, kb ≤ as ∧ u.2.2.2.2.2 = nI kb ∧ ¬ sv_sat nv lit st ch (sv_A an kb) ∧ (kb = 0 ∨ sv_sat nv lit st ch (sv_A an (kb - 1)))))) (fun u t => wB dC dI [(kL, .int), (kS, .int), (kF, .int), (kN, .int), (kA, .int), (kO, .int), (kV, .int), (kT, .int)] (va_A [(g0, .inr (2, [.int co, .int (nI nv), .int (nI nc), .ref aL, .int (nI us), .ref aS, .int (nI dr), .ref aF, .ref aN, .ref aA, .int (nI as), .ref aO, .ref aV, .int la, .int bl, .ref aT, .int (nI th)])), (aL, .inl (kL, 4000, .inl lf)), (aS, .inl (kS, 501, .inl sf)), (aF, .inl (kF, 17, .inl ff)), (aN, .inl (kN, 500, .inl nf)), (aA, .inl (kA, 64, .inl af)), (aO, .inl (kO, 16, .inl of)), (aV, .inl (kV, 16, .inl vf)), (aT, .inl (kT, 16, .inl tf))] sz) [(g0, .inr (2, [.int 0, .int (nI nv), .int (nI nc), .ref aL, .int (nI us), .ref aS, .int (nI dr), .ref aF, .ref aN, .ref aA, .int 0, .ref aO, .ref aV, .int u.2.2.2.2.1, .int u.2.2.2.2.2, .ref aT, .int (nI nv)])), (aL, .inl (kL, 4000, .inl lf)), (aS, .inl (kS, 501, .inl sf)), (aF, .inl (kF, 17, .inl ff)), (aN, .inl (kN, 500, .inl nf)), (aA, .inl (kA, 64, .inl af)), (aO, .inl (kO, 16, .inl u.1)), (aV, .inl (kV, 16, .inl u.2.1)), (aT, .inl (kT, 16, .inl u.2.2.2.1))] t) (va_A [(g0, .inr (2, [.int co, .int (nI nv), .int (nI nc), .ref aL, .int (nI us), .ref aS, .int (nI dr), .ref aF, .ref aN, .ref aA, .int (nI as), .ref aO, .ref aV, .int la, .int bl, .ref aT, .int (nI th)])), (aL, .inl (kL, 4000, .inl lf)), (aS, .inl (kS, 501, .inl sf)), (aF, .inl (kF, 17, .inl ff)), (aN, .inl (kN, 500, .inl nf)), (aA, .inl (kA, 64, .inl af)), (aO, .inl (kO, 16, .inl of)), (aV, .inl (kV, 16, .inl vf)), (aT, .inl (kT, 16, .inl tf))] sz)) 0 0 (va_A [(g0, .inr (2, [.int co, .int (nI nv), .int (nI nc), .ref aL, .int (nI us), .ref aS, .int (nI dr), .ref aF, .ref aN, .ref aA, .int (nI as), .ref aO, .ref aV, .int la, .int bl, .ref aT, .int (nI th)])), (aL, .inl (kL, 4000, .inl lf)), (aS, .inl (kS, 501, .inl sf)), (aF, .inl (kF, 17, .inl ff)), (aN, .inl (kN, 500, .inl nf)), (aA, .inl (kA, 64, .inl af)), (aO, .inl (kO, 16, .inl of)), (aV, .inl (kV, 16, .inl vf)), (aT, .inl (kT, 16, .inl tf))] sz) := by
  refine Met.ofW (cc := cM_solve) (maxL := 3) (ret := (some .boolean)) (by decide) rfl ?_
  intro p e s m args below meth c s₁ B hml hv
  obtain ⟨rfl, hsz, hP, hK, hD0, hZ, hX⟩ := hv
  have hx := B.exec
  have hb := B.bytes
  have hr := B.returns
  have hts : ∀ w ∈ GG, w.before ([.ref g0] : List Value).toArray s = true := fun w h => atoms_spec (ws := _ :: GG) B.pre w (List.mem_cons_of_mem _ h)
  have hown : s.vm.findClass RM = some m.cls := findClass_of_methodNamed B.named
  have hlocks := B.notSynchronized
  subst hsz
  have hD := hD0.self (sz := s.heap.size)
  generalize hAe : va_A [(g0, .inr (2, [.int co, .int (nI nv), .int (nI nc), .ref aL, .int (nI us), .ref aS, .int (nI dr), .ref aF, .ref aN, .ref aA, .int (nI as), .ref aO, .ref aV, .int la, .int bl, .ref aT, .int (nI th)])), (aL, .inl (kL, 4000, .inl lf)), (aS, .inl (kS, 501, .inl sf)), (aF, .inl (kF, 17, .inl ff)), (aN, .inl (kN, 500, .inl nf)), (aA, .inl (kA, 64, .inl af)), (aO, .inl (kO, 16, .inl of)), (aV, .inl (kV, 16, .inl vf)), (aT, .inl (kT, 16, .inl tf))] s.heap.size = A at hD hZ ⊢
  have hA : ∀ q : Nat, s.heap.size ≤ q → A q := fun q h => by rw [← hAe]; exact Or.inr h
  have hS : va_S A s.heap s.heap [] := va_S.rf
  have hl := lv_entry ([.ref g0]) (n := 3) (Nat.le_of_ble_eq_true rfl)
  rw [lg_entry_eq]
  generalize (lg_sl ([.ref g0]) ++ List.replicate (3 - (lg_sl ([.ref g0])).length) Slot.unset).toArray = ls at hl ⊢
  have hl : lv_has ls 3 [(0, .ref g0)] := hl
  have SF : CallFix p m c cM_solve 3 s ([.ref g0] : List Value).toArray GG RM := ⟨hx, hb, hml, hown, hts⟩
  skip
  have hP : va_P (dC, dI) vwCl [(g0, .inr (2, [.int co, .int (nI nv), .int (nI nc), .ref aL, .int (nI us), .ref aS, .int (nI dr), .ref aF, .ref aN, .ref aA, .int (nI as), .ref aO, .ref aV, .int la, .int bl, .ref aT, .int (nI th)])), (aL, .inl (kL, 4000, .inl lf)), (aS, .inl (kS, 501, .inl sf)), (aF, .inl (kF, 17, .inl ff)), (aN, .inl (kN, 500, .inl nf)), (aA, .inl (kA, 64, .inl af)), (aO, .inl (kO, 16, .inl of)), (aV, .inl (kV, 16, .inl vf)), (aT, .inl (kT, 16, .inl tf))] s.heap := hP
  refine lv_aload_n hx hb dM_solve_0 rfl (lv_at hl 0 rfl) ?_
  refine lv_iconst (v := 0) hx hb dM_solve_1 (by decide) ?_
  refine va_put (D := (dC, dI)) (ci := 2) (v := .int 0) (ty := .int) (C := RM) (T := TM) (N := 17) hx hb hts lyM tyM tyM_ok nmM hown hK hP hD hS 0 rfl rfl 0 (by decide) (hts _ fl_M_37) (fun _ h9 => h9) rfl (by decide +kernel) rfl rfl (Nat.le_of_ble_eq_true rfl) dM_solve_2 (fun H locs hP hD hS => ?_)
  have hP : va_P (dC, dI) vwCl [(g0, .inr (2, [.int 0, .int (nI nv), .int (nI nc), .ref aL, .int (nI us), .ref aS, .int (nI dr), .ref aF, .ref aN, .ref aA, .int (nI as), .ref aO, .ref aV, .int la, .int bl, .ref aT, .int (nI th)])), (aL, .inl (kL, 4000, .inl lf)), (aS, .inl (kS, 501, .inl sf)), (aF, .inl (kF, 17, .inl ff)), (aN, .inl (kN, 500, .inl nf)), (aA, .inl (kA, 64, .inl af)), (aO, .inl (kO, 16, .inl of)), (aV, .inl (kV, 16, .inl vf)), (aT, .inl (kT, 16, .inl tf))] H := hP
  have hD : va_D A [(g0, .inr (2, [.int 0, .int (nI nv), .int (nI nc), .ref aL, .int (nI us), .ref aS, .int (nI dr), .ref aF, .ref aN, .ref aA, .int (nI as), .ref aO, .ref aV, .int la, .int bl, .ref aT, .int (nI th)])), (aL, .inl (kL, 4000, .inl lf)), (aS, .inl (kS, 501, .inl sf)), (aF, .inl (kF, 17, .inl ff)), (aN, .inl (kN, 500, .inl nf)), (aA, .inl (kA, 64, .inl af)), (aO, .inl (kO, 16, .inl of)), (aV, .inl (kV, 16, .inl vf)), (aT, .inl (kT, 16, .inl tf))] := hD
  refine lv_aload_n hx hb dM_solve_5 rfl (lv_at hl 0 rfl) ?_
  refine lv_aload_n hx hb dM_solve_6 rfl (lv_at hl 0 rfl) ?_
  refine va_get (D := (dC, dI)) (ci := 2) (v := .int (nI nv)) (C := RM) (T := TM) (N := 17) hx hb hts lyM hown hK hP 0 rfl rfl 1 (by decide) (hts _ fl_M_41) (fun _ h9 => h9) rfl dM_solve_7 ?_
  refine va_put (D := (dC, dI)) (ci := 2) (v := .int (nI nv)) (ty := .int) (C := RM) (T := TM) (N := 17) hx hb hts lyM tyM tyM_ok nmM hown hK hP hD hS 0 rfl rfl 16 (by decide) (hts _ fl_M_59) (fun _ h9 => h9) rfl (by decide +kernel) rfl rfl (Nat.le_of_ble_eq_true rfl) dM_solve_10 (fun H locs hP hD hS => ?_)
  have hP : va_P (dC, dI) vwCl [(g0, .inr (2, [.int 0, .int (nI nv), .int (nI nc), .ref aL, .int (nI us), .ref aS, .int (nI dr), .ref aF, .ref aN, .ref aA, .int (nI as), .ref aO, .ref aV, .int la, .int bl, .ref aT, .int (nI nv)])), (aL, .inl (kL, 4000, .inl lf)), (aS, .inl (kS, 501, .inl sf)), (aF, .inl (kF, 17, .inl ff)), (aN, .inl (kN, 500, .inl nf)), (aA, .inl (kA, 64, .inl af)), (aO, .inl (kO, 16, .inl of)), (aV, .inl (kV, 16, .inl vf)), (aT, .inl (kT, 16, .inl tf))] H := hP
  have hD : va_D A [(g0, .inr (2, [.int 0, .int (nI nv), .int (nI nc), .ref aL, .int (nI us), .ref aS, .int (nI dr), .ref aF, .ref aN, .ref aA, .int (nI as), .ref aO, .ref aV, .int la, .int bl, .ref aT, .int (nI nv)])), (aL, .inl (kL, 4000, .inl lf)), (aS, .inl (kS, 501, .inl sf)), (aF, .inl (kF, 17, .inl ff)), (aN, .inl (kN, 500, .inl nf)), (aA, .inl (kA, 64, .inl af)), (aO, .inl (kO, 16, .inl of)), (aV, .inl (kV, 16, .inl vf)), (aT, .inl (kT, 16, .inl tf))] := hD
  refine lv_aload_n hx hb dM_solve_13 rfl (lv_at hl 0 rfl) ?_
  refine lv_aload_n hx hb dM_solve_14 rfl (lv_at hl 0 rfl) ?_
  refine va_get (D := (dC, dI)) (ci := 2) (v := .int (nI as)) (C := RM) (T := TM) (N := 17) hx hb hts lyM hown hK hP 0 rfl rfl 10 (by decide) (hts _ fl_M_53) (fun _ h9 => h9) rfl dM_solve_15 ?_
  have hFc := va_free (wc := [(g0, .inr (2, [.int 0, .int (nI nv), .int (nI nc), .ref aL, .int (nI us), .ref aS, .int (nI dr), .ref aF, .ref aN, .ref aA, .int (nI as), .ref aO, .ref aV, .int la, .int bl, .ref aT, .int (nI nv)])), (aL, .inl (kL, 4000, .inl lf)), (aS, .inl (kS, 501, .inl sf)), (aF, .inl (kF, 17, .inl ff)), (aN, .inl (kN, 500, .inl nf)), (aA, .inl (kA, 64, .inl af)), (aO, .inl (kO, 16, .inl of)), (aV, .inl (kV, 16, .inl vf))]) hD hS hA [0, 1, 2, 3, 4, 5, 6, 7] rfl
  refine wc_i (wc_V (As := [.int (nI as)]) (rest := []) (n := 1) SF (k_M_isSolved l dC dI tI _ g0 aL aS aF aN aA aO aV aT kL kS kF kN kA kO kV lf sf ff nf af of vf nv nc us dr as nv 0 la bl lit st vv0 ch hnv hch h16 hdp an has han hV0 as (Nat.le_refl _)) ml_M_79 im_M_isSolved se_M_isSolved in_M co_M_isSolved (by decide +kernel) rfl rfl rfl ⟨Nat.le_of_ble_eq_true rfl, Nat.le_of_ble_eq_true rfl⟩ (va_recv (hK.sub (tys' := []) [] rfl) (hP.sub (ws' := [(g0, .inr (2, [.int 0, .int (nI nv), .int (nI nc), .ref aL, .int (nI us), .ref aS, .int (nI dr), .ref aF, .ref aN, .ref aA, .int (nI as), .ref aO, .ref aV, .int la, .int bl, .ref aT, .int (nI nv)])), (aL, .inl (kL, 4000, .inl lf)), (aS, .inl (kS, 501, .inl sf)), (aF, .inl (kF, 17, .inl ff)), (aN, .inl (kN, 500, .inl nf)), (aA, .inl (kA, 64, .inl af)), (aO, .inl (kO, 16, .inl of)), (aV, .inl (kV, 16, .inl vf))]) [0, 1, 2, 3, 4, 5, 6, 7] rfl) (ci := 2) (q0 := 0) rfl rfl) (hP.sub [0, 1, 2, 3, 4, 5, 6, 7] rfl) (hD.sub [0, 1, 2, 3, 4, 5, 6, 7] (by decide) rfl) (hK.sub [0, 1, 2, 3, 4, 5, 6] rfl) hZ hX hS hFc rfl hl.1 (Nat.le_of_ble_eq_true rfl) dM_solve_18 ⟨Nat.le_of_ble_eq_true rfl, Nat.le_of_ble_eq_true rfl⟩) hP hD hS hFc [0, 1, 2, 3, 4, 5, 6, 7] [8] (wr := [(aT, .inl (kT, 16, .inl tf))]) rfl rfl rfl (by decide) (fun z u1 H locs hs1 hP hD hS => ?_)
  have hP : va_P (dC, dI) vwCl [(g0, .inr (2, [.int 0, .int (nI nv), .int (nI nc), .ref aL, .int (nI us), .ref aS, .int (nI dr), .ref aF, .ref aN, .ref aA, .int (nI as), .ref aO, .ref aV, .int la, .int bl, .ref aT, .int (nI nv)])), (aL, .inl (kL, 4000, .inl lf)), (aS, .inl (kS, 501, .inl sf)), (aF, .inl (kF, 17, .inl ff)), (aN, .inl (kN, 500, .inl nf)), (aA, .inl (kA, 64, .inl af)), (aO, .inl (kO, 16, .inl u1.1)), (aV, .inl (kV, 16, .inl u1.2.1)), (aT, .inl (kT, 16, .inl tf))] H := hP.sub [1, 2, 3, 4, 5, 6, 7, 8, 0] rfl
  have hD : va_D A [(g0, .inr (2, [.int 0, .int (nI nv), .int (nI nc), .ref aL, .int (nI us), .ref aS, .int (nI dr), .ref aF, .ref aN, .ref aA, .int (nI as), .ref aO, .ref aV, .int la, .int bl, .ref aT, .int (nI nv)])), (aL, .inl (kL, 4000, .inl lf)), (aS, .inl (kS, 501, .inl sf)), (aF, .inl (kF, 17, .inl ff)), (aN, .inl (kN, 500, .inl nf)), (aA, .inl (kA, 64, .inl af)), (aO, .inl (kO, 16, .inl u1.1)), (aV, .inl (kV, 16, .inl u1.2.1)), (aT, .inl (kT, 16, .inl tf))] := hD.sub [1, 2, 3, 4, 5, 6, 7, 8, 0] (by decide) rfl
  refine lv_istore_n (lv' := [(1, .int z), (0, .ref g0)]) hx hb dM_solve_21 rfl hl (by decide) rfl (fun ls hl => ?_)
  refine lv_aload_n hx hb dM_solve_22 rfl (lv_at hl 1 rfl) ?_
  refine lv_iload_n hx hb dM_solve_23 rfl (lv_at hl 0 rfl) ?_
  refine lv_if_eq (tgt := 31) hx hb dM_solve_24 (by decide) (fun c1 => ?_) (fun c1 => ?_)
  · have hun := sv_P0 hs1.2 c1
    refine lv_iconst (v := 2) hx hb dM_solve_31 (by decide) ?_
    refine va_put (D := (dC, dI)) (ci := 2) (v := .int 2) (ty := .int) (C := RM) (T := TM) (N := 17) hx hb hts lyM tyM tyM_ok nmM hown hK hP hD hS 0 rfl rfl 13 (by decide) (hts _ fl_M_56) (fun _ h9 => h9) rfl (by decide +kernel) rfl rfl (Nat.le_of_ble_eq_true rfl) dM_solve_32 (fun H locs hP hD hS => ?_)
    have hP : va_P (dC, dI) vwCl [(g0, .inr (2, [.int 0, .int (nI nv), .int (nI nc), .ref aL, .int (nI us), .ref aS, .int (nI dr), .ref aF, .ref aN, .ref aA, .int (nI as), .ref aO, .ref aV, .int 2, .int bl, .ref aT, .int (nI nv)])), (aL, .inl (kL, 4000, .inl lf)), (aS, .inl (kS, 501, .inl sf)), (aF, .inl (kF, 17, .inl ff)), (aN, .inl (kN, 500, .inl nf)), (aA, .inl (kA, 64, .inl af)), (aO, .inl (kO, 16, .inl u1.1)), (aV, .inl (kV, 16, .inl u1.2.1)), (aT, .inl (kT, 16, .inl tf))] H := hP
    have hD : va_D A [(g0, .inr (2, [.int 0, .int (nI nv), .int (nI nc), .ref aL, .int (nI us), .ref aS, .int (nI dr), .ref aF, .ref aN, .ref aA, .int (nI as), .ref aO, .ref aV, .int 2, .int bl, .ref aT, .int (nI nv)])), (aL, .inl (kL, 4000, .inl lf)), (aS, .inl (kS, 501, .inl sf)), (aF, .inl (kF, 17, .inl ff)), (aN, .inl (kN, 500, .inl nf)), (aA, .inl (kA, 64, .inl af)), (aO, .inl (kO, 16, .inl u1.1)), (aV, .inl (kV, 16, .inl u1.2.1)), (aT, .inl (kT, 16, .inl tf))] := hD
    refine lv_aload_n hx hb dM_solve_35 rfl (lv_at hl 1 rfl) ?_
    refine lv_iconst (v := (-1)) hx hb dM_solve_36 (by decide) ?_
    refine va_put (D := (dC, dI)) (ci := 2) (v := .int (-1)) (ty := .int) (C := RM) (T := TM) (N := 17) hx hb hts lyM tyM tyM_ok nmM hown hK hP hD hS 0 rfl rfl 14 (by decide) (hts _ fl_M_82) (fun _ h9 => h9) rfl (by decide +kernel) rfl rfl (Nat.le_of_ble_eq_true rfl) dM_solve_37 (fun H locs hP hD hS => ?_)
    have hP : va_P (dC, dI) vwCl [(g0, .inr (2, [.int 0, .int (nI nv), .int (nI nc), .ref aL, .int (nI us), .ref aS, .int (nI dr), .ref aF, .ref aN, .ref aA, .int (nI as), .ref aO, .ref aV, .int 2, .int (-1), .ref aT, .int (nI nv)])), (aL, .inl (kL, 4000, .inl lf)), (aS, .inl (kS, 501, .inl sf)), (aF, .inl (kF, 17, .inl ff)), (aN, .inl (kN, 500, .inl nf)), (aA, .inl (kA, 64, .inl af)), (aO, .inl (kO, 16, .inl u1.1)), (aV, .inl (kV, 16, .inl u1.2.1)), (aT, .inl (kT, 16, .inl tf))] H := hP
    have hD : va_D A [(g0, .inr (2, [.int 0, .int (nI nv), .int (nI nc), .ref aL, .int (nI us), .ref aS, .int (nI dr), .ref aF, .ref aN, .ref aA, .int (nI as), .ref aO, .ref aV, .int 2, .int (-1), .ref aT, .int (nI nv)])), (aL, .inl (kL, 4000, .inl lf)), (aS, .inl (kS, 501, .inl sf)), (aF, .inl (kF, 17, .inl ff)), (aN, .inl (kN, 500, .inl nf)), (aA, .inl (kA, 64, .inl af)), (aO, .inl (kO, 16, .inl u1.1)), (aV, .inl (kV, 16, .inl u1.2.1)), (aT, .inl (kT, 16, .inl tf))] := hD
    refine lv_iconst (v := 0) hx hb dM_solve_40 (by decide) ?_
    refine lv_istore_n (lv' := [(2, .int 0), (1, .int z), (0, .ref g0)]) hx hb dM_solve_41 rfl hl (by decide) rfl (fun ls hl => ?_)
    refine lv_iload_n hx hb dM_solve_42 rfl (lv_at hl 0 rfl) ?_
    refine lv_aload_n hx hb dM_solve_43 rfl (lv_at hl 2 rfl) ?_
    refine va_get (D := (dC, dI)) (ci := 2) (v := .int (nI nv)) (C := RM) (T := TM) (N := 17) hx hb hts lyM hown hK hP 0 rfl rfl 1 (by decide) (hts _ fl_M_41) (fun _ h9 => h9) rfl dM_solve_44 ?_
    refine lv_icmp_ge (tgt := 72) hx hb dM_solve_47 (by decide) (fun c2 => ?_) (fun c2 => ?_)
    · have c2 : nv ≤ 0 := (nI_leI (a := nv) (b := 0) (by omega) (by omega)).mp c2
      refine lv_aload_n hx hb dM_solve_72 rfl (lv_at hl 2 rfl) ?_
      refine va_get (D := (dC, dI)) (ci := 2) (v := .int (nI as)) (C := RM) (T := TM) (N := 17) hx hb hts lyM hown hK hP 0 rfl rfl 10 (by decide) (hts _ fl_M_53) (fun _ h9 => h9) rfl dM_solve_73 ?_
      refine lv_istore_n (lv' := [(2, .int (nI as)), (1, .int z), (0, .ref g0)]) hx hb dM_solve_76 rfl hl (by decide) rfl (fun ls hl => ?_)
      refine lp_mu (α := Nat × (Nat → Int32) × (Nat → Int32) × (Nat → Nat) × Int32) (fun a_ => match a_ with | (m9, o, v, vv, b0) => m9) (fun a_ H locs ls => match a_ with | (m9, o, v, vv, b0) => (m9 ≤ as + 1 ∧ sv_V v vv ∧ (∀ j, m9 ≤ j → j ≤ as → ¬ sv_sat nv lit st ch (sv_A an j)) ∧ ((m9 = as + 1 ∧ b0 = -1) ∨ (m9 ≤ as ∧ b0 = nI m9))) ∧ va_P (dC, dI) vwCl [(g0, .inr (2, [.int 0, .int (nI nv), .int (nI nc), .ref aL, .int (nI us), .ref aS, .int (nI dr), .ref aF, .ref aN, .ref aA, .int (nI as), .ref aO, .ref aV, .int 2, .int b0, .ref aT, .int (nI nv)])), (aL, .inl (kL, 4000, .inl lf)), (aS, .inl (kS, 501, .inl sf)), (aF, .inl (kF, 17, .inl ff)), (aN, .inl (kN, 500, .inl nf)), (aA, .inl (kA, 64, .inl af)), (aO, .inl (kO, 16, .inl o)), (aV, .inl (kV, 16, .inl v)), (aT, .inl (kT, 16, .inl tf))] H ∧ va_D A [(g0, .inr (2, [.int 0, .int (nI nv), .int (nI nc), .ref aL, .int (nI us), .ref aS, .int (nI dr), .ref aF, .ref aN, .ref aA, .int (nI as), .ref aO, .ref aV, .int 2, .int b0, .ref aT, .int (nI nv)])), (aL, .inl (kL, 4000, .inl lf)), (aS, .inl (kS, 501, .inl sf)), (aF, .inl (kF, 17, .inl ff)), (aN, .inl (kN, 500, .inl nf)), (aA, .inl (kA, 64, .inl af)), (aO, .inl (kO, 16, .inl o)), (aV, .inl (kV, 16, .inl v)), (aT, .inl (kT, 16, .inl tf))] ∧ va_S A s.heap H locs ∧ lv_has ls 3 [(0, .ref g0), (1, .int z), (2, .int (sx m9))]) ?_ (as + 1, u1.1, u1.2.1, u1.2.2, (-1)) ⟨⟨Nat.le_refl _, hs1.1, fun j j1 j2 => absurd j1 (by omega), Or.inl ⟨rfl, rfl⟩⟩, hP, hD, hS, lv_sub hl [2, 1, 0] rfl⟩
      intro a_ H locs ls hI ih
      obtain ⟨m9, o, v, vv, b0⟩ := a_
      obtain ⟨hI, hP, hD, hS, hl⟩ := hI
      have hI : m9 ≤ as + 1 ∧ sv_V v vv ∧ (∀ j, m9 ≤ j → j ≤ as → ¬ sv_sat nv lit st ch (sv_A an j)) ∧ ((m9 = as + 1 ∧ b0 = -1) ∨ (m9 ≤ as ∧ b0 = nI m9)) := hI
      have hP : va_P (dC, dI) vwCl [(g0, .inr (2, [.int 0, .int (nI nv), .int (nI nc), .ref aL, .int (nI us), .ref aS, .int (nI dr), .ref aF, .ref aN, .ref aA, .int (nI as), .ref aO, .ref aV, .int 2, .int b0, .ref aT, .int (nI nv)])), (aL, .inl (kL, 4000, .inl lf)), (aS, .inl (kS, 501, .inl sf)), (aF, .inl (kF, 17, .inl ff)), (aN, .inl (kN, 500, .inl nf)), (aA, .inl (kA, 64, .inl af)), (aO, .inl (kO, 16, .inl o)), (aV, .inl (kV, 16, .inl v)), (aT, .inl (kT, 16, .inl tf))] H := hP
      have hD : va_D A [(g0, .inr (2, [.int 0, .int (nI nv), .int (nI nc), .ref aL, .int (nI us), .ref aS, .int (nI dr), .ref aF, .ref aN, .ref aA, .int (nI as), .ref aO, .ref aV, .int 2, .int b0, .ref aT, .int (nI nv)])), (aL, .inl (kL, 4000, .inl lf)), (aS, .inl (kS, 501, .inl sf)), (aF, .inl (kF, 17, .inl ff)), (aN, .inl (kN, 500, .inl nf)), (aA, .inl (kA, 64, .inl af)), (aO, .inl (kO, 16, .inl o)), (aV, .inl (kV, 16, .inl v)), (aT, .inl (kT, 16, .inl tf))] := hD
      have hl : lv_has ls 3 [(0, .ref g0), (1, .int z), (2, .int (sx m9))] := hl
      obtain ⟨hm, hVV, hall, hbl⟩ := hI
      rcases Nat.eq_zero_or_pos m9 with m0 | m0
      · subst m0
        have hl : lv_has ls 3 [(0, .ref g0), (1, .int z), (2, .int (-1))] := hl
        have hb0 : b0 = nI 0 := by
          rcases hbl with ⟨q, _⟩ | ⟨_, q⟩
          · exact absurd q (by omega)
          · exact q
        refine lv_iload_n hx hb dM_solve_77 rfl (lv_at hl 2 rfl) ?_
        refine lv_if_lt (tgt := 104) hx hb dM_solve_78 (by decide) (fun c4 => ?_) (fun c4 => ?_)
        · refine lv_aload_n hx hb dM_solve_104 rfl (lv_at hl 0 rfl) ?_
          refine lv_iconst (v := 0) hx hb dM_solve_105 (by decide) ?_
          refine va_put (D := (dC, dI)) (ci := 2) (v := .int 0) (ty := .int) (C := RM) (T := TM) (N := 17) hx hb hts lyM tyM tyM_ok nmM hown hK hP hD hS 0 rfl rfl 10 (by decide) (hts _ fl_M_53) (fun _ h9 => h9) rfl (by decide +kernel) rfl rfl (Nat.le_of_ble_eq_true rfl) dM_solve_106 (fun H locs hP hD hS => ?_)
          have hP : va_P (dC, dI) vwCl [(g0, .inr (2, [.int 0, .int (nI nv), .int (nI nc), .ref aL, .int (nI us), .ref aS, .int (nI dr), .ref aF, .ref aN, .ref aA, .int 0, .ref aO, .ref aV, .int 2, .int b0, .ref aT, .int (nI nv)])), (aL, .inl (kL, 4000, .inl lf)), (aS, .inl (kS, 501, .inl sf)), (aF, .inl (kF, 17, .inl ff)), (aN, .inl (kN, 500, .inl nf)), (aA, .inl (kA, 64, .inl af)), (aO, .inl (kO, 16, .inl o)), (aV, .inl (kV, 16, .inl v)), (aT, .inl (kT, 16, .inl tf))] H := hP
          have hD : va_D A [(g0, .inr (2, [.int 0, .int (nI nv), .int (nI nc), .ref aL, .int (nI us), .ref aS, .int (nI dr), .ref aF, .ref aN, .ref aA, .int 0, .ref aO, .ref aV, .int 2, .int b0, .ref aT, .int (nI nv)])), (aL, .inl (kL, 4000, .inl lf)), (aS, .inl (kS, 501, .inl sf)), (aF, .inl (kF, 17, .inl ff)), (aN, .inl (kN, 500, .inl nf)), (aA, .inl (kA, 64, .inl af)), (aO, .inl (kO, 16, .inl o)), (aV, .inl (kV, 16, .inl v)), (aT, .inl (kT, 16, .inl tf))] := hD
          refine lv_iload_n hx hb dM_solve_109 rfl (lv_at hl 1 rfl) ?_
          exact (W.zret (v := z) hx hb hr ((ax_b01 (sv_P01 hs1.2)).1) (fun t ht hW => ⟨⟨z, (o, v, vv, tf, 2, b0), rfl, ⟨hVV, Or.inr ⟨c1, rfl, 0, Nat.zero_le _, hb0, hall 0 (Nat.le_refl _) (Nat.zero_le _), Or.inl rfl⟩⟩, by rw [ht]; exact hP, va_K.moved hW.alike hK, hD⟩, hS.F ht⟩) hS.2.2 dM_solve_110)
        · exact absurd (by decide) c4
      · obtain ⟨k, rfl⟩ : ∃ k, m9 = k + 1 := ⟨m9 - 1, by omega⟩
        have hl : lv_has ls 3 [(0, .ref g0), (1, .int z), (2, .int (nI k))] := hl
        refine lv_iload_n hx hb dM_solve_77 rfl (lv_at hl 2 rfl) ?_
        refine lv_if_lt (tgt := 104) hx hb dM_solve_78 (by decide) (fun c4 => ?_) (fun c4 => ?_)
        · have c4 : k < 0 := (nI_ltI (a := k) (b := 0) (by omega) (by omega)).mp c4
          exact absurd c4 (Nat.not_lt_zero _)
        · have c4 : 0 ≤ k := Nat.le_of_not_lt (fun q => c4 ((nI_ltI (a := k) (b := 0) (by omega) (by omega)).mpr q))
          refine lv_iload_n hx hb dM_solve_81 rfl (lv_at hl 1 rfl) ?_
          refine lv_if_ne (tgt := 104) hx hb dM_solve_82 (by decide) (fun c5 => ?_) (fun c5 => ?_)
          · exact absurd c1 c5
          · refine lv_aload_n hx hb dM_solve_85 rfl (lv_at hl 0 rfl) ?_
            refine lv_iload_n hx hb dM_solve_86 rfl (lv_at hl 2 rfl) ?_
            have hFc := va_free (wc := [(g0, .inr (2, [.int 0, .int (nI nv), .int (nI nc), .ref aL, .int (nI us), .ref aS, .int (nI dr), .ref aF, .ref aN, .ref aA, .int (nI as), .ref aO, .ref aV, .int 2, .int b0, .ref aT, .int (nI nv)])), (aL, .inl (kL, 4000, .inl lf)), (aS, .inl (kS, 501, .inl sf)), (aF, .inl (kF, 17, .inl ff)), (aN, .inl (kN, 500, .inl nf)), (aA, .inl (kA, 64, .inl af)), (aO, .inl (kO, 16, .inl o)), (aV, .inl (kV, 16, .inl v))]) hD hS hA [0, 1, 2, 3, 4, 5, 6, 7] rfl
            refine wc_i (wc_V (As := [.int (nI k)]) (rest := []) (n := 1) SF (k_M_isSolved l dC dI tI _ g0 aL aS aF aN aA aO aV aT kL kS kF kN kA kO kV lf sf ff nf af o v nv nc us dr as nv 0 2 b0 lit st vv ch hnv hch h16 hdp an has han hVV k (by omega)) ml_M_79 im_M_isSolved se_M_isSolved in_M co_M_isSolved (by decide +kernel) rfl rfl rfl ⟨Nat.le_of_ble_eq_true rfl, Nat.le_of_ble_eq_true rfl⟩ (va_recv (hK.sub (tys' := []) [] rfl) (hP.sub (ws' := [(g0, .inr (2, [.int 0, .int (nI nv), .int (nI nc), .ref aL, .int (nI us), .ref aS, .int (nI dr), .ref aF, .ref aN, .ref aA, .int (nI as), .ref aO, .ref aV, .int 2, .int b0, .ref aT, .int (nI nv)])), (aL, .inl (kL, 4000, .inl lf)), (aS, .inl (kS, 501, .inl sf)), (aF, .inl (kF, 17, .inl ff)), (aN, .inl (kN, 500, .inl nf)), (aA, .inl (kA, 64, .inl af)), (aO, .inl (kO, 16, .inl o)), (aV, .inl (kV, 16, .inl v))]) [0, 1, 2, 3, 4, 5, 6, 7] rfl) (ci := 2) (q0 := 0) rfl rfl) (hP.sub [0, 1, 2, 3, 4, 5, 6, 7] rfl) (hD.sub [0, 1, 2, 3, 4, 5, 6, 7] (by decide) rfl) (hK.sub [0, 1, 2, 3, 4, 5, 6] rfl) hZ hX hS hFc rfl hl.1 (Nat.le_of_ble_eq_true rfl) dM_solve_87 ⟨Nat.le_of_ble_eq_true rfl, Nat.le_of_ble_eq_true rfl⟩) hP hD hS hFc [0, 1, 2, 3, 4, 5, 6, 7] [8] (wr := [(aT, .inl (kT, 16, .inl tf))]) rfl rfl rfl (by decide) (fun z5 u5 H locs hs5 hP hD hS => ?_)
            have hP : va_P (dC, dI) vwCl [(g0, .inr (2, [.int 0, .int (nI nv), .int (nI nc), .ref aL, .int (nI us), .ref aS, .int (nI dr), .ref aF, .ref aN, .ref aA, .int (nI as), .ref aO, .ref aV, .int 2, .int b0, .ref aT, .int (nI nv)])), (aL, .inl (kL, 4000, .inl lf)), (aS, .inl (kS, 501, .inl sf)), (aF, .inl (kF, 17, .inl ff)), (aN, .inl (kN, 500, .inl nf)), (aA, .inl (kA, 64, .inl af)), (aO, .inl (kO, 16, .inl u5.1)), (aV, .inl (kV, 16, .inl u5.2.1)), (aT, .inl (kT, 16, .inl tf))] H := hP.sub [1, 2, 3, 4, 5, 6, 7, 8, 0] rfl
            have hD : va_D A [(g0, .inr (2, [.int 0, .int (nI nv), .int (nI nc), .ref aL, .int (nI us), .ref aS, .int (nI dr), .ref aF, .ref aN, .ref aA, .int (nI as), .ref aO, .ref aV, .int 2, .int b0, .ref aT, .int (nI nv)])), (aL, .inl (kL, 4000, .inl lf)), (aS, .inl (kS, 501, .inl sf)), (aF, .inl (kF, 17, .inl ff)), (aN, .inl (kN, 500, .inl nf)), (aA, .inl (kA, 64, .inl af)), (aO, .inl (kO, 16, .inl u5.1)), (aV, .inl (kV, 16, .inl u5.2.1)), (aT, .inl (kT, 16, .inl tf))] := hD.sub [1, 2, 3, 4, 5, 6, 7, 8, 0] (by decide) rfl
            refine lv_if_ne (tgt := 104) hx hb dM_solve_90 (by decide) (fun c6 => ?_) (fun c6 => ?_)
            · have hsat := (sv_P1 hs5.2 c6).2
              have hb5 : k + 1 ≤ as ∧ b0 = nI (k + 1) := by
                rcases hbl with ⟨q, _⟩ | q
                · exact absurd (by rw [show as = k by omega]; exact hsat) hun
                · exact q
              refine lv_aload_n hx hb dM_solve_104 rfl (lv_at hl 0 rfl) ?_
              refine lv_iconst (v := 0) hx hb dM_solve_105 (by decide) ?_
              refine va_put (D := (dC, dI)) (ci := 2) (v := .int 0) (ty := .int) (C := RM) (T := TM) (N := 17) hx hb hts lyM tyM tyM_ok nmM hown hK hP hD hS 0 rfl rfl 10 (by decide) (hts _ fl_M_53) (fun _ h9 => h9) rfl (by decide +kernel) rfl rfl (Nat.le_of_ble_eq_true rfl) dM_solve_106 (fun H locs hP hD hS => ?_)
              have hP : va_P (dC, dI) vwCl [(g0, .inr (2, [.int 0, .int (nI nv), .int (nI nc), .ref aL, .int (nI us), .ref aS, .int (nI dr), .ref aF, .ref aN, .ref aA, .int 0, .ref aO, .ref aV, .int 2, .int b0, .ref aT, .int (nI nv)])), (aL, .inl (kL, 4000, .inl lf)), (aS, .inl (kS, 501, .inl sf)), (aF, .inl (kF, 17, .inl ff)), (aN, .inl (kN, 500, .inl nf)), (aA, .inl (kA, 64, .inl af)), (aO, .inl (kO, 16, .inl u5.1)), (aV, .inl (kV, 16, .inl u5.2.1)), (aT, .inl (kT, 16, .inl tf))] H := hP
              have hD : va_D A [(g0, .inr (2, [.int 0, .int (nI nv), .int (nI nc), .ref aL, .int (nI us), .ref aS, .int (nI dr), .ref aF, .ref aN, .ref aA, .int 0, .ref aO, .ref aV, .int 2, .int b0, .ref aT, .int (nI nv)])), (aL, .inl (kL, 4000, .inl lf)), (aS, .inl (kS, 501, .inl sf)), (aF, .inl (kF, 17, .inl ff)), (aN, .inl (kN, 500, .inl nf)), (aA, .inl (kA, 64, .inl af)), (aO, .inl (kO, 16, .inl u5.1)), (aV, .inl (kV, 16, .inl u5.2.1)), (aT, .inl (kT, 16, .inl tf))] := hD
              refine lv_iload_n hx hb dM_solve_109 rfl (lv_at hl 1 rfl) ?_
              exact (W.zret (v := z) hx hb hr ((ax_b01 (sv_P01 hs1.2)).1) (fun t ht hW => ⟨⟨z, (u5.1, u5.2.1, u5.2.2, tf, 2, b0), rfl, ⟨hs5.1, Or.inr ⟨c1, rfl, k + 1, hb5.1, hb5.2, hall (k + 1) (Nat.le_refl _) hb5.1, Or.inr (by rw [Nat.add_sub_cancel]; exact hsat)⟩⟩, by rw [ht]; exact hP, va_K.moved hW.alike hK, hD⟩, hS.F ht⟩) hS.2.2 dM_solve_110)
            · have hun5 := sv_P0 hs5.2 c6
              refine lv_aload_n hx hb dM_solve_93 rfl (lv_at hl 0 rfl) ?_
              refine lv_iload_n hx hb dM_solve_94 rfl (lv_at hl 2 rfl) ?_
              refine va_put (D := (dC, dI)) (ci := 2) (v := .int (nI k)) (ty := .int) (C := RM) (T := TM) (N := 17) hx hb hts lyM tyM tyM_ok nmM hown hK hP hD hS 0 rfl rfl 14 (by decide) (hts _ fl_M_82) (fun _ h9 => h9) rfl (by decide +kernel) rfl rfl (Nat.le_of_ble_eq_true rfl) dM_solve_95 (fun H locs hP hD hS => ?_)
              have hP : va_P (dC, dI) vwCl [(g0, .inr (2, [.int 0, .int (nI nv), .int (nI nc), .ref aL, .int (nI us), .ref aS, .int (nI dr), .ref aF, .ref aN, .ref aA, .int (nI as), .ref aO, .ref aV, .int 2, .int (nI k), .ref aT, .int (nI nv)])), (aL, .inl (kL, 4000, .inl lf)), (aS, .inl (kS, 501, .inl sf)), (aF, .inl (kF, 17, .inl ff)), (aN, .inl (kN, 500, .inl nf)), (aA, .inl (kA, 64, .inl af)), (aO, .inl (kO, 16, .inl u5.1)), (aV, .inl (kV, 16, .inl u5.2.1)), (aT, .inl (kT, 16, .inl tf))] H := hP
              have hD : va_D A [(g0, .inr (2, [.int 0, .int (nI nv), .int (nI nc), .ref aL, .int (nI us), .ref aS, .int (nI dr), .ref aF, .ref aN, .ref aA, .int (nI as), .ref aO, .ref aV, .int 2, .int (nI k), .ref aT, .int (nI nv)])), (aL, .inl (kL, 4000, .inl lf)), (aS, .inl (kS, 501, .inl sf)), (aF, .inl (kF, 17, .inl ff)), (aN, .inl (kN, 500, .inl nf)), (aA, .inl (kA, 64, .inl af)), (aO, .inl (kO, 16, .inl u5.1)), (aV, .inl (kV, 16, .inl u5.2.1)), (aT, .inl (kT, 16, .inl tf))] := hD
              refine lv_iinc (v := sx k) (lv' := [(2, .int (sx k)), (0, .ref g0), (1, .int z)]) hx hb dM_solve_98 hl (k := 2) rfl (sx_m1 k) (by decide) rfl (fun ls hl => ?_)
              refine lv_goto (tgt := 77) hx hb dM_solve_101 (by decide) ?_
              exact ih (k, u5.1, u5.2.1, u5.2.2, nI k) _ _ _ (Nat.lt_succ_self _) ⟨⟨by omega, hs5.1, fun j j1 j2 => by
                  rcases Nat.eq_or_lt_of_le j1 with e | e
                  · rw [← e]; exact hun5
                  · exact hall j e j2, Or.inr ⟨by omega, rfl⟩⟩, hP, hD, hS, lv_sub hl [1, 2, 0] rfl⟩
    · have c2 : 0 < nv := Nat.lt_of_not_le (fun q => c2 ((nI_leI (a := nv) (b := 0) (by omega) (by omega)).mpr q))
      refine lv_iload_n hx hb dM_solve_50 rfl (lv_at hl 1 rfl) ?_
      refine lv_if_eq (tgt := 72) hx hb dM_solve_51 (by decide) (fun c3 => ?_) (fun c3 => ?_)
      · refine lv_aload_n hx hb dM_solve_72 rfl (lv_at hl 2 rfl) ?_
        refine va_get (D := (dC, dI)) (ci := 2) (v := .int (nI as)) (C := RM) (T := TM) (N := 17) hx hb hts lyM hown hK hP 0 rfl rfl 10 (by decide) (hts _ fl_M_53) (fun _ h9 => h9) rfl dM_solve_73 ?_
        refine lv_istore_n (lv' := [(2, .int (nI as)), (1, .int z), (0, .ref g0)]) hx hb dM_solve_76 rfl hl (by decide) rfl (fun ls hl => ?_)
        refine lp_mu (α := Nat × (Nat → Int32) × (Nat → Int32) × (Nat → Nat) × Int32) (fun a_ => match a_ with | (m9, o, v, vv, b0) => m9) (fun a_ H locs ls => match a_ with | (m9, o, v, vv, b0) => (m9 ≤ as + 1 ∧ sv_V v vv ∧ (∀ j, m9 ≤ j → j ≤ as → ¬ sv_sat nv lit st ch (sv_A an j)) ∧ ((m9 = as + 1 ∧ b0 = -1) ∨ (m9 ≤ as ∧ b0 = nI m9))) ∧ va_P (dC, dI) vwCl [(g0, .inr (2, [.int 0, .int (nI nv), .int (nI nc), .ref aL, .int (nI us), .ref aS, .int (nI dr), .ref aF, .ref aN, .ref aA, .int (nI as), .ref aO, .ref aV, .int 2, .int b0, .ref aT, .int (nI nv)])), (aL, .inl (kL, 4000, .inl lf)), (aS, .inl (kS, 501, .inl sf)), (aF, .inl (kF, 17, .inl ff)), (aN, .inl (kN, 500, .inl nf)), (aA, .inl (kA, 64, .inl af)), (aO, .inl (kO, 16, .inl o)), (aV, .inl (kV, 16, .inl v)), (aT, .inl (kT, 16, .inl tf))] H ∧ va_D A [(g0, .inr (2, [.int 0, .int (nI nv), .int (nI nc), .ref aL, .int (nI us), .ref aS, .int (nI dr), .ref aF, .ref aN, .ref aA, .int (nI as), .ref aO, .ref aV, .int 2, .int b0, .ref aT, .int (nI nv)])), (aL, .inl (kL, 4000, .inl lf)), (aS, .inl (kS, 501, .inl sf)), (aF, .inl (kF, 17, .inl ff)), (aN, .inl (kN, 500, .inl nf)), (aA, .inl (kA, 64, .inl af)), (aO, .inl (kO, 16, .inl o)), (aV, .inl (kV, 16, .inl v)), (aT, .inl (kT, 16, .inl tf))] ∧ va_S A s.heap H locs ∧ lv_has ls 3 [(0, .ref g0), (1, .int z), (2, .int (sx m9))]) ?_ (as + 1, u1.1, u1.2.1, u1.2.2, (-1)) ⟨⟨Nat.le_refl _, hs1.1, fun j j1 j2 => absurd j1 (by omega), Or.inl ⟨rfl, rfl⟩⟩, hP, hD, hS, lv_sub hl [2, 1, 0] rfl⟩
        intro a_ H locs ls hI ih
        obtain ⟨m9, o, v, vv, b0⟩ := a_
        obtain ⟨hI, hP, hD, hS, hl⟩ := hI
        have hI : m9 ≤ as + 1 ∧ sv_V v vv ∧ (∀ j, m9 ≤ j → j ≤ as → ¬ sv_sat nv lit st ch (sv_A an j)) ∧ ((m9 = as + 1 ∧ b0 = -1) ∨ (m9 ≤ as ∧ b0 = nI m9)) := hI
        have hP : va_P (dC, dI) vwCl [(g0, .inr (2, [.int 0, .int (nI nv), .int (nI nc), .ref aL, .int (nI us), .ref aS, .int (nI dr), .ref aF, .ref aN, .ref aA, .int (nI as), .ref aO, .ref aV, .int 2, .int b0, .ref aT, .int (nI nv)])), (aL, .inl (kL, 4000, .inl lf)), (aS, .inl (kS, 501, .inl sf)), (aF, .inl (kF, 17, .inl ff)), (aN, .inl (kN, 500, .inl nf)), (aA, .inl (kA, 64, .inl af)), (aO, .inl (kO, 16, .inl o)), (aV, .inl (kV, 16, .inl v)), (aT, .inl (kT, 16, .inl tf))] H := hP
        have hD : va_D A [(g0, .inr (2, [.int 0, .int (nI nv), .int (nI nc), .ref aL, .int (nI us), .ref aS, .int (nI dr), .ref aF, .ref aN, .ref aA, .int (nI as), .ref aO, .ref aV, .int 2, .int b0, .ref aT, .int (nI nv)])), (aL, .inl (kL, 4000, .inl lf)), (aS, .inl (kS, 501, .inl sf)), (aF, .inl (kF, 17, .inl ff)), (aN, .inl (kN, 500, .inl nf)), (aA, .inl (kA, 64, .inl af)), (aO, .inl (kO, 16, .inl o)), (aV, .inl (kV, 16, .inl v)), (aT, .inl (kT, 16, .inl tf))] := hD
        have hl : lv_has ls 3 [(0, .ref g0), (1, .int z), (2, .int (sx m9))] := hl
        obtain ⟨hm, hVV, hall, hbl⟩ := hI
        rcases Nat.eq_zero_or_pos m9 with m0 | m0
        · subst m0
          have hl : lv_has ls 3 [(0, .ref g0), (1, .int z), (2, .int (-1))] := hl
          have hb0 : b0 = nI 0 := by
            rcases hbl with ⟨q, _⟩ | ⟨_, q⟩
            · exact absurd q (by omega)
            · exact q
          refine lv_iload_n hx hb dM_solve_77 rfl (lv_at hl 2 rfl) ?_
          refine lv_if_lt (tgt := 104) hx hb dM_solve_78 (by decide) (fun c4 => ?_) (fun c4 => ?_)
          · refine lv_aload_n hx hb dM_solve_104 rfl (lv_at hl 0 rfl) ?_
            refine lv_iconst (v := 0) hx hb dM_solve_105 (by decide) ?_
            refine va_put (D := (dC, dI)) (ci := 2) (v := .int 0) (ty := .int) (C := RM) (T := TM) (N := 17) hx hb hts lyM tyM tyM_ok nmM hown hK hP hD hS 0 rfl rfl 10 (by decide) (hts _ fl_M_53) (fun _ h9 => h9) rfl (by decide +kernel) rfl rfl (Nat.le_of_ble_eq_true rfl) dM_solve_106 (fun H locs hP hD hS => ?_)
            have hP : va_P (dC, dI) vwCl [(g0, .inr (2, [.int 0, .int (nI nv), .int (nI nc), .ref aL, .int (nI us), .ref aS, .int (nI dr), .ref aF, .ref aN, .ref aA, .int 0, .ref aO, .ref aV, .int 2, .int b0, .ref aT, .int (nI nv)])), (aL, .inl (kL, 4000, .inl lf)), (aS, .inl (kS, 501, .inl sf)), (aF, .inl (kF, 17, .inl ff)), (aN, .inl (kN, 500, .inl nf)), (aA, .inl (kA, 64, .inl af)), (aO, .inl (kO, 16, .inl o)), (aV, .inl (kV, 16, .inl v)), (aT, .inl (kT, 16, .inl tf))] H := hP
            have hD : va_D A [(g0, .inr (2, [.int 0, .int (nI nv), .int (nI nc), .ref aL, .int (nI us), .ref aS, .int (nI dr), .ref aF, .ref aN, .ref aA, .int 0, .ref aO, .ref aV, .int 2, .int b0, .ref aT, .int (nI nv)])), (aL, .inl (kL, 4000, .inl lf)), (aS, .inl (kS, 501, .inl sf)), (aF, .inl (kF, 17, .inl ff)), (aN, .inl (kN, 500, .inl nf)), (aA, .inl (kA, 64, .inl af)), (aO, .inl (kO, 16, .inl o)), (aV, .inl (kV, 16, .inl v)), (aT, .inl (kT, 16, .inl tf))] := hD
            refine lv_iload_n hx hb dM_solve_109 rfl (lv_at hl 1 rfl) ?_
            exact (W.zret (v := z) hx hb hr ((ax_b01 (sv_P01 hs1.2)).1) (fun t ht hW => ⟨⟨z, (o, v, vv, tf, 2, b0), rfl, ⟨hVV, Or.inr ⟨c1, rfl, 0, Nat.zero_le _, hb0, hall 0 (Nat.le_refl _) (Nat.zero_le _), Or.inl rfl⟩⟩, by rw [ht]; exact hP, va_K.moved hW.alike hK, hD⟩, hS.F ht⟩) hS.2.2 dM_solve_110)
          · exact absurd (by decide) c4
        · obtain ⟨k, rfl⟩ : ∃ k, m9 = k + 1 := ⟨m9 - 1, by omega⟩
          have hl : lv_has ls 3 [(0, .ref g0), (1, .int z), (2, .int (nI k))] := hl
          refine lv_iload_n hx hb dM_solve_77 rfl (lv_at hl 2 rfl) ?_
          refine lv_if_lt (tgt := 104) hx hb dM_solve_78 (by decide) (fun c4 => ?_) (fun c4 => ?_)
          · have c4 : k < 0 := (nI_ltI (a := k) (b := 0) (by omega) (by omega)).mp c4
            exact absurd c4 (Nat.not_lt_zero _)
          · have c4 : 0 ≤ k := Nat.le_of_not_lt (fun q => c4 ((nI_ltI (a := k) (b := 0) (by omega) (by omega)).mpr q))
            refine lv_iload_n hx hb dM_solve_81 rfl (lv_at hl 1 rfl) ?_
            refine lv_if_ne (tgt := 104) hx hb dM_solve_82 (by decide) (fun c5 => ?_) (fun c5 => ?_)
            · exact absurd c1 c5
            · refine lv_aload_n hx hb dM_solve_85 rfl (lv_at hl 0 rfl) ?_
              refine lv_iload_n hx hb dM_solve_86 rfl (lv_at hl 2 rfl) ?_
              have hFc := va_free (wc := [(g0, .inr (2, [.int 0, .int (nI nv), .int (nI nc), .ref aL, .int (nI us), .ref aS, .int (nI dr), .ref aF, .ref aN, .ref aA, .int (nI as), .ref aO, .ref aV, .int 2, .int b0, .ref aT, .int (nI nv)])), (aL, .inl (kL, 4000, .inl lf)), (aS, .inl (kS, 501, .inl sf)), (aF, .inl (kF, 17, .inl ff)), (aN, .inl (kN, 500, .inl nf)), (aA, .inl (kA, 64, .inl af)), (aO, .inl (kO, 16, .inl o)), (aV, .inl (kV, 16, .inl v))]) hD hS hA [0, 1, 2, 3, 4, 5, 6, 7] rfl
              refine wc_i (wc_V (As := [.int (nI k)]) (rest := []) (n := 1) SF (k_M_isSolved l dC dI tI _ g0 aL aS aF aN aA aO aV aT kL kS kF kN kA kO kV lf sf ff nf af o v nv nc us dr as nv 0 2 b0 lit st vv ch hnv hch h16 hdp an has han hVV k (by omega)) ml_M_79 im_M_isSolved se_M_isSolved in_M co_M_isSolved (by decide +kernel) rfl rfl rfl ⟨Nat.le_of_ble_eq_true rfl, Nat.le_of_ble_eq_true rfl⟩ (va_recv (hK.sub (tys' := []) [] rfl) (hP.sub (ws' := [(g0, .inr (2, [.int 0, .int (nI nv), .int (nI nc), .ref aL, .int (nI us), .ref aS, .int (nI dr), .ref aF, .ref aN, .ref aA, .int (nI as), .ref aO, .ref aV, .int 2, .int b0, .ref aT, .int (nI nv)])), (aL, .inl (kL, 4000, .inl lf)), (aS, .inl (kS, 501, .inl sf)), (aF, .inl (kF, 17, .inl ff)), (aN, .inl (kN, 500, .inl nf)), (aA, .inl (kA, 64, .inl af)), (aO, .inl (kO, 16, .inl o)), (aV, .inl (kV, 16, .inl v))]) [0, 1, 2, 3, 4, 5, 6, 7] rfl) (ci := 2) (q0 := 0) rfl rfl) (hP.sub [0, 1, 2, 3, 4, 5, 6, 7] rfl) (hD.sub [0, 1, 2, 3, 4, 5, 6, 7] (by decide) rfl) (hK.sub [0, 1, 2, 3, 4, 5, 6] rfl) hZ hX hS hFc rfl hl.1 (Nat.le_of_ble_eq_true rfl) dM_solve_87 ⟨Nat.le_of_ble_eq_true rfl, Nat.le_of_ble_eq_true rfl⟩) hP hD hS hFc [0, 1, 2, 3, 4, 5, 6, 7] [8] (wr := [(aT, .inl (kT, 16, .inl tf))]) rfl rfl rfl (by decide) (fun z5 u5 H locs hs5 hP hD hS => ?_)
              have hP : va_P (dC, dI) vwCl [(g0, .inr (2, [.int 0, .int (nI nv), .int (nI nc), .ref aL, .int (nI us), .ref aS, .int (nI dr), .ref aF, .ref aN, .ref aA, .int (nI as), .ref aO, .ref aV, .int 2, .int b0, .ref aT, .int (nI nv)])), (aL, .inl (kL, 4000, .inl lf)), (aS, .inl (kS, 501, .inl sf)), (aF, .inl (kF, 17, .inl ff)), (aN, .inl (kN, 500, .inl nf)), (aA, .inl (kA, 64, .inl af)), (aO, .inl (kO, 16, .inl u5.1)), (aV, .inl (kV, 16, .inl u5.2.1)), (aT, .inl (kT, 16, .inl tf))] H := hP.sub [1, 2, 3, 4, 5, 6, 7, 8, 0] rfl
              have hD : va_D A [(g0, .inr (2, [.int 0, .int (nI nv), .int (nI nc), .ref aL, .int (nI us), .ref aS, .int (nI dr), .ref aF, .ref aN, .ref aA, .int (nI as), .ref aO, .ref aV, .int 2, .int b0, .ref aT, .int (nI nv)])), (aL, .inl (kL, 4000, .inl lf)), (aS, .inl (kS, 501, .inl sf)), (aF, .inl (kF, 17, .inl ff)), (aN, .inl (kN, 500, .inl nf)), (aA, .inl (kA, 64, .inl af)), (aO, .inl (kO, 16, .inl u5.1)), (aV, .inl (kV, 16, .inl u5.2.1)), (aT, .inl (kT, 16, .inl tf))] := hD.sub [1, 2, 3, 4, 5, 6, 7, 8, 0] (by decide) rfl
              refine lv_if_ne (tgt := 104) hx hb dM_solve_90 (by decide) (fun c6 => ?_) (fun c6 => ?_)
              · have hsat := (sv_P1 hs5.2 c6).2
                have hb5 : k + 1 ≤ as ∧ b0 = nI (k + 1) := by
                  rcases hbl with ⟨q, _⟩ | q
                  · exact absurd (by rw [show as = k by omega]; exact hsat) hun
                  · exact q
                refine lv_aload_n hx hb dM_solve_104 rfl (lv_at hl 0 rfl) ?_
                refine lv_iconst (v := 0) hx hb dM_solve_105 (by decide) ?_
                refine va_put (D := (dC, dI)) (ci := 2) (v := .int 0) (ty := .int) (C := RM) (T := TM) (N := 17) hx hb hts lyM tyM tyM_ok nmM hown hK hP hD hS 0 rfl rfl 10 (by decide) (hts _ fl_M_53) (fun _ h9 => h9) rfl (by decide +kernel) rfl rfl (Nat.le_of_ble_eq_true rfl) dM_solve_106 (fun H locs hP hD hS => ?_)
                have hP : va_P (dC, dI) vwCl [(g0, .inr (2, [.int 0, .int (nI nv), .int (nI nc), .ref aL, .int (nI us), .ref aS, .int (nI dr), .ref aF, .ref aN, .ref aA, .int 0, .ref aO, .ref aV, .int 2, .int b0, .ref aT, .int (nI nv)])), (aL, .inl (kL, 4000, .inl lf)), (aS, .inl (kS, 501, .inl sf)), (aF, .inl (kF, 17, .inl ff)), (aN, .inl (kN, 500, .inl nf)), (aA, .inl (kA, 64, .inl af)), (aO, .inl (kO, 16, .inl u5.1)), (aV, .inl (kV, 16, .inl u5.2.1)), (aT, .inl (kT, 16, .inl tf))] H := hP
                have hD : va_D A [(g0, .inr (2, [.int 0, .int (nI nv), .int (nI nc), .ref aL, .int (nI us), .ref aS, .int (nI dr), .ref aF, .ref aN, .ref aA, .int 0, .ref aO, .ref aV, .int 2, .int b0, .ref aT, .int (nI nv)])), (aL, .inl (kL, 4000, .inl lf)), (aS, .inl (kS, 501, .inl sf)), (aF, .inl (kF, 17, .inl ff)), (aN, .inl (kN, 500, .inl nf)), (aA, .inl (kA, 64, .inl af)), (aO, .inl (kO, 16, .inl u5.1)), (aV, .inl (kV, 16, .inl u5.2.1)), (aT, .inl (kT, 16, .inl tf))] := hD
                refine lv_iload_n hx hb dM_solve_109 rfl (lv_at hl 1 rfl) ?_
                exact (W.zret (v := z) hx hb hr ((ax_b01 (sv_P01 hs1.2)).1) (fun t ht hW => ⟨⟨z, (u5.1, u5.2.1, u5.2.2, tf, 2, b0), rfl, ⟨hs5.1, Or.inr ⟨c1, rfl, k + 1, hb5.1, hb5.2, hall (k + 1) (Nat.le_refl _) hb5.1, Or.inr (by rw [Nat.add_sub_cancel]; exact hsat)⟩⟩, by rw [ht]; exact hP, va_K.moved hW.alike hK, hD⟩, hS.F ht⟩) hS.2.2 dM_solve_110)
              · have hun5 := sv_P0 hs5.2 c6
                refine lv_aload_n hx hb dM_solve_93 rfl (lv_at hl 0 rfl) ?_
                refine lv_iload_n hx hb dM_solve_94 rfl (lv_at hl 2 rfl) ?_
                refine va_put (D := (dC, dI)) (ci := 2) (v := .int (nI k)) (ty := .int) (C := RM) (T := TM) (N := 17) hx hb hts lyM tyM tyM_ok nmM hown hK hP hD hS 0 rfl rfl 14 (by decide) (hts _ fl_M_82) (fun _ h9 => h9) rfl (by decide +kernel) rfl rfl (Nat.le_of_ble_eq_true rfl) dM_solve_95 (fun H locs hP hD hS => ?_)
                have hP : va_P (dC, dI) vwCl [(g0, .inr (2, [.int 0, .int (nI nv), .int (nI nc), .ref aL, .int (nI us), .ref aS, .int (nI dr), .ref aF, .ref aN, .ref aA, .int (nI as), .ref aO, .ref aV, .int 2, .int (nI k), .ref aT, .int (nI nv)])), (aL, .inl (kL, 4000, .inl lf)), (aS, .inl (kS, 501, .inl sf)), (aF, .inl (kF, 17, .inl ff)), (aN, .inl (kN, 500, .inl nf)), (aA, .inl (kA, 64, .inl af)), (aO, .inl (kO, 16, .inl u5.1)), (aV, .inl (kV, 16, .inl u5.2.1)), (aT, .inl (kT, 16, .inl tf))] H := hP
                have hD : va_D A [(g0, .inr (2, [.int 0, .int (nI nv), .int (nI nc), .ref aL, .int (nI us), .ref aS, .int (nI dr), .ref aF, .ref aN, .ref aA, .int (nI as), .ref aO, .ref aV, .int 2, .int (nI k), .ref aT, .int (nI nv)])), (aL, .inl (kL, 4000, .inl lf)), (aS, .inl (kS, 501, .inl sf)), (aF, .inl (kF, 17, .inl ff)), (aN, .inl (kN, 500, .inl nf)), (aA, .inl (kA, 64, .inl af)), (aO, .inl (kO, 16, .inl u5.1)), (aV, .inl (kV, 16, .inl u5.2.1)), (aT, .inl (kT, 16, .inl tf))] := hD
                refine lv_iinc (v := sx k) (lv' := [(2, .int (sx k)), (0, .ref g0), (1, .int z)]) hx hb dM_solve_98 hl (k := 2) rfl (sx_m1 k) (by decide) rfl (fun ls hl => ?_)
                refine lv_goto (tgt := 77) hx hb dM_solve_101 (by decide) ?_
                exact ih (k, u5.1, u5.2.1, u5.2.2, nI k) _ _ _ (Nat.lt_succ_self _) ⟨⟨by omega, hs5.1, fun j j1 j2 => by
                    rcases Nat.eq_or_lt_of_le j1 with e | e
                    · rw [← e]; exact hun5
                    · exact hall j e j2, Or.inr ⟨by omega, rfl⟩⟩, hP, hD, hS, lv_sub hl [1, 2, 0] rfl⟩
      · exact absurd c1 c3
  · have hz1 := (sv_P1 hs1.2 c1).1
    refine lv_iconst (v := 1) hx hb dM_solve_27 (by decide) ?_
    refine lv_goto (tgt := 32) hx hb dM_solve_28 (by decide) ?_
    refine va_put (D := (dC, dI)) (ci := 2) (v := .int 1) (ty := .int) (C := RM) (T := TM) (N := 17) hx hb hts lyM tyM tyM_ok nmM hown hK hP hD hS 0 rfl rfl 13 (by decide) (hts _ fl_M_56) (fun _ h9 => h9) rfl (by decide +kernel) rfl rfl (Nat.le_of_ble_eq_true rfl) dM_solve_32 (fun H locs hP hD hS => ?_)
    have hP : va_P (dC, dI) vwCl [(g0, .inr (2, [.int 0, .int (nI nv), .int (nI nc), .ref aL, .int (nI us), .ref aS, .int (nI dr), .ref aF, .ref aN, .ref aA, .int (nI as), .ref aO, .ref aV, .int 1, .int bl, .ref aT, .int (nI nv)])), (aL, .inl (kL, 4000, .inl lf)), (aS, .inl (kS, 501, .inl sf)), (aF, .inl (kF, 17, .inl ff)), (aN, .inl (kN, 500, .inl nf)), (aA, .inl (kA, 64, .inl af)), (aO, .inl (kO, 16, .inl u1.1)), (aV, .inl (kV, 16, .inl u1.2.1)), (aT, .inl (kT, 16, .inl tf))] H := hP
    have hD : va_D A [(g0, .inr (2, [.int 0, .int (nI nv), .int (nI nc), .ref aL, .int (nI us), .ref aS, .int (nI dr), .ref aF, .ref aN, .ref aA, .int (nI as), .ref aO, .ref aV, .int 1, .int bl, .ref aT, .int (nI nv)])), (aL, .inl (kL, 4000, .inl lf)), (aS, .inl (kS, 501, .inl sf)), (aF, .inl (kF, 17, .inl ff)), (aN, .inl (kN, 500, .inl nf)), (aA, .inl (kA, 64, .inl af)), (aO, .inl (kO, 16, .inl u1.1)), (aV, .inl (kV, 16, .inl u1.2.1)), (aT, .inl (kT, 16, .inl tf))] := hD
    refine lv_aload_n hx hb dM_solve_35 rfl (lv_at hl 1 rfl) ?_
    refine lv_iconst (v := (-1)) hx hb dM_solve_36 (by decide) ?_
    refine va_put (D := (dC, dI)) (ci := 2) (v := .int (-1)) (ty := .int) (C := RM) (T := TM) (N := 17) hx hb hts lyM tyM tyM_ok nmM hown hK hP hD hS 0 rfl rfl 14 (by decide) (hts _ fl_M_82) (fun _ h9 => h9) rfl (by decide +kernel) rfl rfl (Nat.le_of_ble_eq_true rfl) dM_solve_37 (fun H locs hP hD hS => ?_)
    have hP : va_P (dC, dI) vwCl [(g0, .inr (2, [.int 0, .int (nI nv), .int (nI nc), .ref aL, .int (nI us), .ref aS, .int (nI dr), .ref aF, .ref aN, .ref aA, .int (nI as), .ref aO, .ref aV, .int 1, .int (-1), .ref aT, .int (nI nv)])), (aL, .inl (kL, 4000, .inl lf)), (aS, .inl (kS, 501, .inl sf)), (aF, .inl (kF, 17, .inl ff)), (aN, .inl (kN, 500, .inl nf)), (aA, .inl (kA, 64, .inl af)), (aO, .inl (kO, 16, .inl u1.1)), (aV, .inl (kV, 16, .inl u1.2.1)), (aT, .inl (kT, 16, .inl tf))] H := hP
    have hD : va_D A [(g0, .inr (2, [.int 0, .int (nI nv), .int (nI nc), .ref aL, .int (nI us), .ref aS, .int (nI dr), .ref aF, .ref aN, .ref aA, .int (nI as), .ref aO, .ref aV, .int 1, .int (-1), .ref aT, .int (nI nv)])), (aL, .inl (kL, 4000, .inl lf)), (aS, .inl (kS, 501, .inl sf)), (aF, .inl (kF, 17, .inl ff)), (aN, .inl (kN, 500, .inl nf)), (aA, .inl (kA, 64, .inl af)), (aO, .inl (kO, 16, .inl u1.1)), (aV, .inl (kV, 16, .inl u1.2.1)), (aT, .inl (kT, 16, .inl tf))] := hD
    refine lv_iconst (v := 0) hx hb dM_solve_40 (by decide) ?_
    refine lv_istore_n (lv' := [(2, .int 0), (1, .int z), (0, .ref g0)]) hx hb dM_solve_41 rfl hl (by decide) rfl (fun ls hl => ?_)
    refine lp_mu (α := Nat × (Nat → Int32)) (fun a_ => match a_ with | (i, tg) => nv - i) (fun a_ H locs ls => match a_ with | (i, tg) => (i ≤ nv ∧ ∀ k, k < i → tg k = nI (u1.2.2 k)) ∧ va_P (dC, dI) vwCl [(g0, .inr (2, [.int 0, .int (nI nv), .int (nI nc), .ref aL, .int (nI us), .ref aS, .int (nI dr), .ref aF, .ref aN, .ref aA, .int (nI as), .ref aO, .ref aV, .int 1, .int (-1), .ref aT, .int (nI nv)])), (aL, .inl (kL, 4000, .inl lf)), (aS, .inl (kS, 501, .inl sf)), (aF, .inl (kF, 17, .inl ff)), (aN, .inl (kN, 500, .inl nf)), (aA, .inl (kA, 64, .inl af)), (aO, .inl (kO, 16, .inl u1.1)), (aV, .inl (kV, 16, .inl u1.2.1)), (aT, .inl (kT, 16, .inl tg))] H ∧ va_D A [(g0, .inr (2, [.int 0, .int (nI nv), .int (nI nc), .ref aL, .int (nI us), .ref aS, .int (nI dr), .ref aF, .ref aN, .ref aA, .int (nI as), .ref aO, .ref aV, .int 1, .int (-1), .ref aT, .int (nI nv)])), (aL, .inl (kL, 4000, .inl lf)), (aS, .inl (kS, 501, .inl sf)), (aF, .inl (kF, 17, .inl ff)), (aN, .inl (kN, 500, .inl nf)), (aA, .inl (kA, 64, .inl af)), (aO, .inl (kO, 16, .inl u1.1)), (aV, .inl (kV, 16, .inl u1.2.1)), (aT, .inl (kT, 16, .inl tg))] ∧ va_S A s.heap H locs ∧ lv_has ls 3 [(0, .ref g0), (1, .int z), (2, .int (nI i))]) ?_ (0, tf) ⟨⟨Nat.zero_le _, fun k hk => absurd hk (Nat.not_lt_zero _)⟩, hP, hD, hS, lv_sub hl [2, 1, 0] rfl⟩
    intro a_ H locs ls hI ih
    obtain ⟨i, tg⟩ := a_
    obtain ⟨hI, hP, hD, hS, hl⟩ := hI
    have hI : i ≤ nv ∧ ∀ k, k < i → tg k = nI (u1.2.2 k) := hI
    have hP : va_P (dC, dI) vwCl [(g0, .inr (2, [.int 0, .int (nI nv), .int (nI nc), .ref aL, .int (nI us), .ref aS, .int (nI dr), .ref aF, .ref aN, .ref aA, .int (nI as), .ref aO, .ref aV, .int 1, .int (-1), .ref aT, .int (nI nv)])), (aL, .inl (kL, 4000, .inl lf)), (aS, .inl (kS, 501, .inl sf)), (aF, .inl (kF, 17, .inl ff)), (aN, .inl (kN, 500, .inl nf)), (aA, .inl (kA, 64, .inl af)), (aO, .inl (kO, 16, .inl u1.1)), (aV, .inl (kV, 16, .inl u1.2.1)), (aT, .inl (kT, 16, .inl tg))] H := hP
    have hD : va_D A [(g0, .inr (2, [.int 0, .int (nI nv), .int (nI nc), .ref aL, .int (nI us), .ref aS, .int (nI dr), .ref aF, .ref aN, .ref aA, .int (nI as), .ref aO, .ref aV, .int 1, .int (-1), .ref aT, .int (nI nv)])), (aL, .inl (kL, 4000, .inl lf)), (aS, .inl (kS, 501, .inl sf)), (aF, .inl (kF, 17, .inl ff)), (aN, .inl (kN, 500, .inl nf)), (aA, .inl (kA, 64, .inl af)), (aO, .inl (kO, 16, .inl u1.1)), (aV, .inl (kV, 16, .inl u1.2.1)), (aT, .inl (kT, 16, .inl tg))] := hD
    have hl : lv_has ls 3 [(0, .ref g0), (1, .int z), (2, .int (nI i))] := hl
    obtain ⟨hi, hg⟩ := hI
    refine lv_iload_n hx hb dM_solve_42 rfl (lv_at hl 2 rfl) ?_
    refine lv_aload_n hx hb dM_solve_43 rfl (lv_at hl 0 rfl) ?_
    refine va_get (D := (dC, dI)) (ci := 2) (v := .int (nI nv)) (C := RM) (T := TM) (N := 17) hx hb hts lyM hown hK hP 0 rfl rfl 1 (by decide) (hts _ fl_M_41) (fun _ h9 => h9) rfl dM_solve_44 ?_
    refine lv_icmp_ge (tgt := 72) hx hb dM_solve_47 (by decide) (fun c2 => ?_) (fun c2 => ?_)
    · have c2 : nv ≤ i := (nI_leI (a := nv) (b := i) (by omega) (by omega)).mp c2
      refine lv_aload_n hx hb dM_solve_72 rfl (lv_at hl 0 rfl) ?_
      refine va_get (D := (dC, dI)) (ci := 2) (v := .int (nI as)) (C := RM) (T := TM) (N := 17) hx hb hts lyM hown hK hP 0 rfl rfl 10 (by decide) (hts _ fl_M_53) (fun _ h9 => h9) rfl dM_solve_73 ?_
      refine lv_istore_n (lv' := [(2, .int (nI as)), (0, .ref g0), (1, .int z)]) hx hb dM_solve_76 rfl hl (by decide) rfl (fun ls hl => ?_)
      refine lv_iload_n hx hb dM_solve_77 rfl (lv_at hl 0 rfl) ?_
      refine lv_if_lt (tgt := 104) hx hb dM_solve_78 (by decide) (fun c4 => ?_) (fun c4 => ?_)
      · have c4 : as < 0 := (nI_ltI (a := as) (b := 0) (by omega) (by omega)).mp c4
        exact absurd c4 (Nat.not_lt_zero _)
      · have c4 : 0 ≤ as := Nat.le_of_not_lt (fun q => c4 ((nI_ltI (a := as) (b := 0) (by omega) (by omega)).mpr q))
        refine lv_iload_n hx hb dM_solve_81 rfl (lv_at hl 2 rfl) ?_
        refine lv_if_ne (tgt := 104) hx hb dM_solve_82 (by decide) (fun c5 => ?_) (fun c5 => ?_)
        · refine lv_aload_n hx hb dM_solve_104 rfl (lv_at hl 1 rfl) ?_
          refine lv_iconst (v := 0) hx hb dM_solve_105 (by decide) ?_
          refine va_put (D := (dC, dI)) (ci := 2) (v := .int 0) (ty := .int) (C := RM) (T := TM) (N := 17) hx hb hts lyM tyM tyM_ok nmM hown hK hP hD hS 0 rfl rfl 10 (by decide) (hts _ fl_M_53) (fun _ h9 => h9) rfl (by decide +kernel) rfl rfl (Nat.le_of_ble_eq_true rfl) dM_solve_106 (fun H locs hP hD hS => ?_)
          have hP : va_P (dC, dI) vwCl [(g0, .inr (2, [.int 0, .int (nI nv), .int (nI nc), .ref aL, .int (nI us), .ref aS, .int (nI dr), .ref aF, .ref aN, .ref aA, .int 0, .ref aO, .ref aV, .int 1, .int (-1), .ref aT, .int (nI nv)])), (aL, .inl (kL, 4000, .inl lf)), (aS, .inl (kS, 501, .inl sf)), (aF, .inl (kF, 17, .inl ff)), (aN, .inl (kN, 500, .inl nf)), (aA, .inl (kA, 64, .inl af)), (aO, .inl (kO, 16, .inl u1.1)), (aV, .inl (kV, 16, .inl u1.2.1)), (aT, .inl (kT, 16, .inl tg))] H := hP
          have hD : va_D A [(g0, .inr (2, [.int 0, .int (nI nv), .int (nI nc), .ref aL, .int (nI us), .ref aS, .int (nI dr), .ref aF, .ref aN, .ref aA, .int 0, .ref aO, .ref aV, .int 1, .int (-1), .ref aT, .int (nI nv)])), (aL, .inl (kL, 4000, .inl lf)), (aS, .inl (kS, 501, .inl sf)), (aF, .inl (kF, 17, .inl ff)), (aN, .inl (kN, 500, .inl nf)), (aA, .inl (kA, 64, .inl af)), (aO, .inl (kO, 16, .inl u1.1)), (aV, .inl (kV, 16, .inl u1.2.1)), (aT, .inl (kT, 16, .inl tg))] := hD
          refine lv_iload_n hx hb dM_solve_109 rfl (lv_at hl 2 rfl) ?_
          exact (W.zret (v := z) hx hb hr ((ax_b01 (sv_P01 hs1.2)).1) (fun t ht hW => ⟨⟨z, (u1.1, u1.2.1, u1.2.2, tg, 1, (-1)), rfl, ⟨hs1.1, Or.inl ⟨hz1, rfl, rfl, by rw [← hz1]; exact hs1.2, fun k hk => hg k (by omega)⟩⟩, by rw [ht]; exact hP, va_K.moved hW.alike hK, hD⟩, hS.F ht⟩) hS.2.2 dM_solve_110)
        · exact absurd c5 c1
    · have c2 : i < nv := Nat.lt_of_not_le (fun q => c2 ((nI_leI (a := nv) (b := i) (by omega) (by omega)).mpr q))
      refine lv_iload_n hx hb dM_solve_50 rfl (lv_at hl 1 rfl) ?_
      refine lv_if_eq (tgt := 72) hx hb dM_solve_51 (by decide) (fun c3 => ?_) (fun c3 => ?_)
      · exact absurd c3 c1
      · refine lv_aload_n hx hb dM_solve_54 rfl (lv_at hl 0 rfl) ?_
        refine va_get (D := (dC, dI)) (ci := 2) (v := .ref aT) (C := RM) (T := TM) (N := 17) hx hb hts lyM hown hK hP 0 rfl rfl 15 (by decide) (hts _ fl_M_31) (fun _ h9 => h9) rfl dM_solve_55 ?_
        refine lv_iload_n hx hb dM_solve_58 rfl (lv_at hl 2 rfl) ?_
        refine lv_aload_n hx hb dM_solve_59 rfl (lv_at hl 0 rfl) ?_
        refine va_get (D := (dC, dI)) (ci := 2) (v := .ref aV) (C := RM) (T := TM) (N := 17) hx hb hts lyM hown hK hP 0 rfl rfl 12 (by decide) (hts _ fl_M_28) (fun _ h9 => h9) rfl dM_solve_60 ?_
        refine lv_iload_n hx hb dM_solve_63 rfl (lv_at hl 2 rfl) ?_
        refine va_iald hx hb hK hP 7 6 rfl rfl (vp_in_nI (by omega) (by decide)) dM_solve_64 ?_
        refine ls_topi (y := nI (u1.2.2 i)) (by rw [nI_clamp (by omega)]; exact (hs1.1 i (by omega)).1) ?_
        refine va_iast hx hb hK hP hD hS 8 7 rfl rfl (vp_in_nI (by omega) (by decide)) dM_solve_65 (fun H locs hP hD hS => ?_)
        rw [show upd tg (nI i).toNatClampNeg (nI (u1.2.2 i)) = upd tg i (nI (u1.2.2 i)) from by rw [nI_clamp (by omega)]] at hP hD
        have hP : va_P (dC, dI) vwCl [(g0, .inr (2, [.int 0, .int (nI nv), .int (nI nc), .ref aL, .int (nI us), .ref aS, .int (nI dr), .ref aF, .ref aN, .ref aA, .int (nI as), .ref aO, .ref aV, .int 1, .int (-1), .ref aT, .int (nI nv)])), (aL, .inl (kL, 4000, .inl lf)), (aS, .inl (kS, 501, .inl sf)), (aF, .inl (kF, 17, .inl ff)), (aN, .inl (kN, 500, .inl nf)), (aA, .inl (kA, 64, .inl af)), (aO, .inl (kO, 16, .inl u1.1)), (aV, .inl (kV, 16, .inl u1.2.1)), (aT, .inl (kT, 16, .inl (upd tg i (nI (u1.2.2 i)))))] H := hP
        have hD : va_D A [(g0, .inr (2, [.int 0, .int (nI nv), .int (nI nc), .ref aL, .int (nI us), .ref aS, .int (nI dr), .ref aF, .ref aN, .ref aA, .int (nI as), .ref aO, .ref aV, .int 1, .int (-1), .ref aT, .int (nI nv)])), (aL, .inl (kL, 4000, .inl lf)), (aS, .inl (kS, 501, .inl sf)), (aF, .inl (kF, 17, .inl ff)), (aN, .inl (kN, 500, .inl nf)), (aA, .inl (kA, 64, .inl af)), (aO, .inl (kO, 16, .inl u1.1)), (aV, .inl (kV, 16, .inl u1.2.1)), (aT, .inl (kT, 16, .inl (upd tg i (nI (u1.2.2 i)))))] := hD
        refine lv_iinc (v := nI (i + 1)) (lv' := [(2, .int (nI (i + 1))), (0, .ref g0), (1, .int z)]) hx hb dM_solve_66 hl (k := 2) rfl (nI_1 _) (by decide) rfl (fun ls hl => ?_)
        refine lv_goto (tgt := 42) hx hb dM_solve_69 (by decide) ?_
        exact ih (i + 1, upd tg i (nI (u1.2.2 i))) _ _ _ (by show nv - (i + 1) < nv - i; omega) ⟨⟨c2, fun k hk => by
            unfold upd
            by_cases q : k = i
            · rw [if_pos q, q]
            · rw [if_neg q]; exact hg k (by omega)⟩, hP, hD, hS, lv_sub hl [1, 2, 0] rfl⟩
end
