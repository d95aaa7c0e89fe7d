/-! THE CLAIM OUT OF ONE WALK OF THE LAW'S BODY. Your part is whole_start (and what it stands on); all else here is the same for every law, but numbers. -/
def R_law : String := "LearningSolverLaw"
def lw_P (b : Addr) (xs : List Int32) (args : Array Value) (s : State) : Prop := args = #[.ref b] ∧ s.IntsAt b xs ∧ xs.length ≤ 1536 ∧ (Jvm.Cond.and given_1 narrow_1).before args s = true
def lw_Q (_ : Array Value) (s : State) (o : Outcome) (t : State) : Prop := o = .returned (some (.int 1)) ∧ Framed s o t [] 1050 15563
def lw_Z (below : List Frame) (a : Array Value) (s : State) : State → Prop := fun t => ∃ o, t.status = .running ∧ Ended t below o ∧ lw_Q a s o t
/-- the law's own end, with 1 on the stack, nothing written that was there before, its room as the claim has it -/
theorem lw_ret {p : Program} {l : Launch} {e : Env} {s : State} {m : MethodId} {below : List Frame} {meth : Method} {c : Code} {b : Nat} (hx : p.tables.exec = Jvm.exec) (hb : c.code = code) (hr : meth.sig.returnType = ret) (hlocks : meth.locks = false) {pc : Nat} {H : Heap} {ls : Array Slot} (hdg : decode code pc = .ok (.ireturn, 1)) : W p l e room_1 s m #[Value.ref b] below meth c H [] 1050 15563 (lw_Z below #[Value.ref b] s) (F0 m pc ls [.int 1]) := by
  intro T hT X
  obtain ⟨fs, hret, hrun, hended, hW, hframe⟩ := X.leave (v := some (.int 1)) (hlocks := hlocks) (fun h => by rw [hr] at h; cases h)
  have hmeth' : T.vm.method? m = some meth := X.method'
  refine ⟨T.setFrames fs, ?_, .returned (some (.int 1)), hrun, hended, rfl, ⟨_, rfl⟩, hW, hframe⟩
  jvm_step X.here [X.here.top, hx, hb, hdg, hmeth', hr, ret, narrow_b1]
  (try refine ⟨rfl, ?_⟩); (try refine ⟨rfl, ?_⟩)
  first | (intro acts; rw [hret _ acts rfl rfl rfl]) | rw [hret _ _ rfl rfl rfl]
  exact Steps.refl _
/-- what holds at the law's entry: the machine, the code, the tables' words (any of lw_tbl by 'hts w (by decide +kernel)'), the script of L ints xs at the cell b, what the Statement gives of the start (any of its parts by flat_of_before) -/
def lw_At (p : Program) (s : State) (m : MethodId) (meth : Method) (c : Code) (b L : Nat) (xs : Nat → Int32) : Prop :=
  p.tables.exec = Jvm.exec ∧ c.code = code ∧ meth.sig.returnType = ret ∧ c.maxLocals = 7 ∧ s.vm.findClass R_law = some m.cls ∧ (∀ w ∈ lw_tbl, w.before #[Value.ref b] s = true) ∧ va_X b L xs s s.heap ∧ b < s.heap.size ∧ meth.locks = false ∧ (Jvm.Cond.and given_1 narrow_1).before #[Value.ref b] s = true

theorem law_cmp {x y : Int64} (h : x = y) : lg_cmp x y = 0 := by
  subst h
  unfold lg_cmp
  rw [if_neg (Int64.lt_irrefl), if_pos rfl]
/-- what the law's walk stands on -/
def LC (p : Program) (s : State) (m : MethodId) (meth : Method) (c : Code) (b L : Nat) (xs : Nat → Int32) (dC : Nat → ClassId) (dI : Nat → Nat → Nat) (tI : Nat) (A : Nat → Prop) : Prop :=
  p.tables.exec = Jvm.exec ∧ c.code = code ∧ c.maxLocals = 7 ∧ s.vm.findClass RL = some m.cls ∧ (∀ w ∈ GG, w.before #[Value.ref b] s = true) ∧ va_X b L xs s s.heap ∧ b < s.heap.size ∧ ¬ A b ∧ (∀ q : Nat, s.heap.size ≤ q → A q) ∧ wZ tI A s s.heap ∧ wX s ∧ L ≤ 1536
def cpL (fo bl lv : Int32) (th : Nat) (la mb : Int32) (tf : Nat → Int32) : Prop := (la = 0 ∧ fo = 0 ∧ bl = -1) ∨ (la = 1 ∧ fo = 1 ∧ bl = -1 ∧ ∃ q, q < 65536 ∧ lv = nI q ∧ ∀ v, v < th → tf v = nI (bOf q v)) ∨ (la = 2 ∧ fo = 0 ∧ bl = mb ∧ ¬ bl = -1)
def CP (f : Nat → Int64) (wf af : Nat → Int32) (fo bl lv la mb : Int32) (lf sf ff nf am vf tf : Nat → Int32) (nv nc us dr as th : Nat) (lit st vv an : Nat → Nat) (ch : Nat → List Nat) : Prop :=
  cpM nv nc us dr lf sf ff nf lit st ch ∧ cpF f nv nc lit st ∧ (∀ j, j < dr → wf j = nI (lit (us + j))) ∧ as ≤ 64 ∧ (∀ j, j < as → af j = nI (an j) ∧ am j = nI (an j) ∧ an j < 2 * nv) ∧ sv_V vf vv ∧ th ≤ 16 ∧ cpL fo bl lv th la mb tf
section LPU
variable {p : Program} {l : Launch} {e : Env} {R : Room} {s : State} {m : MethodId} {args : Array Value} {below : List Frame} {meth : Method} {c : Code} {Q : State → Prop} {pc : Nat}
theorem lp_up {T : Nat} (J : Nat → Heap → List Loc → Array Slot → Prop) (cs ss : Nat → Nat) (step : ∀ (t : Nat) (H : Heap) (locs : List Loc) (ls : Array Slot), t ≤ T → J t H locs ls → (t < T → ∀ (H' : Heap) (locs' : List Loc) (ls' : Array Slot), J (t + 1) H' locs' ls' → W p l e R s m args below meth c H' locs' (cs (t + 1)) (ss (t + 1)) Q (F0 m pc ls' [])) → W p l e R s m args below meth c H locs (cs t) (ss t) Q (F0 m pc ls [])) (t : Nat) {H : Heap} {locs : List Loc} {ls : Array Slot} (ht : t ≤ T) (h : J t H locs ls) : W p l e R s m args below meth c H locs (cs t) (ss t) Q (F0 m pc ls []) := by
  have key : ∀ (d t : Nat) (H : Heap) (locs : List Loc) (ls : Array Slot), t ≤ T → T - t ≤ d → J t H locs ls → W p l e R s m args below meth c H locs (cs t) (ss t) Q (F0 m pc ls []) := by
    intro d
    induction d with
    | zero =>
      intro t H locs ls ht hd hj
      exact step t H locs ls ht hj (fun h => absurd h (by omega))
    | succ d ih =>
      intro t H locs ls ht hd hj
      exact step t H locs ls ht hj (fun h H' locs' ls' hj' => ih (t + 1) H' locs' ls' (by omega) (by omega) hj')
  exact key (T - t) t H locs ls ht (Nat.le_refl _) h
end LPU
