/-! what every method's world is: the cells, the static table of the masks, the two statics of Throwable, the words of a throw -/
def ls_ones (v : Nat) : Int64 := match v with
  | 0 => -6148914691236517206
  | 1 => -3689348814741910324
  | 2 => -1085102592571150096
  | 3 => -71777214294589696
  | 4 => -281470681808896
  | _ => -4294967296
def wZ (tI : Nat) (A : Nat → Prop) (U : State) (H : Heap) : Prop := va_Z RR "INNER_ONES" "[J" (.ref tI) A U H ∧ va_T .long tI 6 (fun j => .long (ls_ones j)) A U H ∧ vx_Zq Bundle.tN "UNASSIGNED_STACK" Bundle.steD A U H ∧ vx_Zq Bundle.tN "SUPPRESSED_SENTINEL" Bundle.listD A U H
theorem wZ.moved {tI : Nat} {A : Nat → Prop} {u U : State} {H : Heap} (hvm : u.vm.Alike U.vm) (h : wZ tI A u H) : wZ tI A U H := ⟨va_Z.moved hvm h.1, va_T.moved hvm h.2.1, vx_Zq.moved hvm h.2.2.1, vx_Zq.moved hvm h.2.2.2⟩
theorem wZ.kept {tI : Nat} {A : Nat → Prop} {U : State} {H H1 : Heap} (h : wZ tI A U H) (hq : ∀ a : Nat, a < H.size → ¬ A a → H1[a]? = H[a]?) : wZ tI A U H1 := ⟨h.1.kept hq, h.2.1.kept hq, h.2.2.1.kept hq, h.2.2.2.kept hq⟩
theorem wZ.narrow {tI : Nat} {A B : Nat → Prop} {U : State} {H : Heap} (h : wZ tI A U H) (hAB : ∀ q, B q → A q) : wZ tI B U H := ⟨h.1.narrow hAB, h.2.1.narrow hAB, h.2.2.1.narrow hAB, h.2.2.2.narrow hAB⟩
abbrev xS : String := "java/lang/IllegalStateException"
abbrev xA : String := "java/lang/IllegalArgumentException"
abbrev xI : String := "java/lang/IndexOutOfBoundsException"
def xDs : List MethodName := [⟨"java/lang/RuntimeException", "<init>", "(Ljava/lang/String;)V"⟩, ⟨"java/lang/Exception", "<init>", "(Ljava/lang/String;)V"⟩, ⟨"java/lang/Throwable", "<init>", "(Ljava/lang/String;)V"⟩]
def xTs : List (Nat × String) := [(35, "there are 16 variables"), (120, "there is no such literal"), (50, "the clause has 40 literals"), (55, "all clauses have 4000 literals"), (60, "there are 500 clauses"), (69, "there are 64 assumptions"), (97, "there is no such variable"), (106, "n is not 0 .. 8"), (109, "there are not so many variables from there on")]
def wX (U : State) : Prop := (∀ E ∈ [xS, xA, xI], va_Nw (.castable E E) U) ∧ (∀ y ∈ xDs, va_Nw (.declares y) U) ∧ va_Nc xS xA U ∧ va_Nc xI xA U ∧ ∀ q ∈ xTs, ∃ sa : Nat, vk_R RS q.1 q.2 sa U
theorem wX.warm {s U : State} (hW : s.WarmedH U.vm) (h : wX s) : wX U := ⟨fun E hE => va_Nw.warmC hW (h.1 E hE), fun y hy => va_Nw.warmD hW (h.2.1 y hy), h.2.2.1.moved hW.alike, h.2.2.2.1.moved hW.alike, fun q hq => by obtain ⟨sa, hs⟩ := h.2.2.2.2 q hq; exact ⟨sa, vk_R.warm hW hs⟩⟩
theorem wX.same {s U : State} (hv : U.vm = s.vm) (h : wX s) : wX U := ⟨fun E hE => va_Nw.same rfl hv.symm (h.1 E hE), fun y hy => va_Nw.same rfl hv.symm (h.2.1 y hy), h.2.2.1.moved (by rw [hv]; exact Vm.Alike.refl _), h.2.2.2.1.moved (by rw [hv]; exact Vm.Alike.refl _), fun q hq => by obtain ⟨sa, hs⟩ := h.2.2.2.2 q hq; exact ⟨sa, vk_R.same hv hs⟩⟩
abbrev wB (dC : Nat → ClassId) (dI : Nat → Nat → Nat) (tys : List (ClassId × FieldType)) (A : Nat → Prop) (ws : va_W) (t : State) : Prop := va_P (dC, dI) vwCl ws t.heap ∧ va_K (dC, dI) vwCl tys t ∧ va_D A ws
def wPre (dC : Nat → ClassId) (dI : Nat → Nat → Nat) (tys : List (ClassId × FieldType)) (ws : va_W) (sz tI : Nat) (U : State) : Prop := U.heap.size = sz ∧ va_P (dC, dI) vwCl ws U.heap ∧ va_K (dC, dI) vwCl tys U ∧ va_D (fun _ => True) ws ∧ wZ tI (va_A ws sz) U U.heap ∧ wX U
theorem wPre_blind (dC : Nat → ClassId) (dI : Nat → Nat → Nat) (tys : List (ClassId × FieldType)) (ws : va_W) (sz tI : Nat) (av : List Value) : FrameBlind (va_Pc av (wPre dC dI tys ws sz tI)) := by
  intro a U g mk q
  obtain ⟨q0, q1, qP, qK, qD, qZ, qX⟩ := q
  exact ⟨q0, q1, qP, va_K.moved (u := U) (U := U.calling g mk a) (Vm.Alike.refl U.vm) qK, qD, wZ.moved (u := U) (U := U.calling g mk a) (Vm.Alike.refl U.vm) qZ, wX.same (s := U) (U := U.calling g mk a) rfl qX⟩
theorem wPre_of {dC : Nat → ClassId} {dI : Nat → Nat → Nat} {tys : List (ClassId × FieldType)} {wc : va_W} {tI : Nat} {A A' : Nat → Prop} {s U : State} {H : Heap} {locs : List Loc} (hP : va_P (dC, dI) vwCl wc H) (hD : va_D A' wc) (hK : va_K (dC, dI) vwCl tys s) (hZ : wZ tI A s s.heap) (hX : wX s) (hS : va_S A s.heap H locs) (hF : ∀ q, va_A wc H.size q → A q) (hU : U.heap = H) (hW : s.WarmedH U.vm) : wPre dC dI tys wc H.size tI U := by
  refine ⟨by rw [hU], by rw [hU]; exact hP, va_K.moved hW.alike hK, hD.weaken (fun _ _ _ _ => trivial), ?_, hX.warm hW⟩
  rw [hU]
  exact wZ.moved hW.alike (wZ.narrow (hZ.kept hS.2.1) hF)
abbrev lvr (k mc ms : Nat) : Room := { frames := k, cells := mc, slots := ms, locals := 30 * k }
section WB
variable {p : Program} {l : Launch} {e : Env} {R : Room} {s : State} {m : MethodId} {args : Array Value} {below : List Frame} {meth : Method} {c : Code} {H : Heap} {locs : List Loc} {cells slots : Nat} {Q : State → Prop} {pc : Nat} {ls : Array Slot} {rest st0 : List Value}
theorem ls_topi {x y : Int32} (h : x = y) (k : W p l e R s m args below meth c H locs cells slots Q (F0 m pc ls (.int y :: rest))) : W p l e R s m args below meth c H locs cells slots Q (F0 m pc ls (.int x :: rest)) := by subst h; exact k
theorem ls_topl {x y : Int64} (h : x = y) (k : W p l e R s m args below meth c H locs cells slots Q (F0 m pc ls (.long y :: rest))) : W p l e R s m args below meth c H locs cells slots Q (F0 m pc ls (.long x :: rest)) := by subst h; exact k
theorem lv_newi {Pp : Prop} {x : Int32} (k : ∀ y : Int32, y = x → Pp) : Pp := k x rfl
variable {dC : Nat → ClassId} {dI : Nat → Nat → Nat} {tysC : List (ClassId × FieldType)} {tI mc ms : Nat} {A : Nat → Prop} {ws wc wr : va_W} {a : Array Value} {H0 : Heap}
theorem wc_i {S : Type} {post : Int32 → S → Prop} {wsf : S → va_W} (hr : va_Run p l e R s m args below meth c H locs cells slots mc ms (F0 m pc ls st0) rest (va_Qi post (fun u t => wB dC dI tysC (va_A wc H.size) (wsf u) t) (va_A wc H.size) a) (va_A wc H.size)) (hP : va_P (dC, dI) vwCl ws H) (hD : va_D A ws) (hS : va_S A H0 H locs) (hF : ∀ q, va_A wc H.size q → A q) (isC isR : List Nat) (hC : isC.map (fun i => ws[i]?) = wc.map some) (hR : isR.map (fun i => ws[i]?) = wr.map some) (hn : va_nd isR = true) (hdis : ∀ i ∈ isR, i ∉ isC)
    (kk : ∀ (r : Int32) (u : S) (H1 : Heap) (locs1 : List Loc), post r u → va_P (dC, dI) vwCl (wr ++ wsf u) H1 → va_D A (wr ++ wsf u) → va_S A H0 H1 locs1 → W p l e R s m args below meth c H1 locs1 (cells + mc) (slots + ms) Q (F0 m (pc + 3) ls (.int r :: rest))) : W p l e R s m args below meth c H locs cells slots Q (F0 m pc ls st0) := by
  refine va_calli hr hS (fun q _ h => hF q h) hF (fun r u t H1 locs1 ht hvm hw hB hz hk hS1 => ?_)
  obtain ⟨hP1, hK1, hD1⟩ := hB
  rw [ht] at hP1
  obtain ⟨hP2, hD2⟩ := va_join (wr := wr) (w1 := wsf u) hP hD isC isR hC hR hn hdis hk hF hP1 hD1
  exact kk r u H1 locs1 hw hP2 hD2 hS1
theorem wc_l {S : Type} {post : Int64 → S → Prop} {wsf : S → va_W} (hr : va_Run p l e R s m args below meth c H locs cells slots mc ms (F0 m pc ls st0) rest (va_Ql post (fun u t => wB dC dI tysC (va_A wc H.size) (wsf u) t) (va_A wc H.size) a) (va_A wc H.size)) (hP : va_P (dC, dI) vwCl ws H) (hD : va_D A ws) (hS : va_S A H0 H locs) (hF : ∀ q, va_A wc H.size q → A q) (isC isR : List Nat) (hC : isC.map (fun i => ws[i]?) = wc.map some) (hR : isR.map (fun i => ws[i]?) = wr.map some) (hn : va_nd isR = true) (hdis : ∀ i ∈ isR, i ∉ isC)
    (kk : ∀ (r : Int64) (u : S) (H1 : Heap) (locs1 : List Loc), post r u → va_P (dC, dI) vwCl (wr ++ wsf u) H1 → va_D A (wr ++ wsf u) → va_S A H0 H1 locs1 → W p l e R s m args below meth c H1 locs1 (cells + mc) (slots + ms) Q (F0 m (pc + 3) ls (.long r :: rest))) : W p l e R s m args below meth c H locs cells slots Q (F0 m pc ls st0) := by
  refine va_calll hr hS (fun q _ h => hF q h) hF (fun r u t H1 locs1 ht hvm hw hB hz hk hS1 => ?_)
  obtain ⟨hP1, hK1, hD1⟩ := hB
  rw [ht] at hP1
  obtain ⟨hP2, hD2⟩ := va_join (wr := wr) (w1 := wsf u) hP hD isC isR hC hR hn hdis hk hF hP1 hD1
  exact kk r u H1 locs1 hw hP2 hD2 hS1
theorem wc_v {S : Type} {post : S → Prop} {wsf : S → va_W} (hr : va_Run p l e R s m args below meth c H locs cells slots mc ms (F0 m pc ls st0) rest (va_Qv post (fun u t => wB dC dI tysC (va_A wc H.size) (wsf u) t) (va_A wc H.size) a) (va_A wc H.size)) (hP : va_P (dC, dI) vwCl ws H) (hD : va_D A ws) (hS : va_S A H0 H locs) (hF : ∀ q, va_A wc H.size q → A q) (isC isR : List Nat) (hC : isC.map (fun i => ws[i]?) = wc.map some) (hR : isR.map (fun i => ws[i]?) = wr.map some) (hn : va_nd isR = true) (hdis : ∀ i ∈ isR, i ∉ isC)
    (kk : ∀ (u : S) (H1 : Heap) (locs1 : List Loc), post u → va_P (dC, dI) vwCl (wr ++ wsf u) H1 → va_D A (wr ++ wsf u) → va_S A H0 H1 locs1 → W p l e R s m args below meth c H1 locs1 (cells + mc) (slots + ms) Q (F0 m (pc + 3) ls rest)) : W p l e R s m args below meth c H locs cells slots Q (F0 m pc ls st0) := by
  refine va_callv hr hS (fun q _ h => hF q h) hF (fun u t H1 locs1 ht hvm hw hB hz hk hS1 => ?_)
  obtain ⟨hP1, hK1, hD1⟩ := hB
  rw [ht] at hP1
  obtain ⟨hP2, hD2⟩ := va_join (wr := wr) (w1 := wsf u) hP hD isC isR hC hR hn hdis hk hF hP1 hD1
  exact kk u H1 locs1 hw hP2 hD2 hS1
variable {y : MethodName} {bytes cc : ByteArray} {maxL nL n index : Nat} {ret : Option FieldType} {rm : Room} {own C : String} {b : Nat} {As : List Value} {Qc : Array Value → State → Outcome → State → Prop} {free : Addr → Prop} {A' : Nat → Prop}
/-- a virtual call of a method with a contract of this form -/
theorem wc_V (S : CallFix p m c cc nL s args GG own) (hM : Met l y (Cond.code y bytes maxL ret :: GG) rm (va_Pc (.ref b :: As) (wPre dC dI tysC wc H.size tI)) Qc mc ms free) (w1 : Cond.methodLink own index y ∈ GG) (w2 : Cond.instanceMethod y ∈ GG) (w3 : Cond.selects C y y ∈ GG) (w4 : Cond.initialized C ∈ GG) (w5 : Cond.code y bytes maxL ret ∈ GG)
    (hd : y.cls = C ∧ y.cls ≠ "java/lang/invoke/MethodHandle" ∧ y.cls ≠ "java/lang/invoke/VarHandle" ∧ (parseMethodDescriptor y.desc).map (fun d => d.parameters.length) = some n) (hn : As.length = n) (hrc : rm.cells = mc) (hrs : rm.slots = ms) (hR : rm.frames + 1 ≤ R.frames ∧ 8 + (maxL + 11) + rm.locals ≤ R.locals)
    (hrecv : ∃ cellB : Cell, H[b]? = some cellB ∧ cellB.vm.isStatics = false ∧ s.vm.findClass C = some cellB.cls) (hPc : va_P (dC, dI) vwCl wc H) (hDc : va_D A' wc) (hKc : va_K (dC, dI) vwCl tysC s) (hZ : wZ tI A s s.heap) (hX : wX s) (hS : va_S A s.heap H locs) (hF : ∀ q, va_A wc H.size q → A q)
    (hst : st0 = As.reverse ++ .ref b :: rest) (hsize : ls.size = nL) (hW : (rest.map fun v => v.category).sum ≤ 8) (hdg : decode cc pc = .ok (.invokevirtual index, 3)) (hf : cells + mc ≤ R.cells ∧ slots + ms ≤ R.slots) :
    va_Run p l e R s m args below meth c H locs cells slots mc ms (F0 m pc ls st0) rest (Qc (Value.ref b :: As).toArray) free :=
  va_runV (As := As) (rest := rest) S hM (cwV n S.2.2.2.2 (GG_good (fun w hw => by
    rcases List.mem_append.mp hw with h | h
    · simp only [List.mem_cons, List.not_mem_nil, or_false] at h
      rcases h with rfl | rfl | rfl | rfl
      · exact w1
      · exact w2
      · exact w3
      · exact w4
    · rcases List.mem_cons.mp h with h | h
      · rw [h]; exact w5
      · exact h)) rfl hrc hrs hd hR) ⟨wPre_blind _ _ _ _ _ _ _, hrecv, fun U hU hW => ⟨rfl, wPre_of hPc hDc hKc hZ hX hS hF hU hW⟩⟩ rfl hn hsize hst (lv_room hW) hdg hf
/-- a call of a constructor -/
theorem wc_I (S : CallFix p m c cc nL s args GG own) (hM : Met l y (Cond.code y bytes maxL none :: GG) rm (va_Pc (.ref b :: As) (wPre dC dI tysC wc H.size tI)) Qc mc ms free) (w1 : Cond.methodLink own index y ∈ GG) (w2 : Cond.instanceMethod y ∈ GG) (w4 : Cond.initialized y.cls ∈ GG) (w5 : Cond.code y bytes maxL none ∈ GG) (hy : y.name = "<init>")
    (hd : y.cls ≠ "java/lang/invoke/MethodHandle" ∧ y.cls ≠ "java/lang/invoke/VarHandle" ∧ (parseMethodDescriptor y.desc).map (fun d => d.parameters.length) = some n) (hn : As.length = n) (hrc : rm.cells = mc) (hrs : rm.slots = ms) (hR : rm.frames + 1 ≤ R.frames ∧ 8 + (maxL + 11) + rm.locals ≤ R.locals)
    (hPc : va_P (dC, dI) vwCl wc H) (hDc : va_D A' wc) (hKc : va_K (dC, dI) vwCl tysC s) (hZ : wZ tI A s s.heap) (hX : wX s) (hS : va_S A s.heap H locs) (hF : ∀ q, va_A wc H.size q → A q)
    (hst : st0 = As.reverse ++ .ref b :: rest) (hsize : ls.size = nL) (hW : (rest.map fun v => v.category).sum ≤ 8) (hdg : decode cc pc = .ok (.invokespecial index, 3)) (hf : cells + mc ≤ R.cells ∧ slots + ms ≤ R.slots) :
    va_Run p l e R s m args below meth c H locs cells slots mc ms (F0 m pc ls st0) rest (Qc (Value.ref b :: As).toArray) free :=
  va_runI (As := As) (rest := rest) S hM (cwI n S.2.2.2.2 (GG_good (fun w hw => by
    rcases List.mem_cons.mp hw with h | h
    · rw [h]; exact w5
    · exact h)) rfl hrc hrs (S.2.2.2.2 _ w4) (S.2.2.2.2 _ w1) (S.2.2.2.2 _ w2) hy hd hR) ⟨wPre_blind _ _ _ _ _ _ _, fun U hU hW => ⟨rfl, wPre_of hPc hDc hKc hZ hX hS hF hU hW⟩⟩ rfl hn hsize hst (lv_room hW) hdg hf
/-- a call of a static method -/
theorem wc_S (S : CallFix p m c cc nL s args GG own) (hM : Met l y (Cond.code y bytes maxL ret :: GG) rm (va_Pc As (wPre dC dI tysC wc H.size tI)) Qc mc ms free) (w1 : Cond.methodLink own index y ∈ GG) (w2 : Cond.static y ∈ GG) (w4 : Cond.initialized y.cls ∈ GG) (w5 : Cond.code y bytes maxL ret ∈ GG)
    (hd : y.cls ≠ "java/lang/invoke/MethodHandle" ∧ y.cls ≠ "java/lang/invoke/VarHandle" ∧ (parseMethodDescriptor y.desc).map (fun d => d.parameters.length) = some n) (hn : As.length = n) (hrc : rm.cells = mc) (hrs : rm.slots = ms) (hR : rm.frames + 1 ≤ R.frames ∧ 8 + (maxL + 11) + rm.locals ≤ R.locals)
    (hPc : va_P (dC, dI) vwCl wc H) (hDc : va_D A' wc) (hKc : va_K (dC, dI) vwCl tysC s) (hZ : wZ tI A s s.heap) (hX : wX s) (hS : va_S A s.heap H locs) (hF : ∀ q, va_A wc H.size q → A q)
    (hst : st0 = As.reverse ++ rest) (hsize : ls.size = nL) (hW : (rest.map fun v => v.category).sum ≤ 8) (hdg : decode cc pc = .ok (.invokestatic index, 3)) (hf : cells + mc ≤ R.cells ∧ slots + ms ≤ R.slots) :
    va_Run p l e R s m args below meth c H locs cells slots mc ms (F0 m pc ls st0) rest (Qc As.toArray) free :=
  va_runS (As := As) (rest := rest) S hM (va_cwS n S.2.2.2.2 (GG_good (fun w hw => by
    rcases List.mem_append.mp hw with h | h
    · simp only [List.mem_cons, List.not_mem_nil, or_false] at h
      rcases h with rfl | rfl | rfl
      · exact w1
      · exact w2
      · exact w4
    · rcases List.mem_cons.mp h with h | h
      · rw [h]; exact w5
      · exact h)) rfl hrc hrs hd hR) ⟨wPre_blind _ _ _ _ _ _ _, fun U hU hW => ⟨rfl, wPre_of hPc hDc hKc hZ hX hS hF hU hW⟩⟩ rfl hn hsize hst (lv_room hW) hdg hf
end WB
