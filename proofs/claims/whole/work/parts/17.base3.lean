abbrev xNs : List String := ["java/lang/RuntimeException", "java/lang/Exception"]
set_option maxRecDepth 100000 in
theorem xt_S_in : ∀ w ∈ (vx_atS RS 37 xS xNs).filter goodWord, w ∈ GG := by decide +kernel
theorem xt_S_bad : ∀ w ∈ (vx_atS RS 37 xS xNs).filter (fun w => !goodWord w), w ∈ ([.castable xS xS, .declares ⟨"java/lang/RuntimeException", "<init>", "(Ljava/lang/String;)V"⟩, .declares ⟨"java/lang/Exception", "<init>", "(Ljava/lang/String;)V"⟩, .declares ⟨"java/lang/Throwable", "<init>", "(Ljava/lang/String;)V"⟩] : List Cond) := by decide +kernel
theorem xt_S_ot : ∀ w ∈ Cond.classLink RS 33 xS :: Cond.initialized xS :: vx_atS RS 37 xS xNs, vx_ot w = true := by decide +kernel
theorem xt_S_hat {args : Array Value} {s : State} (hts : ∀ w ∈ GG, w.before args s = true) (hX : wX s) : ∀ w ∈ vx_atS RS 37 xS xNs, w.before args s = true := vx_hat (B := ([.castable xS xS, .declares ⟨"java/lang/RuntimeException", "<init>", "(Ljava/lang/String;)V"⟩, .declares ⟨"java/lang/Exception", "<init>", "(Ljava/lang/String;)V"⟩, .declares ⟨"java/lang/Throwable", "<init>", "(Ljava/lang/String;)V"⟩] : List Cond)) (fun w hw => hts w (xt_S_in w hw)) xt_S_bad (vx_c (va_Nw.use rfl (hX.1 xS (by decide))) (vx_c (va_Nw.use rfl (hX.2.1 _ (by decide))) (vx_c (va_Nw.use rfl (hX.2.1 _ (by decide))) (vx_c (va_Nw.use rfl (hX.2.1 _ (by decide))) vx_n))))
set_option maxRecDepth 100000 in
theorem xt_A_in : ∀ w ∈ (vx_atS RS 108 xA xNs).filter goodWord, w ∈ GG := by decide +kernel
theorem xt_A_bad : ∀ w ∈ (vx_atS RS 108 xA xNs).filter (fun w => !goodWord w), w ∈ ([.castable xA xA, .declares ⟨"java/lang/RuntimeException", "<init>", "(Ljava/lang/String;)V"⟩, .declares ⟨"java/lang/Exception", "<init>", "(Ljava/lang/String;)V"⟩, .declares ⟨"java/lang/Throwable", "<init>", "(Ljava/lang/String;)V"⟩] : List Cond) := by decide +kernel
theorem xt_A_ot : ∀ w ∈ Cond.classLink RS 104 xA :: Cond.initialized xA :: vx_atS RS 108 xA xNs, vx_ot w = true := by decide +kernel
theorem xt_A_hat {args : Array Value} {s : State} (hts : ∀ w ∈ GG, w.before args s = true) (hX : wX s) : ∀ w ∈ vx_atS RS 108 xA xNs, w.before args s = true := vx_hat (B := ([.castable xA xA, .declares ⟨"java/lang/RuntimeException", "<init>", "(Ljava/lang/String;)V"⟩, .declares ⟨"java/lang/Exception", "<init>", "(Ljava/lang/String;)V"⟩, .declares ⟨"java/lang/Throwable", "<init>", "(Ljava/lang/String;)V"⟩] : List Cond)) (fun w hw => hts w (xt_A_in w hw)) xt_A_bad (vx_c (va_Nw.use rfl (hX.1 xA (by decide))) (vx_c (va_Nw.use rfl (hX.2.1 _ (by decide))) (vx_c (va_Nw.use rfl (hX.2.1 _ (by decide))) (vx_c (va_Nw.use rfl (hX.2.1 _ (by decide))) vx_n))))
set_option maxRecDepth 100000 in
theorem xt_I_in : ∀ w ∈ (vx_atS RS 99 xI xNs).filter goodWord, w ∈ GG := by decide +kernel
theorem xt_I_bad : ∀ w ∈ (vx_atS RS 99 xI xNs).filter (fun w => !goodWord w), w ∈ ([.castable xI xI, .declares ⟨"java/lang/RuntimeException", "<init>", "(Ljava/lang/String;)V"⟩, .declares ⟨"java/lang/Exception", "<init>", "(Ljava/lang/String;)V"⟩, .declares ⟨"java/lang/Throwable", "<init>", "(Ljava/lang/String;)V"⟩] : List Cond) := by decide +kernel
theorem xt_I_ot : ∀ w ∈ Cond.classLink RS 95 xI :: Cond.initialized xI :: vx_atS RS 99 xI xNs, vx_ot w = true := by decide +kernel
theorem xt_I_hat {args : Array Value} {s : State} (hts : ∀ w ∈ GG, w.before args s = true) (hX : wX s) : ∀ w ∈ vx_atS RS 99 xI xNs, w.before args s = true := vx_hat (B := ([.castable xI xI, .declares ⟨"java/lang/RuntimeException", "<init>", "(Ljava/lang/String;)V"⟩, .declares ⟨"java/lang/Exception", "<init>", "(Ljava/lang/String;)V"⟩, .declares ⟨"java/lang/Throwable", "<init>", "(Ljava/lang/String;)V"⟩] : List Cond)) (fun w hw => hts w (xt_I_in w hw)) xt_I_bad (vx_c (va_Nw.use rfl (hX.1 xI (by decide))) (vx_c (va_Nw.use rfl (hX.2.1 _ (by decide))) (vx_c (va_Nw.use rfl (hX.2.1 _ (by decide))) (vx_c (va_Nw.use rfl (hX.2.1 _ (by decide))) vx_n))))
/-- what a throw leaves: the world as it was -/
abbrev wXC (dC : Nat → ClassId) (dI : Nat → Nat → Nat) (tys : List (ClassId × FieldType)) (ws : va_W) (sz : Nat) (XE : String → Prop) : String → State → State → Prop := vx_X (fun _ : Unit => True) (fun E _ t => XE E ∧ wB dC dI tys (va_A ws sz) ws t) (va_A ws sz)
theorem wx_end {dC : Nat → ClassId} {dI : Nat → Nat → Nat} {tys : List (ClassId × FieldType)} {ws : va_W} {A : Nat → Prop} {s t : State} {H : Heap} {locs : List Loc} (hP : va_P (dC, dI) vwCl ws H) (hK : va_K (dC, dI) vwCl tys s) (hD : va_D A ws) (hS : va_S A s.heap H locs) (hvm : s.vm.Alike t.vm) (hsz : H.size ≤ t.heap.size) (hk : ∀ q : Nat, q < H.size → t.heap[q]? = H[q]?) : wB dC dI tys A ws t ∧ va_F A s t :=
  ⟨⟨hP.kept (fun k q hq => hk q.1 (hP k q hq).lt), va_K.moved hvm hK, hD⟩, Nat.le_trans hS.1 hsz, fun q h1 h2 => by rw [hk q (Nat.lt_of_lt_of_le h1 hS.1)]; exact hS.2.1 q h1 h2⟩
section WB3
variable {p : Program} {l : Launch} {e : Env} {R : Room} {s : State} {m : MethodId} {args : Array Value} {below : List Frame} {meth : Method} {c : Code} {H : Heap} {locs : List Loc} {cells slots : Nat} {Q : State → Prop} {pc : Nat} {ls : Array Slot} {rest st0 : List Value}
variable {dC : Nat → ClassId} {dI : Nat → Nat → Nat} {tysC : List (ClassId × FieldType)} {tI mc ms : Nat} {A : Nat → Prop} {ws wc wr : va_W} {a : Array Value} {H0 : Heap} {XE : String → Prop}
theorem wcx_v {S : Type} {post : S → Prop} {wsf : S → va_W} (hr : vx_Run p l e R s m args below meth c H locs cells slots mc ms (F0 m pc ls st0) rest (va_Qv post (fun u t => wB dC dI tysC (va_A wc H.size) (wsf u) t) (va_A wc H.size) a) (wXC dC dI tysC wc H.size XE) (va_A wc H.size)) (hP : va_P (dC, dI) vwCl ws H) (hD : va_D A ws) (hS : va_S A H0 H locs) (hF : ∀ q, va_A wc H.size q → A q) (isC isR : List Nat) (hC : isC.map (fun i => ws[i]?) = wc.map some) (hR : isR.map (fun i => ws[i]?) = wr.map some) (hn : va_nd isR = true) (hdis : ∀ i ∈ isR, i ∉ isC)
    (kx : ∀ (E : String) (ce : Cell) (q9 : Addr) (H1 : Heap) (locs1 : List Loc), XE E → va_P (dC, dI) vwCl (wr ++ wc) H1 → va_D A (wr ++ wc) → va_S A H0 H1 locs1 → H1[q9]? = some ce → ce.vm = .none → s.vm.findClass E = some ce.cls → vx_W p l e R s m args below meth c H1 locs1 (cells + mc) (slots + ms) Q (F0 m pc ls rest) q9)
    (kk : ∀ (u : S) (H1 : Heap) (locs1 : List Loc), post u → va_P (dC, dI) vwCl (wr ++ wsf u) H1 → va_D A (wr ++ wsf u) → va_S A H0 H1 locs1 → W p l e R s m args below meth c H1 locs1 (cells + mc) (slots + ms) Q (F0 m (pc + 3) ls rest)) : W p l e R s m args below meth c H locs cells slots Q (F0 m pc ls st0) := by
  refine vx_callv hr hS (fun q _ h => hF q h) hF (fun q _ h => hF q h) (fun E ce q9 u t H1 locs1 ht hvm hw hB hz hk hS1 h7 h8 h9 => ?_) (fun u t H1 locs1 ht hvm hw hB hz hk hS1 => ?_)
  · obtain ⟨hE, hP1, hK1, hD1⟩ := hB
    rw [ht] at hP1
    obtain ⟨hP2, hD2⟩ := va_join (wr := wr) (w1 := wc) hP hD isC isR hC hR hn hdis hk hF hP1 hD1
    exact kx E ce q9 H1 locs1 hE hP2 hD2 hS1 h7 h8 h9
  · obtain ⟨hP1, hK1, hD1⟩ := hB
    rw [ht] at hP1
    obtain ⟨hP2, hD2⟩ := va_join (wr := wr) (w1 := wsf u) hP hD isC isR hC hR hn hdis hk hF hP1 hD1
    exact kk u H1 locs1 hw hP2 hD2 hS1
theorem wcx_i {S : Type} {post : Int32 → S → Prop} {wsf : S → va_W} (hr : vx_Run p l e R s m args below meth c H locs cells slots mc ms (F0 m pc ls st0) rest (va_Qi post (fun u t => wB dC dI tysC (va_A wc H.size) (wsf u) t) (va_A wc H.size) a) (wXC dC dI tysC wc H.size XE) (va_A wc H.size)) (hP : va_P (dC, dI) vwCl ws H) (hD : va_D A ws) (hS : va_S A H0 H locs) (hF : ∀ q, va_A wc H.size q → A q) (isC isR : List Nat) (hC : isC.map (fun i => ws[i]?) = wc.map some) (hR : isR.map (fun i => ws[i]?) = wr.map some) (hn : va_nd isR = true) (hdis : ∀ i ∈ isR, i ∉ isC)
    (kx : ∀ (E : String) (ce : Cell) (q9 : Addr) (H1 : Heap) (locs1 : List Loc), XE E → va_P (dC, dI) vwCl (wr ++ wc) H1 → va_D A (wr ++ wc) → va_S A H0 H1 locs1 → H1[q9]? = some ce → ce.vm = .none → s.vm.findClass E = some ce.cls → vx_W p l e R s m args below meth c H1 locs1 (cells + mc) (slots + ms) Q (F0 m pc ls rest) q9)
    (kk : ∀ (r : Int32) (u : S) (H1 : Heap) (locs1 : List Loc), post r u → va_P (dC, dI) vwCl (wr ++ wsf u) H1 → va_D A (wr ++ wsf u) → va_S A H0 H1 locs1 → W p l e R s m args below meth c H1 locs1 (cells + mc) (slots + ms) Q (F0 m (pc + 3) ls (.int r :: rest))) : W p l e R s m args below meth c H locs cells slots Q (F0 m pc ls st0) := by
  refine vx_calli hr hS (fun q _ h => hF q h) hF (fun q _ h => hF q h) (fun E ce q9 u t H1 locs1 ht hvm hw hB hz hk hS1 h7 h8 h9 => ?_) (fun r u t H1 locs1 ht hvm hw hB hz hk hS1 => ?_)
  · obtain ⟨hE, hP1, hK1, hD1⟩ := hB
    rw [ht] at hP1
    obtain ⟨hP2, hD2⟩ := va_join (wr := wr) (w1 := wc) hP hD isC isR hC hR hn hdis hk hF hP1 hD1
    exact kx E ce q9 H1 locs1 hE hP2 hD2 hS1 h7 h8 h9
  · obtain ⟨hP1, hK1, hD1⟩ := hB
    rw [ht] at hP1
    obtain ⟨hP2, hD2⟩ := va_join (wr := wr) (w1 := wsf u) hP hD isC isR hC hR hn hdis hk hF hP1 hD1
    exact kk r u H1 locs1 hw hP2 hD2 hS1
variable {y : MethodName} {bytes cc : ByteArray} {maxL nL n index : Nat} {ret : Option FieldType} {rm : Room} {own C : String} {b : Nat} {As : List Value} {Qc : Array Value → State → Outcome → State → Prop} {free : Addr → Prop} {A' : Nat → Prop} {XC : String → State → State → Prop}
theorem wcx_V (S : CallFix p m c cc nL s args GG own) (hM : vx_Met l y (Cond.code y bytes maxL ret :: GG) rm (va_Pc (.ref b :: As) (wPre dC dI tysC wc H.size tI)) Qc XC mc ms free) (w1 : Cond.methodLink own index y ∈ GG) (w2 : Cond.instanceMethod y ∈ GG) (w3 : Cond.selects C y y ∈ GG) (w4 : Cond.initialized C ∈ GG) (w5 : Cond.code y bytes maxL ret ∈ GG)
    (hd : y.cls = C ∧ y.cls ≠ "java/lang/invoke/MethodHandle" ∧ y.cls ≠ "java/lang/invoke/VarHandle" ∧ (parseMethodDescriptor y.desc).map (fun d => d.parameters.length) = some n) (hn : As.length = n) (hrc : rm.cells = mc) (hrs : rm.slots = ms) (hR : rm.frames + 1 ≤ R.frames ∧ 8 + (maxL + 11) + rm.locals ≤ R.locals)
    (hrecv : ∃ cellB : Cell, H[b]? = some cellB ∧ cellB.vm.isStatics = false ∧ s.vm.findClass C = some cellB.cls) (hPc : va_P (dC, dI) vwCl wc H) (hDc : va_D A' wc) (hKc : va_K (dC, dI) vwCl tysC s) (hZ : wZ tI A s s.heap) (hX : wX s) (hS : va_S A s.heap H locs) (hF : ∀ q, va_A wc H.size q → A q)
    (hst : st0 = As.reverse ++ .ref b :: rest) (hsize : ls.size = nL) (hW : (rest.map fun v => v.category).sum ≤ 8) (hdg : decode cc pc = .ok (.invokevirtual index, 3)) (hf : cells + mc ≤ R.cells ∧ slots + ms ≤ R.slots) :
    vx_Run p l e R s m args below meth c H locs cells slots mc ms (F0 m pc ls st0) rest (Qc (Value.ref b :: As).toArray) XC free :=
  vx_runV (As := As) (rest := rest) S hM (cwV n S.2.2.2.2 (GG_good (fun w hw => by
    rcases List.mem_append.mp hw with h | h
    · simp only [List.mem_cons, List.not_mem_nil, or_false] at h
      rcases h with rfl | rfl | rfl | rfl
      · exact w1
      · exact w2
      · exact w3
      · exact w4
    · rcases List.mem_cons.mp h with h | h
      · rw [h]; exact w5
      · exact h)) rfl hrc hrs hd hR) ⟨wPre_blind _ _ _ _ _ _ _, hrecv, fun U hU hW => ⟨rfl, wPre_of hPc hDc hKc hZ hX hS hF hU hW⟩⟩ rfl hn hsize hst (lv_room hW) hdg hf
theorem wcx_SW {hh : List (Nat × Nat × Nat × Nat)} (S : CallFix p m c cc nL s args GG own) (hM : Met l y (Cond.codeWith y bytes maxL ret hh :: GG) rm (va_Pc As (wPre dC dI tysC wc H.size tI)) Qc mc ms free) (w1 : Cond.methodLink own index y ∈ GG) (w2 : Cond.static y ∈ GG) (w4 : Cond.initialized y.cls ∈ GG) (w5 : Cond.codeWith y bytes maxL ret hh ∈ GG)
    (hd : y.cls ≠ "java/lang/invoke/MethodHandle" ∧ y.cls ≠ "java/lang/invoke/VarHandle" ∧ (parseMethodDescriptor y.desc).map (fun d => d.parameters.length) = some n) (hn : As.length = n) (hrc : rm.cells = mc) (hrs : rm.slots = ms) (hR : rm.frames + 1 ≤ R.frames ∧ 8 + (maxL + 11) + rm.locals ≤ R.locals)
    (hPc : va_P (dC, dI) vwCl wc H) (hDc : va_D A' wc) (hKc : va_K (dC, dI) vwCl tysC s) (hZ : wZ tI A s s.heap) (hX : wX s) (hS : va_S A s.heap H locs) (hF : ∀ q, va_A wc H.size q → A q)
    (hst : st0 = As.reverse ++ rest) (hsize : ls.size = nL) (hW : (rest.map fun v => v.category).sum ≤ 8) (hdg : decode cc pc = .ok (.invokestatic index, 3)) (hf : cells + mc ≤ R.cells ∧ slots + ms ≤ R.slots) :
    va_Run p l e R s m args below meth c H locs cells slots mc ms (F0 m pc ls st0) rest (Qc As.toArray) free :=
  vx_runSW (As := As) (rest := rest) S hM (vx_cwSW n S.2.2.2.2 (GG_good (fun w hw => by
    rcases List.mem_append.mp hw with h | h
    · simp only [List.mem_cons, List.not_mem_nil, or_false] at h
      rcases h with rfl | rfl | rfl
      · exact w1
      · exact w2
      · exact w4
    · rcases List.mem_cons.mp h with h | h
      · rw [h]; exact w5
      · exact h)) rfl hrc hrs hd hR) ⟨wPre_blind _ _ _ _ _ _ _, fun U hU hW => ⟨rfl, wPre_of hPc hDc hKc hZ hX hS hF hU hW⟩⟩ rfl hn hsize hst (lv_room hW) hdg hf
end WB3
