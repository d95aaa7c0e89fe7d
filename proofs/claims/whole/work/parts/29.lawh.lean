theorem ax_in01 : vp_in 0 1 := vp_in_nI (n := 0) (N := 1) (by decide) (by decide)
set_option maxHeartbeats 4000000 in
set_option maxRecDepth 100000 in
theorem k_L_variable (l : Launch) (hst : l.stackTraces = false) (dC : Nat → ClassId) (dI : Nat → Nat → Nat) (tI sz : Nat) (h0 h1 w1 h2 aw aa : Nat) (cL : ClassId) (f : Nat → Int64) (U : Nat) (hU : U ≤ 1024) (nv nl nc wc ac vt : Nat) (fo bl lv : Int32) (hnv : nv ≤ 16) (h22 : nv < 16 → nv < 6 ∨ 2 * U ≤ 1024) (ao : Nat) (cO : ClassId) (og : Nat → Int64) : Met l yL_variable (Cond.codeWith yL_variable cL_variable 3 (some .int) [(0, 8, 11, 13)] :: GG) (lvr 8 1 6) (va_Pc [.ref h0, .ref ao] (wPre dC dI [(cL, .long), (cO, .long)] [(h0, .inr (1, [.ref h1, .ref h2, .ref aw, .ref aa, .int (nI nv), .int (nI nl), .int (nI nc), .int (nI wc), .int (nI ac), .int fo, .int bl, .int lv, .int (nI vt)])), (h1, .inr (0, [.ref w1, .int (nI U)])), (w1, .inl (cL, 1024, .inr (.inl f))), (ao, .inl (cO, 1, .inr (.inl og)))] sz tI)) (va_Qi (fun (r : Int32) (u : (Nat → Int64) × Nat × Nat × (Nat → Int64)) => (r = 0 ∧ nv < 16 ∧ u.2.2.1 = nv + 1 ∧ u.2.2.2 0 = (nI nv).toInt64 ∧ ((nv < 6 ∧ (u.1, u.2.1) = (f, U)) ∨ (6 ≤ nv ∧ u.2.1 = 2 * U ∧ ∀ k, k < U → u.1 k = f k ∧ u.1 (U + k) = f k))) ∨ (r = 1 ∧ 16 ≤ nv ∧ u = (f, U, nv, og))) (fun u t => wB dC dI [(cL, .long), (cO, .long)] (va_A [(h0, .inr (1, [.ref h1, .ref h2, .ref aw, .ref aa, .int (nI nv), .int (nI nl), .int (nI nc), .int (nI wc), .int (nI ac), .int fo, .int bl, .int lv, .int (nI vt)])), (h1, .inr (0, [.ref w1, .int (nI U)])), (w1, .inl (cL, 1024, .inr (.inl f))), (ao, .inl (cO, 1, .inr (.inl og)))] sz) [(h0, .inr (1, [.ref h1, .ref h2, .ref aw, .ref aa, .int (nI u.2.2.1), .int (nI nl), .int (nI nc), .int (nI wc), .int (nI ac), .int fo, .int bl, .int lv, .int (nI vt)])), (h1, .inr (0, [.ref w1, .int (nI u.2.1)])), (w1, .inl (cL, 1024, .inr (.inl u.1))), (ao, .inl (cO, 1, .inr (.inl u.2.2.2)))] t) (va_A [(h0, .inr (1, [.ref h1, .ref h2, .ref aw, .ref aa, .int (nI nv), .int (nI nl), .int (nI nc), .int (nI wc), .int (nI ac), .int fo, .int bl, .int lv, .int (nI vt)])), (h1, .inr (0, [.ref w1, .int (nI U)])), (w1, .inl (cL, 1024, .inr (.inl f))), (ao, .inl (cO, 1, .inr (.inl og)))] sz)) 1 6 (va_A [(h0, .inr (1, [.ref h1, .ref h2, .ref aw, .ref aa, .int (nI nv), .int (nI nl), .int (nI nc), .int (nI wc), .int (nI ac), .int fo, .int bl, .int lv, .int (nI vt)])), (h1, .inr (0, [.ref w1, .int (nI U)])), (w1, .inl (cL, 1024, .inr (.inl f))), (ao, .inl (cO, 1, .inr (.inl og)))] sz) := by
  refine va_MetW (cc := cL_variable) (maxL := 3) (ret := (some .int)) (hh := [(0, 8, 11, 13)]) (by decide) rfl ?_
  intro p e s m args below meth c s₁ B hml hv
  obtain ⟨rfl, hsz, hP, hK, hD0, hZ, hX⟩ := hv
  have hx := B.exec
  have hb := B.bytes
  have hr := B.returns
  have hts : ∀ w ∈ GG, w.before ([.ref h0, .ref ao] : List Value).toArray s = true := fun w h => atoms_spec (ws := _ :: GG) B.pre w (List.mem_cons_of_mem _ h)
  have hown : s.vm.findClass RL = some m.cls := findClass_of_methodNamed B.named
  have hlocks := B.notSynchronized
  subst hsz
  have hD := hD0.self (sz := s.heap.size)
  generalize hAe : va_A [(h0, .inr (1, [.ref h1, .ref h2, .ref aw, .ref aa, .int (nI nv), .int (nI nl), .int (nI nc), .int (nI wc), .int (nI ac), .int fo, .int bl, .int lv, .int (nI vt)])), (h1, .inr (0, [.ref w1, .int (nI U)])), (w1, .inl (cL, 1024, .inr (.inl f))), (ao, .inl (cO, 1, .inr (.inl og)))] s.heap.size = A at hD hZ ⊢
  have hA : ∀ q : Nat, s.heap.size ≤ q → A q := fun q h => by rw [← hAe]; exact Or.inr h
  have hS : va_S A s.heap s.heap [] := va_S.rf
  have hl := lv_entry ([.ref h0, .ref ao]) (n := 3) (Nat.le_of_ble_eq_true rfl)
  rw [lg_entry_eq]
  generalize (lg_sl ([.ref h0, .ref ao]) ++ List.replicate (3 - (lg_sl ([.ref h0, .ref ao])).length) Slot.unset).toArray = ls at hl ⊢
  have hl : lv_has ls 3 [(0, .ref h0), (1, .ref ao)] := hl
  have SF : CallFix p m c cL_variable 3 s ([.ref h0, .ref ao] : List Value).toArray GG RL := ⟨hx, hb, hml, hown, hts⟩
  skip
  have hP : va_P (dC, dI) vwCl [(h0, .inr (1, [.ref h1, .ref h2, .ref aw, .ref aa, .int (nI nv), .int (nI nl), .int (nI nc), .int (nI wc), .int (nI ac), .int fo, .int bl, .int lv, .int (nI vt)])), (h1, .inr (0, [.ref w1, .int (nI U)])), (w1, .inl (cL, 1024, .inr (.inl f))), (ao, .inl (cO, 1, .inr (.inl og)))] s.heap := hP
  have htb : c.exceptionTable.toList = tableOf [(0, 8, 11, 13)] := vx_table (x := yL_variable) B (atoms_spec (ws := _ :: GG) B.pre _ List.mem_cons_self)
  refine lv_aload_n hx hb dL_variable_0 rfl (lv_at hl 1 rfl) ?_
  refine lv_iconst (v := 0) hx hb dL_variable_1 (by decide) ?_
  refine lv_aload_n hx hb dL_variable_2 rfl (lv_at hl 0 rfl) ?_
  have hFc := va_free (wc := [(h0, .inr (1, [.ref h1, .ref h2, .ref aw, .ref aa, .int (nI nv), .int (nI nl), .int (nI nc), .int (nI wc), .int (nI ac), .int fo, .int bl, .int lv, .int (nI vt)])), (h1, .inr (0, [.ref w1, .int (nI U)])), (w1, .inl (cL, 1024, .inr (.inl f)))]) hD hS hA [0, 1, 2] rfl
  refine wcx_i (wcx_V (As := []) (rest := [.int 0, .ref ao]) (n := 0) SF (k_S_variable l hst dC dI tI _ h0 h1 w1 h2 aw aa cL f U hU nv nl nc wc ac vt fo bl lv hnv h22) ml_L_7 im_S_variable se_S_variable in_S co_S_variable (by decide +kernel) rfl rfl rfl ⟨Nat.le_of_ble_eq_true rfl, Nat.le_of_ble_eq_true rfl⟩ (va_recv (hK.sub (tys' := []) [] rfl) (hP.sub (ws' := [(h0, .inr (1, [.ref h1, .ref h2, .ref aw, .ref aa, .int (nI nv), .int (nI nl), .int (nI nc), .int (nI wc), .int (nI ac), .int fo, .int bl, .int lv, .int (nI vt)])), (h1, .inr (0, [.ref w1, .int (nI U)])), (w1, .inl (cL, 1024, .inr (.inl f)))]) [0, 1, 2] rfl) (ci := 1) (q0 := 0) rfl rfl) (hP.sub [0, 1, 2] rfl) (hD.sub [0, 1, 2] (by decide) rfl) (hK.sub [0] rfl) hZ hX hS hFc rfl hl.1 (Nat.le_of_ble_eq_true rfl) dL_variable_3 ⟨Nat.le_of_ble_eq_true rfl, Nat.le_of_ble_eq_true rfl⟩) hP hD hS hFc [0, 1, 2] [3] (wr := [(ao, .inl (cO, 1, .inr (.inl og)))]) rfl rfl rfl (by decide) (fun E ce q9 H locs hE hP hD hS h7 h8 h9 => ?_) (fun r9 uu H locs hpo hP hD hS => ?_)
  · have hP : va_P (dC, dI) vwCl [(h0, .inr (1, [.ref h1, .ref h2, .ref aw, .ref aa, .int (nI nv), .int (nI nl), .int (nI nc), .int (nI wc), .int (nI ac), .int fo, .int bl, .int lv, .int (nI vt)])), (h1, .inr (0, [.ref w1, .int (nI U)])), (w1, .inl (cL, 1024, .inr (.inl f))), (ao, .inl (cO, 1, .inr (.inl og)))] H := hP.sub [1, 2, 3, 0] rfl
    have hD : va_D A [(h0, .inr (1, [.ref h1, .ref h2, .ref aw, .ref aa, .int (nI nv), .int (nI nl), .int (nI nc), .int (nI wc), .int (nI ac), .int fo, .int bl, .int lv, .int (nI vt)])), (h1, .inr (0, [.ref w1, .int (nI U)])), (w1, .inl (cL, 1024, .inr (.inl f))), (ao, .inl (cO, 1, .inr (.inl og)))] := hD.sub [1, 2, 3, 0] (by decide) rfl
    obtain ⟨eE, hE⟩ := hE
    subst eE
    refine vx_catch hown [] ⟨0, 8, 11, 13⟩ [] htb (fun z hz => nomatch hz) (by decide) (by decide) (hts _ cl_L_13) (va_Nw.use rfl (hX.1 xS (by decide))) h7 h8 h9 ?_
    refine lv_astore_n (lv' := [(2, .ref q9), (0, .ref h0), (1, .ref ao)]) hx hb dL_variable_11 rfl hl (by decide) rfl (fun ls hl => ?_)
    refine lv_iconst (v := 1) hx hb dL_variable_12 (by decide) ?_
    refine W.widen (k := 1) (n := 6) (Nat.le_of_ble_eq_true rfl) (Nat.le_of_ble_eq_true rfl) ?_
    exact (W.iret (v := 1) hx hb hr (fun t ht hW => ⟨⟨1, (f, U, nv, og), rfl, Or.inr ⟨rfl, hE, rfl⟩, by rw [ht]; exact hP, va_K.moved hW.alike hK, hD⟩, hS.F ht⟩) hS.2.2 dL_variable_13)
  · have hP : va_P (dC, dI) vwCl [(h0, .inr (1, [.ref h1, .ref h2, .ref aw, .ref aa, .int (nI (nv + 1)), .int (nI nl), .int (nI nc), .int (nI wc), .int (nI ac), .int fo, .int bl, .int lv, .int (nI vt)])), (h1, .inr (0, [.ref w1, .int (nI uu.2)])), (w1, .inl (cL, 1024, .inr (.inl uu.1))), (ao, .inl (cO, 1, .inr (.inl og)))] H := hP.sub [1, 2, 3, 0] rfl
    have hD : va_D A [(h0, .inr (1, [.ref h1, .ref h2, .ref aw, .ref aa, .int (nI (nv + 1)), .int (nI nl), .int (nI nc), .int (nI wc), .int (nI ac), .int fo, .int bl, .int lv, .int (nI vt)])), (h1, .inr (0, [.ref w1, .int (nI uu.2)])), (w1, .inl (cL, 1024, .inr (.inl uu.1))), (ao, .inl (cO, 1, .inr (.inl og)))] := hD.sub [1, 2, 3, 0] (by decide) rfl
    refine lv_i2l hx hb dL_variable_6 rfl ?_
    refine va_last hx hb hK hP hD hS 3 1 rfl rfl (ax_in01) dL_variable_7 (fun H locs hP hD hS => ?_)
    have hP : va_P (dC, dI) vwCl [(h0, .inr (1, [.ref h1, .ref h2, .ref aw, .ref aa, .int (nI (nv + 1)), .int (nI nl), .int (nI nc), .int (nI wc), .int (nI ac), .int fo, .int bl, .int lv, .int (nI vt)])), (h1, .inr (0, [.ref w1, .int (nI uu.2)])), (w1, .inl (cL, 1024, .inr (.inl uu.1))), (ao, .inl (cO, 1, .inr (.inl (vp_updL og 0 r9.toInt64))))] H := hP
    have hD : va_D A [(h0, .inr (1, [.ref h1, .ref h2, .ref aw, .ref aa, .int (nI (nv + 1)), .int (nI nl), .int (nI nc), .int (nI wc), .int (nI ac), .int fo, .int bl, .int lv, .int (nI vt)])), (h1, .inr (0, [.ref w1, .int (nI uu.2)])), (w1, .inl (cL, 1024, .inr (.inl uu.1))), (ao, .inl (cO, 1, .inr (.inl (vp_updL og 0 r9.toInt64))))] := hD
    refine lv_goto (tgt := 14) hx hb dL_variable_8 (by decide) ?_
    refine lv_iconst (v := 0) hx hb dL_variable_14 (by decide) ?_
    refine W.widen (k := 1) (n := 6) (Nat.le_of_ble_eq_true rfl) (Nat.le_of_ble_eq_true rfl) ?_
    exact (W.iret (v := 0) hx hb hr (fun t ht hW => ⟨⟨0, (uu.1, uu.2, nv + 1, vp_updL og 0 r9.toInt64), rfl, Or.inl ⟨rfl, hpo.1, rfl, by rw [hpo.2.1]; rfl, hpo.2.2⟩, by rw [ht]; exact hP, va_K.moved hW.alike hK, hD⟩, hS.F ht⟩) hS.2.2 dL_variable_15)
set_option maxHeartbeats 4000000 in
set_option maxRecDepth 100000 in
theorem k_L_literal (l : Launch) (hst : l.stackTraces = false) (dC : Nat → ClassId) (dI : Nat → Nat → Nat) (tI sz : Nat) (h0 h1 h2 aw aa : Nat) (cI : ClassId) (wf : Nat → Int32) (nv nl nc wc ac vt : Nat) (fo bl lv : Int32) (x : Int32) (hnv : nv ≤ 16) (hwc : wc ≤ 40) (hnl : nl ≤ 4000) (ao : Nat) (cO : ClassId) (og : Nat → Int64) : Met l yL_literal (Cond.codeWith yL_literal cL_literal 4 (some .int) [(0, 9, 12, 19), (0, 9, 15, 13)] :: GG) (lvr 8 2 12) (va_Pc [.ref h0, .int x, .ref ao] (wPre dC dI [(cI, .int), (cO, .long)] [(h0, .inr (1, [.ref h1, .ref h2, .ref aw, .ref aa, .int (nI nv), .int (nI nl), .int (nI nc), .int (nI wc), .int (nI ac), .int fo, .int bl, .int lv, .int (nI vt)])), (aw, .inl (cI, 40, .inl wf)), (ao, .inl (cO, 1, .inr (.inl og)))] sz tI)) (va_Qi (fun (r : Int32) (u : (Nat → Int32) × Nat × Nat × (Nat → Int64)) => (r = 0 ∧ (∃ L, L < 2 * nv ∧ x = nI L) ∧ wc < 40 ∧ nl < 4000 ∧ u.2.2.2 0 = (nI (wc + 1)).toInt64 ∧ u.1 = upd wf wc x ∧ u.2.1 = wc + 1 ∧ u.2.2.1 = nl + 1) ∨ (r = 1 ∧ ¬ (∃ L, L < 2 * nv ∧ x = nI L) ∧ u = (wf, wc, nl, og)) ∨ (r = 2 ∧ (∃ L, L < 2 * nv ∧ x = nI L) ∧ (40 ≤ wc ∨ 4000 ≤ nl) ∧ u = (wf, wc, nl, og))) (fun u t => wB dC dI [(cI, .int), (cO, .long)] (va_A [(h0, .inr (1, [.ref h1, .ref h2, .ref aw, .ref aa, .int (nI nv), .int (nI nl), .int (nI nc), .int (nI wc), .int (nI ac), .int fo, .int bl, .int lv, .int (nI vt)])), (aw, .inl (cI, 40, .inl wf)), (ao, .inl (cO, 1, .inr (.inl og)))] sz) [(h0, .inr (1, [.ref h1, .ref h2, .ref aw, .ref aa, .int (nI nv), .int (nI u.2.2.1), .int (nI nc), .int (nI u.2.1), .int (nI ac), .int fo, .int bl, .int lv, .int (nI vt)])), (aw, .inl (cI, 40, .inl u.1)), (ao, .inl (cO, 1, .inr (.inl u.2.2.2)))] t) (va_A [(h0, .inr (1, [.ref h1, .ref h2, .ref aw, .ref aa, .int (nI nv), .int (nI nl), .int (nI nc), .int (nI wc), .int (nI ac), .int fo, .int bl, .int lv, .int (nI vt)])), (aw, .inl (cI, 40, .inl wf)), (ao, .inl (cO, 1, .inr (.inl og)))] sz)) 2 12 (va_A [(h0, .inr (1, [.ref h1, .ref h2, .ref aw, .ref aa, .int (nI nv), .int (nI nl), .int (nI nc), .int (nI wc), .int (nI ac), .int fo, .int bl, .int lv, .int (nI vt)])), (aw, .inl (cI, 40, .inl wf)), (ao, .inl (cO, 1, .inr (.inl og)))] sz) := by
  refine va_MetW (cc := cL_literal) (maxL := 4) (ret := (some .int)) (hh := [(0, 9, 12, 19), (0, 9, 15, 13)]) (by decide) rfl ?_
  intro p e s m args below meth c s₁ B hml hv
  obtain ⟨rfl, hsz, hP, hK, hD0, hZ, hX⟩ := hv
  have hx := B.exec
  have hb := B.bytes
  have hr := B.returns
  have hts : ∀ w ∈ GG, w.before ([.ref h0, .int x, .ref ao] : List Value).toArray s = true := fun w h => atoms_spec (ws := _ :: GG) B.pre w (List.mem_cons_of_mem _ h)
  have hown : s.vm.findClass RL = some m.cls := findClass_of_methodNamed B.named
  have hlocks := B.notSynchronized
  subst hsz
  have hD := hD0.self (sz := s.heap.size)
  generalize hAe : va_A [(h0, .inr (1, [.ref h1, .ref h2, .ref aw, .ref aa, .int (nI nv), .int (nI nl), .int (nI nc), .int (nI wc), .int (nI ac), .int fo, .int bl, .int lv, .int (nI vt)])), (aw, .inl (cI, 40, .inl wf)), (ao, .inl (cO, 1, .inr (.inl og)))] s.heap.size = A at hD hZ ⊢
  have hA : ∀ q : Nat, s.heap.size ≤ q → A q := fun q h => by rw [← hAe]; exact Or.inr h
  have hS : va_S A s.heap s.heap [] := va_S.rf
  have hl := lv_entry ([.ref h0, .int x, .ref ao]) (n := 4) (Nat.le_of_ble_eq_true rfl)
  rw [lg_entry_eq]
  generalize (lg_sl ([.ref h0, .int x, .ref ao]) ++ List.replicate (4 - (lg_sl ([.ref h0, .int x, .ref ao])).length) Slot.unset).toArray = ls at hl ⊢
  have hl : lv_has ls 4 [(0, .ref h0), (1, .int x), (2, .ref ao)] := hl
  have SF : CallFix p m c cL_literal 4 s ([.ref h0, .int x, .ref ao] : List Value).toArray GG RL := ⟨hx, hb, hml, hown, hts⟩
  skip
  have hP : va_P (dC, dI) vwCl [(h0, .inr (1, [.ref h1, .ref h2, .ref aw, .ref aa, .int (nI nv), .int (nI nl), .int (nI nc), .int (nI wc), .int (nI ac), .int fo, .int bl, .int lv, .int (nI vt)])), (aw, .inl (cI, 40, .inl wf)), (ao, .inl (cO, 1, .inr (.inl og)))] s.heap := hP
  have htb : c.exceptionTable.toList = tableOf [(0, 9, 12, 19), (0, 9, 15, 13)] := vx_table (x := yL_literal) B (atoms_spec (ws := _ :: GG) B.pre _ List.mem_cons_self)
  refine lv_aload_n hx hb dL_literal_0 rfl (lv_at hl 2 rfl) ?_
  refine lv_iconst (v := 0) hx hb dL_literal_1 (by decide) ?_
  refine lv_aload_n hx hb dL_literal_2 rfl (lv_at hl 0 rfl) ?_
  refine lv_iload_n hx hb dL_literal_3 rfl (lv_at hl 1 rfl) ?_
  have hFc := va_free (wc := [(h0, .inr (1, [.ref h1, .ref h2, .ref aw, .ref aa, .int (nI nv), .int (nI nl), .int (nI nc), .int (nI wc), .int (nI ac), .int fo, .int bl, .int lv, .int (nI vt)])), (aw, .inl (cI, 40, .inl wf))]) hD hS hA [0, 1] rfl
  refine wcx_i (wcx_V (As := [.int x]) (rest := [.int 0, .ref ao]) (n := 1) SF (k_S_literal l hst dC dI tI _ h0 h1 h2 aw aa cI wf nv nl nc wc ac vt fo bl lv x hnv hwc hnl) ml_L_15 im_S_literal se_S_literal in_S co_S_literal (by decide +kernel) rfl rfl rfl ⟨Nat.le_of_ble_eq_true rfl, Nat.le_of_ble_eq_true rfl⟩ (va_recv (hK.sub (tys' := []) [] rfl) (hP.sub (ws' := [(h0, .inr (1, [.ref h1, .ref h2, .ref aw, .ref aa, .int (nI nv), .int (nI nl), .int (nI nc), .int (nI wc), .int (nI ac), .int fo, .int bl, .int lv, .int (nI vt)])), (aw, .inl (cI, 40, .inl wf))]) [0, 1] rfl) (ci := 1) (q0 := 0) rfl rfl) (hP.sub [0, 1] rfl) (hD.sub [0, 1] (by decide) rfl) (hK.sub [0] rfl) hZ hX hS hFc rfl hl.1 (Nat.le_of_ble_eq_true rfl) dL_literal_4 ⟨Nat.le_of_ble_eq_true rfl, Nat.le_of_ble_eq_true rfl⟩) hP hD hS hFc [0, 1] [2] (wr := [(ao, .inl (cO, 1, .inr (.inl og)))]) rfl rfl rfl (by decide) (fun E ce q9 H locs hE hP hD hS h7 h8 h9 => ?_) (fun r9 uu H locs hpo hP hD hS => ?_)
  · have hP : va_P (dC, dI) vwCl [(h0, .inr (1, [.ref h1, .ref h2, .ref aw, .ref aa, .int (nI nv), .int (nI nl), .int (nI nc), .int (nI wc), .int (nI ac), .int fo, .int bl, .int lv, .int (nI vt)])), (aw, .inl (cI, 40, .inl wf)), (ao, .inl (cO, 1, .inr (.inl og)))] H := hP.sub [1, 2, 0] rfl
    have hD : va_D A [(h0, .inr (1, [.ref h1, .ref h2, .ref aw, .ref aa, .int (nI nv), .int (nI nl), .int (nI nc), .int (nI wc), .int (nI ac), .int fo, .int bl, .int lv, .int (nI vt)])), (aw, .inl (cI, 40, .inl wf)), (ao, .inl (cO, 1, .inr (.inl og)))] := hD.sub [1, 2, 0] (by decide) rfl
    rcases hE with ⟨eE, hE⟩ | ⟨eE, hE⟩
    · subst eE
      refine vx_catch hown [] ⟨0, 9, 12, 19⟩ [⟨0, 9, 15, 13⟩] htb (fun z hz => nomatch hz) (by decide) (by decide) (hts _ cl_L_19) (va_Nw.use rfl (hX.1 xA (by decide))) h7 h8 h9 ?_
      refine lv_astore_n (lv' := [(3, .ref q9), (0, .ref h0), (1, .int x), (2, .ref ao)]) hx hb dL_literal_12 rfl hl (by decide) rfl (fun ls hl => ?_)
      refine lv_iconst (v := 1) hx hb dL_literal_13 (by decide) ?_
      refine W.widen (k := 2) (n := 12) (Nat.le_of_ble_eq_true rfl) (Nat.le_of_ble_eq_true rfl) ?_
      exact (W.iret (v := 1) hx hb hr (fun t ht hW => ⟨⟨1, (wf, wc, nl, og), rfl, Or.inr (Or.inl ⟨rfl, hE, rfl⟩), by rw [ht]; exact hP, va_K.moved hW.alike hK, hD⟩, hS.F ht⟩) hS.2.2 dL_literal_14)
    · subst eE
      refine vx_catch hown [⟨0, 9, 12, 19⟩] ⟨0, 9, 15, 13⟩ [] htb (fun z hz => by rw [List.mem_singleton.mp hz]; exact Or.inr ⟨by decide, xA, hts _ cl_L_19, hX.2.2.1⟩) (by decide) (by decide) (hts _ cl_L_13) (va_Nw.use rfl (hX.1 xS (by decide))) h7 h8 h9 ?_
      refine lv_astore_n (lv' := [(3, .ref q9), (0, .ref h0), (1, .int x), (2, .ref ao)]) hx hb dL_literal_15 rfl hl (by decide) rfl (fun ls hl => ?_)
      refine lv_iconst (v := 2) hx hb dL_literal_16 (by decide) ?_
      refine W.widen (k := 2) (n := 12) (Nat.le_of_ble_eq_true rfl) (Nat.le_of_ble_eq_true rfl) ?_
      exact (W.iret (v := 2) hx hb hr (fun t ht hW => ⟨⟨2, (wf, wc, nl, og), rfl, Or.inr (Or.inr ⟨rfl, hE.1, hE.2, rfl⟩), by rw [ht]; exact hP, va_K.moved hW.alike hK, hD⟩, hS.F ht⟩) hS.2.2 dL_literal_17)
  · have hP : va_P (dC, dI) vwCl [(h0, .inr (1, [.ref h1, .ref h2, .ref aw, .ref aa, .int (nI nv), .int (nI (nl + 1)), .int (nI nc), .int (nI (wc + 1)), .int (nI ac), .int fo, .int bl, .int lv, .int (nI vt)])), (aw, .inl (cI, 40, .inl (upd wf wc x))), (ao, .inl (cO, 1, .inr (.inl og)))] H := hP.sub [1, 2, 0] rfl
    have hD : va_D A [(h0, .inr (1, [.ref h1, .ref h2, .ref aw, .ref aa, .int (nI nv), .int (nI (nl + 1)), .int (nI nc), .int (nI (wc + 1)), .int (nI ac), .int fo, .int bl, .int lv, .int (nI vt)])), (aw, .inl (cI, 40, .inl (upd wf wc x))), (ao, .inl (cO, 1, .inr (.inl og)))] := hD.sub [1, 2, 0] (by decide) rfl
    refine lv_i2l hx hb dL_literal_7 rfl ?_
    refine va_last hx hb hK hP hD hS 2 1 rfl rfl (ax_in01) dL_literal_8 (fun H locs hP hD hS => ?_)
    have hP : va_P (dC, dI) vwCl [(h0, .inr (1, [.ref h1, .ref h2, .ref aw, .ref aa, .int (nI nv), .int (nI (nl + 1)), .int (nI nc), .int (nI (wc + 1)), .int (nI ac), .int fo, .int bl, .int lv, .int (nI vt)])), (aw, .inl (cI, 40, .inl (upd wf wc x))), (ao, .inl (cO, 1, .inr (.inl (vp_updL og 0 r9.toInt64))))] H := hP
    have hD : va_D A [(h0, .inr (1, [.ref h1, .ref h2, .ref aw, .ref aa, .int (nI nv), .int (nI (nl + 1)), .int (nI nc), .int (nI (wc + 1)), .int (nI ac), .int fo, .int bl, .int lv, .int (nI vt)])), (aw, .inl (cI, 40, .inl (upd wf wc x))), (ao, .inl (cO, 1, .inr (.inl (vp_updL og 0 r9.toInt64))))] := hD
    refine lv_goto (tgt := 18) hx hb dL_literal_9 (by decide) ?_
    refine lv_iconst (v := 0) hx hb dL_literal_18 (by decide) ?_
    refine W.widen (k := 2) (n := 12) (Nat.le_of_ble_eq_true rfl) (Nat.le_of_ble_eq_true rfl) ?_
    exact (W.iret (v := 0) hx hb hr (fun t ht hW => ⟨⟨0, (upd wf wc x, wc + 1, nl + 1, vp_updL og 0 r9.toInt64), rfl, Or.inl ⟨rfl, hpo.1, hpo.2.1, hpo.2.2.1, by rw [hpo.2.2.2]; rfl, rfl, rfl, rfl⟩, by rw [ht]; exact hP, va_K.moved hW.alike hK, hD⟩, hS.F ht⟩) hS.2.2 dL_literal_19)
set_option maxHeartbeats 4000000 in
set_option maxRecDepth 100000 in
theorem k_L_close (l : Launch) (hst : l.stackTraces = false) (dC : Nat → ClassId) (dI : Nat → Nat → Nat) (tI sz : Nat) (h0 h1 w1 h2 aw aa : Nat) (cL cI : ClassId) (f : Nat → Int64) (wf : Nat → Int32) (cn : Nat → Nat) (U : Nat) (hU : U ≤ 1024) (nv nl nc wc ac vt : Nat) (fo bl lv : Int32) (hnc : nc ≤ 500) (hwc : wc ≤ 40) (hcn : ∀ j, j < wc → wf j = nI (cn j) ∧ cn j < 32) (ao : Nat) (cO : ClassId) (og : Nat → Int64) : Met l yL_close (Cond.codeWith yL_close cL_close 3 (some .int) [(0, 8, 11, 13)] :: GG) (lvr 8 1 6) (va_Pc [.ref h0, .ref ao] (wPre dC dI [(cL, .long), (cI, .int), (cO, .long)] [(h0, .inr (1, [.ref h1, .ref h2, .ref aw, .ref aa, .int (nI nv), .int (nI nl), .int (nI nc), .int (nI wc), .int (nI ac), .int fo, .int bl, .int lv, .int (nI vt)])), (h1, .inr (0, [.ref w1, .int (nI U)])), (w1, .inl (cL, 1024, .inr (.inl f))), (aw, .inl (cI, 40, .inl wf)), (ao, .inl (cO, 1, .inr (.inl og)))] sz tI)) (va_Qi (fun (r : Int32) (u : (Nat → Int64) × Nat × Nat × (Nat → Int64)) => (r = 0 ∧ nc < 500 ∧ u.2.2.2 0 = (nI (nc + 1)).toInt64 ∧ (∀ k, k < U → u.1 k = f k &&& ls_or cn k wc) ∧ u.2.1 = 0 ∧ u.2.2.1 = nc + 1) ∨ (r = 1 ∧ 500 ≤ nc ∧ u = (f, wc, nc, og))) (fun u t => wB dC dI [(cL, .long), (cI, .int), (cO, .long)] (va_A [(h0, .inr (1, [.ref h1, .ref h2, .ref aw, .ref aa, .int (nI nv), .int (nI nl), .int (nI nc), .int (nI wc), .int (nI ac), .int fo, .int bl, .int lv, .int (nI vt)])), (h1, .inr (0, [.ref w1, .int (nI U)])), (w1, .inl (cL, 1024, .inr (.inl f))), (aw, .inl (cI, 40, .inl wf)), (ao, .inl (cO, 1, .inr (.inl og)))] sz) [(h0, .inr (1, [.ref h1, .ref h2, .ref aw, .ref aa, .int (nI nv), .int (nI nl), .int (nI u.2.2.1), .int (nI u.2.1), .int (nI ac), .int fo, .int bl, .int lv, .int (nI vt)])), (h1, .inr (0, [.ref w1, .int (nI U)])), (w1, .inl (cL, 1024, .inr (.inl u.1))), (aw, .inl (cI, 40, .inl wf)), (ao, .inl (cO, 1, .inr (.inl u.2.2.2)))] t) (va_A [(h0, .inr (1, [.ref h1, .ref h2, .ref aw, .ref aa, .int (nI nv), .int (nI nl), .int (nI nc), .int (nI wc), .int (nI ac), .int fo, .int bl, .int lv, .int (nI vt)])), (h1, .inr (0, [.ref w1, .int (nI U)])), (w1, .inl (cL, 1024, .inr (.inl f))), (aw, .inl (cI, 40, .inl wf)), (ao, .inl (cO, 1, .inr (.inl og)))] sz)) 1 6 (va_A [(h0, .inr (1, [.ref h1, .ref h2, .ref aw, .ref aa, .int (nI nv), .int (nI nl), .int (nI nc), .int (nI wc), .int (nI ac), .int fo, .int bl, .int lv, .int (nI vt)])), (h1, .inr (0, [.ref w1, .int (nI U)])), (w1, .inl (cL, 1024, .inr (.inl f))), (aw, .inl (cI, 40, .inl wf)), (ao, .inl (cO, 1, .inr (.inl og)))] sz) := by
  refine va_MetW (cc := cL_close) (maxL := 3) (ret := (some .int)) (hh := [(0, 8, 11, 13)]) (by decide) rfl ?_
  intro p e s m args below meth c s₁ B hml hv
  obtain ⟨rfl, hsz, hP, hK, hD0, hZ, hX⟩ := hv
  have hx := B.exec
  have hb := B.bytes
  have hr := B.returns
  have hts : ∀ w ∈ GG, w.before ([.ref h0, .ref ao] : List Value).toArray s = true := fun w h => atoms_spec (ws := _ :: GG) B.pre w (List.mem_cons_of_mem _ h)
  have hown : s.vm.findClass RL = some m.cls := findClass_of_methodNamed B.named
  have hlocks := B.notSynchronized
  subst hsz
  have hD := hD0.self (sz := s.heap.size)
  generalize hAe : va_A [(h0, .inr (1, [.ref h1, .ref h2, .ref aw, .ref aa, .int (nI nv), .int (nI nl), .int (nI nc), .int (nI wc), .int (nI ac), .int fo, .int bl, .int lv, .int (nI vt)])), (h1, .inr (0, [.ref w1, .int (nI U)])), (w1, .inl (cL, 1024, .inr (.inl f))), (aw, .inl (cI, 40, .inl wf)), (ao, .inl (cO, 1, .inr (.inl og)))] s.heap.size = A at hD hZ ⊢
  have hA : ∀ q : Nat, s.heap.size ≤ q → A q := fun q h => by rw [← hAe]; exact Or.inr h
  have hS : va_S A s.heap s.heap [] := va_S.rf
  have hl := lv_entry ([.ref h0, .ref ao]) (n := 3) (Nat.le_of_ble_eq_true rfl)
  rw [lg_entry_eq]
  generalize (lg_sl ([.ref h0, .ref ao]) ++ List.replicate (3 - (lg_sl ([.ref h0, .ref ao])).length) Slot.unset).toArray = ls at hl ⊢
  have hl : lv_has ls 3 [(0, .ref h0), (1, .ref ao)] := hl
  have SF : CallFix p m c cL_close 3 s ([.ref h0, .ref ao] : List Value).toArray GG RL := ⟨hx, hb, hml, hown, hts⟩
  skip
  have hP : va_P (dC, dI) vwCl [(h0, .inr (1, [.ref h1, .ref h2, .ref aw, .ref aa, .int (nI nv), .int (nI nl), .int (nI nc), .int (nI wc), .int (nI ac), .int fo, .int bl, .int lv, .int (nI vt)])), (h1, .inr (0, [.ref w1, .int (nI U)])), (w1, .inl (cL, 1024, .inr (.inl f))), (aw, .inl (cI, 40, .inl wf)), (ao, .inl (cO, 1, .inr (.inl og)))] s.heap := hP
  have htb : c.exceptionTable.toList = tableOf [(0, 8, 11, 13)] := vx_table (x := yL_close) B (atoms_spec (ws := _ :: GG) B.pre _ List.mem_cons_self)
  refine lv_aload_n hx hb dL_close_0 rfl (lv_at hl 1 rfl) ?_
  refine lv_iconst (v := 0) hx hb dL_close_1 (by decide) ?_
  refine lv_aload_n hx hb dL_close_2 rfl (lv_at hl 0 rfl) ?_
  have hFc := va_free (wc := [(h0, .inr (1, [.ref h1, .ref h2, .ref aw, .ref aa, .int (nI nv), .int (nI nl), .int (nI nc), .int (nI wc), .int (nI ac), .int fo, .int bl, .int lv, .int (nI vt)])), (h1, .inr (0, [.ref w1, .int (nI U)])), (w1, .inl (cL, 1024, .inr (.inl f))), (aw, .inl (cI, 40, .inl wf))]) hD hS hA [0, 1, 2, 3] rfl
  refine wcx_i (wcx_V (As := []) (rest := [.int 0, .ref ao]) (n := 0) SF (k_S_close l hst dC dI tI _ h0 h1 w1 h2 aw aa cL cI f wf cn U hU nv nl nc wc ac vt fo bl lv hnc hwc hcn) ml_L_21 im_S_close se_S_close in_S co_S_close (by decide +kernel) rfl rfl rfl ⟨Nat.le_of_ble_eq_true rfl, Nat.le_of_ble_eq_true rfl⟩ (va_recv (hK.sub (tys' := []) [] rfl) (hP.sub (ws' := [(h0, .inr (1, [.ref h1, .ref h2, .ref aw, .ref aa, .int (nI nv), .int (nI nl), .int (nI nc), .int (nI wc), .int (nI ac), .int fo, .int bl, .int lv, .int (nI vt)])), (h1, .inr (0, [.ref w1, .int (nI U)])), (w1, .inl (cL, 1024, .inr (.inl f))), (aw, .inl (cI, 40, .inl wf))]) [0, 1, 2, 3] rfl) (ci := 1) (q0 := 0) rfl rfl) (hP.sub [0, 1, 2, 3] rfl) (hD.sub [0, 1, 2, 3] (by decide) rfl) (hK.sub [0, 1] rfl) hZ hX hS hFc rfl hl.1 (Nat.le_of_ble_eq_true rfl) dL_close_3 ⟨Nat.le_of_ble_eq_true rfl, Nat.le_of_ble_eq_true rfl⟩) hP hD hS hFc [0, 1, 2, 3] [4] (wr := [(ao, .inl (cO, 1, .inr (.inl og)))]) rfl rfl rfl (by decide) (fun E ce q9 H locs hE hP hD hS h7 h8 h9 => ?_) (fun r9 uu H locs hpo hP hD hS => ?_)
  · have hP : va_P (dC, dI) vwCl [(h0, .inr (1, [.ref h1, .ref h2, .ref aw, .ref aa, .int (nI nv), .int (nI nl), .int (nI nc), .int (nI wc), .int (nI ac), .int fo, .int bl, .int lv, .int (nI vt)])), (h1, .inr (0, [.ref w1, .int (nI U)])), (w1, .inl (cL, 1024, .inr (.inl f))), (aw, .inl (cI, 40, .inl wf)), (ao, .inl (cO, 1, .inr (.inl og)))] H := hP.sub [1, 2, 3, 4, 0] rfl
    have hD : va_D A [(h0, .inr (1, [.ref h1, .ref h2, .ref aw, .ref aa, .int (nI nv), .int (nI nl), .int (nI nc), .int (nI wc), .int (nI ac), .int fo, .int bl, .int lv, .int (nI vt)])), (h1, .inr (0, [.ref w1, .int (nI U)])), (w1, .inl (cL, 1024, .inr (.inl f))), (aw, .inl (cI, 40, .inl wf)), (ao, .inl (cO, 1, .inr (.inl og)))] := hD.sub [1, 2, 3, 4, 0] (by decide) rfl
    obtain ⟨eE, hE⟩ := hE
    subst eE
    refine vx_catch hown [] ⟨0, 8, 11, 13⟩ [] htb (fun z hz => nomatch hz) (by decide) (by decide) (hts _ cl_L_13) (va_Nw.use rfl (hX.1 xS (by decide))) h7 h8 h9 ?_
    refine lv_astore_n (lv' := [(2, .ref q9), (0, .ref h0), (1, .ref ao)]) hx hb dL_close_11 rfl hl (by decide) rfl (fun ls hl => ?_)
    refine lv_iconst (v := 1) hx hb dL_close_12 (by decide) ?_
    refine W.widen (k := 1) (n := 6) (Nat.le_of_ble_eq_true rfl) (Nat.le_of_ble_eq_true rfl) ?_
    exact (W.iret (v := 1) hx hb hr (fun t ht hW => ⟨⟨1, (f, wc, nc, og), rfl, Or.inr ⟨rfl, hE, rfl⟩, by rw [ht]; exact hP, va_K.moved hW.alike hK, hD⟩, hS.F ht⟩) hS.2.2 dL_close_13)
  · have hP : va_P (dC, dI) vwCl [(h0, .inr (1, [.ref h1, .ref h2, .ref aw, .ref aa, .int (nI nv), .int (nI nl), .int (nI (nc + 1)), .int 0, .int (nI ac), .int fo, .int bl, .int lv, .int (nI vt)])), (h1, .inr (0, [.ref w1, .int (nI U)])), (w1, .inl (cL, 1024, .inr (.inl uu))), (aw, .inl (cI, 40, .inl wf)), (ao, .inl (cO, 1, .inr (.inl og)))] H := hP.sub [1, 2, 3, 4, 0] rfl
    have hD : va_D A [(h0, .inr (1, [.ref h1, .ref h2, .ref aw, .ref aa, .int (nI nv), .int (nI nl), .int (nI (nc + 1)), .int 0, .int (nI ac), .int fo, .int bl, .int lv, .int (nI vt)])), (h1, .inr (0, [.ref w1, .int (nI U)])), (w1, .inl (cL, 1024, .inr (.inl uu))), (aw, .inl (cI, 40, .inl wf)), (ao, .inl (cO, 1, .inr (.inl og)))] := hD.sub [1, 2, 3, 4, 0] (by decide) rfl
    refine lv_i2l hx hb dL_close_6 rfl ?_
    refine va_last hx hb hK hP hD hS 4 2 rfl rfl (ax_in01) dL_close_7 (fun H locs hP hD hS => ?_)
    have hP : va_P (dC, dI) vwCl [(h0, .inr (1, [.ref h1, .ref h2, .ref aw, .ref aa, .int (nI nv), .int (nI nl), .int (nI (nc + 1)), .int 0, .int (nI ac), .int fo, .int bl, .int lv, .int (nI vt)])), (h1, .inr (0, [.ref w1, .int (nI U)])), (w1, .inl (cL, 1024, .inr (.inl uu))), (aw, .inl (cI, 40, .inl wf)), (ao, .inl (cO, 1, .inr (.inl (vp_updL og 0 r9.toInt64))))] H := hP
    have hD : va_D A [(h0, .inr (1, [.ref h1, .ref h2, .ref aw, .ref aa, .int (nI nv), .int (nI nl), .int (nI (nc + 1)), .int 0, .int (nI ac), .int fo, .int bl, .int lv, .int (nI vt)])), (h1, .inr (0, [.ref w1, .int (nI U)])), (w1, .inl (cL, 1024, .inr (.inl uu))), (aw, .inl (cI, 40, .inl wf)), (ao, .inl (cO, 1, .inr (.inl (vp_updL og 0 r9.toInt64))))] := hD
    refine lv_goto (tgt := 14) hx hb dL_close_8 (by decide) ?_
    refine lv_iconst (v := 0) hx hb dL_close_14 (by decide) ?_
    refine W.widen (k := 1) (n := 6) (Nat.le_of_ble_eq_true rfl) (Nat.le_of_ble_eq_true rfl) ?_
    exact (W.iret (v := 0) hx hb hr (fun t ht hW => ⟨⟨0, (uu, 0, nc + 1, vp_updL og 0 r9.toInt64), rfl, Or.inl ⟨rfl, hpo.1, by rw [hpo.2.1]; rfl, hpo.2.2, rfl, rfl⟩, by rw [ht]; exact hP, va_K.moved hW.alike hK, hD⟩, hS.F ht⟩) hS.2.2 dL_close_15)
set_option maxHeartbeats 4000000 in
set_option maxRecDepth 100000 in
theorem k_L_assume (l : Launch) (hst : l.stackTraces = false) (dC : Nat → ClassId) (dI : Nat → Nat → Nat) (tI sz : Nat) (h0 h1 h2 aw aa : Nat) (cJ : ClassId) (af : Nat → Int32) (nv nl nc wc ac vt : Nat) (fo bl lv : Int32) (x : Int32) (hnv : nv ≤ 16) (hac : ac ≤ 64) (ao : Nat) (cO : ClassId) (og : Nat → Int64) : Met l yL_assume (Cond.codeWith yL_assume cL_assume 4 (some .int) [(0, 9, 12, 19), (0, 9, 15, 13)] :: GG) (lvr 8 2 12) (va_Pc [.ref h0, .int x, .ref ao] (wPre dC dI [(cJ, .int), (cO, .long)] [(h0, .inr (1, [.ref h1, .ref h2, .ref aw, .ref aa, .int (nI nv), .int (nI nl), .int (nI nc), .int (nI wc), .int (nI ac), .int fo, .int bl, .int lv, .int (nI vt)])), (aa, .inl (cJ, 64, .inl af)), (ao, .inl (cO, 1, .inr (.inl og)))] sz tI)) (va_Qi (fun (r : Int32) (u : (Nat → Int32) × Nat × (Nat → Int64)) => (r = 0 ∧ (∃ L, L < 2 * nv ∧ x = nI L) ∧ ac < 64 ∧ u.2.2 0 = (nI (ac + 1)).toInt64 ∧ u.1 = upd af ac x ∧ u.2.1 = ac + 1) ∨ (r = 1 ∧ ¬ (∃ L, L < 2 * nv ∧ x = nI L) ∧ u = (af, ac, og)) ∨ (r = 2 ∧ (∃ L, L < 2 * nv ∧ x = nI L) ∧ 64 ≤ ac ∧ u = (af, ac, og))) (fun u t => wB dC dI [(cJ, .int), (cO, .long)] (va_A [(h0, .inr (1, [.ref h1, .ref h2, .ref aw, .ref aa, .int (nI nv), .int (nI nl), .int (nI nc), .int (nI wc), .int (nI ac), .int fo, .int bl, .int lv, .int (nI vt)])), (aa, .inl (cJ, 64, .inl af)), (ao, .inl (cO, 1, .inr (.inl og)))] sz) [(h0, .inr (1, [.ref h1, .ref h2, .ref aw, .ref aa, .int (nI nv), .int (nI nl), .int (nI nc), .int (nI wc), .int (nI u.2.1), .int fo, .int bl, .int lv, .int (nI vt)])), (aa, .inl (cJ, 64, .inl u.1)), (ao, .inl (cO, 1, .inr (.inl u.2.2)))] t) (va_A [(h0, .inr (1, [.ref h1, .ref h2, .ref aw, .ref aa, .int (nI nv), .int (nI nl), .int (nI nc), .int (nI wc), .int (nI ac), .int fo, .int bl, .int lv, .int (nI vt)])), (aa, .inl (cJ, 64, .inl af)), (ao, .inl (cO, 1, .inr (.inl og)))] sz)) 2 12 (va_A [(h0, .inr (1, [.ref h1, .ref h2, .ref aw, .ref aa, .int (nI nv), .int (nI nl), .int (nI nc), .int (nI wc), .int (nI ac), .int fo, .int bl, .int lv, .int (nI vt)])), (aa, .inl (cJ, 64, .inl af)), (ao, .inl (cO, 1, .inr (.inl og)))] sz) := by
  refine va_MetW (cc := cL_assume) (maxL := 4) (ret := (some .int)) (hh := [(0, 9, 12, 19), (0, 9, 15, 13)]) (by decide) rfl ?_
  intro p e s m args below meth c s₁ B hml hv
  obtain ⟨rfl, hsz, hP, hK, hD0, hZ, hX⟩ := hv
  have hx := B.exec
  have hb := B.bytes
  have hr := B.returns
  have hts : ∀ w ∈ GG, w.before ([.ref h0, .int x, .ref ao] : List Value).toArray s = true := fun w h => atoms_spec (ws := _ :: GG) B.pre w (List.mem_cons_of_mem _ h)
  have hown : s.vm.findClass RL = some m.cls := findClass_of_methodNamed B.named
  have hlocks := B.notSynchronized
  subst hsz
  have hD := hD0.self (sz := s.heap.size)
  generalize hAe : va_A [(h0, .inr (1, [.ref h1, .ref h2, .ref aw, .ref aa, .int (nI nv), .int (nI nl), .int (nI nc), .int (nI wc), .int (nI ac), .int fo, .int bl, .int lv, .int (nI vt)])), (aa, .inl (cJ, 64, .inl af)), (ao, .inl (cO, 1, .inr (.inl og)))] s.heap.size = A at hD hZ ⊢
  have hA : ∀ q : Nat, s.heap.size ≤ q → A q := fun q h => by rw [← hAe]; exact Or.inr h
  have hS : va_S A s.heap s.heap [] := va_S.rf
  have hl := lv_entry ([.ref h0, .int x, .ref ao]) (n := 4) (Nat.le_of_ble_eq_true rfl)
  rw [lg_entry_eq]
  generalize (lg_sl ([.ref h0, .int x, .ref ao]) ++ List.replicate (4 - (lg_sl ([.ref h0, .int x, .ref ao])).length) Slot.unset).toArray = ls at hl ⊢
  have hl : lv_has ls 4 [(0, .ref h0), (1, .int x), (2, .ref ao)] := hl
  have SF : CallFix p m c cL_assume 4 s ([.ref h0, .int x, .ref ao] : List Value).toArray GG RL := ⟨hx, hb, hml, hown, hts⟩
  skip
  have hP : va_P (dC, dI) vwCl [(h0, .inr (1, [.ref h1, .ref h2, .ref aw, .ref aa, .int (nI nv), .int (nI nl), .int (nI nc), .int (nI wc), .int (nI ac), .int fo, .int bl, .int lv, .int (nI vt)])), (aa, .inl (cJ, 64, .inl af)), (ao, .inl (cO, 1, .inr (.inl og)))] s.heap := hP
  have htb : c.exceptionTable.toList = tableOf [(0, 9, 12, 19), (0, 9, 15, 13)] := vx_table (x := yL_assume) B (atoms_spec (ws := _ :: GG) B.pre _ List.mem_cons_self)
  refine lv_aload_n hx hb dL_assume_0 rfl (lv_at hl 2 rfl) ?_
  refine lv_iconst (v := 0) hx hb dL_assume_1 (by decide) ?_
  refine lv_aload_n hx hb dL_assume_2 rfl (lv_at hl 0 rfl) ?_
  refine lv_iload_n hx hb dL_assume_3 rfl (lv_at hl 1 rfl) ?_
  have hFc := va_free (wc := [(h0, .inr (1, [.ref h1, .ref h2, .ref aw, .ref aa, .int (nI nv), .int (nI nl), .int (nI nc), .int (nI wc), .int (nI ac), .int fo, .int bl, .int lv, .int (nI vt)])), (aa, .inl (cJ, 64, .inl af))]) hD hS hA [0, 1] rfl
  refine wcx_i (wcx_V (As := [.int x]) (rest := [.int 0, .ref ao]) (n := 1) SF (k_S_assume l hst dC dI tI _ h0 h1 h2 aw aa cJ af nv nl nc wc ac vt fo bl lv x hnv hac) ml_L_24 im_S_assume se_S_assume in_S co_S_assume (by decide +kernel) rfl rfl rfl ⟨Nat.le_of_ble_eq_true rfl, Nat.le_of_ble_eq_true rfl⟩ (va_recv (hK.sub (tys' := []) [] rfl) (hP.sub (ws' := [(h0, .inr (1, [.ref h1, .ref h2, .ref aw, .ref aa, .int (nI nv), .int (nI nl), .int (nI nc), .int (nI wc), .int (nI ac), .int fo, .int bl, .int lv, .int (nI vt)])), (aa, .inl (cJ, 64, .inl af))]) [0, 1] rfl) (ci := 1) (q0 := 0) rfl rfl) (hP.sub [0, 1] rfl) (hD.sub [0, 1] (by decide) rfl) (hK.sub [0] rfl) hZ hX hS hFc rfl hl.1 (Nat.le_of_ble_eq_true rfl) dL_assume_4 ⟨Nat.le_of_ble_eq_true rfl, Nat.le_of_ble_eq_true rfl⟩) hP hD hS hFc [0, 1] [2] (wr := [(ao, .inl (cO, 1, .inr (.inl og)))]) rfl rfl rfl (by decide) (fun E ce q9 H locs hE hP hD hS h7 h8 h9 => ?_) (fun r9 uu H locs hpo hP hD hS => ?_)
  · have hP : va_P (dC, dI) vwCl [(h0, .inr (1, [.ref h1, .ref h2, .ref aw, .ref aa, .int (nI nv), .int (nI nl), .int (nI nc), .int (nI wc), .int (nI ac), .int fo, .int bl, .int lv, .int (nI vt)])), (aa, .inl (cJ, 64, .inl af)), (ao, .inl (cO, 1, .inr (.inl og)))] H := hP.sub [1, 2, 0] rfl
    have hD : va_D A [(h0, .inr (1, [.ref h1, .ref h2, .ref aw, .ref aa, .int (nI nv), .int (nI nl), .int (nI nc), .int (nI wc), .int (nI ac), .int fo, .int bl, .int lv, .int (nI vt)])), (aa, .inl (cJ, 64, .inl af)), (ao, .inl (cO, 1, .inr (.inl og)))] := hD.sub [1, 2, 0] (by decide) rfl
    rcases hE with ⟨eE, hE⟩ | ⟨eE, hE⟩
    · subst eE
      refine vx_catch hown [] ⟨0, 9, 12, 19⟩ [⟨0, 9, 15, 13⟩] htb (fun z hz => nomatch hz) (by decide) (by decide) (hts _ cl_L_19) (va_Nw.use rfl (hX.1 xA (by decide))) h7 h8 h9 ?_
      refine lv_astore_n (lv' := [(3, .ref q9), (0, .ref h0), (1, .int x), (2, .ref ao)]) hx hb dL_assume_12 rfl hl (by decide) rfl (fun ls hl => ?_)
      refine lv_iconst (v := 1) hx hb dL_assume_13 (by decide) ?_
      refine W.widen (k := 2) (n := 12) (Nat.le_of_ble_eq_true rfl) (Nat.le_of_ble_eq_true rfl) ?_
      exact (W.iret (v := 1) hx hb hr (fun t ht hW => ⟨⟨1, (af, ac, og), rfl, Or.inr (Or.inl ⟨rfl, hE, rfl⟩), by rw [ht]; exact hP, va_K.moved hW.alike hK, hD⟩, hS.F ht⟩) hS.2.2 dL_assume_14)
    · subst eE
      refine vx_catch hown [⟨0, 9, 12, 19⟩] ⟨0, 9, 15, 13⟩ [] htb (fun z hz => by rw [List.mem_singleton.mp hz]; exact Or.inr ⟨by decide, xA, hts _ cl_L_19, hX.2.2.1⟩) (by decide) (by decide) (hts _ cl_L_13) (va_Nw.use rfl (hX.1 xS (by decide))) h7 h8 h9 ?_
      refine lv_astore_n (lv' := [(3, .ref q9), (0, .ref h0), (1, .int x), (2, .ref ao)]) hx hb dL_assume_15 rfl hl (by decide) rfl (fun ls hl => ?_)
      refine lv_iconst (v := 2) hx hb dL_assume_16 (by decide) ?_
      refine W.widen (k := 2) (n := 12) (Nat.le_of_ble_eq_true rfl) (Nat.le_of_ble_eq_true rfl) ?_
      exact (W.iret (v := 2) hx hb hr (fun t ht hW => ⟨⟨2, (af, ac, og), rfl, Or.inr (Or.inr ⟨rfl, hE.1, hE.2, rfl⟩), by rw [ht]; exact hP, va_K.moved hW.alike hK, hD⟩, hS.F ht⟩) hS.2.2 dL_assume_17)
  · have hP : va_P (dC, dI) vwCl [(h0, .inr (1, [.ref h1, .ref h2, .ref aw, .ref aa, .int (nI nv), .int (nI nl), .int (nI nc), .int (nI wc), .int (nI (ac + 1)), .int fo, .int bl, .int lv, .int (nI vt)])), (aa, .inl (cJ, 64, .inl (upd af ac x))), (ao, .inl (cO, 1, .inr (.inl og)))] H := hP.sub [1, 2, 0] rfl
    have hD : va_D A [(h0, .inr (1, [.ref h1, .ref h2, .ref aw, .ref aa, .int (nI nv), .int (nI nl), .int (nI nc), .int (nI wc), .int (nI (ac + 1)), .int fo, .int bl, .int lv, .int (nI vt)])), (aa, .inl (cJ, 64, .inl (upd af ac x))), (ao, .inl (cO, 1, .inr (.inl og)))] := hD.sub [1, 2, 0] (by decide) rfl
    refine lv_i2l hx hb dL_assume_7 rfl ?_
    refine va_last hx hb hK hP hD hS 2 1 rfl rfl (ax_in01) dL_assume_8 (fun H locs hP hD hS => ?_)
    have hP : va_P (dC, dI) vwCl [(h0, .inr (1, [.ref h1, .ref h2, .ref aw, .ref aa, .int (nI nv), .int (nI nl), .int (nI nc), .int (nI wc), .int (nI (ac + 1)), .int fo, .int bl, .int lv, .int (nI vt)])), (aa, .inl (cJ, 64, .inl (upd af ac x))), (ao, .inl (cO, 1, .inr (.inl (vp_updL og 0 r9.toInt64))))] H := hP
    have hD : va_D A [(h0, .inr (1, [.ref h1, .ref h2, .ref aw, .ref aa, .int (nI nv), .int (nI nl), .int (nI nc), .int (nI wc), .int (nI (ac + 1)), .int fo, .int bl, .int lv, .int (nI vt)])), (aa, .inl (cJ, 64, .inl (upd af ac x))), (ao, .inl (cO, 1, .inr (.inl (vp_updL og 0 r9.toInt64))))] := hD
    refine lv_goto (tgt := 18) hx hb dL_assume_9 (by decide) ?_
    refine lv_iconst (v := 0) hx hb dL_assume_18 (by decide) ?_
    refine W.widen (k := 2) (n := 12) (Nat.le_of_ble_eq_true rfl) (Nat.le_of_ble_eq_true rfl) ?_
    exact (W.iret (v := 0) hx hb hr (fun t ht hW => ⟨⟨0, (upd af ac x, ac + 1, vp_updL og 0 r9.toInt64), rfl, Or.inl ⟨rfl, hpo.1, hpo.2.1, by rw [hpo.2.2]; rfl, rfl, rfl⟩, by rw [ht]; exact hP, va_K.moved hW.alike hK, hD⟩, hS.F ht⟩) hS.2.2 dL_assume_19)
set_option maxHeartbeats 4000000 in
set_option maxRecDepth 100000 in
theorem k_L_least (l : Launch) (hst : l.stackTraces = false) (dC : Nat → ClassId) (dI : Nat → Nat → Nat) (tI sz : Nat) (h0 h1 h2 aw aa : Nat) (nv nl nc wc ac vt : Nat) (fo bl lv : Int32) (x : Int32) (hnv : nv ≤ 16) (hvt : vt ≤ 16) (ao : Nat) (cO : ClassId) (og : Nat → Int64) : Met l yL_least (Cond.codeWith yL_least cL_least 4 (some .int) [(0, 9, 12, 30)] :: GG) (lvr 8 1 6) (va_Pc [.ref h0, .int x, .ref ao] (wPre dC dI [(cO, .long)] [(h0, .inr (1, [.ref h1, .ref h2, .ref aw, .ref aa, .int (nI nv), .int (nI nl), .int (nI nc), .int (nI wc), .int (nI ac), .int fo, .int bl, .int lv, .int (nI vt)])), (ao, .inl (cO, 1, .inr (.inl og)))] sz tI)) (va_Qi (fun (r : Int32) (u : Nat → Int64) => (r = 0 ∧ ∃ rv : Int32, u 0 = rv.toInt64 ∧ ∃ v, v < nv ∧ x = nI v ∧ ((rv = -1 ∧ (fo = 0 ∨ vt ≤ v)) ∨ (¬ fo = 0 ∧ v < vt ∧ rv = (lv >>> (nI v &&& 31)) &&& 1))) ∨ (r = 1 ∧ ¬ (∃ v, v < nv ∧ x = nI v) ∧ u = og)) (fun u t => wB dC dI [(cO, .long)] (va_A [(h0, .inr (1, [.ref h1, .ref h2, .ref aw, .ref aa, .int (nI nv), .int (nI nl), .int (nI nc), .int (nI wc), .int (nI ac), .int fo, .int bl, .int lv, .int (nI vt)])), (ao, .inl (cO, 1, .inr (.inl og)))] sz) [(h0, .inr (1, [.ref h1, .ref h2, .ref aw, .ref aa, .int (nI nv), .int (nI nl), .int (nI nc), .int (nI wc), .int (nI ac), .int fo, .int bl, .int lv, .int (nI vt)])), (ao, .inl (cO, 1, .inr (.inl u)))] t) (va_A [(h0, .inr (1, [.ref h1, .ref h2, .ref aw, .ref aa, .int (nI nv), .int (nI nl), .int (nI nc), .int (nI wc), .int (nI ac), .int fo, .int bl, .int lv, .int (nI vt)])), (ao, .inl (cO, 1, .inr (.inl og)))] sz)) 1 6 (va_A [(h0, .inr (1, [.ref h1, .ref h2, .ref aw, .ref aa, .int (nI nv), .int (nI nl), .int (nI nc), .int (nI wc), .int (nI ac), .int fo, .int bl, .int lv, .int (nI vt)])), (ao, .inl (cO, 1, .inr (.inl og)))] sz) := by
  refine va_MetW (cc := cL_least) (maxL := 4) (ret := (some .int)) (hh := [(0, 9, 12, 30)]) (by decide) rfl ?_
  intro p e s m args below meth c s₁ B hml hv
  obtain ⟨rfl, hsz, hP, hK, hD0, hZ, hX⟩ := hv
  have hx := B.exec
  have hb := B.bytes
  have hr := B.returns
  have hts : ∀ w ∈ GG, w.before ([.ref h0, .int x, .ref ao] : List Value).toArray s = true := fun w h => atoms_spec (ws := _ :: GG) B.pre w (List.mem_cons_of_mem _ h)
  have hown : s.vm.findClass RL = some m.cls := findClass_of_methodNamed B.named
  have hlocks := B.notSynchronized
  subst hsz
  have hD := hD0.self (sz := s.heap.size)
  generalize hAe : va_A [(h0, .inr (1, [.ref h1, .ref h2, .ref aw, .ref aa, .int (nI nv), .int (nI nl), .int (nI nc), .int (nI wc), .int (nI ac), .int fo, .int bl, .int lv, .int (nI vt)])), (ao, .inl (cO, 1, .inr (.inl og)))] s.heap.size = A at hD hZ ⊢
  have hA : ∀ q : Nat, s.heap.size ≤ q → A q := fun q h => by rw [← hAe]; exact Or.inr h
  have hS : va_S A s.heap s.heap [] := va_S.rf
  have hl := lv_entry ([.ref h0, .int x, .ref ao]) (n := 4) (Nat.le_of_ble_eq_true rfl)
  rw [lg_entry_eq]
  generalize (lg_sl ([.ref h0, .int x, .ref ao]) ++ List.replicate (4 - (lg_sl ([.ref h0, .int x, .ref ao])).length) Slot.unset).toArray = ls at hl ⊢
  have hl : lv_has ls 4 [(0, .ref h0), (1, .int x), (2, .ref ao)] := hl
  have SF : CallFix p m c cL_least 4 s ([.ref h0, .int x, .ref ao] : List Value).toArray GG RL := ⟨hx, hb, hml, hown, hts⟩
  skip
  have hP : va_P (dC, dI) vwCl [(h0, .inr (1, [.ref h1, .ref h2, .ref aw, .ref aa, .int (nI nv), .int (nI nl), .int (nI nc), .int (nI wc), .int (nI ac), .int fo, .int bl, .int lv, .int (nI vt)])), (ao, .inl (cO, 1, .inr (.inl og)))] s.heap := hP
  have htb : c.exceptionTable.toList = tableOf [(0, 9, 12, 30)] := vx_table (x := yL_least) B (atoms_spec (ws := _ :: GG) B.pre _ List.mem_cons_self)
  refine lv_aload_n hx hb dL_least_0 rfl (lv_at hl 2 rfl) ?_
  refine lv_iconst (v := 0) hx hb dL_least_1 (by decide) ?_
  refine lv_aload_n hx hb dL_least_2 rfl (lv_at hl 0 rfl) ?_
  refine lv_iload_n hx hb dL_least_3 rfl (lv_at hl 1 rfl) ?_
  have hFc := va_free (wc := [(h0, .inr (1, [.ref h1, .ref h2, .ref aw, .ref aa, .int (nI nv), .int (nI nl), .int (nI nc), .int (nI wc), .int (nI ac), .int fo, .int bl, .int lv, .int (nI vt)]))]) hD hS hA [0] rfl
  refine wcx_i (wcx_V (As := [.int x]) (rest := [.int 0, .ref ao]) (n := 1) SF (k_S_least l hst dC dI tI _ h0 h1 h2 aw aa nv nl nc wc ac vt fo bl lv x hnv hvt) ml_L_27 im_S_least se_S_least in_S co_S_least (by decide +kernel) rfl rfl rfl ⟨Nat.le_of_ble_eq_true rfl, Nat.le_of_ble_eq_true rfl⟩ (va_recv (hK.sub (tys' := []) [] rfl) (hP.sub (ws' := [(h0, .inr (1, [.ref h1, .ref h2, .ref aw, .ref aa, .int (nI nv), .int (nI nl), .int (nI nc), .int (nI wc), .int (nI ac), .int fo, .int bl, .int lv, .int (nI vt)]))]) [0] rfl) (ci := 1) (q0 := 0) rfl rfl) (hP.sub [0] rfl) (hD.sub [0] (by decide) rfl) (hK.sub [] rfl) hZ hX hS hFc rfl hl.1 (Nat.le_of_ble_eq_true rfl) dL_least_4 ⟨Nat.le_of_ble_eq_true rfl, Nat.le_of_ble_eq_true rfl⟩) hP hD hS hFc [0] [1] (wr := [(ao, .inl (cO, 1, .inr (.inl og)))]) rfl rfl rfl (by decide) (fun E ce q9 H locs hE hP hD hS h7 h8 h9 => ?_) (fun r9 uu H locs hpo hP hD hS => ?_)
  · have hP : va_P (dC, dI) vwCl [(h0, .inr (1, [.ref h1, .ref h2, .ref aw, .ref aa, .int (nI nv), .int (nI nl), .int (nI nc), .int (nI wc), .int (nI ac), .int fo, .int bl, .int lv, .int (nI vt)])), (ao, .inl (cO, 1, .inr (.inl og)))] H := hP.sub [1, 0] rfl
    have hD : va_D A [(h0, .inr (1, [.ref h1, .ref h2, .ref aw, .ref aa, .int (nI nv), .int (nI nl), .int (nI nc), .int (nI wc), .int (nI ac), .int fo, .int bl, .int lv, .int (nI vt)])), (ao, .inl (cO, 1, .inr (.inl og)))] := hD.sub [1, 0] (by decide) rfl
    obtain ⟨eE, hE⟩ := hE
    subst eE
    refine vx_catch hown [] ⟨0, 9, 12, 30⟩ [] htb (fun z hz => nomatch hz) (by decide) (by decide) (hts _ cl_L_30) (va_Nw.use rfl (hX.1 xI (by decide))) h7 h8 h9 ?_
    refine lv_astore_n (lv' := [(3, .ref q9), (0, .ref h0), (1, .int x), (2, .ref ao)]) hx hb dL_least_12 rfl hl (by decide) rfl (fun ls hl => ?_)
    refine lv_iconst (v := 1) hx hb dL_least_13 (by decide) ?_
    refine W.widen (k := 1) (n := 6) (Nat.le_of_ble_eq_true rfl) (Nat.le_of_ble_eq_true rfl) ?_
    exact (W.iret (v := 1) hx hb hr (fun t ht hW => ⟨⟨1, og, rfl, Or.inr ⟨rfl, hE, rfl⟩, by rw [ht]; exact hP, va_K.moved hW.alike hK, hD⟩, hS.F ht⟩) hS.2.2 dL_least_14)
  · have hP : va_P (dC, dI) vwCl [(h0, .inr (1, [.ref h1, .ref h2, .ref aw, .ref aa, .int (nI nv), .int (nI nl), .int (nI nc), .int (nI wc), .int (nI ac), .int fo, .int bl, .int lv, .int (nI vt)])), (ao, .inl (cO, 1, .inr (.inl og)))] H := hP.sub [1, 0] rfl
    have hD : va_D A [(h0, .inr (1, [.ref h1, .ref h2, .ref aw, .ref aa, .int (nI nv), .int (nI nl), .int (nI nc), .int (nI wc), .int (nI ac), .int fo, .int bl, .int lv, .int (nI vt)])), (ao, .inl (cO, 1, .inr (.inl og)))] := hD.sub [1, 0] (by decide) rfl
    refine lv_i2l hx hb dL_least_7 rfl ?_
    refine va_last hx hb hK hP hD hS 1 0 rfl rfl (ax_in01) dL_least_8 (fun H locs hP hD hS => ?_)
    have hP : va_P (dC, dI) vwCl [(h0, .inr (1, [.ref h1, .ref h2, .ref aw, .ref aa, .int (nI nv), .int (nI nl), .int (nI nc), .int (nI wc), .int (nI ac), .int fo, .int bl, .int lv, .int (nI vt)])), (ao, .inl (cO, 1, .inr (.inl (vp_updL og 0 r9.toInt64))))] H := hP
    have hD : va_D A [(h0, .inr (1, [.ref h1, .ref h2, .ref aw, .ref aa, .int (nI nv), .int (nI nl), .int (nI nc), .int (nI wc), .int (nI ac), .int fo, .int bl, .int lv, .int (nI vt)])), (ao, .inl (cO, 1, .inr (.inl (vp_updL og 0 r9.toInt64))))] := hD
    refine lv_goto (tgt := 15) hx hb dL_least_9 (by decide) ?_
    refine lv_iconst (v := 0) hx hb dL_least_15 (by decide) ?_
    refine W.widen (k := 1) (n := 6) (Nat.le_of_ble_eq_true rfl) (Nat.le_of_ble_eq_true rfl) ?_
    exact (W.iret (v := 0) hx hb hr (fun t ht hW => ⟨⟨0, vp_updL og 0 r9.toInt64, rfl, Or.inl ⟨rfl, r9, rfl, hpo⟩, by rw [ht]; exact hP, va_K.moved hW.alike hK, hD⟩, hS.F ht⟩) hS.2.2 dL_least_16)
set_option maxHeartbeats 4000000 in
set_option maxRecDepth 100000 in
theorem k_L_must (l : Launch) (hst : l.stackTraces = false) (dC : Nat → ClassId) (dI : Nat → Nat → Nat) (tI sz : Nat) (h0 h1 w1 h2 aw aa : Nat) (cL : ClassId) (f : Nat → Int64) (U : Nat) (hU : U ≤ 1024) (nv nl nc wc ac vt : Nat) (fo bl lv : Int32) (x : Int32) (hnv : nv ≤ 16) (ao : Nat) (cO : ClassId) (og : Nat → Int64) : Met l yL_must (Cond.codeWith yL_must cL_must 4 (some .int) [(0, 9, 12, 19)] :: GG) (lvr 8 1 6) (va_Pc [.ref h0, .int x, .ref ao] (wPre dC dI [(cL, .long), (cO, .long)] [(h0, .inr (1, [.ref h1, .ref h2, .ref aw, .ref aa, .int (nI nv), .int (nI nl), .int (nI nc), .int (nI wc), .int (nI ac), .int fo, .int bl, .int lv, .int (nI vt)])), (h1, .inr (0, [.ref w1, .int (nI U)])), (w1, .inl (cL, 1024, .inr (.inl f))), (ao, .inl (cO, 1, .inr (.inl og)))] sz tI)) (va_Qi (fun (r : Int32) (u : Nat → Int64) => (r = 0 ∧ ∃ rv : Int32, u 0 = rv.toInt64 ∧ ∃ L, L < 2 * nv ∧ x = nI L ∧ ((mu_P f U L ∧ mu_P f U (mu_x L) ∧ rv = 2) ∨ (mu_P f U L ∧ ¬ mu_P f U (mu_x L) ∧ rv = 1) ∨ (¬ mu_P f U L ∧ mu_P f U (mu_x L) ∧ rv = 0) ∨ (¬ mu_P f U L ∧ ¬ mu_P f U (mu_x L) ∧ rv = -1))) ∨ (r = 1 ∧ ¬ (∃ L, L < 2 * nv ∧ x = nI L) ∧ u = og)) (fun u t => wB dC dI [(cL, .long), (cO, .long)] (va_A [(h0, .inr (1, [.ref h1, .ref h2, .ref aw, .ref aa, .int (nI nv), .int (nI nl), .int (nI nc), .int (nI wc), .int (nI ac), .int fo, .int bl, .int lv, .int (nI vt)])), (h1, .inr (0, [.ref w1, .int (nI U)])), (w1, .inl (cL, 1024, .inr (.inl f))), (ao, .inl (cO, 1, .inr (.inl og)))] sz) [(h0, .inr (1, [.ref h1, .ref h2, .ref aw, .ref aa, .int (nI nv), .int (nI nl), .int (nI nc), .int (nI wc), .int (nI ac), .int fo, .int bl, .int lv, .int (nI vt)])), (h1, .inr (0, [.ref w1, .int (nI U)])), (w1, .inl (cL, 1024, .inr (.inl f))), (ao, .inl (cO, 1, .inr (.inl u)))] t) (va_A [(h0, .inr (1, [.ref h1, .ref h2, .ref aw, .ref aa, .int (nI nv), .int (nI nl), .int (nI nc), .int (nI wc), .int (nI ac), .int fo, .int bl, .int lv, .int (nI vt)])), (h1, .inr (0, [.ref w1, .int (nI U)])), (w1, .inl (cL, 1024, .inr (.inl f))), (ao, .inl (cO, 1, .inr (.inl og)))] sz)) 1 6 (va_A [(h0, .inr (1, [.ref h1, .ref h2, .ref aw, .ref aa, .int (nI nv), .int (nI nl), .int (nI nc), .int (nI wc), .int (nI ac), .int fo, .int bl, .int lv, .int (nI vt)])), (h1, .inr (0, [.ref w1, .int (nI U)])), (w1, .inl (cL, 1024, .inr (.inl f))), (ao, .inl (cO, 1, .inr (.inl og)))] sz) := by
  refine va_MetW (cc := cL_must) (maxL := 4) (ret := (some .int)) (hh := [(0, 9, 12, 19)]) (by decide) rfl ?_
  intro p e s m args below meth c s₁ B hml hv
  obtain ⟨rfl, hsz, hP, hK, hD0, hZ, hX⟩ := hv
  have hx := B.exec
  have hb := B.bytes
  have hr := B.returns
  have hts : ∀ w ∈ GG, w.before ([.ref h0, .int x, .ref ao] : List Value).toArray s = true := fun w h => atoms_spec (ws := _ :: GG) B.pre w (List.mem_cons_of_mem _ h)
  have hown : s.vm.findClass RL = some m.cls := findClass_of_methodNamed B.named
  have hlocks := B.notSynchronized
  subst hsz
  have hD := hD0.self (sz := s.heap.size)
  generalize hAe : va_A [(h0, .inr (1, [.ref h1, .ref h2, .ref aw, .ref aa, .int (nI nv), .int (nI nl), .int (nI nc), .int (nI wc), .int (nI ac), .int fo, .int bl, .int lv, .int (nI vt)])), (h1, .inr (0, [.ref w1, .int (nI U)])), (w1, .inl (cL, 1024, .inr (.inl f))), (ao, .inl (cO, 1, .inr (.inl og)))] s.heap.size = A at hD hZ ⊢
  have hA : ∀ q : Nat, s.heap.size ≤ q → A q := fun q h => by rw [← hAe]; exact Or.inr h
  have hS : va_S A s.heap s.heap [] := va_S.rf
  have hl := lv_entry ([.ref h0, .int x, .ref ao]) (n := 4) (Nat.le_of_ble_eq_true rfl)
  rw [lg_entry_eq]
  generalize (lg_sl ([.ref h0, .int x, .ref ao]) ++ List.replicate (4 - (lg_sl ([.ref h0, .int x, .ref ao])).length) Slot.unset).toArray = ls at hl ⊢
  have hl : lv_has ls 4 [(0, .ref h0), (1, .int x), (2, .ref ao)] := hl
  have SF : CallFix p m c cL_must 4 s ([.ref h0, .int x, .ref ao] : List Value).toArray GG RL := ⟨hx, hb, hml, hown, hts⟩
  skip
  have hP : va_P (dC, dI) vwCl [(h0, .inr (1, [.ref h1, .ref h2, .ref aw, .ref aa, .int (nI nv), .int (nI nl), .int (nI nc), .int (nI wc), .int (nI ac), .int fo, .int bl, .int lv, .int (nI vt)])), (h1, .inr (0, [.ref w1, .int (nI U)])), (w1, .inl (cL, 1024, .inr (.inl f))), (ao, .inl (cO, 1, .inr (.inl og)))] s.heap := hP
  have htb : c.exceptionTable.toList = tableOf [(0, 9, 12, 19)] := vx_table (x := yL_must) B (atoms_spec (ws := _ :: GG) B.pre _ List.mem_cons_self)
  refine lv_aload_n hx hb dL_must_0 rfl (lv_at hl 2 rfl) ?_
  refine lv_iconst (v := 0) hx hb dL_must_1 (by decide) ?_
  refine lv_aload_n hx hb dL_must_2 rfl (lv_at hl 0 rfl) ?_
  refine lv_iload_n hx hb dL_must_3 rfl (lv_at hl 1 rfl) ?_
  have hFc := va_free (wc := [(h0, .inr (1, [.ref h1, .ref h2, .ref aw, .ref aa, .int (nI nv), .int (nI nl), .int (nI nc), .int (nI wc), .int (nI ac), .int fo, .int bl, .int lv, .int (nI vt)])), (h1, .inr (0, [.ref w1, .int (nI U)])), (w1, .inl (cL, 1024, .inr (.inl f)))]) hD hS hA [0, 1, 2] rfl
  refine wcx_i (wcx_V (As := [.int x]) (rest := [.int 0, .ref ao]) (n := 1) SF (k_S_must l hst dC dI tI _ h0 h1 w1 h2 aw aa cL f U hU nv nl nc wc ac vt fo bl lv x hnv) ml_L_32 im_S_must se_S_must in_S co_S_must (by decide +kernel) rfl rfl rfl ⟨Nat.le_of_ble_eq_true rfl, Nat.le_of_ble_eq_true rfl⟩ (va_recv (hK.sub (tys' := []) [] rfl) (hP.sub (ws' := [(h0, .inr (1, [.ref h1, .ref h2, .ref aw, .ref aa, .int (nI nv), .int (nI nl), .int (nI nc), .int (nI wc), .int (nI ac), .int fo, .int bl, .int lv, .int (nI vt)])), (h1, .inr (0, [.ref w1, .int (nI U)])), (w1, .inl (cL, 1024, .inr (.inl f)))]) [0, 1, 2] rfl) (ci := 1) (q0 := 0) rfl rfl) (hP.sub [0, 1, 2] rfl) (hD.sub [0, 1, 2] (by decide) rfl) (hK.sub [0] rfl) hZ hX hS hFc rfl hl.1 (Nat.le_of_ble_eq_true rfl) dL_must_4 ⟨Nat.le_of_ble_eq_true rfl, Nat.le_of_ble_eq_true rfl⟩) hP hD hS hFc [0, 1, 2] [3] (wr := [(ao, .inl (cO, 1, .inr (.inl og)))]) rfl rfl rfl (by decide) (fun E ce q9 H locs hE hP hD hS h7 h8 h9 => ?_) (fun r9 uu H locs hpo hP hD hS => ?_)
  · have hP : va_P (dC, dI) vwCl [(h0, .inr (1, [.ref h1, .ref h2, .ref aw, .ref aa, .int (nI nv), .int (nI nl), .int (nI nc), .int (nI wc), .int (nI ac), .int fo, .int bl, .int lv, .int (nI vt)])), (h1, .inr (0, [.ref w1, .int (nI U)])), (w1, .inl (cL, 1024, .inr (.inl f))), (ao, .inl (cO, 1, .inr (.inl og)))] H := hP.sub [1, 2, 3, 0] rfl
    have hD : va_D A [(h0, .inr (1, [.ref h1, .ref h2, .ref aw, .ref aa, .int (nI nv), .int (nI nl), .int (nI nc), .int (nI wc), .int (nI ac), .int fo, .int bl, .int lv, .int (nI vt)])), (h1, .inr (0, [.ref w1, .int (nI U)])), (w1, .inl (cL, 1024, .inr (.inl f))), (ao, .inl (cO, 1, .inr (.inl og)))] := hD.sub [1, 2, 3, 0] (by decide) rfl
    obtain ⟨eE, hE⟩ := hE
    subst eE
    refine vx_catch hown [] ⟨0, 9, 12, 19⟩ [] htb (fun z hz => nomatch hz) (by decide) (by decide) (hts _ cl_L_19) (va_Nw.use rfl (hX.1 xA (by decide))) h7 h8 h9 ?_
    refine lv_astore_n (lv' := [(3, .ref q9), (0, .ref h0), (1, .int x), (2, .ref ao)]) hx hb dL_must_12 rfl hl (by decide) rfl (fun ls hl => ?_)
    refine lv_iconst (v := 1) hx hb dL_must_13 (by decide) ?_
    refine W.widen (k := 1) (n := 6) (Nat.le_of_ble_eq_true rfl) (Nat.le_of_ble_eq_true rfl) ?_
    exact (W.iret (v := 1) hx hb hr (fun t ht hW => ⟨⟨1, og, rfl, Or.inr ⟨rfl, hE, rfl⟩, by rw [ht]; exact hP, va_K.moved hW.alike hK, hD⟩, hS.F ht⟩) hS.2.2 dL_must_14)
  · have hP : va_P (dC, dI) vwCl [(h0, .inr (1, [.ref h1, .ref h2, .ref aw, .ref aa, .int (nI nv), .int (nI nl), .int (nI nc), .int (nI wc), .int (nI ac), .int fo, .int bl, .int lv, .int (nI vt)])), (h1, .inr (0, [.ref w1, .int (nI U)])), (w1, .inl (cL, 1024, .inr (.inl f))), (ao, .inl (cO, 1, .inr (.inl og)))] H := hP.sub [1, 2, 3, 0] rfl
    have hD : va_D A [(h0, .inr (1, [.ref h1, .ref h2, .ref aw, .ref aa, .int (nI nv), .int (nI nl), .int (nI nc), .int (nI wc), .int (nI ac), .int fo, .int bl, .int lv, .int (nI vt)])), (h1, .inr (0, [.ref w1, .int (nI U)])), (w1, .inl (cL, 1024, .inr (.inl f))), (ao, .inl (cO, 1, .inr (.inl og)))] := hD.sub [1, 2, 3, 0] (by decide) rfl
    refine lv_i2l hx hb dL_must_7 rfl ?_
    refine va_last hx hb hK hP hD hS 3 1 rfl rfl (ax_in01) dL_must_8 (fun H locs hP hD hS => ?_)
    have hP : va_P (dC, dI) vwCl [(h0, .inr (1, [.ref h1, .ref h2, .ref aw, .ref aa, .int (nI nv), .int (nI nl), .int (nI nc), .int (nI wc), .int (nI ac), .int fo, .int bl, .int lv, .int (nI vt)])), (h1, .inr (0, [.ref w1, .int (nI U)])), (w1, .inl (cL, 1024, .inr (.inl f))), (ao, .inl (cO, 1, .inr (.inl (vp_updL og 0 r9.toInt64))))] H := hP
    have hD : va_D A [(h0, .inr (1, [.ref h1, .ref h2, .ref aw, .ref aa, .int (nI nv), .int (nI nl), .int (nI nc), .int (nI wc), .int (nI ac), .int fo, .int bl, .int lv, .int (nI vt)])), (h1, .inr (0, [.ref w1, .int (nI U)])), (w1, .inl (cL, 1024, .inr (.inl f))), (ao, .inl (cO, 1, .inr (.inl (vp_updL og 0 r9.toInt64))))] := hD
    refine lv_goto (tgt := 15) hx hb dL_must_9 (by decide) ?_
    refine lv_iconst (v := 0) hx hb dL_must_15 (by decide) ?_
    refine W.widen (k := 1) (n := 6) (Nat.le_of_ble_eq_true rfl) (Nat.le_of_ble_eq_true rfl) ?_
    exact (W.iret (v := 0) hx hb hr (fun t ht hW => ⟨⟨0, vp_updL og 0 r9.toInt64, rfl, Or.inl ⟨rfl, r9, rfl, hpo⟩, by rw [ht]; exact hP, va_K.moved hW.alike hK, hD⟩, hS.F ht⟩) hS.2.2 dL_must_16)
set_option maxHeartbeats 4000000 in
set_option maxRecDepth 100000 in
theorem k_L_ways (l : Launch) (hst : l.stackTraces = false) (dC : Nat → ClassId) (dI : Nat → Nat → Nat) (tI sz : Nat) (h0 h1 w1 h2 w2 aw aa : Nat) (cL cM : ClassId) (f g0 : Nat → Int64) (y0 : Int32) (U n : Nat) (hU : U ≤ 1024) (hn : U = 2 ^ n) (hnn : n ≤ 10) (nv nl nc wc ac vt : Nat) (fo bl lv : Int32) (x y : Int32) (hnv : nv ≤ 16) (ao : Nat) (cO : ClassId) (og : Nat → Int64) : Met l yL_ways (Cond.codeWith yL_ways cL_ways 5 (some .int) [(0, 10, 13, 19), (0, 10, 17, 30)] :: GG) (lvr 8 1 6) (va_Pc [.ref h0, .int x, .int y, .ref ao] (wPre dC dI [(cL, .long), (cM, .long), (cO, .long)] [(h0, .inr (1, [.ref h1, .ref h2, .ref aw, .ref aa, .int (nI nv), .int (nI nl), .int (nI nc), .int (nI wc), .int (nI ac), .int fo, .int bl, .int lv, .int (nI vt)])), (h1, .inr (0, [.ref w1, .int (nI U)])), (w1, .inl (cL, 1024, .inr (.inl f))), (h2, .inr (0, [.ref w2, .int y0])), (w2, .inl (cM, 1024, .inr (.inl g0))), (ao, .inl (cO, 1, .inr (.inl og)))] sz tI)) (va_Qi (fun (r : Int32) (u : (Nat → Int64) × Int32 × (Nat → Int64)) => (r = 0 ∧ ∃ rv : Int32, u.2.2 0 = rv.toInt64 ∧ ∃ F N ee, N ≤ 8 ∧ y = nI N ∧ x = nI F ∧ F + N ≤ nv ∧ ee ≤ 10 ∧ u.2.1 = nI (2 ^ ee) ∧ rv = nI (ls_sum u.1 (2 ^ ee)) ∧ wy_I f n F N 16 u.1 ee) ∨ (r = 1 ∧ ¬ (∃ N, N ≤ 8 ∧ y = nI N) ∧ u = (g0, y0, og)) ∨ (r = 2 ∧ (∃ N, N ≤ 8 ∧ y = nI N) ∧ ¬ (∃ F N, N ≤ 8 ∧ y = nI N ∧ x = nI F ∧ F + N ≤ nv) ∧ u = (g0, y0, og))) (fun u t => wB dC dI [(cL, .long), (cM, .long), (cO, .long)] (va_A [(h0, .inr (1, [.ref h1, .ref h2, .ref aw, .ref aa, .int (nI nv), .int (nI nl), .int (nI nc), .int (nI wc), .int (nI ac), .int fo, .int bl, .int lv, .int (nI vt)])), (h1, .inr (0, [.ref w1, .int (nI U)])), (w1, .inl (cL, 1024, .inr (.inl f))), (h2, .inr (0, [.ref w2, .int y0])), (w2, .inl (cM, 1024, .inr (.inl g0))), (ao, .inl (cO, 1, .inr (.inl og)))] sz) [(h0, .inr (1, [.ref h1, .ref h2, .ref aw, .ref aa, .int (nI nv), .int (nI nl), .int (nI nc), .int (nI wc), .int (nI ac), .int fo, .int bl, .int lv, .int (nI vt)])), (h1, .inr (0, [.ref w1, .int (nI U)])), (w1, .inl (cL, 1024, .inr (.inl f))), (h2, .inr (0, [.ref w2, .int u.2.1])), (w2, .inl (cM, 1024, .inr (.inl u.1))), (ao, .inl (cO, 1, .inr (.inl u.2.2)))] t) (va_A [(h0, .inr (1, [.ref h1, .ref h2, .ref aw, .ref aa, .int (nI nv), .int (nI nl), .int (nI nc), .int (nI wc), .int (nI ac), .int fo, .int bl, .int lv, .int (nI vt)])), (h1, .inr (0, [.ref w1, .int (nI U)])), (w1, .inl (cL, 1024, .inr (.inl f))), (h2, .inr (0, [.ref w2, .int y0])), (w2, .inl (cM, 1024, .inr (.inl g0))), (ao, .inl (cO, 1, .inr (.inl og)))] sz)) 1 6 (va_A [(h0, .inr (1, [.ref h1, .ref h2, .ref aw, .ref aa, .int (nI nv), .int (nI nl), .int (nI nc), .int (nI wc), .int (nI ac), .int fo, .int bl, .int lv, .int (nI vt)])), (h1, .inr (0, [.ref w1, .int (nI U)])), (w1, .inl (cL, 1024, .inr (.inl f))), (h2, .inr (0, [.ref w2, .int y0])), (w2, .inl (cM, 1024, .inr (.inl g0))), (ao, .inl (cO, 1, .inr (.inl og)))] sz) := by
  refine va_MetW (cc := cL_ways) (maxL := 5) (ret := (some .int)) (hh := [(0, 10, 13, 19), (0, 10, 17, 30)]) (by decide) rfl ?_
  intro p e s m args below meth c s₁ B hml hv
  obtain ⟨rfl, hsz, hP, hK, hD0, hZ, hX⟩ := hv
  have hx := B.exec
  have hb := B.bytes
  have hr := B.returns
  have hts : ∀ w ∈ GG, w.before ([.ref h0, .int x, .int y, .ref ao] : List Value).toArray s = true := fun w h => atoms_spec (ws := _ :: GG) B.pre w (List.mem_cons_of_mem _ h)
  have hown : s.vm.findClass RL = some m.cls := findClass_of_methodNamed B.named
  have hlocks := B.notSynchronized
  subst hsz
  have hD := hD0.self (sz := s.heap.size)
  generalize hAe : va_A [(h0, .inr (1, [.ref h1, .ref h2, .ref aw, .ref aa, .int (nI nv), .int (nI nl), .int (nI nc), .int (nI wc), .int (nI ac), .int fo, .int bl, .int lv, .int (nI vt)])), (h1, .inr (0, [.ref w1, .int (nI U)])), (w1, .inl (cL, 1024, .inr (.inl f))), (h2, .inr (0, [.ref w2, .int y0])), (w2, .inl (cM, 1024, .inr (.inl g0))), (ao, .inl (cO, 1, .inr (.inl og)))] s.heap.size = A at hD hZ ⊢
  have hA : ∀ q : Nat, s.heap.size ≤ q → A q := fun q h => by rw [← hAe]; exact Or.inr h
  have hS : va_S A s.heap s.heap [] := va_S.rf
  have hl := lv_entry ([.ref h0, .int x, .int y, .ref ao]) (n := 5) (Nat.le_of_ble_eq_true rfl)
  rw [lg_entry_eq]
  generalize (lg_sl ([.ref h0, .int x, .int y, .ref ao]) ++ List.replicate (5 - (lg_sl ([.ref h0, .int x, .int y, .ref ao])).length) Slot.unset).toArray = ls at hl ⊢
  have hl : lv_has ls 5 [(0, .ref h0), (1, .int x), (2, .int y), (3, .ref ao)] := hl
  have SF : CallFix p m c cL_ways 5 s ([.ref h0, .int x, .int y, .ref ao] : List Value).toArray GG RL := ⟨hx, hb, hml, hown, hts⟩
  skip
  have hP : va_P (dC, dI) vwCl [(h0, .inr (1, [.ref h1, .ref h2, .ref aw, .ref aa, .int (nI nv), .int (nI nl), .int (nI nc), .int (nI wc), .int (nI ac), .int fo, .int bl, .int lv, .int (nI vt)])), (h1, .inr (0, [.ref w1, .int (nI U)])), (w1, .inl (cL, 1024, .inr (.inl f))), (h2, .inr (0, [.ref w2, .int y0])), (w2, .inl (cM, 1024, .inr (.inl g0))), (ao, .inl (cO, 1, .inr (.inl og)))] s.heap := hP
  have htb : c.exceptionTable.toList = tableOf [(0, 10, 13, 19), (0, 10, 17, 30)] := vx_table (x := yL_ways) B (atoms_spec (ws := _ :: GG) B.pre _ List.mem_cons_self)
  refine lv_aload_n hx hb dL_ways_0 rfl (lv_at hl 3 rfl) ?_
  refine lv_iconst (v := 0) hx hb dL_ways_1 (by decide) ?_
  refine lv_aload_n hx hb dL_ways_2 rfl (lv_at hl 0 rfl) ?_
  refine lv_iload_n hx hb dL_ways_3 rfl (lv_at hl 1 rfl) ?_
  refine lv_iload_n hx hb dL_ways_4 rfl (lv_at hl 2 rfl) ?_
  have hFc := va_free (wc := [(h0, .inr (1, [.ref h1, .ref h2, .ref aw, .ref aa, .int (nI nv), .int (nI nl), .int (nI nc), .int (nI wc), .int (nI ac), .int fo, .int bl, .int lv, .int (nI vt)])), (h1, .inr (0, [.ref w1, .int (nI U)])), (w1, .inl (cL, 1024, .inr (.inl f))), (h2, .inr (0, [.ref w2, .int y0])), (w2, .inl (cM, 1024, .inr (.inl g0)))]) hD hS hA [0, 1, 2, 3, 4] rfl
  refine wcx_i (wcx_V (As := [.int x, .int y]) (rest := [.int 0, .ref ao]) (n := 2) SF (k_S_ways l hst dC dI tI _ h0 h1 w1 h2 w2 aw aa cL cM f g0 y0 U n hU hn hnn nv nl nc wc ac vt fo bl lv x y hnv) ml_L_35 im_S_ways se_S_ways in_S co_S_ways (by decide +kernel) rfl rfl rfl ⟨Nat.le_of_ble_eq_true rfl, Nat.le_of_ble_eq_true rfl⟩ (va_recv (hK.sub (tys' := []) [] rfl) (hP.sub (ws' := [(h0, .inr (1, [.ref h1, .ref h2, .ref aw, .ref aa, .int (nI nv), .int (nI nl), .int (nI nc), .int (nI wc), .int (nI ac), .int fo, .int bl, .int lv, .int (nI vt)])), (h1, .inr (0, [.ref w1, .int (nI U)])), (w1, .inl (cL, 1024, .inr (.inl f))), (h2, .inr (0, [.ref w2, .int y0])), (w2, .inl (cM, 1024, .inr (.inl g0)))]) [0, 1, 2, 3, 4] rfl) (ci := 1) (q0 := 0) rfl rfl) (hP.sub [0, 1, 2, 3, 4] rfl) (hD.sub [0, 1, 2, 3, 4] (by decide) rfl) (hK.sub [0, 1] rfl) hZ hX hS hFc rfl hl.1 (Nat.le_of_ble_eq_true rfl) dL_ways_5 ⟨Nat.le_of_ble_eq_true rfl, Nat.le_of_ble_eq_true rfl⟩) hP hD hS hFc [0, 1, 2, 3, 4] [5] (wr := [(ao, .inl (cO, 1, .inr (.inl og)))]) rfl rfl rfl (by decide) (fun E ce q9 H locs hE hP hD hS h7 h8 h9 => ?_) (fun r9 uu H locs hpo hP hD hS => ?_)
  · have hP : va_P (dC, dI) vwCl [(h0, .inr (1, [.ref h1, .ref h2, .ref aw, .ref aa, .int (nI nv), .int (nI nl), .int (nI nc), .int (nI wc), .int (nI ac), .int fo, .int bl, .int lv, .int (nI vt)])), (h1, .inr (0, [.ref w1, .int (nI U)])), (w1, .inl (cL, 1024, .inr (.inl f))), (h2, .inr (0, [.ref w2, .int y0])), (w2, .inl (cM, 1024, .inr (.inl g0))), (ao, .inl (cO, 1, .inr (.inl og)))] H := hP.sub [1, 2, 3, 4, 5, 0] rfl
    have hD : va_D A [(h0, .inr (1, [.ref h1, .ref h2, .ref aw, .ref aa, .int (nI nv), .int (nI nl), .int (nI nc), .int (nI wc), .int (nI ac), .int fo, .int bl, .int lv, .int (nI vt)])), (h1, .inr (0, [.ref w1, .int (nI U)])), (w1, .inl (cL, 1024, .inr (.inl f))), (h2, .inr (0, [.ref w2, .int y0])), (w2, .inl (cM, 1024, .inr (.inl g0))), (ao, .inl (cO, 1, .inr (.inl og)))] := hD.sub [1, 2, 3, 4, 5, 0] (by decide) rfl
    rcases hE with ⟨eE, hE⟩ | ⟨eE, hE⟩
    · subst eE
      refine vx_catch hown [] ⟨0, 10, 13, 19⟩ [⟨0, 10, 17, 30⟩] htb (fun z hz => nomatch hz) (by decide) (by decide) (hts _ cl_L_19) (va_Nw.use rfl (hX.1 xA (by decide))) h7 h8 h9 ?_
      refine lv_astore (lv' := [(4, .ref q9), (0, .ref h0), (1, .int x), (2, .int y), (3, .ref ao)]) hx hb dL_ways_13 hl (by decide) rfl (fun ls hl => ?_)
      refine lv_iconst (v := 1) hx hb dL_ways_15 (by decide) ?_
      refine W.widen (k := 1) (n := 6) (Nat.le_of_ble_eq_true rfl) (Nat.le_of_ble_eq_true rfl) ?_
      exact (W.iret (v := 1) hx hb hr (fun t ht hW => ⟨⟨1, (g0, y0, og), rfl, Or.inr (Or.inl ⟨rfl, hE, rfl⟩), by rw [ht]; exact hP, va_K.moved hW.alike hK, hD⟩, hS.F ht⟩) hS.2.2 dL_ways_16)
    · subst eE
      refine vx_catch hown [⟨0, 10, 13, 19⟩] ⟨0, 10, 17, 30⟩ [] htb (fun z hz => by rw [List.mem_singleton.mp hz]; exact Or.inr ⟨by decide, xA, hts _ cl_L_19, hX.2.2.2.1⟩) (by decide) (by decide) (hts _ cl_L_30) (va_Nw.use rfl (hX.1 xI (by decide))) h7 h8 h9 ?_
      refine lv_astore (lv' := [(4, .ref q9), (0, .ref h0), (1, .int x), (2, .int y), (3, .ref ao)]) hx hb dL_ways_17 hl (by decide) rfl (fun ls hl => ?_)
      refine lv_iconst (v := 2) hx hb dL_ways_19 (by decide) ?_
      refine W.widen (k := 1) (n := 6) (Nat.le_of_ble_eq_true rfl) (Nat.le_of_ble_eq_true rfl) ?_
      exact (W.iret (v := 2) hx hb hr (fun t ht hW => ⟨⟨2, (g0, y0, og), rfl, Or.inr (Or.inr ⟨rfl, hE.1, hE.2, rfl⟩), by rw [ht]; exact hP, va_K.moved hW.alike hK, hD⟩, hS.F ht⟩) hS.2.2 dL_ways_20)
  · have hP : va_P (dC, dI) vwCl [(h0, .inr (1, [.ref h1, .ref h2, .ref aw, .ref aa, .int (nI nv), .int (nI nl), .int (nI nc), .int (nI wc), .int (nI ac), .int fo, .int bl, .int lv, .int (nI vt)])), (h1, .inr (0, [.ref w1, .int (nI U)])), (w1, .inl (cL, 1024, .inr (.inl f))), (h2, .inr (0, [.ref w2, .int (nI uu.2)])), (w2, .inl (cM, 1024, .inr (.inl uu.1))), (ao, .inl (cO, 1, .inr (.inl og)))] H := hP.sub [1, 2, 3, 4, 5, 0] rfl
    have hD : va_D A [(h0, .inr (1, [.ref h1, .ref h2, .ref aw, .ref aa, .int (nI nv), .int (nI nl), .int (nI nc), .int (nI wc), .int (nI ac), .int fo, .int bl, .int lv, .int (nI vt)])), (h1, .inr (0, [.ref w1, .int (nI U)])), (w1, .inl (cL, 1024, .inr (.inl f))), (h2, .inr (0, [.ref w2, .int (nI uu.2)])), (w2, .inl (cM, 1024, .inr (.inl uu.1))), (ao, .inl (cO, 1, .inr (.inl og)))] := hD.sub [1, 2, 3, 4, 5, 0] (by decide) rfl
    refine lv_i2l hx hb dL_ways_8 rfl ?_
    refine va_last hx hb hK hP hD hS 5 2 rfl rfl (ax_in01) dL_ways_9 (fun H locs hP hD hS => ?_)
    have hP : va_P (dC, dI) vwCl [(h0, .inr (1, [.ref h1, .ref h2, .ref aw, .ref aa, .int (nI nv), .int (nI nl), .int (nI nc), .int (nI wc), .int (nI ac), .int fo, .int bl, .int lv, .int (nI vt)])), (h1, .inr (0, [.ref w1, .int (nI U)])), (w1, .inl (cL, 1024, .inr (.inl f))), (h2, .inr (0, [.ref w2, .int (nI uu.2)])), (w2, .inl (cM, 1024, .inr (.inl uu.1))), (ao, .inl (cO, 1, .inr (.inl (vp_updL og 0 r9.toInt64))))] H := hP
    have hD : va_D A [(h0, .inr (1, [.ref h1, .ref h2, .ref aw, .ref aa, .int (nI nv), .int (nI nl), .int (nI nc), .int (nI wc), .int (nI ac), .int fo, .int bl, .int lv, .int (nI vt)])), (h1, .inr (0, [.ref w1, .int (nI U)])), (w1, .inl (cL, 1024, .inr (.inl f))), (h2, .inr (0, [.ref w2, .int (nI uu.2)])), (w2, .inl (cM, 1024, .inr (.inl uu.1))), (ao, .inl (cO, 1, .inr (.inl (vp_updL og 0 r9.toInt64))))] := hD
    refine lv_goto (tgt := 21) hx hb dL_ways_10 (by decide) ?_
    refine lv_iconst (v := 0) hx hb dL_ways_21 (by decide) ?_
    refine W.widen (k := 1) (n := 6) (Nat.le_of_ble_eq_true rfl) (Nat.le_of_ble_eq_true rfl) ?_
    exact (W.iret (v := 0) hx hb hr (fun t ht hW => ⟨⟨0, (uu.1, nI uu.2, vp_updL og 0 r9.toInt64), rfl, Or.inl ⟨rfl, r9, rfl, by
        obtain ⟨F, N, ee, a1, a2, a3, a4, a5, a6, a7, a8⟩ := hpo
        exact ⟨F, N, ee, a1, a2, a3, a4, a5, by show nI uu.2 = _; rw [a6], a7, a8⟩⟩, by rw [ht]; exact hP, va_K.moved hW.alike hK, hD⟩, hS.F ht⟩) hS.2.2 dL_ways_22)
