set_option maxHeartbeats 4000000 in
set_option maxRecDepth 100000 in
/-- Rows() -/
theorem k_R_init (l : Launch) (dC : Nat → ClassId) (dI : Nat → Nat → Nat) (tI sz : Nat) (h : Nat) : Met l yR_init (Cond.code yR_init cR_init 1 none :: GG) (lvr 1 1 1024) (va_Pc [.ref h] (wPre dC dI [] [(h, .inr (0, [.null, .int 0]))] sz tI)) (va_Qv (fun (u : Nat × ClassId) => True) (fun u t => wB dC dI [(u.2, .long)] (va_A [(h, .inr (0, [.null, .int 0]))] sz) [(h, .inr (0, [.ref u.1, .int 0])), (u.1, .inl (u.2, 1024, .inr (.inl (fun _ => 0))))] t) (va_A [(h, .inr (0, [.null, .int 0]))] sz)) 1 1024 (va_A [(h, .inr (0, [.null, .int 0]))] sz) := by
  refine Met.ofW (cc := cR_init) (maxL := 1) (ret := none) (by decide) rfl ?_
  intro p e s m args below meth c s₁ B hml hv
  obtain ⟨rfl, hsz, hP, hK, hD0, hZ, hX⟩ := hv
  have hx := B.exec
  have hb := B.bytes
  have hr := B.returns
  have hts : ∀ w ∈ GG, w.before ([.ref h] : List Value).toArray s = true := fun w h => atoms_spec (ws := _ :: GG) B.pre w (List.mem_cons_of_mem _ h)
  have hown : s.vm.findClass RR = some m.cls := findClass_of_methodNamed B.named
  have hlocks := B.notSynchronized
  have hin : meth.name = "<init>" := (name_of_methodNamed B.named B.method).1
  subst hsz
  have hD := hD0.self (sz := s.heap.size)
  generalize hAe : va_A [(h, .inr (0, [.null, .int 0]))] s.heap.size = A at hD hZ ⊢
  have hA : ∀ q : Nat, s.heap.size ≤ q → A q := fun q h => by rw [← hAe]; exact Or.inr h
  have hS : va_S A s.heap s.heap [] := va_S.rf
  have hl := lv_entry ([.ref h]) (n := 1) (Nat.le_of_ble_eq_true rfl)
  rw [lg_entry_eq]
  generalize (lg_sl ([.ref h]) ++ List.replicate (1 - (lg_sl ([.ref h])).length) Slot.unset).toArray = ls at hl ⊢
  have hl : lv_has ls 1 [(0, .ref h)] := hl
  have SF : CallFix p m c cR_init 1 s ([.ref h] : List Value).toArray GG RR := ⟨hx, hb, hml, hown, hts⟩
  skip
  have hP : va_P (dC, dI) vwCl [(h, .inr (0, [.null, .int 0]))] s.heap := hP
  refine lv_aload_n hx hb dR_init_0 rfl (lv_at hl 0 rfl) ?_
  refine W.objInit hx hb hown (hts _ ml_R_5) (hts _ im_object) (hts _ co_object) rfl (by rw [hml]; exact hl.1) rfl dR_init_1 (Nat.le_of_ble_eq_true rfl) (Nat.le_of_ble_eq_true rfl) ?_
  refine W.eq (g2 := F0 m 4 ls []) rfl ?_
  refine lv_aload_n hx hb dR_init_4 rfl (lv_at hl 0 rfl) ?_
  refine lv_sipush (v := 1024) hx hb dR_init_5 (by decide) ?_
  refine va_newa (atype := .long) (a0 := (1024, .inr (.inl (fun _ => 0)))) hx hb (hts _ ac_long) rfl hK hP hD hS hA (fun _ => rfl) (by decide) rfl (by decide) (Nat.le_of_ble_eq_true rfl) (Nat.le_of_ble_eq_true rfl) dR_init_8 (fun q cA H hK hP hD hS => ?_)
  have hP : va_P (dC, dI) vwCl [(h, .inr (0, [.null, .int 0])), (q, .inl (cA, 1024, .inr (.inl (fun _ => 0))))] H := hP
  have hD : va_D A [(h, .inr (0, [.null, .int 0])), (q, .inl (cA, 1024, .inr (.inl (fun _ => 0))))] := hD
  have hK : va_K (dC, dI) vwCl [(cA, .long)] s := hK
  refine va_putF (D := (dC, dI)) (ci := 0) (v := .ref q) (ty := .array .long) (C := RR) (T := TR) (N := 2) hx hb hts lyR tyR tyR_ok nmR hown hK hP hD hS 0 rfl rfl 0 (by decide) (hts _ fl_R_11) (fun _ h9 => h9) rfl hin rfl (by decide +kernel) rfl rfl (Nat.le_of_ble_eq_true rfl) dR_init_10 (fun H locs hP hD hS => ?_)
  have hP : va_P (dC, dI) vwCl [(h, .inr (0, [.ref q, .int 0])), (q, .inl (cA, 1024, .inr (.inl (fun _ => 0))))] H := hP
  have hD : va_D A [(h, .inr (0, [.ref q, .int 0])), (q, .inl (cA, 1024, .inr (.inl (fun _ => 0))))] := hD
  refine lv_aload_n hx hb dR_init_13 rfl (lv_at hl 0 rfl) ?_
  refine lv_iconst (v := 0) hx hb dR_init_14 (by decide) ?_
  refine va_put (D := (dC, dI)) (ci := 0) (v := .int 0) (ty := .int) (C := RR) (T := TR) (N := 2) hx hb hts lyR tyR tyR_ok nmR hown hK hP hD hS 0 rfl rfl 1 (by decide) (hts _ fl_R_15) (fun _ h9 => h9) rfl (by decide +kernel) rfl rfl (Nat.le_of_ble_eq_true rfl) dR_init_15 (fun H locs hP hD hS => ?_)
  have hP : va_P (dC, dI) vwCl [(h, .inr (0, [.ref q, .int 0])), (q, .inl (cA, 1024, .inr (.inl (fun _ => 0))))] H := hP
  have hD : va_D A [(h, .inr (0, [.ref q, .int 0])), (q, .inl (cA, 1024, .inr (.inl (fun _ => 0))))] := hD
  refine W.widen (k := 1) (n := 1024) (Nat.le_of_ble_eq_true rfl) (Nat.le_of_ble_eq_true rfl) ?_
  exact (W.vret hx hb hr (fun t ht hW => ⟨⟨(q, cA), rfl, trivial, by rw [ht]; exact hP, va_K.moved hW.alike hK, hD⟩, hS.F ht⟩) hS.2.2 dR_init_18)
set_option maxHeartbeats 4000000 in
set_option maxRecDepth 100000 in
theorem k_S_blame (l : Launch) (dC : Nat → ClassId) (dI : Nat → Nat → Nat) (tI sz : Nat) (h0 h1 h2 aw aa : Nat) (nv nl nc wc ac vt : Nat) (fo bl lv : Int32) : Met l yS_blame (Cond.code yS_blame cS_blame 1 (some .int) :: GG) (lvr 0 0 0) (va_Pc [.ref h0] (wPre dC dI [] [(h0, .inr (1, [.ref h1, .ref h2, .ref aw, .ref aa, .int (nI nv), .int (nI nl), .int (nI nc), .int (nI wc), .int (nI ac), .int fo, .int bl, .int lv, .int (nI vt)]))] sz tI)) (va_Qi (fun (r : Int32) (u : Unit) => r = bl) (fun u t => wB dC dI [] (va_A [(h0, .inr (1, [.ref h1, .ref h2, .ref aw, .ref aa, .int (nI nv), .int (nI nl), .int (nI nc), .int (nI wc), .int (nI ac), .int fo, .int bl, .int lv, .int (nI vt)]))] sz) [(h0, .inr (1, [.ref h1, .ref h2, .ref aw, .ref aa, .int (nI nv), .int (nI nl), .int (nI nc), .int (nI wc), .int (nI ac), .int fo, .int bl, .int lv, .int (nI vt)]))] t) (va_A [(h0, .inr (1, [.ref h1, .ref h2, .ref aw, .ref aa, .int (nI nv), .int (nI nl), .int (nI nc), .int (nI wc), .int (nI ac), .int fo, .int bl, .int lv, .int (nI vt)]))] sz)) 0 0 (va_A [(h0, .inr (1, [.ref h1, .ref h2, .ref aw, .ref aa, .int (nI nv), .int (nI nl), .int (nI nc), .int (nI wc), .int (nI ac), .int fo, .int bl, .int lv, .int (nI vt)]))] sz) := by
  refine Met.ofW (cc := cS_blame) (maxL := 1) (ret := (some .int)) (by decide) rfl ?_
  intro p e s m args below meth c s₁ B hml hv
  obtain ⟨rfl, hsz, hP, hK, hD0, hZ, hX⟩ := hv
  have hx := B.exec
  have hb := B.bytes
  have hr := B.returns
  have hts : ∀ w ∈ GG, w.before ([.ref h0] : List Value).toArray s = true := fun w h => atoms_spec (ws := _ :: GG) B.pre w (List.mem_cons_of_mem _ h)
  have hown : s.vm.findClass RS = some m.cls := findClass_of_methodNamed B.named
  have hlocks := B.notSynchronized
  subst hsz
  have hD := hD0.self (sz := s.heap.size)
  generalize hAe : va_A [(h0, .inr (1, [.ref h1, .ref h2, .ref aw, .ref aa, .int (nI nv), .int (nI nl), .int (nI nc), .int (nI wc), .int (nI ac), .int fo, .int bl, .int lv, .int (nI vt)]))] s.heap.size = A at hD hZ ⊢
  have hA : ∀ q : Nat, s.heap.size ≤ q → A q := fun q h => by rw [← hAe]; exact Or.inr h
  have hS : va_S A s.heap s.heap [] := va_S.rf
  have hl := lv_entry ([.ref h0]) (n := 1) (Nat.le_of_ble_eq_true rfl)
  rw [lg_entry_eq]
  generalize (lg_sl ([.ref h0]) ++ List.replicate (1 - (lg_sl ([.ref h0])).length) Slot.unset).toArray = ls at hl ⊢
  have hl : lv_has ls 1 [(0, .ref h0)] := hl
  have SF : CallFix p m c cS_blame 1 s ([.ref h0] : List Value).toArray GG RS := ⟨hx, hb, hml, hown, hts⟩
  skip
  have hP : va_P (dC, dI) vwCl [(h0, .inr (1, [.ref h1, .ref h2, .ref aw, .ref aa, .int (nI nv), .int (nI nl), .int (nI nc), .int (nI wc), .int (nI ac), .int fo, .int bl, .int lv, .int (nI vt)]))] s.heap := hP
  refine lv_aload_n hx hb dS_blame_0 rfl (lv_at hl 0 rfl) ?_
  refine va_get (D := (dC, dI)) (ci := 1) (v := .int bl) (C := RS) (T := TS) (N := 13) hx hb hts lyS hown hK hP 0 rfl rfl 10 (by decide) (hts _ fl_S_79) (fun _ h9 => h9) rfl dS_blame_1 ?_
  exact (W.iret (v := bl) hx hb hr (fun t ht hW => ⟨⟨bl, (), rfl, rfl, by rw [ht]; exact hP, va_K.moved hW.alike hK, hD⟩, hS.F ht⟩) hS.2.2 dS_blame_4)
set_option maxHeartbeats 4000000 in
set_option maxRecDepth 100000 in
theorem k_S_shown (l : Launch) (dC : Nat → ClassId) (dI : Nat → Nat → Nat) (tI sz : Nat) (h0 h1 h2 aw aa : Nat) (nv nl nc wc ac vt : Nat) (fo bl lv : Int32) (hfo : fo = 1 ∨ fo = 0) : Met l yS_shown (Cond.code yS_shown cS_shown 1 (some .boolean) :: GG) (lvr 0 0 0) (va_Pc [.ref h0] (wPre dC dI [] [(h0, .inr (1, [.ref h1, .ref h2, .ref aw, .ref aa, .int (nI nv), .int (nI nl), .int (nI nc), .int (nI wc), .int (nI ac), .int fo, .int bl, .int lv, .int (nI vt)]))] sz tI)) (va_Qi (fun (r : Int32) (u : Unit) => r = fo) (fun u t => wB dC dI [] (va_A [(h0, .inr (1, [.ref h1, .ref h2, .ref aw, .ref aa, .int (nI nv), .int (nI nl), .int (nI nc), .int (nI wc), .int (nI ac), .int fo, .int bl, .int lv, .int (nI vt)]))] sz) [(h0, .inr (1, [.ref h1, .ref h2, .ref aw, .ref aa, .int (nI nv), .int (nI nl), .int (nI nc), .int (nI wc), .int (nI ac), .int fo, .int bl, .int lv, .int (nI vt)]))] t) (va_A [(h0, .inr (1, [.ref h1, .ref h2, .ref aw, .ref aa, .int (nI nv), .int (nI nl), .int (nI nc), .int (nI wc), .int (nI ac), .int fo, .int bl, .int lv, .int (nI vt)]))] sz)) 0 0 (va_A [(h0, .inr (1, [.ref h1, .ref h2, .ref aw, .ref aa, .int (nI nv), .int (nI nl), .int (nI nc), .int (nI wc), .int (nI ac), .int fo, .int bl, .int lv, .int (nI vt)]))] sz) := by
  refine Met.ofW (cc := cS_shown) (maxL := 1) (ret := (some .boolean)) (by decide) rfl ?_
  intro p e s m args below meth c s₁ B hml hv
  obtain ⟨rfl, hsz, hP, hK, hD0, hZ, hX⟩ := hv
  have hx := B.exec
  have hb := B.bytes
  have hr := B.returns
  have hts : ∀ w ∈ GG, w.before ([.ref h0] : List Value).toArray s = true := fun w h => atoms_spec (ws := _ :: GG) B.pre w (List.mem_cons_of_mem _ h)
  have hown : s.vm.findClass RS = some m.cls := findClass_of_methodNamed B.named
  have hlocks := B.notSynchronized
  subst hsz
  have hD := hD0.self (sz := s.heap.size)
  generalize hAe : va_A [(h0, .inr (1, [.ref h1, .ref h2, .ref aw, .ref aa, .int (nI nv), .int (nI nl), .int (nI nc), .int (nI wc), .int (nI ac), .int fo, .int bl, .int lv, .int (nI vt)]))] s.heap.size = A at hD hZ ⊢
  have hA : ∀ q : Nat, s.heap.size ≤ q → A q := fun q h => by rw [← hAe]; exact Or.inr h
  have hS : va_S A s.heap s.heap [] := va_S.rf
  have hl := lv_entry ([.ref h0]) (n := 1) (Nat.le_of_ble_eq_true rfl)
  rw [lg_entry_eq]
  generalize (lg_sl ([.ref h0]) ++ List.replicate (1 - (lg_sl ([.ref h0])).length) Slot.unset).toArray = ls at hl ⊢
  have hl : lv_has ls 1 [(0, .ref h0)] := hl
  have SF : CallFix p m c cS_shown 1 s ([.ref h0] : List Value).toArray GG RS := ⟨hx, hb, hml, hown, hts⟩
  skip
  have hP : va_P (dC, dI) vwCl [(h0, .inr (1, [.ref h1, .ref h2, .ref aw, .ref aa, .int (nI nv), .int (nI nl), .int (nI nc), .int (nI wc), .int (nI ac), .int fo, .int bl, .int lv, .int (nI vt)]))] s.heap := hP
  refine lv_aload_n hx hb dS_shown_0 rfl (lv_at hl 0 rfl) ?_
  refine va_get (D := (dC, dI)) (ci := 1) (v := .int fo) (C := RS) (T := TS) (N := 13) hx hb hts lyS hown hK hP 0 rfl rfl 9 (by decide) (hts _ fl_S_82) (fun _ h9 => h9) rfl dS_shown_1 ?_
  exact (W.zret (v := fo) hx hb hr ((ax_b01 hfo).1) (fun t ht hW => ⟨⟨fo, (), rfl, rfl, by rw [ht]; exact hP, va_K.moved hW.alike hK, hD⟩, hS.F ht⟩) hS.2.2 dS_shown_4)
set_option maxHeartbeats 4000000 in
set_option maxRecDepth 100000 in
theorem k_S_proved (l : Launch) (dC : Nat → ClassId) (dI : Nat → Nat → Nat) (tI sz : Nat) (h0 h1 h2 aw aa : Nat) (nv nl nc wc ac vt : Nat) (fo bl lv : Int32) : Met l yS_proved (Cond.code yS_proved cS_proved 1 (some .boolean) :: GG) (lvr 0 0 0) (va_Pc [.ref h0] (wPre dC dI [] [(h0, .inr (1, [.ref h1, .ref h2, .ref aw, .ref aa, .int (nI nv), .int (nI nl), .int (nI nc), .int (nI wc), .int (nI ac), .int fo, .int bl, .int lv, .int (nI vt)]))] sz tI)) (va_Qi (fun (r : Int32) (u : Unit) => (r = 1 ∧ ¬ bl = -1) ∨ (r = 0 ∧ bl = -1)) (fun u t => wB dC dI [] (va_A [(h0, .inr (1, [.ref h1, .ref h2, .ref aw, .ref aa, .int (nI nv), .int (nI nl), .int (nI nc), .int (nI wc), .int (nI ac), .int fo, .int bl, .int lv, .int (nI vt)]))] sz) [(h0, .inr (1, [.ref h1, .ref h2, .ref aw, .ref aa, .int (nI nv), .int (nI nl), .int (nI nc), .int (nI wc), .int (nI ac), .int fo, .int bl, .int lv, .int (nI vt)]))] t) (va_A [(h0, .inr (1, [.ref h1, .ref h2, .ref aw, .ref aa, .int (nI nv), .int (nI nl), .int (nI nc), .int (nI wc), .int (nI ac), .int fo, .int bl, .int lv, .int (nI vt)]))] sz)) 0 0 (va_A [(h0, .inr (1, [.ref h1, .ref h2, .ref aw, .ref aa, .int (nI nv), .int (nI nl), .int (nI nc), .int (nI wc), .int (nI ac), .int fo, .int bl, .int lv, .int (nI vt)]))] sz) := by
  refine Met.ofW (cc := cS_proved) (maxL := 1) (ret := (some .boolean)) (by decide) rfl ?_
  intro p e s m args below meth c s₁ B hml hv
  obtain ⟨rfl, hsz, hP, hK, hD0, hZ, hX⟩ := hv
  have hx := B.exec
  have hb := B.bytes
  have hr := B.returns
  have hts : ∀ w ∈ GG, w.before ([.ref h0] : List Value).toArray s = true := fun w h => atoms_spec (ws := _ :: GG) B.pre w (List.mem_cons_of_mem _ h)
  have hown : s.vm.findClass RS = some m.cls := findClass_of_methodNamed B.named
  have hlocks := B.notSynchronized
  subst hsz
  have hD := hD0.self (sz := s.heap.size)
  generalize hAe : va_A [(h0, .inr (1, [.ref h1, .ref h2, .ref aw, .ref aa, .int (nI nv), .int (nI nl), .int (nI nc), .int (nI wc), .int (nI ac), .int fo, .int bl, .int lv, .int (nI vt)]))] s.heap.size = A at hD hZ ⊢
  have hA : ∀ q : Nat, s.heap.size ≤ q → A q := fun q h => by rw [← hAe]; exact Or.inr h
  have hS : va_S A s.heap s.heap [] := va_S.rf
  have hl := lv_entry ([.ref h0]) (n := 1) (Nat.le_of_ble_eq_true rfl)
  rw [lg_entry_eq]
  generalize (lg_sl ([.ref h0]) ++ List.replicate (1 - (lg_sl ([.ref h0])).length) Slot.unset).toArray = ls at hl ⊢
  have hl : lv_has ls 1 [(0, .ref h0)] := hl
  have SF : CallFix p m c cS_proved 1 s ([.ref h0] : List Value).toArray GG RS := ⟨hx, hb, hml, hown, hts⟩
  skip
  have hP : va_P (dC, dI) vwCl [(h0, .inr (1, [.ref h1, .ref h2, .ref aw, .ref aa, .int (nI nv), .int (nI nl), .int (nI nc), .int (nI wc), .int (nI ac), .int fo, .int bl, .int lv, .int (nI vt)]))] s.heap := hP
  refine lv_aload_n hx hb dS_proved_0 rfl (lv_at hl 0 rfl) ?_
  refine va_get (D := (dC, dI)) (ci := 1) (v := .int bl) (C := RS) (T := TS) (N := 13) hx hb hts lyS hown hK hP 0 rfl rfl 10 (by decide) (hts _ fl_S_79) (fun _ h9 => h9) rfl dS_proved_1 ?_
  refine lv_iconst (v := (-1)) hx hb dS_proved_4 (by decide) ?_
  refine lv_icmp_eq (tgt := 12) hx hb dS_proved_5 (by decide) (fun c1 => ?_) (fun c1 => ?_)
  · refine lv_iconst (v := 0) hx hb dS_proved_12 (by decide) ?_
    exact (W.zret (v := 0) hx hb hr (rfl) (fun t ht hW => ⟨⟨0, (), rfl, Or.inr ⟨rfl, c1⟩, by rw [ht]; exact hP, va_K.moved hW.alike hK, hD⟩, hS.F ht⟩) hS.2.2 dS_proved_13)
  · refine lv_iconst (v := 1) hx hb dS_proved_8 (by decide) ?_
    refine lv_goto (tgt := 13) hx hb dS_proved_9 (by decide) ?_
    exact (W.zret (v := 1) hx hb hr (rfl) (fun t ht hW => ⟨⟨1, (), rfl, Or.inl ⟨rfl, c1⟩, by rw [ht]; exact hP, va_K.moved hW.alike hK, hD⟩, hS.F ht⟩) hS.2.2 dS_proved_13)
set_option maxHeartbeats 4000000 in
set_option maxRecDepth 100000 in
theorem k_S_startAnew (l : Launch) (dC : Nat → ClassId) (dI : Nat → Nat → Nat) (tI sz : Nat) (h0 h1 w1 h2 aw aa : Nat) (cL : ClassId) (f : Nat → Int64) (x : Int32) (i4 i5 i6 i7 i8 i9 i10 i11 i12 : Int32) : Met l yS_startAnew (Cond.code yS_startAnew cS_startAnew 1 none :: GG) (lvr 1 0 0) (va_Pc [.ref h0] (wPre dC dI [(cL, .long)] [(h0, .inr (1, [.ref h1, .ref h2, .ref aw, .ref aa, .int i4, .int i5, .int i6, .int i7, .int i8, .int i9, .int i10, .int i11, .int i12])), (h1, .inr (0, [.ref w1, .int x])), (w1, .inl (cL, 1024, .inr (.inl f)))] sz tI)) (va_Qv (fun (u : Unit) => True) (fun u t => wB dC dI [(cL, .long)] (va_A [(h0, .inr (1, [.ref h1, .ref h2, .ref aw, .ref aa, .int i4, .int i5, .int i6, .int i7, .int i8, .int i9, .int i10, .int i11, .int i12])), (h1, .inr (0, [.ref w1, .int x])), (w1, .inl (cL, 1024, .inr (.inl f)))] sz) [(h0, .inr (1, [.ref h1, .ref h2, .ref aw, .ref aa, .int 0, .int 0, .int 0, .int 0, .int 0, .int 0, .int (-1), .int 0, .int 0])), (h1, .inr (0, [.ref w1, .int 1])), (w1, .inl (cL, 1024, .inr (.inl (vp_updL f 0 (-1)))))] t) (va_A [(h0, .inr (1, [.ref h1, .ref h2, .ref aw, .ref aa, .int i4, .int i5, .int i6, .int i7, .int i8, .int i9, .int i10, .int i11, .int i12])), (h1, .inr (0, [.ref w1, .int x])), (w1, .inl (cL, 1024, .inr (.inl f)))] sz)) 0 0 (va_A [(h0, .inr (1, [.ref h1, .ref h2, .ref aw, .ref aa, .int i4, .int i5, .int i6, .int i7, .int i8, .int i9, .int i10, .int i11, .int i12])), (h1, .inr (0, [.ref w1, .int x])), (w1, .inl (cL, 1024, .inr (.inl f)))] sz) := by
  refine Met.ofW (cc := cS_startAnew) (maxL := 1) (ret := none) (by decide) rfl ?_
  intro p e s m args below meth c s₁ B hml hv
  obtain ⟨rfl, hsz, hP, hK, hD0, hZ, hX⟩ := hv
  have hx := B.exec
  have hb := B.bytes
  have hr := B.returns
  have hts : ∀ w ∈ GG, w.before ([.ref h0] : List Value).toArray s = true := fun w h => atoms_spec (ws := _ :: GG) B.pre w (List.mem_cons_of_mem _ h)
  have hown : s.vm.findClass RS = some m.cls := findClass_of_methodNamed B.named
  have hlocks := B.notSynchronized
  subst hsz
  have hD := hD0.self (sz := s.heap.size)
  generalize hAe : va_A [(h0, .inr (1, [.ref h1, .ref h2, .ref aw, .ref aa, .int i4, .int i5, .int i6, .int i7, .int i8, .int i9, .int i10, .int i11, .int i12])), (h1, .inr (0, [.ref w1, .int x])), (w1, .inl (cL, 1024, .inr (.inl f)))] s.heap.size = A at hD hZ ⊢
  have hA : ∀ q : Nat, s.heap.size ≤ q → A q := fun q h => by rw [← hAe]; exact Or.inr h
  have hS : va_S A s.heap s.heap [] := va_S.rf
  have hl := lv_entry ([.ref h0]) (n := 1) (Nat.le_of_ble_eq_true rfl)
  rw [lg_entry_eq]
  generalize (lg_sl ([.ref h0]) ++ List.replicate (1 - (lg_sl ([.ref h0])).length) Slot.unset).toArray = ls at hl ⊢
  have hl : lv_has ls 1 [(0, .ref h0)] := hl
  have SF : CallFix p m c cS_startAnew 1 s ([.ref h0] : List Value).toArray GG RS := ⟨hx, hb, hml, hown, hts⟩
  skip
  have hP : va_P (dC, dI) vwCl [(h0, .inr (1, [.ref h1, .ref h2, .ref aw, .ref aa, .int i4, .int i5, .int i6, .int i7, .int i8, .int i9, .int i10, .int i11, .int i12])), (h1, .inr (0, [.ref w1, .int x])), (w1, .inl (cL, 1024, .inr (.inl f)))] s.heap := hP
  refine lv_aload_n hx hb dS_startAnew_0 rfl (lv_at hl 0 rfl) ?_
  refine va_get (D := (dC, dI)) (ci := 1) (v := .ref h1) (C := RS) (T := TS) (N := 13) hx hb hts lyS hown hK hP 0 rfl rfl 0 (by decide) (hts _ fl_S_10) (fun _ h9 => h9) rfl dS_startAnew_1 ?_
  have hFc := va_free (wc := [(h1, .inr (0, [.ref w1, .int x])), (w1, .inl (cL, 1024, .inr (.inl f)))]) hD hS hA [1, 2] rfl
  refine wc_v (wc_V (As := []) (rest := []) (n := 0) SF (k_R_holdAll l dC dI tI _ h1 w1 cL f x) ml_S_117 im_R_holdAll se_R_holdAll in_R co_R_holdAll (by decide +kernel) rfl rfl rfl ⟨Nat.le_of_ble_eq_true rfl, Nat.le_of_ble_eq_true rfl⟩ (va_recv (hK.sub (tys' := []) [] rfl) (hP.sub (ws' := [(h1, .inr (0, [.ref w1, .int x])), (w1, .inl (cL, 1024, .inr (.inl f)))]) [1, 2] rfl) (ci := 0) (q0 := 0) rfl rfl) (hP.sub [1, 2] rfl) (hD.sub [1, 2] (by decide) rfl) (hK.sub [0] rfl) hZ hX hS hFc rfl hl.1 (Nat.le_of_ble_eq_true rfl) dS_startAnew_4 ⟨Nat.le_of_ble_eq_true rfl, Nat.le_of_ble_eq_true rfl⟩) hP hD hS hFc [1, 2] [0] (wr := [(h0, .inr (1, [.ref h1, .ref h2, .ref aw, .ref aa, .int i4, .int i5, .int i6, .int i7, .int i8, .int i9, .int i10, .int i11, .int i12]))]) rfl rfl rfl (by decide) (fun uu H locs hw hP hD hS => ?_)
  have hP : va_P (dC, dI) vwCl [(h0, .inr (1, [.ref h1, .ref h2, .ref aw, .ref aa, .int i4, .int i5, .int i6, .int i7, .int i8, .int i9, .int i10, .int i11, .int i12])), (h1, .inr (0, [.ref w1, .int 1])), (w1, .inl (cL, 1024, .inr (.inl (vp_updL f 0 (-1)))))] H := hP.sub [0, 1, 2] rfl
  have hD : va_D A [(h0, .inr (1, [.ref h1, .ref h2, .ref aw, .ref aa, .int i4, .int i5, .int i6, .int i7, .int i8, .int i9, .int i10, .int i11, .int i12])), (h1, .inr (0, [.ref w1, .int 1])), (w1, .inl (cL, 1024, .inr (.inl (vp_updL f 0 (-1)))))] := hD.sub [0, 1, 2] (by decide) rfl
  refine lv_aload_n hx hb dS_startAnew_7 rfl (lv_at hl 0 rfl) ?_
  refine lv_iconst (v := 0) hx hb dS_startAnew_8 (by decide) ?_
  refine va_put (D := (dC, dI)) (ci := 1) (v := .int 0) (ty := .int) (C := RS) (T := TS) (N := 13) hx hb hts lyS tyS tyS_ok nmS hown hK hP hD hS 0 rfl rfl 4 (by decide) (hts _ fl_S_29) (fun _ h9 => h9) rfl (by decide +kernel) rfl rfl (Nat.le_of_ble_eq_true rfl) dS_startAnew_9 (fun H locs hP hD hS => ?_)
  have hP : va_P (dC, dI) vwCl [(h0, .inr (1, [.ref h1, .ref h2, .ref aw, .ref aa, .int 0, .int i5, .int i6, .int i7, .int i8, .int i9, .int i10, .int i11, .int i12])), (h1, .inr (0, [.ref w1, .int 1])), (w1, .inl (cL, 1024, .inr (.inl (vp_updL f 0 (-1)))))] H := hP
  have hD : va_D A [(h0, .inr (1, [.ref h1, .ref h2, .ref aw, .ref aa, .int 0, .int i5, .int i6, .int i7, .int i8, .int i9, .int i10, .int i11, .int i12])), (h1, .inr (0, [.ref w1, .int 1])), (w1, .inl (cL, 1024, .inr (.inl (vp_updL f 0 (-1)))))] := hD
  refine lv_aload_n hx hb dS_startAnew_12 rfl (lv_at hl 0 rfl) ?_
  refine lv_iconst (v := 0) hx hb dS_startAnew_13 (by decide) ?_
  refine va_put (D := (dC, dI)) (ci := 1) (v := .int 0) (ty := .int) (C := RS) (T := TS) (N := 13) hx hb hts lyS tyS tyS_ok nmS hown hK hP hD hS 0 rfl rfl 5 (by decide) (hts _ fl_S_52) (fun _ h9 => h9) rfl (by decide +kernel) rfl rfl (Nat.le_of_ble_eq_true rfl) dS_startAnew_14 (fun H locs hP hD hS => ?_)
  have hP : va_P (dC, dI) vwCl [(h0, .inr (1, [.ref h1, .ref h2, .ref aw, .ref aa, .int 0, .int 0, .int i6, .int i7, .int i8, .int i9, .int i10, .int i11, .int i12])), (h1, .inr (0, [.ref w1, .int 1])), (w1, .inl (cL, 1024, .inr (.inl (vp_updL f 0 (-1)))))] H := hP
  have hD : va_D A [(h0, .inr (1, [.ref h1, .ref h2, .ref aw, .ref aa, .int 0, .int 0, .int i6, .int i7, .int i8, .int i9, .int i10, .int i11, .int i12])), (h1, .inr (0, [.ref w1, .int 1])), (w1, .inl (cL, 1024, .inr (.inl (vp_updL f 0 (-1)))))] := hD
  refine lv_aload_n hx hb dS_startAnew_17 rfl (lv_at hl 0 rfl) ?_
  refine lv_iconst (v := 0) hx hb dS_startAnew_18 (by decide) ?_
  refine va_put (D := (dC, dI)) (ci := 1) (v := .int 0) (ty := .int) (C := RS) (T := TS) (N := 13) hx hb hts lyS tyS tyS_ok nmS hown hK hP hD hS 0 rfl rfl 6 (by decide) (hts _ fl_S_57) (fun _ h9 => h9) rfl (by decide +kernel) rfl rfl (Nat.le_of_ble_eq_true rfl) dS_startAnew_19 (fun H locs hP hD hS => ?_)
  have hP : va_P (dC, dI) vwCl [(h0, .inr (1, [.ref h1, .ref h2, .ref aw, .ref aa, .int 0, .int 0, .int 0, .int i7, .int i8, .int i9, .int i10, .int i11, .int i12])), (h1, .inr (0, [.ref w1, .int 1])), (w1, .inl (cL, 1024, .inr (.inl (vp_updL f 0 (-1)))))] H := hP
  have hD : va_D A [(h0, .inr (1, [.ref h1, .ref h2, .ref aw, .ref aa, .int 0, .int 0, .int 0, .int i7, .int i8, .int i9, .int i10, .int i11, .int i12])), (h1, .inr (0, [.ref w1, .int 1])), (w1, .inl (cL, 1024, .inr (.inl (vp_updL f 0 (-1)))))] := hD
  refine lv_aload_n hx hb dS_startAnew_22 rfl (lv_at hl 0 rfl) ?_
  refine lv_iconst (v := 0) hx hb dS_startAnew_23 (by decide) ?_
  refine va_put (D := (dC, dI)) (ci := 1) (v := .int 0) (ty := .int) (C := RS) (T := TS) (N := 13) hx hb hts lyS tyS tyS_ok nmS hown hK hP hD hS 0 rfl rfl 7 (by decide) (hts _ fl_S_47) (fun _ h9 => h9) rfl (by decide +kernel) rfl rfl (Nat.le_of_ble_eq_true rfl) dS_startAnew_24 (fun H locs hP hD hS => ?_)
  have hP : va_P (dC, dI) vwCl [(h0, .inr (1, [.ref h1, .ref h2, .ref aw, .ref aa, .int 0, .int 0, .int 0, .int 0, .int i8, .int i9, .int i10, .int i11, .int i12])), (h1, .inr (0, [.ref w1, .int 1])), (w1, .inl (cL, 1024, .inr (.inl (vp_updL f 0 (-1)))))] H := hP
  have hD : va_D A [(h0, .inr (1, [.ref h1, .ref h2, .ref aw, .ref aa, .int 0, .int 0, .int 0, .int 0, .int i8, .int i9, .int i10, .int i11, .int i12])), (h1, .inr (0, [.ref w1, .int 1])), (w1, .inl (cL, 1024, .inr (.inl (vp_updL f 0 (-1)))))] := hD
  refine lv_aload_n hx hb dS_startAnew_27 rfl (lv_at hl 0 rfl) ?_
  refine lv_iconst (v := 0) hx hb dS_startAnew_28 (by decide) ?_
  refine va_put (D := (dC, dI)) (ci := 1) (v := .int 0) (ty := .int) (C := RS) (T := TS) (N := 13) hx hb hts lyS tyS tyS_ok nmS hown hK hP hD hS 0 rfl rfl 8 (by decide) (hts _ fl_S_66) (fun _ h9 => h9) rfl (by decide +kernel) rfl rfl (Nat.le_of_ble_eq_true rfl) dS_startAnew_29 (fun H locs hP hD hS => ?_)
  have hP : va_P (dC, dI) vwCl [(h0, .inr (1, [.ref h1, .ref h2, .ref aw, .ref aa, .int 0, .int 0, .int 0, .int 0, .int 0, .int i9, .int i10, .int i11, .int i12])), (h1, .inr (0, [.ref w1, .int 1])), (w1, .inl (cL, 1024, .inr (.inl (vp_updL f 0 (-1)))))] H := hP
  have hD : va_D A [(h0, .inr (1, [.ref h1, .ref h2, .ref aw, .ref aa, .int 0, .int 0, .int 0, .int 0, .int 0, .int i9, .int i10, .int i11, .int i12])), (h1, .inr (0, [.ref w1, .int 1])), (w1, .inl (cL, 1024, .inr (.inl (vp_updL f 0 (-1)))))] := hD
  refine lv_aload_n hx hb dS_startAnew_32 rfl (lv_at hl 0 rfl) ?_
  refine lv_iconst (v := 0) hx hb dS_startAnew_33 (by decide) ?_
  refine va_put (D := (dC, dI)) (ci := 1) (v := .int 0) (ty := .boolean) (C := RS) (T := TS) (N := 13) hx hb hts lyS tyS tyS_ok nmS hown hK hP hD hS 0 rfl rfl 9 (by decide) (hts _ fl_S_82) (fun _ h9 => h9) rfl (by decide +kernel) rfl rfl (Nat.le_of_ble_eq_true rfl) dS_startAnew_34 (fun H locs hP hD hS => ?_)
  have hP : va_P (dC, dI) vwCl [(h0, .inr (1, [.ref h1, .ref h2, .ref aw, .ref aa, .int 0, .int 0, .int 0, .int 0, .int 0, .int 0, .int i10, .int i11, .int i12])), (h1, .inr (0, [.ref w1, .int 1])), (w1, .inl (cL, 1024, .inr (.inl (vp_updL f 0 (-1)))))] H := hP
  have hD : va_D A [(h0, .inr (1, [.ref h1, .ref h2, .ref aw, .ref aa, .int 0, .int 0, .int 0, .int 0, .int 0, .int 0, .int i10, .int i11, .int i12])), (h1, .inr (0, [.ref w1, .int 1])), (w1, .inl (cL, 1024, .inr (.inl (vp_updL f 0 (-1)))))] := hD
  refine lv_aload_n hx hb dS_startAnew_37 rfl (lv_at hl 0 rfl) ?_
  refine lv_iconst (v := (-1)) hx hb dS_startAnew_38 (by decide) ?_
  refine va_put (D := (dC, dI)) (ci := 1) (v := .int (-1)) (ty := .int) (C := RS) (T := TS) (N := 13) hx hb hts lyS tyS tyS_ok nmS hown hK hP hD hS 0 rfl rfl 10 (by decide) (hts _ fl_S_79) (fun _ h9 => h9) rfl (by decide +kernel) rfl rfl (Nat.le_of_ble_eq_true rfl) dS_startAnew_39 (fun H locs hP hD hS => ?_)
  have hP : va_P (dC, dI) vwCl [(h0, .inr (1, [.ref h1, .ref h2, .ref aw, .ref aa, .int 0, .int 0, .int 0, .int 0, .int 0, .int 0, .int (-1), .int i11, .int i12])), (h1, .inr (0, [.ref w1, .int 1])), (w1, .inl (cL, 1024, .inr (.inl (vp_updL f 0 (-1)))))] H := hP
  have hD : va_D A [(h0, .inr (1, [.ref h1, .ref h2, .ref aw, .ref aa, .int 0, .int 0, .int 0, .int 0, .int 0, .int 0, .int (-1), .int i11, .int i12])), (h1, .inr (0, [.ref w1, .int 1])), (w1, .inl (cL, 1024, .inr (.inl (vp_updL f 0 (-1)))))] := hD
  refine lv_aload_n hx hb dS_startAnew_42 rfl (lv_at hl 0 rfl) ?_
  refine lv_iconst (v := 0) hx hb dS_startAnew_43 (by decide) ?_
  refine va_put (D := (dC, dI)) (ci := 1) (v := .int 0) (ty := .int) (C := RS) (T := TS) (N := 13) hx hb hts lyS tyS tyS_ok nmS hown hK hP hD hS 0 rfl rfl 11 (by decide) (hts _ fl_S_89) (fun _ h9 => h9) rfl (by decide +kernel) rfl rfl (Nat.le_of_ble_eq_true rfl) dS_startAnew_44 (fun H locs hP hD hS => ?_)
  have hP : va_P (dC, dI) vwCl [(h0, .inr (1, [.ref h1, .ref h2, .ref aw, .ref aa, .int 0, .int 0, .int 0, .int 0, .int 0, .int 0, .int (-1), .int 0, .int i12])), (h1, .inr (0, [.ref w1, .int 1])), (w1, .inl (cL, 1024, .inr (.inl (vp_updL f 0 (-1)))))] H := hP
  have hD : va_D A [(h0, .inr (1, [.ref h1, .ref h2, .ref aw, .ref aa, .int 0, .int 0, .int 0, .int 0, .int 0, .int 0, .int (-1), .int 0, .int i12])), (h1, .inr (0, [.ref w1, .int 1])), (w1, .inl (cL, 1024, .inr (.inl (vp_updL f 0 (-1)))))] := hD
  refine lv_aload_n hx hb dS_startAnew_47 rfl (lv_at hl 0 rfl) ?_
  refine lv_iconst (v := 0) hx hb dS_startAnew_48 (by decide) ?_
  refine va_put (D := (dC, dI)) (ci := 1) (v := .int 0) (ty := .int) (C := RS) (T := TS) (N := 13) hx hb hts lyS tyS tyS_ok nmS hown hK hP hD hS 0 rfl rfl 12 (by decide) (hts _ fl_S_92) (fun _ h9 => h9) rfl (by decide +kernel) rfl rfl (Nat.le_of_ble_eq_true rfl) dS_startAnew_49 (fun H locs hP hD hS => ?_)
  have hP : va_P (dC, dI) vwCl [(h0, .inr (1, [.ref h1, .ref h2, .ref aw, .ref aa, .int 0, .int 0, .int 0, .int 0, .int 0, .int 0, .int (-1), .int 0, .int 0])), (h1, .inr (0, [.ref w1, .int 1])), (w1, .inl (cL, 1024, .inr (.inl (vp_updL f 0 (-1)))))] H := hP
  have hD : va_D A [(h0, .inr (1, [.ref h1, .ref h2, .ref aw, .ref aa, .int 0, .int 0, .int 0, .int 0, .int 0, .int 0, .int (-1), .int 0, .int 0])), (h1, .inr (0, [.ref w1, .int 1])), (w1, .inl (cL, 1024, .inr (.inl (vp_updL f 0 (-1)))))] := hD
  exact (W.vret hx hb hr (fun t ht hW => ⟨⟨(), rfl, trivial, by rw [ht]; exact hP, va_K.moved hW.alike hK, hD⟩, hS.F ht⟩) hS.2.2 dS_startAnew_52)
set_option maxHeartbeats 4000000 in
set_option maxRecDepth 100000 in
theorem k_S_clear (l : Launch) (dC : Nat → ClassId) (dI : Nat → Nat → Nat) (tI sz : Nat) (h0 h1 w1 h2 aw aa : Nat) (cL : ClassId) (f : Nat → Int64) (x : Int32) (i4 i5 i6 i7 i8 i9 i10 i11 i12 : Int32) : Met l yS_clear (Cond.code yS_clear cS_clear 1 none :: GG) (lvr 2 0 0) (va_Pc [.ref h0] (wPre dC dI [(cL, .long)] [(h0, .inr (1, [.ref h1, .ref h2, .ref aw, .ref aa, .int i4, .int i5, .int i6, .int i7, .int i8, .int i9, .int i10, .int i11, .int i12])), (h1, .inr (0, [.ref w1, .int x])), (w1, .inl (cL, 1024, .inr (.inl f)))] sz tI)) (va_Qv (fun (u : Unit) => True) (fun u t => wB dC dI [(cL, .long)] (va_A [(h0, .inr (1, [.ref h1, .ref h2, .ref aw, .ref aa, .int i4, .int i5, .int i6, .int i7, .int i8, .int i9, .int i10, .int i11, .int i12])), (h1, .inr (0, [.ref w1, .int x])), (w1, .inl (cL, 1024, .inr (.inl f)))] sz) [(h0, .inr (1, [.ref h1, .ref h2, .ref aw, .ref aa, .int 0, .int 0, .int 0, .int 0, .int 0, .int 0, .int (-1), .int 0, .int 0])), (h1, .inr (0, [.ref w1, .int 1])), (w1, .inl (cL, 1024, .inr (.inl (vp_updL f 0 (-1)))))] t) (va_A [(h0, .inr (1, [.ref h1, .ref h2, .ref aw, .ref aa, .int i4, .int i5, .int i6, .int i7, .int i8, .int i9, .int i10, .int i11, .int i12])), (h1, .inr (0, [.ref w1, .int x])), (w1, .inl (cL, 1024, .inr (.inl f)))] sz)) 0 0 (va_A [(h0, .inr (1, [.ref h1, .ref h2, .ref aw, .ref aa, .int i4, .int i5, .int i6, .int i7, .int i8, .int i9, .int i10, .int i11, .int i12])), (h1, .inr (0, [.ref w1, .int x])), (w1, .inl (cL, 1024, .inr (.inl f)))] sz) := by
  refine Met.ofW (cc := cS_clear) (maxL := 1) (ret := none) (by decide) rfl ?_
  intro p e s m args below meth c s₁ B hml hv
  obtain ⟨rfl, hsz, hP, hK, hD0, hZ, hX⟩ := hv
  have hx := B.exec
  have hb := B.bytes
  have hr := B.returns
  have hts : ∀ w ∈ GG, w.before ([.ref h0] : List Value).toArray s = true := fun w h => atoms_spec (ws := _ :: GG) B.pre w (List.mem_cons_of_mem _ h)
  have hown : s.vm.findClass RS = some m.cls := findClass_of_methodNamed B.named
  have hlocks := B.notSynchronized
  subst hsz
  have hD := hD0.self (sz := s.heap.size)
  generalize hAe : va_A [(h0, .inr (1, [.ref h1, .ref h2, .ref aw, .ref aa, .int i4, .int i5, .int i6, .int i7, .int i8, .int i9, .int i10, .int i11, .int i12])), (h1, .inr (0, [.ref w1, .int x])), (w1, .inl (cL, 1024, .inr (.inl f)))] s.heap.size = A at hD hZ ⊢
  have hA : ∀ q : Nat, s.heap.size ≤ q → A q := fun q h => by rw [← hAe]; exact Or.inr h
  have hS : va_S A s.heap s.heap [] := va_S.rf
  have hl := lv_entry ([.ref h0]) (n := 1) (Nat.le_of_ble_eq_true rfl)
  rw [lg_entry_eq]
  generalize (lg_sl ([.ref h0]) ++ List.replicate (1 - (lg_sl ([.ref h0])).length) Slot.unset).toArray = ls at hl ⊢
  have hl : lv_has ls 1 [(0, .ref h0)] := hl
  have SF : CallFix p m c cS_clear 1 s ([.ref h0] : List Value).toArray GG RS := ⟨hx, hb, hml, hown, hts⟩
  skip
  have hP : va_P (dC, dI) vwCl [(h0, .inr (1, [.ref h1, .ref h2, .ref aw, .ref aa, .int i4, .int i5, .int i6, .int i7, .int i8, .int i9, .int i10, .int i11, .int i12])), (h1, .inr (0, [.ref w1, .int x])), (w1, .inl (cL, 1024, .inr (.inl f)))] s.heap := hP
  refine lv_aload_n hx hb dS_clear_0 rfl (lv_at hl 0 rfl) ?_
  have hFc := va_free (wc := [(h0, .inr (1, [.ref h1, .ref h2, .ref aw, .ref aa, .int i4, .int i5, .int i6, .int i7, .int i8, .int i9, .int i10, .int i11, .int i12])), (h1, .inr (0, [.ref w1, .int x])), (w1, .inl (cL, 1024, .inr (.inl f)))]) hD hS hA [0, 1, 2] rfl
  refine wc_v (wc_V (As := []) (rest := []) (n := 0) SF (k_S_startAnew l dC dI tI _ h0 h1 w1 h2 aw aa cL f x i4 i5 i6 i7 i8 i9 i10 i11 i12) ml_S_26 im_S_startAnew se_S_startAnew in_S co_S_startAnew (by decide +kernel) rfl rfl rfl ⟨Nat.le_of_ble_eq_true rfl, Nat.le_of_ble_eq_true rfl⟩ (va_recv (hK.sub (tys' := []) [] rfl) (hP.sub (ws' := [(h0, .inr (1, [.ref h1, .ref h2, .ref aw, .ref aa, .int i4, .int i5, .int i6, .int i7, .int i8, .int i9, .int i10, .int i11, .int i12])), (h1, .inr (0, [.ref w1, .int x])), (w1, .inl (cL, 1024, .inr (.inl f)))]) [0, 1, 2] rfl) (ci := 1) (q0 := 0) rfl rfl) (hP.sub [0, 1, 2] rfl) (hD.sub [0, 1, 2] (by decide) rfl) (hK.sub [0] rfl) hZ hX hS hFc rfl hl.1 (Nat.le_of_ble_eq_true rfl) dS_clear_1 ⟨Nat.le_of_ble_eq_true rfl, Nat.le_of_ble_eq_true rfl⟩) hP hD hS hFc [0, 1, 2] [] (wr := []) rfl rfl rfl (by decide) (fun uu H locs hw hP hD hS => ?_)
  have hP : va_P (dC, dI) vwCl [(h0, .inr (1, [.ref h1, .ref h2, .ref aw, .ref aa, .int 0, .int 0, .int 0, .int 0, .int 0, .int 0, .int (-1), .int 0, .int 0])), (h1, .inr (0, [.ref w1, .int 1])), (w1, .inl (cL, 1024, .inr (.inl (vp_updL f 0 (-1)))))] H := hP.sub [0, 1, 2] rfl
  have hD : va_D A [(h0, .inr (1, [.ref h1, .ref h2, .ref aw, .ref aa, .int 0, .int 0, .int 0, .int 0, .int 0, .int 0, .int (-1), .int 0, .int 0])), (h1, .inr (0, [.ref w1, .int 1])), (w1, .inl (cL, 1024, .inr (.inl (vp_updL f 0 (-1)))))] := hD.sub [0, 1, 2] (by decide) rfl
  exact (W.vret hx hb hr (fun t ht hW => ⟨⟨(), rfl, trivial, by rw [ht]; exact hP, va_K.moved hW.alike hK, hD⟩, hS.F ht⟩) hS.2.2 dS_clear_4)
set_option maxHeartbeats 4000000 in
set_option maxRecDepth 100000 in
theorem k_S_init (l : Launch) (dC : Nat → ClassId) (dI : Nat → Nat → Nat) (tI sz : Nat) (h0 : Nat) : Met l yS_init (Cond.code yS_init cS_init 1 none :: GG) (lvr 2 6 2156) (va_Pc [.ref h0] (wPre dC dI [] [(h0, .inr (1, [.null, .null, .null, .null, .int 0, .int 0, .int 0, .int 0, .int 0, .int 0, .int 0, .int 0, .int 0]))] sz tI)) (va_Qv (fun (u : Nat × Nat × Nat × Nat × Nat × Nat × ClassId × ClassId × ClassId × ClassId) => True) (fun u t => wB dC dI [(u.2.2.2.2.2.2.1, .long), (u.2.2.2.2.2.2.2.1, .long), (u.2.2.2.2.2.2.2.2.1, .int), (u.2.2.2.2.2.2.2.2.2, .int)] (va_A [(h0, .inr (1, [.null, .null, .null, .null, .int 0, .int 0, .int 0, .int 0, .int 0, .int 0, .int 0, .int 0, .int 0]))] sz) [(h0, .inr (1, [.ref u.1, .ref u.2.2.1, .ref u.2.2.2.2.1, .ref u.2.2.2.2.2.1, .int 0, .int 0, .int 0, .int 0, .int 0, .int 0, .int (-1), .int 0, .int 0])), (u.1, .inr (0, [.ref u.2.1, .int 1])), (u.2.1, .inl (u.2.2.2.2.2.2.1, 1024, .inr (.inl (vp_updL (fun _ => 0) 0 (-1))))), (u.2.2.1, .inr (0, [.ref u.2.2.2.1, .int 0])), (u.2.2.2.1, .inl (u.2.2.2.2.2.2.2.1, 1024, .inr (.inl (fun _ => 0)))), (u.2.2.2.2.1, .inl (u.2.2.2.2.2.2.2.2.1, 40, .inl (fun _ => 0))), (u.2.2.2.2.2.1, .inl (u.2.2.2.2.2.2.2.2.2, 64, .inl (fun _ => 0)))] t) (va_A [(h0, .inr (1, [.null, .null, .null, .null, .int 0, .int 0, .int 0, .int 0, .int 0, .int 0, .int 0, .int 0, .int 0]))] sz)) 6 2156 (va_A [(h0, .inr (1, [.null, .null, .null, .null, .int 0, .int 0, .int 0, .int 0, .int 0, .int 0, .int 0, .int 0, .int 0]))] sz) := by
  refine Met.ofW (cc := cS_init) (maxL := 1) (ret := none) (by decide) rfl ?_
  intro p e s m args below meth c s₁ B hml hv
  obtain ⟨rfl, hsz, hP, hK, hD0, hZ, hX⟩ := hv
  have hx := B.exec
  have hb := B.bytes
  have hr := B.returns
  have hts : ∀ w ∈ GG, w.before ([.ref h0] : List Value).toArray s = true := fun w h => atoms_spec (ws := _ :: GG) B.pre w (List.mem_cons_of_mem _ h)
  have hown : s.vm.findClass RS = some m.cls := findClass_of_methodNamed B.named
  have hlocks := B.notSynchronized
  have hin : meth.name = "<init>" := (name_of_methodNamed B.named B.method).1
  subst hsz
  have hD := hD0.self (sz := s.heap.size)
  generalize hAe : va_A [(h0, .inr (1, [.null, .null, .null, .null, .int 0, .int 0, .int 0, .int 0, .int 0, .int 0, .int 0, .int 0, .int 0]))] s.heap.size = A at hD hZ ⊢
  have hA : ∀ q : Nat, s.heap.size ≤ q → A q := fun q h => by rw [← hAe]; exact Or.inr h
  have hS : va_S A s.heap s.heap [] := va_S.rf
  have hl := lv_entry ([.ref h0]) (n := 1) (Nat.le_of_ble_eq_true rfl)
  rw [lg_entry_eq]
  generalize (lg_sl ([.ref h0]) ++ List.replicate (1 - (lg_sl ([.ref h0])).length) Slot.unset).toArray = ls at hl ⊢
  have hl : lv_has ls 1 [(0, .ref h0)] := hl
  have SF : CallFix p m c cS_init 1 s ([.ref h0] : List Value).toArray GG RS := ⟨hx, hb, hml, hown, hts⟩
  skip
  have hP : va_P (dC, dI) vwCl [(h0, .inr (1, [.null, .null, .null, .null, .int 0, .int 0, .int 0, .int 0, .int 0, .int 0, .int 0, .int 0, .int 0]))] s.heap := hP
  refine lv_aload_n hx hb dS_init_0 rfl (lv_at hl 0 rfl) ?_
  refine W.objInit hx hb hown (hts _ ml_S_1) (hts _ im_object) (hts _ co_object) rfl (by rw [hml]; exact hl.1) rfl dS_init_1 (Nat.le_of_ble_eq_true rfl) (Nat.le_of_ble_eq_true rfl) ?_
  refine W.eq (g2 := F0 m 4 ls []) rfl ?_
  refine lv_aload_n hx hb dS_init_4 rfl (lv_at hl 0 rfl) ?_
  refine va_new (ci := 0) (fs := [.null, .int 0]) (C := RR) (T := TR) (N := 2) hx hb hts lyR tyR tyR_ok hown (hts _ cl_S_7) (hts _ it_R) (hts _ in_R) hK hP hD hS hA rfl (fun j hj => by rcases (show j = 0 ∨ j = 1 by omega) with rfl | rfl <;> rfl) (Nat.le_of_ble_eq_true rfl) (Nat.le_of_ble_eq_true rfl) dS_init_5 (fun q1 H hP hD hS => ?_)
  have hP : va_P (dC, dI) vwCl [(h0, .inr (1, [.null, .null, .null, .null, .int 0, .int 0, .int 0, .int 0, .int 0, .int 0, .int 0, .int 0, .int 0])), (q1, .inr (0, [.null, .int 0]))] H := hP
  have hD : va_D A [(h0, .inr (1, [.null, .null, .null, .null, .int 0, .int 0, .int 0, .int 0, .int 0, .int 0, .int 0, .int 0, .int 0])), (q1, .inr (0, [.null, .int 0]))] := hD
  refine lv_dup hx hb dS_init_8 rfl ?_
  have hFc := va_free (wc := [(q1, .inr (0, [.null, .int 0]))]) hD hS hA [1] rfl
  refine wc_vK (wc_I (As := []) (rest := [.ref q1, .ref h0]) (n := 0) SF (k_R_init l dC dI tI _ q1) ml_S_9 im_R_init in_R co_R_init rfl (by decide +kernel) rfl rfl rfl ⟨Nat.le_of_ble_eq_true rfl, Nat.le_of_ble_eq_true rfl⟩ (hP.sub [1] rfl) (hD.sub [1] (by decide) rfl) (hK.sub [] rfl) hZ hX hS hFc rfl hl.1 (Nat.le_of_ble_eq_true rfl) dS_init_9 ⟨Nat.le_of_ble_eq_true rfl, Nat.le_of_ble_eq_true rfl⟩) hP hD hS hFc [1] [0] (wr := [(h0, .inr (1, [.null, .null, .null, .null, .int 0, .int 0, .int 0, .int 0, .int 0, .int 0, .int 0, .int 0, .int 0]))]) rfl rfl rfl (by decide) (fun uu H locs hw hP hD hS hK1 => ?_)
  have hK : va_K (dC, dI) vwCl [(uu.2, .long)] s := hK.app hK1
  have hP : va_P (dC, dI) vwCl [(h0, .inr (1, [.null, .null, .null, .null, .int 0, .int 0, .int 0, .int 0, .int 0, .int 0, .int 0, .int 0, .int 0])), (q1, .inr (0, [.ref uu.1, .int 0])), (uu.1, .inl (uu.2, 1024, .inr (.inl (fun _ => 0))))] H := hP.sub [0, 1, 2] rfl
  have hD : va_D A [(h0, .inr (1, [.null, .null, .null, .null, .int 0, .int 0, .int 0, .int 0, .int 0, .int 0, .int 0, .int 0, .int 0])), (q1, .inr (0, [.ref uu.1, .int 0])), (uu.1, .inl (uu.2, 1024, .inr (.inl (fun _ => 0))))] := hD.sub [0, 1, 2] (by decide) rfl
  refine va_putF (D := (dC, dI)) (ci := 1) (v := .ref q1) (ty := .object "LearningSolver$Rows") (C := RS) (T := TS) (N := 13) hx hb hts lyS tyS tyS_ok nmS hown hK hP hD hS 0 rfl rfl 0 (by decide) (hts _ fl_S_10) (fun _ h9 => h9) rfl hin rfl (by decide +kernel) rfl rfl (Nat.le_of_ble_eq_true rfl) dS_init_12 (fun H locs hP hD hS => ?_)
  have hP : va_P (dC, dI) vwCl [(h0, .inr (1, [.ref q1, .null, .null, .null, .int 0, .int 0, .int 0, .int 0, .int 0, .int 0, .int 0, .int 0, .int 0])), (q1, .inr (0, [.ref uu.1, .int 0])), (uu.1, .inl (uu.2, 1024, .inr (.inl (fun _ => 0))))] H := hP
  have hD : va_D A [(h0, .inr (1, [.ref q1, .null, .null, .null, .int 0, .int 0, .int 0, .int 0, .int 0, .int 0, .int 0, .int 0, .int 0])), (q1, .inr (0, [.ref uu.1, .int 0])), (uu.1, .inl (uu.2, 1024, .inr (.inl (fun _ => 0))))] := hD
  refine lv_aload_n hx hb dS_init_15 rfl (lv_at hl 0 rfl) ?_
  refine va_new (ci := 0) (fs := [.null, .int 0]) (C := RR) (T := TR) (N := 2) hx hb hts lyR tyR tyR_ok hown (hts _ cl_S_7) (hts _ it_R) (hts _ in_R) hK hP hD hS hA rfl (fun j hj => by rcases (show j = 0 ∨ j = 1 by omega) with rfl | rfl <;> rfl) (Nat.le_of_ble_eq_true rfl) (Nat.le_of_ble_eq_true rfl) dS_init_16 (fun q2 H hP hD hS => ?_)
  have hP : va_P (dC, dI) vwCl [(h0, .inr (1, [.ref q1, .null, .null, .null, .int 0, .int 0, .int 0, .int 0, .int 0, .int 0, .int 0, .int 0, .int 0])), (q1, .inr (0, [.ref uu.1, .int 0])), (uu.1, .inl (uu.2, 1024, .inr (.inl (fun _ => 0)))), (q2, .inr (0, [.null, .int 0]))] H := hP
  have hD : va_D A [(h0, .inr (1, [.ref q1, .null, .null, .null, .int 0, .int 0, .int 0, .int 0, .int 0, .int 0, .int 0, .int 0, .int 0])), (q1, .inr (0, [.ref uu.1, .int 0])), (uu.1, .inl (uu.2, 1024, .inr (.inl (fun _ => 0)))), (q2, .inr (0, [.null, .int 0]))] := hD
  refine lv_dup hx hb dS_init_19 rfl ?_
  have hFc := va_free (wc := [(q2, .inr (0, [.null, .int 0]))]) hD hS hA [3] rfl
  refine wc_vK (wc_I (As := []) (rest := [.ref q2, .ref h0]) (n := 0) SF (k_R_init l dC dI tI _ q2) ml_S_9 im_R_init in_R co_R_init rfl (by decide +kernel) rfl rfl rfl ⟨Nat.le_of_ble_eq_true rfl, Nat.le_of_ble_eq_true rfl⟩ (hP.sub [3] rfl) (hD.sub [3] (by decide) rfl) (hK.sub [] rfl) hZ hX hS hFc rfl hl.1 (Nat.le_of_ble_eq_true rfl) dS_init_20 ⟨Nat.le_of_ble_eq_true rfl, Nat.le_of_ble_eq_true rfl⟩) hP hD hS hFc [3] [0, 1, 2] (wr := [(h0, .inr (1, [.ref q1, .null, .null, .null, .int 0, .int 0, .int 0, .int 0, .int 0, .int 0, .int 0, .int 0, .int 0])), (q1, .inr (0, [.ref uu.1, .int 0])), (uu.1, .inl (uu.2, 1024, .inr (.inl (fun _ => 0))))]) rfl rfl rfl (by decide) (fun vv H locs hw hP hD hS hK1 => ?_)
  have hK : va_K (dC, dI) vwCl [(uu.2, .long), (vv.2, .long)] s := hK.app hK1
  have hP : va_P (dC, dI) vwCl [(h0, .inr (1, [.ref q1, .null, .null, .null, .int 0, .int 0, .int 0, .int 0, .int 0, .int 0, .int 0, .int 0, .int 0])), (q1, .inr (0, [.ref uu.1, .int 0])), (uu.1, .inl (uu.2, 1024, .inr (.inl (fun _ => 0)))), (q2, .inr (0, [.ref vv.1, .int 0])), (vv.1, .inl (vv.2, 1024, .inr (.inl (fun _ => 0))))] H := hP.sub [0, 1, 2, 3, 4] rfl
  have hD : va_D A [(h0, .inr (1, [.ref q1, .null, .null, .null, .int 0, .int 0, .int 0, .int 0, .int 0, .int 0, .int 0, .int 0, .int 0])), (q1, .inr (0, [.ref uu.1, .int 0])), (uu.1, .inl (uu.2, 1024, .inr (.inl (fun _ => 0)))), (q2, .inr (0, [.ref vv.1, .int 0])), (vv.1, .inl (vv.2, 1024, .inr (.inl (fun _ => 0))))] := hD.sub [0, 1, 2, 3, 4] (by decide) rfl
  refine va_putF (D := (dC, dI)) (ci := 1) (v := .ref q2) (ty := .object "LearningSolver$Rows") (C := RS) (T := TS) (N := 13) hx hb hts lyS tyS tyS_ok nmS hown hK hP hD hS 0 rfl rfl 1 (by decide) (hts _ fl_S_16) (fun _ h9 => h9) rfl hin rfl (by decide +kernel) rfl rfl (Nat.le_of_ble_eq_true rfl) dS_init_23 (fun H locs hP hD hS => ?_)
  have hP : va_P (dC, dI) vwCl [(h0, .inr (1, [.ref q1, .ref q2, .null, .null, .int 0, .int 0, .int 0, .int 0, .int 0, .int 0, .int 0, .int 0, .int 0])), (q1, .inr (0, [.ref uu.1, .int 0])), (uu.1, .inl (uu.2, 1024, .inr (.inl (fun _ => 0)))), (q2, .inr (0, [.ref vv.1, .int 0])), (vv.1, .inl (vv.2, 1024, .inr (.inl (fun _ => 0))))] H := hP
  have hD : va_D A [(h0, .inr (1, [.ref q1, .ref q2, .null, .null, .int 0, .int 0, .int 0, .int 0, .int 0, .int 0, .int 0, .int 0, .int 0])), (q1, .inr (0, [.ref uu.1, .int 0])), (uu.1, .inl (uu.2, 1024, .inr (.inl (fun _ => 0)))), (q2, .inr (0, [.ref vv.1, .int 0])), (vv.1, .inl (vv.2, 1024, .inr (.inl (fun _ => 0))))] := hD
  refine lv_aload_n hx hb dS_init_26 rfl (lv_at hl 0 rfl) ?_
  refine lv_bipush (v := 40) hx hb dS_init_27 (by decide) ?_
  refine va_newa (atype := .int) (a0 := (40, .inl (fun _ => 0))) hx hb (hts _ ac_int) rfl hK hP hD hS hA (fun _ => rfl) (by decide) rfl (by decide) (Nat.le_of_ble_eq_true rfl) (Nat.le_of_ble_eq_true rfl) dS_init_29 (fun q3 cI H hK hP hD hS => ?_)
  have hP : va_P (dC, dI) vwCl [(h0, .inr (1, [.ref q1, .ref q2, .null, .null, .int 0, .int 0, .int 0, .int 0, .int 0, .int 0, .int 0, .int 0, .int 0])), (q1, .inr (0, [.ref uu.1, .int 0])), (uu.1, .inl (uu.2, 1024, .inr (.inl (fun _ => 0)))), (q2, .inr (0, [.ref vv.1, .int 0])), (vv.1, .inl (vv.2, 1024, .inr (.inl (fun _ => 0)))), (q3, .inl (cI, 40, .inl (fun _ => 0)))] H := hP
  have hD : va_D A [(h0, .inr (1, [.ref q1, .ref q2, .null, .null, .int 0, .int 0, .int 0, .int 0, .int 0, .int 0, .int 0, .int 0, .int 0])), (q1, .inr (0, [.ref uu.1, .int 0])), (uu.1, .inl (uu.2, 1024, .inr (.inl (fun _ => 0)))), (q2, .inr (0, [.ref vv.1, .int 0])), (vv.1, .inl (vv.2, 1024, .inr (.inl (fun _ => 0)))), (q3, .inl (cI, 40, .inl (fun _ => 0)))] := hD
  have hK : va_K (dC, dI) vwCl [(uu.2, .long), (vv.2, .long), (cI, .int)] s := hK
  refine va_putF (D := (dC, dI)) (ci := 1) (v := .ref q3) (ty := .array .int) (C := RS) (T := TS) (N := 13) hx hb hts lyS tyS tyS_ok nmS hown hK hP hD hS 0 rfl rfl 2 (by decide) (hts _ fl_S_19) (fun _ h9 => h9) rfl hin rfl (by decide +kernel) rfl rfl (Nat.le_of_ble_eq_true rfl) dS_init_31 (fun H locs hP hD hS => ?_)
  have hP : va_P (dC, dI) vwCl [(h0, .inr (1, [.ref q1, .ref q2, .ref q3, .null, .int 0, .int 0, .int 0, .int 0, .int 0, .int 0, .int 0, .int 0, .int 0])), (q1, .inr (0, [.ref uu.1, .int 0])), (uu.1, .inl (uu.2, 1024, .inr (.inl (fun _ => 0)))), (q2, .inr (0, [.ref vv.1, .int 0])), (vv.1, .inl (vv.2, 1024, .inr (.inl (fun _ => 0)))), (q3, .inl (cI, 40, .inl (fun _ => 0)))] H := hP
  have hD : va_D A [(h0, .inr (1, [.ref q1, .ref q2, .ref q3, .null, .int 0, .int 0, .int 0, .int 0, .int 0, .int 0, .int 0, .int 0, .int 0])), (q1, .inr (0, [.ref uu.1, .int 0])), (uu.1, .inl (uu.2, 1024, .inr (.inl (fun _ => 0)))), (q2, .inr (0, [.ref vv.1, .int 0])), (vv.1, .inl (vv.2, 1024, .inr (.inl (fun _ => 0)))), (q3, .inl (cI, 40, .inl (fun _ => 0)))] := hD
  refine lv_aload_n hx hb dS_init_34 rfl (lv_at hl 0 rfl) ?_
  refine lv_bipush (v := 64) hx hb dS_init_35 (by decide) ?_
  refine va_newa (atype := .int) (a0 := (64, .inl (fun _ => 0))) hx hb (hts _ ac_int) rfl hK hP hD hS hA (fun _ => rfl) (by decide) rfl (by decide) (Nat.le_of_ble_eq_true rfl) (Nat.le_of_ble_eq_true rfl) dS_init_37 (fun q4 cJ H hK hP hD hS => ?_)
  have hP : va_P (dC, dI) vwCl [(h0, .inr (1, [.ref q1, .ref q2, .ref q3, .null, .int 0, .int 0, .int 0, .int 0, .int 0, .int 0, .int 0, .int 0, .int 0])), (q1, .inr (0, [.ref uu.1, .int 0])), (uu.1, .inl (uu.2, 1024, .inr (.inl (fun _ => 0)))), (q2, .inr (0, [.ref vv.1, .int 0])), (vv.1, .inl (vv.2, 1024, .inr (.inl (fun _ => 0)))), (q3, .inl (cI, 40, .inl (fun _ => 0))), (q4, .inl (cJ, 64, .inl (fun _ => 0)))] H := hP
  have hD : va_D A [(h0, .inr (1, [.ref q1, .ref q2, .ref q3, .null, .int 0, .int 0, .int 0, .int 0, .int 0, .int 0, .int 0, .int 0, .int 0])), (q1, .inr (0, [.ref uu.1, .int 0])), (uu.1, .inl (uu.2, 1024, .inr (.inl (fun _ => 0)))), (q2, .inr (0, [.ref vv.1, .int 0])), (vv.1, .inl (vv.2, 1024, .inr (.inl (fun _ => 0)))), (q3, .inl (cI, 40, .inl (fun _ => 0))), (q4, .inl (cJ, 64, .inl (fun _ => 0)))] := hD
  have hK : va_K (dC, dI) vwCl [(uu.2, .long), (vv.2, .long), (cI, .int), (cJ, .int)] s := hK
  refine va_putF (D := (dC, dI)) (ci := 1) (v := .ref q4) (ty := .array .int) (C := RS) (T := TS) (N := 13) hx hb hts lyS tyS tyS_ok nmS hown hK hP hD hS 0 rfl rfl 3 (by decide) (hts _ fl_S_23) (fun _ h9 => h9) rfl hin rfl (by decide +kernel) rfl rfl (Nat.le_of_ble_eq_true rfl) dS_init_39 (fun H locs hP hD hS => ?_)
  have hP : va_P (dC, dI) vwCl [(h0, .inr (1, [.ref q1, .ref q2, .ref q3, .ref q4, .int 0, .int 0, .int 0, .int 0, .int 0, .int 0, .int 0, .int 0, .int 0])), (q1, .inr (0, [.ref uu.1, .int 0])), (uu.1, .inl (uu.2, 1024, .inr (.inl (fun _ => 0)))), (q2, .inr (0, [.ref vv.1, .int 0])), (vv.1, .inl (vv.2, 1024, .inr (.inl (fun _ => 0)))), (q3, .inl (cI, 40, .inl (fun _ => 0))), (q4, .inl (cJ, 64, .inl (fun _ => 0)))] H := hP
  have hD : va_D A [(h0, .inr (1, [.ref q1, .ref q2, .ref q3, .ref q4, .int 0, .int 0, .int 0, .int 0, .int 0, .int 0, .int 0, .int 0, .int 0])), (q1, .inr (0, [.ref uu.1, .int 0])), (uu.1, .inl (uu.2, 1024, .inr (.inl (fun _ => 0)))), (q2, .inr (0, [.ref vv.1, .int 0])), (vv.1, .inl (vv.2, 1024, .inr (.inl (fun _ => 0)))), (q3, .inl (cI, 40, .inl (fun _ => 0))), (q4, .inl (cJ, 64, .inl (fun _ => 0)))] := hD
  refine lv_aload_n hx hb dS_init_42 rfl (lv_at hl 0 rfl) ?_
  have hFc := va_free (wc := [(h0, .inr (1, [.ref q1, .ref q2, .ref q3, .ref q4, .int 0, .int 0, .int 0, .int 0, .int 0, .int 0, .int 0, .int 0, .int 0])), (q1, .inr (0, [.ref uu.1, .int 0])), (uu.1, .inl (uu.2, 1024, .inr (.inl (fun _ => 0))))]) hD hS hA [0, 1, 2] rfl
  refine wc_v (wc_V (As := []) (rest := []) (n := 0) SF (k_S_startAnew l dC dI tI _ h0 q1 uu.1 q2 q3 q4 uu.2 (fun _ => 0) 0 0 0 0 0 0 0 0 0 0) ml_S_26 im_S_startAnew se_S_startAnew in_S co_S_startAnew (by decide +kernel) rfl rfl rfl ⟨Nat.le_of_ble_eq_true rfl, Nat.le_of_ble_eq_true rfl⟩ (va_recv (hK.sub (tys' := []) [] rfl) (hP.sub (ws' := [(h0, .inr (1, [.ref q1, .ref q2, .ref q3, .ref q4, .int 0, .int 0, .int 0, .int 0, .int 0, .int 0, .int 0, .int 0, .int 0])), (q1, .inr (0, [.ref uu.1, .int 0])), (uu.1, .inl (uu.2, 1024, .inr (.inl (fun _ => 0))))]) [0, 1, 2] rfl) (ci := 1) (q0 := 0) rfl rfl) (hP.sub [0, 1, 2] rfl) (hD.sub [0, 1, 2] (by decide) rfl) (hK.sub [0] rfl) hZ hX hS hFc rfl hl.1 (Nat.le_of_ble_eq_true rfl) dS_init_43 ⟨Nat.le_of_ble_eq_true rfl, Nat.le_of_ble_eq_true rfl⟩) hP hD hS hFc [0, 1, 2] [3, 4, 5, 6] (wr := [(q2, .inr (0, [.ref vv.1, .int 0])), (vv.1, .inl (vv.2, 1024, .inr (.inl (fun _ => 0)))), (q3, .inl (cI, 40, .inl (fun _ => 0))), (q4, .inl (cJ, 64, .inl (fun _ => 0)))]) rfl rfl rfl (by decide) (fun xx H locs hw hP hD hS => ?_)
  have hP : va_P (dC, dI) vwCl [(h0, .inr (1, [.ref q1, .ref q2, .ref q3, .ref q4, .int 0, .int 0, .int 0, .int 0, .int 0, .int 0, .int (-1), .int 0, .int 0])), (q1, .inr (0, [.ref uu.1, .int 1])), (uu.1, .inl (uu.2, 1024, .inr (.inl (vp_updL (fun _ => 0) 0 (-1))))), (q2, .inr (0, [.ref vv.1, .int 0])), (vv.1, .inl (vv.2, 1024, .inr (.inl (fun _ => 0)))), (q3, .inl (cI, 40, .inl (fun _ => 0))), (q4, .inl (cJ, 64, .inl (fun _ => 0)))] H := hP.sub [4, 5, 6, 0, 1, 2, 3] rfl
  have hD : va_D A [(h0, .inr (1, [.ref q1, .ref q2, .ref q3, .ref q4, .int 0, .int 0, .int 0, .int 0, .int 0, .int 0, .int (-1), .int 0, .int 0])), (q1, .inr (0, [.ref uu.1, .int 1])), (uu.1, .inl (uu.2, 1024, .inr (.inl (vp_updL (fun _ => 0) 0 (-1))))), (q2, .inr (0, [.ref vv.1, .int 0])), (vv.1, .inl (vv.2, 1024, .inr (.inl (fun _ => 0)))), (q3, .inl (cI, 40, .inl (fun _ => 0))), (q4, .inl (cJ, 64, .inl (fun _ => 0)))] := hD.sub [4, 5, 6, 0, 1, 2, 3] (by decide) rfl
  refine W.widen (k := 6) (n := 2156) (Nat.le_of_ble_eq_true rfl) (Nat.le_of_ble_eq_true rfl) ?_
  exact (W.vret hx hb hr (fun t ht hW => ⟨⟨(q1, uu.1, q2, vv.1, q3, q4, uu.2, vv.2, cI, cJ), rfl, trivial, by rw [ht]; exact hP, va_K.moved hW.alike hK, hD⟩, hS.F ht⟩) hS.2.2 dS_init_46)
set_option maxHeartbeats 4000000 in
set_option maxRecDepth 100000 in
theorem k_S_narrow (l : Launch) (dC : Nat → ClassId) (dI : Nat → Nat → Nat) (tI sz : Nat) (h0 h1 h2 w2 aw aa : Nat) (cM cJ : ClassId) (f : Nat → Int64) (af : Nat → Int32) (an : Nat → Nat) (U : Nat) (hU : U ≤ 1024) (nv nl nc wc ac vt : Nat) (fo bl lv : Int32) (hac : ac ≤ 64) (hn1 : ∀ j, j < ac → af j = nI (an j) ∧ an j < 32) : Met l yS_narrowToAssumptions (Cond.code yS_narrowToAssumptions cS_narrowToAssumptions 2 (some .int) :: GG) (lvr 4 0 0) (va_Pc [.ref h0] (wPre dC dI [(cM, .long), (cJ, .int)] [(h0, .inr (1, [.ref h1, .ref h2, .ref aw, .ref aa, .int (nI nv), .int (nI nl), .int (nI nc), .int (nI wc), .int (nI ac), .int fo, .int bl, .int lv, .int (nI vt)])), (h2, .inr (0, [.ref w2, .int (nI U)])), (w2, .inl (cM, 1024, .inr (.inl f))), (aa, .inl (cJ, 64, .inl af))] sz tI)) (va_Qi (fun (r : Int32) (u : Nat → Int64) => na_P f an ac U r ∧ (r = -1 → ∀ k, k < U → u k = na_F f an k ac)) (fun u t => wB dC dI [(cM, .long), (cJ, .int)] (va_A [(h0, .inr (1, [.ref h1, .ref h2, .ref aw, .ref aa, .int (nI nv), .int (nI nl), .int (nI nc), .int (nI wc), .int (nI ac), .int fo, .int bl, .int lv, .int (nI vt)])), (h2, .inr (0, [.ref w2, .int (nI U)])), (w2, .inl (cM, 1024, .inr (.inl f))), (aa, .inl (cJ, 64, .inl af))] sz) [(h0, .inr (1, [.ref h1, .ref h2, .ref aw, .ref aa, .int (nI nv), .int (nI nl), .int (nI nc), .int (nI wc), .int (nI ac), .int fo, .int bl, .int lv, .int (nI vt)])), (h2, .inr (0, [.ref w2, .int (nI U)])), (w2, .inl (cM, 1024, .inr (.inl u))), (aa, .inl (cJ, 64, .inl af))] t) (va_A [(h0, .inr (1, [.ref h1, .ref h2, .ref aw, .ref aa, .int (nI nv), .int (nI nl), .int (nI nc), .int (nI wc), .int (nI ac), .int fo, .int bl, .int lv, .int (nI vt)])), (h2, .inr (0, [.ref w2, .int (nI U)])), (w2, .inl (cM, 1024, .inr (.inl f))), (aa, .inl (cJ, 64, .inl af))] sz)) 0 0 (va_A [(h0, .inr (1, [.ref h1, .ref h2, .ref aw, .ref aa, .int (nI nv), .int (nI nl), .int (nI nc), .int (nI wc), .int (nI ac), .int fo, .int bl, .int lv, .int (nI vt)])), (h2, .inr (0, [.ref w2, .int (nI U)])), (w2, .inl (cM, 1024, .inr (.inl f))), (aa, .inl (cJ, 64, .inl af))] sz) := by
  refine Met.ofW (cc := cS_narrowToAssumptions) (maxL := 2) (ret := (some .int)) (by decide) rfl ?_
  intro p e s m args below meth c s₁ B hml hv
  obtain ⟨rfl, hsz, hP, hK, hD0, hZ, hX⟩ := hv
  have hx := B.exec
  have hb := B.bytes
  have hr := B.returns
  have hts : ∀ w ∈ GG, w.before ([.ref h0] : List Value).toArray s = true := fun w h => atoms_spec (ws := _ :: GG) B.pre w (List.mem_cons_of_mem _ h)
  have hown : s.vm.findClass RS = some m.cls := findClass_of_methodNamed B.named
  have hlocks := B.notSynchronized
  subst hsz
  have hD := hD0.self (sz := s.heap.size)
  generalize hAe : va_A [(h0, .inr (1, [.ref h1, .ref h2, .ref aw, .ref aa, .int (nI nv), .int (nI nl), .int (nI nc), .int (nI wc), .int (nI ac), .int fo, .int bl, .int lv, .int (nI vt)])), (h2, .inr (0, [.ref w2, .int (nI U)])), (w2, .inl (cM, 1024, .inr (.inl f))), (aa, .inl (cJ, 64, .inl af))] s.heap.size = A at hD hZ ⊢
  have hA : ∀ q : Nat, s.heap.size ≤ q → A q := fun q h => by rw [← hAe]; exact Or.inr h
  have hS : va_S A s.heap s.heap [] := va_S.rf
  have hl := lv_entry ([.ref h0]) (n := 2) (Nat.le_of_ble_eq_true rfl)
  rw [lg_entry_eq]
  generalize (lg_sl ([.ref h0]) ++ List.replicate (2 - (lg_sl ([.ref h0])).length) Slot.unset).toArray = ls at hl ⊢
  have hl : lv_has ls 2 [(0, .ref h0)] := hl
  have SF : CallFix p m c cS_narrowToAssumptions 2 s ([.ref h0] : List Value).toArray GG RS := ⟨hx, hb, hml, hown, hts⟩
  skip
  have hP : va_P (dC, dI) vwCl [(h0, .inr (1, [.ref h1, .ref h2, .ref aw, .ref aa, .int (nI nv), .int (nI nl), .int (nI nc), .int (nI wc), .int (nI ac), .int fo, .int bl, .int lv, .int (nI vt)])), (h2, .inr (0, [.ref w2, .int (nI U)])), (w2, .inl (cM, 1024, .inr (.inl f))), (aa, .inl (cJ, 64, .inl af))] s.heap := hP
  refine lv_aload_n hx hb dS_narrowToAssumptions_0 rfl (lv_at hl 0 rfl) ?_
  refine va_get (D := (dC, dI)) (ci := 1) (v := .ref h2) (C := RS) (T := TS) (N := 13) hx hb hts lyS hown hK hP 0 rfl rfl 1 (by decide) (hts _ fl_S_16) (fun _ h9 => h9) rfl dS_narrowToAssumptions_1 ?_
  refine lv_iconst (v := 0) hx hb dS_narrowToAssumptions_4 (by decide) ?_
  refine lv_iconst (v := 1) hx hb dS_narrowToAssumptions_5 (by decide) ?_
  refine lv_ldc2 (v := (-1)) hx hb hown (hts _ cj_S_122) dS_narrowToAssumptions_6 ?_
  have hFc := va_free (wc := [(h2, .inr (0, [.ref w2, .int (nI U)])), (w2, .inl (cM, 1024, .inr (.inl f)))]) hD hS hA [1, 2] rfl
  refine wc_i (wc_V (As := [.int 0, .int 1, .long (-1)]) (rest := []) (n := 3) SF (k_R_anyIn l dC dI tI _ h2 w2 cM f U hU 0 1 (-1) (by decide) (by decide) (by decide)) ml_S_124 im_R_anyIn se_R_anyIn in_R co_R_anyIn (by decide +kernel) rfl rfl rfl ⟨Nat.le_of_ble_eq_true rfl, Nat.le_of_ble_eq_true rfl⟩ (va_recv (hK.sub (tys' := []) [] rfl) (hP.sub (ws' := [(h2, .inr (0, [.ref w2, .int (nI U)])), (w2, .inl (cM, 1024, .inr (.inl f)))]) [1, 2] rfl) (ci := 0) (q0 := 0) rfl rfl) (hP.sub [1, 2] rfl) (hD.sub [1, 2] (by decide) rfl) (hK.sub [0] rfl) hZ hX hS hFc rfl hl.1 (Nat.le_of_ble_eq_true rfl) dS_narrowToAssumptions_9 ⟨Nat.le_of_ble_eq_true rfl, Nat.le_of_ble_eq_true rfl⟩) hP hD hS hFc [1, 2] [0, 3] (wr := [(h0, .inr (1, [.ref h1, .ref h2, .ref aw, .ref aa, .int (nI nv), .int (nI nl), .int (nI nc), .int (nI wc), .int (nI ac), .int fo, .int bl, .int lv, .int (nI vt)])), (aa, .inl (cJ, 64, .inl af))]) rfl rfl rfl (by decide) (fun z uu H locs hw hP hD hS => ?_)
  have hP : va_P (dC, dI) vwCl [(h0, .inr (1, [.ref h1, .ref h2, .ref aw, .ref aa, .int (nI nv), .int (nI nl), .int (nI nc), .int (nI wc), .int (nI ac), .int fo, .int bl, .int lv, .int (nI vt)])), (h2, .inr (0, [.ref w2, .int (nI U)])), (w2, .inl (cM, 1024, .inr (.inl f))), (aa, .inl (cJ, 64, .inl af))] H := hP.sub [0, 2, 3, 1] rfl
  have hD : va_D A [(h0, .inr (1, [.ref h1, .ref h2, .ref aw, .ref aa, .int (nI nv), .int (nI nl), .int (nI nc), .int (nI wc), .int (nI ac), .int fo, .int bl, .int lv, .int (nI vt)])), (h2, .inr (0, [.ref w2, .int (nI U)])), (w2, .inl (cM, 1024, .inr (.inl f))), (aa, .inl (cJ, 64, .inl af))] := hD.sub [0, 2, 3, 1] (by decide) rfl
  refine lv_if_ne (tgt := 17) hx hb dS_narrowToAssumptions_12 (by decide) (fun c1 => ?_) (fun c1 => ?_)
  · have hs : ∃ k, k < U ∧ f k ≠ 0 := by
      rcases hw with ⟨_, k, h3, h4⟩ | ⟨q, _⟩
      · exact ⟨0 + 1 * k, h3, by rw [ax_am1] at h4; exact h4⟩
      · exact absurd q c1
    refine lv_iconst (v := 0) hx hb dS_narrowToAssumptions_17 (by decide) ?_
    refine lv_istore_n (lv' := [(1, .int 0), (0, .ref h0)]) hx hb dS_narrowToAssumptions_18 rfl hl (by decide) rfl (fun ls hl => ?_)
    refine lp_mu (α := Nat × (Nat → Int64)) (fun a_ => match a_ with | (i, g) => ac - i) (fun a_ H locs ls => match a_ with | (i, g) => (i ≤ ac ∧ (∀ k, k < U → g k = na_F f an k i) ∧ ∃ k, k < U ∧ na_F f an k i ≠ 0) ∧ va_P (dC, dI) vwCl [(h0, .inr (1, [.ref h1, .ref h2, .ref aw, .ref aa, .int (nI nv), .int (nI nl), .int (nI nc), .int (nI wc), .int (nI ac), .int fo, .int bl, .int lv, .int (nI vt)])), (h2, .inr (0, [.ref w2, .int (nI U)])), (w2, .inl (cM, 1024, .inr (.inl g))), (aa, .inl (cJ, 64, .inl af))] H ∧ va_D A [(h0, .inr (1, [.ref h1, .ref h2, .ref aw, .ref aa, .int (nI nv), .int (nI nl), .int (nI nc), .int (nI wc), .int (nI ac), .int fo, .int bl, .int lv, .int (nI vt)])), (h2, .inr (0, [.ref w2, .int (nI U)])), (w2, .inl (cM, 1024, .inr (.inl g))), (aa, .inl (cJ, 64, .inl af))] ∧ va_S A s.heap H locs ∧ lv_has ls 2 [(0, .ref h0), (1, .int (nI i))]) ?_ (0, f) ⟨⟨Nat.zero_le _, fun _ _ => rfl, hs⟩, hP, hD, hS, lv_sub hl [1, 0] rfl⟩
    intro a_ H locs ls hI ih
    obtain ⟨i, g⟩ := a_
    obtain ⟨hI, hP, hD, hS, hl⟩ := hI
    have hI : i ≤ ac ∧ (∀ k, k < U → g k = na_F f an k i) ∧ ∃ k, k < U ∧ na_F f an k i ≠ 0 := hI
    have hP : va_P (dC, dI) vwCl [(h0, .inr (1, [.ref h1, .ref h2, .ref aw, .ref aa, .int (nI nv), .int (nI nl), .int (nI nc), .int (nI wc), .int (nI ac), .int fo, .int bl, .int lv, .int (nI vt)])), (h2, .inr (0, [.ref w2, .int (nI U)])), (w2, .inl (cM, 1024, .inr (.inl g))), (aa, .inl (cJ, 64, .inl af))] H := hP
    have hD : va_D A [(h0, .inr (1, [.ref h1, .ref h2, .ref aw, .ref aa, .int (nI nv), .int (nI nl), .int (nI nc), .int (nI wc), .int (nI ac), .int fo, .int bl, .int lv, .int (nI vt)])), (h2, .inr (0, [.ref w2, .int (nI U)])), (w2, .inl (cM, 1024, .inr (.inl g))), (aa, .inl (cJ, 64, .inl af))] := hD
    have hl : lv_has ls 2 [(0, .ref h0), (1, .int (nI i))] := hl
    obtain ⟨hi, hg, hn⟩ := hI
    refine lv_iload_n hx hb dS_narrowToAssumptions_19 rfl (lv_at hl 1 rfl) ?_
    refine lv_aload_n hx hb dS_narrowToAssumptions_20 rfl (lv_at hl 0 rfl) ?_
    refine va_get (D := (dC, dI)) (ci := 1) (v := .int (nI ac)) (C := RS) (T := TS) (N := 13) hx hb hts lyS hown hK hP 0 rfl rfl 8 (by decide) (hts _ fl_S_66) (fun _ h9 => h9) rfl dS_narrowToAssumptions_21 ?_
    refine lv_icmp_ge (tgt := 62) hx hb dS_narrowToAssumptions_24 (by decide) (fun c2 => ?_) (fun c2 => ?_)
    · have c2 : ac ≤ i := (nI_leI (a := ac) (b := i) (by omega) (by omega)).mp c2
      refine lv_iconst (v := (-1)) hx hb dS_narrowToAssumptions_62 (by decide) ?_
      exact (W.iret (v := (-1)) hx hb hr (fun t ht hW => ⟨⟨(-1), g, rfl, ⟨Or.inr (Or.inr ⟨rfl, by rw [show ac = i by omega]; exact hn⟩), fun _ k hk => by rw [show ac = i by omega]; exact hg k hk⟩, by rw [ht]; exact hP, va_K.moved hW.alike hK, hD⟩, hS.F ht⟩) hS.2.2 dS_narrowToAssumptions_63)
    · have c2 : i < ac := Nat.lt_of_not_le (fun q => c2 ((nI_leI (a := ac) (b := i) (by omega) (by omega)).mpr q))
      refine lv_iload_n hx hb dS_narrowToAssumptions_27 rfl (lv_at hl 1 rfl) ?_
      refine lv_aload_n hx hb dS_narrowToAssumptions_28 rfl (lv_at hl 0 rfl) ?_
      refine va_get (D := (dC, dI)) (ci := 1) (v := .ref aa) (C := RS) (T := TS) (N := 13) hx hb hts lyS hown hK hP 0 rfl rfl 3 (by decide) (hts _ fl_S_23) (fun _ h9 => h9) rfl dS_narrowToAssumptions_29 ?_
      refine va_alen (v := 64) hx hb hK hP 3 1 rfl rfl rfl dS_narrowToAssumptions_32 ?_
      refine lv_icmp_ge (tgt := 62) hx hb dS_narrowToAssumptions_33 (by decide) (fun c3 => ?_) (fun c3 => ?_)
      · have c3 : 64 ≤ i := (nI_leI (a := 64) (b := i) (by omega) (by omega)).mp c3
        exact absurd c3 (by omega)
      · have c3 : i < 64 := Nat.lt_of_not_le (fun q => c3 ((nI_leI (a := 64) (b := i) (by omega) (by omega)).mpr q))
        refine lv_aload_n hx hb dS_narrowToAssumptions_36 rfl (lv_at hl 0 rfl) ?_
        refine va_get (D := (dC, dI)) (ci := 1) (v := .ref h2) (C := RS) (T := TS) (N := 13) hx hb hts lyS hown hK hP 0 rfl rfl 1 (by decide) (hts _ fl_S_16) (fun _ h9 => h9) rfl dS_narrowToAssumptions_37 ?_
        refine lv_aload_n hx hb dS_narrowToAssumptions_40 rfl (lv_at hl 0 rfl) ?_
        refine va_get (D := (dC, dI)) (ci := 1) (v := .ref aa) (C := RS) (T := TS) (N := 13) hx hb hts lyS hown hK hP 0 rfl rfl 3 (by decide) (hts _ fl_S_23) (fun _ h9 => h9) rfl dS_narrowToAssumptions_41 ?_
        refine lv_iload_n hx hb dS_narrowToAssumptions_44 rfl (lv_at hl 1 rfl) ?_
        refine va_iald hx hb hK hP 3 1 rfl rfl (vp_in_nI (by omega) (by decide)) dS_narrowToAssumptions_45 ?_
        refine ls_topi (y := nI (an i)) (by rw [nI_clamp (by omega)]; exact (hn1 i c2).1) ?_
        have hFc := va_free (wc := [(h2, .inr (0, [.ref w2, .int (nI U)])), (w2, .inl (cM, 1024, .inr (.inl g)))]) hD hS hA [1, 2] rfl
        refine wc_i (wc_V (As := [.int (nI (an i))]) (rest := []) (n := 1) SF (k_R_keepWith l dC dI tI _ h2 w2 cM g U hU (an i) (hn1 i c2).2) ml_S_128 im_R_keepWith se_R_keepWith in_R co_R_keepWith (by decide +kernel) rfl rfl rfl ⟨Nat.le_of_ble_eq_true rfl, Nat.le_of_ble_eq_true rfl⟩ (va_recv (hK.sub (tys' := []) [] rfl) (hP.sub (ws' := [(h2, .inr (0, [.ref w2, .int (nI U)])), (w2, .inl (cM, 1024, .inr (.inl g)))]) [1, 2] rfl) (ci := 0) (q0 := 0) rfl rfl) (hP.sub [1, 2] rfl) (hD.sub [1, 2] (by decide) rfl) (hK.sub [0] rfl) hZ hX hS hFc rfl hl.1 (Nat.le_of_ble_eq_true rfl) dS_narrowToAssumptions_46 ⟨Nat.le_of_ble_eq_true rfl, Nat.le_of_ble_eq_true rfl⟩) hP hD hS hFc [1, 2] [0, 3] (wr := [(h0, .inr (1, [.ref h1, .ref h2, .ref aw, .ref aa, .int (nI nv), .int (nI nl), .int (nI nc), .int (nI wc), .int (nI ac), .int fo, .int bl, .int lv, .int (nI vt)])), (aa, .inl (cJ, 64, .inl af))]) rfl rfl rfl (by decide) (fun z gg H locs hw hP hD hS => ?_)
        have hP : va_P (dC, dI) vwCl [(h0, .inr (1, [.ref h1, .ref h2, .ref aw, .ref aa, .int (nI nv), .int (nI nl), .int (nI nc), .int (nI wc), .int (nI ac), .int fo, .int bl, .int lv, .int (nI vt)])), (h2, .inr (0, [.ref w2, .int (nI U)])), (w2, .inl (cM, 1024, .inr (.inl gg))), (aa, .inl (cJ, 64, .inl af))] H := hP.sub [0, 2, 3, 1] rfl
        have hD : va_D A [(h0, .inr (1, [.ref h1, .ref h2, .ref aw, .ref aa, .int (nI nv), .int (nI nl), .int (nI nc), .int (nI wc), .int (nI ac), .int fo, .int bl, .int lv, .int (nI vt)])), (h2, .inr (0, [.ref w2, .int (nI U)])), (w2, .inl (cM, 1024, .inr (.inl gg))), (aa, .inl (cJ, 64, .inl af))] := hD.sub [0, 2, 3, 1] (by decide) rfl
        have hg2 : ∀ k, k < U → gg k = na_F f an k (i + 1) := fun k hk => by rw [hw.1 k hk, hg k hk]; rfl
        refine lv_if_ne (tgt := 56) hx hb dS_narrowToAssumptions_49 (by decide) (fun c4 => ?_) (fun c4 => ?_)
        · have hs2 : ∃ k, k < U ∧ na_F f an k (i + 1) ≠ 0 := by
            rcases hw.2 with ⟨_, k, h3, h4⟩ | ⟨q, _⟩
            · exact ⟨k, h3, by rw [← hg2 k h3]; exact h4⟩
            · exact absurd q c4
          refine lv_iinc (v := nI (i + 1)) (lv' := [(1, .int (nI (i + 1))), (0, .ref h0)]) hx hb dS_narrowToAssumptions_56 hl (k := 1) rfl (nI_1 _) (by decide) rfl (fun ls hl => ?_)
          refine lv_goto (tgt := 19) hx hb dS_narrowToAssumptions_59 (by decide) ?_
          exact ih (i + 1, gg) _ _ _ (by show ac - (i + 1) < ac - i; omega) ⟨⟨c2, hg2, hs2⟩, hP, hD, hS, lv_sub hl [1, 0] rfl⟩
        · have hz2 : ∀ k, k < U → na_F f an k (i + 1) = 0 := by
            rcases hw.2 with ⟨q, _⟩ | ⟨_, q⟩
            · rw [q] at c4; exact absurd c4 (by decide)
            · exact fun k hk => by rw [← hg2 k hk]; exact q k hk
          refine lv_iload_n hx hb dS_narrowToAssumptions_52 rfl (lv_at hl 1 rfl) ?_
          refine lv_iconst (v := 1) hx hb dS_narrowToAssumptions_53 (by decide) ?_
          refine lv_iadd hx hb dS_narrowToAssumptions_54 ?_
          refine ls_topi (y := nI (i + 1)) (nI_1 _) ?_
          exact (W.iret (v := nI (i + 1)) hx hb hr (fun t ht hW => ⟨⟨nI (i + 1), gg, rfl, ⟨Or.inr (Or.inl ⟨i, c2, rfl, hn, hz2⟩), fun q => absurd q (ax_nm1 (by omega))⟩, by rw [ht]; exact hP, va_K.moved hW.alike hK, hD⟩, hS.F ht⟩) hS.2.2 dS_narrowToAssumptions_55)
  · have hz : ∀ k, k < U → f k = 0 := by
      rcases hw with ⟨q, _⟩ | ⟨_, q⟩
      · rw [q] at c1; exact absurd c1 (by decide)
      · intro k hk; have q2 := q k (by omega); rw [ax_am1, Nat.zero_add, Nat.one_mul] at q2; exact q2
    refine lv_iconst (v := 0) hx hb dS_narrowToAssumptions_15 (by decide) ?_
    exact (W.iret (v := 0) hx hb hr (fun t ht hW => ⟨⟨0, f, rfl, ⟨Or.inl ⟨rfl, hz⟩, fun q => absurd q (by decide)⟩, by rw [ht]; exact hP, va_K.moved hW.alike hK, hD⟩, hS.F ht⟩) hS.2.2 dS_narrowToAssumptions_16)
set_option maxHeartbeats 4000000 in
set_option maxRecDepth 100000 in
theorem k_S_solve (l : Launch) (dC : Nat → ClassId) (dI : Nat → Nat → Nat) (tI sz : Nat) (h0 h1 w1 h2 w2 aw aa : Nat) (cL cM cJ : ClassId) (f g : Nat → Int64) (af : Nat → Int32) (an : Nat → Nat) (y : Int32) (U n : Nat) (hU : U ≤ 1024) (hn : U = 2 ^ n) (hnn : n ≤ 10) (nv nl nc wc ac vt : Nat) (fo bl lv : Int32) (hac : ac ≤ 64) (hn1 : ∀ j, j < ac → af j = nI (an j) ∧ an j < 32) : Met l yS_solve (Cond.code yS_solve cS_solve 1 (some .boolean) :: GG) (lvr 5 0 0) (va_Pc [.ref h0] (wPre dC dI [(cL, .long), (cM, .long), (cJ, .int)] [(h0, .inr (1, [.ref h1, .ref h2, .ref aw, .ref aa, .int (nI nv), .int (nI nl), .int (nI nc), .int (nI wc), .int (nI ac), .int fo, .int bl, .int lv, .int (nI vt)])), (h1, .inr (0, [.ref w1, .int (nI U)])), (w1, .inl (cL, 1024, .inr (.inl f))), (h2, .inr (0, [.ref w2, .int y])), (w2, .inl (cM, 1024, .inr (.inl g))), (aa, .inl (cJ, 64, .inl af))] sz tI)) (va_Qi (fun (r : Int32) (u : (Nat → Int64) × Int32 × Int32 × Int32) => na_P f an ac U u.2.1 ∧ (u.2.1 = -1 → r = 1 ∧ ∃ q, u.2.2.1 = nI q ∧ lr_L (fun k => na_F f an k ac) n q) ∧ (¬ u.2.1 = -1 → r = 0 ∧ u.2.2.1 = 0) ∧ r = u.2.2.2) (fun u t => wB dC dI [(cL, .long), (cM, .long), (cJ, .int)] (va_A [(h0, .inr (1, [.ref h1, .ref h2, .ref aw, .ref aa, .int (nI nv), .int (nI nl), .int (nI nc), .int (nI wc), .int (nI ac), .int fo, .int bl, .int lv, .int (nI vt)])), (h1, .inr (0, [.ref w1, .int (nI U)])), (w1, .inl (cL, 1024, .inr (.inl f))), (h2, .inr (0, [.ref w2, .int y])), (w2, .inl (cM, 1024, .inr (.inl g))), (aa, .inl (cJ, 64, .inl af))] sz) [(h0, .inr (1, [.ref h1, .ref h2, .ref aw, .ref aa, .int (nI nv), .int (nI nl), .int (nI nc), .int (nI wc), .int 0, .int u.2.2.2, .int u.2.1, .int u.2.2.1, .int (nI nv)])), (h1, .inr (0, [.ref w1, .int (nI U)])), (w1, .inl (cL, 1024, .inr (.inl f))), (h2, .inr (0, [.ref w2, .int (nI U)])), (w2, .inl (cM, 1024, .inr (.inl u.1))), (aa, .inl (cJ, 64, .inl af))] t) (va_A [(h0, .inr (1, [.ref h1, .ref h2, .ref aw, .ref aa, .int (nI nv), .int (nI nl), .int (nI nc), .int (nI wc), .int (nI ac), .int fo, .int bl, .int lv, .int (nI vt)])), (h1, .inr (0, [.ref w1, .int (nI U)])), (w1, .inl (cL, 1024, .inr (.inl f))), (h2, .inr (0, [.ref w2, .int y])), (w2, .inl (cM, 1024, .inr (.inl g))), (aa, .inl (cJ, 64, .inl af))] sz)) 0 0 (va_A [(h0, .inr (1, [.ref h1, .ref h2, .ref aw, .ref aa, .int (nI nv), .int (nI nl), .int (nI nc), .int (nI wc), .int (nI ac), .int fo, .int bl, .int lv, .int (nI vt)])), (h1, .inr (0, [.ref w1, .int (nI U)])), (w1, .inl (cL, 1024, .inr (.inl f))), (h2, .inr (0, [.ref w2, .int y])), (w2, .inl (cM, 1024, .inr (.inl g))), (aa, .inl (cJ, 64, .inl af))] sz) := by
  refine Met.ofW (cc := cS_solve) (maxL := 1) (ret := (some .boolean)) (by decide) rfl ?_
  intro p e s m args below meth c s₁ B hml hv
  obtain ⟨rfl, hsz, hP, hK, hD0, hZ, hX⟩ := hv
  have hx := B.exec
  have hb := B.bytes
  have hr := B.returns
  have hts : ∀ w ∈ GG, w.before ([.ref h0] : List Value).toArray s = true := fun w h => atoms_spec (ws := _ :: GG) B.pre w (List.mem_cons_of_mem _ h)
  have hown : s.vm.findClass RS = some m.cls := findClass_of_methodNamed B.named
  have hlocks := B.notSynchronized
  subst hsz
  have hD := hD0.self (sz := s.heap.size)
  generalize hAe : va_A [(h0, .inr (1, [.ref h1, .ref h2, .ref aw, .ref aa, .int (nI nv), .int (nI nl), .int (nI nc), .int (nI wc), .int (nI ac), .int fo, .int bl, .int lv, .int (nI vt)])), (h1, .inr (0, [.ref w1, .int (nI U)])), (w1, .inl (cL, 1024, .inr (.inl f))), (h2, .inr (0, [.ref w2, .int y])), (w2, .inl (cM, 1024, .inr (.inl g))), (aa, .inl (cJ, 64, .inl af))] s.heap.size = A at hD hZ ⊢
  have hA : ∀ q : Nat, s.heap.size ≤ q → A q := fun q h => by rw [← hAe]; exact Or.inr h
  have hS : va_S A s.heap s.heap [] := va_S.rf
  have hl := lv_entry ([.ref h0]) (n := 1) (Nat.le_of_ble_eq_true rfl)
  rw [lg_entry_eq]
  generalize (lg_sl ([.ref h0]) ++ List.replicate (1 - (lg_sl ([.ref h0])).length) Slot.unset).toArray = ls at hl ⊢
  have hl : lv_has ls 1 [(0, .ref h0)] := hl
  have SF : CallFix p m c cS_solve 1 s ([.ref h0] : List Value).toArray GG RS := ⟨hx, hb, hml, hown, hts⟩
  skip
  have hP : va_P (dC, dI) vwCl [(h0, .inr (1, [.ref h1, .ref h2, .ref aw, .ref aa, .int (nI nv), .int (nI nl), .int (nI nc), .int (nI wc), .int (nI ac), .int fo, .int bl, .int lv, .int (nI vt)])), (h1, .inr (0, [.ref w1, .int (nI U)])), (w1, .inl (cL, 1024, .inr (.inl f))), (h2, .inr (0, [.ref w2, .int y])), (w2, .inl (cM, 1024, .inr (.inl g))), (aa, .inl (cJ, 64, .inl af))] s.heap := hP
  refine lv_aload_n hx hb dS_solve_0 rfl (lv_at hl 0 rfl) ?_
  refine va_get (D := (dC, dI)) (ci := 1) (v := .ref h2) (C := RS) (T := TS) (N := 13) hx hb hts lyS hown hK hP 0 rfl rfl 1 (by decide) (hts _ fl_S_16) (fun _ h9 => h9) rfl dS_solve_1 ?_
  refine lv_aload_n hx hb dS_solve_4 rfl (lv_at hl 0 rfl) ?_
  refine va_get (D := (dC, dI)) (ci := 1) (v := .ref h1) (C := RS) (T := TS) (N := 13) hx hb hts lyS hown hK hP 0 rfl rfl 0 (by decide) (hts _ fl_S_10) (fun _ h9 => h9) rfl dS_solve_5 ?_
  have hFc := va_free (wc := [(h2, .inr (0, [.ref w2, .int y])), (w2, .inl (cM, 1024, .inr (.inl g))), (h1, .inr (0, [.ref w1, .int (nI U)])), (w1, .inl (cL, 1024, .inr (.inl f)))]) hD hS hA [3, 4, 1, 2] rfl
  refine wc_v (wc_V (As := [.ref h1]) (rest := []) (n := 1) SF (k_R_copyFrom l dC dI tI _ h2 w2 h1 w1 cM cL g f y U hU) ml_S_71 im_R_copyFrom se_R_copyFrom in_R co_R_copyFrom (by decide +kernel) rfl rfl rfl ⟨Nat.le_of_ble_eq_true rfl, Nat.le_of_ble_eq_true rfl⟩ (va_recv (hK.sub (tys' := []) [] rfl) (hP.sub (ws' := [(h2, .inr (0, [.ref w2, .int y])), (w2, .inl (cM, 1024, .inr (.inl g))), (h1, .inr (0, [.ref w1, .int (nI U)])), (w1, .inl (cL, 1024, .inr (.inl f)))]) [3, 4, 1, 2] rfl) (ci := 0) (q0 := 0) rfl rfl) (hP.sub [3, 4, 1, 2] rfl) (hD.sub [3, 4, 1, 2] (by decide) rfl) (hK.sub [1, 0] rfl) hZ hX hS hFc rfl hl.1 (Nat.le_of_ble_eq_true rfl) dS_solve_8 ⟨Nat.le_of_ble_eq_true rfl, Nat.le_of_ble_eq_true rfl⟩) hP hD hS hFc [3, 4, 1, 2] [0, 5] (wr := [(h0, .inr (1, [.ref h1, .ref h2, .ref aw, .ref aa, .int (nI nv), .int (nI nl), .int (nI nc), .int (nI wc), .int (nI ac), .int fo, .int bl, .int lv, .int (nI vt)])), (aa, .inl (cJ, 64, .inl af))]) rfl rfl rfl (by decide) (fun g1 H locs hg1 hP hD hS => ?_)
  have hP : va_P (dC, dI) vwCl [(h0, .inr (1, [.ref h1, .ref h2, .ref aw, .ref aa, .int (nI nv), .int (nI nl), .int (nI nc), .int (nI wc), .int (nI ac), .int fo, .int bl, .int lv, .int (nI vt)])), (h1, .inr (0, [.ref w1, .int (nI U)])), (w1, .inl (cL, 1024, .inr (.inl f))), (h2, .inr (0, [.ref w2, .int (nI U)])), (w2, .inl (cM, 1024, .inr (.inl g1))), (aa, .inl (cJ, 64, .inl af))] H := hP.sub [0, 4, 5, 2, 3, 1] rfl
  have hD : va_D A [(h0, .inr (1, [.ref h1, .ref h2, .ref aw, .ref aa, .int (nI nv), .int (nI nl), .int (nI nc), .int (nI wc), .int (nI ac), .int fo, .int bl, .int lv, .int (nI vt)])), (h1, .inr (0, [.ref w1, .int (nI U)])), (w1, .inl (cL, 1024, .inr (.inl f))), (h2, .inr (0, [.ref w2, .int (nI U)])), (w2, .inl (cM, 1024, .inr (.inl g1))), (aa, .inl (cJ, 64, .inl af))] := hD.sub [0, 4, 5, 2, 3, 1] (by decide) rfl
  refine lv_aload_n hx hb dS_solve_11 rfl (lv_at hl 0 rfl) ?_
  refine lv_aload_n hx hb dS_solve_12 rfl (lv_at hl 0 rfl) ?_
  have hFc := va_free (wc := [(h0, .inr (1, [.ref h1, .ref h2, .ref aw, .ref aa, .int (nI nv), .int (nI nl), .int (nI nc), .int (nI wc), .int (nI ac), .int fo, .int bl, .int lv, .int (nI vt)])), (h2, .inr (0, [.ref w2, .int (nI U)])), (w2, .inl (cM, 1024, .inr (.inl g1))), (aa, .inl (cJ, 64, .inl af))]) hD hS hA [0, 3, 4, 5] rfl
  refine wc_i (wc_V (As := []) (rest := [.ref h0]) (n := 0) SF (k_S_narrow l dC dI tI _ h0 h1 h2 w2 aw aa cM cJ g1 af an U hU nv nl nc wc ac vt fo bl lv hac hn1) ml_S_75 im_S_narrowToAssumptions se_S_narrowToAssumptions in_S co_S_narrowToAssumptions (by decide +kernel) rfl rfl rfl ⟨Nat.le_of_ble_eq_true rfl, Nat.le_of_ble_eq_true rfl⟩ (va_recv (hK.sub (tys' := []) [] rfl) (hP.sub (ws' := [(h0, .inr (1, [.ref h1, .ref h2, .ref aw, .ref aa, .int (nI nv), .int (nI nl), .int (nI nc), .int (nI wc), .int (nI ac), .int fo, .int bl, .int lv, .int (nI vt)])), (h2, .inr (0, [.ref w2, .int (nI U)])), (w2, .inl (cM, 1024, .inr (.inl g1))), (aa, .inl (cJ, 64, .inl af))]) [0, 3, 4, 5] rfl) (ci := 1) (q0 := 0) rfl rfl) (hP.sub [0, 3, 4, 5] rfl) (hD.sub [0, 3, 4, 5] (by decide) rfl) (hK.sub [1, 2] rfl) hZ hX hS hFc rfl hl.1 (Nat.le_of_ble_eq_true rfl) dS_solve_13 ⟨Nat.le_of_ble_eq_true rfl, Nat.le_of_ble_eq_true rfl⟩) hP hD hS hFc [0, 3, 4, 5] [1, 2] (wr := [(h1, .inr (0, [.ref w1, .int (nI U)])), (w1, .inl (cL, 1024, .inr (.inl f)))]) rfl rfl rfl (by decide) (fun b g2 H locs hnw hP hD hS => ?_)
  have hP : va_P (dC, dI) vwCl [(h0, .inr (1, [.ref h1, .ref h2, .ref aw, .ref aa, .int (nI nv), .int (nI nl), .int (nI nc), .int (nI wc), .int (nI ac), .int fo, .int bl, .int lv, .int (nI vt)])), (h1, .inr (0, [.ref w1, .int (nI U)])), (w1, .inl (cL, 1024, .inr (.inl f))), (h2, .inr (0, [.ref w2, .int (nI U)])), (w2, .inl (cM, 1024, .inr (.inl g2))), (aa, .inl (cJ, 64, .inl af))] H := hP.sub [2, 0, 1, 3, 4, 5] rfl
  have hD : va_D A [(h0, .inr (1, [.ref h1, .ref h2, .ref aw, .ref aa, .int (nI nv), .int (nI nl), .int (nI nc), .int (nI wc), .int (nI ac), .int fo, .int bl, .int lv, .int (nI vt)])), (h1, .inr (0, [.ref w1, .int (nI U)])), (w1, .inl (cL, 1024, .inr (.inl f))), (h2, .inr (0, [.ref w2, .int (nI U)])), (w2, .inl (cM, 1024, .inr (.inl g2))), (aa, .inl (cJ, 64, .inl af))] := hD.sub [2, 0, 1, 3, 4, 5] (by decide) rfl
  have hnP : na_P f an ac U b := na_P_congr hg1 hnw.1
  refine va_put (D := (dC, dI)) (ci := 1) (v := .int b) (ty := .int) (C := RS) (T := TS) (N := 13) hx hb hts lyS tyS tyS_ok nmS hown hK hP hD hS 0 rfl rfl 10 (by decide) (hts _ fl_S_79) (fun _ h9 => h9) rfl (by decide +kernel) rfl rfl (Nat.le_of_ble_eq_true rfl) dS_solve_16 (fun H locs hP hD hS => ?_)
  have hP : va_P (dC, dI) vwCl [(h0, .inr (1, [.ref h1, .ref h2, .ref aw, .ref aa, .int (nI nv), .int (nI nl), .int (nI nc), .int (nI wc), .int (nI ac), .int fo, .int b, .int lv, .int (nI vt)])), (h1, .inr (0, [.ref w1, .int (nI U)])), (w1, .inl (cL, 1024, .inr (.inl f))), (h2, .inr (0, [.ref w2, .int (nI U)])), (w2, .inl (cM, 1024, .inr (.inl g2))), (aa, .inl (cJ, 64, .inl af))] H := hP
  have hD : va_D A [(h0, .inr (1, [.ref h1, .ref h2, .ref aw, .ref aa, .int (nI nv), .int (nI nl), .int (nI nc), .int (nI wc), .int (nI ac), .int fo, .int b, .int lv, .int (nI vt)])), (h1, .inr (0, [.ref w1, .int (nI U)])), (w1, .inl (cL, 1024, .inr (.inl f))), (h2, .inr (0, [.ref w2, .int (nI U)])), (w2, .inl (cM, 1024, .inr (.inl g2))), (aa, .inl (cJ, 64, .inl af))] := hD
  refine lv_aload_n hx hb dS_solve_19 rfl (lv_at hl 0 rfl) ?_
  refine lv_aload_n hx hb dS_solve_20 rfl (lv_at hl 0 rfl) ?_
  refine va_get (D := (dC, dI)) (ci := 1) (v := .int b) (C := RS) (T := TS) (N := 13) hx hb hts lyS hown hK hP 0 rfl rfl 10 (by decide) (hts _ fl_S_79) (fun _ h9 => h9) rfl dS_solve_21 ?_
  refine lv_iconst (v := (-1)) hx hb dS_solve_24 (by decide) ?_
  refine lv_icmp_ne (tgt := 32) hx hb dS_solve_25 (by decide) (fun c1 => ?_) (fun c1 => ?_)
  · refine lv_iconst (v := 0) hx hb dS_solve_32 (by decide) ?_
    refine va_put (D := (dC, dI)) (ci := 1) (v := .int 0) (ty := .boolean) (C := RS) (T := TS) (N := 13) hx hb hts lyS tyS tyS_ok nmS hown hK hP hD hS 0 rfl rfl 9 (by decide) (hts _ fl_S_82) (fun _ h9 => h9) rfl (by decide +kernel) rfl rfl (Nat.le_of_ble_eq_true rfl) dS_solve_33 (fun H locs hP hD hS => ?_)
    have hP : va_P (dC, dI) vwCl [(h0, .inr (1, [.ref h1, .ref h2, .ref aw, .ref aa, .int (nI nv), .int (nI nl), .int (nI nc), .int (nI wc), .int (nI ac), .int 0, .int b, .int lv, .int (nI vt)])), (h1, .inr (0, [.ref w1, .int (nI U)])), (w1, .inl (cL, 1024, .inr (.inl f))), (h2, .inr (0, [.ref w2, .int (nI U)])), (w2, .inl (cM, 1024, .inr (.inl g2))), (aa, .inl (cJ, 64, .inl af))] H := hP
    have hD : va_D A [(h0, .inr (1, [.ref h1, .ref h2, .ref aw, .ref aa, .int (nI nv), .int (nI nl), .int (nI nc), .int (nI wc), .int (nI ac), .int 0, .int b, .int lv, .int (nI vt)])), (h1, .inr (0, [.ref w1, .int (nI U)])), (w1, .inl (cL, 1024, .inr (.inl f))), (h2, .inr (0, [.ref w2, .int (nI U)])), (w2, .inl (cM, 1024, .inr (.inl g2))), (aa, .inl (cJ, 64, .inl af))] := hD
    refine lv_aload_n hx hb dS_solve_36 rfl (lv_at hl 0 rfl) ?_
    refine lv_aload_n hx hb dS_solve_37 rfl (lv_at hl 0 rfl) ?_
    refine va_get (D := (dC, dI)) (ci := 1) (v := .int 0) (C := RS) (T := TS) (N := 13) hx hb hts lyS hown hK hP 0 rfl rfl 9 (by decide) (hts _ fl_S_82) (fun _ h9 => h9) rfl dS_solve_38 ?_
    refine lv_if_eq (tgt := 54) hx hb dS_solve_41 (by decide) (fun c2 => ?_) (fun c2 => ?_)
    · refine lv_iconst (v := 0) hx hb dS_solve_54 (by decide) ?_
      refine va_put (D := (dC, dI)) (ci := 1) (v := .int 0) (ty := .int) (C := RS) (T := TS) (N := 13) hx hb hts lyS tyS tyS_ok nmS hown hK hP hD hS 0 rfl rfl 11 (by decide) (hts _ fl_S_89) (fun _ h9 => h9) rfl (by decide +kernel) rfl rfl (Nat.le_of_ble_eq_true rfl) dS_solve_55 (fun H locs hP hD hS => ?_)
      have hP : va_P (dC, dI) vwCl [(h0, .inr (1, [.ref h1, .ref h2, .ref aw, .ref aa, .int (nI nv), .int (nI nl), .int (nI nc), .int (nI wc), .int (nI ac), .int 0, .int b, .int 0, .int (nI vt)])), (h1, .inr (0, [.ref w1, .int (nI U)])), (w1, .inl (cL, 1024, .inr (.inl f))), (h2, .inr (0, [.ref w2, .int (nI U)])), (w2, .inl (cM, 1024, .inr (.inl g2))), (aa, .inl (cJ, 64, .inl af))] H := hP
      have hD : va_D A [(h0, .inr (1, [.ref h1, .ref h2, .ref aw, .ref aa, .int (nI nv), .int (nI nl), .int (nI nc), .int (nI wc), .int (nI ac), .int 0, .int b, .int 0, .int (nI vt)])), (h1, .inr (0, [.ref w1, .int (nI U)])), (w1, .inl (cL, 1024, .inr (.inl f))), (h2, .inr (0, [.ref w2, .int (nI U)])), (w2, .inl (cM, 1024, .inr (.inl g2))), (aa, .inl (cJ, 64, .inl af))] := hD
      refine lv_aload_n hx hb dS_solve_58 rfl (lv_at hl 0 rfl) ?_
      refine lv_aload_n hx hb dS_solve_59 rfl (lv_at hl 0 rfl) ?_
      refine va_get (D := (dC, dI)) (ci := 1) (v := .int (nI nv)) (C := RS) (T := TS) (N := 13) hx hb hts lyS hown hK hP 0 rfl rfl 4 (by decide) (hts _ fl_S_29) (fun _ h9 => h9) rfl dS_solve_60 ?_
      refine va_put (D := (dC, dI)) (ci := 1) (v := .int (nI nv)) (ty := .int) (C := RS) (T := TS) (N := 13) hx hb hts lyS tyS tyS_ok nmS hown hK hP hD hS 0 rfl rfl 12 (by decide) (hts _ fl_S_92) (fun _ h9 => h9) rfl (by decide +kernel) rfl rfl (Nat.le_of_ble_eq_true rfl) dS_solve_63 (fun H locs hP hD hS => ?_)
      have hP : va_P (dC, dI) vwCl [(h0, .inr (1, [.ref h1, .ref h2, .ref aw, .ref aa, .int (nI nv), .int (nI nl), .int (nI nc), .int (nI wc), .int (nI ac), .int 0, .int b, .int 0, .int (nI nv)])), (h1, .inr (0, [.ref w1, .int (nI U)])), (w1, .inl (cL, 1024, .inr (.inl f))), (h2, .inr (0, [.ref w2, .int (nI U)])), (w2, .inl (cM, 1024, .inr (.inl g2))), (aa, .inl (cJ, 64, .inl af))] H := hP
      have hD : va_D A [(h0, .inr (1, [.ref h1, .ref h2, .ref aw, .ref aa, .int (nI nv), .int (nI nl), .int (nI nc), .int (nI wc), .int (nI ac), .int 0, .int b, .int 0, .int (nI nv)])), (h1, .inr (0, [.ref w1, .int (nI U)])), (w1, .inl (cL, 1024, .inr (.inl f))), (h2, .inr (0, [.ref w2, .int (nI U)])), (w2, .inl (cM, 1024, .inr (.inl g2))), (aa, .inl (cJ, 64, .inl af))] := hD
      refine lv_aload_n hx hb dS_solve_66 rfl (lv_at hl 0 rfl) ?_
      refine lv_iconst (v := 0) hx hb dS_solve_67 (by decide) ?_
      refine va_put (D := (dC, dI)) (ci := 1) (v := .int 0) (ty := .int) (C := RS) (T := TS) (N := 13) hx hb hts lyS tyS tyS_ok nmS hown hK hP hD hS 0 rfl rfl 8 (by decide) (hts _ fl_S_66) (fun _ h9 => h9) rfl (by decide +kernel) rfl rfl (Nat.le_of_ble_eq_true rfl) dS_solve_68 (fun H locs hP hD hS => ?_)
      have hP : va_P (dC, dI) vwCl [(h0, .inr (1, [.ref h1, .ref h2, .ref aw, .ref aa, .int (nI nv), .int (nI nl), .int (nI nc), .int (nI wc), .int 0, .int 0, .int b, .int 0, .int (nI nv)])), (h1, .inr (0, [.ref w1, .int (nI U)])), (w1, .inl (cL, 1024, .inr (.inl f))), (h2, .inr (0, [.ref w2, .int (nI U)])), (w2, .inl (cM, 1024, .inr (.inl g2))), (aa, .inl (cJ, 64, .inl af))] H := hP
      have hD : va_D A [(h0, .inr (1, [.ref h1, .ref h2, .ref aw, .ref aa, .int (nI nv), .int (nI nl), .int (nI nc), .int (nI wc), .int 0, .int 0, .int b, .int 0, .int (nI nv)])), (h1, .inr (0, [.ref w1, .int (nI U)])), (w1, .inl (cL, 1024, .inr (.inl f))), (h2, .inr (0, [.ref w2, .int (nI U)])), (w2, .inl (cM, 1024, .inr (.inl g2))), (aa, .inl (cJ, 64, .inl af))] := hD
      refine lv_aload_n hx hb dS_solve_71 rfl (lv_at hl 0 rfl) ?_
      refine va_get (D := (dC, dI)) (ci := 1) (v := .int 0) (C := RS) (T := TS) (N := 13) hx hb hts lyS hown hK hP 0 rfl rfl 9 (by decide) (hts _ fl_S_82) (fun _ h9 => h9) rfl dS_solve_72 ?_
      exact (W.zret (v := 0) hx hb hr (rfl) (fun t ht hW => ⟨⟨0, (g2, b, 0, 0), rfl, ⟨hnP, fun q => absurd q c1, fun _ => ⟨rfl, rfl⟩, rfl⟩, by rw [ht]; exact hP, va_K.moved hW.alike hK, hD⟩, hS.F ht⟩) hS.2.2 dS_solve_75)
    · exact absurd rfl c2
  · have hgk : ∀ k, k < U → g2 k = na_F f an k ac := fun k hk => by rw [hnw.2 c1 k hk, na_F_congr (hg1 k hk)]
    have hne : ∃ k, k < U ∧ g2 k ≠ 0 := by
      rcases hnP with ⟨q, _⟩ | ⟨i, h1, q, _⟩ | ⟨_, k, hk, hv⟩
      · rw [q] at c1; exact absurd c1 (by decide)
      · exact absurd (q.symm.trans c1) (ax_nm1 (by omega))
      · exact ⟨k, hk, by rw [hgk k hk]; exact hv⟩
    refine lv_iconst (v := 1) hx hb dS_solve_28 (by decide) ?_
    refine lv_goto (tgt := 33) hx hb dS_solve_29 (by decide) ?_
    refine va_put (D := (dC, dI)) (ci := 1) (v := .int 1) (ty := .boolean) (C := RS) (T := TS) (N := 13) hx hb hts lyS tyS tyS_ok nmS hown hK hP hD hS 0 rfl rfl 9 (by decide) (hts _ fl_S_82) (fun _ h9 => h9) rfl (by decide +kernel) rfl rfl (Nat.le_of_ble_eq_true rfl) dS_solve_33 (fun H locs hP hD hS => ?_)
    have hP : va_P (dC, dI) vwCl [(h0, .inr (1, [.ref h1, .ref h2, .ref aw, .ref aa, .int (nI nv), .int (nI nl), .int (nI nc), .int (nI wc), .int (nI ac), .int 1, .int b, .int lv, .int (nI vt)])), (h1, .inr (0, [.ref w1, .int (nI U)])), (w1, .inl (cL, 1024, .inr (.inl f))), (h2, .inr (0, [.ref w2, .int (nI U)])), (w2, .inl (cM, 1024, .inr (.inl g2))), (aa, .inl (cJ, 64, .inl af))] H := hP
    have hD : va_D A [(h0, .inr (1, [.ref h1, .ref h2, .ref aw, .ref aa, .int (nI nv), .int (nI nl), .int (nI nc), .int (nI wc), .int (nI ac), .int 1, .int b, .int lv, .int (nI vt)])), (h1, .inr (0, [.ref w1, .int (nI U)])), (w1, .inl (cL, 1024, .inr (.inl f))), (h2, .inr (0, [.ref w2, .int (nI U)])), (w2, .inl (cM, 1024, .inr (.inl g2))), (aa, .inl (cJ, 64, .inl af))] := hD
    refine lv_aload_n hx hb dS_solve_36 rfl (lv_at hl 0 rfl) ?_
    refine lv_aload_n hx hb dS_solve_37 rfl (lv_at hl 0 rfl) ?_
    refine va_get (D := (dC, dI)) (ci := 1) (v := .int 1) (C := RS) (T := TS) (N := 13) hx hb hts lyS hown hK hP 0 rfl rfl 9 (by decide) (hts _ fl_S_82) (fun _ h9 => h9) rfl dS_solve_38 ?_
    refine lv_if_eq (tgt := 54) hx hb dS_solve_41 (by decide) (fun c2 => ?_) (fun c2 => ?_)
    · exact absurd c2 (by decide)
    · refine lv_aload_n hx hb dS_solve_44 rfl (lv_at hl 0 rfl) ?_
      refine va_get (D := (dC, dI)) (ci := 1) (v := .ref h2) (C := RS) (T := TS) (N := 13) hx hb hts lyS hown hK hP 0 rfl rfl 1 (by decide) (hts _ fl_S_16) (fun _ h9 => h9) rfl dS_solve_45 ?_
      have hFc := va_free (wc := [(h2, .inr (0, [.ref w2, .int (nI U)])), (w2, .inl (cM, 1024, .inr (.inl g2)))]) hD hS hA [3, 4] rfl
      refine wc_i (wc_V (As := []) (rest := [.ref h0]) (n := 0) SF (k_R_leastRow l dC dI tI _ h2 w2 cM g2 U hU n hn hnn hne) ml_S_86 im_R_leastRow se_R_leastRow in_R co_R_leastRow (by decide +kernel) rfl rfl rfl ⟨Nat.le_of_ble_eq_true rfl, Nat.le_of_ble_eq_true rfl⟩ (va_recv (hK.sub (tys' := []) [] rfl) (hP.sub (ws' := [(h2, .inr (0, [.ref w2, .int (nI U)])), (w2, .inl (cM, 1024, .inr (.inl g2)))]) [3, 4] rfl) (ci := 0) (q0 := 0) rfl rfl) (hP.sub [3, 4] rfl) (hD.sub [3, 4] (by decide) rfl) (hK.sub [1] rfl) hZ hX hS hFc rfl hl.1 (Nat.le_of_ble_eq_true rfl) dS_solve_48 ⟨Nat.le_of_ble_eq_true rfl, Nat.le_of_ble_eq_true rfl⟩) hP hD hS hFc [3, 4] [0, 1, 2, 5] (wr := [(h0, .inr (1, [.ref h1, .ref h2, .ref aw, .ref aa, .int (nI nv), .int (nI nl), .int (nI nc), .int (nI wc), .int (nI ac), .int 1, .int b, .int lv, .int (nI vt)])), (h1, .inr (0, [.ref w1, .int (nI U)])), (w1, .inl (cL, 1024, .inr (.inl f))), (aa, .inl (cJ, 64, .inl af))]) rfl rfl rfl (by decide) (fun z uu H locs hlr hP hD hS => ?_)
      have hP : va_P (dC, dI) vwCl [(h0, .inr (1, [.ref h1, .ref h2, .ref aw, .ref aa, .int (nI nv), .int (nI nl), .int (nI nc), .int (nI wc), .int (nI ac), .int 1, .int b, .int lv, .int (nI vt)])), (h1, .inr (0, [.ref w1, .int (nI U)])), (w1, .inl (cL, 1024, .inr (.inl f))), (h2, .inr (0, [.ref w2, .int (nI U)])), (w2, .inl (cM, 1024, .inr (.inl g2))), (aa, .inl (cJ, 64, .inl af))] H := hP.sub [0, 1, 2, 4, 5, 3] rfl
      have hD : va_D A [(h0, .inr (1, [.ref h1, .ref h2, .ref aw, .ref aa, .int (nI nv), .int (nI nl), .int (nI nc), .int (nI wc), .int (nI ac), .int 1, .int b, .int lv, .int (nI vt)])), (h1, .inr (0, [.ref w1, .int (nI U)])), (w1, .inl (cL, 1024, .inr (.inl f))), (h2, .inr (0, [.ref w2, .int (nI U)])), (w2, .inl (cM, 1024, .inr (.inl g2))), (aa, .inl (cJ, 64, .inl af))] := hD.sub [0, 1, 2, 4, 5, 3] (by decide) rfl
      refine lv_goto (tgt := 55) hx hb dS_solve_51 (by decide) ?_
      refine va_put (D := (dC, dI)) (ci := 1) (v := .int z) (ty := .int) (C := RS) (T := TS) (N := 13) hx hb hts lyS tyS tyS_ok nmS hown hK hP hD hS 0 rfl rfl 11 (by decide) (hts _ fl_S_89) (fun _ h9 => h9) rfl (by decide +kernel) rfl rfl (Nat.le_of_ble_eq_true rfl) dS_solve_55 (fun H locs hP hD hS => ?_)
      have hP : va_P (dC, dI) vwCl [(h0, .inr (1, [.ref h1, .ref h2, .ref aw, .ref aa, .int (nI nv), .int (nI nl), .int (nI nc), .int (nI wc), .int (nI ac), .int 1, .int b, .int z, .int (nI vt)])), (h1, .inr (0, [.ref w1, .int (nI U)])), (w1, .inl (cL, 1024, .inr (.inl f))), (h2, .inr (0, [.ref w2, .int (nI U)])), (w2, .inl (cM, 1024, .inr (.inl g2))), (aa, .inl (cJ, 64, .inl af))] H := hP
      have hD : va_D A [(h0, .inr (1, [.ref h1, .ref h2, .ref aw, .ref aa, .int (nI nv), .int (nI nl), .int (nI nc), .int (nI wc), .int (nI ac), .int 1, .int b, .int z, .int (nI vt)])), (h1, .inr (0, [.ref w1, .int (nI U)])), (w1, .inl (cL, 1024, .inr (.inl f))), (h2, .inr (0, [.ref w2, .int (nI U)])), (w2, .inl (cM, 1024, .inr (.inl g2))), (aa, .inl (cJ, 64, .inl af))] := hD
      refine lv_aload_n hx hb dS_solve_58 rfl (lv_at hl 0 rfl) ?_
      refine lv_aload_n hx hb dS_solve_59 rfl (lv_at hl 0 rfl) ?_
      refine va_get (D := (dC, dI)) (ci := 1) (v := .int (nI nv)) (C := RS) (T := TS) (N := 13) hx hb hts lyS hown hK hP 0 rfl rfl 4 (by decide) (hts _ fl_S_29) (fun _ h9 => h9) rfl dS_solve_60 ?_
      refine va_put (D := (dC, dI)) (ci := 1) (v := .int (nI nv)) (ty := .int) (C := RS) (T := TS) (N := 13) hx hb hts lyS tyS tyS_ok nmS hown hK hP hD hS 0 rfl rfl 12 (by decide) (hts _ fl_S_92) (fun _ h9 => h9) rfl (by decide +kernel) rfl rfl (Nat.le_of_ble_eq_true rfl) dS_solve_63 (fun H locs hP hD hS => ?_)
      have hP : va_P (dC, dI) vwCl [(h0, .inr (1, [.ref h1, .ref h2, .ref aw, .ref aa, .int (nI nv), .int (nI nl), .int (nI nc), .int (nI wc), .int (nI ac), .int 1, .int b, .int z, .int (nI nv)])), (h1, .inr (0, [.ref w1, .int (nI U)])), (w1, .inl (cL, 1024, .inr (.inl f))), (h2, .inr (0, [.ref w2, .int (nI U)])), (w2, .inl (cM, 1024, .inr (.inl g2))), (aa, .inl (cJ, 64, .inl af))] H := hP
      have hD : va_D A [(h0, .inr (1, [.ref h1, .ref h2, .ref aw, .ref aa, .int (nI nv), .int (nI nl), .int (nI nc), .int (nI wc), .int (nI ac), .int 1, .int b, .int z, .int (nI nv)])), (h1, .inr (0, [.ref w1, .int (nI U)])), (w1, .inl (cL, 1024, .inr (.inl f))), (h2, .inr (0, [.ref w2, .int (nI U)])), (w2, .inl (cM, 1024, .inr (.inl g2))), (aa, .inl (cJ, 64, .inl af))] := hD
      refine lv_aload_n hx hb dS_solve_66 rfl (lv_at hl 0 rfl) ?_
      refine lv_iconst (v := 0) hx hb dS_solve_67 (by decide) ?_
      refine va_put (D := (dC, dI)) (ci := 1) (v := .int 0) (ty := .int) (C := RS) (T := TS) (N := 13) hx hb hts lyS tyS tyS_ok nmS hown hK hP hD hS 0 rfl rfl 8 (by decide) (hts _ fl_S_66) (fun _ h9 => h9) rfl (by decide +kernel) rfl rfl (Nat.le_of_ble_eq_true rfl) dS_solve_68 (fun H locs hP hD hS => ?_)
      have hP : va_P (dC, dI) vwCl [(h0, .inr (1, [.ref h1, .ref h2, .ref aw, .ref aa, .int (nI nv), .int (nI nl), .int (nI nc), .int (nI wc), .int 0, .int 1, .int b, .int z, .int (nI nv)])), (h1, .inr (0, [.ref w1, .int (nI U)])), (w1, .inl (cL, 1024, .inr (.inl f))), (h2, .inr (0, [.ref w2, .int (nI U)])), (w2, .inl (cM, 1024, .inr (.inl g2))), (aa, .inl (cJ, 64, .inl af))] H := hP
      have hD : va_D A [(h0, .inr (1, [.ref h1, .ref h2, .ref aw, .ref aa, .int (nI nv), .int (nI nl), .int (nI nc), .int (nI wc), .int 0, .int 1, .int b, .int z, .int (nI nv)])), (h1, .inr (0, [.ref w1, .int (nI U)])), (w1, .inl (cL, 1024, .inr (.inl f))), (h2, .inr (0, [.ref w2, .int (nI U)])), (w2, .inl (cM, 1024, .inr (.inl g2))), (aa, .inl (cJ, 64, .inl af))] := hD
      refine lv_aload_n hx hb dS_solve_71 rfl (lv_at hl 0 rfl) ?_
      refine va_get (D := (dC, dI)) (ci := 1) (v := .int 1) (C := RS) (T := TS) (N := 13) hx hb hts lyS hown hK hP 0 rfl rfl 9 (by decide) (hts _ fl_S_82) (fun _ h9 => h9) rfl dS_solve_72 ?_
      exact (W.zret (v := 1) hx hb hr (rfl) (fun t ht hW => ⟨⟨1, (g2, b, z, 1), rfl, ⟨hnP, fun _ => ⟨rfl, by
          obtain ⟨q, e1, e2⟩ := hlr
          exact ⟨q, e1, lr_L_congr (fun k hk => hgk k (by rw [hn]; exact hk)) e2⟩⟩, fun q => absurd c1 q, rfl⟩, by rw [ht]; exact hP, va_K.moved hW.alike hK, hD⟩, hS.F ht⟩) hS.2.2 dS_solve_75)
