set_option maxHeartbeats 4000000 in
set_option maxRecDepth 100000 in
theorem k_M_thrown (l : Launch) (dC : Nat → ClassId) (dI : Nat → Nat → Nat) (tI sz : Nat) (g0 aL aS aF aN aA aO aV aT : Nat) (nv nc us dr as th : Nat) (co la bl : Int32) : Met l yM_thrown (Cond.code yM_thrown cM_thrown 1 (some .int) :: GG) (lvr 0 0 0) (va_Pc [.ref g0] (wPre dC dI [] [(g0, .inr (2, [.int co, .int (nI nv), .int (nI nc), .ref aL, .int (nI us), .ref aS, .int (nI dr), .ref aF, .ref aN, .ref aA, .int (nI as), .ref aO, .ref aV, .int la, .int bl, .ref aT, .int (nI th)]))] sz tI)) (va_Qi (fun (r : Int32) (u : Unit) => r = co) (fun u t => wB dC dI [] (va_A [(g0, .inr (2, [.int co, .int (nI nv), .int (nI nc), .ref aL, .int (nI us), .ref aS, .int (nI dr), .ref aF, .ref aN, .ref aA, .int (nI as), .ref aO, .ref aV, .int la, .int bl, .ref aT, .int (nI th)]))] sz) [(g0, .inr (2, [.int co, .int (nI nv), .int (nI nc), .ref aL, .int (nI us), .ref aS, .int (nI dr), .ref aF, .ref aN, .ref aA, .int (nI as), .ref aO, .ref aV, .int la, .int bl, .ref aT, .int (nI th)]))] t) (va_A [(g0, .inr (2, [.int co, .int (nI nv), .int (nI nc), .ref aL, .int (nI us), .ref aS, .int (nI dr), .ref aF, .ref aN, .ref aA, .int (nI as), .ref aO, .ref aV, .int la, .int bl, .ref aT, .int (nI th)]))] sz)) 0 0 (va_A [(g0, .inr (2, [.int co, .int (nI nv), .int (nI nc), .ref aL, .int (nI us), .ref aS, .int (nI dr), .ref aF, .ref aN, .ref aA, .int (nI as), .ref aO, .ref aV, .int la, .int bl, .ref aT, .int (nI th)]))] sz) := by
  refine Met.ofW (cc := cM_thrown) (maxL := 1) (ret := (some .int)) (by decide) rfl ?_
  intro p e s m args below meth c s₁ B hml hv
  obtain ⟨rfl, hsz, hP, hK, hD0, hZ, hX⟩ := hv
  have hx := B.exec
  have hb := B.bytes
  have hr := B.returns
  have hts : ∀ w ∈ GG, w.before ([.ref g0] : List Value).toArray s = true := fun w h => atoms_spec (ws := _ :: GG) B.pre w (List.mem_cons_of_mem _ h)
  have hown : s.vm.findClass RM = some m.cls := findClass_of_methodNamed B.named
  have hlocks := B.notSynchronized
  subst hsz
  have hD := hD0.self (sz := s.heap.size)
  generalize hAe : va_A [(g0, .inr (2, [.int co, .int (nI nv), .int (nI nc), .ref aL, .int (nI us), .ref aS, .int (nI dr), .ref aF, .ref aN, .ref aA, .int (nI as), .ref aO, .ref aV, .int la, .int bl, .ref aT, .int (nI th)]))] s.heap.size = A at hD hZ ⊢
  have hA : ∀ q : Nat, s.heap.size ≤ q → A q := fun q h => by rw [← hAe]; exact Or.inr h
  have hS : va_S A s.heap s.heap [] := va_S.rf
  have hl := lv_entry ([.ref g0]) (n := 1) (Nat.le_of_ble_eq_true rfl)
  rw [lg_entry_eq]
  generalize (lg_sl ([.ref g0]) ++ List.replicate (1 - (lg_sl ([.ref g0])).length) Slot.unset).toArray = ls at hl ⊢
  have hl : lv_has ls 1 [(0, .ref g0)] := hl
  have SF : CallFix p m c cM_thrown 1 s ([.ref g0] : List Value).toArray GG RM := ⟨hx, hb, hml, hown, hts⟩
  skip
  have hP : va_P (dC, dI) vwCl [(g0, .inr (2, [.int co, .int (nI nv), .int (nI nc), .ref aL, .int (nI us), .ref aS, .int (nI dr), .ref aF, .ref aN, .ref aA, .int (nI as), .ref aO, .ref aV, .int la, .int bl, .ref aT, .int (nI th)]))] s.heap := hP
  refine lv_aload_n hx hb dM_thrown_0 rfl (lv_at hl 0 rfl) ?_
  refine va_get (D := (dC, dI)) (ci := 2) (v := .int co) (C := RM) (T := TM) (N := 17) hx hb hts lyM hown hK hP 0 rfl rfl 0 (by decide) (hts _ fl_M_37) (fun _ h9 => h9) rfl dM_thrown_1 ?_
  exact (W.iret (v := co) hx hb hr (fun t ht hW => ⟨⟨co, (), rfl, rfl, by rw [ht]; exact hP, va_K.moved hW.alike hK, hD⟩, hS.F ht⟩) hS.2.2 dM_thrown_4)
set_option maxHeartbeats 4000000 in
set_option maxRecDepth 100000 in
theorem k_M_clearAll (l : Launch) (dC : Nat → ClassId) (dI : Nat → Nat → Nat) (tI sz : Nat) (g0 aL aS aF aN aA aO aV aT : Nat) (kF : ClassId) (ff : Nat → Int32) (i0 i1 i2 i4 i6 i10 i13 i14 i16 : Int32) : Met l yM_clearAll (Cond.code yM_clearAll cM_clearAll 2 none :: GG) (lvr 0 0 0) (va_Pc [.ref g0] (wPre dC dI [(kF, .int)] [(g0, .inr (2, [.int i0, .int i1, .int i2, .ref aL, .int i4, .ref aS, .int i6, .ref aF, .ref aN, .ref aA, .int i10, .ref aO, .ref aV, .int i13, .int i14, .ref aT, .int i16])), (aF, .inl (kF, 17, .inl ff))] sz tI)) (va_Qv (fun (u : Nat → Int32) => ∀ k, k < 17 → u k = -1) (fun u t => wB dC dI [(kF, .int)] (va_A [(g0, .inr (2, [.int i0, .int i1, .int i2, .ref aL, .int i4, .ref aS, .int i6, .ref aF, .ref aN, .ref aA, .int i10, .ref aO, .ref aV, .int i13, .int i14, .ref aT, .int i16])), (aF, .inl (kF, 17, .inl ff))] sz) [(g0, .inr (2, [.int i0, .int 0, .int 0, .ref aL, .int 0, .ref aS, .int 0, .ref aF, .ref aN, .ref aA, .int 0, .ref aO, .ref aV, .int 0, .int i14, .ref aT, .int 0])), (aF, .inl (kF, 17, .inl u))] t) (va_A [(g0, .inr (2, [.int i0, .int i1, .int i2, .ref aL, .int i4, .ref aS, .int i6, .ref aF, .ref aN, .ref aA, .int i10, .ref aO, .ref aV, .int i13, .int i14, .ref aT, .int i16])), (aF, .inl (kF, 17, .inl ff))] sz)) 0 0 (va_A [(g0, .inr (2, [.int i0, .int i1, .int i2, .ref aL, .int i4, .ref aS, .int i6, .ref aF, .ref aN, .ref aA, .int i10, .ref aO, .ref aV, .int i13, .int i14, .ref aT, .int i16])), (aF, .inl (kF, 17, .inl ff))] sz) := by
  refine Met.ofW (cc := cM_clearAll) (maxL := 2) (ret := none) (by decide) rfl ?_
  intro p e s m args below meth c s₁ B hml hv
  obtain ⟨rfl, hsz, hP, hK, hD0, hZ, hX⟩ := hv
  have hx := B.exec
  have hb := B.bytes
  have hr := B.returns
  have hts : ∀ w ∈ GG, w.before ([.ref g0] : List Value).toArray s = true := fun w h => atoms_spec (ws := _ :: GG) B.pre w (List.mem_cons_of_mem _ h)
  have hown : s.vm.findClass RM = some m.cls := findClass_of_methodNamed B.named
  have hlocks := B.notSynchronized
  subst hsz
  have hD := hD0.self (sz := s.heap.size)
  generalize hAe : va_A [(g0, .inr (2, [.int i0, .int i1, .int i2, .ref aL, .int i4, .ref aS, .int i6, .ref aF, .ref aN, .ref aA, .int i10, .ref aO, .ref aV, .int i13, .int i14, .ref aT, .int i16])), (aF, .inl (kF, 17, .inl ff))] s.heap.size = A at hD hZ ⊢
  have hA : ∀ q : Nat, s.heap.size ≤ q → A q := fun q h => by rw [← hAe]; exact Or.inr h
  have hS : va_S A s.heap s.heap [] := va_S.rf
  have hl := lv_entry ([.ref g0]) (n := 2) (Nat.le_of_ble_eq_true rfl)
  rw [lg_entry_eq]
  generalize (lg_sl ([.ref g0]) ++ List.replicate (2 - (lg_sl ([.ref g0])).length) Slot.unset).toArray = ls at hl ⊢
  have hl : lv_has ls 2 [(0, .ref g0)] := hl
  have SF : CallFix p m c cM_clearAll 2 s ([.ref g0] : List Value).toArray GG RM := ⟨hx, hb, hml, hown, hts⟩
  skip
  have hP : va_P (dC, dI) vwCl [(g0, .inr (2, [.int i0, .int i1, .int i2, .ref aL, .int i4, .ref aS, .int i6, .ref aF, .ref aN, .ref aA, .int i10, .ref aO, .ref aV, .int i13, .int i14, .ref aT, .int i16])), (aF, .inl (kF, 17, .inl ff))] s.heap := hP
  refine lv_aload_n hx hb dM_clearAll_0 rfl (lv_at hl 0 rfl) ?_
  refine lv_iconst (v := 0) hx hb dM_clearAll_1 (by decide) ?_
  refine va_put (D := (dC, dI)) (ci := 2) (v := .int 0) (ty := .int) (C := RM) (T := TM) (N := 17) hx hb hts lyM tyM tyM_ok nmM hown hK hP hD hS 0 rfl rfl 1 (by decide) (hts _ fl_M_41) (fun _ h9 => h9) rfl (by decide +kernel) rfl rfl (Nat.le_of_ble_eq_true rfl) dM_clearAll_2 (fun H locs hP hD hS => ?_)
  have hP : va_P (dC, dI) vwCl [(g0, .inr (2, [.int i0, .int 0, .int i2, .ref aL, .int i4, .ref aS, .int i6, .ref aF, .ref aN, .ref aA, .int i10, .ref aO, .ref aV, .int i13, .int i14, .ref aT, .int i16])), (aF, .inl (kF, 17, .inl ff))] H := hP
  have hD : va_D A [(g0, .inr (2, [.int i0, .int 0, .int i2, .ref aL, .int i4, .ref aS, .int i6, .ref aF, .ref aN, .ref aA, .int i10, .ref aO, .ref aV, .int i13, .int i14, .ref aT, .int i16])), (aF, .inl (kF, 17, .inl ff))] := hD
  refine lv_aload_n hx hb dM_clearAll_5 rfl (lv_at hl 0 rfl) ?_
  refine lv_iconst (v := 0) hx hb dM_clearAll_6 (by decide) ?_
  refine va_put (D := (dC, dI)) (ci := 2) (v := .int 0) (ty := .int) (C := RM) (T := TM) (N := 17) hx hb hts lyM tyM tyM_ok nmM hown hK hP hD hS 0 rfl rfl 2 (by decide) (hts _ fl_M_44) (fun _ h9 => h9) rfl (by decide +kernel) rfl rfl (Nat.le_of_ble_eq_true rfl) dM_clearAll_7 (fun H locs hP hD hS => ?_)
  have hP : va_P (dC, dI) vwCl [(g0, .inr (2, [.int i0, .int 0, .int 0, .ref aL, .int i4, .ref aS, .int i6, .ref aF, .ref aN, .ref aA, .int i10, .ref aO, .ref aV, .int i13, .int i14, .ref aT, .int i16])), (aF, .inl (kF, 17, .inl ff))] H := hP
  have hD : va_D A [(g0, .inr (2, [.int i0, .int 0, .int 0, .ref aL, .int i4, .ref aS, .int i6, .ref aF, .ref aN, .ref aA, .int i10, .ref aO, .ref aV, .int i13, .int i14, .ref aT, .int i16])), (aF, .inl (kF, 17, .inl ff))] := hD
  refine lv_aload_n hx hb dM_clearAll_10 rfl (lv_at hl 0 rfl) ?_
  refine lv_iconst (v := 0) hx hb dM_clearAll_11 (by decide) ?_
  refine va_put (D := (dC, dI)) (ci := 2) (v := .int 0) (ty := .int) (C := RM) (T := TM) (N := 17) hx hb hts lyM tyM tyM_ok nmM hown hK hP hD hS 0 rfl rfl 4 (by decide) (hts _ fl_M_47) (fun _ h9 => h9) rfl (by decide +kernel) rfl rfl (Nat.le_of_ble_eq_true rfl) dM_clearAll_12 (fun H locs hP hD hS => ?_)
  have hP : va_P (dC, dI) vwCl [(g0, .inr (2, [.int i0, .int 0, .int 0, .ref aL, .int 0, .ref aS, .int i6, .ref aF, .ref aN, .ref aA, .int i10, .ref aO, .ref aV, .int i13, .int i14, .ref aT, .int i16])), (aF, .inl (kF, 17, .inl ff))] H := hP
  have hD : va_D A [(g0, .inr (2, [.int i0, .int 0, .int 0, .ref aL, .int 0, .ref aS, .int i6, .ref aF, .ref aN, .ref aA, .int i10, .ref aO, .ref aV, .int i13, .int i14, .ref aT, .int i16])), (aF, .inl (kF, 17, .inl ff))] := hD
  refine lv_aload_n hx hb dM_clearAll_15 rfl (lv_at hl 0 rfl) ?_
  refine lv_iconst (v := 0) hx hb dM_clearAll_16 (by decide) ?_
  refine va_put (D := (dC, dI)) (ci := 2) (v := .int 0) (ty := .int) (C := RM) (T := TM) (N := 17) hx hb hts lyM tyM tyM_ok nmM hown hK hP hD hS 0 rfl rfl 6 (by decide) (hts _ fl_M_50) (fun _ h9 => h9) rfl (by decide +kernel) rfl rfl (Nat.le_of_ble_eq_true rfl) dM_clearAll_17 (fun H locs hP hD hS => ?_)
  have hP : va_P (dC, dI) vwCl [(g0, .inr (2, [.int i0, .int 0, .int 0, .ref aL, .int 0, .ref aS, .int 0, .ref aF, .ref aN, .ref aA, .int i10, .ref aO, .ref aV, .int i13, .int i14, .ref aT, .int i16])), (aF, .inl (kF, 17, .inl ff))] H := hP
  have hD : va_D A [(g0, .inr (2, [.int i0, .int 0, .int 0, .ref aL, .int 0, .ref aS, .int 0, .ref aF, .ref aN, .ref aA, .int i10, .ref aO, .ref aV, .int i13, .int i14, .ref aT, .int i16])), (aF, .inl (kF, 17, .inl ff))] := hD
  refine lv_aload_n hx hb dM_clearAll_20 rfl (lv_at hl 0 rfl) ?_
  refine lv_iconst (v := 0) hx hb dM_clearAll_21 (by decide) ?_
  refine va_put (D := (dC, dI)) (ci := 2) (v := .int 0) (ty := .int) (C := RM) (T := TM) (N := 17) hx hb hts lyM tyM tyM_ok nmM hown hK hP hD hS 0 rfl rfl 10 (by decide) (hts _ fl_M_53) (fun _ h9 => h9) rfl (by decide +kernel) rfl rfl (Nat.le_of_ble_eq_true rfl) dM_clearAll_22 (fun H locs hP hD hS => ?_)
  have hP : va_P (dC, dI) vwCl [(g0, .inr (2, [.int i0, .int 0, .int 0, .ref aL, .int 0, .ref aS, .int 0, .ref aF, .ref aN, .ref aA, .int 0, .ref aO, .ref aV, .int i13, .int i14, .ref aT, .int i16])), (aF, .inl (kF, 17, .inl ff))] H := hP
  have hD : va_D A [(g0, .inr (2, [.int i0, .int 0, .int 0, .ref aL, .int 0, .ref aS, .int 0, .ref aF, .ref aN, .ref aA, .int 0, .ref aO, .ref aV, .int i13, .int i14, .ref aT, .int i16])), (aF, .inl (kF, 17, .inl ff))] := hD
  refine lv_aload_n hx hb dM_clearAll_25 rfl (lv_at hl 0 rfl) ?_
  refine lv_iconst (v := 0) hx hb dM_clearAll_26 (by decide) ?_
  refine va_put (D := (dC, dI)) (ci := 2) (v := .int 0) (ty := .int) (C := RM) (T := TM) (N := 17) hx hb hts lyM tyM tyM_ok nmM hown hK hP hD hS 0 rfl rfl 13 (by decide) (hts _ fl_M_56) (fun _ h9 => h9) rfl (by decide +kernel) rfl rfl (Nat.le_of_ble_eq_true rfl) dM_clearAll_27 (fun H locs hP hD hS => ?_)
  have hP : va_P (dC, dI) vwCl [(g0, .inr (2, [.int i0, .int 0, .int 0, .ref aL, .int 0, .ref aS, .int 0, .ref aF, .ref aN, .ref aA, .int 0, .ref aO, .ref aV, .int 0, .int i14, .ref aT, .int i16])), (aF, .inl (kF, 17, .inl ff))] H := hP
  have hD : va_D A [(g0, .inr (2, [.int i0, .int 0, .int 0, .ref aL, .int 0, .ref aS, .int 0, .ref aF, .ref aN, .ref aA, .int 0, .ref aO, .ref aV, .int 0, .int i14, .ref aT, .int i16])), (aF, .inl (kF, 17, .inl ff))] := hD
  refine lv_aload_n hx hb dM_clearAll_30 rfl (lv_at hl 0 rfl) ?_
  refine lv_iconst (v := 0) hx hb dM_clearAll_31 (by decide) ?_
  refine va_put (D := (dC, dI)) (ci := 2) (v := .int 0) (ty := .int) (C := RM) (T := TM) (N := 17) hx hb hts lyM tyM tyM_ok nmM hown hK hP hD hS 0 rfl rfl 16 (by decide) (hts _ fl_M_59) (fun _ h9 => h9) rfl (by decide +kernel) rfl rfl (Nat.le_of_ble_eq_true rfl) dM_clearAll_32 (fun H locs hP hD hS => ?_)
  have hP : va_P (dC, dI) vwCl [(g0, .inr (2, [.int i0, .int 0, .int 0, .ref aL, .int 0, .ref aS, .int 0, .ref aF, .ref aN, .ref aA, .int 0, .ref aO, .ref aV, .int 0, .int i14, .ref aT, .int 0])), (aF, .inl (kF, 17, .inl ff))] H := hP
  have hD : va_D A [(g0, .inr (2, [.int i0, .int 0, .int 0, .ref aL, .int 0, .ref aS, .int 0, .ref aF, .ref aN, .ref aA, .int 0, .ref aO, .ref aV, .int 0, .int i14, .ref aT, .int 0])), (aF, .inl (kF, 17, .inl ff))] := hD
  refine lv_iconst (v := 0) hx hb dM_clearAll_35 (by decide) ?_
  refine lv_istore_n (lv' := [(1, .int 0), (0, .ref g0)]) hx hb dM_clearAll_36 rfl hl (by decide) rfl (fun ls hl => ?_)
  refine lp_mu (α := Nat × (Nat → Int32)) (fun a_ => match a_ with | (i, g) => 17 - i) (fun a_ H locs ls => match a_ with | (i, g) => (i ≤ 17 ∧ ∀ k, k < i → g k = -1) ∧ va_P (dC, dI) vwCl [(g0, .inr (2, [.int i0, .int 0, .int 0, .ref aL, .int 0, .ref aS, .int 0, .ref aF, .ref aN, .ref aA, .int 0, .ref aO, .ref aV, .int 0, .int i14, .ref aT, .int 0])), (aF, .inl (kF, 17, .inl g))] H ∧ va_D A [(g0, .inr (2, [.int i0, .int 0, .int 0, .ref aL, .int 0, .ref aS, .int 0, .ref aF, .ref aN, .ref aA, .int 0, .ref aO, .ref aV, .int 0, .int i14, .ref aT, .int 0])), (aF, .inl (kF, 17, .inl g))] ∧ va_S A s.heap H locs ∧ lv_has ls 2 [(0, .ref g0), (1, .int (nI i))]) ?_ (0, ff) ⟨⟨Nat.zero_le _, fun k hk => absurd hk (Nat.not_lt_zero _)⟩, hP, hD, hS, lv_sub hl [1, 0] rfl⟩
  intro a_ H locs ls hI ih
  obtain ⟨i, g⟩ := a_
  obtain ⟨hI, hP, hD, hS, hl⟩ := hI
  have hI : i ≤ 17 ∧ ∀ k, k < i → g k = -1 := hI
  have hP : va_P (dC, dI) vwCl [(g0, .inr (2, [.int i0, .int 0, .int 0, .ref aL, .int 0, .ref aS, .int 0, .ref aF, .ref aN, .ref aA, .int 0, .ref aO, .ref aV, .int 0, .int i14, .ref aT, .int 0])), (aF, .inl (kF, 17, .inl g))] H := hP
  have hD : va_D A [(g0, .inr (2, [.int i0, .int 0, .int 0, .ref aL, .int 0, .ref aS, .int 0, .ref aF, .ref aN, .ref aA, .int 0, .ref aO, .ref aV, .int 0, .int i14, .ref aT, .int 0])), (aF, .inl (kF, 17, .inl g))] := hD
  have hl : lv_has ls 2 [(0, .ref g0), (1, .int (nI i))] := hl
  obtain ⟨hi, hg⟩ := hI
  refine lv_iload_n hx hb dM_clearAll_37 rfl (lv_at hl 1 rfl) ?_
  refine lv_bipush (v := 17) hx hb dM_clearAll_38 (by decide) ?_
  refine lv_icmp_ge (tgt := 56) hx hb dM_clearAll_40 (by decide) (fun c1 => ?_) (fun c1 => ?_)
  · have c1 : 17 ≤ i := (nI_leI (a := 17) (b := i) (by omega) (by omega)).mp c1
    exact (W.vret hx hb hr (fun t ht hW => ⟨⟨g, rfl, fun k hk => hg k (by omega), by rw [ht]; exact hP, va_K.moved hW.alike hK, hD⟩, hS.F ht⟩) hS.2.2 dM_clearAll_56)
  · have c1 : i < 17 := Nat.lt_of_not_le (fun q => c1 ((nI_leI (a := 17) (b := i) (by omega) (by omega)).mpr q))
    refine lv_aload_n hx hb dM_clearAll_43 rfl (lv_at hl 0 rfl) ?_
    refine va_get (D := (dC, dI)) (ci := 2) (v := .ref aF) (C := RM) (T := TM) (N := 17) hx hb hts lyM hown hK hP 0 rfl rfl 7 (by decide) (hts _ fl_M_16) (fun _ h9 => h9) rfl dM_clearAll_44 ?_
    refine lv_iload_n hx hb dM_clearAll_47 rfl (lv_at hl 1 rfl) ?_
    refine lv_iconst (v := (-1)) hx hb dM_clearAll_48 (by decide) ?_
    refine va_iast hx hb hK hP hD hS 1 0 rfl rfl (vp_in_nI (by omega) (by decide)) dM_clearAll_49 (fun H locs hP hD hS => ?_)
    rw [show upd g (nI i).toNatClampNeg (-1) = upd g i (-1) from by rw [nI_clamp (by omega)]] at hP hD
    have hP : va_P (dC, dI) vwCl [(g0, .inr (2, [.int i0, .int 0, .int 0, .ref aL, .int 0, .ref aS, .int 0, .ref aF, .ref aN, .ref aA, .int 0, .ref aO, .ref aV, .int 0, .int i14, .ref aT, .int 0])), (aF, .inl (kF, 17, .inl (upd g i (-1))))] H := hP
    have hD : va_D A [(g0, .inr (2, [.int i0, .int 0, .int 0, .ref aL, .int 0, .ref aS, .int 0, .ref aF, .ref aN, .ref aA, .int 0, .ref aO, .ref aV, .int 0, .int i14, .ref aT, .int 0])), (aF, .inl (kF, 17, .inl (upd g i (-1))))] := hD
    refine lv_iinc (v := nI (i + 1)) (lv' := [(1, .int (nI (i + 1))), (0, .ref g0)]) hx hb dM_clearAll_50 hl (k := 1) rfl (nI_1 _) (by decide) rfl (fun ls hl => ?_)
    refine lv_goto (tgt := 37) hx hb dM_clearAll_53 (by decide) ?_
    exact ih (i + 1, upd g i (-1)) _ _ _ (by show 17 - (i + 1) < 17 - i; omega) ⟨⟨c1, fun k hk => by
        unfold upd
        by_cases q : k = i
        · rw [if_pos q]
        · rw [if_neg q]; exact hg k (by omega)⟩, hP, hD, hS, lv_sub hl [1, 0] rfl⟩
set_option maxHeartbeats 4000000 in
set_option maxRecDepth 100000 in
theorem k_M_clear (l : Launch) (dC : Nat → ClassId) (dI : Nat → Nat → Nat) (tI sz : Nat) (g0 aL aS aF aN aA aO aV aT : Nat) (kF : ClassId) (ff : Nat → Int32) (i0 i1 i2 i4 i6 i10 i13 i14 i16 : Int32) : Met l yM_clear (Cond.code yM_clear cM_clear 1 none :: GG) (lvr 1 0 0) (va_Pc [.ref g0] (wPre dC dI [(kF, .int)] [(g0, .inr (2, [.int i0, .int i1, .int i2, .ref aL, .int i4, .ref aS, .int i6, .ref aF, .ref aN, .ref aA, .int i10, .ref aO, .ref aV, .int i13, .int i14, .ref aT, .int i16])), (aF, .inl (kF, 17, .inl ff))] sz tI)) (va_Qv (fun (u : Nat → Int32) => ∀ k, k < 17 → u k = -1) (fun u t => wB dC dI [(kF, .int)] (va_A [(g0, .inr (2, [.int i0, .int i1, .int i2, .ref aL, .int i4, .ref aS, .int i6, .ref aF, .ref aN, .ref aA, .int i10, .ref aO, .ref aV, .int i13, .int i14, .ref aT, .int i16])), (aF, .inl (kF, 17, .inl ff))] sz) [(g0, .inr (2, [.int 0, .int 0, .int 0, .ref aL, .int 0, .ref aS, .int 0, .ref aF, .ref aN, .ref aA, .int 0, .ref aO, .ref aV, .int 0, .int i14, .ref aT, .int 0])), (aF, .inl (kF, 17, .inl u))] t) (va_A [(g0, .inr (2, [.int i0, .int i1, .int i2, .ref aL, .int i4, .ref aS, .int i6, .ref aF, .ref aN, .ref aA, .int i10, .ref aO, .ref aV, .int i13, .int i14, .ref aT, .int i16])), (aF, .inl (kF, 17, .inl ff))] sz)) 0 0 (va_A [(g0, .inr (2, [.int i0, .int i1, .int i2, .ref aL, .int i4, .ref aS, .int i6, .ref aF, .ref aN, .ref aA, .int i10, .ref aO, .ref aV, .int i13, .int i14, .ref aT, .int i16])), (aF, .inl (kF, 17, .inl ff))] sz) := by
  refine Met.ofW (cc := cM_clear) (maxL := 1) (ret := none) (by decide) rfl ?_
  intro p e s m args below meth c s₁ B hml hv
  obtain ⟨rfl, hsz, hP, hK, hD0, hZ, hX⟩ := hv
  have hx := B.exec
  have hb := B.bytes
  have hr := B.returns
  have hts : ∀ w ∈ GG, w.before ([.ref g0] : List Value).toArray s = true := fun w h => atoms_spec (ws := _ :: GG) B.pre w (List.mem_cons_of_mem _ h)
  have hown : s.vm.findClass RM = some m.cls := findClass_of_methodNamed B.named
  have hlocks := B.notSynchronized
  subst hsz
  have hD := hD0.self (sz := s.heap.size)
  generalize hAe : va_A [(g0, .inr (2, [.int i0, .int i1, .int i2, .ref aL, .int i4, .ref aS, .int i6, .ref aF, .ref aN, .ref aA, .int i10, .ref aO, .ref aV, .int i13, .int i14, .ref aT, .int i16])), (aF, .inl (kF, 17, .inl ff))] s.heap.size = A at hD hZ ⊢
  have hA : ∀ q : Nat, s.heap.size ≤ q → A q := fun q h => by rw [← hAe]; exact Or.inr h
  have hS : va_S A s.heap s.heap [] := va_S.rf
  have hl := lv_entry ([.ref g0]) (n := 1) (Nat.le_of_ble_eq_true rfl)
  rw [lg_entry_eq]
  generalize (lg_sl ([.ref g0]) ++ List.replicate (1 - (lg_sl ([.ref g0])).length) Slot.unset).toArray = ls at hl ⊢
  have hl : lv_has ls 1 [(0, .ref g0)] := hl
  have SF : CallFix p m c cM_clear 1 s ([.ref g0] : List Value).toArray GG RM := ⟨hx, hb, hml, hown, hts⟩
  skip
  have hP : va_P (dC, dI) vwCl [(g0, .inr (2, [.int i0, .int i1, .int i2, .ref aL, .int i4, .ref aS, .int i6, .ref aF, .ref aN, .ref aA, .int i10, .ref aO, .ref aV, .int i13, .int i14, .ref aT, .int i16])), (aF, .inl (kF, 17, .inl ff))] s.heap := hP
  refine lv_aload_n hx hb dM_clear_0 rfl (lv_at hl 0 rfl) ?_
  refine lv_iconst (v := 0) hx hb dM_clear_1 (by decide) ?_
  refine va_put (D := (dC, dI)) (ci := 2) (v := .int 0) (ty := .int) (C := RM) (T := TM) (N := 17) hx hb hts lyM tyM tyM_ok nmM hown hK hP hD hS 0 rfl rfl 0 (by decide) (hts _ fl_M_37) (fun _ h9 => h9) rfl (by decide +kernel) rfl rfl (Nat.le_of_ble_eq_true rfl) dM_clear_2 (fun H locs hP hD hS => ?_)
  have hP : va_P (dC, dI) vwCl [(g0, .inr (2, [.int 0, .int i1, .int i2, .ref aL, .int i4, .ref aS, .int i6, .ref aF, .ref aN, .ref aA, .int i10, .ref aO, .ref aV, .int i13, .int i14, .ref aT, .int i16])), (aF, .inl (kF, 17, .inl ff))] H := hP
  have hD : va_D A [(g0, .inr (2, [.int 0, .int i1, .int i2, .ref aL, .int i4, .ref aS, .int i6, .ref aF, .ref aN, .ref aA, .int i10, .ref aO, .ref aV, .int i13, .int i14, .ref aT, .int i16])), (aF, .inl (kF, 17, .inl ff))] := hD
  refine lv_aload_n hx hb dM_clear_5 rfl (lv_at hl 0 rfl) ?_
  have hFc := va_free (wc := [(g0, .inr (2, [.int 0, .int i1, .int i2, .ref aL, .int i4, .ref aS, .int i6, .ref aF, .ref aN, .ref aA, .int i10, .ref aO, .ref aV, .int i13, .int i14, .ref aT, .int i16])), (aF, .inl (kF, 17, .inl ff))]) hD hS hA [0, 1] rfl
  refine wc_v (wc_V (As := []) (rest := []) (n := 0) SF (k_M_clearAll l dC dI tI _ g0 aL aS aF aN aA aO aV aT kF ff 0 i1 i2 i4 i6 i10 i13 i14 i16) ml_M_34 im_M_clearAll se_M_clearAll in_M co_M_clearAll (by decide +kernel) rfl rfl rfl ⟨Nat.le_of_ble_eq_true rfl, Nat.le_of_ble_eq_true rfl⟩ (va_recv (hK.sub (tys' := []) [] rfl) (hP.sub (ws' := [(g0, .inr (2, [.int 0, .int i1, .int i2, .ref aL, .int i4, .ref aS, .int i6, .ref aF, .ref aN, .ref aA, .int i10, .ref aO, .ref aV, .int i13, .int i14, .ref aT, .int i16])), (aF, .inl (kF, 17, .inl ff))]) [0, 1] rfl) (ci := 2) (q0 := 0) rfl rfl) (hP.sub [0, 1] rfl) (hD.sub [0, 1] (by decide) rfl) (hK.sub [0] rfl) hZ hX hS hFc rfl hl.1 (Nat.le_of_ble_eq_true rfl) dM_clear_6 ⟨Nat.le_of_ble_eq_true rfl, Nat.le_of_ble_eq_true rfl⟩) hP hD hS hFc [0, 1] [] (wr := []) rfl rfl rfl (by decide) (fun uu H locs hw hP hD hS => ?_)
  have hP : va_P (dC, dI) vwCl [(g0, .inr (2, [.int 0, .int 0, .int 0, .ref aL, .int 0, .ref aS, .int 0, .ref aF, .ref aN, .ref aA, .int 0, .ref aO, .ref aV, .int 0, .int i14, .ref aT, .int 0])), (aF, .inl (kF, 17, .inl uu))] H := hP.sub [0, 1] rfl
  have hD : va_D A [(g0, .inr (2, [.int 0, .int 0, .int 0, .ref aL, .int 0, .ref aS, .int 0, .ref aF, .ref aN, .ref aA, .int 0, .ref aO, .ref aV, .int 0, .int i14, .ref aT, .int 0])), (aF, .inl (kF, 17, .inl uu))] := hD.sub [0, 1] (by decide) rfl
  exact (W.vret hx hb hr (fun t ht hW => ⟨⟨uu, rfl, hw, by rw [ht]; exact hP, va_K.moved hW.alike hK, hD⟩, hS.F ht⟩) hS.2.2 dM_clear_9)
set_option maxHeartbeats 4000000 in
set_option maxRecDepth 100000 in
theorem k_M_variable (l : Launch) (dC : Nat → ClassId) (dI : Nat → Nat → Nat) (tI sz : Nat) (g0 aL aS aF aN aA aO aV aT : Nat) (nv nc us dr as th : Nat) (co la bl : Int32) (hnv : nv ≤ 16) : Met l yM_variable (Cond.code yM_variable cM_variable 1 (some .int) :: GG) (lvr 0 0 0) (va_Pc [.ref g0] (wPre dC dI [] [(g0, .inr (2, [.int co, .int (nI nv), .int (nI nc), .ref aL, .int (nI us), .ref aS, .int (nI dr), .ref aF, .ref aN, .ref aA, .int (nI as), .ref aO, .ref aV, .int la, .int bl, .ref aT, .int (nI th)]))] sz tI)) (va_Qi (fun (r : Int32) (u : Int32 × Nat) => (nv = 16 ∧ u = (1, nv)) ∨ (nv < 16 ∧ u = (0, nv + 1) ∧ r = nI nv)) (fun u t => wB dC dI [] (va_A [(g0, .inr (2, [.int co, .int (nI nv), .int (nI nc), .ref aL, .int (nI us), .ref aS, .int (nI dr), .ref aF, .ref aN, .ref aA, .int (nI as), .ref aO, .ref aV, .int la, .int bl, .ref aT, .int (nI th)]))] sz) [(g0, .inr (2, [.int u.1, .int (nI u.2), .int (nI nc), .ref aL, .int (nI us), .ref aS, .int (nI dr), .ref aF, .ref aN, .ref aA, .int (nI as), .ref aO, .ref aV, .int la, .int bl, .ref aT, .int (nI th)]))] t) (va_A [(g0, .inr (2, [.int co, .int (nI nv), .int (nI nc), .ref aL, .int (nI us), .ref aS, .int (nI dr), .ref aF, .ref aN, .ref aA, .int (nI as), .ref aO, .ref aV, .int la, .int bl, .ref aT, .int (nI th)]))] sz)) 0 0 (va_A [(g0, .inr (2, [.int co, .int (nI nv), .int (nI nc), .ref aL, .int (nI us), .ref aS, .int (nI dr), .ref aF, .ref aN, .ref aA, .int (nI as), .ref aO, .ref aV, .int la, .int bl, .ref aT, .int (nI th)]))] sz) := by
  refine Met.ofW (cc := cM_variable) (maxL := 1) (ret := (some .int)) (by decide) rfl ?_
  intro p e s m args below meth c s₁ B hml hv
  obtain ⟨rfl, hsz, hP, hK, hD0, hZ, hX⟩ := hv
  have hx := B.exec
  have hb := B.bytes
  have hr := B.returns
  have hts : ∀ w ∈ GG, w.before ([.ref g0] : List Value).toArray s = true := fun w h => atoms_spec (ws := _ :: GG) B.pre w (List.mem_cons_of_mem _ h)
  have hown : s.vm.findClass RM = some m.cls := findClass_of_methodNamed B.named
  have hlocks := B.notSynchronized
  subst hsz
  have hD := hD0.self (sz := s.heap.size)
  generalize hAe : va_A [(g0, .inr (2, [.int co, .int (nI nv), .int (nI nc), .ref aL, .int (nI us), .ref aS, .int (nI dr), .ref aF, .ref aN, .ref aA, .int (nI as), .ref aO, .ref aV, .int la, .int bl, .ref aT, .int (nI th)]))] s.heap.size = A at hD hZ ⊢
  have hA : ∀ q : Nat, s.heap.size ≤ q → A q := fun q h => by rw [← hAe]; exact Or.inr h
  have hS : va_S A s.heap s.heap [] := va_S.rf
  have hl := lv_entry ([.ref g0]) (n := 1) (Nat.le_of_ble_eq_true rfl)
  rw [lg_entry_eq]
  generalize (lg_sl ([.ref g0]) ++ List.replicate (1 - (lg_sl ([.ref g0])).length) Slot.unset).toArray = ls at hl ⊢
  have hl : lv_has ls 1 [(0, .ref g0)] := hl
  have SF : CallFix p m c cM_variable 1 s ([.ref g0] : List Value).toArray GG RM := ⟨hx, hb, hml, hown, hts⟩
  skip
  have hP : va_P (dC, dI) vwCl [(g0, .inr (2, [.int co, .int (nI nv), .int (nI nc), .ref aL, .int (nI us), .ref aS, .int (nI dr), .ref aF, .ref aN, .ref aA, .int (nI as), .ref aO, .ref aV, .int la, .int bl, .ref aT, .int (nI th)]))] s.heap := hP
  refine lv_aload_n hx hb dM_variable_0 rfl (lv_at hl 0 rfl) ?_
  refine lv_aload_n hx hb dM_variable_1 rfl (lv_at hl 0 rfl) ?_
  refine va_get (D := (dC, dI)) (ci := 2) (v := .int (nI nv)) (C := RM) (T := TM) (N := 17) hx hb hts lyM hown hK hP 0 rfl rfl 1 (by decide) (hts _ fl_M_41) (fun _ h9 => h9) rfl dM_variable_2 ?_
  refine lv_bipush (v := 16) hx hb dM_variable_5 (by decide) ?_
  refine lv_icmp_ne (tgt := 14) hx hb dM_variable_7 (by decide) (fun c1 => ?_) (fun c1 => ?_)
  · have c1 : nv ≠ 16 := fun q => c1 ((nI_eq (a := nv) (b := 16) (by omega) (by omega)).mpr q)
    refine lv_iconst (v := 0) hx hb dM_variable_14 (by decide) ?_
    refine va_put (D := (dC, dI)) (ci := 2) (v := .int 0) (ty := .int) (C := RM) (T := TM) (N := 17) hx hb hts lyM tyM tyM_ok nmM hown hK hP hD hS 0 rfl rfl 0 (by decide) (hts _ fl_M_37) (fun _ h9 => h9) rfl (by decide +kernel) rfl rfl (Nat.le_of_ble_eq_true rfl) dM_variable_15 (fun H locs hP hD hS => ?_)
    have hP : va_P (dC, dI) vwCl [(g0, .inr (2, [.int 0, .int (nI nv), .int (nI nc), .ref aL, .int (nI us), .ref aS, .int (nI dr), .ref aF, .ref aN, .ref aA, .int (nI as), .ref aO, .ref aV, .int la, .int bl, .ref aT, .int (nI th)]))] H := hP
    have hD : va_D A [(g0, .inr (2, [.int 0, .int (nI nv), .int (nI nc), .ref aL, .int (nI us), .ref aS, .int (nI dr), .ref aF, .ref aN, .ref aA, .int (nI as), .ref aO, .ref aV, .int la, .int bl, .ref aT, .int (nI th)]))] := hD
    refine lv_aload_n hx hb dM_variable_18 rfl (lv_at hl 0 rfl) ?_
    refine va_get (D := (dC, dI)) (ci := 2) (v := .int 0) (C := RM) (T := TM) (N := 17) hx hb hts lyM hown hK hP 0 rfl rfl 0 (by decide) (hts _ fl_M_37) (fun _ h9 => h9) rfl dM_variable_19 ?_
    refine lv_if_le (tgt := 27) hx hb dM_variable_22 (by decide) (fun c2 => ?_) (fun c2 => ?_)
    · refine lv_aload_n hx hb dM_variable_27 rfl (lv_at hl 0 rfl) ?_
      refine lv_dup hx hb dM_variable_28 rfl ?_
      refine va_get (D := (dC, dI)) (ci := 2) (v := .int (nI nv)) (C := RM) (T := TM) (N := 17) hx hb hts lyM hown hK hP 0 rfl rfl 1 (by decide) (hts _ fl_M_41) (fun _ h9 => h9) rfl dM_variable_29 ?_
      refine lv_iconst (v := 1) hx hb dM_variable_32 (by decide) ?_
      refine lv_iadd hx hb dM_variable_33 ?_
      refine ls_topi (y := nI (nv + 1)) (nI_1 _) ?_
      refine va_put (D := (dC, dI)) (ci := 2) (v := .int (nI (nv + 1))) (ty := .int) (C := RM) (T := TM) (N := 17) hx hb hts lyM tyM tyM_ok nmM hown hK hP hD hS 0 rfl rfl 1 (by decide) (hts _ fl_M_41) (fun _ h9 => h9) rfl (by decide +kernel) rfl rfl (Nat.le_of_ble_eq_true rfl) dM_variable_34 (fun H locs hP hD hS => ?_)
      have hP : va_P (dC, dI) vwCl [(g0, .inr (2, [.int 0, .int (nI (nv + 1)), .int (nI nc), .ref aL, .int (nI us), .ref aS, .int (nI dr), .ref aF, .ref aN, .ref aA, .int (nI as), .ref aO, .ref aV, .int la, .int bl, .ref aT, .int (nI th)]))] H := hP
      have hD : va_D A [(g0, .inr (2, [.int 0, .int (nI (nv + 1)), .int (nI nc), .ref aL, .int (nI us), .ref aS, .int (nI dr), .ref aF, .ref aN, .ref aA, .int (nI as), .ref aO, .ref aV, .int la, .int bl, .ref aT, .int (nI th)]))] := hD
      refine lv_aload_n hx hb dM_variable_37 rfl (lv_at hl 0 rfl) ?_
      refine va_get (D := (dC, dI)) (ci := 2) (v := .int (nI (nv + 1))) (C := RM) (T := TM) (N := 17) hx hb hts lyM hown hK hP 0 rfl rfl 1 (by decide) (hts _ fl_M_41) (fun _ h9 => h9) rfl dM_variable_38 ?_
      refine lv_iconst (v := 1) hx hb dM_variable_41 (by decide) ?_
      refine lv_isub hx hb dM_variable_42 ?_
      refine ls_topi (y := nI nv) (nI_pred _) ?_
      exact (W.iret (v := nI nv) hx hb hr (fun t ht hW => ⟨⟨nI nv, (0, nv + 1), rfl, Or.inr ⟨by omega, rfl, rfl⟩, by rw [ht]; exact hP, va_K.moved hW.alike hK, hD⟩, hS.F ht⟩) hS.2.2 dM_variable_43)
    · exact absurd (by decide) c2
  · have c1 : nv = 16 := (nI_eq (a := nv) (b := 16) (by omega) (by omega)).mp c1
    refine lv_iconst (v := 1) hx hb dM_variable_10 (by decide) ?_
    refine lv_goto (tgt := 15) hx hb dM_variable_11 (by decide) ?_
    refine va_put (D := (dC, dI)) (ci := 2) (v := .int 1) (ty := .int) (C := RM) (T := TM) (N := 17) hx hb hts lyM tyM tyM_ok nmM hown hK hP hD hS 0 rfl rfl 0 (by decide) (hts _ fl_M_37) (fun _ h9 => h9) rfl (by decide +kernel) rfl rfl (Nat.le_of_ble_eq_true rfl) dM_variable_15 (fun H locs hP hD hS => ?_)
    have hP : va_P (dC, dI) vwCl [(g0, .inr (2, [.int 1, .int (nI nv), .int (nI nc), .ref aL, .int (nI us), .ref aS, .int (nI dr), .ref aF, .ref aN, .ref aA, .int (nI as), .ref aO, .ref aV, .int la, .int bl, .ref aT, .int (nI th)]))] H := hP
    have hD : va_D A [(g0, .inr (2, [.int 1, .int (nI nv), .int (nI nc), .ref aL, .int (nI us), .ref aS, .int (nI dr), .ref aF, .ref aN, .ref aA, .int (nI as), .ref aO, .ref aV, .int la, .int bl, .ref aT, .int (nI th)]))] := hD
    refine lv_aload_n hx hb dM_variable_18 rfl (lv_at hl 0 rfl) ?_
    refine va_get (D := (dC, dI)) (ci := 2) (v := .int 1) (C := RM) (T := TM) (N := 17) hx hb hts lyM hown hK hP 0 rfl rfl 0 (by decide) (hts _ fl_M_37) (fun _ h9 => h9) rfl dM_variable_19 ?_
    refine lv_if_le (tgt := 27) hx hb dM_variable_22 (by decide) (fun c2 => ?_) (fun c2 => ?_)
    · exact absurd c2 (by decide)
    · refine lv_iconst (v := 0) hx hb dM_variable_25 (by decide) ?_
      exact (W.iret (v := 0) hx hb hr (fun t ht hW => ⟨⟨0, (1, nv), rfl, Or.inl ⟨c1, rfl⟩, by rw [ht]; exact hP, va_K.moved hW.alike hK, hD⟩, hS.F ht⟩) hS.2.2 dM_variable_26)
set_option maxHeartbeats 4000000 in
set_option maxRecDepth 100000 in
theorem k_M_isLiteral (l : Launch) (dC : Nat → ClassId) (dI : Nat → Nat → Nat) (tI sz : Nat) (g0 aL aS aF aN aA aO aV aT : Nat) (nv nc us dr as th : Nat) (co la bl : Int32) (x : Int32) (hnv : nv ≤ 16) : Met l yM_isLiteral (Cond.code yM_isLiteral cM_isLiteral 2 (some .boolean) :: GG) (lvr 0 0 0) (va_Pc [.ref g0, .int x] (wPre dC dI [] [(g0, .inr (2, [.int co, .int (nI nv), .int (nI nc), .ref aL, .int (nI us), .ref aS, .int (nI dr), .ref aF, .ref aN, .ref aA, .int (nI as), .ref aO, .ref aV, .int la, .int bl, .ref aT, .int (nI th)]))] sz tI)) (va_Qi (fun (r : Int32) (u : Unit) => (r = 1 ∧ (∃ L, L < 2 * nv ∧ x = nI L)) ∨ (r = 0 ∧ ¬ (∃ L, L < 2 * nv ∧ x = nI L))) (fun u t => wB dC dI [] (va_A [(g0, .inr (2, [.int co, .int (nI nv), .int (nI nc), .ref aL, .int (nI us), .ref aS, .int (nI dr), .ref aF, .ref aN, .ref aA, .int (nI as), .ref aO, .ref aV, .int la, .int bl, .ref aT, .int (nI th)]))] sz) [(g0, .inr (2, [.int co, .int (nI nv), .int (nI nc), .ref aL, .int (nI us), .ref aS, .int (nI dr), .ref aF, .ref aN, .ref aA, .int (nI as), .ref aO, .ref aV, .int la, .int bl, .ref aT, .int (nI th)]))] t) (va_A [(g0, .inr (2, [.int co, .int (nI nv), .int (nI nc), .ref aL, .int (nI us), .ref aS, .int (nI dr), .ref aF, .ref aN, .ref aA, .int (nI as), .ref aO, .ref aV, .int la, .int bl, .ref aT, .int (nI th)]))] sz)) 0 0 (va_A [(g0, .inr (2, [.int co, .int (nI nv), .int (nI nc), .ref aL, .int (nI us), .ref aS, .int (nI dr), .ref aF, .ref aN, .ref aA, .int (nI as), .ref aO, .ref aV, .int la, .int bl, .ref aT, .int (nI th)]))] sz) := by
  refine Met.ofW (cc := cM_isLiteral) (maxL := 2) (ret := (some .boolean)) (by decide) rfl ?_
  intro p e s m args below meth c s₁ B hml hv
  obtain ⟨rfl, hsz, hP, hK, hD0, hZ, hX⟩ := hv
  have hx := B.exec
  have hb := B.bytes
  have hr := B.returns
  have hts : ∀ w ∈ GG, w.before ([.ref g0, .int x] : List Value).toArray s = true := fun w h => atoms_spec (ws := _ :: GG) B.pre w (List.mem_cons_of_mem _ h)
  have hown : s.vm.findClass RM = some m.cls := findClass_of_methodNamed B.named
  have hlocks := B.notSynchronized
  subst hsz
  have hD := hD0.self (sz := s.heap.size)
  generalize hAe : va_A [(g0, .inr (2, [.int co, .int (nI nv), .int (nI nc), .ref aL, .int (nI us), .ref aS, .int (nI dr), .ref aF, .ref aN, .ref aA, .int (nI as), .ref aO, .ref aV, .int la, .int bl, .ref aT, .int (nI th)]))] s.heap.size = A at hD hZ ⊢
  have hA : ∀ q : Nat, s.heap.size ≤ q → A q := fun q h => by rw [← hAe]; exact Or.inr h
  have hS : va_S A s.heap s.heap [] := va_S.rf
  have hl := lv_entry ([.ref g0, .int x]) (n := 2) (Nat.le_of_ble_eq_true rfl)
  rw [lg_entry_eq]
  generalize (lg_sl ([.ref g0, .int x]) ++ List.replicate (2 - (lg_sl ([.ref g0, .int x])).length) Slot.unset).toArray = ls at hl ⊢
  have hl : lv_has ls 2 [(0, .ref g0), (1, .int x)] := hl
  have SF : CallFix p m c cM_isLiteral 2 s ([.ref g0, .int x] : List Value).toArray GG RM := ⟨hx, hb, hml, hown, hts⟩
  skip
  have hP : va_P (dC, dI) vwCl [(g0, .inr (2, [.int co, .int (nI nv), .int (nI nc), .ref aL, .int (nI us), .ref aS, .int (nI dr), .ref aF, .ref aN, .ref aA, .int (nI as), .ref aO, .ref aV, .int la, .int bl, .ref aT, .int (nI th)]))] s.heap := hP
  refine lv_iload_n hx hb dM_isLiteral_0 rfl (lv_at hl 1 rfl) ?_
  refine lv_if_lt (tgt := 18) hx hb dM_isLiteral_1 (by decide) (fun c1 => ?_) (fun c1 => ?_)
  · refine lv_iconst (v := 0) hx hb dM_isLiteral_18 (by decide) ?_
    exact (W.zret (v := 0) hx hb hr (rfl) (fun t ht hW => ⟨⟨0, (), rfl, Or.inr ⟨rfl, fun ⟨L, hL, e⟩ => absurd c1 (by rw [e]; exact nI_pos (by omega))⟩, by rw [ht]; exact hP, va_K.moved hW.alike hK, hD⟩, hS.F ht⟩) hS.2.2 dM_isLiteral_19)
  · refine lv_iload_n hx hb dM_isLiteral_4 rfl (lv_at hl 1 rfl) ?_
    refine lv_iconst (v := 2) hx hb dM_isLiteral_5 (by decide) ?_
    refine lv_aload_n hx hb dM_isLiteral_6 rfl (lv_at hl 0 rfl) ?_
    refine va_get (D := (dC, dI)) (ci := 2) (v := .int (nI nv)) (C := RM) (T := TM) (N := 17) hx hb hts lyM hown hK hP 0 rfl rfl 1 (by decide) (hts _ fl_M_41) (fun _ h9 => h9) rfl dM_isLiteral_7 ?_
    refine lv_imul hx hb dM_isLiteral_10 ?_
    refine ls_topi (y := nI (2 * nv)) (pk_mul 2 nv) ?_
    refine lv_icmp_ge (tgt := 18) hx hb dM_isLiteral_11 (by decide) (fun c2 => ?_) (fun c2 => ?_)
    · refine lv_iconst (v := 0) hx hb dM_isLiteral_18 (by decide) ?_
      exact (W.zret (v := 0) hx hb hr (rfl) (fun t ht hW => ⟨⟨0, (), rfl, Or.inr ⟨rfl, fun ⟨L, hL, e⟩ => absurd c2 (by rw [e]; exact nI_ge hL (by omega))⟩, by rw [ht]; exact hP, va_K.moved hW.alike hK, hD⟩, hS.F ht⟩) hS.2.2 dM_isLiteral_19)
    · obtain ⟨L, hL31, eL⟩ := nI_of c1
      refine lv_iconst (v := 1) hx hb dM_isLiteral_14 (by decide) ?_
      refine lv_goto (tgt := 19) hx hb dM_isLiteral_15 (by decide) ?_
      exact (W.zret (v := 1) hx hb hr (rfl) (fun t ht hW => ⟨⟨1, (), rfl, Or.inl ⟨rfl, L, Nat.lt_of_not_le (fun q => c2 (by rw [eL]; exact nI_le q (by omega))), eL⟩, by rw [ht]; exact hP, va_K.moved hW.alike hK, hD⟩, hS.F ht⟩) hS.2.2 dM_isLiteral_19)
set_option maxHeartbeats 4000000 in
set_option maxRecDepth 100000 in
theorem k_M_literal (l : Launch) (dC : Nat → ClassId) (dI : Nat → Nat → Nat) (tI sz : Nat) (g0 aL aS aF aN aA aO aV aT : Nat) (kL : ClassId) (lf : Nat → Int32) (nv nc us dr as th : Nat) (co la bl : Int32) (x : Int32) (hnv : nv ≤ 16) (hdr : dr ≤ 40) (hus : us + dr ≤ 4000) : Met l yM_literal (Cond.code yM_literal cM_literal 2 (some .int) :: GG) (lvr 1 0 0) (va_Pc [.ref g0, .int x] (wPre dC dI [(kL, .int)] [(g0, .inr (2, [.int co, .int (nI nv), .int (nI nc), .ref aL, .int (nI us), .ref aS, .int (nI dr), .ref aF, .ref aN, .ref aA, .int (nI as), .ref aO, .ref aV, .int la, .int bl, .ref aT, .int (nI th)])), (aL, .inl (kL, 4000, .inl lf))] sz tI)) (va_Qi (fun (r : Int32) (u : (Nat → Int32) × Int32 × Nat) => (u = (lf, 1, dr) ∧ ¬ (∃ L, L < 2 * nv ∧ x = nI L)) ∨ (u = (lf, 2, dr) ∧ (∃ L, L < 2 * nv ∧ x = nI L) ∧ (dr = 40 ∨ us + dr = 4000)) ∨ (u = (upd lf (us + dr) x, 0, dr + 1) ∧ (∃ L, L < 2 * nv ∧ x = nI L) ∧ dr < 40 ∧ us + dr < 4000 ∧ r = nI (dr + 1))) (fun u t => wB dC dI [(kL, .int)] (va_A [(g0, .inr (2, [.int co, .int (nI nv), .int (nI nc), .ref aL, .int (nI us), .ref aS, .int (nI dr), .ref aF, .ref aN, .ref aA, .int (nI as), .ref aO, .ref aV, .int la, .int bl, .ref aT, .int (nI th)])), (aL, .inl (kL, 4000, .inl lf))] sz) [(g0, .inr (2, [.int u.2.1, .int (nI nv), .int (nI nc), .ref aL, .int (nI us), .ref aS, .int (nI u.2.2), .ref aF, .ref aN, .ref aA, .int (nI as), .ref aO, .ref aV, .int la, .int bl, .ref aT, .int (nI th)])), (aL, .inl (kL, 4000, .inl u.1))] t) (va_A [(g0, .inr (2, [.int co, .int (nI nv), .int (nI nc), .ref aL, .int (nI us), .ref aS, .int (nI dr), .ref aF, .ref aN, .ref aA, .int (nI as), .ref aO, .ref aV, .int la, .int bl, .ref aT, .int (nI th)])), (aL, .inl (kL, 4000, .inl lf))] sz)) 0 0 (va_A [(g0, .inr (2, [.int co, .int (nI nv), .int (nI nc), .ref aL, .int (nI us), .ref aS, .int (nI dr), .ref aF, .ref aN, .ref aA, .int (nI as), .ref aO, .ref aV, .int la, .int bl, .ref aT, .int (nI th)])), (aL, .inl (kL, 4000, .inl lf))] sz) := by
  refine Met.ofW (cc := cM_literal) (maxL := 2) (ret := (some .int)) (by decide) rfl ?_
  intro p e s m args below meth c s₁ B hml hv
  obtain ⟨rfl, hsz, hP, hK, hD0, hZ, hX⟩ := hv
  have hx := B.exec
  have hb := B.bytes
  have hr := B.returns
  have hts : ∀ w ∈ GG, w.before ([.ref g0, .int x] : List Value).toArray s = true := fun w h => atoms_spec (ws := _ :: GG) B.pre w (List.mem_cons_of_mem _ h)
  have hown : s.vm.findClass RM = some m.cls := findClass_of_methodNamed B.named
  have hlocks := B.notSynchronized
  subst hsz
  have hD := hD0.self (sz := s.heap.size)
  generalize hAe : va_A [(g0, .inr (2, [.int co, .int (nI nv), .int (nI nc), .ref aL, .int (nI us), .ref aS, .int (nI dr), .ref aF, .ref aN, .ref aA, .int (nI as), .ref aO, .ref aV, .int la, .int bl, .ref aT, .int (nI th)])), (aL, .inl (kL, 4000, .inl lf))] s.heap.size = A at hD hZ ⊢
  have hA : ∀ q : Nat, s.heap.size ≤ q → A q := fun q h => by rw [← hAe]; exact Or.inr h
  have hS : va_S A s.heap s.heap [] := va_S.rf
  have hl := lv_entry ([.ref g0, .int x]) (n := 2) (Nat.le_of_ble_eq_true rfl)
  rw [lg_entry_eq]
  generalize (lg_sl ([.ref g0, .int x]) ++ List.replicate (2 - (lg_sl ([.ref g0, .int x])).length) Slot.unset).toArray = ls at hl ⊢
  have hl : lv_has ls 2 [(0, .ref g0), (1, .int x)] := hl
  have SF : CallFix p m c cM_literal 2 s ([.ref g0, .int x] : List Value).toArray GG RM := ⟨hx, hb, hml, hown, hts⟩
  skip
  have hP : va_P (dC, dI) vwCl [(g0, .inr (2, [.int co, .int (nI nv), .int (nI nc), .ref aL, .int (nI us), .ref aS, .int (nI dr), .ref aF, .ref aN, .ref aA, .int (nI as), .ref aO, .ref aV, .int la, .int bl, .ref aT, .int (nI th)])), (aL, .inl (kL, 4000, .inl lf))] s.heap := hP
  refine lv_aload_n hx hb dM_literal_0 rfl (lv_at hl 0 rfl) ?_
  refine lv_aload_n hx hb dM_literal_1 rfl (lv_at hl 0 rfl) ?_
  refine lv_iload_n hx hb dM_literal_2 rfl (lv_at hl 1 rfl) ?_
  have hFc := va_free (wc := [(g0, .inr (2, [.int co, .int (nI nv), .int (nI nc), .ref aL, .int (nI us), .ref aS, .int (nI dr), .ref aF, .ref aN, .ref aA, .int (nI as), .ref aO, .ref aV, .int la, .int bl, .ref aT, .int (nI th)]))]) hD hS hA [0] rfl
  refine wc_i (wc_V (As := [.int x]) (rest := [.ref g0]) (n := 1) SF (k_M_isLiteral l dC dI tI _ g0 aL aS aF aN aA aO aV aT nv nc us dr as th co la bl x hnv) ml_M_62 im_M_isLiteral se_M_isLiteral in_M co_M_isLiteral (by decide +kernel) rfl rfl rfl ⟨Nat.le_of_ble_eq_true rfl, Nat.le_of_ble_eq_true rfl⟩ (va_recv (hK.sub (tys' := []) [] rfl) (hP.sub (ws' := [(g0, .inr (2, [.int co, .int (nI nv), .int (nI nc), .ref aL, .int (nI us), .ref aS, .int (nI dr), .ref aF, .ref aN, .ref aA, .int (nI as), .ref aO, .ref aV, .int la, .int bl, .ref aT, .int (nI th)]))]) [0] rfl) (ci := 2) (q0 := 0) rfl rfl) (hP.sub [0] rfl) (hD.sub [0] (by decide) rfl) (hK.sub [] rfl) hZ hX hS hFc rfl hl.1 (Nat.le_of_ble_eq_true rfl) dM_literal_3 ⟨Nat.le_of_ble_eq_true rfl, Nat.le_of_ble_eq_true rfl⟩) hP hD hS hFc [0] [1] (wr := [(aL, .inl (kL, 4000, .inl lf))]) rfl rfl rfl (by decide) (fun z uu H locs hw hP hD hS => ?_)
  have hP : va_P (dC, dI) vwCl [(g0, .inr (2, [.int co, .int (nI nv), .int (nI nc), .ref aL, .int (nI us), .ref aS, .int (nI dr), .ref aF, .ref aN, .ref aA, .int (nI as), .ref aO, .ref aV, .int la, .int bl, .ref aT, .int (nI th)])), (aL, .inl (kL, 4000, .inl lf))] H := hP.sub [1, 0] rfl
  have hD : va_D A [(g0, .inr (2, [.int co, .int (nI nv), .int (nI nc), .ref aL, .int (nI us), .ref aS, .int (nI dr), .ref aF, .ref aN, .ref aA, .int (nI as), .ref aO, .ref aV, .int la, .int bl, .ref aT, .int (nI th)])), (aL, .inl (kL, 4000, .inl lf))] := hD.sub [1, 0] (by decide) rfl
  refine lv_if_ne (tgt := 13) hx hb dM_literal_6 (by decide) (fun c1 => ?_) (fun c1 => ?_)
  · have hlit : (∃ L, L < 2 * nv ∧ x = nI L) := by
      rcases hw with ⟨_, q⟩ | ⟨q, _⟩
      · exact q
      · exact absurd q c1
    refine lv_aload_n hx hb dM_literal_13 rfl (lv_at hl 0 rfl) ?_
    refine va_get (D := (dC, dI)) (ci := 2) (v := .int (nI dr)) (C := RM) (T := TM) (N := 17) hx hb hts lyM hown hK hP 0 rfl rfl 6 (by decide) (hts _ fl_M_50) (fun _ h9 => h9) rfl dM_literal_14 ?_
    refine lv_bipush (v := 40) hx hb dM_literal_17 (by decide) ?_
    refine lv_icmp_eq (tgt := 37) hx hb dM_literal_19 (by decide) (fun c2 => ?_) (fun c2 => ?_)
    · have c2 : dr = 40 := (nI_eq (a := dr) (b := 40) (by omega) (by omega)).mp c2
      refine lv_iconst (v := 2) hx hb dM_literal_37 (by decide) ?_
      refine lv_goto (tgt := 42) hx hb dM_literal_38 (by decide) ?_
      refine va_put (D := (dC, dI)) (ci := 2) (v := .int 2) (ty := .int) (C := RM) (T := TM) (N := 17) hx hb hts lyM tyM tyM_ok nmM hown hK hP hD hS 0 rfl rfl 0 (by decide) (hts _ fl_M_37) (fun _ h9 => h9) rfl (by decide +kernel) rfl rfl (Nat.le_of_ble_eq_true rfl) dM_literal_42 (fun H locs hP hD hS => ?_)
      have hP : va_P (dC, dI) vwCl [(g0, .inr (2, [.int 2, .int (nI nv), .int (nI nc), .ref aL, .int (nI us), .ref aS, .int (nI dr), .ref aF, .ref aN, .ref aA, .int (nI as), .ref aO, .ref aV, .int la, .int bl, .ref aT, .int (nI th)])), (aL, .inl (kL, 4000, .inl lf))] H := hP
      have hD : va_D A [(g0, .inr (2, [.int 2, .int (nI nv), .int (nI nc), .ref aL, .int (nI us), .ref aS, .int (nI dr), .ref aF, .ref aN, .ref aA, .int (nI as), .ref aO, .ref aV, .int la, .int bl, .ref aT, .int (nI th)])), (aL, .inl (kL, 4000, .inl lf))] := hD
      refine lv_aload_n hx hb dM_literal_45 rfl (lv_at hl 0 rfl) ?_
      refine va_get (D := (dC, dI)) (ci := 2) (v := .int 2) (C := RM) (T := TM) (N := 17) hx hb hts lyM hown hK hP 0 rfl rfl 0 (by decide) (hts _ fl_M_37) (fun _ h9 => h9) rfl dM_literal_46 ?_
      refine lv_if_le (tgt := 54) hx hb dM_literal_49 (by decide) (fun c9 => ?_) (fun c9 => ?_)
      · exact absurd c9 (by decide)
      · refine lv_iconst (v := 0) hx hb dM_literal_52 (by decide) ?_
        exact (W.iret (v := 0) hx hb hr (fun t ht hW => ⟨⟨0, (lf, 2, dr), rfl, Or.inr (Or.inl ⟨rfl, ⟨hlit, Or.inl c2⟩⟩), by rw [ht]; exact hP, va_K.moved hW.alike hK, hD⟩, hS.F ht⟩) hS.2.2 dM_literal_53)
    · have c2 : dr ≠ 40 := fun q => c2 ((nI_eq (a := dr) (b := 40) (by omega) (by omega)).mpr q)
      refine lv_aload_n hx hb dM_literal_22 rfl (lv_at hl 0 rfl) ?_
      refine va_get (D := (dC, dI)) (ci := 2) (v := .int (nI us)) (C := RM) (T := TM) (N := 17) hx hb hts lyM hown hK hP 0 rfl rfl 4 (by decide) (hts _ fl_M_47) (fun _ h9 => h9) rfl dM_literal_23 ?_
      refine lv_aload_n hx hb dM_literal_26 rfl (lv_at hl 0 rfl) ?_
      refine va_get (D := (dC, dI)) (ci := 2) (v := .int (nI dr)) (C := RM) (T := TM) (N := 17) hx hb hts lyM hown hK hP 0 rfl rfl 6 (by decide) (hts _ fl_M_50) (fun _ h9 => h9) rfl dM_literal_27 ?_
      refine lv_iadd hx hb dM_literal_30 ?_
      refine ls_topi (y := nI (us + dr)) (nI_add _ _) ?_
      refine lv_sipush (v := 4000) hx hb dM_literal_31 (by decide) ?_
      refine lv_icmp_ne (tgt := 41) hx hb dM_literal_34 (by decide) (fun c3 => ?_) (fun c3 => ?_)
      · have c3 : (us + dr) ≠ 4000 := fun q => c3 ((nI_eq (a := (us + dr)) (b := 4000) (by omega) (by omega)).mpr q)
        refine lv_iconst (v := 0) hx hb dM_literal_41 (by decide) ?_
        refine va_put (D := (dC, dI)) (ci := 2) (v := .int 0) (ty := .int) (C := RM) (T := TM) (N := 17) hx hb hts lyM tyM tyM_ok nmM hown hK hP hD hS 0 rfl rfl 0 (by decide) (hts _ fl_M_37) (fun _ h9 => h9) rfl (by decide +kernel) rfl rfl (Nat.le_of_ble_eq_true rfl) dM_literal_42 (fun H locs hP hD hS => ?_)
        have hP : va_P (dC, dI) vwCl [(g0, .inr (2, [.int 0, .int (nI nv), .int (nI nc), .ref aL, .int (nI us), .ref aS, .int (nI dr), .ref aF, .ref aN, .ref aA, .int (nI as), .ref aO, .ref aV, .int la, .int bl, .ref aT, .int (nI th)])), (aL, .inl (kL, 4000, .inl lf))] H := hP
        have hD : va_D A [(g0, .inr (2, [.int 0, .int (nI nv), .int (nI nc), .ref aL, .int (nI us), .ref aS, .int (nI dr), .ref aF, .ref aN, .ref aA, .int (nI as), .ref aO, .ref aV, .int la, .int bl, .ref aT, .int (nI th)])), (aL, .inl (kL, 4000, .inl lf))] := hD
        refine lv_aload_n hx hb dM_literal_45 rfl (lv_at hl 0 rfl) ?_
        refine va_get (D := (dC, dI)) (ci := 2) (v := .int 0) (C := RM) (T := TM) (N := 17) hx hb hts lyM hown hK hP 0 rfl rfl 0 (by decide) (hts _ fl_M_37) (fun _ h9 => h9) rfl dM_literal_46 ?_
        refine lv_if_le (tgt := 54) hx hb dM_literal_49 (by decide) (fun c9 => ?_) (fun c9 => ?_)
        · refine lv_aload_n hx hb dM_literal_54 rfl (lv_at hl 0 rfl) ?_
          refine va_get (D := (dC, dI)) (ci := 2) (v := .ref aL) (C := RM) (T := TM) (N := 17) hx hb hts lyM hown hK hP 0 rfl rfl 3 (by decide) (hts _ fl_M_7) (fun _ h9 => h9) rfl dM_literal_55 ?_
          refine lv_aload_n hx hb dM_literal_58 rfl (lv_at hl 0 rfl) ?_
          refine va_get (D := (dC, dI)) (ci := 2) (v := .int (nI us)) (C := RM) (T := TM) (N := 17) hx hb hts lyM hown hK hP 0 rfl rfl 4 (by decide) (hts _ fl_M_47) (fun _ h9 => h9) rfl dM_literal_59 ?_
          refine lv_aload_n hx hb dM_literal_62 rfl (lv_at hl 0 rfl) ?_
          refine va_get (D := (dC, dI)) (ci := 2) (v := .int (nI dr)) (C := RM) (T := TM) (N := 17) hx hb hts lyM hown hK hP 0 rfl rfl 6 (by decide) (hts _ fl_M_50) (fun _ h9 => h9) rfl dM_literal_63 ?_
          refine lv_iadd hx hb dM_literal_66 ?_
          refine ls_topi (y := nI (us + dr)) (nI_add _ _) ?_
          refine lv_iload_n hx hb dM_literal_67 rfl (lv_at hl 1 rfl) ?_
          refine va_iast hx hb hK hP hD hS 1 0 rfl rfl (vp_in_nI (by omega) (by decide)) dM_literal_68 (fun H locs hP hD hS => ?_)
          rw [show upd lf (nI (us + dr)).toNatClampNeg x = upd lf (us + dr) x from by rw [nI_clamp (by omega)]] at hP hD
          have hP : va_P (dC, dI) vwCl [(g0, .inr (2, [.int 0, .int (nI nv), .int (nI nc), .ref aL, .int (nI us), .ref aS, .int (nI dr), .ref aF, .ref aN, .ref aA, .int (nI as), .ref aO, .ref aV, .int la, .int bl, .ref aT, .int (nI th)])), (aL, .inl (kL, 4000, .inl (upd lf (us + dr) x)))] H := hP
          have hD : va_D A [(g0, .inr (2, [.int 0, .int (nI nv), .int (nI nc), .ref aL, .int (nI us), .ref aS, .int (nI dr), .ref aF, .ref aN, .ref aA, .int (nI as), .ref aO, .ref aV, .int la, .int bl, .ref aT, .int (nI th)])), (aL, .inl (kL, 4000, .inl (upd lf (us + dr) x)))] := hD
          refine lv_aload_n hx hb dM_literal_69 rfl (lv_at hl 0 rfl) ?_
          refine lv_dup hx hb dM_literal_70 rfl ?_
          refine va_get (D := (dC, dI)) (ci := 2) (v := .int (nI dr)) (C := RM) (T := TM) (N := 17) hx hb hts lyM hown hK hP 0 rfl rfl 6 (by decide) (hts _ fl_M_50) (fun _ h9 => h9) rfl dM_literal_71 ?_
          refine lv_iconst (v := 1) hx hb dM_literal_74 (by decide) ?_
          refine lv_iadd hx hb dM_literal_75 ?_
          refine ls_topi (y := nI (dr + 1)) (nI_1 _) ?_
          refine va_put (D := (dC, dI)) (ci := 2) (v := .int (nI (dr + 1))) (ty := .int) (C := RM) (T := TM) (N := 17) hx hb hts lyM tyM tyM_ok nmM hown hK hP hD hS 0 rfl rfl 6 (by decide) (hts _ fl_M_50) (fun _ h9 => h9) rfl (by decide +kernel) rfl rfl (Nat.le_of_ble_eq_true rfl) dM_literal_76 (fun H locs hP hD hS => ?_)
          have hP : va_P (dC, dI) vwCl [(g0, .inr (2, [.int 0, .int (nI nv), .int (nI nc), .ref aL, .int (nI us), .ref aS, .int (nI (dr + 1)), .ref aF, .ref aN, .ref aA, .int (nI as), .ref aO, .ref aV, .int la, .int bl, .ref aT, .int (nI th)])), (aL, .inl (kL, 4000, .inl (upd lf (us + dr) x)))] H := hP
          have hD : va_D A [(g0, .inr (2, [.int 0, .int (nI nv), .int (nI nc), .ref aL, .int (nI us), .ref aS, .int (nI (dr + 1)), .ref aF, .ref aN, .ref aA, .int (nI as), .ref aO, .ref aV, .int la, .int bl, .ref aT, .int (nI th)])), (aL, .inl (kL, 4000, .inl (upd lf (us + dr) x)))] := hD
          refine lv_aload_n hx hb dM_literal_79 rfl (lv_at hl 0 rfl) ?_
          refine va_get (D := (dC, dI)) (ci := 2) (v := .int (nI (dr + 1))) (C := RM) (T := TM) (N := 17) hx hb hts lyM hown hK hP 0 rfl rfl 6 (by decide) (hts _ fl_M_50) (fun _ h9 => h9) rfl dM_literal_80 ?_
          exact (W.iret (v := nI (dr + 1)) hx hb hr (fun t ht hW => ⟨⟨nI (dr + 1), (upd lf (us + dr) x, 0, dr + 1), rfl, Or.inr (Or.inr ⟨rfl, hlit, by omega, by omega, rfl⟩), by rw [ht]; exact hP, va_K.moved hW.alike hK, hD⟩, hS.F ht⟩) hS.2.2 dM_literal_83)
        · exact absurd (by decide) c9
      · have c3 : (us + dr) = 4000 := (nI_eq (a := (us + dr)) (b := 4000) (by omega) (by omega)).mp c3
        refine lv_iconst (v := 2) hx hb dM_literal_37 (by decide) ?_
        refine lv_goto (tgt := 42) hx hb dM_literal_38 (by decide) ?_
        refine va_put (D := (dC, dI)) (ci := 2) (v := .int 2) (ty := .int) (C := RM) (T := TM) (N := 17) hx hb hts lyM tyM tyM_ok nmM hown hK hP hD hS 0 rfl rfl 0 (by decide) (hts _ fl_M_37) (fun _ h9 => h9) rfl (by decide +kernel) rfl rfl (Nat.le_of_ble_eq_true rfl) dM_literal_42 (fun H locs hP hD hS => ?_)
        have hP : va_P (dC, dI) vwCl [(g0, .inr (2, [.int 2, .int (nI nv), .int (nI nc), .ref aL, .int (nI us), .ref aS, .int (nI dr), .ref aF, .ref aN, .ref aA, .int (nI as), .ref aO, .ref aV, .int la, .int bl, .ref aT, .int (nI th)])), (aL, .inl (kL, 4000, .inl lf))] H := hP
        have hD : va_D A [(g0, .inr (2, [.int 2, .int (nI nv), .int (nI nc), .ref aL, .int (nI us), .ref aS, .int (nI dr), .ref aF, .ref aN, .ref aA, .int (nI as), .ref aO, .ref aV, .int la, .int bl, .ref aT, .int (nI th)])), (aL, .inl (kL, 4000, .inl lf))] := hD
        refine lv_aload_n hx hb dM_literal_45 rfl (lv_at hl 0 rfl) ?_
        refine va_get (D := (dC, dI)) (ci := 2) (v := .int 2) (C := RM) (T := TM) (N := 17) hx hb hts lyM hown hK hP 0 rfl rfl 0 (by decide) (hts _ fl_M_37) (fun _ h9 => h9) rfl dM_literal_46 ?_
        refine lv_if_le (tgt := 54) hx hb dM_literal_49 (by decide) (fun c9 => ?_) (fun c9 => ?_)
        · exact absurd c9 (by decide)
        · refine lv_iconst (v := 0) hx hb dM_literal_52 (by decide) ?_
          exact (W.iret (v := 0) hx hb hr (fun t ht hW => ⟨⟨0, (lf, 2, dr), rfl, Or.inr (Or.inl ⟨rfl, ⟨hlit, Or.inr c3⟩⟩), by rw [ht]; exact hP, va_K.moved hW.alike hK, hD⟩, hS.F ht⟩) hS.2.2 dM_literal_53)
  · have hnl : ¬ (∃ L, L < 2 * nv ∧ x = nI L) := by
      rcases hw with ⟨q, _⟩ | ⟨_, q⟩
      · rw [q] at c1; exact absurd c1 (by decide)
      · exact q
    refine lv_iconst (v := 1) hx hb dM_literal_9 (by decide) ?_
    refine lv_goto (tgt := 42) hx hb dM_literal_10 (by decide) ?_
    refine va_put (D := (dC, dI)) (ci := 2) (v := .int 1) (ty := .int) (C := RM) (T := TM) (N := 17) hx hb hts lyM tyM tyM_ok nmM hown hK hP hD hS 0 rfl rfl 0 (by decide) (hts _ fl_M_37) (fun _ h9 => h9) rfl (by decide +kernel) rfl rfl (Nat.le_of_ble_eq_true rfl) dM_literal_42 (fun H locs hP hD hS => ?_)
    have hP : va_P (dC, dI) vwCl [(g0, .inr (2, [.int 1, .int (nI nv), .int (nI nc), .ref aL, .int (nI us), .ref aS, .int (nI dr), .ref aF, .ref aN, .ref aA, .int (nI as), .ref aO, .ref aV, .int la, .int bl, .ref aT, .int (nI th)])), (aL, .inl (kL, 4000, .inl lf))] H := hP
    have hD : va_D A [(g0, .inr (2, [.int 1, .int (nI nv), .int (nI nc), .ref aL, .int (nI us), .ref aS, .int (nI dr), .ref aF, .ref aN, .ref aA, .int (nI as), .ref aO, .ref aV, .int la, .int bl, .ref aT, .int (nI th)])), (aL, .inl (kL, 4000, .inl lf))] := hD
    refine lv_aload_n hx hb dM_literal_45 rfl (lv_at hl 0 rfl) ?_
    refine va_get (D := (dC, dI)) (ci := 2) (v := .int 1) (C := RM) (T := TM) (N := 17) hx hb hts lyM hown hK hP 0 rfl rfl 0 (by decide) (hts _ fl_M_37) (fun _ h9 => h9) rfl dM_literal_46 ?_
    refine lv_if_le (tgt := 54) hx hb dM_literal_49 (by decide) (fun c9 => ?_) (fun c9 => ?_)
    · exact absurd c9 (by decide)
    · refine lv_iconst (v := 0) hx hb dM_literal_52 (by decide) ?_
      exact (W.iret (v := 0) hx hb hr (fun t ht hW => ⟨⟨0, (lf, 1, dr), rfl, Or.inl ⟨rfl, hnl⟩, by rw [ht]; exact hP, va_K.moved hW.alike hK, hD⟩, hS.F ht⟩) hS.2.2 dM_literal_53)
set_option maxHeartbeats 4000000 in
set_option maxRecDepth 100000 in
theorem k_M_assume (l : Launch) (dC : Nat → ClassId) (dI : Nat → Nat → Nat) (tI sz : Nat) (g0 aL aS aF aN aA aO aV aT : Nat) (kA : ClassId) (af : Nat → Int32) (nv nc us dr as th : Nat) (co la bl : Int32) (x : Int32) (hnv : nv ≤ 16) (has : as ≤ 64) : Met l yM_assume (Cond.code yM_assume cM_assume 2 (some .int) :: GG) (lvr 1 0 0) (va_Pc [.ref g0, .int x] (wPre dC dI [(kA, .int)] [(g0, .inr (2, [.int co, .int (nI nv), .int (nI nc), .ref aL, .int (nI us), .ref aS, .int (nI dr), .ref aF, .ref aN, .ref aA, .int (nI as), .ref aO, .ref aV, .int la, .int bl, .ref aT, .int (nI th)])), (aA, .inl (kA, 64, .inl af))] sz tI)) (va_Qi (fun (r : Int32) (u : (Nat → Int32) × Int32 × Nat) => (u = (af, 1, as) ∧ ¬ (∃ L, L < 2 * nv ∧ x = nI L)) ∨ (u = (af, 2, as) ∧ (∃ L, L < 2 * nv ∧ x = nI L) ∧ as = 64) ∨ (u = (upd af as x, 0, as + 1) ∧ (∃ L, L < 2 * nv ∧ x = nI L) ∧ as < 64 ∧ r = nI (as + 1))) (fun u t => wB dC dI [(kA, .int)] (va_A [(g0, .inr (2, [.int co, .int (nI nv), .int (nI nc), .ref aL, .int (nI us), .ref aS, .int (nI dr), .ref aF, .ref aN, .ref aA, .int (nI as), .ref aO, .ref aV, .int la, .int bl, .ref aT, .int (nI th)])), (aA, .inl (kA, 64, .inl af))] sz) [(g0, .inr (2, [.int u.2.1, .int (nI nv), .int (nI nc), .ref aL, .int (nI us), .ref aS, .int (nI dr), .ref aF, .ref aN, .ref aA, .int (nI u.2.2), .ref aO, .ref aV, .int la, .int bl, .ref aT, .int (nI th)])), (aA, .inl (kA, 64, .inl u.1))] t) (va_A [(g0, .inr (2, [.int co, .int (nI nv), .int (nI nc), .ref aL, .int (nI us), .ref aS, .int (nI dr), .ref aF, .ref aN, .ref aA, .int (nI as), .ref aO, .ref aV, .int la, .int bl, .ref aT, .int (nI th)])), (aA, .inl (kA, 64, .inl af))] sz)) 0 0 (va_A [(g0, .inr (2, [.int co, .int (nI nv), .int (nI nc), .ref aL, .int (nI us), .ref aS, .int (nI dr), .ref aF, .ref aN, .ref aA, .int (nI as), .ref aO, .ref aV, .int la, .int bl, .ref aT, .int (nI th)])), (aA, .inl (kA, 64, .inl af))] sz) := by
  refine Met.ofW (cc := cM_assume) (maxL := 2) (ret := (some .int)) (by decide) rfl ?_
  intro p e s m args below meth c s₁ B hml hv
  obtain ⟨rfl, hsz, hP, hK, hD0, hZ, hX⟩ := hv
  have hx := B.exec
  have hb := B.bytes
  have hr := B.returns
  have hts : ∀ w ∈ GG, w.before ([.ref g0, .int x] : List Value).toArray s = true := fun w h => atoms_spec (ws := _ :: GG) B.pre w (List.mem_cons_of_mem _ h)
  have hown : s.vm.findClass RM = some m.cls := findClass_of_methodNamed B.named
  have hlocks := B.notSynchronized
  subst hsz
  have hD := hD0.self (sz := s.heap.size)
  generalize hAe : va_A [(g0, .inr (2, [.int co, .int (nI nv), .int (nI nc), .ref aL, .int (nI us), .ref aS, .int (nI dr), .ref aF, .ref aN, .ref aA, .int (nI as), .ref aO, .ref aV, .int la, .int bl, .ref aT, .int (nI th)])), (aA, .inl (kA, 64, .inl af))] s.heap.size = A at hD hZ ⊢
  have hA : ∀ q : Nat, s.heap.size ≤ q → A q := fun q h => by rw [← hAe]; exact Or.inr h
  have hS : va_S A s.heap s.heap [] := va_S.rf
  have hl := lv_entry ([.ref g0, .int x]) (n := 2) (Nat.le_of_ble_eq_true rfl)
  rw [lg_entry_eq]
  generalize (lg_sl ([.ref g0, .int x]) ++ List.replicate (2 - (lg_sl ([.ref g0, .int x])).length) Slot.unset).toArray = ls at hl ⊢
  have hl : lv_has ls 2 [(0, .ref g0), (1, .int x)] := hl
  have SF : CallFix p m c cM_assume 2 s ([.ref g0, .int x] : List Value).toArray GG RM := ⟨hx, hb, hml, hown, hts⟩
  skip
  have hP : va_P (dC, dI) vwCl [(g0, .inr (2, [.int co, .int (nI nv), .int (nI nc), .ref aL, .int (nI us), .ref aS, .int (nI dr), .ref aF, .ref aN, .ref aA, .int (nI as), .ref aO, .ref aV, .int la, .int bl, .ref aT, .int (nI th)])), (aA, .inl (kA, 64, .inl af))] s.heap := hP
  refine lv_aload_n hx hb dM_assume_0 rfl (lv_at hl 0 rfl) ?_
  refine lv_aload_n hx hb dM_assume_1 rfl (lv_at hl 0 rfl) ?_
  refine lv_iload_n hx hb dM_assume_2 rfl (lv_at hl 1 rfl) ?_
  have hFc := va_free (wc := [(g0, .inr (2, [.int co, .int (nI nv), .int (nI nc), .ref aL, .int (nI us), .ref aS, .int (nI dr), .ref aF, .ref aN, .ref aA, .int (nI as), .ref aO, .ref aV, .int la, .int bl, .ref aT, .int (nI th)]))]) hD hS hA [0] rfl
  refine wc_i (wc_V (As := [.int x]) (rest := [.ref g0]) (n := 1) SF (k_M_isLiteral l dC dI tI _ g0 aL aS aF aN aA aO aV aT nv nc us dr as th co la bl x hnv) ml_M_62 im_M_isLiteral se_M_isLiteral in_M co_M_isLiteral (by decide +kernel) rfl rfl rfl ⟨Nat.le_of_ble_eq_true rfl, Nat.le_of_ble_eq_true rfl⟩ (va_recv (hK.sub (tys' := []) [] rfl) (hP.sub (ws' := [(g0, .inr (2, [.int co, .int (nI nv), .int (nI nc), .ref aL, .int (nI us), .ref aS, .int (nI dr), .ref aF, .ref aN, .ref aA, .int (nI as), .ref aO, .ref aV, .int la, .int bl, .ref aT, .int (nI th)]))]) [0] rfl) (ci := 2) (q0 := 0) rfl rfl) (hP.sub [0] rfl) (hD.sub [0] (by decide) rfl) (hK.sub [] rfl) hZ hX hS hFc rfl hl.1 (Nat.le_of_ble_eq_true rfl) dM_assume_3 ⟨Nat.le_of_ble_eq_true rfl, Nat.le_of_ble_eq_true rfl⟩) hP hD hS hFc [0] [1] (wr := [(aA, .inl (kA, 64, .inl af))]) rfl rfl rfl (by decide) (fun z uu H locs hw hP hD hS => ?_)
  have hP : va_P (dC, dI) vwCl [(g0, .inr (2, [.int co, .int (nI nv), .int (nI nc), .ref aL, .int (nI us), .ref aS, .int (nI dr), .ref aF, .ref aN, .ref aA, .int (nI as), .ref aO, .ref aV, .int la, .int bl, .ref aT, .int (nI th)])), (aA, .inl (kA, 64, .inl af))] H := hP.sub [1, 0] rfl
  have hD : va_D A [(g0, .inr (2, [.int co, .int (nI nv), .int (nI nc), .ref aL, .int (nI us), .ref aS, .int (nI dr), .ref aF, .ref aN, .ref aA, .int (nI as), .ref aO, .ref aV, .int la, .int bl, .ref aT, .int (nI th)])), (aA, .inl (kA, 64, .inl af))] := hD.sub [1, 0] (by decide) rfl
  refine lv_if_ne (tgt := 13) hx hb dM_assume_6 (by decide) (fun c1 => ?_) (fun c1 => ?_)
  · have hlit : (∃ L, L < 2 * nv ∧ x = nI L) := by
      rcases hw with ⟨_, q⟩ | ⟨q, _⟩
      · exact q
      · exact absurd q c1
    refine lv_aload_n hx hb dM_assume_13 rfl (lv_at hl 0 rfl) ?_
    refine va_get (D := (dC, dI)) (ci := 2) (v := .int (nI as)) (C := RM) (T := TM) (N := 17) hx hb hts lyM hown hK hP 0 rfl rfl 10 (by decide) (hts _ fl_M_53) (fun _ h9 => h9) rfl dM_assume_14 ?_
    refine lv_bipush (v := 64) hx hb dM_assume_17 (by decide) ?_
    refine lv_icmp_ne (tgt := 26) hx hb dM_assume_19 (by decide) (fun c2 => ?_) (fun c2 => ?_)
    · have c2 : as ≠ 64 := fun q => c2 ((nI_eq (a := as) (b := 64) (by omega) (by omega)).mpr q)
      refine lv_iconst (v := 0) hx hb dM_assume_26 (by decide) ?_
      refine va_put (D := (dC, dI)) (ci := 2) (v := .int 0) (ty := .int) (C := RM) (T := TM) (N := 17) hx hb hts lyM tyM tyM_ok nmM hown hK hP hD hS 0 rfl rfl 0 (by decide) (hts _ fl_M_37) (fun _ h9 => h9) rfl (by decide +kernel) rfl rfl (Nat.le_of_ble_eq_true rfl) dM_assume_27 (fun H locs hP hD hS => ?_)
      have hP : va_P (dC, dI) vwCl [(g0, .inr (2, [.int 0, .int (nI nv), .int (nI nc), .ref aL, .int (nI us), .ref aS, .int (nI dr), .ref aF, .ref aN, .ref aA, .int (nI as), .ref aO, .ref aV, .int la, .int bl, .ref aT, .int (nI th)])), (aA, .inl (kA, 64, .inl af))] H := hP
      have hD : va_D A [(g0, .inr (2, [.int 0, .int (nI nv), .int (nI nc), .ref aL, .int (nI us), .ref aS, .int (nI dr), .ref aF, .ref aN, .ref aA, .int (nI as), .ref aO, .ref aV, .int la, .int bl, .ref aT, .int (nI th)])), (aA, .inl (kA, 64, .inl af))] := hD
      refine lv_aload_n hx hb dM_assume_30 rfl (lv_at hl 0 rfl) ?_
      refine va_get (D := (dC, dI)) (ci := 2) (v := .int 0) (C := RM) (T := TM) (N := 17) hx hb hts lyM hown hK hP 0 rfl rfl 0 (by decide) (hts _ fl_M_37) (fun _ h9 => h9) rfl dM_assume_31 ?_
      refine lv_if_le (tgt := 39) hx hb dM_assume_34 (by decide) (fun c9 => ?_) (fun c9 => ?_)
      · refine lv_aload_n hx hb dM_assume_39 rfl (lv_at hl 0 rfl) ?_
        refine va_get (D := (dC, dI)) (ci := 2) (v := .ref aA) (C := RM) (T := TM) (N := 17) hx hb hts lyM hown hK hP 0 rfl rfl 9 (by decide) (hts _ fl_M_22) (fun _ h9 => h9) rfl dM_assume_40 ?_
        refine lv_aload_n hx hb dM_assume_43 rfl (lv_at hl 0 rfl) ?_
        refine va_get (D := (dC, dI)) (ci := 2) (v := .int (nI as)) (C := RM) (T := TM) (N := 17) hx hb hts lyM hown hK hP 0 rfl rfl 10 (by decide) (hts _ fl_M_53) (fun _ h9 => h9) rfl dM_assume_44 ?_
        refine lv_iload_n hx hb dM_assume_47 rfl (lv_at hl 1 rfl) ?_
        refine va_iast hx hb hK hP hD hS 1 0 rfl rfl (vp_in_nI (by omega) (by decide)) dM_assume_48 (fun H locs hP hD hS => ?_)
        rw [show upd af (nI as).toNatClampNeg x = upd af as x from by rw [nI_clamp (by omega)]] at hP hD
        have hP : va_P (dC, dI) vwCl [(g0, .inr (2, [.int 0, .int (nI nv), .int (nI nc), .ref aL, .int (nI us), .ref aS, .int (nI dr), .ref aF, .ref aN, .ref aA, .int (nI as), .ref aO, .ref aV, .int la, .int bl, .ref aT, .int (nI th)])), (aA, .inl (kA, 64, .inl (upd af as x)))] H := hP
        have hD : va_D A [(g0, .inr (2, [.int 0, .int (nI nv), .int (nI nc), .ref aL, .int (nI us), .ref aS, .int (nI dr), .ref aF, .ref aN, .ref aA, .int (nI as), .ref aO, .ref aV, .int la, .int bl, .ref aT, .int (nI th)])), (aA, .inl (kA, 64, .inl (upd af as x)))] := hD
        refine lv_aload_n hx hb dM_assume_49 rfl (lv_at hl 0 rfl) ?_
        refine lv_dup hx hb dM_assume_50 rfl ?_
        refine va_get (D := (dC, dI)) (ci := 2) (v := .int (nI as)) (C := RM) (T := TM) (N := 17) hx hb hts lyM hown hK hP 0 rfl rfl 10 (by decide) (hts _ fl_M_53) (fun _ h9 => h9) rfl dM_assume_51 ?_
        refine lv_iconst (v := 1) hx hb dM_assume_54 (by decide) ?_
        refine lv_iadd hx hb dM_assume_55 ?_
        refine ls_topi (y := nI (as + 1)) (nI_1 _) ?_
        refine va_put (D := (dC, dI)) (ci := 2) (v := .int (nI (as + 1))) (ty := .int) (C := RM) (T := TM) (N := 17) hx hb hts lyM tyM tyM_ok nmM hown hK hP hD hS 0 rfl rfl 10 (by decide) (hts _ fl_M_53) (fun _ h9 => h9) rfl (by decide +kernel) rfl rfl (Nat.le_of_ble_eq_true rfl) dM_assume_56 (fun H locs hP hD hS => ?_)
        have hP : va_P (dC, dI) vwCl [(g0, .inr (2, [.int 0, .int (nI nv), .int (nI nc), .ref aL, .int (nI us), .ref aS, .int (nI dr), .ref aF, .ref aN, .ref aA, .int (nI (as + 1)), .ref aO, .ref aV, .int la, .int bl, .ref aT, .int (nI th)])), (aA, .inl (kA, 64, .inl (upd af as x)))] H := hP
        have hD : va_D A [(g0, .inr (2, [.int 0, .int (nI nv), .int (nI nc), .ref aL, .int (nI us), .ref aS, .int (nI dr), .ref aF, .ref aN, .ref aA, .int (nI (as + 1)), .ref aO, .ref aV, .int la, .int bl, .ref aT, .int (nI th)])), (aA, .inl (kA, 64, .inl (upd af as x)))] := hD
        refine lv_aload_n hx hb dM_assume_59 rfl (lv_at hl 0 rfl) ?_
        refine va_get (D := (dC, dI)) (ci := 2) (v := .int (nI (as + 1))) (C := RM) (T := TM) (N := 17) hx hb hts lyM hown hK hP 0 rfl rfl 10 (by decide) (hts _ fl_M_53) (fun _ h9 => h9) rfl dM_assume_60 ?_
        exact (W.iret (v := nI (as + 1)) hx hb hr (fun t ht hW => ⟨⟨nI (as + 1), (upd af as x, 0, as + 1), rfl, Or.inr (Or.inr ⟨rfl, hlit, by omega, rfl⟩), by rw [ht]; exact hP, va_K.moved hW.alike hK, hD⟩, hS.F ht⟩) hS.2.2 dM_assume_63)
      · exact absurd (by decide) c9
    · have c2 : as = 64 := (nI_eq (a := as) (b := 64) (by omega) (by omega)).mp c2
      refine lv_iconst (v := 2) hx hb dM_assume_22 (by decide) ?_
      refine lv_goto (tgt := 27) hx hb dM_assume_23 (by decide) ?_
      refine va_put (D := (dC, dI)) (ci := 2) (v := .int 2) (ty := .int) (C := RM) (T := TM) (N := 17) hx hb hts lyM tyM tyM_ok nmM hown hK hP hD hS 0 rfl rfl 0 (by decide) (hts _ fl_M_37) (fun _ h9 => h9) rfl (by decide +kernel) rfl rfl (Nat.le_of_ble_eq_true rfl) dM_assume_27 (fun H locs hP hD hS => ?_)
      have hP : va_P (dC, dI) vwCl [(g0, .inr (2, [.int 2, .int (nI nv), .int (nI nc), .ref aL, .int (nI us), .ref aS, .int (nI dr), .ref aF, .ref aN, .ref aA, .int (nI as), .ref aO, .ref aV, .int la, .int bl, .ref aT, .int (nI th)])), (aA, .inl (kA, 64, .inl af))] H := hP
      have hD : va_D A [(g0, .inr (2, [.int 2, .int (nI nv), .int (nI nc), .ref aL, .int (nI us), .ref aS, .int (nI dr), .ref aF, .ref aN, .ref aA, .int (nI as), .ref aO, .ref aV, .int la, .int bl, .ref aT, .int (nI th)])), (aA, .inl (kA, 64, .inl af))] := hD
      refine lv_aload_n hx hb dM_assume_30 rfl (lv_at hl 0 rfl) ?_
      refine va_get (D := (dC, dI)) (ci := 2) (v := .int 2) (C := RM) (T := TM) (N := 17) hx hb hts lyM hown hK hP 0 rfl rfl 0 (by decide) (hts _ fl_M_37) (fun _ h9 => h9) rfl dM_assume_31 ?_
      refine lv_if_le (tgt := 39) hx hb dM_assume_34 (by decide) (fun c9 => ?_) (fun c9 => ?_)
      · exact absurd c9 (by decide)
      · refine lv_iconst (v := 0) hx hb dM_assume_37 (by decide) ?_
        exact (W.iret (v := 0) hx hb hr (fun t ht hW => ⟨⟨0, (af, 2, as), rfl, Or.inr (Or.inl ⟨rfl, ⟨hlit, c2⟩⟩), by rw [ht]; exact hP, va_K.moved hW.alike hK, hD⟩, hS.F ht⟩) hS.2.2 dM_assume_38)
  · have hnl : ¬ (∃ L, L < 2 * nv ∧ x = nI L) := by
      rcases hw with ⟨q, _⟩ | ⟨_, q⟩
      · rw [q] at c1; exact absurd c1 (by decide)
      · exact q
    refine lv_iconst (v := 1) hx hb dM_assume_9 (by decide) ?_
    refine lv_goto (tgt := 27) hx hb dM_assume_10 (by decide) ?_
    refine va_put (D := (dC, dI)) (ci := 2) (v := .int 1) (ty := .int) (C := RM) (T := TM) (N := 17) hx hb hts lyM tyM tyM_ok nmM hown hK hP hD hS 0 rfl rfl 0 (by decide) (hts _ fl_M_37) (fun _ h9 => h9) rfl (by decide +kernel) rfl rfl (Nat.le_of_ble_eq_true rfl) dM_assume_27 (fun H locs hP hD hS => ?_)
    have hP : va_P (dC, dI) vwCl [(g0, .inr (2, [.int 1, .int (nI nv), .int (nI nc), .ref aL, .int (nI us), .ref aS, .int (nI dr), .ref aF, .ref aN, .ref aA, .int (nI as), .ref aO, .ref aV, .int la, .int bl, .ref aT, .int (nI th)])), (aA, .inl (kA, 64, .inl af))] H := hP
    have hD : va_D A [(g0, .inr (2, [.int 1, .int (nI nv), .int (nI nc), .ref aL, .int (nI us), .ref aS, .int (nI dr), .ref aF, .ref aN, .ref aA, .int (nI as), .ref aO, .ref aV, .int la, .int bl, .ref aT, .int (nI th)])), (aA, .inl (kA, 64, .inl af))] := hD
    refine lv_aload_n hx hb dM_assume_30 rfl (lv_at hl 0 rfl) ?_
    refine va_get (D := (dC, dI)) (ci := 2) (v := .int 1) (C := RM) (T := TM) (N := 17) hx hb hts lyM hown hK hP 0 rfl rfl 0 (by decide) (hts _ fl_M_37) (fun _ h9 => h9) rfl dM_assume_31 ?_
    refine lv_if_le (tgt := 39) hx hb dM_assume_34 (by decide) (fun c9 => ?_) (fun c9 => ?_)
    · exact absurd c9 (by decide)
    · refine lv_iconst (v := 0) hx hb dM_assume_37 (by decide) ?_
      exact (W.iret (v := 0) hx hb hr (fun t ht hW => ⟨⟨0, (af, 1, as), rfl, Or.inl ⟨rfl, hnl⟩, by rw [ht]; exact hP, va_K.moved hW.alike hK, hD⟩, hS.F ht⟩) hS.2.2 dM_assume_38)
set_option maxHeartbeats 4000000 in
set_option maxRecDepth 100000 in
theorem k_M_blame (l : Launch) (dC : Nat → ClassId) (dI : Nat → Nat → Nat) (tI sz : Nat) (g0 aL aS aF aN aA aO aV aT : Nat) (nv nc us dr as th : Nat) (co la bl : Int32) : Met l yM_blame (Cond.code yM_blame cM_blame 1 (some .int) :: GG) (lvr 0 0 0) (va_Pc [.ref g0] (wPre dC dI [] [(g0, .inr (2, [.int co, .int (nI nv), .int (nI nc), .ref aL, .int (nI us), .ref aS, .int (nI dr), .ref aF, .ref aN, .ref aA, .int (nI as), .ref aO, .ref aV, .int la, .int bl, .ref aT, .int (nI th)]))] sz tI)) (va_Qi (fun (r : Int32) (u : Unit) => (la = 2 ∧ r = bl) ∨ (¬ la = 2 ∧ r = -1)) (fun u t => wB dC dI [] (va_A [(g0, .inr (2, [.int co, .int (nI nv), .int (nI nc), .ref aL, .int (nI us), .ref aS, .int (nI dr), .ref aF, .ref aN, .ref aA, .int (nI as), .ref aO, .ref aV, .int la, .int bl, .ref aT, .int (nI th)]))] sz) [(g0, .inr (2, [.int 0, .int (nI nv), .int (nI nc), .ref aL, .int (nI us), .ref aS, .int (nI dr), .ref aF, .ref aN, .ref aA, .int (nI as), .ref aO, .ref aV, .int la, .int bl, .ref aT, .int (nI th)]))] t) (va_A [(g0, .inr (2, [.int co, .int (nI nv), .int (nI nc), .ref aL, .int (nI us), .ref aS, .int (nI dr), .ref aF, .ref aN, .ref aA, .int (nI as), .ref aO, .ref aV, .int la, .int bl, .ref aT, .int (nI th)]))] sz)) 0 0 (va_A [(g0, .inr (2, [.int co, .int (nI nv), .int (nI nc), .ref aL, .int (nI us), .ref aS, .int (nI dr), .ref aF, .ref aN, .ref aA, .int (nI as), .ref aO, .ref aV, .int la, .int bl, .ref aT, .int (nI th)]))] sz) := by
  refine Met.ofW (cc := cM_blame) (maxL := 1) (ret := (some .int)) (by decide) rfl ?_
  intro p e s m args below meth c s₁ B hml hv
  obtain ⟨rfl, hsz, hP, hK, hD0, hZ, hX⟩ := hv
  have hx := B.exec
  have hb := B.bytes
  have hr := B.returns
  have hts : ∀ w ∈ GG, w.before ([.ref g0] : List Value).toArray s = true := fun w h => atoms_spec (ws := _ :: GG) B.pre w (List.mem_cons_of_mem _ h)
  have hown : s.vm.findClass RM = some m.cls := findClass_of_methodNamed B.named
  have hlocks := B.notSynchronized
  subst hsz
  have hD := hD0.self (sz := s.heap.size)
  generalize hAe : va_A [(g0, .inr (2, [.int co, .int (nI nv), .int (nI nc), .ref aL, .int (nI us), .ref aS, .int (nI dr), .ref aF, .ref aN, .ref aA, .int (nI as), .ref aO, .ref aV, .int la, .int bl, .ref aT, .int (nI th)]))] s.heap.size = A at hD hZ ⊢
  have hA : ∀ q : Nat, s.heap.size ≤ q → A q := fun q h => by rw [← hAe]; exact Or.inr h
  have hS : va_S A s.heap s.heap [] := va_S.rf
  have hl := lv_entry ([.ref g0]) (n := 1) (Nat.le_of_ble_eq_true rfl)
  rw [lg_entry_eq]
  generalize (lg_sl ([.ref g0]) ++ List.replicate (1 - (lg_sl ([.ref g0])).length) Slot.unset).toArray = ls at hl ⊢
  have hl : lv_has ls 1 [(0, .ref g0)] := hl
  have SF : CallFix p m c cM_blame 1 s ([.ref g0] : List Value).toArray GG RM := ⟨hx, hb, hml, hown, hts⟩
  skip
  have hP : va_P (dC, dI) vwCl [(g0, .inr (2, [.int co, .int (nI nv), .int (nI nc), .ref aL, .int (nI us), .ref aS, .int (nI dr), .ref aF, .ref aN, .ref aA, .int (nI as), .ref aO, .ref aV, .int la, .int bl, .ref aT, .int (nI th)]))] s.heap := hP
  refine lv_aload_n hx hb dM_blame_0 rfl (lv_at hl 0 rfl) ?_
  refine lv_iconst (v := 0) hx hb dM_blame_1 (by decide) ?_
  refine va_put (D := (dC, dI)) (ci := 2) (v := .int 0) (ty := .int) (C := RM) (T := TM) (N := 17) hx hb hts lyM tyM tyM_ok nmM hown hK hP hD hS 0 rfl rfl 0 (by decide) (hts _ fl_M_37) (fun _ h9 => h9) rfl (by decide +kernel) rfl rfl (Nat.le_of_ble_eq_true rfl) dM_blame_2 (fun H locs hP hD hS => ?_)
  have hP : va_P (dC, dI) vwCl [(g0, .inr (2, [.int 0, .int (nI nv), .int (nI nc), .ref aL, .int (nI us), .ref aS, .int (nI dr), .ref aF, .ref aN, .ref aA, .int (nI as), .ref aO, .ref aV, .int la, .int bl, .ref aT, .int (nI th)]))] H := hP
  have hD : va_D A [(g0, .inr (2, [.int 0, .int (nI nv), .int (nI nc), .ref aL, .int (nI us), .ref aS, .int (nI dr), .ref aF, .ref aN, .ref aA, .int (nI as), .ref aO, .ref aV, .int la, .int bl, .ref aT, .int (nI th)]))] := hD
  refine lv_aload_n hx hb dM_blame_5 rfl (lv_at hl 0 rfl) ?_
  refine va_get (D := (dC, dI)) (ci := 2) (v := .int la) (C := RM) (T := TM) (N := 17) hx hb hts lyM hown hK hP 0 rfl rfl 13 (by decide) (hts _ fl_M_56) (fun _ h9 => h9) rfl dM_blame_6 ?_
  refine lv_iconst (v := 2) hx hb dM_blame_9 (by decide) ?_
  refine lv_icmp_ne (tgt := 20) hx hb dM_blame_10 (by decide) (fun c1 => ?_) (fun c1 => ?_)
  · refine lv_iconst (v := (-1)) hx hb dM_blame_20 (by decide) ?_
    exact (W.iret (v := (-1)) hx hb hr (fun t ht hW => ⟨⟨(-1), (), rfl, Or.inr ⟨c1, rfl⟩, by rw [ht]; exact hP, va_K.moved hW.alike hK, hD⟩, hS.F ht⟩) hS.2.2 dM_blame_21)
  · refine lv_aload_n hx hb dM_blame_13 rfl (lv_at hl 0 rfl) ?_
    refine va_get (D := (dC, dI)) (ci := 2) (v := .int bl) (C := RM) (T := TM) (N := 17) hx hb hts lyM hown hK hP 0 rfl rfl 14 (by decide) (hts _ fl_M_82) (fun _ h9 => h9) rfl dM_blame_14 ?_
    refine lv_goto (tgt := 21) hx hb dM_blame_17 (by decide) ?_
    exact (W.iret (v := bl) hx hb hr (fun t ht hW => ⟨⟨bl, (), rfl, Or.inl ⟨c1, rfl⟩, by rw [ht]; exact hP, va_K.moved hW.alike hK, hD⟩, hS.F ht⟩) hS.2.2 dM_blame_21)
set_option maxHeartbeats 4000000 in
set_option maxRecDepth 100000 in
theorem k_M_shown (l : Launch) (dC : Nat → ClassId) (dI : Nat → Nat → Nat) (tI sz : Nat) (g0 aL aS aF aN aA aO aV aT : Nat) (nv nc us dr as th : Nat) (co la bl : Int32) : Met l yM_shown (Cond.code yM_shown cM_shown 1 (some .boolean) :: GG) (lvr 0 0 0) (va_Pc [.ref g0] (wPre dC dI [] [(g0, .inr (2, [.int co, .int (nI nv), .int (nI nc), .ref aL, .int (nI us), .ref aS, .int (nI dr), .ref aF, .ref aN, .ref aA, .int (nI as), .ref aO, .ref aV, .int la, .int bl, .ref aT, .int (nI th)]))] sz tI)) (va_Qi (fun (r : Int32) (u : Unit) => (la = 1 ∧ r = 1) ∨ (¬ la = 1 ∧ r = 0)) (fun u t => wB dC dI [] (va_A [(g0, .inr (2, [.int co, .int (nI nv), .int (nI nc), .ref aL, .int (nI us), .ref aS, .int (nI dr), .ref aF, .ref aN, .ref aA, .int (nI as), .ref aO, .ref aV, .int la, .int bl, .ref aT, .int (nI th)]))] sz) [(g0, .inr (2, [.int 0, .int (nI nv), .int (nI nc), .ref aL, .int (nI us), .ref aS, .int (nI dr), .ref aF, .ref aN, .ref aA, .int (nI as), .ref aO, .ref aV, .int la, .int bl, .ref aT, .int (nI th)]))] t) (va_A [(g0, .inr (2, [.int co, .int (nI nv), .int (nI nc), .ref aL, .int (nI us), .ref aS, .int (nI dr), .ref aF, .ref aN, .ref aA, .int (nI as), .ref aO, .ref aV, .int la, .int bl, .ref aT, .int (nI th)]))] sz)) 0 0 (va_A [(g0, .inr (2, [.int co, .int (nI nv), .int (nI nc), .ref aL, .int (nI us), .ref aS, .int (nI dr), .ref aF, .ref aN, .ref aA, .int (nI as), .ref aO, .ref aV, .int la, .int bl, .ref aT, .int (nI th)]))] sz) := by
  refine Met.ofW (cc := cM_shown) (maxL := 1) (ret := (some .boolean)) (by decide) rfl ?_
  intro p e s m args below meth c s₁ B hml hv
  obtain ⟨rfl, hsz, hP, hK, hD0, hZ, hX⟩ := hv
  have hx := B.exec
  have hb := B.bytes
  have hr := B.returns
  have hts : ∀ w ∈ GG, w.before ([.ref g0] : List Value).toArray s = true := fun w h => atoms_spec (ws := _ :: GG) B.pre w (List.mem_cons_of_mem _ h)
  have hown : s.vm.findClass RM = some m.cls := findClass_of_methodNamed B.named
  have hlocks := B.notSynchronized
  subst hsz
  have hD := hD0.self (sz := s.heap.size)
  generalize hAe : va_A [(g0, .inr (2, [.int co, .int (nI nv), .int (nI nc), .ref aL, .int (nI us), .ref aS, .int (nI dr), .ref aF, .ref aN, .ref aA, .int (nI as), .ref aO, .ref aV, .int la, .int bl, .ref aT, .int (nI th)]))] s.heap.size = A at hD hZ ⊢
  have hA : ∀ q : Nat, s.heap.size ≤ q → A q := fun q h => by rw [← hAe]; exact Or.inr h
  have hS : va_S A s.heap s.heap [] := va_S.rf
  have hl := lv_entry ([.ref g0]) (n := 1) (Nat.le_of_ble_eq_true rfl)
  rw [lg_entry_eq]
  generalize (lg_sl ([.ref g0]) ++ List.replicate (1 - (lg_sl ([.ref g0])).length) Slot.unset).toArray = ls at hl ⊢
  have hl : lv_has ls 1 [(0, .ref g0)] := hl
  have SF : CallFix p m c cM_shown 1 s ([.ref g0] : List Value).toArray GG RM := ⟨hx, hb, hml, hown, hts⟩
  skip
  have hP : va_P (dC, dI) vwCl [(g0, .inr (2, [.int co, .int (nI nv), .int (nI nc), .ref aL, .int (nI us), .ref aS, .int (nI dr), .ref aF, .ref aN, .ref aA, .int (nI as), .ref aO, .ref aV, .int la, .int bl, .ref aT, .int (nI th)]))] s.heap := hP
  refine lv_aload_n hx hb dM_shown_0 rfl (lv_at hl 0 rfl) ?_
  refine lv_iconst (v := 0) hx hb dM_shown_1 (by decide) ?_
  refine va_put (D := (dC, dI)) (ci := 2) (v := .int 0) (ty := .int) (C := RM) (T := TM) (N := 17) hx hb hts lyM tyM tyM_ok nmM hown hK hP hD hS 0 rfl rfl 0 (by decide) (hts _ fl_M_37) (fun _ h9 => h9) rfl (by decide +kernel) rfl rfl (Nat.le_of_ble_eq_true rfl) dM_shown_2 (fun H locs hP hD hS => ?_)
  have hP : va_P (dC, dI) vwCl [(g0, .inr (2, [.int 0, .int (nI nv), .int (nI nc), .ref aL, .int (nI us), .ref aS, .int (nI dr), .ref aF, .ref aN, .ref aA, .int (nI as), .ref aO, .ref aV, .int la, .int bl, .ref aT, .int (nI th)]))] H := hP
  have hD : va_D A [(g0, .inr (2, [.int 0, .int (nI nv), .int (nI nc), .ref aL, .int (nI us), .ref aS, .int (nI dr), .ref aF, .ref aN, .ref aA, .int (nI as), .ref aO, .ref aV, .int la, .int bl, .ref aT, .int (nI th)]))] := hD
  refine lv_aload_n hx hb dM_shown_5 rfl (lv_at hl 0 rfl) ?_
  refine va_get (D := (dC, dI)) (ci := 2) (v := .int la) (C := RM) (T := TM) (N := 17) hx hb hts lyM hown hK hP 0 rfl rfl 13 (by decide) (hts _ fl_M_56) (fun _ h9 => h9) rfl dM_shown_6 ?_
  refine lv_iconst (v := 1) hx hb dM_shown_9 (by decide) ?_
  refine lv_icmp_ne (tgt := 17) hx hb dM_shown_10 (by decide) (fun c1 => ?_) (fun c1 => ?_)
  · refine lv_iconst (v := 0) hx hb dM_shown_17 (by decide) ?_
    exact (W.zret (v := 0) hx hb hr (rfl) (fun t ht hW => ⟨⟨0, (), rfl, Or.inr ⟨c1, rfl⟩, by rw [ht]; exact hP, va_K.moved hW.alike hK, hD⟩, hS.F ht⟩) hS.2.2 dM_shown_18)
  · refine lv_iconst (v := 1) hx hb dM_shown_13 (by decide) ?_
    refine lv_goto (tgt := 18) hx hb dM_shown_14 (by decide) ?_
    exact (W.zret (v := 1) hx hb hr (rfl) (fun t ht hW => ⟨⟨1, (), rfl, Or.inl ⟨c1, rfl⟩, by rw [ht]; exact hP, va_K.moved hW.alike hK, hD⟩, hS.F ht⟩) hS.2.2 dM_shown_18)
set_option maxHeartbeats 4000000 in
set_option maxRecDepth 100000 in
theorem k_M_proved (l : Launch) (dC : Nat → ClassId) (dI : Nat → Nat → Nat) (tI sz : Nat) (g0 aL aS aF aN aA aO aV aT : Nat) (nv nc us dr as th : Nat) (co la bl : Int32) : Met l yM_proved (Cond.code yM_proved cM_proved 1 (some .boolean) :: GG) (lvr 0 0 0) (va_Pc [.ref g0] (wPre dC dI [] [(g0, .inr (2, [.int co, .int (nI nv), .int (nI nc), .ref aL, .int (nI us), .ref aS, .int (nI dr), .ref aF, .ref aN, .ref aA, .int (nI as), .ref aO, .ref aV, .int la, .int bl, .ref aT, .int (nI th)]))] sz tI)) (va_Qi (fun (r : Int32) (u : Unit) => (la = 2 ∧ r = 1) ∨ (¬ la = 2 ∧ r = 0)) (fun u t => wB dC dI [] (va_A [(g0, .inr (2, [.int co, .int (nI nv), .int (nI nc), .ref aL, .int (nI us), .ref aS, .int (nI dr), .ref aF, .ref aN, .ref aA, .int (nI as), .ref aO, .ref aV, .int la, .int bl, .ref aT, .int (nI th)]))] sz) [(g0, .inr (2, [.int 0, .int (nI nv), .int (nI nc), .ref aL, .int (nI us), .ref aS, .int (nI dr), .ref aF, .ref aN, .ref aA, .int (nI as), .ref aO, .ref aV, .int la, .int bl, .ref aT, .int (nI th)]))] t) (va_A [(g0, .inr (2, [.int co, .int (nI nv), .int (nI nc), .ref aL, .int (nI us), .ref aS, .int (nI dr), .ref aF, .ref aN, .ref aA, .int (nI as), .ref aO, .ref aV, .int la, .int bl, .ref aT, .int (nI th)]))] sz)) 0 0 (va_A [(g0, .inr (2, [.int co, .int (nI nv), .int (nI nc), .ref aL, .int (nI us), .ref aS, .int (nI dr), .ref aF, .ref aN, .ref aA, .int (nI as), .ref aO, .ref aV, .int la, .int bl, .ref aT, .int (nI th)]))] sz) := by
  refine Met.ofW (cc := cM_proved) (maxL := 1) (ret := (some .boolean)) (by decide) rfl ?_
  intro p e s m args below meth c s₁ B hml hv
  obtain ⟨rfl, hsz, hP, hK, hD0, hZ, hX⟩ := hv
  have hx := B.exec
  have hb := B.bytes
  have hr := B.returns
  have hts : ∀ w ∈ GG, w.before ([.ref g0] : List Value).toArray s = true := fun w h => atoms_spec (ws := _ :: GG) B.pre w (List.mem_cons_of_mem _ h)
  have hown : s.vm.findClass RM = some m.cls := findClass_of_methodNamed B.named
  have hlocks := B.notSynchronized
  subst hsz
  have hD := hD0.self (sz := s.heap.size)
  generalize hAe : va_A [(g0, .inr (2, [.int co, .int (nI nv), .int (nI nc), .ref aL, .int (nI us), .ref aS, .int (nI dr), .ref aF, .ref aN, .ref aA, .int (nI as), .ref aO, .ref aV, .int la, .int bl, .ref aT, .int (nI th)]))] s.heap.size = A at hD hZ ⊢
  have hA : ∀ q : Nat, s.heap.size ≤ q → A q := fun q h => by rw [← hAe]; exact Or.inr h
  have hS : va_S A s.heap s.heap [] := va_S.rf
  have hl := lv_entry ([.ref g0]) (n := 1) (Nat.le_of_ble_eq_true rfl)
  rw [lg_entry_eq]
  generalize (lg_sl ([.ref g0]) ++ List.replicate (1 - (lg_sl ([.ref g0])).length) Slot.unset).toArray = ls at hl ⊢
  have hl : lv_has ls 1 [(0, .ref g0)] := hl
  have SF : CallFix p m c cM_proved 1 s ([.ref g0] : List Value).toArray GG RM := ⟨hx, hb, hml, hown, hts⟩
  skip
  have hP : va_P (dC, dI) vwCl [(g0, .inr (2, [.int co, .int (nI nv), .int (nI nc), .ref aL, .int (nI us), .ref aS, .int (nI dr), .ref aF, .ref aN, .ref aA, .int (nI as), .ref aO, .ref aV, .int la, .int bl, .ref aT, .int (nI th)]))] s.heap := hP
  refine lv_aload_n hx hb dM_proved_0 rfl (lv_at hl 0 rfl) ?_
  refine lv_iconst (v := 0) hx hb dM_proved_1 (by decide) ?_
  refine va_put (D := (dC, dI)) (ci := 2) (v := .int 0) (ty := .int) (C := RM) (T := TM) (N := 17) hx hb hts lyM tyM tyM_ok nmM hown hK hP hD hS 0 rfl rfl 0 (by decide) (hts _ fl_M_37) (fun _ h9 => h9) rfl (by decide +kernel) rfl rfl (Nat.le_of_ble_eq_true rfl) dM_proved_2 (fun H locs hP hD hS => ?_)
  have hP : va_P (dC, dI) vwCl [(g0, .inr (2, [.int 0, .int (nI nv), .int (nI nc), .ref aL, .int (nI us), .ref aS, .int (nI dr), .ref aF, .ref aN, .ref aA, .int (nI as), .ref aO, .ref aV, .int la, .int bl, .ref aT, .int (nI th)]))] H := hP
  have hD : va_D A [(g0, .inr (2, [.int 0, .int (nI nv), .int (nI nc), .ref aL, .int (nI us), .ref aS, .int (nI dr), .ref aF, .ref aN, .ref aA, .int (nI as), .ref aO, .ref aV, .int la, .int bl, .ref aT, .int (nI th)]))] := hD
  refine lv_aload_n hx hb dM_proved_5 rfl (lv_at hl 0 rfl) ?_
  refine va_get (D := (dC, dI)) (ci := 2) (v := .int la) (C := RM) (T := TM) (N := 17) hx hb hts lyM hown hK hP 0 rfl rfl 13 (by decide) (hts _ fl_M_56) (fun _ h9 => h9) rfl dM_proved_6 ?_
  refine lv_iconst (v := 2) hx hb dM_proved_9 (by decide) ?_
  refine lv_icmp_ne (tgt := 17) hx hb dM_proved_10 (by decide) (fun c1 => ?_) (fun c1 => ?_)
  · refine lv_iconst (v := 0) hx hb dM_proved_17 (by decide) ?_
    exact (W.zret (v := 0) hx hb hr (rfl) (fun t ht hW => ⟨⟨0, (), rfl, Or.inr ⟨c1, rfl⟩, by rw [ht]; exact hP, va_K.moved hW.alike hK, hD⟩, hS.F ht⟩) hS.2.2 dM_proved_18)
  · refine lv_iconst (v := 1) hx hb dM_proved_13 (by decide) ?_
    refine lv_goto (tgt := 18) hx hb dM_proved_14 (by decide) ?_
    exact (W.zret (v := 1) hx hb hr (rfl) (fun t ht hW => ⟨⟨1, (), rfl, Or.inl ⟨c1, rfl⟩, by rw [ht]; exact hP, va_K.moved hW.alike hK, hD⟩, hS.F ht⟩) hS.2.2 dM_proved_18)
set_option maxHeartbeats 4000000 in
set_option maxRecDepth 100000 in
theorem k_M_least (l : Launch) (dC : Nat → ClassId) (dI : Nat → Nat → Nat) (tI sz : Nat) (g0 aL aS aF aN aA aO aV aT : Nat) (kT : ClassId) (tf : Nat → Int32) (nv nc us dr as th : Nat) (co la bl : Int32) (x : Int32) (hnv : nv ≤ 16) (hth : th ≤ 16) : Met l yM_least (Cond.code yM_least cM_least 2 (some .int) :: GG) (lvr 0 0 0) (va_Pc [.ref g0, .int x] (wPre dC dI [(kT, .int)] [(g0, .inr (2, [.int co, .int (nI nv), .int (nI nc), .ref aL, .int (nI us), .ref aS, .int (nI dr), .ref aF, .ref aN, .ref aA, .int (nI as), .ref aO, .ref aV, .int la, .int bl, .ref aT, .int (nI th)])), (aT, .inl (kT, 16, .inl tf))] sz tI)) (va_Qi (fun (r : Int32) (u : Int32) => (u = 1 ∧ ¬ (∃ v, v < nv ∧ x = nI v)) ∨ (u = 0 ∧ ∃ v, v < nv ∧ x = nI v ∧ ((r = -1 ∧ (¬ la = 1 ∨ th ≤ v)) ∨ (la = 1 ∧ v < th ∧ r = tf v)))) (fun u t => wB dC dI [(kT, .int)] (va_A [(g0, .inr (2, [.int co, .int (nI nv), .int (nI nc), .ref aL, .int (nI us), .ref aS, .int (nI dr), .ref aF, .ref aN, .ref aA, .int (nI as), .ref aO, .ref aV, .int la, .int bl, .ref aT, .int (nI th)])), (aT, .inl (kT, 16, .inl tf))] sz) [(g0, .inr (2, [.int u, .int (nI nv), .int (nI nc), .ref aL, .int (nI us), .ref aS, .int (nI dr), .ref aF, .ref aN, .ref aA, .int (nI as), .ref aO, .ref aV, .int la, .int bl, .ref aT, .int (nI th)])), (aT, .inl (kT, 16, .inl tf))] t) (va_A [(g0, .inr (2, [.int co, .int (nI nv), .int (nI nc), .ref aL, .int (nI us), .ref aS, .int (nI dr), .ref aF, .ref aN, .ref aA, .int (nI as), .ref aO, .ref aV, .int la, .int bl, .ref aT, .int (nI th)])), (aT, .inl (kT, 16, .inl tf))] sz)) 0 0 (va_A [(g0, .inr (2, [.int co, .int (nI nv), .int (nI nc), .ref aL, .int (nI us), .ref aS, .int (nI dr), .ref aF, .ref aN, .ref aA, .int (nI as), .ref aO, .ref aV, .int la, .int bl, .ref aT, .int (nI th)])), (aT, .inl (kT, 16, .inl tf))] sz) := by
  refine Met.ofW (cc := cM_least) (maxL := 2) (ret := (some .int)) (by decide) rfl ?_
  intro p e s m args below meth c s₁ B hml hv
  obtain ⟨rfl, hsz, hP, hK, hD0, hZ, hX⟩ := hv
  have hx := B.exec
  have hb := B.bytes
  have hr := B.returns
  have hts : ∀ w ∈ GG, w.before ([.ref g0, .int x] : List Value).toArray s = true := fun w h => atoms_spec (ws := _ :: GG) B.pre w (List.mem_cons_of_mem _ h)
  have hown : s.vm.findClass RM = some m.cls := findClass_of_methodNamed B.named
  have hlocks := B.notSynchronized
  subst hsz
  have hD := hD0.self (sz := s.heap.size)
  generalize hAe : va_A [(g0, .inr (2, [.int co, .int (nI nv), .int (nI nc), .ref aL, .int (nI us), .ref aS, .int (nI dr), .ref aF, .ref aN, .ref aA, .int (nI as), .ref aO, .ref aV, .int la, .int bl, .ref aT, .int (nI th)])), (aT, .inl (kT, 16, .inl tf))] s.heap.size = A at hD hZ ⊢
  have hA : ∀ q : Nat, s.heap.size ≤ q → A q := fun q h => by rw [← hAe]; exact Or.inr h
  have hS : va_S A s.heap s.heap [] := va_S.rf
  have hl := lv_entry ([.ref g0, .int x]) (n := 2) (Nat.le_of_ble_eq_true rfl)
  rw [lg_entry_eq]
  generalize (lg_sl ([.ref g0, .int x]) ++ List.replicate (2 - (lg_sl ([.ref g0, .int x])).length) Slot.unset).toArray = ls at hl ⊢
  have hl : lv_has ls 2 [(0, .ref g0), (1, .int x)] := hl
  have SF : CallFix p m c cM_least 2 s ([.ref g0, .int x] : List Value).toArray GG RM := ⟨hx, hb, hml, hown, hts⟩
  skip
  have hP : va_P (dC, dI) vwCl [(g0, .inr (2, [.int co, .int (nI nv), .int (nI nc), .ref aL, .int (nI us), .ref aS, .int (nI dr), .ref aF, .ref aN, .ref aA, .int (nI as), .ref aO, .ref aV, .int la, .int bl, .ref aT, .int (nI th)])), (aT, .inl (kT, 16, .inl tf))] s.heap := hP
  refine lv_aload_n hx hb dM_least_0 rfl (lv_at hl 0 rfl) ?_
  refine lv_iload_n hx hb dM_least_1 rfl (lv_at hl 1 rfl) ?_
  refine lv_if_lt (tgt := 13) hx hb dM_least_2 (by decide) (fun c1 => ?_) (fun c1 => ?_)
  · refine lv_iconst (v := 1) hx hb dM_least_13 (by decide) ?_
    refine lv_goto (tgt := 18) hx hb dM_least_14 (by decide) ?_
    refine va_put (D := (dC, dI)) (ci := 2) (v := .int 1) (ty := .int) (C := RM) (T := TM) (N := 17) hx hb hts lyM tyM tyM_ok nmM hown hK hP hD hS 0 rfl rfl 0 (by decide) (hts _ fl_M_37) (fun _ h9 => h9) rfl (by decide +kernel) rfl rfl (Nat.le_of_ble_eq_true rfl) dM_least_18 (fun H locs hP hD hS => ?_)
    have hP : va_P (dC, dI) vwCl [(g0, .inr (2, [.int 1, .int (nI nv), .int (nI nc), .ref aL, .int (nI us), .ref aS, .int (nI dr), .ref aF, .ref aN, .ref aA, .int (nI as), .ref aO, .ref aV, .int la, .int bl, .ref aT, .int (nI th)])), (aT, .inl (kT, 16, .inl tf))] H := hP
    have hD : va_D A [(g0, .inr (2, [.int 1, .int (nI nv), .int (nI nc), .ref aL, .int (nI us), .ref aS, .int (nI dr), .ref aF, .ref aN, .ref aA, .int (nI as), .ref aO, .ref aV, .int la, .int bl, .ref aT, .int (nI th)])), (aT, .inl (kT, 16, .inl tf))] := hD
    refine lv_aload_n hx hb dM_least_21 rfl (lv_at hl 0 rfl) ?_
    refine va_get (D := (dC, dI)) (ci := 2) (v := .int 1) (C := RM) (T := TM) (N := 17) hx hb hts lyM hown hK hP 0 rfl rfl 0 (by decide) (hts _ fl_M_37) (fun _ h9 => h9) rfl dM_least_22 ?_
    refine lv_if_le (tgt := 30) hx hb dM_least_25 (by decide) (fun c9 => ?_) (fun c9 => ?_)
    · exact absurd c9 (by decide)
    · refine lv_iconst (v := 0) hx hb dM_least_28 (by decide) ?_
      exact (W.iret (v := 0) hx hb hr (fun t ht hW => ⟨⟨0, 1, rfl, Or.inl ⟨rfl, fun ⟨v, hv, e⟩ => absurd c1 (by rw [e]; exact nI_pos (by omega))⟩, by rw [ht]; exact hP, va_K.moved hW.alike hK, hD⟩, hS.F ht⟩) hS.2.2 dM_least_29)
  · refine lv_iload_n hx hb dM_least_5 rfl (lv_at hl 1 rfl) ?_
    refine lv_aload_n hx hb dM_least_6 rfl (lv_at hl 0 rfl) ?_
    refine va_get (D := (dC, dI)) (ci := 2) (v := .int (nI nv)) (C := RM) (T := TM) (N := 17) hx hb hts lyM hown hK hP 0 rfl rfl 1 (by decide) (hts _ fl_M_41) (fun _ h9 => h9) rfl dM_least_7 ?_
    refine lv_icmp_lt (tgt := 17) hx hb dM_least_10 (by decide) (fun c2 => ?_) (fun c2 => ?_)
    · obtain ⟨v, hv31, ev⟩ := nI_of c1
      have hv : v < nv := (nI_ltI (by omega) (by omega)).mp (by rw [← ev]; exact c2)
      subst ev
      refine lv_iconst (v := 0) hx hb dM_least_17 (by decide) ?_
      refine va_put (D := (dC, dI)) (ci := 2) (v := .int 0) (ty := .int) (C := RM) (T := TM) (N := 17) hx hb hts lyM tyM tyM_ok nmM hown hK hP hD hS 0 rfl rfl 0 (by decide) (hts _ fl_M_37) (fun _ h9 => h9) rfl (by decide +kernel) rfl rfl (Nat.le_of_ble_eq_true rfl) dM_least_18 (fun H locs hP hD hS => ?_)
      have hP : va_P (dC, dI) vwCl [(g0, .inr (2, [.int 0, .int (nI nv), .int (nI nc), .ref aL, .int (nI us), .ref aS, .int (nI dr), .ref aF, .ref aN, .ref aA, .int (nI as), .ref aO, .ref aV, .int la, .int bl, .ref aT, .int (nI th)])), (aT, .inl (kT, 16, .inl tf))] H := hP
      have hD : va_D A [(g0, .inr (2, [.int 0, .int (nI nv), .int (nI nc), .ref aL, .int (nI us), .ref aS, .int (nI dr), .ref aF, .ref aN, .ref aA, .int (nI as), .ref aO, .ref aV, .int la, .int bl, .ref aT, .int (nI th)])), (aT, .inl (kT, 16, .inl tf))] := hD
      refine lv_aload_n hx hb dM_least_21 rfl (lv_at hl 0 rfl) ?_
      refine va_get (D := (dC, dI)) (ci := 2) (v := .int 0) (C := RM) (T := TM) (N := 17) hx hb hts lyM hown hK hP 0 rfl rfl 0 (by decide) (hts _ fl_M_37) (fun _ h9 => h9) rfl dM_least_22 ?_
      refine lv_if_le (tgt := 30) hx hb dM_least_25 (by decide) (fun c9 => ?_) (fun c9 => ?_)
      · refine lv_aload_n hx hb dM_least_30 rfl (lv_at hl 0 rfl) ?_
        refine va_get (D := (dC, dI)) (ci := 2) (v := .int la) (C := RM) (T := TM) (N := 17) hx hb hts lyM hown hK hP 0 rfl rfl 13 (by decide) (hts _ fl_M_56) (fun _ h9 => h9) rfl dM_least_31 ?_
        refine lv_iconst (v := 1) hx hb dM_least_34 (by decide) ?_
        refine lv_icmp_ne (tgt := 55) hx hb dM_least_35 (by decide) (fun c3 => ?_) (fun c3 => ?_)
        · refine lv_iconst (v := (-1)) hx hb dM_least_55 (by decide) ?_
          exact (W.iret (v := (-1)) hx hb hr (fun t ht hW => ⟨⟨(-1), 0, rfl, Or.inr ⟨rfl, v, hv, rfl, Or.inl ⟨rfl, Or.inl c3⟩⟩, by rw [ht]; exact hP, va_K.moved hW.alike hK, hD⟩, hS.F ht⟩) hS.2.2 dM_least_56)
        · refine lv_iload_n hx hb dM_least_38 rfl (lv_at hl 1 rfl) ?_
          refine lv_aload_n hx hb dM_least_39 rfl (lv_at hl 0 rfl) ?_
          refine va_get (D := (dC, dI)) (ci := 2) (v := .int (nI th)) (C := RM) (T := TM) (N := 17) hx hb hts lyM hown hK hP 0 rfl rfl 16 (by decide) (hts _ fl_M_59) (fun _ h9 => h9) rfl dM_least_40 ?_
          refine lv_icmp_ge (tgt := 55) hx hb dM_least_43 (by decide) (fun c4 => ?_) (fun c4 => ?_)
          · have c4 : th ≤ v := (nI_leI (a := th) (b := v) (by omega) (by omega)).mp c4
            refine lv_iconst (v := (-1)) hx hb dM_least_55 (by decide) ?_
            exact (W.iret (v := (-1)) hx hb hr (fun t ht hW => ⟨⟨(-1), 0, rfl, Or.inr ⟨rfl, v, hv, rfl, Or.inl ⟨rfl, Or.inr c4⟩⟩, by rw [ht]; exact hP, va_K.moved hW.alike hK, hD⟩, hS.F ht⟩) hS.2.2 dM_least_56)
          · have c4 : v < th := Nat.lt_of_not_le (fun q => c4 ((nI_leI (a := th) (b := v) (by omega) (by omega)).mpr q))
            refine lv_aload_n hx hb dM_least_46 rfl (lv_at hl 0 rfl) ?_
            refine va_get (D := (dC, dI)) (ci := 2) (v := .ref aT) (C := RM) (T := TM) (N := 17) hx hb hts lyM hown hK hP 0 rfl rfl 15 (by decide) (hts _ fl_M_31) (fun _ h9 => h9) rfl dM_least_47 ?_
            refine lv_iload_n hx hb dM_least_50 rfl (lv_at hl 1 rfl) ?_
            refine va_iald hx hb hK hP 1 0 rfl rfl (vp_in_nI (by omega) (by decide)) dM_least_51 ?_
            refine ls_topi (y := tf v) (by rw [nI_clamp (by omega)]) ?_
            refine lv_goto (tgt := 56) hx hb dM_least_52 (by decide) ?_
            exact (W.iret (v := tf v) hx hb hr (fun t ht hW => ⟨⟨tf v, 0, rfl, Or.inr ⟨rfl, v, hv, rfl, Or.inr ⟨c3, c4, rfl⟩⟩, by rw [ht]; exact hP, va_K.moved hW.alike hK, hD⟩, hS.F ht⟩) hS.2.2 dM_least_56)
      · exact absurd (by decide) c9
    · refine lv_iconst (v := 1) hx hb dM_least_13 (by decide) ?_
      refine lv_goto (tgt := 18) hx hb dM_least_14 (by decide) ?_
      refine va_put (D := (dC, dI)) (ci := 2) (v := .int 1) (ty := .int) (C := RM) (T := TM) (N := 17) hx hb hts lyM tyM tyM_ok nmM hown hK hP hD hS 0 rfl rfl 0 (by decide) (hts _ fl_M_37) (fun _ h9 => h9) rfl (by decide +kernel) rfl rfl (Nat.le_of_ble_eq_true rfl) dM_least_18 (fun H locs hP hD hS => ?_)
      have hP : va_P (dC, dI) vwCl [(g0, .inr (2, [.int 1, .int (nI nv), .int (nI nc), .ref aL, .int (nI us), .ref aS, .int (nI dr), .ref aF, .ref aN, .ref aA, .int (nI as), .ref aO, .ref aV, .int la, .int bl, .ref aT, .int (nI th)])), (aT, .inl (kT, 16, .inl tf))] H := hP
      have hD : va_D A [(g0, .inr (2, [.int 1, .int (nI nv), .int (nI nc), .ref aL, .int (nI us), .ref aS, .int (nI dr), .ref aF, .ref aN, .ref aA, .int (nI as), .ref aO, .ref aV, .int la, .int bl, .ref aT, .int (nI th)])), (aT, .inl (kT, 16, .inl tf))] := hD
      refine lv_aload_n hx hb dM_least_21 rfl (lv_at hl 0 rfl) ?_
      refine va_get (D := (dC, dI)) (ci := 2) (v := .int 1) (C := RM) (T := TM) (N := 17) hx hb hts lyM hown hK hP 0 rfl rfl 0 (by decide) (hts _ fl_M_37) (fun _ h9 => h9) rfl dM_least_22 ?_
      refine lv_if_le (tgt := 30) hx hb dM_least_25 (by decide) (fun c9 => ?_) (fun c9 => ?_)
      · exact absurd c9 (by decide)
      · refine lv_iconst (v := 0) hx hb dM_least_28 (by decide) ?_
        exact (W.iret (v := 0) hx hb hr (fun t ht hW => ⟨⟨0, 1, rfl, Or.inl ⟨rfl, fun ⟨v, hv, e⟩ => c2 (by rw [e]; exact nI_lt hv (by omega))⟩, by rw [ht]; exact hP, va_K.moved hW.alike hK, hD⟩, hS.F ht⟩) hS.2.2 dM_least_29)
set_option maxHeartbeats 4000000 in
set_option maxRecDepth 100000 in
theorem k_M_free (l : Launch) (dC : Nat → ClassId) (dI : Nat → Nat → Nat) (tI sz : Nat) (g0 aL aS aF aN aA aO aV aT : Nat) (kO : ClassId) (of : Nat → Int32) (nv nc us dr as th : Nat) (co la bl : Int32) (hnv : nv ≤ 16) : Met l yM_free (Cond.code yM_free cM_free 2 none :: GG) (lvr 0 0 0) (va_Pc [.ref g0] (wPre dC dI [(kO, .int)] [(g0, .inr (2, [.int co, .int (nI nv), .int (nI nc), .ref aL, .int (nI us), .ref aS, .int (nI dr), .ref aF, .ref aN, .ref aA, .int (nI as), .ref aO, .ref aV, .int la, .int bl, .ref aT, .int (nI th)])), (aO, .inl (kO, 16, .inl of))] sz tI)) (va_Qv (fun (u : Nat → Int32) => ∀ k, k < nv → u k = -1) (fun u t => wB dC dI [(kO, .int)] (va_A [(g0, .inr (2, [.int co, .int (nI nv), .int (nI nc), .ref aL, .int (nI us), .ref aS, .int (nI dr), .ref aF, .ref aN, .ref aA, .int (nI as), .ref aO, .ref aV, .int la, .int bl, .ref aT, .int (nI th)])), (aO, .inl (kO, 16, .inl of))] sz) [(g0, .inr (2, [.int co, .int (nI nv), .int (nI nc), .ref aL, .int (nI us), .ref aS, .int (nI dr), .ref aF, .ref aN, .ref aA, .int (nI as), .ref aO, .ref aV, .int la, .int bl, .ref aT, .int (nI th)])), (aO, .inl (kO, 16, .inl u))] t) (va_A [(g0, .inr (2, [.int co, .int (nI nv), .int (nI nc), .ref aL, .int (nI us), .ref aS, .int (nI dr), .ref aF, .ref aN, .ref aA, .int (nI as), .ref aO, .ref aV, .int la, .int bl, .ref aT, .int (nI th)])), (aO, .inl (kO, 16, .inl of))] sz)) 0 0 (va_A [(g0, .inr (2, [.int co, .int (nI nv), .int (nI nc), .ref aL, .int (nI us), .ref aS, .int (nI dr), .ref aF, .ref aN, .ref aA, .int (nI as), .ref aO, .ref aV, .int la, .int bl, .ref aT, .int (nI th)])), (aO, .inl (kO, 16, .inl of))] sz) := by
  refine Met.ofW (cc := cM_free) (maxL := 2) (ret := none) (by decide) rfl ?_
  intro p e s m args below meth c s₁ B hml hv
  obtain ⟨rfl, hsz, hP, hK, hD0, hZ, hX⟩ := hv
  have hx := B.exec
  have hb := B.bytes
  have hr := B.returns
  have hts : ∀ w ∈ GG, w.before ([.ref g0] : List Value).toArray s = true := fun w h => atoms_spec (ws := _ :: GG) B.pre w (List.mem_cons_of_mem _ h)
  have hown : s.vm.findClass RM = some m.cls := findClass_of_methodNamed B.named
  have hlocks := B.notSynchronized
  subst hsz
  have hD := hD0.self (sz := s.heap.size)
  generalize hAe : va_A [(g0, .inr (2, [.int co, .int (nI nv), .int (nI nc), .ref aL, .int (nI us), .ref aS, .int (nI dr), .ref aF, .ref aN, .ref aA, .int (nI as), .ref aO, .ref aV, .int la, .int bl, .ref aT, .int (nI th)])), (aO, .inl (kO, 16, .inl of))] s.heap.size = A at hD hZ ⊢
  have hA : ∀ q : Nat, s.heap.size ≤ q → A q := fun q h => by rw [← hAe]; exact Or.inr h
  have hS : va_S A s.heap s.heap [] := va_S.rf
  have hl := lv_entry ([.ref g0]) (n := 2) (Nat.le_of_ble_eq_true rfl)
  rw [lg_entry_eq]
  generalize (lg_sl ([.ref g0]) ++ List.replicate (2 - (lg_sl ([.ref g0])).length) Slot.unset).toArray = ls at hl ⊢
  have hl : lv_has ls 2 [(0, .ref g0)] := hl
  have SF : CallFix p m c cM_free 2 s ([.ref g0] : List Value).toArray GG RM := ⟨hx, hb, hml, hown, hts⟩
  skip
  have hP : va_P (dC, dI) vwCl [(g0, .inr (2, [.int co, .int (nI nv), .int (nI nc), .ref aL, .int (nI us), .ref aS, .int (nI dr), .ref aF, .ref aN, .ref aA, .int (nI as), .ref aO, .ref aV, .int la, .int bl, .ref aT, .int (nI th)])), (aO, .inl (kO, 16, .inl of))] s.heap := hP
  refine lv_iconst (v := 0) hx hb dM_free_0 (by decide) ?_
  refine lv_istore_n (lv' := [(1, .int 0), (0, .ref g0)]) hx hb dM_free_1 rfl hl (by decide) rfl (fun ls hl => ?_)
  refine lp_mu (α := Nat × (Nat → Int32)) (fun a_ => match a_ with | (i, g) => nv - i) (fun a_ H locs ls => match a_ with | (i, g) => (i ≤ nv ∧ ∀ k, k < i → g k = -1) ∧ va_P (dC, dI) vwCl [(g0, .inr (2, [.int co, .int (nI nv), .int (nI nc), .ref aL, .int (nI us), .ref aS, .int (nI dr), .ref aF, .ref aN, .ref aA, .int (nI as), .ref aO, .ref aV, .int la, .int bl, .ref aT, .int (nI th)])), (aO, .inl (kO, 16, .inl g))] H ∧ va_D A [(g0, .inr (2, [.int co, .int (nI nv), .int (nI nc), .ref aL, .int (nI us), .ref aS, .int (nI dr), .ref aF, .ref aN, .ref aA, .int (nI as), .ref aO, .ref aV, .int la, .int bl, .ref aT, .int (nI th)])), (aO, .inl (kO, 16, .inl g))] ∧ va_S A s.heap H locs ∧ lv_has ls 2 [(0, .ref g0), (1, .int (nI i))]) ?_ (0, of) ⟨⟨Nat.zero_le _, fun k hk => absurd hk (Nat.not_lt_zero _)⟩, hP, hD, hS, lv_sub hl [1, 0] rfl⟩
  intro a_ H locs ls hI ih
  obtain ⟨i, g⟩ := a_
  obtain ⟨hI, hP, hD, hS, hl⟩ := hI
  have hI : i ≤ nv ∧ ∀ k, k < i → g k = -1 := hI
  have hP : va_P (dC, dI) vwCl [(g0, .inr (2, [.int co, .int (nI nv), .int (nI nc), .ref aL, .int (nI us), .ref aS, .int (nI dr), .ref aF, .ref aN, .ref aA, .int (nI as), .ref aO, .ref aV, .int la, .int bl, .ref aT, .int (nI th)])), (aO, .inl (kO, 16, .inl g))] H := hP
  have hD : va_D A [(g0, .inr (2, [.int co, .int (nI nv), .int (nI nc), .ref aL, .int (nI us), .ref aS, .int (nI dr), .ref aF, .ref aN, .ref aA, .int (nI as), .ref aO, .ref aV, .int la, .int bl, .ref aT, .int (nI th)])), (aO, .inl (kO, 16, .inl g))] := hD
  have hl : lv_has ls 2 [(0, .ref g0), (1, .int (nI i))] := hl
  obtain ⟨hi, hg⟩ := hI
  refine lv_iload_n hx hb dM_free_2 rfl (lv_at hl 1 rfl) ?_
  refine lv_aload_n hx hb dM_free_3 rfl (lv_at hl 0 rfl) ?_
  refine va_get (D := (dC, dI)) (ci := 2) (v := .int (nI nv)) (C := RM) (T := TM) (N := 17) hx hb hts lyM hown hK hP 0 rfl rfl 1 (by decide) (hts _ fl_M_41) (fun _ h9 => h9) rfl dM_free_4 ?_
  refine lv_icmp_ge (tgt := 23) hx hb dM_free_7 (by decide) (fun c1 => ?_) (fun c1 => ?_)
  · have c1 : nv ≤ i := (nI_leI (a := nv) (b := i) (by omega) (by omega)).mp c1
    exact (W.vret hx hb hr (fun t ht hW => ⟨⟨g, rfl, fun k hk => hg k (by omega), by rw [ht]; exact hP, va_K.moved hW.alike hK, hD⟩, hS.F ht⟩) hS.2.2 dM_free_23)
  · have c1 : i < nv := Nat.lt_of_not_le (fun q => c1 ((nI_leI (a := nv) (b := i) (by omega) (by omega)).mpr q))
    refine lv_aload_n hx hb dM_free_10 rfl (lv_at hl 0 rfl) ?_
    refine va_get (D := (dC, dI)) (ci := 2) (v := .ref aO) (C := RM) (T := TM) (N := 17) hx hb hts lyM hown hK hP 0 rfl rfl 11 (by decide) (hts _ fl_M_25) (fun _ h9 => h9) rfl dM_free_11 ?_
    refine lv_iload_n hx hb dM_free_14 rfl (lv_at hl 1 rfl) ?_
    refine lv_iconst (v := (-1)) hx hb dM_free_15 (by decide) ?_
    refine va_iast hx hb hK hP hD hS 1 0 rfl rfl (vp_in_nI (by omega) (by decide)) dM_free_16 (fun H locs hP hD hS => ?_)
    rw [show upd g (nI i).toNatClampNeg (-1) = upd g i (-1) from by rw [nI_clamp (by omega)]] at hP hD
    have hP : va_P (dC, dI) vwCl [(g0, .inr (2, [.int co, .int (nI nv), .int (nI nc), .ref aL, .int (nI us), .ref aS, .int (nI dr), .ref aF, .ref aN, .ref aA, .int (nI as), .ref aO, .ref aV, .int la, .int bl, .ref aT, .int (nI th)])), (aO, .inl (kO, 16, .inl (upd g i (-1))))] H := hP
    have hD : va_D A [(g0, .inr (2, [.int co, .int (nI nv), .int (nI nc), .ref aL, .int (nI us), .ref aS, .int (nI dr), .ref aF, .ref aN, .ref aA, .int (nI as), .ref aO, .ref aV, .int la, .int bl, .ref aT, .int (nI th)])), (aO, .inl (kO, 16, .inl (upd g i (-1))))] := hD
    refine lv_iinc (v := nI (i + 1)) (lv' := [(1, .int (nI (i + 1))), (0, .ref g0)]) hx hb dM_free_17 hl (k := 1) rfl (nI_1 _) (by decide) rfl (fun ls hl => ?_)
    refine lv_goto (tgt := 2) hx hb dM_free_20 (by decide) ?_
    exact ih (i + 1, upd g i (-1)) _ _ _ (by show nv - (i + 1) < nv - i; omega) ⟨⟨c1, fun k hk => by
        unfold upd
        by_cases q : k = i
        · rw [if_pos q]
        · rw [if_neg q]; exact hg k (by omega)⟩, hP, hD, hS, lv_sub hl [1, 0] rfl⟩
set_option maxHeartbeats 4000000 in
set_option maxRecDepth 100000 in
theorem k_M_force (l : Launch) (dC : Nat → ClassId) (dI : Nat → Nat → Nat) (tI sz : Nat) (g0 aL aS aF aN aA aO aV aT : Nat) (kO : ClassId) (of : Nat → Int32) (nv nc us dr as th : Nat) (co la bl : Int32) (L : Nat) (hL : L < 32) : Met l yM_force (Cond.code yM_force cM_force 4 (some .boolean) :: GG) (lvr 0 0 0) (va_Pc [.ref g0, .int (nI L)] (wPre dC dI [(kO, .int)] [(g0, .inr (2, [.int co, .int (nI nv), .int (nI nc), .ref aL, .int (nI us), .ref aS, .int (nI dr), .ref aF, .ref aN, .ref aA, .int (nI as), .ref aO, .ref aV, .int la, .int bl, .ref aT, .int (nI th)])), (aO, .inl (kO, 16, .inl of))] sz tI)) (va_Qi (fun (r : Int32) (u : Unit) => (r = 1 ∧ (of (L / 2) = -1 ∨ of (L / 2) = nI (1 - L % 2))) ∨ (r = 0 ∧ ¬ of (L / 2) = -1 ∧ ¬ of (L / 2) = nI (1 - L % 2))) (fun u t => wB dC dI [(kO, .int)] (va_A [(g0, .inr (2, [.int co, .int (nI nv), .int (nI nc), .ref aL, .int (nI us), .ref aS, .int (nI dr), .ref aF, .ref aN, .ref aA, .int (nI as), .ref aO, .ref aV, .int la, .int bl, .ref aT, .int (nI th)])), (aO, .inl (kO, 16, .inl of))] sz) [(g0, .inr (2, [.int co, .int (nI nv), .int (nI nc), .ref aL, .int (nI us), .ref aS, .int (nI dr), .ref aF, .ref aN, .ref aA, .int (nI as), .ref aO, .ref aV, .int la, .int bl, .ref aT, .int (nI th)])), (aO, .inl (kO, 16, .inl (upd of (L / 2) (nI (1 - L % 2)))))] t) (va_A [(g0, .inr (2, [.int co, .int (nI nv), .int (nI nc), .ref aL, .int (nI us), .ref aS, .int (nI dr), .ref aF, .ref aN, .ref aA, .int (nI as), .ref aO, .ref aV, .int la, .int bl, .ref aT, .int (nI th)])), (aO, .inl (kO, 16, .inl of))] sz)) 0 0 (va_A [(g0, .inr (2, [.int co, .int (nI nv), .int (nI nc), .ref aL, .int (nI us), .ref aS, .int (nI dr), .ref aF, .ref aN, .ref aA, .int (nI as), .ref aO, .ref aV, .int la, .int bl, .ref aT, .int (nI th)])), (aO, .inl (kO, 16, .inl of))] sz) := by
  refine Met.ofW (cc := cM_force) (maxL := 4) (ret := (some .boolean)) (by decide) rfl ?_
  intro p e s m args below meth c s₁ B hml hv
  obtain ⟨rfl, hsz, hP, hK, hD0, hZ, hX⟩ := hv
  have hx := B.exec
  have hb := B.bytes
  have hr := B.returns
  have hts : ∀ w ∈ GG, w.before ([.ref g0, .int (nI L)] : List Value).toArray s = true := fun w h => atoms_spec (ws := _ :: GG) B.pre w (List.mem_cons_of_mem _ h)
  have hown : s.vm.findClass RM = some m.cls := findClass_of_methodNamed B.named
  have hlocks := B.notSynchronized
  subst hsz
  have hD := hD0.self (sz := s.heap.size)
  generalize hAe : va_A [(g0, .inr (2, [.int co, .int (nI nv), .int (nI nc), .ref aL, .int (nI us), .ref aS, .int (nI dr), .ref aF, .ref aN, .ref aA, .int (nI as), .ref aO, .ref aV, .int la, .int bl, .ref aT, .int (nI th)])), (aO, .inl (kO, 16, .inl of))] s.heap.size = A at hD hZ ⊢
  have hA : ∀ q : Nat, s.heap.size ≤ q → A q := fun q h => by rw [← hAe]; exact Or.inr h
  have hS : va_S A s.heap s.heap [] := va_S.rf
  have hl := lv_entry ([.ref g0, .int (nI L)]) (n := 4) (Nat.le_of_ble_eq_true rfl)
  rw [lg_entry_eq]
  generalize (lg_sl ([.ref g0, .int (nI L)]) ++ List.replicate (4 - (lg_sl ([.ref g0, .int (nI L)])).length) Slot.unset).toArray = ls at hl ⊢
  have hl : lv_has ls 4 [(0, .ref g0), (1, .int (nI L))] := hl
  have SF : CallFix p m c cM_force 4 s ([.ref g0, .int (nI L)] : List Value).toArray GG RM := ⟨hx, hb, hml, hown, hts⟩
  skip
  have hP : va_P (dC, dI) vwCl [(g0, .inr (2, [.int co, .int (nI nv), .int (nI nc), .ref aL, .int (nI us), .ref aS, .int (nI dr), .ref aF, .ref aN, .ref aA, .int (nI as), .ref aO, .ref aV, .int la, .int bl, .ref aT, .int (nI th)])), (aO, .inl (kO, 16, .inl of))] s.heap := hP
  refine lv_iconst (v := 1) hx hb dM_force_0 (by decide) ?_
  refine lv_iload_n hx hb dM_force_1 rfl (lv_at hl 1 rfl) ?_
  refine lv_iconst (v := 2) hx hb dM_force_2 (by decide) ?_
  refine lv_irem hx hb dM_force_3 (by decide) ?_
  refine ls_topi (y := nI (L % 2)) (pk_rem (by omega) (by decide) (by decide)) ?_
  refine lv_isub hx hb dM_force_4 ?_
  refine ls_topi (y := nI (1 - L % 2)) (pk_sub (a := 1) (by omega)) ?_
  refine lv_istore_n (lv' := [(2, .int (nI (1 - L % 2))), (0, .ref g0), (1, .int (nI L))]) hx hb dM_force_5 rfl hl (by decide) rfl (fun ls hl => ?_)
  refine lv_aload_n hx hb dM_force_6 rfl (lv_at hl 1 rfl) ?_
  refine va_get (D := (dC, dI)) (ci := 2) (v := .ref aO) (C := RM) (T := TM) (N := 17) hx hb hts lyM hown hK hP 0 rfl rfl 11 (by decide) (hts _ fl_M_25) (fun _ h9 => h9) rfl dM_force_7 ?_
  refine lv_iload_n hx hb dM_force_10 rfl (lv_at hl 2 rfl) ?_
  refine lv_iconst (v := 2) hx hb dM_force_11 (by decide) ?_
  refine lv_idiv hx hb dM_force_12 (by decide) ?_
  refine ls_topi (y := nI (L / 2)) (pk_div (by omega) (by decide) (by decide)) ?_
  refine va_iald hx hb hK hP 1 0 rfl rfl (vp_in_nI (by omega) (by decide)) dM_force_13 ?_
  refine ls_topi (y := of (L / 2)) (by rw [nI_clamp (by omega)]) ?_
  refine lv_iconst (v := (-1)) hx hb dM_force_14 (by decide) ?_
  refine lv_icmp_eq (tgt := 30) hx hb dM_force_15 (by decide) (fun c1 => ?_) (fun c1 => ?_)
  · refine lv_iconst (v := 1) hx hb dM_force_30 (by decide) ?_
    refine lv_goto (tgt := 35) hx hb dM_force_31 (by decide) ?_
    refine lv_istore_n (lv' := [(3, .int 1), (2, .int (nI (1 - L % 2))), (0, .ref g0), (1, .int (nI L))]) hx hb dM_force_35 rfl hl (by decide) rfl (fun ls hl => ?_)
    refine lv_aload_n hx hb dM_force_36 rfl (lv_at hl 2 rfl) ?_
    refine va_get (D := (dC, dI)) (ci := 2) (v := .ref aO) (C := RM) (T := TM) (N := 17) hx hb hts lyM hown hK hP 0 rfl rfl 11 (by decide) (hts _ fl_M_25) (fun _ h9 => h9) rfl dM_force_37 ?_
    refine lv_iload_n hx hb dM_force_40 rfl (lv_at hl 3 rfl) ?_
    refine lv_iconst (v := 2) hx hb dM_force_41 (by decide) ?_
    refine lv_idiv hx hb dM_force_42 (by decide) ?_
    refine ls_topi (y := nI (L / 2)) (pk_div (by omega) (by decide) (by decide)) ?_
    refine lv_iload_n hx hb dM_force_43 rfl (lv_at hl 1 rfl) ?_
    refine va_iast hx hb hK hP hD hS 1 0 rfl rfl (vp_in_nI (by omega) (by decide)) dM_force_44 (fun H locs hP hD hS => ?_)
    rw [show upd of (nI (L / 2)).toNatClampNeg (nI (1 - L % 2)) = upd of (L / 2) (nI (1 - L % 2)) from by rw [nI_clamp (by omega)]] at hP hD
    have hP : va_P (dC, dI) vwCl [(g0, .inr (2, [.int co, .int (nI nv), .int (nI nc), .ref aL, .int (nI us), .ref aS, .int (nI dr), .ref aF, .ref aN, .ref aA, .int (nI as), .ref aO, .ref aV, .int la, .int bl, .ref aT, .int (nI th)])), (aO, .inl (kO, 16, .inl (upd of (L / 2) (nI (1 - L % 2)))))] H := hP
    have hD : va_D A [(g0, .inr (2, [.int co, .int (nI nv), .int (nI nc), .ref aL, .int (nI us), .ref aS, .int (nI dr), .ref aF, .ref aN, .ref aA, .int (nI as), .ref aO, .ref aV, .int la, .int bl, .ref aT, .int (nI th)])), (aO, .inl (kO, 16, .inl (upd of (L / 2) (nI (1 - L % 2)))))] := hD
    refine lv_iload_n hx hb dM_force_45 rfl (lv_at hl 0 rfl) ?_
    exact (W.zret (v := 1) hx hb hr (rfl) (fun t ht hW => ⟨⟨1, (), rfl, Or.inl ⟨rfl, Or.inl c1⟩, by rw [ht]; exact hP, va_K.moved hW.alike hK, hD⟩, hS.F ht⟩) hS.2.2 dM_force_46)
  · refine lv_aload_n hx hb dM_force_18 rfl (lv_at hl 1 rfl) ?_
    refine va_get (D := (dC, dI)) (ci := 2) (v := .ref aO) (C := RM) (T := TM) (N := 17) hx hb hts lyM hown hK hP 0 rfl rfl 11 (by decide) (hts _ fl_M_25) (fun _ h9 => h9) rfl dM_force_19 ?_
    refine lv_iload_n hx hb dM_force_22 rfl (lv_at hl 2 rfl) ?_
    refine lv_iconst (v := 2) hx hb dM_force_23 (by decide) ?_
    refine lv_idiv hx hb dM_force_24 (by decide) ?_
    refine ls_topi (y := nI (L / 2)) (pk_div (by omega) (by decide) (by decide)) ?_
    refine va_iald hx hb hK hP 1 0 rfl rfl (vp_in_nI (by omega) (by decide)) dM_force_25 ?_
    refine ls_topi (y := of (L / 2)) (by rw [nI_clamp (by omega)]) ?_
    refine lv_iload_n hx hb dM_force_26 rfl (lv_at hl 0 rfl) ?_
    refine lv_icmp_ne (tgt := 34) hx hb dM_force_27 (by decide) (fun c2 => ?_) (fun c2 => ?_)
    · refine lv_iconst (v := 0) hx hb dM_force_34 (by decide) ?_
      refine lv_istore_n (lv' := [(3, .int 0), (2, .int (nI (1 - L % 2))), (0, .ref g0), (1, .int (nI L))]) hx hb dM_force_35 rfl hl (by decide) rfl (fun ls hl => ?_)
      refine lv_aload_n hx hb dM_force_36 rfl (lv_at hl 2 rfl) ?_
      refine va_get (D := (dC, dI)) (ci := 2) (v := .ref aO) (C := RM) (T := TM) (N := 17) hx hb hts lyM hown hK hP 0 rfl rfl 11 (by decide) (hts _ fl_M_25) (fun _ h9 => h9) rfl dM_force_37 ?_
      refine lv_iload_n hx hb dM_force_40 rfl (lv_at hl 3 rfl) ?_
      refine lv_iconst (v := 2) hx hb dM_force_41 (by decide) ?_
      refine lv_idiv hx hb dM_force_42 (by decide) ?_
      refine ls_topi (y := nI (L / 2)) (pk_div (by omega) (by decide) (by decide)) ?_
      refine lv_iload_n hx hb dM_force_43 rfl (lv_at hl 1 rfl) ?_
      refine va_iast hx hb hK hP hD hS 1 0 rfl rfl (vp_in_nI (by omega) (by decide)) dM_force_44 (fun H locs hP hD hS => ?_)
      rw [show upd of (nI (L / 2)).toNatClampNeg (nI (1 - L % 2)) = upd of (L / 2) (nI (1 - L % 2)) from by rw [nI_clamp (by omega)]] at hP hD
      have hP : va_P (dC, dI) vwCl [(g0, .inr (2, [.int co, .int (nI nv), .int (nI nc), .ref aL, .int (nI us), .ref aS, .int (nI dr), .ref aF, .ref aN, .ref aA, .int (nI as), .ref aO, .ref aV, .int la, .int bl, .ref aT, .int (nI th)])), (aO, .inl (kO, 16, .inl (upd of (L / 2) (nI (1 - L % 2)))))] H := hP
      have hD : va_D A [(g0, .inr (2, [.int co, .int (nI nv), .int (nI nc), .ref aL, .int (nI us), .ref aS, .int (nI dr), .ref aF, .ref aN, .ref aA, .int (nI as), .ref aO, .ref aV, .int la, .int bl, .ref aT, .int (nI th)])), (aO, .inl (kO, 16, .inl (upd of (L / 2) (nI (1 - L % 2)))))] := hD
      refine lv_iload_n hx hb dM_force_45 rfl (lv_at hl 0 rfl) ?_
      exact (W.zret (v := 0) hx hb hr (rfl) (fun t ht hW => ⟨⟨0, (), rfl, Or.inr ⟨rfl, c1, c2⟩, by rw [ht]; exact hP, va_K.moved hW.alike hK, hD⟩, hS.F ht⟩) hS.2.2 dM_force_46)
    · refine lv_iconst (v := 1) hx hb dM_force_30 (by decide) ?_
      refine lv_goto (tgt := 35) hx hb dM_force_31 (by decide) ?_
      refine lv_istore_n (lv' := [(3, .int 1), (2, .int (nI (1 - L % 2))), (0, .ref g0), (1, .int (nI L))]) hx hb dM_force_35 rfl hl (by decide) rfl (fun ls hl => ?_)
      refine lv_aload_n hx hb dM_force_36 rfl (lv_at hl 2 rfl) ?_
      refine va_get (D := (dC, dI)) (ci := 2) (v := .ref aO) (C := RM) (T := TM) (N := 17) hx hb hts lyM hown hK hP 0 rfl rfl 11 (by decide) (hts _ fl_M_25) (fun _ h9 => h9) rfl dM_force_37 ?_
      refine lv_iload_n hx hb dM_force_40 rfl (lv_at hl 3 rfl) ?_
      refine lv_iconst (v := 2) hx hb dM_force_41 (by decide) ?_
      refine lv_idiv hx hb dM_force_42 (by decide) ?_
      refine ls_topi (y := nI (L / 2)) (pk_div (by omega) (by decide) (by decide)) ?_
      refine lv_iload_n hx hb dM_force_43 rfl (lv_at hl 1 rfl) ?_
      refine va_iast hx hb hK hP hD hS 1 0 rfl rfl (vp_in_nI (by omega) (by decide)) dM_force_44 (fun H locs hP hD hS => ?_)
      rw [show upd of (nI (L / 2)).toNatClampNeg (nI (1 - L % 2)) = upd of (L / 2) (nI (1 - L % 2)) from by rw [nI_clamp (by omega)]] at hP hD
      have hP : va_P (dC, dI) vwCl [(g0, .inr (2, [.int co, .int (nI nv), .int (nI nc), .ref aL, .int (nI us), .ref aS, .int (nI dr), .ref aF, .ref aN, .ref aA, .int (nI as), .ref aO, .ref aV, .int la, .int bl, .ref aT, .int (nI th)])), (aO, .inl (kO, 16, .inl (upd of (L / 2) (nI (1 - L % 2)))))] H := hP
      have hD : va_D A [(g0, .inr (2, [.int co, .int (nI nv), .int (nI nc), .ref aL, .int (nI us), .ref aS, .int (nI dr), .ref aF, .ref aN, .ref aA, .int (nI as), .ref aO, .ref aV, .int la, .int bl, .ref aT, .int (nI th)])), (aO, .inl (kO, 16, .inl (upd of (L / 2) (nI (1 - L % 2)))))] := hD
      refine lv_iload_n hx hb dM_force_45 rfl (lv_at hl 0 rfl) ?_
      exact (W.zret (v := 1) hx hb hr (rfl) (fun t ht hW => ⟨⟨1, (), rfl, Or.inl ⟨rfl, Or.inr c2⟩, by rw [ht]; exact hP, va_K.moved hW.alike hK, hD⟩, hS.F ht⟩) hS.2.2 dM_force_46)
