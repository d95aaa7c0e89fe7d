set_option maxHeartbeats 4000000 in
set_option maxRecDepth 100000 in
/-- end() -/
theorem k_R_end (l : Launch) (dC : Nat → ClassId) (dI : Nat → Nat → Nat) (tI sz : Nat) (h w : Nat) (cL : ClassId) (f : Nat → Int64) (U : Nat) (hU : U ≤ 1024) : Met l yR_end (Cond.code yR_end cR_end 1 (some .int) :: GG) (lvr 1 0 0) (va_Pc [.ref h] (wPre dC dI [(cL, .long)] [(h, .inr (0, [.ref w, .int (nI U)])), (w, .inl (cL, 1024, .inr (.inl f)))] sz tI)) (va_Qi (fun (r : Int32) (u : Unit) => r = nI U) (fun u t => wB dC dI [(cL, .long)] (va_A [(h, .inr (0, [.ref w, .int (nI U)])), (w, .inl (cL, 1024, .inr (.inl f)))] sz) [(h, .inr (0, [.ref w, .int (nI U)])), (w, .inl (cL, 1024, .inr (.inl f)))] t) (va_A [(h, .inr (0, [.ref w, .int (nI U)])), (w, .inl (cL, 1024, .inr (.inl f)))] sz)) 0 0 (va_A [(h, .inr (0, [.ref w, .int (nI U)])), (w, .inl (cL, 1024, .inr (.inl f)))] sz) := by
  refine Met.ofW (cc := cR_end) (maxL := 1) (ret := (some .int)) (by decide) rfl ?_
  intro p e s m args below meth c s₁ B hml hv
  obtain ⟨rfl, hsz, hP, hK, hD0, hZ, hX⟩ := hv
  have hx := B.exec
  have hb := B.bytes
  have hr := B.returns
  have hts : ∀ w ∈ GG, w.before ([.ref h] : List Value).toArray s = true := fun w h => atoms_spec (ws := _ :: GG) B.pre w (List.mem_cons_of_mem _ h)
  have hown : s.vm.findClass RR = some m.cls := findClass_of_methodNamed B.named
  have hlocks := B.notSynchronized
  subst hsz
  have hD := hD0.self (sz := s.heap.size)
  generalize hAe : va_A [(h, .inr (0, [.ref w, .int (nI U)])), (w, .inl (cL, 1024, .inr (.inl f)))] s.heap.size = A at hD hZ ⊢
  have hA : ∀ q : Nat, s.heap.size ≤ q → A q := fun q h => by rw [← hAe]; exact Or.inr h
  have hS : va_S A s.heap s.heap [] := va_S.rf
  have hl := lv_entry ([.ref h]) (n := 1) (Nat.le_of_ble_eq_true rfl)
  rw [lg_entry_eq]
  generalize (lg_sl ([.ref h]) ++ List.replicate (1 - (lg_sl ([.ref h])).length) Slot.unset).toArray = ls at hl ⊢
  have hl : lv_has ls 1 [(0, .ref h)] := hl
  have SF : CallFix p m c cR_end 1 s ([.ref h] : List Value).toArray GG RR := ⟨hx, hb, hml, hown, hts⟩
  skip
  have hP : va_P (dC, dI) vwCl [(h, .inr (0, [.ref w, .int (nI U)])), (w, .inl (cL, 1024, .inr (.inl f)))] s.heap := hP
  refine lv_aload_n hx hb dR_end_0 rfl (lv_at hl 0 rfl) ?_
  refine va_get (D := (dC, dI)) (ci := 0) (v := .int (nI U)) (C := RR) (T := TR) (N := 2) hx hb hts lyR hown hK hP 0 rfl rfl 1 (by decide) (hts _ fl_R_15) (fun _ h9 => h9) rfl dR_end_1 ?_
  refine lv_aload_n hx hb dR_end_4 rfl (lv_at hl 0 rfl) ?_
  refine va_get (D := (dC, dI)) (ci := 0) (v := .ref w) (C := RR) (T := TR) (N := 2) hx hb hts lyR hown hK hP 0 rfl rfl 0 (by decide) (hts _ fl_R_11) (fun _ h9 => h9) rfl dR_end_5 ?_
  refine va_alen (v := 1024) hx hb hK hP 1 0 rfl rfl rfl dR_end_8 ?_
  refine ls_topi (y := nI 1024) (by decide) ?_
  refine va_mmin (rest := []) (x := nI U) (y := nI 1024) hx hb (by rw [hml]; exact hl.1.symm) hown (hts _ ml_R_25) (hts _ st_H_min) (hts _ in_H) (hts _ co_H_min) (Nat.le_of_ble_eq_true rfl) (Nat.le_of_ble_eq_true rfl) (Nat.le_of_ble_eq_true rfl) (Nat.le_of_ble_eq_true rfl) dR_end_9 ?_
  refine ls_topi (y := nI U) (if_neg (fun q => absurd ((nI_ltI (a := 1024) (b := U) (by omega) (by omega)).mp q) (by omega))) ?_
  exact (W.iret (v := nI U) hx hb hr (fun t ht hW => ⟨⟨nI U, (), rfl, rfl, by rw [ht]; exact hP, va_K.moved hW.alike hK, hD⟩, hS.F ht⟩) hS.2.2 dR_end_12)
set_option maxHeartbeats 4000000 in
set_option maxRecDepth 100000 in
/-- outerBit(v) -/
theorem k_R_outerBit (l : Launch) (dC : Nat → ClassId) (dI : Nat → Nat → Nat) (tI sz : Nat) (v : Nat) (hv9 : v < 16) : Met l yR_outerBit (Cond.code yR_outerBit cR_outerBit 1 (some .int) :: GG) (lvr 0 0 0) (va_Pc [.int (nI v)] (wPre dC dI [] [] sz tI)) (va_Qi (fun (r : Int32) (u : Unit) => r = nI (mk_bit v)) (fun u t => wB dC dI [] (va_A [] sz) [] t) (va_A [] sz)) 0 0 (va_A [] sz) := by
  refine Met.ofW (cc := cR_outerBit) (maxL := 1) (ret := (some .int)) (by decide) rfl ?_
  intro p e s m args below meth c s₁ B hml hv
  obtain ⟨rfl, hsz, hP, hK, hD0, hZ, hX⟩ := hv
  have hx := B.exec
  have hb := B.bytes
  have hr := B.returns
  have hts : ∀ w ∈ GG, w.before ([.int (nI v)] : List Value).toArray s = true := fun w h => atoms_spec (ws := _ :: GG) B.pre w (List.mem_cons_of_mem _ h)
  have hown : s.vm.findClass RR = some m.cls := findClass_of_methodNamed B.named
  have hlocks := B.notSynchronized
  subst hsz
  have hD := hD0.self (sz := s.heap.size)
  generalize hAe : va_A [] s.heap.size = A at hD hZ ⊢
  have hA : ∀ q : Nat, s.heap.size ≤ q → A q := fun q h => by rw [← hAe]; exact Or.inr h
  have hS : va_S A s.heap s.heap [] := va_S.rf
  have hl := lv_entry ([.int (nI v)]) (n := 1) (Nat.le_of_ble_eq_true rfl)
  rw [lg_entry_eq]
  generalize (lg_sl ([.int (nI v)]) ++ List.replicate (1 - (lg_sl ([.int (nI v)])).length) Slot.unset).toArray = ls at hl ⊢
  have hl : lv_has ls 1 [(0, .int (nI v))] := hl
  have SF : CallFix p m c cR_outerBit 1 s ([.int (nI v)] : List Value).toArray GG RR := ⟨hx, hb, hml, hown, hts⟩
  skip
  have hP : va_P (dC, dI) vwCl [] s.heap := hP
  refine lv_iload_n hx hb dR_outerBit_0 rfl (lv_at hl 0 rfl) ?_
  refine lv_bipush (v := 6) hx hb dR_outerBit_1 (by decide) ?_
  refine lv_icmp_lt (tgt := 21) hx hb dR_outerBit_3 (by decide) (fun c1 => ?_) (fun c1 => ?_)
  · have c1 : v < 6 := (nI_ltI (a := v) (b := 6) (by omega) (by omega)).mp c1
    refine lv_iconst (v := 0) hx hb dR_outerBit_21 (by decide) ?_
    refine ls_topi (y := nI (mk_bit v)) (congrArg nI (show 0 = mk_bit v from (if_neg (by omega)).symm)) ?_
    exact (W.iret (v := nI (mk_bit v)) hx hb hr (fun t ht hW => ⟨⟨nI (mk_bit v), (), rfl, rfl, by rw [ht]; exact hP, va_K.moved hW.alike hK, hD⟩, hS.F ht⟩) hS.2.2 dR_outerBit_22)
  · have c1 : 6 ≤ v := Nat.le_of_not_lt (fun q => c1 ((nI_ltI (a := v) (b := 6) (by omega) (by omega)).mpr q))
    refine lv_iload_n hx hb dR_outerBit_6 rfl (lv_at hl 0 rfl) ?_
    refine lv_bipush (v := 16) hx hb dR_outerBit_7 (by decide) ?_
    refine lv_icmp_ge (tgt := 21) hx hb dR_outerBit_9 (by decide) (fun c2 => ?_) (fun c2 => ?_)
    · have c2 : 16 ≤ v := (nI_leI (a := 16) (b := v) (by omega) (by omega)).mp c2
      exact absurd c2 (by omega)
    · have c2 : v < 16 := Nat.lt_of_not_le (fun q => c2 ((nI_leI (a := 16) (b := v) (by omega) (by omega)).mpr q))
      refine lv_iconst (v := 1) hx hb dR_outerBit_12 (by decide) ?_
      refine lv_iload_n hx hb dR_outerBit_13 rfl (lv_at hl 0 rfl) ?_
      refine lv_bipush (v := 6) hx hb dR_outerBit_14 (by decide) ?_
      refine lv_isub hx hb dR_outerBit_16 ?_
      refine ls_topi (y := nI (v - 6)) (pk_sub c1) ?_
      refine lv_ishl hx hb dR_outerBit_17 ?_
      refine ls_topi (y := nI (2 ^ (v - 6))) (by have q := ls_shl (n := 1) (k := v - 6) (by omega) (by rw [Nat.one_mul]; exact Nat.pow_lt_pow_right (by decide) (by omega)); rw [Nat.one_mul] at q; exact q) ?_
      refine lv_goto (tgt := 22) hx hb dR_outerBit_18 (by decide) ?_
      refine ls_topi (y := nI (mk_bit v)) (congrArg nI (show 2 ^ (v - 6) = mk_bit v from (if_pos ⟨c1, by omega⟩).symm)) ?_
      exact (W.iret (v := nI (mk_bit v)) hx hb hr (fun t ht hW => ⟨⟨nI (mk_bit v), (), rfl, rfl, by rw [ht]; exact hP, va_K.moved hW.alike hK, hD⟩, hS.F ht⟩) hS.2.2 dR_outerBit_22)
set_option maxHeartbeats 4000000 in
set_option maxRecDepth 100000 in
/-- outerOnes(l) -/
theorem k_R_outerOnes (l : Launch) (dC : Nat → ClassId) (dI : Nat → Nat → Nat) (tI sz : Nat) (L : Nat) (hL : L < 32) : Met l yR_outerOnes (Cond.code yR_outerOnes cR_outerOnes 1 (some .int) :: GG) (lvr 1 0 0) (va_Pc [.int (nI L)] (wPre dC dI [] [] sz tI)) (va_Qi (fun (r : Int32) (u : Unit) => r = nI (mk_on L)) (fun u t => wB dC dI [] (va_A [] sz) [] t) (va_A [] sz)) 0 0 (va_A [] sz) := by
  refine Met.ofW (cc := cR_outerOnes) (maxL := 1) (ret := (some .int)) (by decide) rfl ?_
  intro p e s m args below meth c s₁ B hml hv
  obtain ⟨rfl, hsz, hP, hK, hD0, hZ, hX⟩ := hv
  have hx := B.exec
  have hb := B.bytes
  have hr := B.returns
  have hts : ∀ w ∈ GG, w.before ([.int (nI L)] : List Value).toArray s = true := fun w h => atoms_spec (ws := _ :: GG) B.pre w (List.mem_cons_of_mem _ h)
  have hown : s.vm.findClass RR = some m.cls := findClass_of_methodNamed B.named
  have hlocks := B.notSynchronized
  subst hsz
  have hD := hD0.self (sz := s.heap.size)
  generalize hAe : va_A [] s.heap.size = A at hD hZ ⊢
  have hA : ∀ q : Nat, s.heap.size ≤ q → A q := fun q h => by rw [← hAe]; exact Or.inr h
  have hS : va_S A s.heap s.heap [] := va_S.rf
  have hl := lv_entry ([.int (nI L)]) (n := 1) (Nat.le_of_ble_eq_true rfl)
  rw [lg_entry_eq]
  generalize (lg_sl ([.int (nI L)]) ++ List.replicate (1 - (lg_sl ([.int (nI L)])).length) Slot.unset).toArray = ls at hl ⊢
  have hl : lv_has ls 1 [(0, .int (nI L))] := hl
  have SF : CallFix p m c cR_outerOnes 1 s ([.int (nI L)] : List Value).toArray GG RR := ⟨hx, hb, hml, hown, hts⟩
  skip
  have hP : va_P (dC, dI) vwCl [] s.heap := hP
  refine lv_iload_n hx hb dR_outerOnes_0 rfl (lv_at hl 0 rfl) ?_
  refine lv_iconst (v := 1) hx hb dR_outerOnes_1 (by decide) ?_
  refine lv_iand hx hb dR_outerOnes_2 ?_
  refine ls_topi (y := nI (L % 2)) (ls_and1 (by omega)) ?_
  refine lv_if_ne (tgt := 15) hx hb dR_outerOnes_3 (by decide) (fun c9 => ?_) (fun c9 => ?_)
  · have c9 : (L % 2) ≠ 0 := fun q => c9 ((nI_eq (a := (L % 2)) (b := 0) (by omega) (by omega)).mpr q)
    refine lv_iconst (v := 0) hx hb dR_outerOnes_15 (by decide) ?_
    refine ls_topi (y := nI (mk_on L)) (congrArg nI (show 0 = mk_on L from (if_neg c9).symm)) ?_
    exact (W.iret (v := nI (mk_on L)) hx hb hr (fun t ht hW => ⟨⟨nI (mk_on L), (), rfl, rfl, by rw [ht]; exact hP, va_K.moved hW.alike hK, hD⟩, hS.F ht⟩) hS.2.2 dR_outerOnes_16)
  · have c9 : (L % 2) = 0 := (nI_eq (a := (L % 2)) (b := 0) (by omega) (by omega)).mp c9
    refine lv_iload_n hx hb dR_outerOnes_6 rfl (lv_at hl 0 rfl) ?_
    refine lv_iconst (v := 1) hx hb dR_outerOnes_7 (by decide) ?_
    refine lv_ishr hx hb dR_outerOnes_8 ?_
    refine ls_topi (y := nI (L / 2)) (by have := ls_shr (n := L) (by omega) (k := 1) (by decide); exact this) ?_
    have hFc := va_free (wc := []) hD hS hA [] rfl
    refine wc_i (wc_S (As := [.int (nI (L / 2))]) (rest := []) (n := 1) SF (k_R_outerBit l dC dI tI _ (L / 2) (by omega)) ml_R_67 st_R_outerBit in_R co_R_outerBit (by decide +kernel) rfl rfl rfl ⟨Nat.le_of_ble_eq_true rfl, Nat.le_of_ble_eq_true rfl⟩ (hP.sub [] rfl) (hD.sub [] (by decide) rfl) (hK.sub [] rfl) hZ hX hS hFc rfl hl.1 (Nat.le_of_ble_eq_true rfl) dR_outerOnes_9 ⟨Nat.le_of_ble_eq_true rfl, Nat.le_of_ble_eq_true rfl⟩) hP hD hS hFc [] [] (wr := []) rfl rfl rfl (by decide) (fun z uu H locs hw hP hD hS => ?_)
    have hP : va_P (dC, dI) vwCl [] H := hP.sub [] rfl
    have hD : va_D A [] := hD.sub [] (by decide) rfl
    have hw : z = nI (mk_bit (L / 2)) := hw
    subst hw
    refine lv_goto (tgt := 16) hx hb dR_outerOnes_12 (by decide) ?_
    refine ls_topi (y := nI (mk_on L)) (congrArg nI (show mk_bit (L / 2) = mk_on L from (if_pos c9).symm)) ?_
    exact (W.iret (v := nI (mk_on L)) hx hb hr (fun t ht hW => ⟨⟨nI (mk_on L), (), rfl, rfl, by rw [ht]; exact hP, va_K.moved hW.alike hK, hD⟩, hS.F ht⟩) hS.2.2 dR_outerOnes_16)
set_option maxHeartbeats 4000000 in
set_option maxRecDepth 100000 in
/-- outerZeros(l) -/
theorem k_R_outerZeros (l : Launch) (dC : Nat → ClassId) (dI : Nat → Nat → Nat) (tI sz : Nat) (L : Nat) (hL : L < 32) : Met l yR_outerZeros (Cond.code yR_outerZeros cR_outerZeros 1 (some .int) :: GG) (lvr 1 0 0) (va_Pc [.int (nI L)] (wPre dC dI [] [] sz tI)) (va_Qi (fun (r : Int32) (u : Unit) => r = nI (mk_ze L)) (fun u t => wB dC dI [] (va_A [] sz) [] t) (va_A [] sz)) 0 0 (va_A [] sz) := by
  refine Met.ofW (cc := cR_outerZeros) (maxL := 1) (ret := (some .int)) (by decide) rfl ?_
  intro p e s m args below meth c s₁ B hml hv
  obtain ⟨rfl, hsz, hP, hK, hD0, hZ, hX⟩ := hv
  have hx := B.exec
  have hb := B.bytes
  have hr := B.returns
  have hts : ∀ w ∈ GG, w.before ([.int (nI L)] : List Value).toArray s = true := fun w h => atoms_spec (ws := _ :: GG) B.pre w (List.mem_cons_of_mem _ h)
  have hown : s.vm.findClass RR = some m.cls := findClass_of_methodNamed B.named
  have hlocks := B.notSynchronized
  subst hsz
  have hD := hD0.self (sz := s.heap.size)
  generalize hAe : va_A [] s.heap.size = A at hD hZ ⊢
  have hA : ∀ q : Nat, s.heap.size ≤ q → A q := fun q h => by rw [← hAe]; exact Or.inr h
  have hS : va_S A s.heap s.heap [] := va_S.rf
  have hl := lv_entry ([.int (nI L)]) (n := 1) (Nat.le_of_ble_eq_true rfl)
  rw [lg_entry_eq]
  generalize (lg_sl ([.int (nI L)]) ++ List.replicate (1 - (lg_sl ([.int (nI L)])).length) Slot.unset).toArray = ls at hl ⊢
  have hl : lv_has ls 1 [(0, .int (nI L))] := hl
  have SF : CallFix p m c cR_outerZeros 1 s ([.int (nI L)] : List Value).toArray GG RR := ⟨hx, hb, hml, hown, hts⟩
  skip
  have hP : va_P (dC, dI) vwCl [] s.heap := hP
  refine lv_iload_n hx hb dR_outerZeros_0 rfl (lv_at hl 0 rfl) ?_
  refine lv_iconst (v := 1) hx hb dR_outerZeros_1 (by decide) ?_
  refine lv_iand hx hb dR_outerZeros_2 ?_
  refine ls_topi (y := nI (L % 2)) (ls_and1 (by omega)) ?_
  refine lv_if_ne (tgt := 10) hx hb dR_outerZeros_3 (by decide) (fun c9 => ?_) (fun c9 => ?_)
  · have c9 : (L % 2) ≠ 0 := fun q => c9 ((nI_eq (a := (L % 2)) (b := 0) (by omega) (by omega)).mpr q)
    refine lv_iload_n hx hb dR_outerZeros_10 rfl (lv_at hl 0 rfl) ?_
    refine lv_iconst (v := 1) hx hb dR_outerZeros_11 (by decide) ?_
    refine lv_ishr hx hb dR_outerZeros_12 ?_
    refine ls_topi (y := nI (L / 2)) (by have := ls_shr (n := L) (by omega) (k := 1) (by decide); exact this) ?_
    have hFc := va_free (wc := []) hD hS hA [] rfl
    refine wc_i (wc_S (As := [.int (nI (L / 2))]) (rest := []) (n := 1) SF (k_R_outerBit l dC dI tI _ (L / 2) (by omega)) ml_R_67 st_R_outerBit in_R co_R_outerBit (by decide +kernel) rfl rfl rfl ⟨Nat.le_of_ble_eq_true rfl, Nat.le_of_ble_eq_true rfl⟩ (hP.sub [] rfl) (hD.sub [] (by decide) rfl) (hK.sub [] rfl) hZ hX hS hFc rfl hl.1 (Nat.le_of_ble_eq_true rfl) dR_outerZeros_13 ⟨Nat.le_of_ble_eq_true rfl, Nat.le_of_ble_eq_true rfl⟩) hP hD hS hFc [] [] (wr := []) rfl rfl rfl (by decide) (fun z uu H locs hw hP hD hS => ?_)
    have hP : va_P (dC, dI) vwCl [] H := hP.sub [] rfl
    have hD : va_D A [] := hD.sub [] (by decide) rfl
    have hw : z = nI (mk_bit (L / 2)) := hw
    subst hw
    refine ls_topi (y := nI (mk_ze L)) (congrArg nI (show mk_bit (L / 2) = mk_ze L from (if_neg c9).symm)) ?_
    exact (W.iret (v := nI (mk_ze L)) hx hb hr (fun t ht hW => ⟨⟨nI (mk_ze L), (), rfl, rfl, by rw [ht]; exact hP, va_K.moved hW.alike hK, hD⟩, hS.F ht⟩) hS.2.2 dR_outerZeros_16)
  · have c9 : (L % 2) = 0 := (nI_eq (a := (L % 2)) (b := 0) (by omega) (by omega)).mp c9
    refine lv_iconst (v := 0) hx hb dR_outerZeros_6 (by decide) ?_
    refine lv_goto (tgt := 16) hx hb dR_outerZeros_7 (by decide) ?_
    refine ls_topi (y := nI (mk_ze L)) (congrArg nI (show 0 = mk_ze L from (if_pos c9).symm)) ?_
    exact (W.iret (v := nI (mk_ze L)) hx hb hr (fun t ht hW => ⟨⟨nI (mk_ze L), (), rfl, rfl, by rw [ht]; exact hP, va_K.moved hW.alike hK, hD⟩, hS.F ht⟩) hS.2.2 dR_outerZeros_16)
set_option maxHeartbeats 4000000 in
set_option maxRecDepth 100000 in
/-- innerRows(l) -/
theorem k_R_innerRows (l : Launch) (dC : Nat → ClassId) (dI : Nat → Nat → Nat) (tI sz : Nat) (L : Nat) (hL : L < 32) : Met l yR_innerRows (Cond.code yR_innerRows cR_innerRows 2 (some .long) :: GG) (lvr 0 0 0) (va_Pc [.int (nI L)] (wPre dC dI [] [] sz tI)) (va_Ql (fun (r : Int64) (u : Unit) => r = mk_in L) (fun u t => wB dC dI [] (va_A [] sz) [] t) (va_A [] sz)) 0 0 (va_A [] sz) := by
  refine Met.ofW (cc := cR_innerRows) (maxL := 2) (ret := (some .long)) (by decide) rfl ?_
  intro p e s m args below meth c s₁ B hml hv
  obtain ⟨rfl, hsz, hP, hK, hD0, hZ, hX⟩ := hv
  have hx := B.exec
  have hb := B.bytes
  have hr := B.returns
  have hts : ∀ w ∈ GG, w.before ([.int (nI L)] : List Value).toArray s = true := fun w h => atoms_spec (ws := _ :: GG) B.pre w (List.mem_cons_of_mem _ h)
  have hown : s.vm.findClass RR = some m.cls := findClass_of_methodNamed B.named
  have hlocks := B.notSynchronized
  subst hsz
  have hD := hD0.self (sz := s.heap.size)
  generalize hAe : va_A [] s.heap.size = A at hD hZ ⊢
  have hA : ∀ q : Nat, s.heap.size ≤ q → A q := fun q h => by rw [← hAe]; exact Or.inr h
  have hS : va_S A s.heap s.heap [] := va_S.rf
  have hl := lv_entry ([.int (nI L)]) (n := 2) (Nat.le_of_ble_eq_true rfl)
  rw [lg_entry_eq]
  generalize (lg_sl ([.int (nI L)]) ++ List.replicate (2 - (lg_sl ([.int (nI L)])).length) Slot.unset).toArray = ls at hl ⊢
  have hl : lv_has ls 2 [(0, .int (nI L))] := hl
  have SF : CallFix p m c cR_innerRows 2 s ([.int (nI L)] : List Value).toArray GG RR := ⟨hx, hb, hml, hown, hts⟩
  skip
  have hP : va_P (dC, dI) vwCl [] s.heap := hP
  refine lv_iload_n hx hb dR_innerRows_0 rfl (lv_at hl 0 rfl) ?_
  refine lv_iconst (v := 1) hx hb dR_innerRows_1 (by decide) ?_
  refine lv_ishr hx hb dR_innerRows_2 ?_
  refine ls_topi (y := nI (L / 2)) (by have := ls_shr (n := L) (by omega) (k := 1) (by decide); exact this) ?_
  refine lv_istore_n (lv' := [(1, .int (nI (L / 2))), (0, .int (nI L))]) hx hb dR_innerRows_3 rfl hl (by decide) rfl (fun ls hl => ?_)
  refine lv_iload_n hx hb dR_innerRows_4 rfl (lv_at hl 0 rfl) ?_
  refine lv_if_lt (tgt := 16) hx hb dR_innerRows_5 (by decide) (fun c1 => ?_) (fun c1 => ?_)
  · have c1 : (L / 2) < 0 := (nI_ltI (a := (L / 2)) (b := 0) (by omega) (by omega)).mp c1
    exact absurd c1 (Nat.not_lt_zero _)
  · have c1 : 0 ≤ (L / 2) := Nat.le_of_not_lt (fun q => c1 ((nI_ltI (a := (L / 2)) (b := 0) (by omega) (by omega)).mpr q))
    refine lv_iload_n hx hb dR_innerRows_8 rfl (lv_at hl 0 rfl) ?_
    refine va_gets hx hb hZ.1 hS hown (hts _ fl_R_31) (fun _ h9 => h9) dR_innerRows_9 ?_
    refine va_tlen (v := 6) hx hb hZ.2.1 hS rfl dR_innerRows_12 ?_
    refine lv_icmp_lt (tgt := 18) hx hb dR_innerRows_13 (by decide) (fun c2 => ?_) (fun c2 => ?_)
    · have c2 : (L / 2) < 6 := (nI_ltI (a := (L / 2)) (b := 6) (by omega) (by omega)).mp c2
      refine lv_iload_n hx hb dR_innerRows_18 rfl (lv_at hl 1 rfl) ?_
      refine lv_iconst (v := 1) hx hb dR_innerRows_19 (by decide) ?_
      refine lv_iand hx hb dR_innerRows_20 ?_
      refine ls_topi (y := nI (L % 2)) (ls_and1 (by omega)) ?_
      refine lv_if_ne (tgt := 32) hx hb dR_innerRows_21 (by decide) (fun c9 => ?_) (fun c9 => ?_)
      · have c9 : (L % 2) ≠ 0 := fun q => c9 ((nI_eq (a := (L % 2)) (b := 0) (by omega) (by omega)).mpr q)
        refine va_gets hx hb hZ.1 hS hown (hts _ fl_R_31) (fun _ h9 => h9) dR_innerRows_32 ?_
        refine lv_iload_n hx hb dR_innerRows_35 rfl (lv_at hl 0 rfl) ?_
        refine va_tl (v := .long (ls_ones (L / 2))) hx hb hZ.2.1 hS (vp_in_nI c2 (by decide)) (by rw [nI_clamp (by omega)]) dR_innerRows_36 ?_
        refine lv_ldc2 (v := (-1)) hx hb hown (hts _ cj_R_19) dR_innerRows_37 ?_
        refine lv_lxor hx hb dR_innerRows_40 ?_
        exact (W.lret (v := (ls_ones (L / 2)) ^^^ (-1)) hx hb hr (fun t ht hW => ⟨⟨(ls_ones (L / 2)) ^^^ (-1), (), rfl, (show _ = mk_in L by unfold mk_in; rw [if_pos c2, if_neg c9]), by rw [ht]; exact hP, va_K.moved hW.alike hK, hD⟩, hS.F ht⟩) hS.2.2 dR_innerRows_41)
      · have c9 : (L % 2) = 0 := (nI_eq (a := (L % 2)) (b := 0) (by omega) (by omega)).mp c9
        refine va_gets hx hb hZ.1 hS hown (hts _ fl_R_31) (fun _ h9 => h9) dR_innerRows_24 ?_
        refine lv_iload_n hx hb dR_innerRows_27 rfl (lv_at hl 0 rfl) ?_
        refine va_tl (v := .long (ls_ones (L / 2))) hx hb hZ.2.1 hS (vp_in_nI c2 (by decide)) (by rw [nI_clamp (by omega)]) dR_innerRows_28 ?_
        refine lv_goto (tgt := 41) hx hb dR_innerRows_29 (by decide) ?_
        exact (W.lret (v := ls_ones (L / 2)) hx hb hr (fun t ht hW => ⟨⟨ls_ones (L / 2), (), rfl, (show _ = mk_in L by unfold mk_in; rw [if_pos c2, if_pos c9]), by rw [ht]; exact hP, va_K.moved hW.alike hK, hD⟩, hS.F ht⟩) hS.2.2 dR_innerRows_41)
    · have c2 : 6 ≤ (L / 2) := Nat.le_of_not_lt (fun q => c2 ((nI_ltI (a := (L / 2)) (b := 6) (by omega) (by omega)).mpr q))
      refine lv_lconst (v := 0) hx hb dR_innerRows_16 (by decide) ?_
      exact (W.lret (v := 0) hx hb hr (fun t ht hW => ⟨⟨0, (), rfl, (show _ = mk_in L by unfold mk_in; rw [if_neg (Nat.not_lt.mpr c2)]), by rw [ht]; exact hP, va_K.moved hW.alike hK, hD⟩, hS.F ht⟩) hS.2.2 dR_innerRows_17)
set_option maxHeartbeats 4000000 in
set_option maxRecDepth 100000 in
/-- holdAll(): one word, all rows -/
theorem k_R_holdAll (l : Launch) (dC : Nat → ClassId) (dI : Nat → Nat → Nat) (tI sz : Nat) (h w : Nat) (cL : ClassId) (f : Nat → Int64) (x : Int32) : Met l yR_holdAll (Cond.code yR_holdAll cR_holdAll 1 none :: GG) (lvr 0 0 0) (va_Pc [.ref h] (wPre dC dI [(cL, .long)] [(h, .inr (0, [.ref w, .int x])), (w, .inl (cL, 1024, .inr (.inl f)))] sz tI)) (va_Qv (fun (u : Unit) => True) (fun u t => wB dC dI [(cL, .long)] (va_A [(h, .inr (0, [.ref w, .int x])), (w, .inl (cL, 1024, .inr (.inl f)))] sz) [(h, .inr (0, [.ref w, .int 1])), (w, .inl (cL, 1024, .inr (.inl (vp_updL f 0 (-1)))))] t) (va_A [(h, .inr (0, [.ref w, .int x])), (w, .inl (cL, 1024, .inr (.inl f)))] sz)) 0 0 (va_A [(h, .inr (0, [.ref w, .int x])), (w, .inl (cL, 1024, .inr (.inl f)))] sz) := by
  refine Met.ofW (cc := cR_holdAll) (maxL := 1) (ret := none) (by decide) rfl ?_
  intro p e s m args below meth c s₁ B hml hv
  obtain ⟨rfl, hsz, hP, hK, hD0, hZ, hX⟩ := hv
  have hx := B.exec
  have hb := B.bytes
  have hr := B.returns
  have hts : ∀ w ∈ GG, w.before ([.ref h] : List Value).toArray s = true := fun w h => atoms_spec (ws := _ :: GG) B.pre w (List.mem_cons_of_mem _ h)
  have hown : s.vm.findClass RR = some m.cls := findClass_of_methodNamed B.named
  have hlocks := B.notSynchronized
  subst hsz
  have hD := hD0.self (sz := s.heap.size)
  generalize hAe : va_A [(h, .inr (0, [.ref w, .int x])), (w, .inl (cL, 1024, .inr (.inl f)))] s.heap.size = A at hD hZ ⊢
  have hA : ∀ q : Nat, s.heap.size ≤ q → A q := fun q h => by rw [← hAe]; exact Or.inr h
  have hS : va_S A s.heap s.heap [] := va_S.rf
  have hl := lv_entry ([.ref h]) (n := 1) (Nat.le_of_ble_eq_true rfl)
  rw [lg_entry_eq]
  generalize (lg_sl ([.ref h]) ++ List.replicate (1 - (lg_sl ([.ref h])).length) Slot.unset).toArray = ls at hl ⊢
  have hl : lv_has ls 1 [(0, .ref h)] := hl
  have SF : CallFix p m c cR_holdAll 1 s ([.ref h] : List Value).toArray GG RR := ⟨hx, hb, hml, hown, hts⟩
  skip
  have hP : va_P (dC, dI) vwCl [(h, .inr (0, [.ref w, .int x])), (w, .inl (cL, 1024, .inr (.inl f)))] s.heap := hP
  refine lv_aload_n hx hb dR_holdAll_0 rfl (lv_at hl 0 rfl) ?_
  refine va_get (D := (dC, dI)) (ci := 0) (v := .ref w) (C := RR) (T := TR) (N := 2) hx hb hts lyR hown hK hP 0 rfl rfl 0 (by decide) (hts _ fl_R_11) (fun _ h9 => h9) rfl dR_holdAll_1 ?_
  refine lv_iconst (v := 0) hx hb dR_holdAll_4 (by decide) ?_
  refine lv_ldc2 (v := (-1)) hx hb hown (hts _ cj_R_19) dR_holdAll_5 ?_
  refine va_last hx hb hK hP hD hS 1 0 rfl rfl (ax_in0) dR_holdAll_8 (fun H locs hP hD hS => ?_)
  have hP : va_P (dC, dI) vwCl [(h, .inr (0, [.ref w, .int x])), (w, .inl (cL, 1024, .inr (.inl (vp_updL f 0 (-1)))))] H := hP
  have hD : va_D A [(h, .inr (0, [.ref w, .int x])), (w, .inl (cL, 1024, .inr (.inl (vp_updL f 0 (-1)))))] := hD
  refine lv_aload_n hx hb dR_holdAll_9 rfl (lv_at hl 0 rfl) ?_
  refine lv_iconst (v := 1) hx hb dR_holdAll_10 (by decide) ?_
  refine va_put (D := (dC, dI)) (ci := 0) (v := .int 1) (ty := .int) (C := RR) (T := TR) (N := 2) hx hb hts lyR tyR tyR_ok nmR hown hK hP hD hS 0 rfl rfl 1 (by decide) (hts _ fl_R_15) (fun _ h9 => h9) rfl (by decide +kernel) rfl rfl (Nat.le_of_ble_eq_true rfl) dR_holdAll_11 (fun H locs hP hD hS => ?_)
  have hP : va_P (dC, dI) vwCl [(h, .inr (0, [.ref w, .int 1])), (w, .inl (cL, 1024, .inr (.inl (vp_updL f 0 (-1)))))] H := hP
  have hD : va_D A [(h, .inr (0, [.ref w, .int 1])), (w, .inl (cL, 1024, .inr (.inl (vp_updL f 0 (-1)))))] := hD
  exact (W.vret hx hb hr (fun t ht hW => ⟨⟨(), rfl, trivial, by rw [ht]; exact hP, va_K.moved hW.alike hK, hD⟩, hS.F ht⟩) hS.2.2 dR_holdAll_14)
set_option maxHeartbeats 4000000 in
set_option maxRecDepth 100000 in
/-- copyFrom(other): the words of other -/
theorem k_R_copyFrom (l : Launch) (dC : Nat → ClassId) (dI : Nat → Nat → Nat) (tI sz : Nat) (h w h2 w2 : Nat) (cL cM : ClassId) (f0 f : Nat → Int64) (x : Int32) (U : Nat) (hU : U ≤ 1024) : Met l yR_copyFrom (Cond.code yR_copyFrom cR_copyFrom 4 none :: GG) (lvr 2 0 0) (va_Pc [.ref h, .ref h2] (wPre dC dI [(cL, .long), (cM, .long)] [(h, .inr (0, [.ref w, .int x])), (w, .inl (cL, 1024, .inr (.inl f0))), (h2, .inr (0, [.ref w2, .int (nI U)])), (w2, .inl (cM, 1024, .inr (.inl f)))] sz tI)) (va_Qv (fun (u : Nat → Int64) => ∀ k, k < U → u k = f k) (fun u t => wB dC dI [(cL, .long), (cM, .long)] (va_A [(h, .inr (0, [.ref w, .int x])), (w, .inl (cL, 1024, .inr (.inl f0))), (h2, .inr (0, [.ref w2, .int (nI U)])), (w2, .inl (cM, 1024, .inr (.inl f)))] sz) [(h, .inr (0, [.ref w, .int (nI U)])), (w, .inl (cL, 1024, .inr (.inl u))), (h2, .inr (0, [.ref w2, .int (nI U)])), (w2, .inl (cM, 1024, .inr (.inl f)))] t) (va_A [(h, .inr (0, [.ref w, .int x])), (w, .inl (cL, 1024, .inr (.inl f0))), (h2, .inr (0, [.ref w2, .int (nI U)])), (w2, .inl (cM, 1024, .inr (.inl f)))] sz)) 0 0 (va_A [(h, .inr (0, [.ref w, .int x])), (w, .inl (cL, 1024, .inr (.inl f0))), (h2, .inr (0, [.ref w2, .int (nI U)])), (w2, .inl (cM, 1024, .inr (.inl f)))] sz) := by
  refine Met.ofW (cc := cR_copyFrom) (maxL := 4) (ret := none) (by decide) rfl ?_
  intro p e s m args below meth c s₁ B hml hv
  obtain ⟨rfl, hsz, hP, hK, hD0, hZ, hX⟩ := hv
  have hx := B.exec
  have hb := B.bytes
  have hr := B.returns
  have hts : ∀ w ∈ GG, w.before ([.ref h, .ref h2] : List Value).toArray s = true := fun w h => atoms_spec (ws := _ :: GG) B.pre w (List.mem_cons_of_mem _ h)
  have hown : s.vm.findClass RR = some m.cls := findClass_of_methodNamed B.named
  have hlocks := B.notSynchronized
  subst hsz
  have hD := hD0.self (sz := s.heap.size)
  generalize hAe : va_A [(h, .inr (0, [.ref w, .int x])), (w, .inl (cL, 1024, .inr (.inl f0))), (h2, .inr (0, [.ref w2, .int (nI U)])), (w2, .inl (cM, 1024, .inr (.inl f)))] s.heap.size = A at hD hZ ⊢
  have hA : ∀ q : Nat, s.heap.size ≤ q → A q := fun q h => by rw [← hAe]; exact Or.inr h
  have hS : va_S A s.heap s.heap [] := va_S.rf
  have hl := lv_entry ([.ref h, .ref h2]) (n := 4) (Nat.le_of_ble_eq_true rfl)
  rw [lg_entry_eq]
  generalize (lg_sl ([.ref h, .ref h2]) ++ List.replicate (4 - (lg_sl ([.ref h, .ref h2])).length) Slot.unset).toArray = ls at hl ⊢
  have hl : lv_has ls 4 [(0, .ref h), (1, .ref h2)] := hl
  have SF : CallFix p m c cR_copyFrom 4 s ([.ref h, .ref h2] : List Value).toArray GG RR := ⟨hx, hb, hml, hown, hts⟩
  skip
  have hP : va_P (dC, dI) vwCl [(h, .inr (0, [.ref w, .int x])), (w, .inl (cL, 1024, .inr (.inl f0))), (h2, .inr (0, [.ref w2, .int (nI U)])), (w2, .inl (cM, 1024, .inr (.inl f)))] s.heap := hP
  refine lv_aload_n hx hb dR_copyFrom_0 rfl (lv_at hl 1 rfl) ?_
  refine lv_ifnonnull (tgt := 5) hx hb dR_copyFrom_1 (by decide) ?_
  refine lv_aload_n hx hb dR_copyFrom_5 rfl (lv_at hl 1 rfl) ?_
  have hFc := va_free (wc := [(h2, .inr (0, [.ref w2, .int (nI U)])), (w2, .inl (cM, 1024, .inr (.inl f)))]) hD hS hA [2, 3] rfl
  refine wc_i (wc_V (As := []) (rest := []) (n := 0) SF (k_R_end l dC dI tI _ h2 w2 cM f U hU) ml_R_21 im_R_end se_R_end in_R co_R_end (by decide +kernel) rfl rfl rfl ⟨Nat.le_of_ble_eq_true rfl, Nat.le_of_ble_eq_true rfl⟩ (va_recv (hK.sub (tys' := []) [] rfl) (hP.sub (ws' := [(h2, .inr (0, [.ref w2, .int (nI U)])), (w2, .inl (cM, 1024, .inr (.inl f)))]) [2, 3] rfl) (ci := 0) (q0 := 0) rfl rfl) (hP.sub [2, 3] rfl) (hD.sub [2, 3] (by decide) rfl) (hK.sub [1] rfl) hZ hX hS hFc rfl hl.1 (Nat.le_of_ble_eq_true rfl) dR_copyFrom_6 ⟨Nat.le_of_ble_eq_true rfl, Nat.le_of_ble_eq_true rfl⟩) hP hD hS hFc [2, 3] [0, 1] (wr := [(h, .inr (0, [.ref w, .int x])), (w, .inl (cL, 1024, .inr (.inl f0)))]) rfl rfl rfl (by decide) (fun z uu H locs hw hP hD hS => ?_)
  have hP : va_P (dC, dI) vwCl [(h, .inr (0, [.ref w, .int x])), (w, .inl (cL, 1024, .inr (.inl f0))), (h2, .inr (0, [.ref w2, .int (nI U)])), (w2, .inl (cM, 1024, .inr (.inl f)))] H := hP.sub [0, 1, 2, 3] rfl
  have hD : va_D A [(h, .inr (0, [.ref w, .int x])), (w, .inl (cL, 1024, .inr (.inl f0))), (h2, .inr (0, [.ref w2, .int (nI U)])), (w2, .inl (cM, 1024, .inr (.inl f)))] := hD.sub [0, 1, 2, 3] (by decide) rfl
  have hw : z = nI U := hw
  subst hw
  refine lv_aload_n hx hb dR_copyFrom_9 rfl (lv_at hl 0 rfl) ?_
  refine va_get (D := (dC, dI)) (ci := 0) (v := .ref w) (C := RR) (T := TR) (N := 2) hx hb hts lyR hown hK hP 0 rfl rfl 0 (by decide) (hts _ fl_R_11) (fun _ h9 => h9) rfl dR_copyFrom_10 ?_
  refine va_alen (v := 1024) hx hb hK hP 1 0 rfl rfl rfl dR_copyFrom_13 ?_
  refine ls_topi (y := nI 1024) (by decide) ?_
  refine va_mmin (rest := []) (x := nI U) (y := nI 1024) hx hb (by rw [hml]; exact hl.1.symm) hown (hts _ ml_R_25) (hts _ st_H_min) (hts _ in_H) (hts _ co_H_min) (Nat.le_of_ble_eq_true rfl) (Nat.le_of_ble_eq_true rfl) (Nat.le_of_ble_eq_true rfl) (Nat.le_of_ble_eq_true rfl) dR_copyFrom_14 ?_
  refine ls_topi (y := nI U) (if_neg (fun q => absurd ((nI_ltI (a := 1024) (b := U) (by omega) (by omega)).mp q) (by omega))) ?_
  refine lv_istore_n (lv' := [(2, .int (nI U)), (0, .ref h), (1, .ref h2)]) hx hb dR_copyFrom_17 rfl hl (by decide) rfl (fun ls hl => ?_)
  refine lv_iconst (v := 0) hx hb dR_copyFrom_18 (by decide) ?_
  refine lv_istore_n (lv' := [(3, .int 0), (2, .int (nI U)), (0, .ref h), (1, .ref h2)]) hx hb dR_copyFrom_19 rfl hl (by decide) rfl (fun ls hl => ?_)
  refine lp_mu (α := Nat × (Nat → Int64)) (fun a_ => match a_ with | (i, g) => U - i) (fun a_ H locs ls => match a_ with | (i, g) => (i ≤ U ∧ ∀ k, k < i → g k = f k) ∧ va_P (dC, dI) vwCl [(h, .inr (0, [.ref w, .int x])), (w, .inl (cL, 1024, .inr (.inl g))), (h2, .inr (0, [.ref w2, .int (nI U)])), (w2, .inl (cM, 1024, .inr (.inl f)))] H ∧ va_D A [(h, .inr (0, [.ref w, .int x])), (w, .inl (cL, 1024, .inr (.inl g))), (h2, .inr (0, [.ref w2, .int (nI U)])), (w2, .inl (cM, 1024, .inr (.inl f)))] ∧ va_S A s.heap H locs ∧ lv_has ls 4 [(0, .ref h), (1, .ref h2), (2, .int (nI U)), (3, .int (nI i))]) ?_ (0, f0) ⟨⟨Nat.zero_le _, fun k hk => absurd hk (Nat.not_lt_zero _)⟩, hP, hD, hS, lv_sub hl [2, 3, 1, 0] rfl⟩
  intro a_ H locs ls hI ih
  obtain ⟨i, g⟩ := a_
  obtain ⟨hI, hP, hD, hS, hl⟩ := hI
  have hI : i ≤ U ∧ ∀ k, k < i → g k = f k := hI
  have hP : va_P (dC, dI) vwCl [(h, .inr (0, [.ref w, .int x])), (w, .inl (cL, 1024, .inr (.inl g))), (h2, .inr (0, [.ref w2, .int (nI U)])), (w2, .inl (cM, 1024, .inr (.inl f)))] H := hP
  have hD : va_D A [(h, .inr (0, [.ref w, .int x])), (w, .inl (cL, 1024, .inr (.inl g))), (h2, .inr (0, [.ref w2, .int (nI U)])), (w2, .inl (cM, 1024, .inr (.inl f)))] := hD
  have hl : lv_has ls 4 [(0, .ref h), (1, .ref h2), (2, .int (nI U)), (3, .int (nI i))] := hl
  obtain ⟨hi, hg⟩ := hI
  refine lv_iload_n hx hb dR_copyFrom_20 rfl (lv_at hl 3 rfl) ?_
  refine lv_iload_n hx hb dR_copyFrom_21 rfl (lv_at hl 2 rfl) ?_
  refine lv_icmp_ge (tgt := 43) hx hb dR_copyFrom_22 (by decide) (fun c1 => ?_) (fun c1 => ?_)
  · have c1 : U ≤ i := (nI_leI (a := U) (b := i) (by omega) (by omega)).mp c1
    refine lv_aload_n hx hb dR_copyFrom_43 rfl (lv_at hl 0 rfl) ?_
    refine lv_iload_n hx hb dR_copyFrom_44 rfl (lv_at hl 2 rfl) ?_
    refine va_put (D := (dC, dI)) (ci := 0) (v := .int (nI U)) (ty := .int) (C := RR) (T := TR) (N := 2) hx hb hts lyR tyR tyR_ok nmR hown hK hP hD hS 0 rfl rfl 1 (by decide) (hts _ fl_R_15) (fun _ h9 => h9) rfl (by decide +kernel) rfl rfl (Nat.le_of_ble_eq_true rfl) dR_copyFrom_45 (fun H locs hP hD hS => ?_)
    have hP : va_P (dC, dI) vwCl [(h, .inr (0, [.ref w, .int (nI U)])), (w, .inl (cL, 1024, .inr (.inl g))), (h2, .inr (0, [.ref w2, .int (nI U)])), (w2, .inl (cM, 1024, .inr (.inl f)))] H := hP
    have hD : va_D A [(h, .inr (0, [.ref w, .int (nI U)])), (w, .inl (cL, 1024, .inr (.inl g))), (h2, .inr (0, [.ref w2, .int (nI U)])), (w2, .inl (cM, 1024, .inr (.inl f)))] := hD
    exact (W.vret hx hb hr (fun t ht hW => ⟨⟨g, rfl, fun k hk => hg k (by omega), by rw [ht]; exact hP, va_K.moved hW.alike hK, hD⟩, hS.F ht⟩) hS.2.2 dR_copyFrom_48)
  · have c1 : i < U := Nat.lt_of_not_le (fun q => c1 ((nI_leI (a := U) (b := i) (by omega) (by omega)).mpr q))
    refine lv_aload_n hx hb dR_copyFrom_25 rfl (lv_at hl 0 rfl) ?_
    refine va_get (D := (dC, dI)) (ci := 0) (v := .ref w) (C := RR) (T := TR) (N := 2) hx hb hts lyR hown hK hP 0 rfl rfl 0 (by decide) (hts _ fl_R_11) (fun _ h9 => h9) rfl dR_copyFrom_26 ?_
    refine lv_iload_n hx hb dR_copyFrom_29 rfl (lv_at hl 3 rfl) ?_
    refine lv_aload_n hx hb dR_copyFrom_30 rfl (lv_at hl 1 rfl) ?_
    refine va_get (D := (dC, dI)) (ci := 0) (v := .ref w2) (C := RR) (T := TR) (N := 2) hx hb hts lyR hown hK hP 2 rfl rfl 0 (by decide) (hts _ fl_R_11) (fun _ h9 => h9) rfl dR_copyFrom_31 ?_
    refine lv_iload_n hx hb dR_copyFrom_34 rfl (lv_at hl 3 rfl) ?_
    refine va_lald hx hb hK hP 3 1 rfl rfl (vp_in_nI (by omega) (by decide)) dR_copyFrom_35 ?_
    refine ls_topl (y := f i) (by rw [nI_clamp (by omega)]) ?_
    refine va_last hx hb hK hP hD hS 1 0 rfl rfl (vp_in_nI (by omega) (by decide)) dR_copyFrom_36 (fun H locs hP hD hS => ?_)
    rw [show vp_updL g (nI i).toNatClampNeg (f i) = vp_updL g i (f i) from by rw [nI_clamp (by omega)]] at hP hD
    have hP : va_P (dC, dI) vwCl [(h, .inr (0, [.ref w, .int x])), (w, .inl (cL, 1024, .inr (.inl (vp_updL g i (f i))))), (h2, .inr (0, [.ref w2, .int (nI U)])), (w2, .inl (cM, 1024, .inr (.inl f)))] H := hP
    have hD : va_D A [(h, .inr (0, [.ref w, .int x])), (w, .inl (cL, 1024, .inr (.inl (vp_updL g i (f i))))), (h2, .inr (0, [.ref w2, .int (nI U)])), (w2, .inl (cM, 1024, .inr (.inl f)))] := hD
    refine lv_iinc (v := nI (i + 1)) (lv' := [(3, .int (nI (i + 1))), (0, .ref h), (1, .ref h2), (2, .int (nI U))]) hx hb dR_copyFrom_37 hl (k := 3) rfl (nI_1 _) (by decide) rfl (fun ls hl => ?_)
    refine lv_goto (tgt := 20) hx hb dR_copyFrom_40 (by decide) ?_
    exact ih (i + 1, vp_updL g i (f i)) _ _ _ (by show U - (i + 1) < U - i; omega) ⟨⟨c1, ax_lt hg rfl⟩, hP, hD, hS, lv_sub hl [1, 2, 3, 0] rfl⟩
set_option maxHeartbeats 4000000 in
set_option maxRecDepth 100000 in
/-- anyWith(l) -/
theorem k_R_anyWith (l : Launch) (dC : Nat → ClassId) (dI : Nat → Nat → Nat) (tI sz : Nat) (h w : Nat) (cL : ClassId) (f : Nat → Int64) (U : Nat) (hU : U ≤ 1024) (L : Nat) (hL : L < 32) : Met l yR_anyWith (Cond.code yR_anyWith cR_anyWith 9 (some .boolean) :: GG) (lvr 2 0 0) (va_Pc [.ref h, .int (nI L)] (wPre dC dI [(cL, .long)] [(h, .inr (0, [.ref w, .int (nI U)])), (w, .inl (cL, 1024, .inr (.inl f)))] sz tI)) (va_Qi (fun (r : Int32) (u : Unit) => (r = 1 ∧ ∃ k, k < U ∧ f k &&& ls_rw L k ≠ 0) ∨ (r = 0 ∧ ∀ k, k < U → f k &&& ls_rw L k = 0)) (fun u t => wB dC dI [(cL, .long)] (va_A [(h, .inr (0, [.ref w, .int (nI U)])), (w, .inl (cL, 1024, .inr (.inl f)))] sz) [(h, .inr (0, [.ref w, .int (nI U)])), (w, .inl (cL, 1024, .inr (.inl f)))] t) (va_A [(h, .inr (0, [.ref w, .int (nI U)])), (w, .inl (cL, 1024, .inr (.inl f)))] sz)) 0 0 (va_A [(h, .inr (0, [.ref w, .int (nI U)])), (w, .inl (cL, 1024, .inr (.inl f)))] sz) := by
  refine Met.ofW (cc := cR_anyWith) (maxL := 9) (ret := (some .boolean)) (by decide) rfl ?_
  intro p e s m args below meth c s₁ B hml hv
  obtain ⟨rfl, hsz, hP, hK, hD0, hZ, hX⟩ := hv
  have hx := B.exec
  have hb := B.bytes
  have hr := B.returns
  have hts : ∀ w ∈ GG, w.before ([.ref h, .int (nI L)] : List Value).toArray s = true := fun w h => atoms_spec (ws := _ :: GG) B.pre w (List.mem_cons_of_mem _ h)
  have hown : s.vm.findClass RR = some m.cls := findClass_of_methodNamed B.named
  have hlocks := B.notSynchronized
  subst hsz
  have hD := hD0.self (sz := s.heap.size)
  generalize hAe : va_A [(h, .inr (0, [.ref w, .int (nI U)])), (w, .inl (cL, 1024, .inr (.inl f)))] s.heap.size = A at hD hZ ⊢
  have hA : ∀ q : Nat, s.heap.size ≤ q → A q := fun q h => by rw [← hAe]; exact Or.inr h
  have hS : va_S A s.heap s.heap [] := va_S.rf
  have hl := lv_entry ([.ref h, .int (nI L)]) (n := 9) (Nat.le_of_ble_eq_true rfl)
  rw [lg_entry_eq]
  generalize (lg_sl ([.ref h, .int (nI L)]) ++ List.replicate (9 - (lg_sl ([.ref h, .int (nI L)])).length) Slot.unset).toArray = ls at hl ⊢
  have hl : lv_has ls 9 [(0, .ref h), (1, .int (nI L))] := hl
  have SF : CallFix p m c cR_anyWith 9 s ([.ref h, .int (nI L)] : List Value).toArray GG RR := ⟨hx, hb, hml, hown, hts⟩
  skip
  have hP : va_P (dC, dI) vwCl [(h, .inr (0, [.ref w, .int (nI U)])), (w, .inl (cL, 1024, .inr (.inl f)))] s.heap := hP
  refine lv_iload_n hx hb dR_anyWith_0 rfl (lv_at hl 1 rfl) ?_
  have hFc := va_free (wc := []) hD hS hA [] rfl
  refine wc_l (wc_S (As := [.int (nI L)]) (rest := []) (n := 1) SF (k_R_innerRows l dC dI tI _ L hL) ml_R_42 st_R_innerRows in_R co_R_innerRows (by decide +kernel) rfl rfl rfl ⟨Nat.le_of_ble_eq_true rfl, Nat.le_of_ble_eq_true rfl⟩ (hP.sub [] rfl) (hD.sub [] (by decide) rfl) (hK.sub [] rfl) hZ hX hS hFc rfl hl.1 (Nat.le_of_ble_eq_true rfl) dR_anyWith_1 ⟨Nat.le_of_ble_eq_true rfl, Nat.le_of_ble_eq_true rfl⟩) hP hD hS hFc [] [0, 1] (wr := [(h, .inr (0, [.ref w, .int (nI U)])), (w, .inl (cL, 1024, .inr (.inl f)))]) rfl rfl rfl (by decide) (fun z uu H locs hw hP hD hS => ?_)
  have hP : va_P (dC, dI) vwCl [(h, .inr (0, [.ref w, .int (nI U)])), (w, .inl (cL, 1024, .inr (.inl f)))] H := hP.sub [0, 1] rfl
  have hD : va_D A [(h, .inr (0, [.ref w, .int (nI U)])), (w, .inl (cL, 1024, .inr (.inl f)))] := hD.sub [0, 1] (by decide) rfl
  have hw : z = mk_in L := hw
  subst hw
  refine lv_lstore_n (lv' := [(2, .long (mk_in L)), (0, .ref h), (1, .int (nI L))]) hx hb dR_anyWith_4 rfl hl (by decide) rfl (fun ls hl => ?_)
  refine lv_iload_n hx hb dR_anyWith_5 rfl (lv_at hl 2 rfl) ?_
  have hFc := va_free (wc := []) hD hS hA [] rfl
  refine wc_i (wc_S (As := [.int (nI L)]) (rest := []) (n := 1) SF (k_R_outerOnes l dC dI tI _ L hL) ml_R_46 st_R_outerOnes in_R co_R_outerOnes (by decide +kernel) rfl rfl rfl ⟨Nat.le_of_ble_eq_true rfl, Nat.le_of_ble_eq_true rfl⟩ (hP.sub [] rfl) (hD.sub [] (by decide) rfl) (hK.sub [] rfl) hZ hX hS hFc rfl hl.1 (Nat.le_of_ble_eq_true rfl) dR_anyWith_6 ⟨Nat.le_of_ble_eq_true rfl, Nat.le_of_ble_eq_true rfl⟩) hP hD hS hFc [] [0, 1] (wr := [(h, .inr (0, [.ref w, .int (nI U)])), (w, .inl (cL, 1024, .inr (.inl f)))]) rfl rfl rfl (by decide) (fun z uu H locs hw hP hD hS => ?_)
  have hP : va_P (dC, dI) vwCl [(h, .inr (0, [.ref w, .int (nI U)])), (w, .inl (cL, 1024, .inr (.inl f)))] H := hP.sub [0, 1] rfl
  have hD : va_D A [(h, .inr (0, [.ref w, .int (nI U)])), (w, .inl (cL, 1024, .inr (.inl f)))] := hD.sub [0, 1] (by decide) rfl
  have hw : z = nI (mk_on L) := hw
  subst hw
  refine lv_istore (lv' := [(4, .int (nI (mk_on L))), (2, .long (mk_in L)), (0, .ref h), (1, .int (nI L))]) hx hb dR_anyWith_9 hl (by decide) rfl (fun ls hl => ?_)
  refine lv_iload_n hx hb dR_anyWith_11 rfl (lv_at hl 3 rfl) ?_
  have hFc := va_free (wc := []) hD hS hA [] rfl
  refine wc_i (wc_S (As := [.int (nI L)]) (rest := []) (n := 1) SF (k_R_outerZeros l dC dI tI _ L hL) ml_R_50 st_R_outerZeros in_R co_R_outerZeros (by decide +kernel) rfl rfl rfl ⟨Nat.le_of_ble_eq_true rfl, Nat.le_of_ble_eq_true rfl⟩ (hP.sub [] rfl) (hD.sub [] (by decide) rfl) (hK.sub [] rfl) hZ hX hS hFc rfl hl.1 (Nat.le_of_ble_eq_true rfl) dR_anyWith_12 ⟨Nat.le_of_ble_eq_true rfl, Nat.le_of_ble_eq_true rfl⟩) hP hD hS hFc [] [0, 1] (wr := [(h, .inr (0, [.ref w, .int (nI U)])), (w, .inl (cL, 1024, .inr (.inl f)))]) rfl rfl rfl (by decide) (fun z uu H locs hw hP hD hS => ?_)
  have hP : va_P (dC, dI) vwCl [(h, .inr (0, [.ref w, .int (nI U)])), (w, .inl (cL, 1024, .inr (.inl f)))] H := hP.sub [0, 1] rfl
  have hD : va_D A [(h, .inr (0, [.ref w, .int (nI U)])), (w, .inl (cL, 1024, .inr (.inl f)))] := hD.sub [0, 1] (by decide) rfl
  have hw : z = nI (mk_ze L) := hw
  subst hw
  refine lv_istore (lv' := [(5, .int (nI (mk_ze L))), (4, .int (nI (mk_on L))), (2, .long (mk_in L)), (0, .ref h), (1, .int (nI L))]) hx hb dR_anyWith_15 hl (by decide) rfl (fun ls hl => ?_)
  refine lv_aload_n hx hb dR_anyWith_17 rfl (lv_at hl 3 rfl) ?_
  have hFc := va_free (wc := [(h, .inr (0, [.ref w, .int (nI U)])), (w, .inl (cL, 1024, .inr (.inl f)))]) hD hS hA [0, 1] rfl
  refine wc_i (wc_V (As := []) (rest := []) (n := 0) SF (k_R_end l dC dI tI _ h w cL f U hU) ml_R_21 im_R_end se_R_end in_R co_R_end (by decide +kernel) rfl rfl rfl ⟨Nat.le_of_ble_eq_true rfl, Nat.le_of_ble_eq_true rfl⟩ (va_recv (hK.sub (tys' := []) [] rfl) (hP.sub (ws' := [(h, .inr (0, [.ref w, .int (nI U)])), (w, .inl (cL, 1024, .inr (.inl f)))]) [0, 1] rfl) (ci := 0) (q0 := 0) rfl rfl) (hP.sub [0, 1] rfl) (hD.sub [0, 1] (by decide) rfl) (hK.sub [0] rfl) hZ hX hS hFc rfl hl.1 (Nat.le_of_ble_eq_true rfl) dR_anyWith_18 ⟨Nat.le_of_ble_eq_true rfl, Nat.le_of_ble_eq_true rfl⟩) hP hD hS hFc [0, 1] [] (wr := []) rfl rfl rfl (by decide) (fun z uu H locs hw hP hD hS => ?_)
  have hP : va_P (dC, dI) vwCl [(h, .inr (0, [.ref w, .int (nI U)])), (w, .inl (cL, 1024, .inr (.inl f)))] H := hP.sub [0, 1] rfl
  have hD : va_D A [(h, .inr (0, [.ref w, .int (nI U)])), (w, .inl (cL, 1024, .inr (.inl f)))] := hD.sub [0, 1] (by decide) rfl
  have hw : z = nI U := hw
  subst hw
  have hzl := mk_ze_lt L
  refine lv_istore (lv' := [(6, .int (nI U)), (5, .int (nI (mk_ze L))), (4, .int (nI (mk_on L))), (2, .long (mk_in L)), (0, .ref h), (1, .int (nI L))]) hx hb dR_anyWith_21 hl (by decide) rfl (fun ls hl => ?_)
  refine lv_iconst (v := 0) hx hb dR_anyWith_23 (by decide) ?_
  refine lv_istore (lv' := [(7, .int 0), (6, .int (nI U)), (5, .int (nI (mk_ze L))), (4, .int (nI (mk_on L))), (2, .long (mk_in L)), (0, .ref h), (1, .int (nI L))]) hx hb dR_anyWith_24 hl (by decide) rfl (fun ls hl => ?_)
  refine lp_mu (α := Nat) (fun a_ => match a_ with | i => U - i) (fun a_ H locs ls => match a_ with | i => (i ≤ U ∧ ∀ k, k < i → f k &&& ls_rw L k = 0) ∧ va_P (dC, dI) vwCl [(h, .inr (0, [.ref w, .int (nI U)])), (w, .inl (cL, 1024, .inr (.inl f)))] H ∧ va_D A [(h, .inr (0, [.ref w, .int (nI U)])), (w, .inl (cL, 1024, .inr (.inl f)))] ∧ va_S A s.heap H locs ∧ lv_has ls 9 [(0, .ref h), (2, .long (mk_in L)), (4, .int (nI (mk_on L))), (5, .int (nI (mk_ze L))), (6, .int (nI U)), (7, .int (nI i))]) ?_ (0) ⟨⟨Nat.zero_le _, fun k hk => absurd hk (Nat.not_lt_zero _)⟩, hP, hD, hS, lv_sub hl [5, 4, 3, 2, 1, 0] rfl⟩
  intro a_ H locs ls hI ih
  obtain ⟨i, rfl⟩ : ∃ z, z = a_ := ⟨_, rfl⟩
  obtain ⟨hI, hP, hD, hS, hl⟩ := hI
  have hI : i ≤ U ∧ ∀ k, k < i → f k &&& ls_rw L k = 0 := hI
  have hP : va_P (dC, dI) vwCl [(h, .inr (0, [.ref w, .int (nI U)])), (w, .inl (cL, 1024, .inr (.inl f)))] H := hP
  have hD : va_D A [(h, .inr (0, [.ref w, .int (nI U)])), (w, .inl (cL, 1024, .inr (.inl f)))] := hD
  have hl : lv_has ls 9 [(0, .ref h), (2, .long (mk_in L)), (4, .int (nI (mk_on L))), (5, .int (nI (mk_ze L))), (6, .int (nI U)), (7, .int (nI i))] := hl
  obtain ⟨hi, hg⟩ := hI
  refine lv_iload hx hb dR_anyWith_26 (lv_at hl 5 rfl) ?_
  refine lv_iload hx hb dR_anyWith_28 (lv_at hl 4 rfl) ?_
  refine lv_icmp_ge (tgt := 95) hx hb dR_anyWith_30 (by decide) (fun c1 => ?_) (fun c1 => ?_)
  · have c1 : U ≤ i := (nI_leI (a := U) (b := i) (by omega) (by omega)).mp c1
    refine lv_iconst (v := 0) hx hb dR_anyWith_95 (by decide) ?_
    exact (W.zret (v := 0) hx hb hr (rfl) (fun t ht hW => ⟨⟨0, (), rfl, Or.inr ⟨rfl, fun k hk => hg k (by omega)⟩, by rw [ht]; exact hP, va_K.moved hW.alike hK, hD⟩, hS.F ht⟩) hS.2.2 dR_anyWith_96)
  · have c1 : i < U := Nat.lt_of_not_le (fun q => c1 ((nI_leI (a := U) (b := i) (by omega) (by omega)).mpr q))
    have hm : mk_m i (mk_in L) (mk_on L) (mk_ze L) = ls_rw L i := mk_lit hL (by omega)
    have hb1 : i &&& mk_on L ≤ i := Nat.and_le_left
    have hb2 : mk_no i (mk_ze L) ≤ mk_ze L := Nat.and_le_right
    refine lv_iload hx hb dR_anyWith_33 (lv_at hl 5 rfl) ?_
    refine lv_iload hx hb dR_anyWith_35 (lv_at hl 2 rfl) ?_
    refine lv_iand hx hb dR_anyWith_37 ?_
    refine ls_topi (y := nI (i &&& mk_on L)) (nx_and _ _) ?_
    refine lv_if_ne (tgt := 51) hx hb dR_anyWith_38 (by decide) (fun c2 => ?_) (fun c2 => ?_)
    · have c2 : (i &&& mk_on L) ≠ 0 := fun q => c2 ((nI_eq (a := (i &&& mk_on L)) (b := 0) (by omega) (by omega)).mpr q)
      have em : f i = f i &&& ls_rw L i := by rw [← hm, mk_mo c2, mk_am1]
      refine lv_iconst (v := 1) hx hb dR_anyWith_51 (by decide) ?_
      refine lv_goto (tgt := 56) hx hb dR_anyWith_52 (by decide) ?_
      refine lv_istore (lv' := [(8, .int 1), (0, .ref h), (2, .long (mk_in L)), (4, .int (nI (mk_on L))), (5, .int (nI (mk_ze L))), (6, .int (nI U)), (7, .int (nI i))]) hx hb dR_anyWith_56 hl (by decide) rfl (fun ls hl => ?_)
      refine lv_iload hx hb dR_anyWith_58 (lv_at hl 0 rfl) ?_
      refine lv_if_eq (tgt := 73) hx hb dR_anyWith_60 (by decide) (fun c4 => ?_) (fun c4 => ?_)
      · exact absurd c4 (by decide)
      · refine lv_aload_n hx hb dR_anyWith_63 rfl (lv_at hl 1 rfl) ?_
        refine va_get (D := (dC, dI)) (ci := 0) (v := .ref w) (C := RR) (T := TR) (N := 2) hx hb hts lyR hown hK hP 0 rfl rfl 0 (by decide) (hts _ fl_R_11) (fun _ h9 => h9) rfl dR_anyWith_64 ?_
        refine lv_iload hx hb dR_anyWith_67 (lv_at hl 6 rfl) ?_
        refine va_lald hx hb hK hP 1 0 rfl rfl (vp_in_nI (by omega) (by decide)) dR_anyWith_69 ?_
        refine ls_topl (y := f i) (by rw [nI_clamp (by omega)]) ?_
        refine lv_goto (tgt := 82) hx hb dR_anyWith_70 (by decide) ?_
        refine ls_topl (y := f i &&& ls_rw L i) (em) ?_
        refine lv_lconst (v := 0) hx hb dR_anyWith_82 (by decide) ?_
        refine W.lcmp hx hb dR_anyWith_83 ?_
        refine lv_if_eq (tgt := 89) hx hb dR_anyWith_84 (by decide) (fun c5 => ?_) (fun c5 => ?_)
        · have c5 := (ls_cmp0 _).mp c5
          refine lv_iinc (v := nI (i + 1)) (lv' := [(7, .int (nI (i + 1))), (8, .int 1), (0, .ref h), (2, .long (mk_in L)), (4, .int (nI (mk_on L))), (5, .int (nI (mk_ze L))), (6, .int (nI U))]) hx hb dR_anyWith_89 hl (k := 6) rfl (nI_1 _) (by decide) rfl (fun ls hl => ?_)
          refine lv_goto (tgt := 26) hx hb dR_anyWith_92 (by decide) ?_
          exact ih (i + 1) _ _ _ (by show U - (i + 1) < U - i; omega) ⟨⟨c1, fun k hk => by rcases Nat.lt_or_ge k i with q | q; exact hg k q; rw [show k = i by omega]; exact c5⟩, hP, hD, hS, lv_sub hl [2, 3, 4, 5, 6, 0] rfl⟩
        · refine lv_iconst (v := 1) hx hb dR_anyWith_87 (by decide) ?_
          exact (W.zret (v := 1) hx hb hr (rfl) (fun t ht hW => ⟨⟨1, (), rfl, Or.inl ⟨rfl, i, c1, fun q => c5 ((ls_cmp0 _).mpr q)⟩, by rw [ht]; exact hP, va_K.moved hW.alike hK, hD⟩, hS.F ht⟩) hS.2.2 dR_anyWith_88)
    · have c2 : (i &&& mk_on L) = 0 := (nI_eq (a := (i &&& mk_on L)) (b := 0) (by omega) (by omega)).mp c2
      refine lv_iload hx hb dR_anyWith_41 (lv_at hl 5 rfl) ?_
      refine lv_iconst (v := (-1)) hx hb dR_anyWith_43 (by decide) ?_
      refine lv_ixor hx hb dR_anyWith_44 ?_
      refine lv_iload hx hb dR_anyWith_45 (lv_at hl 3 rfl) ?_
      refine lv_iand hx hb dR_anyWith_47 ?_
      refine ls_topi (y := nI (mk_no i (mk_ze L))) (mk_nx (by omega)) ?_
      refine lv_if_eq (tgt := 55) hx hb dR_anyWith_48 (by decide) (fun c3 => ?_) (fun c3 => ?_)
      · have c3 : (mk_no i (mk_ze L)) = 0 := (nI_eq (a := (mk_no i (mk_ze L))) (b := 0) (by omega) (by omega)).mp c3
        have em : f i &&& mk_in L = f i &&& ls_rw L i := by rw [← hm, mk_m0 c2 c3]
        refine lv_iconst (v := 0) hx hb dR_anyWith_55 (by decide) ?_
        refine lv_istore (lv' := [(8, .int 0), (0, .ref h), (2, .long (mk_in L)), (4, .int (nI (mk_on L))), (5, .int (nI (mk_ze L))), (6, .int (nI U)), (7, .int (nI i))]) hx hb dR_anyWith_56 hl (by decide) rfl (fun ls hl => ?_)
        refine lv_iload hx hb dR_anyWith_58 (lv_at hl 0 rfl) ?_
        refine lv_if_eq (tgt := 73) hx hb dR_anyWith_60 (by decide) (fun c4 => ?_) (fun c4 => ?_)
        · refine lv_aload_n hx hb dR_anyWith_73 rfl (lv_at hl 1 rfl) ?_
          refine va_get (D := (dC, dI)) (ci := 0) (v := .ref w) (C := RR) (T := TR) (N := 2) hx hb hts lyR hown hK hP 0 rfl rfl 0 (by decide) (hts _ fl_R_11) (fun _ h9 => h9) rfl dR_anyWith_74 ?_
          refine lv_iload hx hb dR_anyWith_77 (lv_at hl 6 rfl) ?_
          refine va_lald hx hb hK hP 1 0 rfl rfl (vp_in_nI (by omega) (by decide)) dR_anyWith_79 ?_
          refine ls_topl (y := f i) (by rw [nI_clamp (by omega)]) ?_
          refine lv_lload_n hx hb dR_anyWith_80 rfl (lv_at hl 2 rfl) ?_
          refine lv_land hx hb dR_anyWith_81 ?_
          refine ls_topl (y := f i &&& ls_rw L i) (em) ?_
          refine lv_lconst (v := 0) hx hb dR_anyWith_82 (by decide) ?_
          refine W.lcmp hx hb dR_anyWith_83 ?_
          refine lv_if_eq (tgt := 89) hx hb dR_anyWith_84 (by decide) (fun c5 => ?_) (fun c5 => ?_)
          · have c5 := (ls_cmp0 _).mp c5
            refine lv_iinc (v := nI (i + 1)) (lv' := [(7, .int (nI (i + 1))), (8, .int 0), (0, .ref h), (2, .long (mk_in L)), (4, .int (nI (mk_on L))), (5, .int (nI (mk_ze L))), (6, .int (nI U))]) hx hb dR_anyWith_89 hl (k := 6) rfl (nI_1 _) (by decide) rfl (fun ls hl => ?_)
            refine lv_goto (tgt := 26) hx hb dR_anyWith_92 (by decide) ?_
            exact ih (i + 1) _ _ _ (by show U - (i + 1) < U - i; omega) ⟨⟨c1, fun k hk => by rcases Nat.lt_or_ge k i with q | q; exact hg k q; rw [show k = i by omega]; exact c5⟩, hP, hD, hS, lv_sub hl [2, 3, 4, 5, 6, 0] rfl⟩
          · refine lv_iconst (v := 1) hx hb dR_anyWith_87 (by decide) ?_
            exact (W.zret (v := 1) hx hb hr (rfl) (fun t ht hW => ⟨⟨1, (), rfl, Or.inl ⟨rfl, i, c1, fun q => c5 ((ls_cmp0 _).mpr q)⟩, by rw [ht]; exact hP, va_K.moved hW.alike hK, hD⟩, hS.F ht⟩) hS.2.2 dR_anyWith_88)
        · exact absurd rfl c4
      · have c3 : (mk_no i (mk_ze L)) ≠ 0 := fun q => c3 ((nI_eq (a := (mk_no i (mk_ze L))) (b := 0) (by omega) (by omega)).mpr q)
        have em : f i = f i &&& ls_rw L i := by rw [← hm, mk_mz c3, mk_am1]
        refine lv_iconst (v := 1) hx hb dR_anyWith_51 (by decide) ?_
        refine lv_goto (tgt := 56) hx hb dR_anyWith_52 (by decide) ?_
        refine lv_istore (lv' := [(8, .int 1), (0, .ref h), (2, .long (mk_in L)), (4, .int (nI (mk_on L))), (5, .int (nI (mk_ze L))), (6, .int (nI U)), (7, .int (nI i))]) hx hb dR_anyWith_56 hl (by decide) rfl (fun ls hl => ?_)
        refine lv_iload hx hb dR_anyWith_58 (lv_at hl 0 rfl) ?_
        refine lv_if_eq (tgt := 73) hx hb dR_anyWith_60 (by decide) (fun c4 => ?_) (fun c4 => ?_)
        · exact absurd c4 (by decide)
        · refine lv_aload_n hx hb dR_anyWith_63 rfl (lv_at hl 1 rfl) ?_
          refine va_get (D := (dC, dI)) (ci := 0) (v := .ref w) (C := RR) (T := TR) (N := 2) hx hb hts lyR hown hK hP 0 rfl rfl 0 (by decide) (hts _ fl_R_11) (fun _ h9 => h9) rfl dR_anyWith_64 ?_
          refine lv_iload hx hb dR_anyWith_67 (lv_at hl 6 rfl) ?_
          refine va_lald hx hb hK hP 1 0 rfl rfl (vp_in_nI (by omega) (by decide)) dR_anyWith_69 ?_
          refine ls_topl (y := f i) (by rw [nI_clamp (by omega)]) ?_
          refine lv_goto (tgt := 82) hx hb dR_anyWith_70 (by decide) ?_
          refine ls_topl (y := f i &&& ls_rw L i) (em) ?_
          refine lv_lconst (v := 0) hx hb dR_anyWith_82 (by decide) ?_
          refine W.lcmp hx hb dR_anyWith_83 ?_
          refine lv_if_eq (tgt := 89) hx hb dR_anyWith_84 (by decide) (fun c5 => ?_) (fun c5 => ?_)
          · have c5 := (ls_cmp0 _).mp c5
            refine lv_iinc (v := nI (i + 1)) (lv' := [(7, .int (nI (i + 1))), (8, .int 1), (0, .ref h), (2, .long (mk_in L)), (4, .int (nI (mk_on L))), (5, .int (nI (mk_ze L))), (6, .int (nI U))]) hx hb dR_anyWith_89 hl (k := 6) rfl (nI_1 _) (by decide) rfl (fun ls hl => ?_)
            refine lv_goto (tgt := 26) hx hb dR_anyWith_92 (by decide) ?_
            exact ih (i + 1) _ _ _ (by show U - (i + 1) < U - i; omega) ⟨⟨c1, fun k hk => by rcases Nat.lt_or_ge k i with q | q; exact hg k q; rw [show k = i by omega]; exact c5⟩, hP, hD, hS, lv_sub hl [2, 3, 4, 5, 6, 0] rfl⟩
          · refine lv_iconst (v := 1) hx hb dR_anyWith_87 (by decide) ?_
            exact (W.zret (v := 1) hx hb hr (rfl) (fun t ht hW => ⟨⟨1, (), rfl, Or.inl ⟨rfl, i, c1, fun q => c5 ((ls_cmp0 _).mpr q)⟩, by rw [ht]; exact hP, va_K.moved hW.alike hK, hD⟩, hS.F ht⟩) hS.2.2 dR_anyWith_88)
