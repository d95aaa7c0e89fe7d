set_option maxHeartbeats 4000000 in
set_option maxRecDepth 100000 in
/-- rowsWith(l, w): the mask of the literal in word w -/
theorem k_R_rowsWith (l : Launch) (dC : Nat → ClassId) (dI : Nat → Nat → Nat) (tI sz : Nat) (L q : Nat) (hL : L < 32) (hq : q < 1024) : Met l yR_rowsWith (Cond.code yR_rowsWith cR_rowsWith 5 (some .long) :: GG) (lvr 0 0 0) (va_Pc [.int (nI L), .int (nI q)] (wPre dC dI [] [] sz tI)) (va_Ql (fun (r : Int64) (u : Unit) => r = ls_rw L q) (fun u t => wB dC dI [] (va_A [] sz) [] t) (va_A [] sz)) 0 0 (va_A [] sz) := by
  refine Met.ofW (cc := cR_rowsWith) (maxL := 5) (ret := (some .long)) (by decide) rfl ?_
  intro p e s m args below meth c s₁ B hml hv
  obtain ⟨rfl, hsz, hP, hK, hD0, hZ, hX⟩ := hv
  have hx := B.exec
  have hb := B.bytes
  have hr := B.returns
  have hts : ∀ w ∈ GG, w.before ([.int (nI L), .int (nI q)] : List Value).toArray s = true := fun w h => atoms_spec (ws := _ :: GG) B.pre w (List.mem_cons_of_mem _ h)
  have hown : s.vm.findClass RR = some m.cls := findClass_of_methodNamed B.named
  have hlocks := B.notSynchronized
  subst hsz
  have hD := hD0.self (sz := s.heap.size)
  generalize hAe : va_A [] s.heap.size = A at hD hZ ⊢
  have hA : ∀ q : Nat, s.heap.size ≤ q → A q := fun q h => by rw [← hAe]; exact Or.inr h
  have hS : va_S A s.heap s.heap [] := va_S.rf
  have hl := lv_entry ([.int (nI L), .int (nI q)]) (n := 5) (Nat.le_of_ble_eq_true rfl)
  rw [lg_entry_eq]
  generalize (lg_sl ([.int (nI L), .int (nI q)]) ++ List.replicate (5 - (lg_sl ([.int (nI L), .int (nI q)])).length) Slot.unset).toArray = ls at hl ⊢
  have hl : lv_has ls 5 [(0, .int (nI L)), (1, .int (nI q))] := hl
  have SF : CallFix p m c cR_rowsWith 5 s ([.int (nI L), .int (nI q)] : List Value).toArray GG RR := ⟨hx, hb, hml, hown, hts⟩
  skip
  have hP : va_P (dC, dI) vwCl [] s.heap := hP
  refine lv_iload_n hx hb dR_rowsWith_0 rfl (lv_at hl 0 rfl) ?_
  refine lv_iconst (v := 1) hx hb dR_rowsWith_1 (by decide) ?_
  refine lv_ishr hx hb dR_rowsWith_2 ?_
  refine ls_topi (y := nI (L / 2)) (by have := ls_shr (n := L) (by omega) (k := 1) (by decide); exact this) ?_
  refine lv_istore_n (lv' := [(2, .int (nI (L / 2))), (0, .int (nI L)), (1, .int (nI q))]) hx hb dR_rowsWith_3 rfl hl (by decide) rfl (fun ls hl => ?_)
  refine lv_iload_n hx hb dR_rowsWith_4 rfl (lv_at hl 0 rfl) ?_
  refine lv_if_lt (tgt := 25) hx hb dR_rowsWith_5 (by decide) (fun c1 => ?_) (fun c1 => ?_)
  · have c1 : (L / 2) < 0 := (nI_ltI (a := (L / 2)) (b := 0) (by omega) (by omega)).mp c1
    exact absurd c1 (Nat.not_lt_zero _)
  · have c1 : 0 ≤ (L / 2) := Nat.le_of_not_lt (fun q => c1 ((nI_ltI (a := (L / 2)) (b := 0) (by omega) (by omega)).mpr q))
    refine lv_iload_n hx hb dR_rowsWith_8 rfl (lv_at hl 0 rfl) ?_
    refine va_gets hx hb hZ.1 hS hown (hts _ fl_R_21) (fun _ h9 => h9) dR_rowsWith_9 ?_
    refine va_tlen (v := 6) hx hb hZ.2.1 hS rfl dR_rowsWith_12 ?_
    refine lv_icmp_ge (tgt := 25) hx hb dR_rowsWith_13 (by decide) (fun c2 => ?_) (fun c2 => ?_)
    · have c2 : 6 ≤ (L / 2) := (nI_leI (a := 6) (b := (L / 2)) (by omega) (by omega)).mp c2
      refine lv_iload_n hx hb dR_rowsWith_25 rfl (lv_at hl 2 rfl) ?_
      refine lv_iload_n hx hb dR_rowsWith_26 rfl (lv_at hl 0 rfl) ?_
      refine lv_bipush (v := 6) hx hb dR_rowsWith_27 (by decide) ?_
      refine lv_isub hx hb dR_rowsWith_29 ?_
      refine ls_topi (y := nI (L / 2 - 6)) (pk_sub c2) ?_
      refine lv_ishr hx hb dR_rowsWith_30 ?_
      refine ls_topi (y := nI (q / 2 ^ (L / 2 - 6))) (ls_shr (by omega) (by omega)) ?_
      refine lv_iconst (v := 1) hx hb dR_rowsWith_31 (by decide) ?_
      refine lv_iand hx hb dR_rowsWith_32 ?_
      refine ls_topi (y := nI (if q.testBit (L / 2 - 6) = true then 1 else 0)) (by rw [← ls_bit]; exact ls_and1 (Nat.lt_of_le_of_lt (Nat.div_le_self _ _) (by omega))) ?_
      refine lv_if_eq (tgt := 42) hx hb dR_rowsWith_33 (by decide) (fun c3 => ?_) (fun c3 => ?_)
      · have hon : ls_on (L / 2) q = 0 := by
          unfold ls_on; rw [if_neg (by omega)]
          split
          · rename_i e; rw [if_pos e] at c3; exact absurd c3 (by decide)
          · rfl
        refine lv_lconst (v := 0) hx hb dR_rowsWith_42 (by decide) ?_
        refine ls_topl (y := ls_on (L / 2) q) (hon.symm) ?_
        refine lv_lstore_n (lv' := [(3, .long (ls_on (L / 2) q)), (2, .int (nI (L / 2))), (0, .int (nI L)), (1, .int (nI q))]) hx hb dR_rowsWith_43 rfl hl (by decide) rfl (fun ls hl => ?_)
        refine lv_iload_n hx hb dR_rowsWith_44 rfl (lv_at hl 2 rfl) ?_
        refine lv_iconst (v := 1) hx hb dR_rowsWith_45 (by decide) ?_
        refine lv_iand hx hb dR_rowsWith_46 ?_
        refine ls_topi (y := nI (L % 2)) (ls_and1 (by omega)) ?_
        refine lv_if_ne (tgt := 54) hx hb dR_rowsWith_47 (by decide) (fun c9 => ?_) (fun c9 => ?_)
        · have c9 : (L % 2) ≠ 0 := fun q => c9 ((nI_eq (a := (L % 2)) (b := 0) (by omega) (by omega)).mpr q)
          refine lv_lload_n hx hb dR_rowsWith_54 rfl (lv_at hl 0 rfl) ?_
          refine lv_ldc2 (v := (-1)) hx hb hown (hts _ cj_R_19) dR_rowsWith_55 ?_
          refine lv_lxor hx hb dR_rowsWith_58 ?_
          exact (W.lret (v := (ls_on (L / 2) q) ^^^ (-1)) hx hb hr (fun t ht hW => ⟨⟨(ls_on (L / 2) q) ^^^ (-1), (), rfl, (show _ = ls_rw L q by unfold ls_rw; rw [if_neg c9]), by rw [ht]; exact hP, va_K.moved hW.alike hK, hD⟩, hS.F ht⟩) hS.2.2 dR_rowsWith_59)
        · have c9 : (L % 2) = 0 := (nI_eq (a := (L % 2)) (b := 0) (by omega) (by omega)).mp c9
          refine lv_lload_n hx hb dR_rowsWith_50 rfl (lv_at hl 0 rfl) ?_
          refine lv_goto (tgt := 59) hx hb dR_rowsWith_51 (by decide) ?_
          exact (W.lret (v := ls_on (L / 2) q) hx hb hr (fun t ht hW => ⟨⟨ls_on (L / 2) q, (), rfl, (show _ = ls_rw L q by unfold ls_rw; rw [if_pos c9]), by rw [ht]; exact hP, va_K.moved hW.alike hK, hD⟩, hS.F ht⟩) hS.2.2 dR_rowsWith_59)
      · have hon : ls_on (L / 2) q = -1 := by
          unfold ls_on; rw [if_neg (by omega)]
          split
          · rfl
          · rename_i e; rw [if_neg e] at c3; exact absurd rfl c3
        refine lv_ldc2 (v := (-1)) hx hb hown (hts _ cj_R_19) dR_rowsWith_36 ?_
        refine lv_goto (tgt := 43) hx hb dR_rowsWith_39 (by decide) ?_
        refine ls_topl (y := ls_on (L / 2) q) (hon.symm) ?_
        refine lv_lstore_n (lv' := [(3, .long (ls_on (L / 2) q)), (2, .int (nI (L / 2))), (0, .int (nI L)), (1, .int (nI q))]) hx hb dR_rowsWith_43 rfl hl (by decide) rfl (fun ls hl => ?_)
        refine lv_iload_n hx hb dR_rowsWith_44 rfl (lv_at hl 2 rfl) ?_
        refine lv_iconst (v := 1) hx hb dR_rowsWith_45 (by decide) ?_
        refine lv_iand hx hb dR_rowsWith_46 ?_
        refine ls_topi (y := nI (L % 2)) (ls_and1 (by omega)) ?_
        refine lv_if_ne (tgt := 54) hx hb dR_rowsWith_47 (by decide) (fun c9 => ?_) (fun c9 => ?_)
        · have c9 : (L % 2) ≠ 0 := fun q => c9 ((nI_eq (a := (L % 2)) (b := 0) (by omega) (by omega)).mpr q)
          refine lv_lload_n hx hb dR_rowsWith_54 rfl (lv_at hl 0 rfl) ?_
          refine lv_ldc2 (v := (-1)) hx hb hown (hts _ cj_R_19) dR_rowsWith_55 ?_
          refine lv_lxor hx hb dR_rowsWith_58 ?_
          exact (W.lret (v := (ls_on (L / 2) q) ^^^ (-1)) hx hb hr (fun t ht hW => ⟨⟨(ls_on (L / 2) q) ^^^ (-1), (), rfl, (show _ = ls_rw L q by unfold ls_rw; rw [if_neg c9]), by rw [ht]; exact hP, va_K.moved hW.alike hK, hD⟩, hS.F ht⟩) hS.2.2 dR_rowsWith_59)
        · have c9 : (L % 2) = 0 := (nI_eq (a := (L % 2)) (b := 0) (by omega) (by omega)).mp c9
          refine lv_lload_n hx hb dR_rowsWith_50 rfl (lv_at hl 0 rfl) ?_
          refine lv_goto (tgt := 59) hx hb dR_rowsWith_51 (by decide) ?_
          exact (W.lret (v := ls_on (L / 2) q) hx hb hr (fun t ht hW => ⟨⟨ls_on (L / 2) q, (), rfl, (show _ = ls_rw L q by unfold ls_rw; rw [if_pos c9]), by rw [ht]; exact hP, va_K.moved hW.alike hK, hD⟩, hS.F ht⟩) hS.2.2 dR_rowsWith_59)
    · have c2 : (L / 2) < 6 := Nat.lt_of_not_le (fun q => c2 ((nI_leI (a := 6) (b := (L / 2)) (by omega) (by omega)).mpr q))
      have hon : ls_on (L / 2) q = ls_ones (L / 2) := by unfold ls_on; rw [if_pos c2]
      refine va_gets hx hb hZ.1 hS hown (hts _ fl_R_21) (fun _ h9 => h9) dR_rowsWith_16 ?_
      refine lv_iload_n hx hb dR_rowsWith_19 rfl (lv_at hl 0 rfl) ?_
      refine va_tl (v := .long (ls_on (L / 2) q)) hx hb hZ.2.1 hS (vp_in_nI c2 (by decide)) (by rw [nI_clamp (by omega), hon]) dR_rowsWith_20 ?_
      refine lv_lstore_n (lv' := [(3, .long (ls_on (L / 2) q)), (2, .int (nI (L / 2))), (0, .int (nI L)), (1, .int (nI q))]) hx hb dR_rowsWith_21 rfl hl (by decide) rfl (fun ls hl => ?_)
      refine lv_goto (tgt := 44) hx hb dR_rowsWith_22 (by decide) ?_
      refine lv_iload_n hx hb dR_rowsWith_44 rfl (lv_at hl 2 rfl) ?_
      refine lv_iconst (v := 1) hx hb dR_rowsWith_45 (by decide) ?_
      refine lv_iand hx hb dR_rowsWith_46 ?_
      refine ls_topi (y := nI (L % 2)) (ls_and1 (by omega)) ?_
      refine lv_if_ne (tgt := 54) hx hb dR_rowsWith_47 (by decide) (fun c9 => ?_) (fun c9 => ?_)
      · have c9 : (L % 2) ≠ 0 := fun q => c9 ((nI_eq (a := (L % 2)) (b := 0) (by omega) (by omega)).mpr q)
        refine lv_lload_n hx hb dR_rowsWith_54 rfl (lv_at hl 0 rfl) ?_
        refine lv_ldc2 (v := (-1)) hx hb hown (hts _ cj_R_19) dR_rowsWith_55 ?_
        refine lv_lxor hx hb dR_rowsWith_58 ?_
        exact (W.lret (v := (ls_on (L / 2) q) ^^^ (-1)) hx hb hr (fun t ht hW => ⟨⟨(ls_on (L / 2) q) ^^^ (-1), (), rfl, (show _ = ls_rw L q by unfold ls_rw; rw [if_neg c9]), by rw [ht]; exact hP, va_K.moved hW.alike hK, hD⟩, hS.F ht⟩) hS.2.2 dR_rowsWith_59)
      · have c9 : (L % 2) = 0 := (nI_eq (a := (L % 2)) (b := 0) (by omega) (by omega)).mp c9
        refine lv_lload_n hx hb dR_rowsWith_50 rfl (lv_at hl 0 rfl) ?_
        refine lv_goto (tgt := 59) hx hb dR_rowsWith_51 (by decide) ?_
        exact (W.lret (v := ls_on (L / 2) q) hx hb hr (fun t ht hW => ⟨⟨ls_on (L / 2) q, (), rfl, (show _ = ls_rw L q by unfold ls_rw; rw [if_pos c9]), by rw [ht]; exact hP, va_K.moved hW.alike hK, hD⟩, hS.F ht⟩) hS.2.2 dR_rowsWith_59)
set_option maxHeartbeats 4000000 in
set_option maxRecDepth 100000 in
/-- holdAll(): one word, all rows -/
theorem k_R_holdAll (l : Launch) (dC : Nat → ClassId) (dI : Nat → Nat → Nat) (tI sz : Nat) (h w : Nat) (cL : ClassId) (f : Nat → Int64) (x : Int32) : Met l yR_holdAll (Cond.code yR_holdAll cR_holdAll 1 none :: GG) (lvr 0 0 0) (va_Pc [.ref h] (wPre dC dI [(cL, .long)] [(h, .inr (0, [.ref w, .int x])), (w, .inl (cL, 1024, .inr (.inl f)))] sz tI)) (va_Qv (fun (u : Unit) => True) (fun u t => wB dC dI [(cL, .long)] (va_A [(h, .inr (0, [.ref w, .int x])), (w, .inl (cL, 1024, .inr (.inl f)))] sz) [(h, .inr (0, [.ref w, .int 1])), (w, .inl (cL, 1024, .inr (.inl (vp_updL f 0 (-1)))))] t) (va_A [(h, .inr (0, [.ref w, .int x])), (w, .inl (cL, 1024, .inr (.inl f)))] sz)) 0 0 (va_A [(h, .inr (0, [.ref w, .int x])), (w, .inl (cL, 1024, .inr (.inl f)))] sz) := by
  refine Met.ofW (cc := cR_holdAll) (maxL := 1) (ret := none) (by decide) rfl ?_
  intro p e s m args below meth c s₁ B hml hv
  obtain ⟨rfl, hsz, hP, hK, hD0, hZ, hX⟩ := hv
  have hx := B.exec
  have hb := B.bytes
  have hr := B.returns
  have hts : ∀ w ∈ GG, w.before ([.ref h] : List Value).toArray s = true := fun w h => atoms_spec (ws := _ :: GG) B.pre w (List.mem_cons_of_mem _ h)
  have hown : s.vm.findClass RR = some m.cls := findClass_of_methodNamed B.named
  have hlocks := B.notSynchronized
  subst hsz
  have hD := hD0.self (sz := s.heap.size)
  generalize hAe : va_A [(h, .inr (0, [.ref w, .int x])), (w, .inl (cL, 1024, .inr (.inl f)))] s.heap.size = A at hD hZ ⊢
  have hA : ∀ q : Nat, s.heap.size ≤ q → A q := fun q h => by rw [← hAe]; exact Or.inr h
  have hS : va_S A s.heap s.heap [] := va_S.rf
  have hl := lv_entry ([.ref h]) (n := 1) (Nat.le_of_ble_eq_true rfl)
  rw [lg_entry_eq]
  generalize (lg_sl ([.ref h]) ++ List.replicate (1 - (lg_sl ([.ref h])).length) Slot.unset).toArray = ls at hl ⊢
  have hl : lv_has ls 1 [(0, .ref h)] := hl
  have SF : CallFix p m c cR_holdAll 1 s ([.ref h] : List Value).toArray GG RR := ⟨hx, hb, hml, hown, hts⟩
  skip
  have hP : va_P (dC, dI) vwCl [(h, .inr (0, [.ref w, .int x])), (w, .inl (cL, 1024, .inr (.inl f)))] s.heap := hP
  refine lv_aload_n hx hb dR_holdAll_0 rfl (lv_at hl 0 rfl) ?_
  refine va_get (D := (dC, dI)) (ci := 0) (v := .ref w) (C := RR) (T := TR) (N := 2) hx hb hts lyR hown hK hP 0 rfl rfl 0 (by decide) (hts _ fl_R_11) (fun _ h9 => h9) rfl dR_holdAll_1 ?_
  refine lv_iconst (v := 0) hx hb dR_holdAll_4 (by decide) ?_
  refine lv_ldc2 (v := (-1)) hx hb hown (hts _ cj_R_19) dR_holdAll_5 ?_
  refine va_last hx hb hK hP hD hS 1 0 rfl rfl (ax_in0) dR_holdAll_8 (fun H locs hP hD hS => ?_)
  have hP : va_P (dC, dI) vwCl [(h, .inr (0, [.ref w, .int x])), (w, .inl (cL, 1024, .inr (.inl (vp_updL f 0 (-1)))))] H := hP
  have hD : va_D A [(h, .inr (0, [.ref w, .int x])), (w, .inl (cL, 1024, .inr (.inl (vp_updL f 0 (-1)))))] := hD
  refine lv_aload_n hx hb dR_holdAll_9 rfl (lv_at hl 0 rfl) ?_
  refine lv_iconst (v := 1) hx hb dR_holdAll_10 (by decide) ?_
  refine va_put (D := (dC, dI)) (ci := 0) (v := .int 1) (ty := .int) (C := RR) (T := TR) (N := 2) hx hb hts lyR tyR tyR_ok nmR hown hK hP hD hS 0 rfl rfl 1 (by decide) (hts _ fl_R_15) (fun _ h9 => h9) rfl (by decide +kernel) rfl rfl (Nat.le_of_ble_eq_true rfl) dR_holdAll_11 (fun H locs hP hD hS => ?_)
  have hP : va_P (dC, dI) vwCl [(h, .inr (0, [.ref w, .int 1])), (w, .inl (cL, 1024, .inr (.inl (vp_updL f 0 (-1)))))] H := hP
  have hD : va_D A [(h, .inr (0, [.ref w, .int 1])), (w, .inl (cL, 1024, .inr (.inl (vp_updL f 0 (-1)))))] := hD
  exact (W.vret hx hb hr (fun t ht hW => ⟨⟨(), rfl, trivial, by rw [ht]; exact hP, va_K.moved hW.alike hK, hD⟩, hS.F ht⟩) hS.2.2 dR_holdAll_14)
set_option maxHeartbeats 4000000 in
set_option maxRecDepth 100000 in
/-- copyFrom(other): the words of other -/
theorem k_R_copyFrom (l : Launch) (dC : Nat → ClassId) (dI : Nat → Nat → Nat) (tI sz : Nat) (h w h2 w2 : Nat) (cL cM : ClassId) (f0 f : Nat → Int64) (x : Int32) (U : Nat) (hU : U ≤ 1024) : Met l yR_copyFrom (Cond.code yR_copyFrom cR_copyFrom 3 none :: GG) (lvr 0 0 0) (va_Pc [.ref h, .ref h2] (wPre dC dI [(cL, .long), (cM, .long)] [(h, .inr (0, [.ref w, .int x])), (w, .inl (cL, 1024, .inr (.inl f0))), (h2, .inr (0, [.ref w2, .int (nI U)])), (w2, .inl (cM, 1024, .inr (.inl f)))] sz tI)) (va_Qv (fun (u : Nat → Int64) => ∀ k, k < U → u k = f k) (fun u t => wB dC dI [(cL, .long), (cM, .long)] (va_A [(h, .inr (0, [.ref w, .int x])), (w, .inl (cL, 1024, .inr (.inl f0))), (h2, .inr (0, [.ref w2, .int (nI U)])), (w2, .inl (cM, 1024, .inr (.inl f)))] sz) [(h, .inr (0, [.ref w, .int (nI U)])), (w, .inl (cL, 1024, .inr (.inl u))), (h2, .inr (0, [.ref w2, .int (nI U)])), (w2, .inl (cM, 1024, .inr (.inl f)))] t) (va_A [(h, .inr (0, [.ref w, .int x])), (w, .inl (cL, 1024, .inr (.inl f0))), (h2, .inr (0, [.ref w2, .int (nI U)])), (w2, .inl (cM, 1024, .inr (.inl f)))] sz)) 0 0 (va_A [(h, .inr (0, [.ref w, .int x])), (w, .inl (cL, 1024, .inr (.inl f0))), (h2, .inr (0, [.ref w2, .int (nI U)])), (w2, .inl (cM, 1024, .inr (.inl f)))] sz) := by
  refine Met.ofW (cc := cR_copyFrom) (maxL := 3) (ret := none) (by decide) rfl ?_
  intro p e s m args below meth c s₁ B hml hv
  obtain ⟨rfl, hsz, hP, hK, hD0, hZ, hX⟩ := hv
  have hx := B.exec
  have hb := B.bytes
  have hr := B.returns
  have hts : ∀ w ∈ GG, w.before ([.ref h, .ref h2] : List Value).toArray s = true := fun w h => atoms_spec (ws := _ :: GG) B.pre w (List.mem_cons_of_mem _ h)
  have hown : s.vm.findClass RR = some m.cls := findClass_of_methodNamed B.named
  have hlocks := B.notSynchronized
  subst hsz
  have hD := hD0.self (sz := s.heap.size)
  generalize hAe : va_A [(h, .inr (0, [.ref w, .int x])), (w, .inl (cL, 1024, .inr (.inl f0))), (h2, .inr (0, [.ref w2, .int (nI U)])), (w2, .inl (cM, 1024, .inr (.inl f)))] s.heap.size = A at hD hZ ⊢
  have hA : ∀ q : Nat, s.heap.size ≤ q → A q := fun q h => by rw [← hAe]; exact Or.inr h
  have hS : va_S A s.heap s.heap [] := va_S.rf
  have hl := lv_entry ([.ref h, .ref h2]) (n := 3) (Nat.le_of_ble_eq_true rfl)
  rw [lg_entry_eq]
  generalize (lg_sl ([.ref h, .ref h2]) ++ List.replicate (3 - (lg_sl ([.ref h, .ref h2])).length) Slot.unset).toArray = ls at hl ⊢
  have hl : lv_has ls 3 [(0, .ref h), (1, .ref h2)] := hl
  have SF : CallFix p m c cR_copyFrom 3 s ([.ref h, .ref h2] : List Value).toArray GG RR := ⟨hx, hb, hml, hown, hts⟩
  skip
  have hP : va_P (dC, dI) vwCl [(h, .inr (0, [.ref w, .int x])), (w, .inl (cL, 1024, .inr (.inl f0))), (h2, .inr (0, [.ref w2, .int (nI U)])), (w2, .inl (cM, 1024, .inr (.inl f)))] s.heap := hP
  refine lv_aload_n hx hb dR_copyFrom_0 rfl (lv_at hl 1 rfl) ?_
  refine lv_ifnonnull (tgt := 5) hx hb dR_copyFrom_1 (by decide) ?_
  refine lv_iconst (v := 0) hx hb dR_copyFrom_5 (by decide) ?_
  refine lv_istore_n (lv' := [(2, .int 0), (0, .ref h), (1, .ref h2)]) hx hb dR_copyFrom_6 rfl hl (by decide) rfl (fun ls hl => ?_)
  refine lp_mu (α := Nat × (Nat → Int64)) (fun a_ => match a_ with | (i, g) => U - i) (fun a_ H locs ls => match a_ with | (i, g) => (i ≤ U ∧ ∀ k, k < i → g k = f k) ∧ va_P (dC, dI) vwCl [(h, .inr (0, [.ref w, .int x])), (w, .inl (cL, 1024, .inr (.inl g))), (h2, .inr (0, [.ref w2, .int (nI U)])), (w2, .inl (cM, 1024, .inr (.inl f)))] H ∧ va_D A [(h, .inr (0, [.ref w, .int x])), (w, .inl (cL, 1024, .inr (.inl g))), (h2, .inr (0, [.ref w2, .int (nI U)])), (w2, .inl (cM, 1024, .inr (.inl f)))] ∧ va_S A s.heap H locs ∧ lv_has ls 3 [(0, .ref h), (1, .ref h2), (2, .int (nI i))]) ?_ (0, f0) ⟨⟨Nat.zero_le _, fun k hk => absurd hk (Nat.not_lt_zero _)⟩, hP, hD, hS, lv_sub hl [1, 2, 0] rfl⟩
  intro a_ H locs ls hI ih
  obtain ⟨i, g⟩ := a_
  obtain ⟨hI, hP, hD, hS, hl⟩ := hI
  have hI : i ≤ U ∧ ∀ k, k < i → g k = f k := hI
  have hP : va_P (dC, dI) vwCl [(h, .inr (0, [.ref w, .int x])), (w, .inl (cL, 1024, .inr (.inl g))), (h2, .inr (0, [.ref w2, .int (nI U)])), (w2, .inl (cM, 1024, .inr (.inl f)))] H := hP
  have hD : va_D A [(h, .inr (0, [.ref w, .int x])), (w, .inl (cL, 1024, .inr (.inl g))), (h2, .inr (0, [.ref w2, .int (nI U)])), (w2, .inl (cM, 1024, .inr (.inl f)))] := hD
  have hl : lv_has ls 3 [(0, .ref h), (1, .ref h2), (2, .int (nI i))] := hl
  obtain ⟨hi, hg⟩ := hI
  refine lv_iload_n hx hb dR_copyFrom_7 rfl (lv_at hl 2 rfl) ?_
  refine lv_aload_n hx hb dR_copyFrom_8 rfl (lv_at hl 1 rfl) ?_
  refine va_get (D := (dC, dI)) (ci := 0) (v := .int (nI U)) (C := RR) (T := TR) (N := 2) hx hb hts lyR hown hK hP 2 rfl rfl 1 (by decide) (hts _ fl_R_15) (fun _ h9 => h9) rfl dR_copyFrom_9 ?_
  refine lv_icmp_ge (tgt := 42) hx hb dR_copyFrom_12 (by decide) (fun c1 => ?_) (fun c1 => ?_)
  · have c1 : U ≤ i := (nI_leI (a := U) (b := i) (by omega) (by omega)).mp c1
    refine lv_aload_n hx hb dR_copyFrom_42 rfl (lv_at hl 0 rfl) ?_
    refine lv_aload_n hx hb dR_copyFrom_43 rfl (lv_at hl 1 rfl) ?_
    refine va_get (D := (dC, dI)) (ci := 0) (v := .int (nI U)) (C := RR) (T := TR) (N := 2) hx hb hts lyR hown hK hP 2 rfl rfl 1 (by decide) (hts _ fl_R_15) (fun _ h9 => h9) rfl dR_copyFrom_44 ?_
    refine va_put (D := (dC, dI)) (ci := 0) (v := .int (nI U)) (ty := .int) (C := RR) (T := TR) (N := 2) hx hb hts lyR tyR tyR_ok nmR hown hK hP hD hS 0 rfl rfl 1 (by decide) (hts _ fl_R_15) (fun _ h9 => h9) rfl (by decide +kernel) rfl rfl (Nat.le_of_ble_eq_true rfl) dR_copyFrom_47 (fun H locs hP hD hS => ?_)
    have hP : va_P (dC, dI) vwCl [(h, .inr (0, [.ref w, .int (nI U)])), (w, .inl (cL, 1024, .inr (.inl g))), (h2, .inr (0, [.ref w2, .int (nI U)])), (w2, .inl (cM, 1024, .inr (.inl f)))] H := hP
    have hD : va_D A [(h, .inr (0, [.ref w, .int (nI U)])), (w, .inl (cL, 1024, .inr (.inl g))), (h2, .inr (0, [.ref w2, .int (nI U)])), (w2, .inl (cM, 1024, .inr (.inl f)))] := hD
    exact (W.vret hx hb hr (fun t ht hW => ⟨⟨g, rfl, fun k hk => hg k (by omega), by rw [ht]; exact hP, va_K.moved hW.alike hK, hD⟩, hS.F ht⟩) hS.2.2 dR_copyFrom_50)
  · have c1 : i < U := Nat.lt_of_not_le (fun q => c1 ((nI_leI (a := U) (b := i) (by omega) (by omega)).mpr q))
    refine lv_iload_n hx hb dR_copyFrom_15 rfl (lv_at hl 2 rfl) ?_
    refine lv_aload_n hx hb dR_copyFrom_16 rfl (lv_at hl 0 rfl) ?_
    refine va_get (D := (dC, dI)) (ci := 0) (v := .ref w) (C := RR) (T := TR) (N := 2) hx hb hts lyR hown hK hP 0 rfl rfl 0 (by decide) (hts _ fl_R_11) (fun _ h9 => h9) rfl dR_copyFrom_17 ?_
    refine va_alen (v := 1024) hx hb hK hP 1 0 rfl rfl rfl dR_copyFrom_20 ?_
    refine lv_icmp_ge (tgt := 42) hx hb dR_copyFrom_21 (by decide) (fun c2 => ?_) (fun c2 => ?_)
    · have c2 : 1024 ≤ i := (nI_leI (a := 1024) (b := i) (by omega) (by omega)).mp c2
      exact absurd c2 (by omega)
    · have c2 : i < 1024 := Nat.lt_of_not_le (fun q => c2 ((nI_leI (a := 1024) (b := i) (by omega) (by omega)).mpr q))
      refine lv_aload_n hx hb dR_copyFrom_24 rfl (lv_at hl 0 rfl) ?_
      refine va_get (D := (dC, dI)) (ci := 0) (v := .ref w) (C := RR) (T := TR) (N := 2) hx hb hts lyR hown hK hP 0 rfl rfl 0 (by decide) (hts _ fl_R_11) (fun _ h9 => h9) rfl dR_copyFrom_25 ?_
      refine lv_iload_n hx hb dR_copyFrom_28 rfl (lv_at hl 2 rfl) ?_
      refine lv_aload_n hx hb dR_copyFrom_29 rfl (lv_at hl 1 rfl) ?_
      refine va_get (D := (dC, dI)) (ci := 0) (v := .ref w2) (C := RR) (T := TR) (N := 2) hx hb hts lyR hown hK hP 2 rfl rfl 0 (by decide) (hts _ fl_R_11) (fun _ h9 => h9) rfl dR_copyFrom_30 ?_
      refine lv_iload_n hx hb dR_copyFrom_33 rfl (lv_at hl 2 rfl) ?_
      refine va_lald hx hb hK hP 3 1 rfl rfl (vp_in_nI (by omega) (by decide)) dR_copyFrom_34 ?_
      refine ls_topl (y := f i) (by rw [nI_clamp (by omega)]) ?_
      refine va_last hx hb hK hP hD hS 1 0 rfl rfl (vp_in_nI (by omega) (by decide)) dR_copyFrom_35 (fun H locs hP hD hS => ?_)
      rw [show vp_updL g (nI i).toNatClampNeg (f i) = vp_updL g i (f i) from by rw [nI_clamp (by omega)]] at hP hD
      have hP : va_P (dC, dI) vwCl [(h, .inr (0, [.ref w, .int x])), (w, .inl (cL, 1024, .inr (.inl (vp_updL g i (f i))))), (h2, .inr (0, [.ref w2, .int (nI U)])), (w2, .inl (cM, 1024, .inr (.inl f)))] H := hP
      have hD : va_D A [(h, .inr (0, [.ref w, .int x])), (w, .inl (cL, 1024, .inr (.inl (vp_updL g i (f i))))), (h2, .inr (0, [.ref w2, .int (nI U)])), (w2, .inl (cM, 1024, .inr (.inl f)))] := hD
      refine lv_iinc (v := nI (i + 1)) (lv' := [(2, .int (nI (i + 1))), (0, .ref h), (1, .ref h2)]) hx hb dR_copyFrom_36 hl (k := 2) rfl (nI_1 _) (by decide) rfl (fun ls hl => ?_)
      refine lv_goto (tgt := 7) hx hb dR_copyFrom_39 (by decide) ?_
      exact ih (i + 1, vp_updL g i (f i)) _ _ _ (by show U - (i + 1) < U - i; omega) ⟨⟨c1, ax_lt hg rfl⟩, hP, hD, hS, lv_sub hl [1, 2, 0] rfl⟩
set_option maxHeartbeats 4000000 in
set_option maxRecDepth 100000 in
/-- anyWith(l) -/
theorem k_R_anyWith (l : Launch) (dC : Nat → ClassId) (dI : Nat → Nat → Nat) (tI sz : Nat) (h w : Nat) (cL : ClassId) (f : Nat → Int64) (U : Nat) (hU : U ≤ 1024) (L : Nat) (hL : L < 32) : Met l yR_anyWith (Cond.code yR_anyWith cR_anyWith 3 (some .boolean) :: GG) (lvr 1 0 0) (va_Pc [.ref h, .int (nI L)] (wPre dC dI [(cL, .long)] [(h, .inr (0, [.ref w, .int (nI U)])), (w, .inl (cL, 1024, .inr (.inl f)))] sz tI)) (va_Qi (fun (r : Int32) (u : Unit) => (r = 1 ∧ ∃ k, k < U ∧ f k &&& ls_rw L k ≠ 0) ∨ (r = 0 ∧ ∀ k, k < U → f k &&& ls_rw L k = 0)) (fun u t => wB dC dI [(cL, .long)] (va_A [(h, .inr (0, [.ref w, .int (nI U)])), (w, .inl (cL, 1024, .inr (.inl f)))] sz) [(h, .inr (0, [.ref w, .int (nI U)])), (w, .inl (cL, 1024, .inr (.inl f)))] t) (va_A [(h, .inr (0, [.ref w, .int (nI U)])), (w, .inl (cL, 1024, .inr (.inl f)))] sz)) 0 0 (va_A [(h, .inr (0, [.ref w, .int (nI U)])), (w, .inl (cL, 1024, .inr (.inl f)))] sz) := by
  refine Met.ofW (cc := cR_anyWith) (maxL := 3) (ret := (some .boolean)) (by decide) rfl ?_
  intro p e s m args below meth c s₁ B hml hv
  obtain ⟨rfl, hsz, hP, hK, hD0, hZ, hX⟩ := hv
  have hx := B.exec
  have hb := B.bytes
  have hr := B.returns
  have hts : ∀ w ∈ GG, w.before ([.ref h, .int (nI L)] : List Value).toArray s = true := fun w h => atoms_spec (ws := _ :: GG) B.pre w (List.mem_cons_of_mem _ h)
  have hown : s.vm.findClass RR = some m.cls := findClass_of_methodNamed B.named
  have hlocks := B.notSynchronized
  subst hsz
  have hD := hD0.self (sz := s.heap.size)
  generalize hAe : va_A [(h, .inr (0, [.ref w, .int (nI U)])), (w, .inl (cL, 1024, .inr (.inl f)))] s.heap.size = A at hD hZ ⊢
  have hA : ∀ q : Nat, s.heap.size ≤ q → A q := fun q h => by rw [← hAe]; exact Or.inr h
  have hS : va_S A s.heap s.heap [] := va_S.rf
  have hl := lv_entry ([.ref h, .int (nI L)]) (n := 3) (Nat.le_of_ble_eq_true rfl)
  rw [lg_entry_eq]
  generalize (lg_sl ([.ref h, .int (nI L)]) ++ List.replicate (3 - (lg_sl ([.ref h, .int (nI L)])).length) Slot.unset).toArray = ls at hl ⊢
  have hl : lv_has ls 3 [(0, .ref h), (1, .int (nI L))] := hl
  have SF : CallFix p m c cR_anyWith 3 s ([.ref h, .int (nI L)] : List Value).toArray GG RR := ⟨hx, hb, hml, hown, hts⟩
  skip
  have hP : va_P (dC, dI) vwCl [(h, .inr (0, [.ref w, .int (nI U)])), (w, .inl (cL, 1024, .inr (.inl f)))] s.heap := hP
  refine lv_iconst (v := 0) hx hb dR_anyWith_0 (by decide) ?_
  refine lv_istore_n (lv' := [(2, .int 0), (0, .ref h), (1, .int (nI L))]) hx hb dR_anyWith_1 rfl hl (by decide) rfl (fun ls hl => ?_)
  refine lp_mu (α := Nat) (fun a_ => match a_ with | i => U - i) (fun a_ H locs ls => match a_ with | i => (i ≤ U ∧ ∀ k, k < i → f k &&& ls_rw L k = 0) ∧ va_P (dC, dI) vwCl [(h, .inr (0, [.ref w, .int (nI U)])), (w, .inl (cL, 1024, .inr (.inl f)))] H ∧ va_D A [(h, .inr (0, [.ref w, .int (nI U)])), (w, .inl (cL, 1024, .inr (.inl f)))] ∧ va_S A s.heap H locs ∧ lv_has ls 3 [(0, .ref h), (1, .int (nI L)), (2, .int (nI i))]) ?_ (0) ⟨⟨Nat.zero_le _, fun k hk => absurd hk (Nat.not_lt_zero _)⟩, hP, hD, hS, lv_sub hl [1, 2, 0] rfl⟩
  intro a_ H locs ls hI ih
  obtain ⟨i, rfl⟩ : ∃ z, z = a_ := ⟨_, rfl⟩
  obtain ⟨hI, hP, hD, hS, hl⟩ := hI
  have hI : i ≤ U ∧ ∀ k, k < i → f k &&& ls_rw L k = 0 := hI
  have hP : va_P (dC, dI) vwCl [(h, .inr (0, [.ref w, .int (nI U)])), (w, .inl (cL, 1024, .inr (.inl f)))] H := hP
  have hD : va_D A [(h, .inr (0, [.ref w, .int (nI U)])), (w, .inl (cL, 1024, .inr (.inl f)))] := hD
  have hl : lv_has ls 3 [(0, .ref h), (1, .int (nI L)), (2, .int (nI i))] := hl
  obtain ⟨hi, hg⟩ := hI
  refine lv_iload_n hx hb dR_anyWith_2 rfl (lv_at hl 2 rfl) ?_
  refine lv_aload_n hx hb dR_anyWith_3 rfl (lv_at hl 0 rfl) ?_
  refine va_get (D := (dC, dI)) (ci := 0) (v := .int (nI U)) (C := RR) (T := TR) (N := 2) hx hb hts lyR hown hK hP 0 rfl rfl 1 (by decide) (hts _ fl_R_15) (fun _ h9 => h9) rfl dR_anyWith_4 ?_
  refine lv_icmp_ge (tgt := 35) hx hb dR_anyWith_7 (by decide) (fun c1 => ?_) (fun c1 => ?_)
  · have c1 : U ≤ i := (nI_leI (a := U) (b := i) (by omega) (by omega)).mp c1
    refine lv_iconst (v := 0) hx hb dR_anyWith_35 (by decide) ?_
    exact (W.zret (v := 0) hx hb hr (rfl) (fun t ht hW => ⟨⟨0, (), rfl, Or.inr ⟨rfl, fun k hk => hg k (by omega)⟩, by rw [ht]; exact hP, va_K.moved hW.alike hK, hD⟩, hS.F ht⟩) hS.2.2 dR_anyWith_36)
  · have c1 : i < U := Nat.lt_of_not_le (fun q => c1 ((nI_leI (a := U) (b := i) (by omega) (by omega)).mpr q))
    refine lv_aload_n hx hb dR_anyWith_10 rfl (lv_at hl 0 rfl) ?_
    refine va_get (D := (dC, dI)) (ci := 0) (v := .ref w) (C := RR) (T := TR) (N := 2) hx hb hts lyR hown hK hP 0 rfl rfl 0 (by decide) (hts _ fl_R_11) (fun _ h9 => h9) rfl dR_anyWith_11 ?_
    refine lv_iload_n hx hb dR_anyWith_14 rfl (lv_at hl 2 rfl) ?_
    refine va_lald hx hb hK hP 1 0 rfl rfl (vp_in_nI (by omega) (by decide)) dR_anyWith_15 ?_
    refine ls_topl (y := f i) (by rw [nI_clamp (by omega)]) ?_
    refine lv_iload_n hx hb dR_anyWith_16 rfl (lv_at hl 1 rfl) ?_
    refine lv_iload_n hx hb dR_anyWith_17 rfl (lv_at hl 2 rfl) ?_
    have hFc := va_free (wc := []) hD hS hA [] rfl
    refine wc_l (wc_S (As := [.int (nI L), .int (nI i)]) (rest := [.long (f i)]) (n := 2) SF (k_R_rowsWith l dC dI tI _ L i hL (by omega)) ml_R_32 st_R_rowsWith in_R co_R_rowsWith (by decide +kernel) rfl rfl rfl ⟨Nat.le_of_ble_eq_true rfl, Nat.le_of_ble_eq_true rfl⟩ (hP.sub [] rfl) (hD.sub [] (by decide) rfl) (hK.sub [] rfl) hZ hX hS hFc rfl hl.1 (Nat.le_of_ble_eq_true rfl) dR_anyWith_18 ⟨Nat.le_of_ble_eq_true rfl, Nat.le_of_ble_eq_true rfl⟩) hP hD hS hFc [] [0, 1] (wr := [(h, .inr (0, [.ref w, .int (nI U)])), (w, .inl (cL, 1024, .inr (.inl f)))]) rfl rfl rfl (by decide) (fun z uu H locs hw hP hD hS => ?_)
    have hP : va_P (dC, dI) vwCl [(h, .inr (0, [.ref w, .int (nI U)])), (w, .inl (cL, 1024, .inr (.inl f)))] H := hP.sub [0, 1] rfl
    have hD : va_D A [(h, .inr (0, [.ref w, .int (nI U)])), (w, .inl (cL, 1024, .inr (.inl f)))] := hD.sub [0, 1] (by decide) rfl
    have hw : z = ls_rw L i := hw
    subst hw
    refine lv_land hx hb dR_anyWith_21 ?_
    refine lv_lconst (v := 0) hx hb dR_anyWith_22 (by decide) ?_
    refine W.lcmp hx hb dR_anyWith_23 ?_
    refine lv_if_eq (tgt := 29) hx hb dR_anyWith_24 (by decide) (fun c2 => ?_) (fun c2 => ?_)
    · have c2 := (ls_cmp0 _).mp c2
      refine lv_iinc (v := nI (i + 1)) (lv' := [(2, .int (nI (i + 1))), (0, .ref h), (1, .int (nI L))]) hx hb dR_anyWith_29 hl (k := 2) rfl (nI_1 _) (by decide) rfl (fun ls hl => ?_)
      refine lv_goto (tgt := 2) hx hb dR_anyWith_32 (by decide) ?_
      exact ih (i + 1) _ _ _ (by show U - (i + 1) < U - i; omega) ⟨⟨c1, fun k hk => by rcases Nat.lt_or_ge k i with q | q; exact hg k q; rw [show k = i by omega]; exact c2⟩, hP, hD, hS, lv_sub hl [1, 2, 0] rfl⟩
    · refine lv_iconst (v := 1) hx hb dR_anyWith_27 (by decide) ?_
      exact (W.zret (v := 1) hx hb hr (rfl) (fun t ht hW => ⟨⟨1, (), rfl, Or.inl ⟨rfl, i, c1, fun q => c2 ((ls_cmp0 _).mpr q)⟩, by rw [ht]; exact hP, va_K.moved hW.alike hK, hD⟩, hS.F ht⟩) hS.2.2 dR_anyWith_28)
