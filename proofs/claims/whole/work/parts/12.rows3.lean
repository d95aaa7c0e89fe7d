set_option maxHeartbeats 4000000 in
set_option maxRecDepth 100000 in
/-- addVariable(v) -/
theorem k_R_addVariable (l : Launch) (dC : Nat → ClassId) (dI : Nat → Nat → Nat) (tI sz : Nat) (h w : Nat) (cL : ClassId) (f : Nat → Int64) (U : Nat) (hU : U ≤ 1024) (V : Nat) (hV : V < 16) (h2 : V < 6 ∨ 2 * U ≤ 1024) : Met l yR_addVariable (Cond.code yR_addVariable cR_addVariable 3 none :: GG) (lvr 0 0 0) (va_Pc [.ref h, .int (nI V)] (wPre dC dI [(cL, .long)] [(h, .inr (0, [.ref w, .int (nI U)])), (w, .inl (cL, 1024, .inr (.inl f)))] sz tI)) (va_Qv (fun (u : (Nat → Int64) × Nat) => (V < 6 ∧ u = (f, U)) ∨ (6 ≤ V ∧ u.2 = 2 * U ∧ ∀ k, k < U → u.1 k = f k ∧ u.1 (U + k) = f k)) (fun u t => wB dC dI [(cL, .long)] (va_A [(h, .inr (0, [.ref w, .int (nI U)])), (w, .inl (cL, 1024, .inr (.inl f)))] sz) [(h, .inr (0, [.ref w, .int (nI u.2)])), (w, .inl (cL, 1024, .inr (.inl u.1)))] t) (va_A [(h, .inr (0, [.ref w, .int (nI U)])), (w, .inl (cL, 1024, .inr (.inl f)))] sz)) 0 0 (va_A [(h, .inr (0, [.ref w, .int (nI U)])), (w, .inl (cL, 1024, .inr (.inl f)))] sz) := by
  refine Met.ofW (cc := cR_addVariable) (maxL := 3) (ret := none) (by decide) rfl ?_
  intro p e s m args below meth c s₁ B hml hv
  obtain ⟨rfl, hsz, hP, hK, hD0, hZ, hX⟩ := hv
  have hx := B.exec
  have hb := B.bytes
  have hr := B.returns
  have hts : ∀ w ∈ GG, w.before ([.ref h, .int (nI V)] : List Value).toArray s = true := fun w h => atoms_spec (ws := _ :: GG) B.pre w (List.mem_cons_of_mem _ h)
  have hown : s.vm.findClass RR = some m.cls := findClass_of_methodNamed B.named
  have hlocks := B.notSynchronized
  subst hsz
  have hD := hD0.self (sz := s.heap.size)
  generalize hAe : va_A [(h, .inr (0, [.ref w, .int (nI U)])), (w, .inl (cL, 1024, .inr (.inl f)))] s.heap.size = A at hD hZ ⊢
  have hA : ∀ q : Nat, s.heap.size ≤ q → A q := fun q h => by rw [← hAe]; exact Or.inr h
  have hS : va_S A s.heap s.heap [] := va_S.rf
  have hl := lv_entry ([.ref h, .int (nI V)]) (n := 3) (Nat.le_of_ble_eq_true rfl)
  rw [lg_entry_eq]
  generalize (lg_sl ([.ref h, .int (nI V)]) ++ List.replicate (3 - (lg_sl ([.ref h, .int (nI V)])).length) Slot.unset).toArray = ls at hl ⊢
  have hl : lv_has ls 3 [(0, .ref h), (1, .int (nI V))] := hl
  have SF : CallFix p m c cR_addVariable 3 s ([.ref h, .int (nI V)] : List Value).toArray GG RR := ⟨hx, hb, hml, hown, hts⟩
  skip
  have hP : va_P (dC, dI) vwCl [(h, .inr (0, [.ref w, .int (nI U)])), (w, .inl (cL, 1024, .inr (.inl f)))] s.heap := hP
  refine lv_iload_n hx hb dR_addVariable_0 rfl (lv_at hl 1 rfl) ?_
  refine lv_bipush (v := 6) hx hb dR_addVariable_1 (by decide) ?_
  refine lv_icmp_lt (tgt := 20) hx hb dR_addVariable_3 (by decide) (fun c1 => ?_) (fun c1 => ?_)
  · have c1 : V < 6 := (nI_ltI (a := V) (b := 6) (by omega) (by omega)).mp c1
    exact (W.vret hx hb hr (fun t ht hW => ⟨⟨(f, U), rfl, Or.inl ⟨c1, rfl⟩, by rw [ht]; exact hP, va_K.moved hW.alike hK, hD⟩, hS.F ht⟩) hS.2.2 dR_addVariable_20)
  · have c1 : 6 ≤ V := Nat.le_of_not_lt (fun q => c1 ((nI_ltI (a := V) (b := 6) (by omega) (by omega)).mpr q))
    refine lv_aload_n hx hb dR_addVariable_6 rfl (lv_at hl 0 rfl) ?_
    refine va_get (D := (dC, dI)) (ci := 0) (v := .int (nI U)) (C := RR) (T := TR) (N := 2) hx hb hts lyR hown hK hP 0 rfl rfl 1 (by decide) (hts _ fl_R_15) (fun _ h9 => h9) rfl dR_addVariable_7 ?_
    refine lv_aload_n hx hb dR_addVariable_10 rfl (lv_at hl 0 rfl) ?_
    refine va_get (D := (dC, dI)) (ci := 0) (v := .ref w) (C := RR) (T := TR) (N := 2) hx hb hts lyR hown hK hP 0 rfl rfl 0 (by decide) (hts _ fl_R_11) (fun _ h9 => h9) rfl dR_addVariable_11 ?_
    refine va_alen (v := 1024) hx hb hK hP 1 0 rfl rfl rfl dR_addVariable_14 ?_
    refine lv_iconst (v := 2) hx hb dR_addVariable_15 (by decide) ?_
    refine lv_idiv hx hb dR_addVariable_16 (by decide) ?_
    refine ls_topi (y := nI 512) (by decide) ?_
    refine lv_icmp_le (tgt := 21) hx hb dR_addVariable_17 (by decide) (fun c2 => ?_) (fun c2 => ?_)
    · have c2 : U ≤ 512 := (nI_leI (a := U) (b := 512) (by omega) (by omega)).mp c2
      refine lv_iconst (v := 0) hx hb dR_addVariable_21 (by decide) ?_
      refine lv_istore_n (lv' := [(2, .int 0), (0, .ref h), (1, .int (nI V))]) hx hb dR_addVariable_22 rfl hl (by decide) rfl (fun ls hl => ?_)
      refine lp_mu (α := Nat × (Nat → Int64)) (fun a_ => match a_ with | (i, g) => U - i) (fun a_ H locs ls => match a_ with | (i, g) => (i ≤ U ∧ (∀ k, k < U → g k = f k) ∧ ∀ k, k < i → g (U + k) = f k) ∧ va_P (dC, dI) vwCl [(h, .inr (0, [.ref w, .int (nI U)])), (w, .inl (cL, 1024, .inr (.inl g)))] H ∧ va_D A [(h, .inr (0, [.ref w, .int (nI U)])), (w, .inl (cL, 1024, .inr (.inl g)))] ∧ va_S A s.heap H locs ∧ lv_has ls 3 [(0, .ref h), (2, .int (nI i))]) ?_ (0, f) ⟨⟨Nat.zero_le _, fun _ _ => rfl, fun k hk => absurd hk (Nat.not_lt_zero _)⟩, hP, hD, hS, lv_sub hl [1, 0] rfl⟩
      intro a_ H locs ls hI ih
      obtain ⟨i, g⟩ := a_
      obtain ⟨hI, hP, hD, hS, hl⟩ := hI
      have hI : i ≤ U ∧ (∀ k, k < U → g k = f k) ∧ ∀ k, k < i → g (U + k) = f k := hI
      have hP : va_P (dC, dI) vwCl [(h, .inr (0, [.ref w, .int (nI U)])), (w, .inl (cL, 1024, .inr (.inl g)))] H := hP
      have hD : va_D A [(h, .inr (0, [.ref w, .int (nI U)])), (w, .inl (cL, 1024, .inr (.inl g)))] := hD
      have hl : lv_has ls 3 [(0, .ref h), (2, .int (nI i))] := hl
      obtain ⟨hi, hlo, hhi⟩ := hI
      refine lv_iload_n hx hb dR_addVariable_23 rfl (lv_at hl 1 rfl) ?_
      refine lv_aload_n hx hb dR_addVariable_24 rfl (lv_at hl 0 rfl) ?_
      refine va_get (D := (dC, dI)) (ci := 0) (v := .int (nI U)) (C := RR) (T := TR) (N := 2) hx hb hts lyR hown hK hP 0 rfl rfl 1 (by decide) (hts _ fl_R_15) (fun _ h9 => h9) rfl dR_addVariable_25 ?_
      refine lv_icmp_ge (tgt := 54) hx hb dR_addVariable_28 (by decide) (fun c3 => ?_) (fun c3 => ?_)
      · have c3 : U ≤ i := (nI_leI (a := U) (b := i) (by omega) (by omega)).mp c3
        refine lv_aload_n hx hb dR_addVariable_54 rfl (lv_at hl 0 rfl) ?_
        refine lv_iconst (v := 2) hx hb dR_addVariable_55 (by decide) ?_
        refine lv_aload_n hx hb dR_addVariable_56 rfl (lv_at hl 0 rfl) ?_
        refine va_get (D := (dC, dI)) (ci := 0) (v := .int (nI U)) (C := RR) (T := TR) (N := 2) hx hb hts lyR hown hK hP 0 rfl rfl 1 (by decide) (hts _ fl_R_15) (fun _ h9 => h9) rfl dR_addVariable_57 ?_
        refine lv_imul hx hb dR_addVariable_60 ?_
        refine ls_topi (y := nI (2 * U)) (pk_mul 2 U) ?_
        refine va_put (D := (dC, dI)) (ci := 0) (v := .int (nI (2 * U))) (ty := .int) (C := RR) (T := TR) (N := 2) hx hb hts lyR tyR tyR_ok nmR hown hK hP hD hS 0 rfl rfl 1 (by decide) (hts _ fl_R_15) (fun _ h9 => h9) rfl (by decide +kernel) rfl rfl (Nat.le_of_ble_eq_true rfl) dR_addVariable_61 (fun H locs hP hD hS => ?_)
        have hP : va_P (dC, dI) vwCl [(h, .inr (0, [.ref w, .int (nI (2 * U))])), (w, .inl (cL, 1024, .inr (.inl g)))] H := hP
        have hD : va_D A [(h, .inr (0, [.ref w, .int (nI (2 * U))])), (w, .inl (cL, 1024, .inr (.inl g)))] := hD
        exact (W.vret hx hb hr (fun t ht hW => ⟨⟨(g, 2 * U), rfl, Or.inr ⟨c1, rfl, fun k hk => ⟨hlo k hk, hhi k (by omega)⟩⟩, by rw [ht]; exact hP, va_K.moved hW.alike hK, hD⟩, hS.F ht⟩) hS.2.2 dR_addVariable_64)
      · have c3 : i < U := Nat.lt_of_not_le (fun q => c3 ((nI_leI (a := U) (b := i) (by omega) (by omega)).mpr q))
        refine lv_aload_n hx hb dR_addVariable_31 rfl (lv_at hl 0 rfl) ?_
        refine va_get (D := (dC, dI)) (ci := 0) (v := .ref w) (C := RR) (T := TR) (N := 2) hx hb hts lyR hown hK hP 0 rfl rfl 0 (by decide) (hts _ fl_R_11) (fun _ h9 => h9) rfl dR_addVariable_32 ?_
        refine lv_aload_n hx hb dR_addVariable_35 rfl (lv_at hl 0 rfl) ?_
        refine va_get (D := (dC, dI)) (ci := 0) (v := .int (nI U)) (C := RR) (T := TR) (N := 2) hx hb hts lyR hown hK hP 0 rfl rfl 1 (by decide) (hts _ fl_R_15) (fun _ h9 => h9) rfl dR_addVariable_36 ?_
        refine lv_iload_n hx hb dR_addVariable_39 rfl (lv_at hl 1 rfl) ?_
        refine lv_iadd hx hb dR_addVariable_40 ?_
        refine ls_topi (y := nI (U + i)) (nI_add _ _) ?_
        refine lv_aload_n hx hb dR_addVariable_41 rfl (lv_at hl 0 rfl) ?_
        refine va_get (D := (dC, dI)) (ci := 0) (v := .ref w) (C := RR) (T := TR) (N := 2) hx hb hts lyR hown hK hP 0 rfl rfl 0 (by decide) (hts _ fl_R_11) (fun _ h9 => h9) rfl dR_addVariable_42 ?_
        refine lv_iload_n hx hb dR_addVariable_45 rfl (lv_at hl 1 rfl) ?_
        refine va_lald hx hb hK hP 1 0 rfl rfl (vp_in_nI (by omega) (by decide)) dR_addVariable_46 ?_
        refine ls_topl (y := f i) (by rw [nI_clamp (by omega)]; exact hlo i c3) ?_
        refine va_last hx hb hK hP hD hS 1 0 rfl rfl (vp_in_nI (by omega) (by decide)) dR_addVariable_47 (fun H locs hP hD hS => ?_)
        rw [show vp_updL g (nI (U + i)).toNatClampNeg (f i) = vp_updL g (U + i) (f i) from by rw [nI_clamp (by omega)]] at hP hD
        have hP : va_P (dC, dI) vwCl [(h, .inr (0, [.ref w, .int (nI U)])), (w, .inl (cL, 1024, .inr (.inl (vp_updL g (U + i) (f i)))))] H := hP
        have hD : va_D A [(h, .inr (0, [.ref w, .int (nI U)])), (w, .inl (cL, 1024, .inr (.inl (vp_updL g (U + i) (f i)))))] := hD
        refine lv_iinc (v := nI (i + 1)) (lv' := [(2, .int (nI (i + 1))), (0, .ref h)]) hx hb dR_addVariable_48 hl (k := 1) rfl (nI_1 _) (by decide) rfl (fun ls hl => ?_)
        refine lv_goto (tgt := 23) hx hb dR_addVariable_51 (by decide) ?_
        exact ih (i + 1, vp_updL g (U + i) (f i)) _ _ _ (by show U - (i + 1) < U - i; omega) ⟨⟨c3, fun k hk => by unfold vp_updL; rw [if_neg (by omega)]; exact hlo k hk, fun k hk => by
            unfold vp_updL
            by_cases q : k = i
            · rw [if_pos (by omega), q]
            · rw [if_neg (by omega)]; exact hhi k (by omega)⟩, hP, hD, hS, lv_sub hl [1, 0] rfl⟩
    · have c2 : 512 < U := Nat.lt_of_not_le (fun q => c2 ((nI_leI (a := U) (b := 512) (by omega) (by omega)).mpr q))
      exact absurd c2 (by omega)
set_option maxHeartbeats 4000000 in
set_option maxRecDepth 100000 in
/-- dropInner(distance, zeros) -/
theorem k_R_dropInner (l : Launch) (dC : Nat → ClassId) (dI : Nat → Nat → Nat) (tI sz : Nat) (h w : Nat) (cL : ClassId) (f : Nat → Int64) (U : Nat) (hU : U ≤ 1024) (K : Nat) (zs : Int64) : Met l yR_dropInner (Cond.code yR_dropInner cR_dropInner 6 none :: GG) (lvr 2 0 0) (va_Pc [.ref h, .int (nI K), .long zs] (wPre dC dI [(cL, .long)] [(h, .inr (0, [.ref w, .int (nI U)])), (w, .inl (cL, 1024, .inr (.inl f)))] sz tI)) (va_Qv (fun (u : Nat → Int64) => ∀ k, k < U → u k = (f k ||| ls_ush (f k) K) &&& zs) (fun u t => wB dC dI [(cL, .long)] (va_A [(h, .inr (0, [.ref w, .int (nI U)])), (w, .inl (cL, 1024, .inr (.inl f)))] sz) [(h, .inr (0, [.ref w, .int (nI U)])), (w, .inl (cL, 1024, .inr (.inl u)))] t) (va_A [(h, .inr (0, [.ref w, .int (nI U)])), (w, .inl (cL, 1024, .inr (.inl f)))] sz)) 0 0 (va_A [(h, .inr (0, [.ref w, .int (nI U)])), (w, .inl (cL, 1024, .inr (.inl f)))] sz) := by
  refine Met.ofW (cc := cR_dropInner) (maxL := 6) (ret := none) (by decide) rfl ?_
  intro p e s m args below meth c s₁ B hml hv
  obtain ⟨rfl, hsz, hP, hK, hD0, hZ, hX⟩ := hv
  have hx := B.exec
  have hb := B.bytes
  have hr := B.returns
  have hts : ∀ w ∈ GG, w.before ([.ref h, .int (nI K), .long zs] : List Value).toArray s = true := fun w h => atoms_spec (ws := _ :: GG) B.pre w (List.mem_cons_of_mem _ h)
  have hown : s.vm.findClass RR = some m.cls := findClass_of_methodNamed B.named
  have hlocks := B.notSynchronized
  subst hsz
  have hD := hD0.self (sz := s.heap.size)
  generalize hAe : va_A [(h, .inr (0, [.ref w, .int (nI U)])), (w, .inl (cL, 1024, .inr (.inl f)))] s.heap.size = A at hD hZ ⊢
  have hA : ∀ q : Nat, s.heap.size ≤ q → A q := fun q h => by rw [← hAe]; exact Or.inr h
  have hS : va_S A s.heap s.heap [] := va_S.rf
  have hl := lv_entry ([.ref h, .int (nI K), .long zs]) (n := 6) (Nat.le_of_ble_eq_true rfl)
  rw [lg_entry_eq]
  generalize (lg_sl ([.ref h, .int (nI K), .long zs]) ++ List.replicate (6 - (lg_sl ([.ref h, .int (nI K), .long zs])).length) Slot.unset).toArray = ls at hl ⊢
  have hl : lv_has ls 6 [(0, .ref h), (1, .int (nI K)), (2, .long zs)] := hl
  have SF : CallFix p m c cR_dropInner 6 s ([.ref h, .int (nI K), .long zs] : List Value).toArray GG RR := ⟨hx, hb, hml, hown, hts⟩
  skip
  have hP : va_P (dC, dI) vwCl [(h, .inr (0, [.ref w, .int (nI U)])), (w, .inl (cL, 1024, .inr (.inl f)))] s.heap := hP
  refine lv_aload_n hx hb dR_dropInner_0 rfl (lv_at hl 0 rfl) ?_
  have hFc := va_free (wc := [(h, .inr (0, [.ref w, .int (nI U)])), (w, .inl (cL, 1024, .inr (.inl f)))]) hD hS hA [0, 1] rfl
  refine wc_i (wc_V (As := []) (rest := []) (n := 0) SF (k_R_end l dC dI tI _ h w cL f U hU) ml_R_21 im_R_end se_R_end in_R co_R_end (by decide +kernel) rfl rfl rfl ⟨Nat.le_of_ble_eq_true rfl, Nat.le_of_ble_eq_true rfl⟩ (va_recv (hK.sub (tys' := []) [] rfl) (hP.sub (ws' := [(h, .inr (0, [.ref w, .int (nI U)])), (w, .inl (cL, 1024, .inr (.inl f)))]) [0, 1] rfl) (ci := 0) (q0 := 0) rfl rfl) (hP.sub [0, 1] rfl) (hD.sub [0, 1] (by decide) rfl) (hK.sub [0] rfl) hZ hX hS hFc rfl hl.1 (Nat.le_of_ble_eq_true rfl) dR_dropInner_1 ⟨Nat.le_of_ble_eq_true rfl, Nat.le_of_ble_eq_true rfl⟩) hP hD hS hFc [0, 1] [] (wr := []) rfl rfl rfl (by decide) (fun z uu H locs hw hP hD hS => ?_)
  have hP : va_P (dC, dI) vwCl [(h, .inr (0, [.ref w, .int (nI U)])), (w, .inl (cL, 1024, .inr (.inl f)))] H := hP.sub [0, 1] rfl
  have hD : va_D A [(h, .inr (0, [.ref w, .int (nI U)])), (w, .inl (cL, 1024, .inr (.inl f)))] := hD.sub [0, 1] (by decide) rfl
  have hw : z = nI U := hw
  subst hw
  refine lv_istore (lv' := [(4, .int (nI U)), (0, .ref h), (1, .int (nI K)), (2, .long zs)]) hx hb dR_dropInner_4 hl (by decide) rfl (fun ls hl => ?_)
  refine lv_iconst (v := 0) hx hb dR_dropInner_6 (by decide) ?_
  refine lv_istore (lv' := [(5, .int 0), (4, .int (nI U)), (0, .ref h), (1, .int (nI K)), (2, .long zs)]) hx hb dR_dropInner_7 hl (by decide) rfl (fun ls hl => ?_)
  refine lp_mu (α := Nat × (Nat → Int64)) (fun a_ => match a_ with | (i, g) => U - i) (fun a_ H locs ls => match a_ with | (i, g) => (i ≤ U ∧ (∀ k, k < i → g k = (f k ||| ls_ush (f k) K) &&& zs) ∧ ∀ k, i ≤ k → g k = f k) ∧ va_P (dC, dI) vwCl [(h, .inr (0, [.ref w, .int (nI U)])), (w, .inl (cL, 1024, .inr (.inl g)))] H ∧ va_D A [(h, .inr (0, [.ref w, .int (nI U)])), (w, .inl (cL, 1024, .inr (.inl g)))] ∧ va_S A s.heap H locs ∧ lv_has ls 6 [(0, .ref h), (1, .int (nI K)), (2, .long zs), (4, .int (nI U)), (5, .int (nI i))]) ?_ (0, f) ⟨⟨Nat.zero_le _, fun k hk => absurd hk (Nat.not_lt_zero _), fun _ _ => rfl⟩, hP, hD, hS, lv_sub hl [2, 3, 4, 1, 0] rfl⟩
  intro a_ H locs ls hI ih
  obtain ⟨i, g⟩ := a_
  obtain ⟨hI, hP, hD, hS, hl⟩ := hI
  have hI : i ≤ U ∧ (∀ k, k < i → g k = (f k ||| ls_ush (f k) K) &&& zs) ∧ ∀ k, i ≤ k → g k = f k := hI
  have hP : va_P (dC, dI) vwCl [(h, .inr (0, [.ref w, .int (nI U)])), (w, .inl (cL, 1024, .inr (.inl g)))] H := hP
  have hD : va_D A [(h, .inr (0, [.ref w, .int (nI U)])), (w, .inl (cL, 1024, .inr (.inl g)))] := hD
  have hl : lv_has ls 6 [(0, .ref h), (1, .int (nI K)), (2, .long zs), (4, .int (nI U)), (5, .int (nI i))] := hl
  obtain ⟨hi, hg, hge⟩ := hI
  refine lv_iload hx hb dR_dropInner_9 (lv_at hl 4 rfl) ?_
  refine lv_iload hx hb dR_dropInner_11 (lv_at hl 3 rfl) ?_
  refine lv_icmp_ge (tgt := 48) hx hb dR_dropInner_13 (by decide) (fun c1 => ?_) (fun c1 => ?_)
  · have c1 : U ≤ i := (nI_leI (a := U) (b := i) (by omega) (by omega)).mp c1
    exact (W.vret hx hb hr (fun t ht hW => ⟨⟨g, rfl, fun k hk => hg k (by omega), by rw [ht]; exact hP, va_K.moved hW.alike hK, hD⟩, hS.F ht⟩) hS.2.2 dR_dropInner_48)
  · have c1 : i < U := Nat.lt_of_not_le (fun q => c1 ((nI_leI (a := U) (b := i) (by omega) (by omega)).mpr q))
    refine lv_aload_n hx hb dR_dropInner_16 rfl (lv_at hl 0 rfl) ?_
    refine va_get (D := (dC, dI)) (ci := 0) (v := .ref w) (C := RR) (T := TR) (N := 2) hx hb hts lyR hown hK hP 0 rfl rfl 0 (by decide) (hts _ fl_R_11) (fun _ h9 => h9) rfl dR_dropInner_17 ?_
    refine lv_iload hx hb dR_dropInner_20 (lv_at hl 4 rfl) ?_
    refine lv_aload_n hx hb dR_dropInner_22 rfl (lv_at hl 0 rfl) ?_
    refine va_get (D := (dC, dI)) (ci := 0) (v := .ref w) (C := RR) (T := TR) (N := 2) hx hb hts lyR hown hK hP 0 rfl rfl 0 (by decide) (hts _ fl_R_11) (fun _ h9 => h9) rfl dR_dropInner_23 ?_
    refine lv_iload hx hb dR_dropInner_26 (lv_at hl 4 rfl) ?_
    refine va_lald hx hb hK hP 1 0 rfl rfl (vp_in_nI (by omega) (by decide)) dR_dropInner_28 ?_
    refine ls_topl (y := f i) (by rw [nI_clamp (by omega)]; exact hge i (Nat.le_refl i)) ?_
    refine lv_aload_n hx hb dR_dropInner_29 rfl (lv_at hl 0 rfl) ?_
    refine va_get (D := (dC, dI)) (ci := 0) (v := .ref w) (C := RR) (T := TR) (N := 2) hx hb hts lyR hown hK hP 0 rfl rfl 0 (by decide) (hts _ fl_R_11) (fun _ h9 => h9) rfl dR_dropInner_30 ?_
    refine lv_iload hx hb dR_dropInner_33 (lv_at hl 4 rfl) ?_
    refine va_lald hx hb hK hP 1 0 rfl rfl (vp_in_nI (by omega) (by decide)) dR_dropInner_35 ?_
    refine ls_topl (y := f i) (by rw [nI_clamp (by omega)]; exact hge i (Nat.le_refl i)) ?_
    refine lv_iload_n hx hb dR_dropInner_36 rfl (lv_at hl 1 rfl) ?_
    refine lv_lushr hx hb dR_dropInner_37 rfl ?_
    refine ls_topl (y := ls_ush (f i) K) (rfl) ?_
    refine lv_lor hx hb dR_dropInner_38 ?_
    refine lv_lload_n hx hb dR_dropInner_39 rfl (lv_at hl 2 rfl) ?_
    refine lv_land hx hb dR_dropInner_40 ?_
    refine va_last hx hb hK hP hD hS 1 0 rfl rfl (vp_in_nI (by omega) (by decide)) dR_dropInner_41 (fun H locs hP hD hS => ?_)
    rw [show vp_updL g (nI i).toNatClampNeg (((f i) ||| (ls_ush (f i) K)) &&& zs) = vp_updL g i ((f i ||| ls_ush (f i) K) &&& zs) from by rw [nI_clamp (by omega)]] at hP hD
    have hP : va_P (dC, dI) vwCl [(h, .inr (0, [.ref w, .int (nI U)])), (w, .inl (cL, 1024, .inr (.inl (vp_updL g i ((f i ||| ls_ush (f i) K) &&& zs)))))] H := hP
    have hD : va_D A [(h, .inr (0, [.ref w, .int (nI U)])), (w, .inl (cL, 1024, .inr (.inl (vp_updL g i ((f i ||| ls_ush (f i) K) &&& zs)))))] := hD
    refine lv_iinc (v := nI (i + 1)) (lv' := [(5, .int (nI (i + 1))), (0, .ref h), (1, .int (nI K)), (2, .long zs), (4, .int (nI U))]) hx hb dR_dropInner_42 hl (k := 4) rfl (nI_1 _) (by decide) rfl (fun ls hl => ?_)
    refine lv_goto (tgt := 9) hx hb dR_dropInner_45 (by decide) ?_
    exact ih (i + 1, vp_updL g i ((f i ||| ls_ush (f i) K) &&& zs)) _ _ _ (by show U - (i + 1) < U - i; omega) ⟨⟨c1, ax_lt (f := fun k => (f k ||| ls_ush (f k) K) &&& zs) hg rfl, ax_ge hge⟩, hP, hD, hS, lv_sub hl [1, 2, 3, 4, 0] rfl⟩
set_option maxHeartbeats 4000000 in
set_option maxRecDepth 100000 in
/-- dropOuter(distance) -/
theorem k_R_dropOuter (l : Launch) (dC : Nat → ClassId) (dI : Nat → Nat → Nat) (tI sz : Nat) (h w : Nat) (cL : ClassId) (f : Nat → Int64) (U : Nat) (hU : U ≤ 1024) (ex n : Nat) (hn : U = 2 ^ n) (hn1 : n ≤ 10) (he : ex < 10) : Met l yR_dropOuter (Cond.code yR_dropOuter cR_dropOuter 5 none :: GG) (lvr 2 0 0) (va_Pc [.ref h, .int (nI (2 ^ ex))] (wPre dC dI [(cL, .long)] [(h, .inr (0, [.ref w, .int (nI U)])), (w, .inl (cL, 1024, .inr (.inl f)))] sz tI)) (va_Qv (fun (u : (Nat → Int64) × Nat) => (U ≤ 2 ^ ex ∧ u = (f, U)) ∨ (2 ^ ex < U ∧ u.2 = U / 2 ∧ ∀ k, k < U / 2 → u.1 k = f (dp_in ex k) ||| f (dp_in ex k + 2 ^ ex))) (fun u t => wB dC dI [(cL, .long)] (va_A [(h, .inr (0, [.ref w, .int (nI U)])), (w, .inl (cL, 1024, .inr (.inl f)))] sz) [(h, .inr (0, [.ref w, .int (nI u.2)])), (w, .inl (cL, 1024, .inr (.inl u.1)))] t) (va_A [(h, .inr (0, [.ref w, .int (nI U)])), (w, .inl (cL, 1024, .inr (.inl f)))] sz)) 0 0 (va_A [(h, .inr (0, [.ref w, .int (nI U)])), (w, .inl (cL, 1024, .inr (.inl f)))] sz) := by
  refine Met.ofW (cc := cR_dropOuter) (maxL := 5) (ret := none) (by decide) rfl ?_
  intro p e s m args below meth c s₁ B hml hv
  obtain ⟨rfl, hsz, hP, hK, hD0, hZ, hX⟩ := hv
  have hx := B.exec
  have hb := B.bytes
  have hr := B.returns
  have hts : ∀ w ∈ GG, w.before ([.ref h, .int (nI (2 ^ ex))] : List Value).toArray s = true := fun w h => atoms_spec (ws := _ :: GG) B.pre w (List.mem_cons_of_mem _ h)
  have hown : s.vm.findClass RR = some m.cls := findClass_of_methodNamed B.named
  have hlocks := B.notSynchronized
  subst hsz
  have hD := hD0.self (sz := s.heap.size)
  generalize hAe : va_A [(h, .inr (0, [.ref w, .int (nI U)])), (w, .inl (cL, 1024, .inr (.inl f)))] s.heap.size = A at hD hZ ⊢
  have hA : ∀ q : Nat, s.heap.size ≤ q → A q := fun q h => by rw [← hAe]; exact Or.inr h
  have hS : va_S A s.heap s.heap [] := va_S.rf
  have hl := lv_entry ([.ref h, .int (nI (2 ^ ex))]) (n := 5) (Nat.le_of_ble_eq_true rfl)
  rw [lg_entry_eq]
  generalize (lg_sl ([.ref h, .int (nI (2 ^ ex))]) ++ List.replicate (5 - (lg_sl ([.ref h, .int (nI (2 ^ ex))])).length) Slot.unset).toArray = ls at hl ⊢
  have hl : lv_has ls 5 [(0, .ref h), (1, .int (nI (2 ^ ex)))] := hl
  have SF : CallFix p m c cR_dropOuter 5 s ([.ref h, .int (nI (2 ^ ex))] : List Value).toArray GG RR := ⟨hx, hb, hml, hown, hts⟩
  skip
  have hP : va_P (dC, dI) vwCl [(h, .inr (0, [.ref w, .int (nI U)])), (w, .inl (cL, 1024, .inr (.inl f)))] s.heap := hP
  have hp : 2 ^ ex ≤ 512 := Nat.le_trans (Nat.pow_le_pow_right (by decide) (show ex ≤ 9 by omega)) (by decide)
  have hpp : 0 < 2 ^ ex := Nat.pow_pos (by decide)
  refine lv_aload_n hx hb dR_dropOuter_0 rfl (lv_at hl 0 rfl) ?_
  have hFc := va_free (wc := [(h, .inr (0, [.ref w, .int (nI U)])), (w, .inl (cL, 1024, .inr (.inl f)))]) hD hS hA [0, 1] rfl
  refine wc_i (wc_V (As := []) (rest := []) (n := 0) SF (k_R_end l dC dI tI _ h w cL f U hU) ml_R_21 im_R_end se_R_end in_R co_R_end (by decide +kernel) rfl rfl rfl ⟨Nat.le_of_ble_eq_true rfl, Nat.le_of_ble_eq_true rfl⟩ (va_recv (hK.sub (tys' := []) [] rfl) (hP.sub (ws' := [(h, .inr (0, [.ref w, .int (nI U)])), (w, .inl (cL, 1024, .inr (.inl f)))]) [0, 1] rfl) (ci := 0) (q0 := 0) rfl rfl) (hP.sub [0, 1] rfl) (hD.sub [0, 1] (by decide) rfl) (hK.sub [0] rfl) hZ hX hS hFc rfl hl.1 (Nat.le_of_ble_eq_true rfl) dR_dropOuter_1 ⟨Nat.le_of_ble_eq_true rfl, Nat.le_of_ble_eq_true rfl⟩) hP hD hS hFc [0, 1] [] (wr := []) rfl rfl rfl (by decide) (fun z uu H locs hw hP hD hS => ?_)
  have hP : va_P (dC, dI) vwCl [(h, .inr (0, [.ref w, .int (nI U)])), (w, .inl (cL, 1024, .inr (.inl f)))] H := hP.sub [0, 1] rfl
  have hD : va_D A [(h, .inr (0, [.ref w, .int (nI U)])), (w, .inl (cL, 1024, .inr (.inl f)))] := hD.sub [0, 1] (by decide) rfl
  have hw : z = nI U := hw
  subst hw
  refine lv_istore_n (lv' := [(2, .int (nI U)), (0, .ref h), (1, .int (nI (2 ^ ex)))]) hx hb dR_dropOuter_4 rfl hl (by decide) rfl (fun ls hl => ?_)
  refine lv_iload_n hx hb dR_dropOuter_5 rfl (lv_at hl 2 rfl) ?_
  refine lv_iload_n hx hb dR_dropOuter_6 rfl (lv_at hl 0 rfl) ?_
  refine lv_icmp_lt (tgt := 11) hx hb dR_dropOuter_7 (by decide) (fun c1 => ?_) (fun c1 => ?_)
  · have c1 : (2 ^ ex) < U := (nI_ltI (a := (2 ^ ex)) (b := U) (by omega) (by omega)).mp c1
    refine lv_iconst (v := 0) hx hb dR_dropOuter_11 (by decide) ?_
    refine lv_istore_n (lv' := [(3, .int 0), (2, .int (nI U)), (0, .ref h), (1, .int (nI (2 ^ ex)))]) hx hb dR_dropOuter_12 rfl hl (by decide) rfl (fun ls hl => ?_)
    refine lv_iconst (v := 0) hx hb dR_dropOuter_13 (by decide) ?_
    refine lv_istore (lv' := [(4, .int 0), (3, .int 0), (2, .int (nI U)), (0, .ref h), (1, .int (nI (2 ^ ex)))]) hx hb dR_dropOuter_14 hl (by decide) rfl (fun ls hl => ?_)
    have hd0 : dp_kp ex 0 = 0 := dp_0 ex
    have hl : lv_has ls 5 [(4, .int 0), (3, .int (nI (dp_kp ex 0))), (2, .int (nI U)), (0, .ref h), (1, .int (nI (2 ^ ex)))] := by rw [hd0]; exact hl
    refine lp_mu (α := Nat × (Nat → Int64)) (fun a_ => match a_ with | (i, g) => U - i) (fun a_ H locs ls => match a_ with | (i, g) => (dp_I f U ex i g) ∧ va_P (dC, dI) vwCl [(h, .inr (0, [.ref w, .int (nI U)])), (w, .inl (cL, 1024, .inr (.inl g)))] H ∧ va_D A [(h, .inr (0, [.ref w, .int (nI U)])), (w, .inl (cL, 1024, .inr (.inl g)))] ∧ va_S A s.heap H locs ∧ lv_has ls 5 [(0, .ref h), (1, .int (nI (2 ^ ex))), (2, .int (nI U)), (3, .int (nI (dp_kp ex i))), (4, .int (nI i))]) ?_ (0, f) ⟨dp_I0 c1, hP, hD, hS, lv_sub hl [3, 4, 2, 1, 0] rfl⟩
    intro a_ H locs ls hI ih
    obtain ⟨i, g⟩ := a_
    obtain ⟨hI, hP, hD, hS, hl⟩ := hI
    have hI : dp_I f U ex i g := hI
    have hP : va_P (dC, dI) vwCl [(h, .inr (0, [.ref w, .int (nI U)])), (w, .inl (cL, 1024, .inr (.inl g)))] H := hP
    have hD : va_D A [(h, .inr (0, [.ref w, .int (nI U)])), (w, .inl (cL, 1024, .inr (.inl g)))] := hD
    have hl : lv_has ls 5 [(0, .ref h), (1, .int (nI (2 ^ ex))), (2, .int (nI U)), (3, .int (nI (dp_kp ex i))), (4, .int (nI i))] := hl
    have hkl := dp_le (e := ex) (i := i) (by omega)
    have hle := hI.1
    refine lv_iload hx hb dR_dropOuter_16 (lv_at hl 4 rfl) ?_
    refine lv_iload_n hx hb dR_dropOuter_18 rfl (lv_at hl 2 rfl) ?_
    refine lv_iload_n hx hb dR_dropOuter_19 rfl (lv_at hl 1 rfl) ?_
    refine lv_isub hx hb dR_dropOuter_20 ?_
    refine ls_topi (y := nI (U - 2 ^ ex)) (pk_sub (by omega)) ?_
    refine lv_icmp_ge (tgt := 63) hx hb dR_dropOuter_21 (by decide) (fun c2 => ?_) (fun c2 => ?_)
    · have c2 : (U - 2 ^ ex) ≤ i := (nI_leI (a := (U - 2 ^ ex)) (b := i) (by omega) (by omega)).mp c2
      have c2 : U ≤ i + 2 ^ ex := by omega
      obtain ⟨ek, hen⟩ := dp_end (e := ex) (n := n) (i := i) (by omega) (by rw [← hn]; exact c1) (by rw [← hn]; exact c2) (by rw [← hn]; exact hle)
      refine lv_aload_n hx hb dR_dropOuter_63 rfl (lv_at hl 0 rfl) ?_
      refine lv_iload_n hx hb dR_dropOuter_64 rfl (lv_at hl 3 rfl) ?_
      refine va_put (D := (dC, dI)) (ci := 0) (v := .int (nI (dp_kp ex i))) (ty := .int) (C := RR) (T := TR) (N := 2) hx hb hts lyR tyR tyR_ok nmR hown hK hP hD hS 0 rfl rfl 1 (by decide) (hts _ fl_R_15) (fun _ h9 => h9) rfl (by decide +kernel) rfl rfl (Nat.le_of_ble_eq_true rfl) dR_dropOuter_65 (fun H locs hP hD hS => ?_)
      have hP : va_P (dC, dI) vwCl [(h, .inr (0, [.ref w, .int (nI (dp_kp ex i))])), (w, .inl (cL, 1024, .inr (.inl g)))] H := hP
      have hD : va_D A [(h, .inr (0, [.ref w, .int (nI (dp_kp ex i))])), (w, .inl (cL, 1024, .inr (.inl g)))] := hD
      exact (W.vret hx hb hr (fun t ht hW => ⟨⟨(g, dp_kp ex i), rfl, Or.inr ⟨c1, by show dp_kp ex i = _; rw [ek, hn], fun k hk => hI.2.1 k (by rw [ek, ← hn]; exact hk)⟩, by rw [ht]; exact hP, va_K.moved hW.alike hK, hD⟩, hS.F ht⟩) hS.2.2 dR_dropOuter_68)
    · have c2 : i < (U - 2 ^ ex) := Nat.lt_of_not_le (fun q => c2 ((nI_leI (a := (U - 2 ^ ex)) (b := i) (by omega) (by omega)).mpr q))
      have c2 : i + 2 ^ ex < U := by omega
      refine lv_iload hx hb dR_dropOuter_24 (lv_at hl 4 rfl) ?_
      refine lv_iload_n hx hb dR_dropOuter_26 rfl (lv_at hl 1 rfl) ?_
      refine lv_iand hx hb dR_dropOuter_27 ?_
      refine ls_topi (y := nI (i / 2 ^ ex % 2 * 2 ^ ex)) (by rw [nx_and, dp_and]) ?_
      have hm : i / 2 ^ ex % 2 = 0 ∨ i / 2 ^ ex % 2 = 1 := by omega
      refine lv_if_ne (tgt := 57) hx hb dR_dropOuter_28 (by decide) (fun c3 => ?_) (fun c3 => ?_)
      · have hz : i / 2 ^ ex % 2 = 1 := by
          rcases hm with q | q
          · rw [q, Nat.zero_mul] at c3; exact absurd rfl c3
          · exact q
        refine lv_iinc (v := nI (i + 1)) (lv' := [(4, .int (nI (i + 1))), (0, .ref h), (1, .int (nI (2 ^ ex))), (2, .int (nI U)), (3, .int (nI (dp_kp ex i)))]) hx hb dR_dropOuter_57 hl (k := 4) rfl (nI_1 _) (by decide) rfl (fun ls hl => ?_)
        refine lv_goto (tgt := 16) hx hb dR_dropOuter_60 (by decide) ?_
        rw [← dp_o (by omega) hz] at hl
        exact ih (i + 1, g) _ _ _ (by show U - (i + 1) < U - i; omega) ⟨dp_Io (by omega) hI c2 hz, hP, hD, hS, lv_sub hl [1, 2, 3, 4, 0] rfl⟩
      · have hz : i / 2 ^ ex % 2 = 0 := by
          rcases hm with q | q
          · exact q
          · rw [q, Nat.one_mul] at c3; exact absurd c3 (nI_ne0 hpp (by omega))
        refine lv_aload_n hx hb dR_dropOuter_31 rfl (lv_at hl 0 rfl) ?_
        refine va_get (D := (dC, dI)) (ci := 0) (v := .ref w) (C := RR) (T := TR) (N := 2) hx hb hts lyR hown hK hP 0 rfl rfl 0 (by decide) (hts _ fl_R_11) (fun _ h9 => h9) rfl dR_dropOuter_32 ?_
        refine lv_iload_n hx hb dR_dropOuter_35 rfl (lv_at hl 3 rfl) ?_
        refine lv_aload_n hx hb dR_dropOuter_36 rfl (lv_at hl 0 rfl) ?_
        refine va_get (D := (dC, dI)) (ci := 0) (v := .ref w) (C := RR) (T := TR) (N := 2) hx hb hts lyR hown hK hP 0 rfl rfl 0 (by decide) (hts _ fl_R_11) (fun _ h9 => h9) rfl dR_dropOuter_37 ?_
        refine lv_iload hx hb dR_dropOuter_40 (lv_at hl 4 rfl) ?_
        refine va_lald hx hb hK hP 1 0 rfl rfl (vp_in_nI (by omega) (by decide)) dR_dropOuter_42 ?_
        refine ls_topl (y := f i) (by rw [nI_clamp (by omega)]; exact hI.2.2 i hkl) ?_
        refine lv_aload_n hx hb dR_dropOuter_43 rfl (lv_at hl 0 rfl) ?_
        refine va_get (D := (dC, dI)) (ci := 0) (v := .ref w) (C := RR) (T := TR) (N := 2) hx hb hts lyR hown hK hP 0 rfl rfl 0 (by decide) (hts _ fl_R_11) (fun _ h9 => h9) rfl dR_dropOuter_44 ?_
        refine lv_iload hx hb dR_dropOuter_47 (lv_at hl 4 rfl) ?_
        refine lv_iload_n hx hb dR_dropOuter_49 rfl (lv_at hl 1 rfl) ?_
        refine lv_iadd hx hb dR_dropOuter_50 ?_
        refine ls_topi (y := nI (i + 2 ^ ex)) (nI_add _ _) ?_
        refine va_lald hx hb hK hP 1 0 rfl rfl (vp_in_nI (by omega) (by decide)) dR_dropOuter_51 ?_
        refine ls_topl (y := f (i + 2 ^ ex)) (by rw [nI_clamp (by omega)]; exact hI.2.2 _ (by omega)) ?_
        refine lv_lor hx hb dR_dropOuter_52 ?_
        refine va_last hx hb hK hP hD hS 1 0 rfl rfl (vp_in_nI (by omega) (by decide)) dR_dropOuter_53 (fun H locs hP hD hS => ?_)
        rw [show vp_updL g (nI (dp_kp ex i)).toNatClampNeg ((f i) ||| (f (i + 2 ^ ex))) = vp_updL g (dp_kp ex i) (f i ||| f (i + 2 ^ ex)) from by rw [nI_clamp (by omega)]] at hP hD
        have hP : va_P (dC, dI) vwCl [(h, .inr (0, [.ref w, .int (nI U)])), (w, .inl (cL, 1024, .inr (.inl (vp_updL g (dp_kp ex i) (f i ||| f (i + 2 ^ ex))))))] H := hP
        have hD : va_D A [(h, .inr (0, [.ref w, .int (nI U)])), (w, .inl (cL, 1024, .inr (.inl (vp_updL g (dp_kp ex i) (f i ||| f (i + 2 ^ ex))))))] := hD
        refine lv_iinc (v := nI (dp_kp ex (i + 1))) (lv' := [(3, .int (nI (dp_kp ex (i + 1)))), (0, .ref h), (1, .int (nI (2 ^ ex))), (2, .int (nI U)), (4, .int (nI i))]) hx hb dR_dropOuter_54 hl (k := 3) rfl (by rw [(dp_z (by omega) hz).1]; exact nI_1 _) (by decide) rfl (fun ls hl => ?_)
        refine lv_iinc (v := nI (i + 1)) (lv' := [(4, .int (nI (i + 1))), (3, .int (nI (dp_kp ex (i + 1)))), (0, .ref h), (1, .int (nI (2 ^ ex))), (2, .int (nI U))]) hx hb dR_dropOuter_57 hl (k := 4) rfl (nI_1 _) (by decide) rfl (fun ls hl => ?_)
        refine lv_goto (tgt := 16) hx hb dR_dropOuter_60 (by decide) ?_
        exact ih (i + 1, vp_updL g (dp_kp ex i) (f i ||| f (i + 2 ^ ex))) _ _ _ (by show U - (i + 1) < U - i; omega) ⟨dp_Iz (by omega) hI c2 hz, hP, hD, hS, lv_sub hl [2, 3, 4, 1, 0] rfl⟩
  · have c1 : U ≤ (2 ^ ex) := Nat.le_of_not_lt (fun q => c1 ((nI_ltI (a := (2 ^ ex)) (b := U) (by omega) (by omega)).mpr q))
    exact (W.vret hx hb hr (fun t ht hW => ⟨⟨(f, U), rfl, Or.inl ⟨c1, rfl⟩, by rw [ht]; exact hP, va_K.moved hW.alike hK, hD⟩, hS.F ht⟩) hS.2.2 dR_dropOuter_10)
set_option maxHeartbeats 4000000 in
set_option maxRecDepth 100000 in
/-- dropVariable(v) -/
theorem k_R_dropVariable (l : Launch) (dC : Nat → ClassId) (dI : Nat → Nat → Nat) (tI sz : Nat) (h w : Nat) (cL : ClassId) (f : Nat → Int64) (U : Nat) (hU : U ≤ 1024) (V n : Nat) (hn : U = 2 ^ n) (hn1 : n ≤ 10) (hV : V < 16) : Met l yR_dropVariable (Cond.code yR_dropVariable cR_dropVariable 2 none :: GG) (lvr 3 0 0) (va_Pc [.ref h, .int (nI V)] (wPre dC dI [(cL, .long)] [(h, .inr (0, [.ref w, .int (nI U)])), (w, .inl (cL, 1024, .inr (.inl f)))] sz tI)) (va_Qv (fun (u : (Nat → Int64) × Nat) => (V < 6 ∧ u.2 = U ∧ ∀ k, k < U → u.1 k = (f k ||| ls_ush (f k) (2 ^ V)) &&& (ls_ones V ^^^ (-1))) ∨ (6 ≤ V ∧ ((U ≤ 2 ^ (V - 6) ∧ u = (f, U)) ∨ (2 ^ (V - 6) < U ∧ u.2 = U / 2 ∧ ∀ k, k < U / 2 → u.1 k = f (dp_in (V - 6) k) ||| f (dp_in (V - 6) k + 2 ^ (V - 6)))))) (fun u t => wB dC dI [(cL, .long)] (va_A [(h, .inr (0, [.ref w, .int (nI U)])), (w, .inl (cL, 1024, .inr (.inl f)))] sz) [(h, .inr (0, [.ref w, .int (nI u.2)])), (w, .inl (cL, 1024, .inr (.inl u.1)))] t) (va_A [(h, .inr (0, [.ref w, .int (nI U)])), (w, .inl (cL, 1024, .inr (.inl f)))] sz)) 0 0 (va_A [(h, .inr (0, [.ref w, .int (nI U)])), (w, .inl (cL, 1024, .inr (.inl f)))] sz) := by
  refine Met.ofW (cc := cR_dropVariable) (maxL := 2) (ret := none) (by decide) rfl ?_
  intro p e s m args below meth c s₁ B hml hv
  obtain ⟨rfl, hsz, hP, hK, hD0, hZ, hX⟩ := hv
  have hx := B.exec
  have hb := B.bytes
  have hr := B.returns
  have hts : ∀ w ∈ GG, w.before ([.ref h, .int (nI V)] : List Value).toArray s = true := fun w h => atoms_spec (ws := _ :: GG) B.pre w (List.mem_cons_of_mem _ h)
  have hown : s.vm.findClass RR = some m.cls := findClass_of_methodNamed B.named
  have hlocks := B.notSynchronized
  subst hsz
  have hD := hD0.self (sz := s.heap.size)
  generalize hAe : va_A [(h, .inr (0, [.ref w, .int (nI U)])), (w, .inl (cL, 1024, .inr (.inl f)))] s.heap.size = A at hD hZ ⊢
  have hA : ∀ q : Nat, s.heap.size ≤ q → A q := fun q h => by rw [← hAe]; exact Or.inr h
  have hS : va_S A s.heap s.heap [] := va_S.rf
  have hl := lv_entry ([.ref h, .int (nI V)]) (n := 2) (Nat.le_of_ble_eq_true rfl)
  rw [lg_entry_eq]
  generalize (lg_sl ([.ref h, .int (nI V)]) ++ List.replicate (2 - (lg_sl ([.ref h, .int (nI V)])).length) Slot.unset).toArray = ls at hl ⊢
  have hl : lv_has ls 2 [(0, .ref h), (1, .int (nI V))] := hl
  have SF : CallFix p m c cR_dropVariable 2 s ([.ref h, .int (nI V)] : List Value).toArray GG RR := ⟨hx, hb, hml, hown, hts⟩
  skip
  have hP : va_P (dC, dI) vwCl [(h, .inr (0, [.ref w, .int (nI U)])), (w, .inl (cL, 1024, .inr (.inl f)))] s.heap := hP
  refine lv_iload_n hx hb dR_dropVariable_0 rfl (lv_at hl 1 rfl) ?_
  refine lv_if_lt (tgt := 10) hx hb dR_dropVariable_1 (by decide) (fun c1 => ?_) (fun c1 => ?_)
  · have c1 : V < 0 := (nI_ltI (a := V) (b := 0) (by omega) (by omega)).mp c1
    exact absurd c1 (Nat.not_lt_zero _)
  · have c1 : 0 ≤ V := Nat.le_of_not_lt (fun q => c1 ((nI_ltI (a := V) (b := 0) (by omega) (by omega)).mpr q))
    refine lv_iload_n hx hb dR_dropVariable_4 rfl (lv_at hl 1 rfl) ?_
    refine lv_bipush (v := 16) hx hb dR_dropVariable_5 (by decide) ?_
    refine lv_icmp_lt (tgt := 11) hx hb dR_dropVariable_7 (by decide) (fun c2 => ?_) (fun c2 => ?_)
    · have c2 : V < 16 := (nI_ltI (a := V) (b := 16) (by omega) (by omega)).mp c2
      refine lv_iload_n hx hb dR_dropVariable_11 rfl (lv_at hl 1 rfl) ?_
      refine va_gets hx hb hZ.1 hS hown (hts _ fl_R_31) (fun _ h9 => h9) dR_dropVariable_12 ?_
      refine va_tlen (v := 6) hx hb hZ.2.1 hS rfl dR_dropVariable_15 ?_
      refine lv_icmp_ge (tgt := 38) hx hb dR_dropVariable_16 (by decide) (fun c3 => ?_) (fun c3 => ?_)
      · have c3 : 6 ≤ V := (nI_leI (a := 6) (b := V) (by omega) (by omega)).mp c3
        refine lv_aload_n hx hb dR_dropVariable_38 rfl (lv_at hl 0 rfl) ?_
        refine lv_iconst (v := 1) hx hb dR_dropVariable_39 (by decide) ?_
        refine lv_iload_n hx hb dR_dropVariable_40 rfl (lv_at hl 1 rfl) ?_
        refine lv_bipush (v := 6) hx hb dR_dropVariable_41 (by decide) ?_
        refine lv_isub hx hb dR_dropVariable_43 ?_
        refine ls_topi (y := nI (V - 6)) (pk_sub c3) ?_
        refine lv_ishl hx hb dR_dropVariable_44 ?_
        refine ls_topi (y := nI (2 ^ (V - 6))) (by have q := ls_shl (n := 1) (k := V - 6) (by omega) (by rw [Nat.one_mul]; exact Nat.pow_lt_pow_right (by decide) (by omega)); rw [Nat.one_mul] at q; exact q) ?_
        have hFc := va_free (wc := [(h, .inr (0, [.ref w, .int (nI U)])), (w, .inl (cL, 1024, .inr (.inl f)))]) hD hS hA [0, 1] rfl
        refine wc_v (wc_V (As := [.int (nI (2 ^ (V - 6)))]) (rest := []) (n := 1) SF (k_R_dropOuter l dC dI tI _ h w cL f U hU (V - 6) n hn hn1 (by omega)) ml_R_38 im_R_dropOuter se_R_dropOuter in_R co_R_dropOuter (by decide +kernel) rfl rfl rfl ⟨Nat.le_of_ble_eq_true rfl, Nat.le_of_ble_eq_true rfl⟩ (va_recv (hK.sub (tys' := []) [] rfl) (hP.sub (ws' := [(h, .inr (0, [.ref w, .int (nI U)])), (w, .inl (cL, 1024, .inr (.inl f)))]) [0, 1] rfl) (ci := 0) (q0 := 0) rfl rfl) (hP.sub [0, 1] rfl) (hD.sub [0, 1] (by decide) rfl) (hK.sub [0] rfl) hZ hX hS hFc rfl hl.1 (Nat.le_of_ble_eq_true rfl) dR_dropVariable_45 ⟨Nat.le_of_ble_eq_true rfl, Nat.le_of_ble_eq_true rfl⟩) hP hD hS hFc [0, 1] [] (wr := []) rfl rfl rfl (by decide) (fun uu H locs hw hP hD hS => ?_)
        have hP : va_P (dC, dI) vwCl [(h, .inr (0, [.ref w, .int (nI uu.2)])), (w, .inl (cL, 1024, .inr (.inl uu.1)))] H := hP.sub [0, 1] rfl
        have hD : va_D A [(h, .inr (0, [.ref w, .int (nI uu.2)])), (w, .inl (cL, 1024, .inr (.inl uu.1)))] := hD.sub [0, 1] (by decide) rfl
        exact (W.vret hx hb hr (fun t ht hW => ⟨⟨(uu.1, uu.2), rfl, Or.inr ⟨c3, hw⟩, by rw [ht]; exact hP, va_K.moved hW.alike hK, hD⟩, hS.F ht⟩) hS.2.2 dR_dropVariable_48)
      · have c3 : V < 6 := Nat.lt_of_not_le (fun q => c3 ((nI_leI (a := 6) (b := V) (by omega) (by omega)).mpr q))
        refine lv_aload_n hx hb dR_dropVariable_19 rfl (lv_at hl 0 rfl) ?_
        refine lv_iconst (v := 1) hx hb dR_dropVariable_20 (by decide) ?_
        refine lv_iload_n hx hb dR_dropVariable_21 rfl (lv_at hl 1 rfl) ?_
        refine lv_ishl hx hb dR_dropVariable_22 ?_
        refine ls_topi (y := nI (2 ^ V)) (by have q := ls_shl (n := 1) (k := V) (by omega) (by rw [Nat.one_mul]; exact Nat.pow_lt_pow_right (by decide) (by omega)); rw [Nat.one_mul] at q; exact q) ?_
        refine va_gets hx hb hZ.1 hS hown (hts _ fl_R_31) (fun _ h9 => h9) dR_dropVariable_23 ?_
        refine lv_iload_n hx hb dR_dropVariable_26 rfl (lv_at hl 1 rfl) ?_
        refine va_tl (v := .long (ls_ones V)) hx hb hZ.2.1 hS (vp_in_nI c3 (by decide)) (by rw [nI_clamp (by omega)]) dR_dropVariable_27 ?_
        refine lv_ldc2 (v := (-1)) hx hb hown (hts _ cj_R_19) dR_dropVariable_28 ?_
        refine lv_lxor hx hb dR_dropVariable_31 ?_
        have hFc := va_free (wc := [(h, .inr (0, [.ref w, .int (nI U)])), (w, .inl (cL, 1024, .inr (.inl f)))]) hD hS hA [0, 1] rfl
        refine wc_v (wc_V (As := [.int (nI (2 ^ V)), .long ((ls_ones V) ^^^ (-1))]) (rest := []) (n := 2) SF (k_R_dropInner l dC dI tI _ h w cL f U hU (2 ^ V) (ls_ones V ^^^ (-1))) ml_R_34 im_R_dropInner se_R_dropInner in_R co_R_dropInner (by decide +kernel) rfl rfl rfl ⟨Nat.le_of_ble_eq_true rfl, Nat.le_of_ble_eq_true rfl⟩ (va_recv (hK.sub (tys' := []) [] rfl) (hP.sub (ws' := [(h, .inr (0, [.ref w, .int (nI U)])), (w, .inl (cL, 1024, .inr (.inl f)))]) [0, 1] rfl) (ci := 0) (q0 := 0) rfl rfl) (hP.sub [0, 1] rfl) (hD.sub [0, 1] (by decide) rfl) (hK.sub [0] rfl) hZ hX hS hFc rfl hl.1 (Nat.le_of_ble_eq_true rfl) dR_dropVariable_32 ⟨Nat.le_of_ble_eq_true rfl, Nat.le_of_ble_eq_true rfl⟩) hP hD hS hFc [0, 1] [] (wr := []) rfl rfl rfl (by decide) (fun uu H locs hw hP hD hS => ?_)
        have hP : va_P (dC, dI) vwCl [(h, .inr (0, [.ref w, .int (nI U)])), (w, .inl (cL, 1024, .inr (.inl uu)))] H := hP.sub [0, 1] rfl
        have hD : va_D A [(h, .inr (0, [.ref w, .int (nI U)])), (w, .inl (cL, 1024, .inr (.inl uu)))] := hD.sub [0, 1] (by decide) rfl
        refine lv_goto (tgt := 48) hx hb dR_dropVariable_35 (by decide) ?_
        exact (W.vret hx hb hr (fun t ht hW => ⟨⟨(uu, U), rfl, Or.inl ⟨c3, rfl, hw⟩, by rw [ht]; exact hP, va_K.moved hW.alike hK, hD⟩, hS.F ht⟩) hS.2.2 dR_dropVariable_48)
    · have c2 : 16 ≤ V := Nat.le_of_not_lt (fun q => c2 ((nI_ltI (a := V) (b := 16) (by omega) (by omega)).mpr q))
      exact absurd c2 (by omega)
set_option maxHeartbeats 4000000 in
set_option maxRecDepth 100000 in
/-- keepClause(clause, length) -/
theorem k_R_keepClause (l : Launch) (dC : Nat → ClassId) (dI : Nat → Nat → Nat) (tI sz : Nat) (h w : Nat) (cL : ClassId) (f : Nat → Int64) (U : Nat) (hU : U ≤ 1024) (q : Nat) (cI : ClassId) (cf : Nat → Int32) (cn : Nat → Nat) (n : Nat) (hn : n ≤ 40) (hc : ∀ j, j < n → cf j = nI (cn j) ∧ cn j < 32) : Met l yR_keepClause (Cond.code yR_keepClause cR_keepClause 8 none :: GG) (lvr 3 0 0) (va_Pc [.ref h, .ref q, .int (nI n)] (wPre dC dI [(cL, .long), (cI, .int)] [(h, .inr (0, [.ref w, .int (nI U)])), (w, .inl (cL, 1024, .inr (.inl f))), (q, .inl (cI, 40, .inl cf))] sz tI)) (va_Qv (fun (u : Nat → Int64) => ∀ k, k < U → u k = f k &&& ls_or cn k n) (fun u t => wB dC dI [(cL, .long), (cI, .int)] (va_A [(h, .inr (0, [.ref w, .int (nI U)])), (w, .inl (cL, 1024, .inr (.inl f))), (q, .inl (cI, 40, .inl cf))] sz) [(h, .inr (0, [.ref w, .int (nI U)])), (w, .inl (cL, 1024, .inr (.inl u))), (q, .inl (cI, 40, .inl cf))] t) (va_A [(h, .inr (0, [.ref w, .int (nI U)])), (w, .inl (cL, 1024, .inr (.inl f))), (q, .inl (cI, 40, .inl cf))] sz)) 0 0 (va_A [(h, .inr (0, [.ref w, .int (nI U)])), (w, .inl (cL, 1024, .inr (.inl f))), (q, .inl (cI, 40, .inl cf))] sz) := by
  refine Met.ofW (cc := cR_keepClause) (maxL := 8) (ret := none) (by decide) rfl ?_
  intro p e s m args below meth c s₁ B hml hv
  obtain ⟨rfl, hsz, hP, hK, hD0, hZ, hX⟩ := hv
  have hx := B.exec
  have hb := B.bytes
  have hr := B.returns
  have hts : ∀ w ∈ GG, w.before ([.ref h, .ref q, .int (nI n)] : List Value).toArray s = true := fun w h => atoms_spec (ws := _ :: GG) B.pre w (List.mem_cons_of_mem _ h)
  have hown : s.vm.findClass RR = some m.cls := findClass_of_methodNamed B.named
  have hlocks := B.notSynchronized
  subst hsz
  have hD := hD0.self (sz := s.heap.size)
  generalize hAe : va_A [(h, .inr (0, [.ref w, .int (nI U)])), (w, .inl (cL, 1024, .inr (.inl f))), (q, .inl (cI, 40, .inl cf))] s.heap.size = A at hD hZ ⊢
  have hA : ∀ q : Nat, s.heap.size ≤ q → A q := fun q h => by rw [← hAe]; exact Or.inr h
  have hS : va_S A s.heap s.heap [] := va_S.rf
  have hl := lv_entry ([.ref h, .ref q, .int (nI n)]) (n := 8) (Nat.le_of_ble_eq_true rfl)
  rw [lg_entry_eq]
  generalize (lg_sl ([.ref h, .ref q, .int (nI n)]) ++ List.replicate (8 - (lg_sl ([.ref h, .ref q, .int (nI n)])).length) Slot.unset).toArray = ls at hl ⊢
  have hl : lv_has ls 8 [(0, .ref h), (1, .ref q), (2, .int (nI n))] := hl
  have SF : CallFix p m c cR_keepClause 8 s ([.ref h, .ref q, .int (nI n)] : List Value).toArray GG RR := ⟨hx, hb, hml, hown, hts⟩
  skip
  have hP : va_P (dC, dI) vwCl [(h, .inr (0, [.ref w, .int (nI U)])), (w, .inl (cL, 1024, .inr (.inl f))), (q, .inl (cI, 40, .inl cf))] s.heap := hP
  refine lv_aload_n hx hb dR_keepClause_0 rfl (lv_at hl 1 rfl) ?_
  refine lv_ifnonnull (tgt := 5) hx hb dR_keepClause_1 (by decide) ?_
  refine lv_lconst (v := 0) hx hb dR_keepClause_5 (by decide) ?_
  refine lv_lstore_n (lv' := [(3, .long 0), (0, .ref h), (1, .ref q), (2, .int (nI n))]) hx hb dR_keepClause_6 rfl hl (by decide) rfl (fun ls hl => ?_)
  refine lv_iconst (v := 0) hx hb dR_keepClause_7 (by decide) ?_
  refine lv_istore (lv' := [(5, .int 0), (3, .long 0), (0, .ref h), (1, .ref q), (2, .int (nI n))]) hx hb dR_keepClause_8 hl (by decide) rfl (fun ls hl => ?_)
  refine lv_iconst (v := 0) hx hb dR_keepClause_10 (by decide) ?_
  refine lv_istore (lv' := [(6, .int 0), (5, .int 0), (3, .long 0), (0, .ref h), (1, .ref q), (2, .int (nI n))]) hx hb dR_keepClause_11 hl (by decide) rfl (fun ls hl => ?_)
  refine lv_iconst (v := 0) hx hb dR_keepClause_13 (by decide) ?_
  refine lv_istore (lv' := [(7, .int 0), (6, .int 0), (5, .int 0), (3, .long 0), (0, .ref h), (1, .ref q), (2, .int (nI n))]) hx hb dR_keepClause_14 hl (by decide) rfl (fun ls hl => ?_)
  refine lp_mu (α := Nat) (fun a_ => match a_ with | j => n - j) (fun a_ H locs ls => match a_ with | j => (j ≤ n) ∧ va_P (dC, dI) vwCl [(h, .inr (0, [.ref w, .int (nI U)])), (w, .inl (cL, 1024, .inr (.inl f))), (q, .inl (cI, 40, .inl cf))] H ∧ va_D A [(h, .inr (0, [.ref w, .int (nI U)])), (w, .inl (cL, 1024, .inr (.inl f))), (q, .inl (cI, 40, .inl cf))] ∧ va_S A s.heap H locs ∧ lv_has ls 8 [(0, .ref h), (1, .ref q), (2, .int (nI n)), (3, .long (mk_ci cn j)), (5, .int (nI (mk_co cn j))), (6, .int (nI (mk_cz cn j))), (7, .int (nI j))]) ?_ (0) ⟨Nat.zero_le _, hP, hD, hS, lv_sub hl [4, 5, 6, 3, 2, 1, 0] rfl⟩
  intro a_ H locs ls hI ih
  obtain ⟨j, rfl⟩ : ∃ z, z = a_ := ⟨_, rfl⟩
  obtain ⟨hI, hP, hD, hS, hl⟩ := hI
  have hI : j ≤ n := hI
  have hP : va_P (dC, dI) vwCl [(h, .inr (0, [.ref w, .int (nI U)])), (w, .inl (cL, 1024, .inr (.inl f))), (q, .inl (cI, 40, .inl cf))] H := hP
  have hD : va_D A [(h, .inr (0, [.ref w, .int (nI U)])), (w, .inl (cL, 1024, .inr (.inl f))), (q, .inl (cI, 40, .inl cf))] := hD
  have hl : lv_has ls 8 [(0, .ref h), (1, .ref q), (2, .int (nI n)), (3, .long (mk_ci cn j)), (5, .int (nI (mk_co cn j))), (6, .int (nI (mk_cz cn j))), (7, .int (nI j))] := hl
  refine lv_iload hx hb dR_keepClause_16 (lv_at hl 6 rfl) ?_
  refine lv_iload_n hx hb dR_keepClause_18 rfl (lv_at hl 2 rfl) ?_
  refine lv_icmp_ge (tgt := 69) hx hb dR_keepClause_19 (by decide) (fun c2 => ?_) (fun c2 => ?_)
  · have c2 : n ≤ j := (nI_leI (a := n) (b := j) (by omega) (by omega)).mp c2
    refine lv_aload_n hx hb dR_keepClause_69 rfl (lv_at hl 0 rfl) ?_
    refine lv_lload_n hx hb dR_keepClause_70 rfl (lv_at hl 3 rfl) ?_
    refine lv_iload hx hb dR_keepClause_71 (lv_at hl 4 rfl) ?_
    refine lv_iload hx hb dR_keepClause_73 (lv_at hl 5 rfl) ?_
    have hFc := va_free (wc := [(h, .inr (0, [.ref w, .int (nI U)])), (w, .inl (cL, 1024, .inr (.inl f)))]) hD hS hA [0, 1] rfl
    refine wc_i (wc_V (As := [.long (mk_ci cn j), .int (nI (mk_co cn j)), .int (nI (mk_cz cn j))]) (rest := []) (n := 3) SF (k_R_keepRows l dC dI tI _ h w cL f U hU (mk_ci cn j) (mk_co cn j) (mk_cz cn j) (mk_cz_lt cn j)) ml_R_57 im_R_keepRows se_R_keepRows in_R co_R_keepRows (by decide +kernel) rfl rfl rfl ⟨Nat.le_of_ble_eq_true rfl, Nat.le_of_ble_eq_true rfl⟩ (va_recv (hK.sub (tys' := []) [] rfl) (hP.sub (ws' := [(h, .inr (0, [.ref w, .int (nI U)])), (w, .inl (cL, 1024, .inr (.inl f)))]) [0, 1] rfl) (ci := 0) (q0 := 0) rfl rfl) (hP.sub [0, 1] rfl) (hD.sub [0, 1] (by decide) rfl) (hK.sub [0] rfl) hZ hX hS hFc rfl hl.1 (Nat.le_of_ble_eq_true rfl) dR_keepClause_75 ⟨Nat.le_of_ble_eq_true rfl, Nat.le_of_ble_eq_true rfl⟩) hP hD hS hFc [0, 1] [2] (wr := [(q, .inl (cI, 40, .inl cf))]) rfl rfl rfl (by decide) (fun z uu H locs hw hP hD hS => ?_)
    have hP : va_P (dC, dI) vwCl [(h, .inr (0, [.ref w, .int (nI U)])), (w, .inl (cL, 1024, .inr (.inl uu))), (q, .inl (cI, 40, .inl cf))] H := hP.sub [1, 2, 0] rfl
    have hD : va_D A [(h, .inr (0, [.ref w, .int (nI U)])), (w, .inl (cL, 1024, .inr (.inl uu))), (q, .inl (cI, 40, .inl cf))] := hD.sub [1, 2, 0] (by decide) rfl
    refine lv_pop hx hb dR_keepClause_78 rfl ?_
    exact (W.vret hx hb hr (fun t ht hW => ⟨⟨uu, rfl, fun k hk => by rw [hw.1 k hk, show n = j by omega, mk_cl (fun i hi => (hc i (by omega)).2) (by omega)], by rw [ht]; exact hP, va_K.moved hW.alike hK, hD⟩, hS.F ht⟩) hS.2.2 dR_keepClause_79)
  · have c2 : j < n := Nat.lt_of_not_le (fun q => c2 ((nI_leI (a := n) (b := j) (by omega) (by omega)).mpr q))
    refine lv_iload hx hb dR_keepClause_22 (lv_at hl 6 rfl) ?_
    refine lv_aload_n hx hb dR_keepClause_24 rfl (lv_at hl 1 rfl) ?_
    refine va_alen (v := 40) hx hb hK hP 2 1 rfl rfl rfl dR_keepClause_25 ?_
    refine lv_icmp_ge (tgt := 69) hx hb dR_keepClause_26 (by decide) (fun c3 => ?_) (fun c3 => ?_)
    · have c3 : 40 ≤ j := (nI_leI (a := 40) (b := j) (by omega) (by omega)).mp c3
      exact absurd c3 (by omega)
    · have c3 : j < 40 := Nat.lt_of_not_le (fun q => c3 ((nI_leI (a := 40) (b := j) (by omega) (by omega)).mpr q))
      refine lv_lload_n hx hb dR_keepClause_29 rfl (lv_at hl 3 rfl) ?_
      refine lv_aload_n hx hb dR_keepClause_30 rfl (lv_at hl 1 rfl) ?_
      refine lv_iload hx hb dR_keepClause_31 (lv_at hl 6 rfl) ?_
      refine va_iald hx hb hK hP 2 1 rfl rfl (vp_in_nI (by omega) (by decide)) dR_keepClause_33 ?_
      refine ls_topi (y := nI (cn j)) (by rw [nI_clamp (by omega)]; exact (hc j c2).1) ?_
      have hFc := va_free (wc := []) hD hS hA [] rfl
      refine wc_l (wc_S (As := [.int (nI (cn j))]) (rest := [.long (mk_ci cn j)]) (n := 1) SF (k_R_innerRows l dC dI tI _ (cn j) (hc j c2).2) ml_R_42 st_R_innerRows in_R co_R_innerRows (by decide +kernel) rfl rfl rfl ⟨Nat.le_of_ble_eq_true rfl, Nat.le_of_ble_eq_true rfl⟩ (hP.sub [] rfl) (hD.sub [] (by decide) rfl) (hK.sub [] rfl) hZ hX hS hFc rfl hl.1 (Nat.le_of_ble_eq_true rfl) dR_keepClause_34 ⟨Nat.le_of_ble_eq_true rfl, Nat.le_of_ble_eq_true rfl⟩) hP hD hS hFc [] [0, 1, 2] (wr := [(h, .inr (0, [.ref w, .int (nI U)])), (w, .inl (cL, 1024, .inr (.inl f))), (q, .inl (cI, 40, .inl cf))]) rfl rfl rfl (by decide) (fun z uu H locs hw hP hD hS => ?_)
      have hP : va_P (dC, dI) vwCl [(h, .inr (0, [.ref w, .int (nI U)])), (w, .inl (cL, 1024, .inr (.inl f))), (q, .inl (cI, 40, .inl cf))] H := hP.sub [0, 1, 2] rfl
      have hD : va_D A [(h, .inr (0, [.ref w, .int (nI U)])), (w, .inl (cL, 1024, .inr (.inl f))), (q, .inl (cI, 40, .inl cf))] := hD.sub [0, 1, 2] (by decide) rfl
      have hw : z = mk_in (cn j) := hw
      subst hw
      refine lv_lor hx hb dR_keepClause_37 ?_
      refine ls_topl (y := mk_ci cn (j + 1)) (rfl) ?_
      refine lv_lstore_n (lv' := [(3, .long (mk_ci cn (j + 1))), (0, .ref h), (1, .ref q), (2, .int (nI n)), (5, .int (nI (mk_co cn j))), (6, .int (nI (mk_cz cn j))), (7, .int (nI j))]) hx hb dR_keepClause_38 rfl hl (by decide) rfl (fun ls hl => ?_)
      refine lv_iload hx hb dR_keepClause_39 (lv_at hl 4 rfl) ?_
      refine lv_aload_n hx hb dR_keepClause_41 rfl (lv_at hl 2 rfl) ?_
      refine lv_iload hx hb dR_keepClause_42 (lv_at hl 6 rfl) ?_
      refine va_iald hx hb hK hP 2 1 rfl rfl (vp_in_nI (by omega) (by decide)) dR_keepClause_44 ?_
      refine ls_topi (y := nI (cn j)) (by rw [nI_clamp (by omega)]; exact (hc j c2).1) ?_
      have hFc := va_free (wc := []) hD hS hA [] rfl
      refine wc_i (wc_S (As := [.int (nI (cn j))]) (rest := [.int (nI (mk_co cn j))]) (n := 1) SF (k_R_outerOnes l dC dI tI _ (cn j) (hc j c2).2) ml_R_46 st_R_outerOnes in_R co_R_outerOnes (by decide +kernel) rfl rfl rfl ⟨Nat.le_of_ble_eq_true rfl, Nat.le_of_ble_eq_true rfl⟩ (hP.sub [] rfl) (hD.sub [] (by decide) rfl) (hK.sub [] rfl) hZ hX hS hFc rfl hl.1 (Nat.le_of_ble_eq_true rfl) dR_keepClause_45 ⟨Nat.le_of_ble_eq_true rfl, Nat.le_of_ble_eq_true rfl⟩) hP hD hS hFc [] [0, 1, 2] (wr := [(h, .inr (0, [.ref w, .int (nI U)])), (w, .inl (cL, 1024, .inr (.inl f))), (q, .inl (cI, 40, .inl cf))]) rfl rfl rfl (by decide) (fun z uu H locs hw hP hD hS => ?_)
      have hP : va_P (dC, dI) vwCl [(h, .inr (0, [.ref w, .int (nI U)])), (w, .inl (cL, 1024, .inr (.inl f))), (q, .inl (cI, 40, .inl cf))] H := hP.sub [0, 1, 2] rfl
      have hD : va_D A [(h, .inr (0, [.ref w, .int (nI U)])), (w, .inl (cL, 1024, .inr (.inl f))), (q, .inl (cI, 40, .inl cf))] := hD.sub [0, 1, 2] (by decide) rfl
      have hw : z = nI (mk_on (cn j)) := hw
      subst hw
      refine lv_ior hx hb dR_keepClause_48 ?_
      refine ls_topi (y := nI (mk_co cn (j + 1))) (nx_or _ _) ?_
      refine lv_istore (lv' := [(5, .int (nI (mk_co cn (j + 1)))), (3, .long (mk_ci cn (j + 1))), (0, .ref h), (1, .ref q), (2, .int (nI n)), (6, .int (nI (mk_cz cn j))), (7, .int (nI j))]) hx hb dR_keepClause_49 hl (by decide) rfl (fun ls hl => ?_)
      refine lv_iload hx hb dR_keepClause_51 (lv_at hl 5 rfl) ?_
      refine lv_aload_n hx hb dR_keepClause_53 rfl (lv_at hl 3 rfl) ?_
      refine lv_iload hx hb dR_keepClause_54 (lv_at hl 6 rfl) ?_
      refine va_iald hx hb hK hP 2 1 rfl rfl (vp_in_nI (by omega) (by decide)) dR_keepClause_56 ?_
      refine ls_topi (y := nI (cn j)) (by rw [nI_clamp (by omega)]; exact (hc j c2).1) ?_
      have hFc := va_free (wc := []) hD hS hA [] rfl
      refine wc_i (wc_S (As := [.int (nI (cn j))]) (rest := [.int (nI (mk_cz cn j))]) (n := 1) SF (k_R_outerZeros l dC dI tI _ (cn j) (hc j c2).2) ml_R_50 st_R_outerZeros in_R co_R_outerZeros (by decide +kernel) rfl rfl rfl ⟨Nat.le_of_ble_eq_true rfl, Nat.le_of_ble_eq_true rfl⟩ (hP.sub [] rfl) (hD.sub [] (by decide) rfl) (hK.sub [] rfl) hZ hX hS hFc rfl hl.1 (Nat.le_of_ble_eq_true rfl) dR_keepClause_57 ⟨Nat.le_of_ble_eq_true rfl, Nat.le_of_ble_eq_true rfl⟩) hP hD hS hFc [] [0, 1, 2] (wr := [(h, .inr (0, [.ref w, .int (nI U)])), (w, .inl (cL, 1024, .inr (.inl f))), (q, .inl (cI, 40, .inl cf))]) rfl rfl rfl (by decide) (fun z uu H locs hw hP hD hS => ?_)
      have hP : va_P (dC, dI) vwCl [(h, .inr (0, [.ref w, .int (nI U)])), (w, .inl (cL, 1024, .inr (.inl f))), (q, .inl (cI, 40, .inl cf))] H := hP.sub [0, 1, 2] rfl
      have hD : va_D A [(h, .inr (0, [.ref w, .int (nI U)])), (w, .inl (cL, 1024, .inr (.inl f))), (q, .inl (cI, 40, .inl cf))] := hD.sub [0, 1, 2] (by decide) rfl
      have hw : z = nI (mk_ze (cn j)) := hw
      subst hw
      refine lv_ior hx hb dR_keepClause_60 ?_
      refine ls_topi (y := nI (mk_cz cn (j + 1))) (nx_or _ _) ?_
      refine lv_istore (lv' := [(6, .int (nI (mk_cz cn (j + 1)))), (5, .int (nI (mk_co cn (j + 1)))), (3, .long (mk_ci cn (j + 1))), (0, .ref h), (1, .ref q), (2, .int (nI n)), (7, .int (nI j))]) hx hb dR_keepClause_61 hl (by decide) rfl (fun ls hl => ?_)
      refine lv_iinc (v := nI (j + 1)) (lv' := [(7, .int (nI (j + 1))), (6, .int (nI (mk_cz cn (j + 1)))), (5, .int (nI (mk_co cn (j + 1)))), (3, .long (mk_ci cn (j + 1))), (0, .ref h), (1, .ref q), (2, .int (nI n))]) hx hb dR_keepClause_63 hl (k := 6) rfl (nI_1 _) (by decide) rfl (fun ls hl => ?_)
      refine lv_goto (tgt := 16) hx hb dR_keepClause_66 (by decide) ?_
      exact ih (j + 1) _ _ _ (by show n - (j + 1) < n - j; omega) ⟨c2, hP, hD, hS, lv_sub hl [4, 5, 6, 3, 2, 1, 0] rfl⟩
