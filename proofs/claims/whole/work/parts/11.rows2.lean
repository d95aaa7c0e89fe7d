set_option maxHeartbeats 4000000 in
set_option maxRecDepth 100000 in
/-- anyIn(first, distance, bits) -/
theorem k_R_anyIn (l : Launch) (dC : Nat → ClassId) (dI : Nat → Nat → Nat) (tI sz : Nat) (h w : Nat) (cL : ClassId) (f : Nat → Int64) (U : Nat) (hU : U ≤ 1024) (a d : Nat) (bits : Int64) (ha : a ≤ 1024) (h1 : 1 ≤ d) (h2 : d ≤ 1024) : Met l yR_anyIn (Cond.code yR_anyIn cR_anyIn 7 (some .boolean) :: GG) (lvr 2 0 0) (va_Pc [.ref h, .int (nI a), .int (nI d), .long bits] (wPre dC dI [(cL, .long)] [(h, .inr (0, [.ref w, .int (nI U)])), (w, .inl (cL, 1024, .inr (.inl f)))] sz tI)) (va_Qi (fun (r : Int32) (u : Unit) => (r = 1 ∧ ∃ k, a + d * k < U ∧ f (a + d * k) &&& bits ≠ 0) ∨ (r = 0 ∧ ∀ k, a + d * k < U → f (a + d * k) &&& bits = 0)) (fun u t => wB dC dI [(cL, .long)] (va_A [(h, .inr (0, [.ref w, .int (nI U)])), (w, .inl (cL, 1024, .inr (.inl f)))] sz) [(h, .inr (0, [.ref w, .int (nI U)])), (w, .inl (cL, 1024, .inr (.inl f)))] t) (va_A [(h, .inr (0, [.ref w, .int (nI U)])), (w, .inl (cL, 1024, .inr (.inl f)))] sz)) 0 0 (va_A [(h, .inr (0, [.ref w, .int (nI U)])), (w, .inl (cL, 1024, .inr (.inl f)))] sz) := by
  refine Met.ofW (cc := cR_anyIn) (maxL := 7) (ret := (some .boolean)) (by decide) rfl ?_
  intro p e s m args below meth c s₁ B hml hv
  obtain ⟨rfl, hsz, hP, hK, hD0, hZ, hX⟩ := hv
  have hx := B.exec
  have hb := B.bytes
  have hr := B.returns
  have hts : ∀ w ∈ GG, w.before ([.ref h, .int (nI a), .int (nI d), .long bits] : List Value).toArray s = true := fun w h => atoms_spec (ws := _ :: GG) B.pre w (List.mem_cons_of_mem _ h)
  have hown : s.vm.findClass RR = some m.cls := findClass_of_methodNamed B.named
  have hlocks := B.notSynchronized
  subst hsz
  have hD := hD0.self (sz := s.heap.size)
  generalize hAe : va_A [(h, .inr (0, [.ref w, .int (nI U)])), (w, .inl (cL, 1024, .inr (.inl f)))] s.heap.size = A at hD hZ ⊢
  have hA : ∀ q : Nat, s.heap.size ≤ q → A q := fun q h => by rw [← hAe]; exact Or.inr h
  have hS : va_S A s.heap s.heap [] := va_S.rf
  have hl := lv_entry ([.ref h, .int (nI a), .int (nI d), .long bits]) (n := 7) (Nat.le_of_ble_eq_true rfl)
  rw [lg_entry_eq]
  generalize (lg_sl ([.ref h, .int (nI a), .int (nI d), .long bits]) ++ List.replicate (7 - (lg_sl ([.ref h, .int (nI a), .int (nI d), .long bits])).length) Slot.unset).toArray = ls at hl ⊢
  have hl : lv_has ls 7 [(0, .ref h), (1, .int (nI a)), (2, .int (nI d)), (3, .long bits)] := hl
  have SF : CallFix p m c cR_anyIn 7 s ([.ref h, .int (nI a), .int (nI d), .long bits] : List Value).toArray GG RR := ⟨hx, hb, hml, hown, hts⟩
  skip
  have hP : va_P (dC, dI) vwCl [(h, .inr (0, [.ref w, .int (nI U)])), (w, .inl (cL, 1024, .inr (.inl f)))] s.heap := hP
  refine lv_iload_n hx hb dR_anyIn_0 rfl (lv_at hl 1 rfl) ?_
  refine lv_if_lt (tgt := 16) hx hb dR_anyIn_1 (by decide) (fun c1 => ?_) (fun c1 => ?_)
  · have c1 : a < 0 := (nI_ltI (a := a) (b := 0) (by omega) (by omega)).mp c1
    exact absurd c1 (Nat.not_lt_zero _)
  · have c1 : 0 ≤ a := Nat.le_of_not_lt (fun q => c1 ((nI_ltI (a := a) (b := 0) (by omega) (by omega)).mpr q))
    refine lv_iload_n hx hb dR_anyIn_4 rfl (lv_at hl 2 rfl) ?_
    refine lv_iconst (v := 1) hx hb dR_anyIn_5 (by decide) ?_
    refine lv_icmp_lt (tgt := 16) hx hb dR_anyIn_6 (by decide) (fun c2 => ?_) (fun c2 => ?_)
    · have c2 : d < 1 := (nI_ltI (a := d) (b := 1) (by omega) (by omega)).mp c2
      exact absurd c2 (by omega)
    · have c2 : 1 ≤ d := Nat.le_of_not_lt (fun q => c2 ((nI_ltI (a := d) (b := 1) (by omega) (by omega)).mpr q))
      refine lv_iload_n hx hb dR_anyIn_9 rfl (lv_at hl 2 rfl) ?_
      refine lv_sipush (v := 1024) hx hb dR_anyIn_10 (by decide) ?_
      refine lv_icmp_le (tgt := 18) hx hb dR_anyIn_13 (by decide) (fun c3 => ?_) (fun c3 => ?_)
      · have c3 : d ≤ 1024 := (nI_leI (a := d) (b := 1024) (by omega) (by omega)).mp c3
        refine lv_aload_n hx hb dR_anyIn_18 rfl (lv_at hl 0 rfl) ?_
        have hFc := va_free (wc := [(h, .inr (0, [.ref w, .int (nI U)])), (w, .inl (cL, 1024, .inr (.inl f)))]) hD hS hA [0, 1] rfl
        refine wc_i (wc_V (As := []) (rest := []) (n := 0) SF (k_R_end l dC dI tI _ h w cL f U hU) ml_R_21 im_R_end se_R_end in_R co_R_end (by decide +kernel) rfl rfl rfl ⟨Nat.le_of_ble_eq_true rfl, Nat.le_of_ble_eq_true rfl⟩ (va_recv (hK.sub (tys' := []) [] rfl) (hP.sub (ws' := [(h, .inr (0, [.ref w, .int (nI U)])), (w, .inl (cL, 1024, .inr (.inl f)))]) [0, 1] rfl) (ci := 0) (q0 := 0) rfl rfl) (hP.sub [0, 1] rfl) (hD.sub [0, 1] (by decide) rfl) (hK.sub [0] rfl) hZ hX hS hFc rfl hl.1 (Nat.le_of_ble_eq_true rfl) dR_anyIn_19 ⟨Nat.le_of_ble_eq_true rfl, Nat.le_of_ble_eq_true rfl⟩) hP hD hS hFc [0, 1] [] (wr := []) rfl rfl rfl (by decide) (fun z uu H locs hw hP hD hS => ?_)
        have hP : va_P (dC, dI) vwCl [(h, .inr (0, [.ref w, .int (nI U)])), (w, .inl (cL, 1024, .inr (.inl f)))] H := hP.sub [0, 1] rfl
        have hD : va_D A [(h, .inr (0, [.ref w, .int (nI U)])), (w, .inl (cL, 1024, .inr (.inl f)))] := hD.sub [0, 1] (by decide) rfl
        have hw : z = nI U := hw
        subst hw
        refine lv_istore (lv' := [(5, .int (nI U)), (0, .ref h), (1, .int (nI a)), (2, .int (nI d)), (3, .long bits)]) hx hb dR_anyIn_22 hl (by decide) rfl (fun ls hl => ?_)
        refine lv_iload_n hx hb dR_anyIn_24 rfl (lv_at hl 2 rfl) ?_
        refine lv_istore (lv' := [(6, .int (nI a)), (5, .int (nI U)), (0, .ref h), (1, .int (nI a)), (2, .int (nI d)), (3, .long bits)]) hx hb dR_anyIn_25 hl (by decide) rfl (fun ls hl => ?_)
        refine lp_mu (α := Nat) (fun a_ => match a_ with | j => U - j) (fun a_ H locs ls => match a_ with | j => (a + d * j ≤ 2048 ∧ ∀ k, k < j → f (a + d * k) &&& bits = 0) ∧ va_P (dC, dI) vwCl [(h, .inr (0, [.ref w, .int (nI U)])), (w, .inl (cL, 1024, .inr (.inl f)))] H ∧ va_D A [(h, .inr (0, [.ref w, .int (nI U)])), (w, .inl (cL, 1024, .inr (.inl f)))] ∧ va_S A s.heap H locs ∧ lv_has ls 7 [(0, .ref h), (2, .int (nI d)), (3, .long bits), (5, .int (nI U)), (6, .int (nI (a + d * j)))]) ?_ (0) ⟨⟨by omega, fun k hk => absurd hk (Nat.not_lt_zero _)⟩, hP, hD, hS, lv_sub hl [2, 4, 5, 1, 0] rfl⟩
        intro a_ H locs ls hI ih
        obtain ⟨j, rfl⟩ : ∃ z, z = a_ := ⟨_, rfl⟩
        obtain ⟨hI, hP, hD, hS, hl⟩ := hI
        have hI : a + d * j ≤ 2048 ∧ ∀ k, k < j → f (a + d * k) &&& bits = 0 := hI
        have hP : va_P (dC, dI) vwCl [(h, .inr (0, [.ref w, .int (nI U)])), (w, .inl (cL, 1024, .inr (.inl f)))] H := hP
        have hD : va_D A [(h, .inr (0, [.ref w, .int (nI U)])), (w, .inl (cL, 1024, .inr (.inl f)))] := hD
        have hl : lv_has ls 7 [(0, .ref h), (2, .int (nI d)), (3, .long bits), (5, .int (nI U)), (6, .int (nI (a + d * j)))] := hl
        obtain ⟨hi, hg⟩ := hI
        refine lv_iload hx hb dR_anyIn_27 (lv_at hl 4 rfl) ?_
        refine lv_iload hx hb dR_anyIn_29 (lv_at hl 3 rfl) ?_
        refine lv_icmp_ge (tgt := 59) hx hb dR_anyIn_31 (by decide) (fun c4 => ?_) (fun c4 => ?_)
        · have c4 : U ≤ (a + d * j) := (nI_leI (a := U) (b := (a + d * j)) (by omega) (by omega)).mp c4
          refine lv_iconst (v := 0) hx hb dR_anyIn_59 (by decide) ?_
          exact (W.zret (v := 0) hx hb hr (rfl) (fun t ht hW => ⟨⟨0, (), rfl, Or.inr ⟨rfl, fun k hk => by
              rcases Nat.lt_or_ge k j with q | q
              · exact hg k q
              · have : d * j ≤ d * k := Nat.mul_le_mul_left _ q
                exact absurd hk (by omega)⟩, by rw [ht]; exact hP, va_K.moved hW.alike hK, hD⟩, hS.F ht⟩) hS.2.2 dR_anyIn_60)
        · have c4 : (a + d * j) < U := Nat.lt_of_not_le (fun q => c4 ((nI_leI (a := U) (b := (a + d * j)) (by omega) (by omega)).mpr q))
          refine lv_aload_n hx hb dR_anyIn_34 rfl (lv_at hl 0 rfl) ?_
          refine va_get (D := (dC, dI)) (ci := 0) (v := .ref w) (C := RR) (T := TR) (N := 2) hx hb hts lyR hown hK hP 0 rfl rfl 0 (by decide) (hts _ fl_R_11) (fun _ h9 => h9) rfl dR_anyIn_35 ?_
          refine lv_iload hx hb dR_anyIn_38 (lv_at hl 4 rfl) ?_
          refine va_lald hx hb hK hP 1 0 rfl rfl (vp_in_nI (by omega) (by decide)) dR_anyIn_40 ?_
          refine ls_topl (y := f (a + d * j)) (by rw [nI_clamp (by omega)]) ?_
          refine lv_lload_n hx hb dR_anyIn_41 rfl (lv_at hl 2 rfl) ?_
          refine lv_land hx hb dR_anyIn_42 ?_
          refine lv_lconst (v := 0) hx hb dR_anyIn_43 (by decide) ?_
          refine W.lcmp hx hb dR_anyIn_44 ?_
          refine lv_if_eq (tgt := 50) hx hb dR_anyIn_45 (by decide) (fun c5 => ?_) (fun c5 => ?_)
          · have c5 := (ls_cmp0 _).mp c5
            refine lv_iload hx hb dR_anyIn_50 (lv_at hl 4 rfl) ?_
            refine lv_iload_n hx hb dR_anyIn_52 rfl (lv_at hl 1 rfl) ?_
            refine lv_iadd hx hb dR_anyIn_53 ?_
            refine ls_topi (y := nI (a + d * (j + 1))) (by rw [nI_add, Nat.mul_add, Nat.mul_one, Nat.add_assoc]) ?_
            refine lv_istore (lv' := [(6, .int (nI (a + d * (j + 1)))), (0, .ref h), (2, .int (nI d)), (3, .long bits), (5, .int (nI U))]) hx hb dR_anyIn_54 hl (by decide) rfl (fun ls hl => ?_)
            refine lv_goto (tgt := 27) hx hb dR_anyIn_56 (by decide) ?_
            exact ih (j + 1) _ _ _ (by show U - (j + 1) < U - j; have : 1 * j ≤ d * j := Nat.mul_le_mul_right _ h1; omega) ⟨⟨by rw [Nat.mul_add]; omega, fun k hk => by
                rcases Nat.lt_or_ge k j with q | q
                · exact hg k q
                · rw [show k = j by omega]; exact c5⟩, hP, hD, hS, lv_sub hl [1, 2, 3, 4, 0] rfl⟩
          · refine lv_iconst (v := 1) hx hb dR_anyIn_48 (by decide) ?_
            exact (W.zret (v := 1) hx hb hr (rfl) (fun t ht hW => ⟨⟨1, (), rfl, Or.inl ⟨rfl, j, c4, fun q => c5 ((ls_cmp0 _).mpr q)⟩, by rw [ht]; exact hP, va_K.moved hW.alike hK, hD⟩, hS.F ht⟩) hS.2.2 dR_anyIn_49)
      · have c3 : 1024 < d := Nat.lt_of_not_le (fun q => c3 ((nI_leI (a := d) (b := 1024) (by omega) (by omega)).mpr q))
        exact absurd c3 (by omega)
set_option maxHeartbeats 4000000 in
set_option maxRecDepth 100000 in
/-- keepRows(inner, ones, zeros) -/
theorem k_R_keepRows (l : Launch) (dC : Nat → ClassId) (dI : Nat → Nat → Nat) (tI sz : Nat) (h w : Nat) (cL : ClassId) (f : Nat → Int64) (U : Nat) (hU : U ≤ 1024) (inn : Int64) (oo zz : Nat) (hzl : zz < 1024) : Met l yR_keepRows (Cond.code yR_keepRows cR_keepRows 9 (some .boolean) :: GG) (lvr 2 0 0) (va_Pc [.ref h, .long inn, .int (nI oo), .int (nI zz)] (wPre dC dI [(cL, .long)] [(h, .inr (0, [.ref w, .int (nI U)])), (w, .inl (cL, 1024, .inr (.inl f)))] sz tI)) (va_Qi (fun (r : Int32) (u : Nat → Int64) => (∀ k, k < U → u k = f k &&& mk_m k inn oo zz) ∧ ((r = 1 ∧ ∃ k, k < U ∧ u k ≠ 0) ∨ (r = 0 ∧ ∀ k, k < U → u k = 0))) (fun u t => wB dC dI [(cL, .long)] (va_A [(h, .inr (0, [.ref w, .int (nI U)])), (w, .inl (cL, 1024, .inr (.inl f)))] sz) [(h, .inr (0, [.ref w, .int (nI U)])), (w, .inl (cL, 1024, .inr (.inl u)))] t) (va_A [(h, .inr (0, [.ref w, .int (nI U)])), (w, .inl (cL, 1024, .inr (.inl f)))] sz)) 0 0 (va_A [(h, .inr (0, [.ref w, .int (nI U)])), (w, .inl (cL, 1024, .inr (.inl f)))] sz) := by
  refine Met.ofW (cc := cR_keepRows) (maxL := 9) (ret := (some .boolean)) (by decide) rfl ?_
  intro p e s m args below meth c s₁ B hml hv
  obtain ⟨rfl, hsz, hP, hK, hD0, hZ, hX⟩ := hv
  have hx := B.exec
  have hb := B.bytes
  have hr := B.returns
  have hts : ∀ w ∈ GG, w.before ([.ref h, .long inn, .int (nI oo), .int (nI zz)] : List Value).toArray s = true := fun w h => atoms_spec (ws := _ :: GG) B.pre w (List.mem_cons_of_mem _ h)
  have hown : s.vm.findClass RR = some m.cls := findClass_of_methodNamed B.named
  have hlocks := B.notSynchronized
  subst hsz
  have hD := hD0.self (sz := s.heap.size)
  generalize hAe : va_A [(h, .inr (0, [.ref w, .int (nI U)])), (w, .inl (cL, 1024, .inr (.inl f)))] s.heap.size = A at hD hZ ⊢
  have hA : ∀ q : Nat, s.heap.size ≤ q → A q := fun q h => by rw [← hAe]; exact Or.inr h
  have hS : va_S A s.heap s.heap [] := va_S.rf
  have hl := lv_entry ([.ref h, .long inn, .int (nI oo), .int (nI zz)]) (n := 9) (Nat.le_of_ble_eq_true rfl)
  rw [lg_entry_eq]
  generalize (lg_sl ([.ref h, .long inn, .int (nI oo), .int (nI zz)]) ++ List.replicate (9 - (lg_sl ([.ref h, .long inn, .int (nI oo), .int (nI zz)])).length) Slot.unset).toArray = ls at hl ⊢
  have hl : lv_has ls 9 [(0, .ref h), (1, .long inn), (3, .int (nI oo)), (4, .int (nI zz))] := hl
  have SF : CallFix p m c cR_keepRows 9 s ([.ref h, .long inn, .int (nI oo), .int (nI zz)] : List Value).toArray GG RR := ⟨hx, hb, hml, hown, hts⟩
  skip
  have hP : va_P (dC, dI) vwCl [(h, .inr (0, [.ref w, .int (nI U)])), (w, .inl (cL, 1024, .inr (.inl f)))] s.heap := hP
  refine lv_lconst (v := 0) hx hb dR_keepRows_0 (by decide) ?_
  refine lv_lstore (lv' := [(5, .long 0), (0, .ref h), (1, .long inn), (3, .int (nI oo)), (4, .int (nI zz))]) hx hb dR_keepRows_1 hl (by decide) rfl (fun ls hl => ?_)
  refine lv_aload_n hx hb dR_keepRows_3 rfl (lv_at hl 1 rfl) ?_
  have hFc := va_free (wc := [(h, .inr (0, [.ref w, .int (nI U)])), (w, .inl (cL, 1024, .inr (.inl f)))]) hD hS hA [0, 1] rfl
  refine wc_i (wc_V (As := []) (rest := []) (n := 0) SF (k_R_end l dC dI tI _ h w cL f U hU) ml_R_21 im_R_end se_R_end in_R co_R_end (by decide +kernel) rfl rfl rfl ⟨Nat.le_of_ble_eq_true rfl, Nat.le_of_ble_eq_true rfl⟩ (va_recv (hK.sub (tys' := []) [] rfl) (hP.sub (ws' := [(h, .inr (0, [.ref w, .int (nI U)])), (w, .inl (cL, 1024, .inr (.inl f)))]) [0, 1] rfl) (ci := 0) (q0 := 0) rfl rfl) (hP.sub [0, 1] rfl) (hD.sub [0, 1] (by decide) rfl) (hK.sub [0] rfl) hZ hX hS hFc rfl hl.1 (Nat.le_of_ble_eq_true rfl) dR_keepRows_4 ⟨Nat.le_of_ble_eq_true rfl, Nat.le_of_ble_eq_true rfl⟩) hP hD hS hFc [0, 1] [] (wr := []) rfl rfl rfl (by decide) (fun z uu H locs hw hP hD hS => ?_)
  have hP : va_P (dC, dI) vwCl [(h, .inr (0, [.ref w, .int (nI U)])), (w, .inl (cL, 1024, .inr (.inl f)))] H := hP.sub [0, 1] rfl
  have hD : va_D A [(h, .inr (0, [.ref w, .int (nI U)])), (w, .inl (cL, 1024, .inr (.inl f)))] := hD.sub [0, 1] (by decide) rfl
  have hw : z = nI U := hw
  subst hw
  refine lv_istore (lv' := [(7, .int (nI U)), (5, .long 0), (0, .ref h), (1, .long inn), (3, .int (nI oo)), (4, .int (nI zz))]) hx hb dR_keepRows_7 hl (by decide) rfl (fun ls hl => ?_)
  refine lv_iconst (v := 0) hx hb dR_keepRows_9 (by decide) ?_
  refine lv_istore (lv' := [(8, .int 0), (7, .int (nI U)), (5, .long 0), (0, .ref h), (1, .long inn), (3, .int (nI oo)), (4, .int (nI zz))]) hx hb dR_keepRows_10 hl (by decide) rfl (fun ls hl => ?_)
  refine lp_mu (α := Nat × (Nat → Int64) × Int64) (fun a_ => match a_ with | (i, g, left) => U - i) (fun a_ H locs ls => match a_ with | (i, g, left) => (mk_KW f (fun k => f k &&& mk_m k inn oo zz) U i g left) ∧ va_P (dC, dI) vwCl [(h, .inr (0, [.ref w, .int (nI U)])), (w, .inl (cL, 1024, .inr (.inl g)))] H ∧ va_D A [(h, .inr (0, [.ref w, .int (nI U)])), (w, .inl (cL, 1024, .inr (.inl g)))] ∧ va_S A s.heap H locs ∧ lv_has ls 9 [(0, .ref h), (1, .long inn), (3, .int (nI oo)), (4, .int (nI zz)), (5, .long left), (7, .int (nI U)), (8, .int (nI i))]) ?_ (0, f, 0) ⟨mk_kw0, hP, hD, hS, lv_sub hl [3, 4, 5, 6, 2, 1, 0] rfl⟩
  intro a_ H locs ls hI ih
  obtain ⟨i, g, left⟩ := a_
  obtain ⟨hI, hP, hD, hS, hl⟩ := hI
  have hI : mk_KW f (fun k => f k &&& mk_m k inn oo zz) U i g left := hI
  have hP : va_P (dC, dI) vwCl [(h, .inr (0, [.ref w, .int (nI U)])), (w, .inl (cL, 1024, .inr (.inl g)))] H := hP
  have hD : va_D A [(h, .inr (0, [.ref w, .int (nI U)])), (w, .inl (cL, 1024, .inr (.inl g)))] := hD
  have hl : lv_has ls 9 [(0, .ref h), (1, .long inn), (3, .int (nI oo)), (4, .int (nI zz)), (5, .long left), (7, .int (nI U)), (8, .int (nI i))] := hl
  have hi := hI.1
  have hge := hI.2.2.1
  refine lv_iload hx hb dR_keepRows_12 (lv_at hl 6 rfl) ?_
  refine lv_iload hx hb dR_keepRows_14 (lv_at hl 5 rfl) ?_
  refine lv_icmp_ge (tgt := 65) hx hb dR_keepRows_16 (by decide) (fun c1 => ?_) (fun c1 => ?_)
  · have c1 : U ≤ i := (nI_leI (a := U) (b := i) (by omega) (by omega)).mp c1
    refine lv_lload hx hb dR_keepRows_65 (lv_at hl 4 rfl) ?_
    refine lv_lconst (v := 0) hx hb dR_keepRows_67 (by decide) ?_
    refine W.lcmp hx hb dR_keepRows_68 ?_
    refine lv_if_eq (tgt := 76) hx hb dR_keepRows_69 (by decide) (fun c2 => ?_) (fun c2 => ?_)
    · have c2 := (ls_cmp0 _).mp c2
      refine lv_iconst (v := 0) hx hb dR_keepRows_76 (by decide) ?_
      exact (W.zret (v := 0) hx hb hr (rfl) (fun t ht hW => ⟨⟨0, g, rfl, ⟨fun k hk => hI.2.1 k (by omega), Or.inr ⟨rfl, fun k hk => hI.2.2.2.2 c2 k (by omega)⟩⟩, by rw [ht]; exact hP, va_K.moved hW.alike hK, hD⟩, hS.F ht⟩) hS.2.2 dR_keepRows_77)
    · refine lv_iconst (v := 1) hx hb dR_keepRows_72 (by decide) ?_
      refine lv_goto (tgt := 77) hx hb dR_keepRows_73 (by decide) ?_
      exact (W.zret (v := 1) hx hb hr (rfl) (fun t ht hW => ⟨⟨1, g, rfl, ⟨fun k hk => hI.2.1 k (by omega), Or.inl ⟨rfl, by
          refine Classical.byContradiction fun q => c2 ((ls_cmp0 _).mpr (hI.2.2.2.1 (fun k hk => ?_)))
          refine Classical.byContradiction fun q2 => q ⟨k, by omega, q2⟩⟩⟩, by rw [ht]; exact hP, va_K.moved hW.alike hK, hD⟩, hS.F ht⟩) hS.2.2 dR_keepRows_77)
  · have c1 : i < U := Nat.lt_of_not_le (fun q => c1 ((nI_leI (a := U) (b := i) (by omega) (by omega)).mpr q))
    have hb1 : i &&& oo ≤ i := Nat.and_le_left
    have hb2 : mk_no i zz ≤ zz := Nat.and_le_right
    refine lv_iload hx hb dR_keepRows_19 (lv_at hl 6 rfl) ?_
    refine lv_iload_n hx hb dR_keepRows_21 rfl (lv_at hl 2 rfl) ?_
    refine lv_iand hx hb dR_keepRows_22 ?_
    refine ls_topi (y := nI (i &&& oo)) (nx_and _ _) ?_
    refine lv_if_ne (tgt := 47) hx hb dR_keepRows_23 (by decide) (fun c3 => ?_) (fun c3 => ?_)
    · have c3 : (i &&& oo) ≠ 0 := fun q => c3 ((nI_eq (a := (i &&& oo)) (b := 0) (by omega) (by omega)).mpr q)
      have em : f i = f i &&& mk_m i inn oo zz := by rw [mk_mo c3, mk_am1]
      refine lv_lload hx hb dR_keepRows_47 (lv_at hl 4 rfl) ?_
      refine lv_aload_n hx hb dR_keepRows_49 rfl (lv_at hl 0 rfl) ?_
      refine va_get (D := (dC, dI)) (ci := 0) (v := .ref w) (C := RR) (T := TR) (N := 2) hx hb hts lyR hown hK hP 0 rfl rfl 0 (by decide) (hts _ fl_R_11) (fun _ h9 => h9) rfl dR_keepRows_50 ?_
      refine lv_iload hx hb dR_keepRows_53 (lv_at hl 6 rfl) ?_
      refine va_lald hx hb hK hP 1 0 rfl rfl (vp_in_nI (by omega) (by decide)) dR_keepRows_55 ?_
      refine ls_topl (y := f i) (by rw [nI_clamp (by omega)]; exact hge i (Nat.le_refl i)) ?_
      refine lv_lor hx hb dR_keepRows_56 ?_
      refine lv_lstore (lv' := [(5, .long (left ||| (f i))), (0, .ref h), (1, .long inn), (3, .int (nI oo)), (4, .int (nI zz)), (7, .int (nI U)), (8, .int (nI i))]) hx hb dR_keepRows_57 hl (by decide) rfl (fun ls hl => ?_)
      refine lv_iinc (v := nI (i + 1)) (lv' := [(8, .int (nI (i + 1))), (5, .long (left ||| (f i))), (0, .ref h), (1, .long inn), (3, .int (nI oo)), (4, .int (nI zz)), (7, .int (nI U))]) hx hb dR_keepRows_59 hl (k := 6) rfl (nI_1 _) (by decide) rfl (fun ls hl => ?_)
      refine lv_goto (tgt := 12) hx hb dR_keepRows_62 (by decide) ?_
      exact ih (i + 1, g, left ||| f i) _ _ _ (by show U - (i + 1) < U - i; omega) ⟨mk_kws c1 hI em, hP, hD, hS, lv_sub hl [2, 3, 4, 5, 1, 6, 0] rfl⟩
    · have c3 : (i &&& oo) = 0 := (nI_eq (a := (i &&& oo)) (b := 0) (by omega) (by omega)).mp c3
      refine lv_iload hx hb dR_keepRows_26 (lv_at hl 6 rfl) ?_
      refine lv_iconst (v := (-1)) hx hb dR_keepRows_28 (by decide) ?_
      refine lv_ixor hx hb dR_keepRows_29 ?_
      refine lv_iload hx hb dR_keepRows_30 (lv_at hl 3 rfl) ?_
      refine lv_iand hx hb dR_keepRows_32 ?_
      refine ls_topi (y := nI (mk_no i zz)) (mk_nx (by omega)) ?_
      refine lv_if_ne (tgt := 47) hx hb dR_keepRows_33 (by decide) (fun c4 => ?_) (fun c4 => ?_)
      · have c4 : (mk_no i zz) ≠ 0 := fun q => c4 ((nI_eq (a := (mk_no i zz)) (b := 0) (by omega) (by omega)).mpr q)
        have em : f i = f i &&& mk_m i inn oo zz := by rw [mk_mz c4, mk_am1]
        refine lv_lload hx hb dR_keepRows_47 (lv_at hl 4 rfl) ?_
        refine lv_aload_n hx hb dR_keepRows_49 rfl (lv_at hl 0 rfl) ?_
        refine va_get (D := (dC, dI)) (ci := 0) (v := .ref w) (C := RR) (T := TR) (N := 2) hx hb hts lyR hown hK hP 0 rfl rfl 0 (by decide) (hts _ fl_R_11) (fun _ h9 => h9) rfl dR_keepRows_50 ?_
        refine lv_iload hx hb dR_keepRows_53 (lv_at hl 6 rfl) ?_
        refine va_lald hx hb hK hP 1 0 rfl rfl (vp_in_nI (by omega) (by decide)) dR_keepRows_55 ?_
        refine ls_topl (y := f i) (by rw [nI_clamp (by omega)]; exact hge i (Nat.le_refl i)) ?_
        refine lv_lor hx hb dR_keepRows_56 ?_
        refine lv_lstore (lv' := [(5, .long (left ||| (f i))), (0, .ref h), (1, .long inn), (3, .int (nI oo)), (4, .int (nI zz)), (7, .int (nI U)), (8, .int (nI i))]) hx hb dR_keepRows_57 hl (by decide) rfl (fun ls hl => ?_)
        refine lv_iinc (v := nI (i + 1)) (lv' := [(8, .int (nI (i + 1))), (5, .long (left ||| (f i))), (0, .ref h), (1, .long inn), (3, .int (nI oo)), (4, .int (nI zz)), (7, .int (nI U))]) hx hb dR_keepRows_59 hl (k := 6) rfl (nI_1 _) (by decide) rfl (fun ls hl => ?_)
        refine lv_goto (tgt := 12) hx hb dR_keepRows_62 (by decide) ?_
        exact ih (i + 1, g, left ||| f i) _ _ _ (by show U - (i + 1) < U - i; omega) ⟨mk_kws c1 hI em, hP, hD, hS, lv_sub hl [2, 3, 4, 5, 1, 6, 0] rfl⟩
      · have c4 : (mk_no i zz) = 0 := (nI_eq (a := (mk_no i zz)) (b := 0) (by omega) (by omega)).mp c4
        refine lv_aload_n hx hb dR_keepRows_36 rfl (lv_at hl 0 rfl) ?_
        refine va_get (D := (dC, dI)) (ci := 0) (v := .ref w) (C := RR) (T := TR) (N := 2) hx hb hts lyR hown hK hP 0 rfl rfl 0 (by decide) (hts _ fl_R_11) (fun _ h9 => h9) rfl dR_keepRows_37 ?_
        refine lv_iload hx hb dR_keepRows_40 (lv_at hl 6 rfl) ?_
        refine lv_dup2_11 hx hb dR_keepRows_42 rfl rfl ?_
        refine va_lald hx hb hK hP 1 0 rfl rfl (vp_in_nI (by omega) (by decide)) dR_keepRows_43 ?_
        refine ls_topl (y := f i) (by rw [nI_clamp (by omega)]; exact hge i (Nat.le_refl i)) ?_
        refine lv_lload_n hx hb dR_keepRows_44 rfl (lv_at hl 1 rfl) ?_
        refine lv_land hx hb dR_keepRows_45 ?_
        refine va_last hx hb hK hP hD hS 1 0 rfl rfl (vp_in_nI (by omega) (by decide)) dR_keepRows_46 (fun H locs hP hD hS => ?_)
        rw [show vp_updL g (nI i).toNatClampNeg ((f i) &&& inn) = vp_updL g i (f i &&& inn) from by rw [nI_clamp (by omega)]] at hP hD
        have hP : va_P (dC, dI) vwCl [(h, .inr (0, [.ref w, .int (nI U)])), (w, .inl (cL, 1024, .inr (.inl (vp_updL g i (f i &&& inn)))))] H := hP
        have hD : va_D A [(h, .inr (0, [.ref w, .int (nI U)])), (w, .inl (cL, 1024, .inr (.inl (vp_updL g i (f i &&& inn)))))] := hD
        refine lv_lload hx hb dR_keepRows_47 (lv_at hl 4 rfl) ?_
        refine lv_aload_n hx hb dR_keepRows_49 rfl (lv_at hl 0 rfl) ?_
        refine va_get (D := (dC, dI)) (ci := 0) (v := .ref w) (C := RR) (T := TR) (N := 2) hx hb hts lyR hown hK hP 0 rfl rfl 0 (by decide) (hts _ fl_R_11) (fun _ h9 => h9) rfl dR_keepRows_50 ?_
        refine lv_iload hx hb dR_keepRows_53 (lv_at hl 6 rfl) ?_
        refine va_lald hx hb hK hP 1 0 rfl rfl (vp_in_nI (by omega) (by decide)) dR_keepRows_55 ?_
        refine ls_topl (y := f i &&& inn) (by rw [nI_clamp (by omega)]; simp [vp_updL]) ?_
        refine lv_lor hx hb dR_keepRows_56 ?_
        refine lv_lstore (lv' := [(5, .long (left ||| (f i &&& inn))), (0, .ref h), (1, .long inn), (3, .int (nI oo)), (4, .int (nI zz)), (7, .int (nI U)), (8, .int (nI i))]) hx hb dR_keepRows_57 hl (by decide) rfl (fun ls hl => ?_)
        refine lv_iinc (v := nI (i + 1)) (lv' := [(8, .int (nI (i + 1))), (5, .long (left ||| (f i &&& inn))), (0, .ref h), (1, .long inn), (3, .int (nI oo)), (4, .int (nI zz)), (7, .int (nI U))]) hx hb dR_keepRows_59 hl (k := 6) rfl (nI_1 _) (by decide) rfl (fun ls hl => ?_)
        refine lv_goto (tgt := 12) hx hb dR_keepRows_62 (by decide) ?_
        exact ih (i + 1, vp_updL g i (f i &&& inn), left ||| (f i &&& inn)) _ _ _ (by show U - (i + 1) < U - i; omega) ⟨mk_kwu c1 hI (by show _ = f i &&& mk_m i inn oo zz; rw [mk_m0 c3 c4]), hP, hD, hS, lv_sub hl [2, 3, 4, 5, 1, 6, 0] rfl⟩
set_option maxHeartbeats 4000000 in
set_option maxRecDepth 100000 in
/-- keepWith(l) -/
theorem k_R_keepWith (l : Launch) (dC : Nat → ClassId) (dI : Nat → Nat → Nat) (tI sz : Nat) (h w : Nat) (cL : ClassId) (f : Nat → Int64) (U : Nat) (hU : U ≤ 1024) (L : Nat) (hL : L < 32) : Met l yR_keepWith (Cond.code yR_keepWith cR_keepWith 2 (some .boolean) :: GG) (lvr 3 0 0) (va_Pc [.ref h, .int (nI L)] (wPre dC dI [(cL, .long)] [(h, .inr (0, [.ref w, .int (nI U)])), (w, .inl (cL, 1024, .inr (.inl f)))] sz tI)) (va_Qi (fun (r : Int32) (u : Nat → Int64) => (∀ k, k < U → u k = f k &&& ls_rw L k) ∧ ((r = 1 ∧ ∃ k, k < U ∧ u k ≠ 0) ∨ (r = 0 ∧ ∀ k, k < U → u k = 0))) (fun u t => wB dC dI [(cL, .long)] (va_A [(h, .inr (0, [.ref w, .int (nI U)])), (w, .inl (cL, 1024, .inr (.inl f)))] sz) [(h, .inr (0, [.ref w, .int (nI U)])), (w, .inl (cL, 1024, .inr (.inl u)))] t) (va_A [(h, .inr (0, [.ref w, .int (nI U)])), (w, .inl (cL, 1024, .inr (.inl f)))] sz)) 0 0 (va_A [(h, .inr (0, [.ref w, .int (nI U)])), (w, .inl (cL, 1024, .inr (.inl f)))] sz) := by
  refine Met.ofW (cc := cR_keepWith) (maxL := 2) (ret := (some .boolean)) (by decide) rfl ?_
  intro p e s m args below meth c s₁ B hml hv
  obtain ⟨rfl, hsz, hP, hK, hD0, hZ, hX⟩ := hv
  have hx := B.exec
  have hb := B.bytes
  have hr := B.returns
  have hts : ∀ w ∈ GG, w.before ([.ref h, .int (nI L)] : List Value).toArray s = true := fun w h => atoms_spec (ws := _ :: GG) B.pre w (List.mem_cons_of_mem _ h)
  have hown : s.vm.findClass RR = some m.cls := findClass_of_methodNamed B.named
  have hlocks := B.notSynchronized
  subst hsz
  have hD := hD0.self (sz := s.heap.size)
  generalize hAe : va_A [(h, .inr (0, [.ref w, .int (nI U)])), (w, .inl (cL, 1024, .inr (.inl f)))] s.heap.size = A at hD hZ ⊢
  have hA : ∀ q : Nat, s.heap.size ≤ q → A q := fun q h => by rw [← hAe]; exact Or.inr h
  have hS : va_S A s.heap s.heap [] := va_S.rf
  have hl := lv_entry ([.ref h, .int (nI L)]) (n := 2) (Nat.le_of_ble_eq_true rfl)
  rw [lg_entry_eq]
  generalize (lg_sl ([.ref h, .int (nI L)]) ++ List.replicate (2 - (lg_sl ([.ref h, .int (nI L)])).length) Slot.unset).toArray = ls at hl ⊢
  have hl : lv_has ls 2 [(0, .ref h), (1, .int (nI L))] := hl
  have SF : CallFix p m c cR_keepWith 2 s ([.ref h, .int (nI L)] : List Value).toArray GG RR := ⟨hx, hb, hml, hown, hts⟩
  skip
  have hP : va_P (dC, dI) vwCl [(h, .inr (0, [.ref w, .int (nI U)])), (w, .inl (cL, 1024, .inr (.inl f)))] s.heap := hP
  refine lv_aload_n hx hb dR_keepWith_0 rfl (lv_at hl 0 rfl) ?_
  refine lv_iload_n hx hb dR_keepWith_1 rfl (lv_at hl 1 rfl) ?_
  have hFc := va_free (wc := []) hD hS hA [] rfl
  refine wc_l (wc_S (As := [.int (nI L)]) (rest := [.ref h]) (n := 1) SF (k_R_innerRows l dC dI tI _ L hL) ml_R_42 st_R_innerRows in_R co_R_innerRows (by decide +kernel) rfl rfl rfl ⟨Nat.le_of_ble_eq_true rfl, Nat.le_of_ble_eq_true rfl⟩ (hP.sub [] rfl) (hD.sub [] (by decide) rfl) (hK.sub [] rfl) hZ hX hS hFc rfl hl.1 (Nat.le_of_ble_eq_true rfl) dR_keepWith_2 ⟨Nat.le_of_ble_eq_true rfl, Nat.le_of_ble_eq_true rfl⟩) hP hD hS hFc [] [0, 1] (wr := [(h, .inr (0, [.ref w, .int (nI U)])), (w, .inl (cL, 1024, .inr (.inl f)))]) rfl rfl rfl (by decide) (fun z uu H locs hw hP hD hS => ?_)
  have hP : va_P (dC, dI) vwCl [(h, .inr (0, [.ref w, .int (nI U)])), (w, .inl (cL, 1024, .inr (.inl f)))] H := hP.sub [0, 1] rfl
  have hD : va_D A [(h, .inr (0, [.ref w, .int (nI U)])), (w, .inl (cL, 1024, .inr (.inl f)))] := hD.sub [0, 1] (by decide) rfl
  have hw : z = mk_in L := hw
  subst hw
  refine lv_iload_n hx hb dR_keepWith_5 rfl (lv_at hl 1 rfl) ?_
  have hFc := va_free (wc := []) hD hS hA [] rfl
  refine wc_i (wc_S (As := [.int (nI L)]) (rest := [.long (mk_in L), .ref h]) (n := 1) SF (k_R_outerOnes l dC dI tI _ L hL) ml_R_46 st_R_outerOnes in_R co_R_outerOnes (by decide +kernel) rfl rfl rfl ⟨Nat.le_of_ble_eq_true rfl, Nat.le_of_ble_eq_true rfl⟩ (hP.sub [] rfl) (hD.sub [] (by decide) rfl) (hK.sub [] rfl) hZ hX hS hFc rfl hl.1 (Nat.le_of_ble_eq_true rfl) dR_keepWith_6 ⟨Nat.le_of_ble_eq_true rfl, Nat.le_of_ble_eq_true rfl⟩) hP hD hS hFc [] [0, 1] (wr := [(h, .inr (0, [.ref w, .int (nI U)])), (w, .inl (cL, 1024, .inr (.inl f)))]) rfl rfl rfl (by decide) (fun z uu H locs hw hP hD hS => ?_)
  have hP : va_P (dC, dI) vwCl [(h, .inr (0, [.ref w, .int (nI U)])), (w, .inl (cL, 1024, .inr (.inl f)))] H := hP.sub [0, 1] rfl
  have hD : va_D A [(h, .inr (0, [.ref w, .int (nI U)])), (w, .inl (cL, 1024, .inr (.inl f)))] := hD.sub [0, 1] (by decide) rfl
  have hw : z = nI (mk_on L) := hw
  subst hw
  refine lv_iload_n hx hb dR_keepWith_9 rfl (lv_at hl 1 rfl) ?_
  have hFc := va_free (wc := []) hD hS hA [] rfl
  refine wc_i (wc_S (As := [.int (nI L)]) (rest := [.int (nI (mk_on L)), .long (mk_in L), .ref h]) (n := 1) SF (k_R_outerZeros l dC dI tI _ L hL) ml_R_50 st_R_outerZeros in_R co_R_outerZeros (by decide +kernel) rfl rfl rfl ⟨Nat.le_of_ble_eq_true rfl, Nat.le_of_ble_eq_true rfl⟩ (hP.sub [] rfl) (hD.sub [] (by decide) rfl) (hK.sub [] rfl) hZ hX hS hFc rfl hl.1 (Nat.le_of_ble_eq_true rfl) dR_keepWith_10 ⟨Nat.le_of_ble_eq_true rfl, Nat.le_of_ble_eq_true rfl⟩) hP hD hS hFc [] [0, 1] (wr := [(h, .inr (0, [.ref w, .int (nI U)])), (w, .inl (cL, 1024, .inr (.inl f)))]) rfl rfl rfl (by decide) (fun z uu H locs hw hP hD hS => ?_)
  have hP : va_P (dC, dI) vwCl [(h, .inr (0, [.ref w, .int (nI U)])), (w, .inl (cL, 1024, .inr (.inl f)))] H := hP.sub [0, 1] rfl
  have hD : va_D A [(h, .inr (0, [.ref w, .int (nI U)])), (w, .inl (cL, 1024, .inr (.inl f)))] := hD.sub [0, 1] (by decide) rfl
  have hw : z = nI (mk_ze L) := hw
  subst hw
  have hFc := va_free (wc := [(h, .inr (0, [.ref w, .int (nI U)])), (w, .inl (cL, 1024, .inr (.inl f)))]) hD hS hA [0, 1] rfl
  refine wc_i (wc_V (As := [.long (mk_in L), .int (nI (mk_on L)), .int (nI (mk_ze L))]) (rest := []) (n := 3) SF (k_R_keepRows l dC dI tI _ h w cL f U hU (mk_in L) (mk_on L) (mk_ze L) (mk_ze_lt L)) ml_R_57 im_R_keepRows se_R_keepRows in_R co_R_keepRows (by decide +kernel) rfl rfl rfl ⟨Nat.le_of_ble_eq_true rfl, Nat.le_of_ble_eq_true rfl⟩ (va_recv (hK.sub (tys' := []) [] rfl) (hP.sub (ws' := [(h, .inr (0, [.ref w, .int (nI U)])), (w, .inl (cL, 1024, .inr (.inl f)))]) [0, 1] rfl) (ci := 0) (q0 := 0) rfl rfl) (hP.sub [0, 1] rfl) (hD.sub [0, 1] (by decide) rfl) (hK.sub [0] rfl) hZ hX hS hFc rfl hl.1 (Nat.le_of_ble_eq_true rfl) dR_keepWith_13 ⟨Nat.le_of_ble_eq_true rfl, Nat.le_of_ble_eq_true rfl⟩) hP hD hS hFc [0, 1] [] (wr := []) rfl rfl rfl (by decide) (fun z uu H locs hw hP hD hS => ?_)
  have hP : va_P (dC, dI) vwCl [(h, .inr (0, [.ref w, .int (nI U)])), (w, .inl (cL, 1024, .inr (.inl uu)))] H := hP.sub [0, 1] rfl
  have hD : va_D A [(h, .inr (0, [.ref w, .int (nI U)])), (w, .inl (cL, 1024, .inr (.inl uu)))] := hD.sub [0, 1] (by decide) rfl
  have hz9 : z = 1 ∨ z = 0 := by
    rcases hw.2 with ⟨q, _⟩ | ⟨q, _⟩
    · exact Or.inl q
    · exact Or.inr q
  exact (W.zret (v := z) hx hb hr ((ax_b01 hz9).1) (fun t ht hW => ⟨⟨z, uu, rfl, ⟨fun k hk => by rw [hw.1 k hk, mk_lit hL (by omega)], hw.2⟩, by rw [ht]; exact hP, va_K.moved hW.alike hK, hD⟩, hS.F ht⟩) hS.2.2 dR_keepWith_16)
set_option maxHeartbeats 4000000 in
set_option maxRecDepth 100000 in
/-- Long.bitCount -/
theorem k_J_bitCount (l : Launch) (dC : Nat → ClassId) (dI : Nat → Nat → Nat) (tI sz : Nat) (n : Nat) (hn : n < 2 ^ 64) : Met l yJ_bitCount (Cond.code yJ_bitCount cJ_bitCount 2 (some .int) :: GG) (lvr 0 0 0) (va_Pc [.long (lN n)] (wPre dC dI [] [] sz tI)) (va_Qi (fun (r : Int32) (u : Unit) => r = nI (ls_cnt (fun i => n.testBit i) 64)) (fun u t => wB dC dI [] (va_A [] sz) [] t) (va_A [] sz)) 0 0 (va_A [] sz) := by
  refine Met.ofW (cc := cJ_bitCount) (maxL := 2) (ret := (some .int)) (by decide) rfl ?_
  intro p e s m args below meth c s₁ B hml hv
  obtain ⟨rfl, hsz, hP, hK, hD0, hZ, hX⟩ := hv
  have hx := B.exec
  have hb := B.bytes
  have hr := B.returns
  have hts : ∀ w ∈ GG, w.before ([.long (lN n)] : List Value).toArray s = true := fun w h => atoms_spec (ws := _ :: GG) B.pre w (List.mem_cons_of_mem _ h)
  have hown : s.vm.findClass RJ = some m.cls := findClass_of_methodNamed B.named
  have hlocks := B.notSynchronized
  subst hsz
  have hD := hD0.self (sz := s.heap.size)
  generalize hAe : va_A [] s.heap.size = A at hD hZ ⊢
  have hA : ∀ q : Nat, s.heap.size ≤ q → A q := fun q h => by rw [← hAe]; exact Or.inr h
  have hS : va_S A s.heap s.heap [] := va_S.rf
  have hl := lv_entry ([.long (lN n)]) (n := 2) (Nat.le_of_ble_eq_true rfl)
  rw [lg_entry_eq]
  generalize (lg_sl ([.long (lN n)]) ++ List.replicate (2 - (lg_sl ([.long (lN n)])).length) Slot.unset).toArray = ls at hl ⊢
  have hl : lv_has ls 2 [(0, .long (lN n))] := hl
  have SF : CallFix p m c cJ_bitCount 2 s ([.long (lN n)] : List Value).toArray GG RJ := ⟨hx, hb, hml, hown, hts⟩
  skip
  have hP : va_P (dC, dI) vwCl [] s.heap := hP
  obtain ⟨x1, x2, x3, x4, x5, x6, e1, l1, e2, l2, e3, l3, e4, l4, e5, l5, e6, hc⟩ := bc_java n hn
  refine lv_lload_n hx hb dJ_bitCount_0 rfl (lv_at hl 0 rfl) ?_
  refine lv_lload_n hx hb dJ_bitCount_1 rfl (lv_at hl 0 rfl) ?_
  refine lv_iconst (v := 1) hx hb dJ_bitCount_2 (by decide) ?_
  refine lv_lushr hx hb dJ_bitCount_3 rfl ?_
  refine ls_topl (y := lN (n / 2)) (wb_shr (k := 1) hn (by decide)) ?_
  refine lv_ldc2 (v := 6148914691236517205) hx hb hown (hts _ cj_J_314) dJ_bitCount_4 ?_
  refine lv_land hx hb dJ_bitCount_7 ?_
  refine lv_lsub hx hb dJ_bitCount_8 ?_
  refine ls_topl (y := lN x1) (e1) ?_
  refine lv_lstore_n (lv' := [(0, .long (lN x1))]) hx hb dJ_bitCount_9 rfl hl (by decide) rfl (fun ls hl => ?_)
  refine lv_lload_n hx hb dJ_bitCount_10 rfl (lv_at hl 0 rfl) ?_
  refine lv_ldc2 (v := 3689348814741910323) hx hb hown (hts _ cj_J_316) dJ_bitCount_11 ?_
  refine lv_land hx hb dJ_bitCount_14 ?_
  refine lv_lload_n hx hb dJ_bitCount_15 rfl (lv_at hl 0 rfl) ?_
  refine lv_iconst (v := 2) hx hb dJ_bitCount_16 (by decide) ?_
  refine lv_lushr hx hb dJ_bitCount_17 rfl ?_
  refine ls_topl (y := lN (x1 / 4)) (wb_shr (k := 2) l1 (by decide)) ?_
  refine lv_ldc2 (v := 3689348814741910323) hx hb hown (hts _ cj_J_316) dJ_bitCount_18 ?_
  refine lv_land hx hb dJ_bitCount_21 ?_
  refine lv_ladd hx hb dJ_bitCount_22 ?_
  refine ls_topl (y := lN x2) (e2) ?_
  refine lv_lstore_n (lv' := [(0, .long (lN x2))]) hx hb dJ_bitCount_23 rfl hl (by decide) rfl (fun ls hl => ?_)
  refine lv_lload_n hx hb dJ_bitCount_24 rfl (lv_at hl 0 rfl) ?_
  refine lv_lload_n hx hb dJ_bitCount_25 rfl (lv_at hl 0 rfl) ?_
  refine lv_iconst (v := 4) hx hb dJ_bitCount_26 (by decide) ?_
  refine lv_lushr hx hb dJ_bitCount_27 rfl ?_
  refine ls_topl (y := lN (x2 / 16)) (wb_shr (k := 4) l2 (by decide)) ?_
  refine lv_ladd hx hb dJ_bitCount_28 ?_
  refine lv_ldc2 (v := 1085102592571150095) hx hb hown (hts _ cj_J_318) dJ_bitCount_29 ?_
  refine lv_land hx hb dJ_bitCount_32 ?_
  refine ls_topl (y := lN x3) (e3) ?_
  refine lv_lstore_n (lv' := [(0, .long (lN x3))]) hx hb dJ_bitCount_33 rfl hl (by decide) rfl (fun ls hl => ?_)
  refine lv_lload_n hx hb dJ_bitCount_34 rfl (lv_at hl 0 rfl) ?_
  refine lv_lload_n hx hb dJ_bitCount_35 rfl (lv_at hl 0 rfl) ?_
  refine lv_bipush (v := 8) hx hb dJ_bitCount_36 (by decide) ?_
  refine lv_lushr hx hb dJ_bitCount_38 rfl ?_
  refine ls_topl (y := lN (x3 / 256)) (wb_shr (k := 8) l3 (by decide)) ?_
  refine lv_ladd hx hb dJ_bitCount_39 ?_
  refine ls_topl (y := lN x4) (e4) ?_
  refine lv_lstore_n (lv' := [(0, .long (lN x4))]) hx hb dJ_bitCount_40 rfl hl (by decide) rfl (fun ls hl => ?_)
  refine lv_lload_n hx hb dJ_bitCount_41 rfl (lv_at hl 0 rfl) ?_
  refine lv_lload_n hx hb dJ_bitCount_42 rfl (lv_at hl 0 rfl) ?_
  refine lv_bipush (v := 16) hx hb dJ_bitCount_43 (by decide) ?_
  refine lv_lushr hx hb dJ_bitCount_45 rfl ?_
  refine ls_topl (y := lN (x4 / 65536)) (wb_shr (k := 16) l4 (by decide)) ?_
  refine lv_ladd hx hb dJ_bitCount_46 ?_
  refine ls_topl (y := lN x5) (e5) ?_
  refine lv_lstore_n (lv' := [(0, .long (lN x5))]) hx hb dJ_bitCount_47 rfl hl (by decide) rfl (fun ls hl => ?_)
  refine lv_lload_n hx hb dJ_bitCount_48 rfl (lv_at hl 0 rfl) ?_
  refine lv_lload_n hx hb dJ_bitCount_49 rfl (lv_at hl 0 rfl) ?_
  refine lv_bipush (v := 32) hx hb dJ_bitCount_50 (by decide) ?_
  refine lv_lushr hx hb dJ_bitCount_52 rfl ?_
  refine ls_topl (y := lN (x5 / 4294967296)) (wb_shr (k := 32) l5 (by decide)) ?_
  refine lv_ladd hx hb dJ_bitCount_53 ?_
  refine ls_topl (y := lN x6) (e6) ?_
  refine lv_lstore_n (lv' := [(0, .long (lN x6))]) hx hb dJ_bitCount_54 rfl hl (by decide) rfl (fun ls hl => ?_)
  refine lv_lload_n hx hb dJ_bitCount_55 rfl (lv_at hl 0 rfl) ?_
  refine lv_l2i hx hb dJ_bitCount_56 rfl ?_
  refine lv_bipush (v := 127) hx hb dJ_bitCount_57 (by decide) ?_
  refine lv_iand hx hb dJ_bitCount_59 ?_
  refine ls_topi (y := nI (x6 % 128)) (by rw [lN_i]; exact ax_m7 x6) ?_
  exact (W.iret (v := nI (x6 % 128)) hx hb hr (fun t ht hW => ⟨⟨nI (x6 % 128), (), rfl, (show _ = nI (ls_cnt (fun i => n.testBit i) 64) by rw [hc]), by rw [ht]; exact hP, va_K.moved hW.alike hK, hD⟩, hS.F ht⟩) hS.2.2 dJ_bitCount_60)
set_option maxHeartbeats 4000000 in
set_option maxRecDepth 100000 in
/-- count() -/
theorem k_R_count (l : Launch) (dC : Nat → ClassId) (dI : Nat → Nat → Nat) (tI sz : Nat) (h w : Nat) (cL : ClassId) (f : Nat → Int64) (U : Nat) (hU : U ≤ 1024) : Met l yR_count (Cond.code yR_count cR_count 4 (some .int) :: GG) (lvr 2 0 0) (va_Pc [.ref h] (wPre dC dI [(cL, .long)] [(h, .inr (0, [.ref w, .int (nI U)])), (w, .inl (cL, 1024, .inr (.inl f)))] sz tI)) (va_Qi (fun (r : Int32) (u : Unit) => r = nI (ls_sum f U)) (fun u t => wB dC dI [(cL, .long)] (va_A [(h, .inr (0, [.ref w, .int (nI U)])), (w, .inl (cL, 1024, .inr (.inl f)))] sz) [(h, .inr (0, [.ref w, .int (nI U)])), (w, .inl (cL, 1024, .inr (.inl f)))] t) (va_A [(h, .inr (0, [.ref w, .int (nI U)])), (w, .inl (cL, 1024, .inr (.inl f)))] sz)) 0 0 (va_A [(h, .inr (0, [.ref w, .int (nI U)])), (w, .inl (cL, 1024, .inr (.inl f)))] sz) := by
  refine Met.ofW (cc := cR_count) (maxL := 4) (ret := (some .int)) (by decide) rfl ?_
  intro p e s m args below meth c s₁ B hml hv
  obtain ⟨rfl, hsz, hP, hK, hD0, hZ, hX⟩ := hv
  have hx := B.exec
  have hb := B.bytes
  have hr := B.returns
  have hts : ∀ w ∈ GG, w.before ([.ref h] : List Value).toArray s = true := fun w h => atoms_spec (ws := _ :: GG) B.pre w (List.mem_cons_of_mem _ h)
  have hown : s.vm.findClass RR = some m.cls := findClass_of_methodNamed B.named
  have hlocks := B.notSynchronized
  subst hsz
  have hD := hD0.self (sz := s.heap.size)
  generalize hAe : va_A [(h, .inr (0, [.ref w, .int (nI U)])), (w, .inl (cL, 1024, .inr (.inl f)))] s.heap.size = A at hD hZ ⊢
  have hA : ∀ q : Nat, s.heap.size ≤ q → A q := fun q h => by rw [← hAe]; exact Or.inr h
  have hS : va_S A s.heap s.heap [] := va_S.rf
  have hl := lv_entry ([.ref h]) (n := 4) (Nat.le_of_ble_eq_true rfl)
  rw [lg_entry_eq]
  generalize (lg_sl ([.ref h]) ++ List.replicate (4 - (lg_sl ([.ref h])).length) Slot.unset).toArray = ls at hl ⊢
  have hl : lv_has ls 4 [(0, .ref h)] := hl
  have SF : CallFix p m c cR_count 4 s ([.ref h] : List Value).toArray GG RR := ⟨hx, hb, hml, hown, hts⟩
  skip
  have hP : va_P (dC, dI) vwCl [(h, .inr (0, [.ref w, .int (nI U)])), (w, .inl (cL, 1024, .inr (.inl f)))] s.heap := hP
  refine lv_iconst (v := 0) hx hb dR_count_0 (by decide) ?_
  refine lv_istore_n (lv' := [(1, .int 0), (0, .ref h)]) hx hb dR_count_1 rfl hl (by decide) rfl (fun ls hl => ?_)
  refine lv_aload_n hx hb dR_count_2 rfl (lv_at hl 1 rfl) ?_
  have hFc := va_free (wc := [(h, .inr (0, [.ref w, .int (nI U)])), (w, .inl (cL, 1024, .inr (.inl f)))]) hD hS hA [0, 1] rfl
  refine wc_i (wc_V (As := []) (rest := []) (n := 0) SF (k_R_end l dC dI tI _ h w cL f U hU) ml_R_21 im_R_end se_R_end in_R co_R_end (by decide +kernel) rfl rfl rfl ⟨Nat.le_of_ble_eq_true rfl, Nat.le_of_ble_eq_true rfl⟩ (va_recv (hK.sub (tys' := []) [] rfl) (hP.sub (ws' := [(h, .inr (0, [.ref w, .int (nI U)])), (w, .inl (cL, 1024, .inr (.inl f)))]) [0, 1] rfl) (ci := 0) (q0 := 0) rfl rfl) (hP.sub [0, 1] rfl) (hD.sub [0, 1] (by decide) rfl) (hK.sub [0] rfl) hZ hX hS hFc rfl hl.1 (Nat.le_of_ble_eq_true rfl) dR_count_3 ⟨Nat.le_of_ble_eq_true rfl, Nat.le_of_ble_eq_true rfl⟩) hP hD hS hFc [0, 1] [] (wr := []) rfl rfl rfl (by decide) (fun z uu H locs hw hP hD hS => ?_)
  have hP : va_P (dC, dI) vwCl [(h, .inr (0, [.ref w, .int (nI U)])), (w, .inl (cL, 1024, .inr (.inl f)))] H := hP.sub [0, 1] rfl
  have hD : va_D A [(h, .inr (0, [.ref w, .int (nI U)])), (w, .inl (cL, 1024, .inr (.inl f)))] := hD.sub [0, 1] (by decide) rfl
  have hw : z = nI U := hw
  subst hw
  refine lv_istore_n (lv' := [(2, .int (nI U)), (1, .int 0), (0, .ref h)]) hx hb dR_count_6 rfl hl (by decide) rfl (fun ls hl => ?_)
  refine lv_iconst (v := 0) hx hb dR_count_7 (by decide) ?_
  refine lv_istore_n (lv' := [(3, .int 0), (2, .int (nI U)), (1, .int 0), (0, .ref h)]) hx hb dR_count_8 rfl hl (by decide) rfl (fun ls hl => ?_)
  refine lp_mu (α := Nat) (fun a_ => match a_ with | i => U - i) (fun a_ H locs ls => match a_ with | i => (i ≤ U ∧ True) ∧ va_P (dC, dI) vwCl [(h, .inr (0, [.ref w, .int (nI U)])), (w, .inl (cL, 1024, .inr (.inl f)))] H ∧ va_D A [(h, .inr (0, [.ref w, .int (nI U)])), (w, .inl (cL, 1024, .inr (.inl f)))] ∧ va_S A s.heap H locs ∧ lv_has ls 4 [(0, .ref h), (1, .int (nI (ls_sum f i))), (2, .int (nI U)), (3, .int (nI i))]) ?_ (0) ⟨⟨Nat.zero_le _, trivial⟩, hP, hD, hS, lv_sub hl [3, 2, 1, 0] rfl⟩
  intro a_ H locs ls hI ih
  obtain ⟨i, rfl⟩ : ∃ z, z = a_ := ⟨_, rfl⟩
  obtain ⟨hI, hP, hD, hS, hl⟩ := hI
  have hI : i ≤ U ∧ True := hI
  have hP : va_P (dC, dI) vwCl [(h, .inr (0, [.ref w, .int (nI U)])), (w, .inl (cL, 1024, .inr (.inl f)))] H := hP
  have hD : va_D A [(h, .inr (0, [.ref w, .int (nI U)])), (w, .inl (cL, 1024, .inr (.inl f)))] := hD
  have hl : lv_has ls 4 [(0, .ref h), (1, .int (nI (ls_sum f i))), (2, .int (nI U)), (3, .int (nI i))] := hl
  obtain ⟨hi, hg⟩ := hI
  refine lv_iload_n hx hb dR_count_9 rfl (lv_at hl 3 rfl) ?_
  refine lv_iload_n hx hb dR_count_10 rfl (lv_at hl 2 rfl) ?_
  refine lv_icmp_ge (tgt := 32) hx hb dR_count_11 (by decide) (fun c1 => ?_) (fun c1 => ?_)
  · have c1 : U ≤ i := (nI_leI (a := U) (b := i) (by omega) (by omega)).mp c1
    refine lv_iload_n hx hb dR_count_32 rfl (lv_at hl 1 rfl) ?_
    exact (W.iret (v := nI (ls_sum f i)) hx hb hr (fun t ht hW => ⟨⟨nI (ls_sum f i), (), rfl, (show _ = nI (ls_sum f U) by rw [show U = i by omega]), by rw [ht]; exact hP, va_K.moved hW.alike hK, hD⟩, hS.F ht⟩) hS.2.2 dR_count_33)
  · have c1 : i < U := Nat.lt_of_not_le (fun q => c1 ((nI_leI (a := U) (b := i) (by omega) (by omega)).mpr q))
    refine lv_iload_n hx hb dR_count_14 rfl (lv_at hl 1 rfl) ?_
    refine lv_aload_n hx hb dR_count_15 rfl (lv_at hl 0 rfl) ?_
    refine va_get (D := (dC, dI)) (ci := 0) (v := .ref w) (C := RR) (T := TR) (N := 2) hx hb hts lyR hown hK hP 0 rfl rfl 0 (by decide) (hts _ fl_R_11) (fun _ h9 => h9) rfl dR_count_16 ?_
    refine lv_iload_n hx hb dR_count_19 rfl (lv_at hl 3 rfl) ?_
    refine va_lald hx hb hK hP 1 0 rfl rfl (vp_in_nI (by omega) (by decide)) dR_count_20 ?_
    obtain ⟨n, hn, en⟩ := wb_of (f i)
    refine ls_topl (y := lN n) (by rw [nI_clamp (by omega)]; exact en) ?_
    have hFc := va_free (wc := []) hD hS hA [] rfl
    refine wc_i (wc_S (As := [.long (lN n)]) (rest := [.int (nI (ls_sum f i))]) (n := 1) SF (k_J_bitCount l dC dI tI _ n hn) ml_R_61 st_J_bitCount in_J co_J_bitCount (by decide +kernel) rfl rfl rfl ⟨Nat.le_of_ble_eq_true rfl, Nat.le_of_ble_eq_true rfl⟩ (hP.sub [] rfl) (hD.sub [] (by decide) rfl) (hK.sub [] rfl) hZ hX hS hFc rfl hl.1 (Nat.le_of_ble_eq_true rfl) dR_count_21 ⟨Nat.le_of_ble_eq_true rfl, Nat.le_of_ble_eq_true rfl⟩) hP hD hS hFc [] [0, 1] (wr := [(h, .inr (0, [.ref w, .int (nI U)])), (w, .inl (cL, 1024, .inr (.inl f)))]) rfl rfl rfl (by decide) (fun z uu H locs hw hP hD hS => ?_)
    have hP : va_P (dC, dI) vwCl [(h, .inr (0, [.ref w, .int (nI U)])), (w, .inl (cL, 1024, .inr (.inl f)))] H := hP.sub [0, 1] rfl
    have hD : va_D A [(h, .inr (0, [.ref w, .int (nI U)])), (w, .inl (cL, 1024, .inr (.inl f)))] := hD.sub [0, 1] (by decide) rfl
    have hw : z = nI (ls_cnt (ls_b (f i)) 64) := by
      rw [show z = nI (ls_cnt (fun i => n.testBit i) 64) from hw]
      congr 1
      exact ls_cnt_congr (fun b _ => by rw [en, ls_b_lN hn])
    subst hw
    refine lv_iadd hx hb dR_count_24 ?_
    refine ls_topi (y := nI (ls_sum f (i + 1))) (nI_add _ _) ?_
    refine lv_istore_n (lv' := [(1, .int (nI (ls_sum f (i + 1)))), (0, .ref h), (2, .int (nI U)), (3, .int (nI i))]) hx hb dR_count_25 rfl hl (by decide) rfl (fun ls hl => ?_)
    refine lv_iinc (v := nI (i + 1)) (lv' := [(3, .int (nI (i + 1))), (1, .int (nI (ls_sum f (i + 1)))), (0, .ref h), (2, .int (nI U))]) hx hb dR_count_26 hl (k := 3) rfl (nI_1 _) (by decide) rfl (fun ls hl => ?_)
    refine lv_goto (tgt := 9) hx hb dR_count_29 (by decide) ?_
    exact ih (i + 1) _ _ _ (by show U - (i + 1) < U - i; omega) ⟨⟨c1, trivial⟩, hP, hD, hS, lv_sub hl [2, 1, 3, 0] rfl⟩
