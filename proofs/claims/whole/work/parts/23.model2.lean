set_option maxHeartbeats 4000000 in
set_option maxRecDepth 100000 in
theorem k_M_isRight (l : Launch) (dC : Nat → ClassId) (dI : Nat → Nat → Nat) (tI sz : Nat) (g0 aL aS aF aN aA aO aV aT : Nat) (kL kS kF kN kV : ClassId) (lf sf ff nf vf : Nat → Int32) (nv nc us dr as th : Nat) (co la bl : Int32) (v : Nat) (hv : v < 16) (lit st vv : Nat → Nat) (cs : List Nat) (hch : lm_ch nf (ff v) cs) (hC : lm_C lf sf lit st cs) (hV : sv_V vf vv) : Met l yM_isRight (Cond.code yM_isRight cM_isRight 5 (some .boolean) :: GG) (lvr 0 0 0) (va_Pc [.ref g0, .int (nI v)] (wPre dC dI [(kL, .int), (kS, .int), (kF, .int), (kN, .int), (kV, .int)] [(g0, .inr (2, [.int co, .int (nI nv), .int (nI nc), .ref aL, .int (nI us), .ref aS, .int (nI dr), .ref aF, .ref aN, .ref aA, .int (nI as), .ref aO, .ref aV, .int la, .int bl, .ref aT, .int (nI th)])), (aL, .inl (kL, 4000, .inl lf)), (aS, .inl (kS, 501, .inl sf)), (aF, .inl (kF, 17, .inl ff)), (aN, .inl (kN, 500, .inl nf)), (aV, .inl (kV, 16, .inl vf))] sz tI)) (va_Qi (fun (r : Int32) (u : Unit) => (r = 1 ∧ ∀ c ∈ cs, lm_T lit st vv c) ∨ (r = 0 ∧ ∃ c ∈ cs, ¬ lm_T lit st vv c)) (fun u t => wB dC dI [(kL, .int), (kS, .int), (kF, .int), (kN, .int), (kV, .int)] (va_A [(g0, .inr (2, [.int co, .int (nI nv), .int (nI nc), .ref aL, .int (nI us), .ref aS, .int (nI dr), .ref aF, .ref aN, .ref aA, .int (nI as), .ref aO, .ref aV, .int la, .int bl, .ref aT, .int (nI th)])), (aL, .inl (kL, 4000, .inl lf)), (aS, .inl (kS, 501, .inl sf)), (aF, .inl (kF, 17, .inl ff)), (aN, .inl (kN, 500, .inl nf)), (aV, .inl (kV, 16, .inl vf))] sz) [(g0, .inr (2, [.int co, .int (nI nv), .int (nI nc), .ref aL, .int (nI us), .ref aS, .int (nI dr), .ref aF, .ref aN, .ref aA, .int (nI as), .ref aO, .ref aV, .int la, .int bl, .ref aT, .int (nI th)])), (aL, .inl (kL, 4000, .inl lf)), (aS, .inl (kS, 501, .inl sf)), (aF, .inl (kF, 17, .inl ff)), (aN, .inl (kN, 500, .inl nf)), (aV, .inl (kV, 16, .inl vf))] t) (va_A [(g0, .inr (2, [.int co, .int (nI nv), .int (nI nc), .ref aL, .int (nI us), .ref aS, .int (nI dr), .ref aF, .ref aN, .ref aA, .int (nI as), .ref aO, .ref aV, .int la, .int bl, .ref aT, .int (nI th)])), (aL, .inl (kL, 4000, .inl lf)), (aS, .inl (kS, 501, .inl sf)), (aF, .inl (kF, 17, .inl ff)), (aN, .inl (kN, 500, .inl nf)), (aV, .inl (kV, 16, .inl vf))] sz)) 0 0 (va_A [(g0, .inr (2, [.int co, .int (nI nv), .int (nI nc), .ref aL, .int (nI us), .ref aS, .int (nI dr), .ref aF, .ref aN, .ref aA, .int (nI as), .ref aO, .ref aV, .int la, .int bl, .ref aT, .int (nI th)])), (aL, .inl (kL, 4000, .inl lf)), (aS, .inl (kS, 501, .inl sf)), (aF, .inl (kF, 17, .inl ff)), (aN, .inl (kN, 500, .inl nf)), (aV, .inl (kV, 16, .inl vf))] sz) := by
  refine Met.ofW (cc := cM_isRight) (maxL := 5) (ret := (some .boolean)) (by decide) rfl ?_
  intro p e s m args below meth c s₁ B hml hv
  obtain ⟨rfl, hsz, hP, hK, hD0, hZ, hX⟩ := hv
  have hx := B.exec
  have hb := B.bytes
  have hr := B.returns
  have hts : ∀ w ∈ GG, w.before ([.ref g0, .int (nI v)] : List Value).toArray s = true := fun w h => atoms_spec (ws := _ :: GG) B.pre w (List.mem_cons_of_mem _ h)
  have hown : s.vm.findClass RM = some m.cls := findClass_of_methodNamed B.named
  have hlocks := B.notSynchronized
  subst hsz
  have hD := hD0.self (sz := s.heap.size)
  generalize hAe : va_A [(g0, .inr (2, [.int co, .int (nI nv), .int (nI nc), .ref aL, .int (nI us), .ref aS, .int (nI dr), .ref aF, .ref aN, .ref aA, .int (nI as), .ref aO, .ref aV, .int la, .int bl, .ref aT, .int (nI th)])), (aL, .inl (kL, 4000, .inl lf)), (aS, .inl (kS, 501, .inl sf)), (aF, .inl (kF, 17, .inl ff)), (aN, .inl (kN, 500, .inl nf)), (aV, .inl (kV, 16, .inl vf))] s.heap.size = A at hD hZ ⊢
  have hA : ∀ q : Nat, s.heap.size ≤ q → A q := fun q h => by rw [← hAe]; exact Or.inr h
  have hS : va_S A s.heap s.heap [] := va_S.rf
  have hl := lv_entry ([.ref g0, .int (nI v)]) (n := 5) (Nat.le_of_ble_eq_true rfl)
  rw [lg_entry_eq]
  generalize (lg_sl ([.ref g0, .int (nI v)]) ++ List.replicate (5 - (lg_sl ([.ref g0, .int (nI v)])).length) Slot.unset).toArray = ls at hl ⊢
  have hl : lv_has ls 5 [(0, .ref g0), (1, .int (nI v))] := hl
  have SF : CallFix p m c cM_isRight 5 s ([.ref g0, .int (nI v)] : List Value).toArray GG RM := ⟨hx, hb, hml, hown, hts⟩
  skip
  have hP : va_P (dC, dI) vwCl [(g0, .inr (2, [.int co, .int (nI nv), .int (nI nc), .ref aL, .int (nI us), .ref aS, .int (nI dr), .ref aF, .ref aN, .ref aA, .int (nI as), .ref aO, .ref aV, .int la, .int bl, .ref aT, .int (nI th)])), (aL, .inl (kL, 4000, .inl lf)), (aS, .inl (kS, 501, .inl sf)), (aF, .inl (kF, 17, .inl ff)), (aN, .inl (kN, 500, .inl nf)), (aV, .inl (kV, 16, .inl vf))] s.heap := hP
  refine lv_iconst (v := 1) hx hb dM_isRight_0 (by decide) ?_
  refine lv_istore_n (lv' := [(2, .int 1), (0, .ref g0), (1, .int (nI v))]) hx hb dM_isRight_1 rfl hl (by decide) rfl (fun ls hl => ?_)
  refine lv_aload_n hx hb dM_isRight_2 rfl (lv_at hl 1 rfl) ?_
  refine va_get (D := (dC, dI)) (ci := 2) (v := .ref aF) (C := RM) (T := TM) (N := 17) hx hb hts lyM hown hK hP 0 rfl rfl 7 (by decide) (hts _ fl_M_16) (fun _ h9 => h9) rfl dM_isRight_3 ?_
  refine lv_iload_n hx hb dM_isRight_6 rfl (lv_at hl 2 rfl) ?_
  refine va_iald hx hb hK hP 3 2 rfl rfl (vp_in_nI (by omega) (by decide)) dM_isRight_7 ?_
  refine ls_topi (y := ff v) (by rw [nI_clamp (by omega)]) ?_
  refine lv_istore_n (lv' := [(3, .int (ff v)), (2, .int 1), (0, .ref g0), (1, .int (nI v))]) hx hb dM_isRight_8 rfl hl (by decide) rfl (fun ls hl => ?_)
  refine lp_mu (α := Int32 × (List Nat) × Nat) (fun a_ => match a_ with | (x, t, rt) => t.length) (fun a_ H locs ls => match a_ with | (x, t, rt) => (lm_I nf lit st vv cs x t rt) ∧ va_P (dC, dI) vwCl [(g0, .inr (2, [.int co, .int (nI nv), .int (nI nc), .ref aL, .int (nI us), .ref aS, .int (nI dr), .ref aF, .ref aN, .ref aA, .int (nI as), .ref aO, .ref aV, .int la, .int bl, .ref aT, .int (nI th)])), (aL, .inl (kL, 4000, .inl lf)), (aS, .inl (kS, 501, .inl sf)), (aF, .inl (kF, 17, .inl ff)), (aN, .inl (kN, 500, .inl nf)), (aV, .inl (kV, 16, .inl vf))] H ∧ va_D A [(g0, .inr (2, [.int co, .int (nI nv), .int (nI nc), .ref aL, .int (nI us), .ref aS, .int (nI dr), .ref aF, .ref aN, .ref aA, .int (nI as), .ref aO, .ref aV, .int la, .int bl, .ref aT, .int (nI th)])), (aL, .inl (kL, 4000, .inl lf)), (aS, .inl (kS, 501, .inl sf)), (aF, .inl (kF, 17, .inl ff)), (aN, .inl (kN, 500, .inl nf)), (aV, .inl (kV, 16, .inl vf))] ∧ va_S A s.heap H locs ∧ lv_has ls 5 [(0, .ref g0), (2, .int (nI rt)), (3, .int x)]) ?_ (ff v, cs, 1) ⟨lm_I0 hch, hP, hD, hS, lv_sub hl [2, 1, 0] rfl⟩
  intro a_ H locs ls hI ih
  obtain ⟨x, t, rt⟩ := a_
  obtain ⟨hI, hP, hD, hS, hl⟩ := hI
  have hI : lm_I nf lit st vv cs x t rt := hI
  have hP : va_P (dC, dI) vwCl [(g0, .inr (2, [.int co, .int (nI nv), .int (nI nc), .ref aL, .int (nI us), .ref aS, .int (nI dr), .ref aF, .ref aN, .ref aA, .int (nI as), .ref aO, .ref aV, .int la, .int bl, .ref aT, .int (nI th)])), (aL, .inl (kL, 4000, .inl lf)), (aS, .inl (kS, 501, .inl sf)), (aF, .inl (kF, 17, .inl ff)), (aN, .inl (kN, 500, .inl nf)), (aV, .inl (kV, 16, .inl vf))] H := hP
  have hD : va_D A [(g0, .inr (2, [.int co, .int (nI nv), .int (nI nc), .ref aL, .int (nI us), .ref aS, .int (nI dr), .ref aF, .ref aN, .ref aA, .int (nI as), .ref aO, .ref aV, .int la, .int bl, .ref aT, .int (nI th)])), (aL, .inl (kL, 4000, .inl lf)), (aS, .inl (kS, 501, .inl sf)), (aF, .inl (kF, 17, .inl ff)), (aN, .inl (kN, 500, .inl nf)), (aV, .inl (kV, 16, .inl vf))] := hD
  have hl : lv_has ls 5 [(0, .ref g0), (2, .int (nI rt)), (3, .int x)] := hl
  have hrt : rt ≤ 1 := by rcases hI.2.2 with h | h <;> omega
  refine lv_iload_n hx hb dM_isRight_9 rfl (lv_at hl 2 rfl) ?_
  refine lv_iconst (v := (-1)) hx hb dM_isRight_10 (by decide) ?_
  refine lv_icmp_eq (tgt := 95) hx hb dM_isRight_11 (by decide) (fun c1 => ?_) (fun c1 => ?_)
  · have tn := lm_nil hI.1 c1 (fun c hc => (hC c (hI.2.1 c hc)).1)
    rcases hI.2.2 with ⟨e1, h3⟩ | ⟨e1, h3⟩
    · subst e1
      refine lv_iload_n hx hb dM_isRight_95 rfl (lv_at hl 1 rfl) ?_
      exact (W.zret (v := nI 1) hx hb hr (rfl) (fun t ht hW => ⟨⟨nI 1, (), rfl, Or.inl ⟨rfl, h3 (by rw [tn]; simp)⟩, by rw [ht]; exact hP, va_K.moved hW.alike hK, hD⟩, hS.F ht⟩) hS.2.2 dM_isRight_96)
    · subst e1
      refine lv_iload_n hx hb dM_isRight_95 rfl (lv_at hl 1 rfl) ?_
      exact (W.zret (v := nI 0) hx hb hr (rfl) (fun t ht hW => ⟨⟨nI 0, (), rfl, Or.inr ⟨rfl, h3⟩, by rw [ht]; exact hP, va_K.moved hW.alike hK, hD⟩, hS.F ht⟩) hS.2.2 dM_isRight_96)
  · refine lv_iload_n hx hb dM_isRight_14 rfl (lv_at hl 1 rfl) ?_
    refine lv_if_eq (tgt := 95) hx hb dM_isRight_15 (by decide) (fun c2 => ?_) (fun c2 => ?_)
    · have c2 : rt = 0 := (nI_eq (a := rt) (b := 0) (by omega) (by omega)).mp c2
      rcases hI.2.2 with ⟨e1, h3⟩ | ⟨e1, h3⟩
      · exact absurd (e1.symm.trans c2) (by decide)
      · subst e1
        refine lv_iload_n hx hb dM_isRight_95 rfl (lv_at hl 1 rfl) ?_
        exact (W.zret (v := nI 0) hx hb hr (rfl) (fun t ht hW => ⟨⟨nI 0, (), rfl, Or.inr ⟨rfl, h3⟩, by rw [ht]; exact hP, va_K.moved hW.alike hK, hD⟩, hS.F ht⟩) hS.2.2 dM_isRight_96)
    · have c2 : rt ≠ 0 := fun q => c2 ((nI_eq (a := rt) (b := 0) (by omega) (by omega)).mpr q)
      obtain ⟨c0, t1, et, ec, hch1⟩ := lm_cons hI.1 c1
      have hr1 : rt = 1 := by omega
      subst et
      subst ec
      subst hr1
      obtain ⟨q1, q2, q3, q4, q5, q6⟩ := hC c0 (hI.2.1 c0 (by simp))
      refine lv_iconst (v := 0) hx hb dM_isRight_18 (by decide) ?_
      refine lv_istore_n (lv' := [(2, .int 0), (0, .ref g0), (3, .int (nI c0))]) hx hb dM_isRight_19 rfl hl (by decide) rfl (fun ls hl => ?_)
      refine lv_aload_n hx hb dM_isRight_20 rfl (lv_at hl 1 rfl) ?_
      refine va_get (D := (dC, dI)) (ci := 2) (v := .ref aS) (C := RM) (T := TM) (N := 17) hx hb hts lyM hown hK hP 0 rfl rfl 5 (by decide) (hts _ fl_M_13) (fun _ h9 => h9) rfl dM_isRight_21 ?_
      refine lv_iload_n hx hb dM_isRight_24 rfl (lv_at hl 2 rfl) ?_
      refine va_iald hx hb hK hP 2 1 rfl rfl (vp_in_nI (by omega) (by decide)) dM_isRight_25 ?_
      refine ls_topi (y := nI (st c0)) (by rw [nI_clamp (by omega)]; exact q2) ?_
      refine lv_istore (lv' := [(4, .int (nI (st c0))), (2, .int 0), (0, .ref g0), (3, .int (nI c0))]) hx hb dM_isRight_26 hl (by decide) rfl (fun ls hl => ?_)
      refine lp_mu (α := Nat × Nat) (fun a_ => match a_ with | (k, r2) => st (c0 + 1) - k) (fun a_ H locs ls => match a_ with | (k, r2) => (st c0 ≤ k ∧ k ≤ st (c0 + 1) ∧ ((r2 = 0 ∧ ∀ j, st c0 ≤ j → j < k → ¬ vv (lit j / 2) = 1 - lit j % 2) ∨ (r2 = 1 ∧ lm_T lit st vv c0))) ∧ va_P (dC, dI) vwCl [(g0, .inr (2, [.int co, .int (nI nv), .int (nI nc), .ref aL, .int (nI us), .ref aS, .int (nI dr), .ref aF, .ref aN, .ref aA, .int (nI as), .ref aO, .ref aV, .int la, .int bl, .ref aT, .int (nI th)])), (aL, .inl (kL, 4000, .inl lf)), (aS, .inl (kS, 501, .inl sf)), (aF, .inl (kF, 17, .inl ff)), (aN, .inl (kN, 500, .inl nf)), (aV, .inl (kV, 16, .inl vf))] H ∧ va_D A [(g0, .inr (2, [.int co, .int (nI nv), .int (nI nc), .ref aL, .int (nI us), .ref aS, .int (nI dr), .ref aF, .ref aN, .ref aA, .int (nI as), .ref aO, .ref aV, .int la, .int bl, .ref aT, .int (nI th)])), (aL, .inl (kL, 4000, .inl lf)), (aS, .inl (kS, 501, .inl sf)), (aF, .inl (kF, 17, .inl ff)), (aN, .inl (kN, 500, .inl nf)), (aV, .inl (kV, 16, .inl vf))] ∧ va_S A s.heap H locs ∧ lv_has ls 5 [(0, .ref g0), (2, .int (nI r2)), (3, .int (nI c0)), (4, .int (nI k))]) ?_ (st c0, 0) ⟨⟨Nat.le_refl _, q4, Or.inl ⟨rfl, fun j j1 j2 => absurd j2 (by omega)⟩⟩, hP, hD, hS, lv_sub hl [2, 1, 3, 0] rfl⟩
      intro a_ H locs ls hJ ih2
      obtain ⟨k, r2⟩ := a_
      obtain ⟨hJ, hP, hD, hS, hl⟩ := hJ
      have hJ : st c0 ≤ k ∧ k ≤ st (c0 + 1) ∧ ((r2 = 0 ∧ ∀ j, st c0 ≤ j → j < k → ¬ vv (lit j / 2) = 1 - lit j % 2) ∨ (r2 = 1 ∧ lm_T lit st vv c0)) := hJ
      have hP : va_P (dC, dI) vwCl [(g0, .inr (2, [.int co, .int (nI nv), .int (nI nc), .ref aL, .int (nI us), .ref aS, .int (nI dr), .ref aF, .ref aN, .ref aA, .int (nI as), .ref aO, .ref aV, .int la, .int bl, .ref aT, .int (nI th)])), (aL, .inl (kL, 4000, .inl lf)), (aS, .inl (kS, 501, .inl sf)), (aF, .inl (kF, 17, .inl ff)), (aN, .inl (kN, 500, .inl nf)), (aV, .inl (kV, 16, .inl vf))] H := hP
      have hD : va_D A [(g0, .inr (2, [.int co, .int (nI nv), .int (nI nc), .ref aL, .int (nI us), .ref aS, .int (nI dr), .ref aF, .ref aN, .ref aA, .int (nI as), .ref aO, .ref aV, .int la, .int bl, .ref aT, .int (nI th)])), (aL, .inl (kL, 4000, .inl lf)), (aS, .inl (kS, 501, .inl sf)), (aF, .inl (kF, 17, .inl ff)), (aN, .inl (kN, 500, .inl nf)), (aV, .inl (kV, 16, .inl vf))] := hD
      have hl : lv_has ls 5 [(0, .ref g0), (2, .int (nI r2)), (3, .int (nI c0)), (4, .int (nI k))] := hl
      have hr2 : r2 ≤ 1 := by rcases hJ.2.2 with h | h <;> omega
      have hk1 := hJ.1
      have hk2 := hJ.2.1
      refine lv_iload hx hb dM_isRight_28 (lv_at hl 3 rfl) ?_
      refine lv_aload_n hx hb dM_isRight_30 rfl (lv_at hl 0 rfl) ?_
      refine va_get (D := (dC, dI)) (ci := 2) (v := .ref aS) (C := RM) (T := TM) (N := 17) hx hb hts lyM hown hK hP 0 rfl rfl 5 (by decide) (hts _ fl_M_13) (fun _ h9 => h9) rfl dM_isRight_31 ?_
      refine lv_iload_n hx hb dM_isRight_34 rfl (lv_at hl 2 rfl) ?_
      refine lv_iconst (v := 1) hx hb dM_isRight_35 (by decide) ?_
      refine lv_iadd hx hb dM_isRight_36 ?_
      refine ls_topi (y := nI (c0 + 1)) (nI_1 _) ?_
      refine va_iald hx hb hK hP 2 1 rfl rfl (vp_in_nI (by omega) (by decide)) dM_isRight_37 ?_
      refine ls_topi (y := nI (st (c0 + 1))) (by rw [nI_clamp (by omega)]; exact q3) ?_
      refine lv_icmp_ge (tgt := 85) hx hb dM_isRight_38 (by decide) (fun c3 => ?_) (fun c3 => ?_)
      · have c3 : (st (c0 + 1)) ≤ k := (nI_leI (a := (st (c0 + 1))) (b := k) (by omega) (by omega)).mp c3
        rcases hJ.2.2 with ⟨e2, h2⟩ | ⟨e2, h2⟩
        · subst e2
          refine lv_aload_n hx hb dM_isRight_85 rfl (lv_at hl 0 rfl) ?_
          refine va_get (D := (dC, dI)) (ci := 2) (v := .ref aN) (C := RM) (T := TM) (N := 17) hx hb hts lyM hown hK hP 0 rfl rfl 8 (by decide) (hts _ fl_M_19) (fun _ h9 => h9) rfl dM_isRight_86 ?_
          refine lv_iload_n hx hb dM_isRight_89 rfl (lv_at hl 2 rfl) ?_
          refine va_iald hx hb hK hP 4 3 rfl rfl (vp_in_nI (by omega) (by decide)) dM_isRight_90 ?_
          refine ls_topi (y := nf c0) (by rw [nI_clamp (by omega)]) ?_
          refine lv_istore_n (lv' := [(3, .int (nf c0)), (0, .ref g0), (2, .int (nI 0)), (4, .int (nI k))]) hx hb dM_isRight_91 rfl hl (by decide) rfl (fun ls hl => ?_)
          refine lv_goto (tgt := 9) hx hb dM_isRight_92 (by decide) ?_
          exact ih (nf c0, t1, 0) _ _ _ (Nat.lt_succ_self _) ⟨lm_If hI (fun ⟨j, j1, j2, j3⟩ => h2 j j1 (by omega) j3), hP, hD, hS, lv_sub hl [1, 2, 0] rfl⟩
        · subst e2
          refine lv_aload_n hx hb dM_isRight_85 rfl (lv_at hl 0 rfl) ?_
          refine va_get (D := (dC, dI)) (ci := 2) (v := .ref aN) (C := RM) (T := TM) (N := 17) hx hb hts lyM hown hK hP 0 rfl rfl 8 (by decide) (hts _ fl_M_19) (fun _ h9 => h9) rfl dM_isRight_86 ?_
          refine lv_iload_n hx hb dM_isRight_89 rfl (lv_at hl 2 rfl) ?_
          refine va_iald hx hb hK hP 4 3 rfl rfl (vp_in_nI (by omega) (by decide)) dM_isRight_90 ?_
          refine ls_topi (y := nf c0) (by rw [nI_clamp (by omega)]) ?_
          refine lv_istore_n (lv' := [(3, .int (nf c0)), (0, .ref g0), (2, .int (nI 1)), (4, .int (nI k))]) hx hb dM_isRight_91 rfl hl (by decide) rfl (fun ls hl => ?_)
          refine lv_goto (tgt := 9) hx hb dM_isRight_92 (by decide) ?_
          exact ih (nf c0, t1, 1) _ _ _ (Nat.lt_succ_self _) ⟨lm_It hI h2, hP, hD, hS, lv_sub hl [1, 2, 0] rfl⟩
      · have c3 : k < (st (c0 + 1)) := Nat.lt_of_not_le (fun q => c3 ((nI_leI (a := (st (c0 + 1))) (b := k) (by omega) (by omega)).mpr q))
        refine lv_iload_n hx hb dM_isRight_41 rfl (lv_at hl 1 rfl) ?_
        refine lv_if_ne (tgt := 85) hx hb dM_isRight_42 (by decide) (fun c4 => ?_) (fun c4 => ?_)
        · have c4 : r2 ≠ 0 := fun q => c4 ((nI_eq (a := r2) (b := 0) (by omega) (by omega)).mpr q)
          rcases hJ.2.2 with ⟨e2, h2⟩ | ⟨e2, h2⟩
          · exact absurd e2 c4
          · subst e2
            refine lv_aload_n hx hb dM_isRight_85 rfl (lv_at hl 0 rfl) ?_
            refine va_get (D := (dC, dI)) (ci := 2) (v := .ref aN) (C := RM) (T := TM) (N := 17) hx hb hts lyM hown hK hP 0 rfl rfl 8 (by decide) (hts _ fl_M_19) (fun _ h9 => h9) rfl dM_isRight_86 ?_
            refine lv_iload_n hx hb dM_isRight_89 rfl (lv_at hl 2 rfl) ?_
            refine va_iald hx hb hK hP 4 3 rfl rfl (vp_in_nI (by omega) (by decide)) dM_isRight_90 ?_
            refine ls_topi (y := nf c0) (by rw [nI_clamp (by omega)]) ?_
            refine lv_istore_n (lv' := [(3, .int (nf c0)), (0, .ref g0), (2, .int (nI 1)), (4, .int (nI k))]) hx hb dM_isRight_91 rfl hl (by decide) rfl (fun ls hl => ?_)
            refine lv_goto (tgt := 9) hx hb dM_isRight_92 (by decide) ?_
            exact ih (nf c0, t1, 1) _ _ _ (Nat.lt_succ_self _) ⟨lm_It hI h2, hP, hD, hS, lv_sub hl [1, 2, 0] rfl⟩
        · have c4 : r2 = 0 := (nI_eq (a := r2) (b := 0) (by omega) (by omega)).mp c4
          have hall := (hJ.2.2.resolve_right (fun h => absurd (h.1.symm.trans c4) (by decide))).2
          obtain ⟨lk1, lk2⟩ := q6 k hk1 c3
          refine lv_aload_n hx hb dM_isRight_45 rfl (lv_at hl 0 rfl) ?_
          refine va_get (D := (dC, dI)) (ci := 2) (v := .ref aV) (C := RM) (T := TM) (N := 17) hx hb hts lyM hown hK hP 0 rfl rfl 12 (by decide) (hts _ fl_M_28) (fun _ h9 => h9) rfl dM_isRight_46 ?_
          refine lv_aload_n hx hb dM_isRight_49 rfl (lv_at hl 0 rfl) ?_
          refine va_get (D := (dC, dI)) (ci := 2) (v := .ref aL) (C := RM) (T := TM) (N := 17) hx hb hts lyM hown hK hP 0 rfl rfl 3 (by decide) (hts _ fl_M_7) (fun _ h9 => h9) rfl dM_isRight_50 ?_
          refine lv_iload hx hb dM_isRight_53 (lv_at hl 3 rfl) ?_
          refine va_iald hx hb hK hP 1 0 rfl rfl (vp_in_nI (by omega) (by decide)) dM_isRight_55 ?_
          refine ls_topi (y := nI (lit k)) (by rw [nI_clamp (by omega)]; exact lk1) ?_
          refine lv_iconst (v := 2) hx hb dM_isRight_56 (by decide) ?_
          refine lv_idiv hx hb dM_isRight_57 (by decide) ?_
          refine ls_topi (y := nI (lit k / 2)) (pk_div (by omega) (by decide) (by decide)) ?_
          refine va_iald hx hb hK hP 5 4 rfl rfl (vp_in_nI (by omega) (by decide)) dM_isRight_58 ?_
          refine ls_topi (y := nI (vv (lit k / 2))) (by rw [nI_clamp (by omega)]; exact (hV (lit k / 2) (by omega)).1) ?_
          refine lv_iconst (v := 1) hx hb dM_isRight_59 (by decide) ?_
          refine lv_aload_n hx hb dM_isRight_60 rfl (lv_at hl 0 rfl) ?_
          refine va_get (D := (dC, dI)) (ci := 2) (v := .ref aL) (C := RM) (T := TM) (N := 17) hx hb hts lyM hown hK hP 0 rfl rfl 3 (by decide) (hts _ fl_M_7) (fun _ h9 => h9) rfl dM_isRight_61 ?_
          refine lv_iload hx hb dM_isRight_64 (lv_at hl 3 rfl) ?_
          refine va_iald hx hb hK hP 1 0 rfl rfl (vp_in_nI (by omega) (by decide)) dM_isRight_66 ?_
          refine ls_topi (y := nI (lit k)) (by rw [nI_clamp (by omega)]; exact lk1) ?_
          refine lv_iconst (v := 2) hx hb dM_isRight_67 (by decide) ?_
          refine lv_irem hx hb dM_isRight_68 (by decide) ?_
          refine ls_topi (y := nI (lit k % 2)) (pk_rem (by omega) (by decide) (by decide)) ?_
          refine lv_isub hx hb dM_isRight_69 ?_
          refine ls_topi (y := nI (1 - lit k % 2)) (pk_sub (a := 1) (by omega)) ?_
          have hv1 := (hV (lit k / 2) (by omega)).2
          refine lv_icmp_ne (tgt := 77) hx hb dM_isRight_70 (by decide) (fun c5 => ?_) (fun c5 => ?_)
          · have c5 : (vv (lit k / 2)) ≠ (1 - lit k % 2) := fun q => c5 ((nI_eq (a := (vv (lit k / 2))) (b := (1 - lit k % 2)) (by omega) (by omega)).mpr q)
            refine lv_iconst (v := 0) hx hb dM_isRight_77 (by decide) ?_
            refine lv_istore_n (lv' := [(2, .int 0), (0, .ref g0), (3, .int (nI c0)), (4, .int (nI k))]) hx hb dM_isRight_78 rfl hl (by decide) rfl (fun ls hl => ?_)
            refine lv_iinc (v := nI (k + 1)) (lv' := [(4, .int (nI (k + 1))), (2, .int 0), (0, .ref g0), (3, .int (nI c0))]) hx hb dM_isRight_79 hl (k := 3) rfl (nI_1 _) (by decide) rfl (fun ls hl => ?_)
            refine lv_goto (tgt := 28) hx hb dM_isRight_82 (by decide) ?_
            exact ih2 (k + 1, 0) _ _ _ (by show st (c0 + 1) - (k + 1) < st (c0 + 1) - k; omega) ⟨⟨by omega, c3, Or.inl ⟨rfl, fun j j1 j2 => by
                rcases Nat.lt_or_ge j k with h | h
                · exact hall j j1 h
                · rw [show j = k by omega]; exact c5⟩⟩, hP, hD, hS, lv_sub hl [2, 1, 3, 0] rfl⟩
          · have c5 : (vv (lit k / 2)) = (1 - lit k % 2) := (nI_eq (a := (vv (lit k / 2))) (b := (1 - lit k % 2)) (by omega) (by omega)).mp c5
            refine lv_iconst (v := 1) hx hb dM_isRight_73 (by decide) ?_
            refine lv_goto (tgt := 78) hx hb dM_isRight_74 (by decide) ?_
            refine lv_istore_n (lv' := [(2, .int 1), (0, .ref g0), (3, .int (nI c0)), (4, .int (nI k))]) hx hb dM_isRight_78 rfl hl (by decide) rfl (fun ls hl => ?_)
            refine lv_iinc (v := nI (k + 1)) (lv' := [(4, .int (nI (k + 1))), (2, .int 1), (0, .ref g0), (3, .int (nI c0))]) hx hb dM_isRight_79 hl (k := 3) rfl (nI_1 _) (by decide) rfl (fun ls hl => ?_)
            refine lv_goto (tgt := 28) hx hb dM_isRight_82 (by decide) ?_
            exact ih2 (k + 1, 1) _ _ _ (by show st (c0 + 1) - (k + 1) < st (c0 + 1) - k; omega) ⟨⟨by omega, c3, Or.inr ⟨rfl, k, hk1, c3, c5⟩⟩, hP, hD, hS, lv_sub hl [2, 1, 3, 0] rfl⟩
set_option maxHeartbeats 4000000 in
set_option maxRecDepth 100000 in
theorem k_M_search (l : Launch) (dC : Nat → ClassId) (dI : Nat → Nat → Nat) (tI sz : Nat) (g0 aL aS aF aN aA aO aV aT : Nat) (kL kS kF kN kO kV : ClassId) (lf sf ff nf of vf : Nat → Int32) (nv nc us dr as th : Nat) (co la bl : Int32) (lit st vv0 : Nat → Nat) (ch : Nat → List Nat) (hnv : nv ≤ 16) (hch : ∀ v, v < nv → lm_ch nf (ff v) (ch v) ∧ lm_C lf sf lit st (ch v)) (h16 : ff 16 = -1 ↔ ch 16 = []) (hdp : se_D nv lit st ch) (hof : ∀ v, v < nv → of v = -1 ∨ of v = 0 ∨ of v = 1) (hV0 : sv_V vf vv0) : Met l yM_search (Cond.code yM_search cM_search 3 (some .boolean) :: GG) (lvr 1 0 0) (va_Pc [.ref g0] (wPre dC dI [(kL, .int), (kS, .int), (kF, .int), (kN, .int), (kO, .int), (kV, .int)] [(g0, .inr (2, [.int co, .int (nI nv), .int (nI nc), .ref aL, .int (nI us), .ref aS, .int (nI dr), .ref aF, .ref aN, .ref aA, .int (nI as), .ref aO, .ref aV, .int la, .int bl, .ref aT, .int (nI th)])), (aL, .inl (kL, 4000, .inl lf)), (aS, .inl (kS, 501, .inl sf)), (aF, .inl (kF, 17, .inl ff)), (aN, .inl (kN, 500, .inl nf)), (aO, .inl (kO, 16, .inl of)), (aV, .inl (kV, 16, .inl vf))] sz tI)) (va_Qi (fun (r : Int32) (u : (Nat → Int32) × (Nat → Nat)) => sv_V u.1 u.2 ∧ sv_P nv lit st ch (sv_Q nv of) r u.2) (fun u t => wB dC dI [(kL, .int), (kS, .int), (kF, .int), (kN, .int), (kO, .int), (kV, .int)] (va_A [(g0, .inr (2, [.int co, .int (nI nv), .int (nI nc), .ref aL, .int (nI us), .ref aS, .int (nI dr), .ref aF, .ref aN, .ref aA, .int (nI as), .ref aO, .ref aV, .int la, .int bl, .ref aT, .int (nI th)])), (aL, .inl (kL, 4000, .inl lf)), (aS, .inl (kS, 501, .inl sf)), (aF, .inl (kF, 17, .inl ff)), (aN, .inl (kN, 500, .inl nf)), (aO, .inl (kO, 16, .inl of)), (aV, .inl (kV, 16, .inl vf))] sz) [(g0, .inr (2, [.int co, .int (nI nv), .int (nI nc), .ref aL, .int (nI us), .ref aS, .int (nI dr), .ref aF, .ref aN, .ref aA, .int (nI as), .ref aO, .ref aV, .int la, .int bl, .ref aT, .int (nI th)])), (aL, .inl (kL, 4000, .inl lf)), (aS, .inl (kS, 501, .inl sf)), (aF, .inl (kF, 17, .inl ff)), (aN, .inl (kN, 500, .inl nf)), (aO, .inl (kO, 16, .inl of)), (aV, .inl (kV, 16, .inl u.1))] t) (va_A [(g0, .inr (2, [.int co, .int (nI nv), .int (nI nc), .ref aL, .int (nI us), .ref aS, .int (nI dr), .ref aF, .ref aN, .ref aA, .int (nI as), .ref aO, .ref aV, .int la, .int bl, .ref aT, .int (nI th)])), (aL, .inl (kL, 4000, .inl lf)), (aS, .inl (kS, 501, .inl sf)), (aF, .inl (kF, 17, .inl ff)), (aN, .inl (kN, 500, .inl nf)), (aO, .inl (kO, 16, .inl of)), (aV, .inl (kV, 16, .inl vf))] sz)) 0 0 (va_A [(g0, .inr (2, [.int co, .int (nI nv), .int (nI nc), .ref aL, .int (nI us), .ref aS, .int (nI dr), .ref aF, .ref aN, .ref aA, .int (nI as), .ref aO, .ref aV, .int la, .int bl, .ref aT, .int (nI th)])), (aL, .inl (kL, 4000, .inl lf)), (aS, .inl (kS, 501, .inl sf)), (aF, .inl (kF, 17, .inl ff)), (aN, .inl (kN, 500, .inl nf)), (aO, .inl (kO, 16, .inl of)), (aV, .inl (kV, 16, .inl vf))] sz) := by
  refine Met.ofW (cc := cM_search) (maxL := 3) (ret := (some .boolean)) (by decide) rfl ?_
  intro p e s m args below meth c s₁ B hml hv
  obtain ⟨rfl, hsz, hP, hK, hD0, hZ, hX⟩ := hv
  have hx := B.exec
  have hb := B.bytes
  have hr := B.returns
  have hts : ∀ w ∈ GG, w.before ([.ref g0] : List Value).toArray s = true := fun w h => atoms_spec (ws := _ :: GG) B.pre w (List.mem_cons_of_mem _ h)
  have hown : s.vm.findClass RM = some m.cls := findClass_of_methodNamed B.named
  have hlocks := B.notSynchronized
  subst hsz
  have hD := hD0.self (sz := s.heap.size)
  generalize hAe : va_A [(g0, .inr (2, [.int co, .int (nI nv), .int (nI nc), .ref aL, .int (nI us), .ref aS, .int (nI dr), .ref aF, .ref aN, .ref aA, .int (nI as), .ref aO, .ref aV, .int la, .int bl, .ref aT, .int (nI th)])), (aL, .inl (kL, 4000, .inl lf)), (aS, .inl (kS, 501, .inl sf)), (aF, .inl (kF, 17, .inl ff)), (aN, .inl (kN, 500, .inl nf)), (aO, .inl (kO, 16, .inl of)), (aV, .inl (kV, 16, .inl vf))] s.heap.size = A at hD hZ ⊢
  have hA : ∀ q : Nat, s.heap.size ≤ q → A q := fun q h => by rw [← hAe]; exact Or.inr h
  have hS : va_S A s.heap s.heap [] := va_S.rf
  have hl := lv_entry ([.ref g0]) (n := 3) (Nat.le_of_ble_eq_true rfl)
  rw [lg_entry_eq]
  generalize (lg_sl ([.ref g0]) ++ List.replicate (3 - (lg_sl ([.ref g0])).length) Slot.unset).toArray = ls at hl ⊢
  have hl : lv_has ls 3 [(0, .ref g0)] := hl
  have SF : CallFix p m c cM_search 3 s ([.ref g0] : List Value).toArray GG RM := ⟨hx, hb, hml, hown, hts⟩
  skip
  have hP : va_P (dC, dI) vwCl [(g0, .inr (2, [.int co, .int (nI nv), .int (nI nc), .ref aL, .int (nI us), .ref aS, .int (nI dr), .ref aF, .ref aN, .ref aA, .int (nI as), .ref aO, .ref aV, .int la, .int bl, .ref aT, .int (nI th)])), (aL, .inl (kL, 4000, .inl lf)), (aS, .inl (kS, 501, .inl sf)), (aF, .inl (kF, 17, .inl ff)), (aN, .inl (kN, 500, .inl nf)), (aO, .inl (kO, 16, .inl of)), (aV, .inl (kV, 16, .inl vf))] s.heap := hP
  refine lv_aload_n hx hb dM_search_0 rfl (lv_at hl 0 rfl) ?_
  refine va_get (D := (dC, dI)) (ci := 2) (v := .ref aF) (C := RM) (T := TM) (N := 17) hx hb hts lyM hown hK hP 0 rfl rfl 7 (by decide) (hts _ fl_M_16) (fun _ h9 => h9) rfl dM_search_1 ?_
  refine lv_bipush (v := 16) hx hb dM_search_4 (by decide) ?_
  refine va_iald hx hb hK hP 3 2 rfl rfl (vp_in_nI (n := 16) (by decide) (by decide)) dM_search_6 ?_
  refine ls_topi (y := ff 16) (rfl) ?_
  refine lv_iconst (v := (-1)) hx hb dM_search_7 (by decide) ?_
  refine lv_icmp_eq (tgt := 13) hx hb dM_search_8 (by decide) (fun c1 => ?_) (fun c1 => ?_)
  · have hc16 := h16.mp c1
    refine lv_iconst (v := 0) hx hb dM_search_13 (by decide) ?_
    refine lv_istore_n (lv' := [(1, .int 0), (0, .ref g0)]) hx hb dM_search_14 rfl hl (by decide) rfl (fun ls hl => ?_)
    refine lv_iconst (v := 0) hx hb dM_search_15 (by decide) ?_
    refine lv_istore_n (lv' := [(2, .int 0), (1, .int 0), (0, .ref g0)]) hx hb dM_search_16 rfl hl (by decide) rfl (fun ls hl => ?_)
    refine lp_mu (α := Nat × Nat × (Nat → Int32) × (Nat → Nat)) (fun a_ => match a_ with | (v, bk, g, va) => se_mu nv v bk va) (fun a_ H locs ls => match a_ with | (v, bk, g, va) => (sv_V g va ∧ ((bk = 0 ∧ v ≤ nv ∧ se_P nv lit st ch of v va) ∨ (bk = 1 ∧ v < nv ∧ se_B nv lit st ch of v va))) ∧ va_P (dC, dI) vwCl [(g0, .inr (2, [.int co, .int (nI nv), .int (nI nc), .ref aL, .int (nI us), .ref aS, .int (nI dr), .ref aF, .ref aN, .ref aA, .int (nI as), .ref aO, .ref aV, .int la, .int bl, .ref aT, .int (nI th)])), (aL, .inl (kL, 4000, .inl lf)), (aS, .inl (kS, 501, .inl sf)), (aF, .inl (kF, 17, .inl ff)), (aN, .inl (kN, 500, .inl nf)), (aO, .inl (kO, 16, .inl of)), (aV, .inl (kV, 16, .inl g))] H ∧ va_D A [(g0, .inr (2, [.int co, .int (nI nv), .int (nI nc), .ref aL, .int (nI us), .ref aS, .int (nI dr), .ref aF, .ref aN, .ref aA, .int (nI as), .ref aO, .ref aV, .int la, .int bl, .ref aT, .int (nI th)])), (aL, .inl (kL, 4000, .inl lf)), (aS, .inl (kS, 501, .inl sf)), (aF, .inl (kF, 17, .inl ff)), (aN, .inl (kN, 500, .inl nf)), (aO, .inl (kO, 16, .inl of)), (aV, .inl (kV, 16, .inl g))] ∧ va_S A s.heap H locs ∧ lv_has ls 3 [(0, .ref g0), (1, .int (nI v)), (2, .int (nI bk))]) ?_ (0, 0, vf, vv0) ⟨⟨hV0, Or.inl ⟨rfl, Nat.zero_le _, ⟨fun j hj => absurd hj (Nat.not_lt_zero _), fun j hj => absurd hj (Nat.not_lt_zero _)⟩⟩⟩, hP, hD, hS, lv_sub hl [2, 1, 0] rfl⟩
    intro a_ H locs ls hI ih
    obtain ⟨v, bk, g, va⟩ := a_
    obtain ⟨hI, hP, hD, hS, hl⟩ := hI
    have hI : sv_V g va ∧ ((bk = 0 ∧ v ≤ nv ∧ se_P nv lit st ch of v va) ∨ (bk = 1 ∧ v < nv ∧ se_B nv lit st ch of v va)) := hI
    have hP : va_P (dC, dI) vwCl [(g0, .inr (2, [.int co, .int (nI nv), .int (nI nc), .ref aL, .int (nI us), .ref aS, .int (nI dr), .ref aF, .ref aN, .ref aA, .int (nI as), .ref aO, .ref aV, .int la, .int bl, .ref aT, .int (nI th)])), (aL, .inl (kL, 4000, .inl lf)), (aS, .inl (kS, 501, .inl sf)), (aF, .inl (kF, 17, .inl ff)), (aN, .inl (kN, 500, .inl nf)), (aO, .inl (kO, 16, .inl of)), (aV, .inl (kV, 16, .inl g))] H := hP
    have hD : va_D A [(g0, .inr (2, [.int co, .int (nI nv), .int (nI nc), .ref aL, .int (nI us), .ref aS, .int (nI dr), .ref aF, .ref aN, .ref aA, .int (nI as), .ref aO, .ref aV, .int la, .int bl, .ref aT, .int (nI th)])), (aL, .inl (kL, 4000, .inl lf)), (aS, .inl (kS, 501, .inl sf)), (aF, .inl (kF, 17, .inl ff)), (aN, .inl (kN, 500, .inl nf)), (aO, .inl (kO, 16, .inl of)), (aV, .inl (kV, 16, .inl g))] := hD
    have hl : lv_has ls 3 [(0, .ref g0), (1, .int (nI v)), (2, .int (nI bk))] := hl
    obtain ⟨hV, hI⟩ := hI
    rcases hI with ⟨eb, hvn, hSP⟩ | ⟨eb, hvn, hSB⟩
    · subst eb
      refine lv_iload_n hx hb dM_search_17 rfl (lv_at hl 1 rfl) ?_
      refine lv_if_lt (tgt := 119) hx hb dM_search_18 (by decide) (fun c1 => ?_) (fun c1 => ?_)
      · have c1 : v < 0 := (nI_ltI (a := v) (b := 0) (by omega) (by omega)).mp c1
        exact absurd c1 (Nat.not_lt_zero _)
      · have c1 : 0 ≤ v := Nat.le_of_not_lt (fun q => c1 ((nI_ltI (a := v) (b := 0) (by omega) (by omega)).mpr q))
        refine lv_iload_n hx hb dM_search_21 rfl (lv_at hl 1 rfl) ?_
        refine lv_aload_n hx hb dM_search_22 rfl (lv_at hl 0 rfl) ?_
        refine va_get (D := (dC, dI)) (ci := 2) (v := .int (nI nv)) (C := RM) (T := TM) (N := 17) hx hb hts lyM hown hK hP 0 rfl rfl 1 (by decide) (hts _ fl_M_41) (fun _ h9 => h9) rfl dM_search_23 ?_
        refine lv_icmp_ge (tgt := 119) hx hb dM_search_26 (by decide) (fun c2 => ?_) (fun c2 => ?_)
        · have c2 : nv ≤ v := (nI_leI (a := nv) (b := v) (by omega) (by omega)).mp c2
          have ev : v = nv := by omega
          refine lv_iload_n hx hb dM_search_119 rfl (lv_at hl 1 rfl) ?_
          refine lv_aload_n hx hb dM_search_120 rfl (lv_at hl 0 rfl) ?_
          refine va_get (D := (dC, dI)) (ci := 2) (v := .int (nI nv)) (C := RM) (T := TM) (N := 17) hx hb hts lyM hown hK hP 0 rfl rfl 1 (by decide) (hts _ fl_M_41) (fun _ h9 => h9) rfl dM_search_121 ?_
          refine lv_icmp_ne (tgt := 131) hx hb dM_search_124 (by decide) (fun c3 => ?_) (fun c3 => ?_)
          · have c3 : v ≠ nv := fun q => c3 ((nI_eq (a := v) (b := nv) (by omega) (by omega)).mpr q)
            exact absurd ev c3
          · have c3 : v = nv := (nI_eq (a := v) (b := nv) (by omega) (by omega)).mp c3
            refine lv_iconst (v := 1) hx hb dM_search_127 (by decide) ?_
            refine lv_goto (tgt := 132) hx hb dM_search_128 (by decide) ?_
            exact (W.zret (v := 1) hx hb hr (rfl) (fun t ht hW => ⟨⟨1, (g, va), rfl, ⟨hV, sv_yes hc16 (by rw [ev] at hSP; exact hSP)⟩, by rw [ht]; exact hP, va_K.moved hW.alike hK, hD⟩, hS.F ht⟩) hS.2.2 dM_search_132)
        · have c2 : v < nv := Nat.lt_of_not_le (fun q => c2 ((nI_leI (a := nv) (b := v) (by omega) (by omega)).mpr q))
          refine lv_iload_n hx hb dM_search_29 rfl (lv_at hl 2 rfl) ?_
          refine lv_if_ne (tgt := 57) hx hb dM_search_30 (by decide) (fun c3 => ?_) (fun c3 => ?_)
          · have c3 : 0 ≠ 0 := fun q => c3 ((nI_eq (a := 0) (b := 0) (by omega) (by omega)).mpr q)
            exact absurd rfl c3
          · have c3 : 0 = 0 := (nI_eq (a := 0) (b := 0) (by omega) (by omega)).mp c3
            refine lv_aload_n hx hb dM_search_33 rfl (lv_at hl 0 rfl) ?_
            refine va_get (D := (dC, dI)) (ci := 2) (v := .ref aV) (C := RM) (T := TM) (N := 17) hx hb hts lyM hown hK hP 0 rfl rfl 12 (by decide) (hts _ fl_M_28) (fun _ h9 => h9) rfl dM_search_34 ?_
            refine lv_iload_n hx hb dM_search_37 rfl (lv_at hl 1 rfl) ?_
            refine lv_aload_n hx hb dM_search_38 rfl (lv_at hl 0 rfl) ?_
            refine va_get (D := (dC, dI)) (ci := 2) (v := .ref aO) (C := RM) (T := TM) (N := 17) hx hb hts lyM hown hK hP 0 rfl rfl 11 (by decide) (hts _ fl_M_25) (fun _ h9 => h9) rfl dM_search_39 ?_
            refine lv_iload_n hx hb dM_search_42 rfl (lv_at hl 1 rfl) ?_
            refine va_iald hx hb hK hP 5 4 rfl rfl (vp_in_nI (by omega) (by decide)) dM_search_43 ?_
            refine ls_topi (y := of v) (by rw [nI_clamp (by omega)]) ?_
            refine lv_iconst (v := 1) hx hb dM_search_44 (by decide) ?_
            refine lv_icmp_ne (tgt := 52) hx hb dM_search_45 (by decide) (fun c4 => ?_) (fun c4 => ?_)
            · obtain ⟨f1, f2, f3⟩ := se_first hdp c2 hSP (x := 0) (Or.inr ⟨c4, rfl⟩) (hof v c2)
              refine lv_iconst (v := 0) hx hb dM_search_52 (by decide) ?_
              refine va_iast hx hb hK hP hD hS 6 5 rfl rfl (vp_in_nI (by omega) (by decide)) dM_search_53 (fun H locs hP hD hS => ?_)
              rw [show upd g (nI v).toNatClampNeg 0 = upd g v 0 from by rw [nI_clamp (by omega)]] at hP hD
              have hP : va_P (dC, dI) vwCl [(g0, .inr (2, [.int co, .int (nI nv), .int (nI nc), .ref aL, .int (nI us), .ref aS, .int (nI dr), .ref aF, .ref aN, .ref aA, .int (nI as), .ref aO, .ref aV, .int la, .int bl, .ref aT, .int (nI th)])), (aL, .inl (kL, 4000, .inl lf)), (aS, .inl (kS, 501, .inl sf)), (aF, .inl (kF, 17, .inl ff)), (aN, .inl (kN, 500, .inl nf)), (aO, .inl (kO, 16, .inl of)), (aV, .inl (kV, 16, .inl (upd g v 0)))] H := hP
              have hD : va_D A [(g0, .inr (2, [.int co, .int (nI nv), .int (nI nc), .ref aL, .int (nI us), .ref aS, .int (nI dr), .ref aF, .ref aN, .ref aA, .int (nI as), .ref aO, .ref aV, .int la, .int bl, .ref aT, .int (nI th)])), (aL, .inl (kL, 4000, .inl lf)), (aS, .inl (kS, 501, .inl sf)), (aF, .inl (kF, 17, .inl ff)), (aN, .inl (kN, 500, .inl nf)), (aO, .inl (kO, 16, .inl of)), (aV, .inl (kV, 16, .inl (upd g v 0)))] := hD
              have hV2 : sv_V (upd g v 0) (se_u va v 0) := sv_Vu (x := 0) hV (by decide)
              refine lv_goto (tgt := 90) hx hb dM_search_54 (by decide) ?_
              refine lv_aload_n hx hb dM_search_90 rfl (lv_at hl 0 rfl) ?_
              refine lv_iload_n hx hb dM_search_91 rfl (lv_at hl 1 rfl) ?_
              have hFc := va_free (wc := [(g0, .inr (2, [.int co, .int (nI nv), .int (nI nc), .ref aL, .int (nI us), .ref aS, .int (nI dr), .ref aF, .ref aN, .ref aA, .int (nI as), .ref aO, .ref aV, .int la, .int bl, .ref aT, .int (nI th)])), (aL, .inl (kL, 4000, .inl lf)), (aS, .inl (kS, 501, .inl sf)), (aF, .inl (kF, 17, .inl ff)), (aN, .inl (kN, 500, .inl nf)), (aV, .inl (kV, 16, .inl (upd g v 0)))]) hD hS hA [0, 1, 2, 3, 4, 6] rfl
              refine wc_i (wc_V (As := [.int (nI v)]) (rest := []) (n := 1) SF (k_M_isRight l dC dI tI _ g0 aL aS aF aN aA aO aV aT kL kS kF kN kV lf sf ff nf (upd g v 0) nv nc us dr as th co la bl v (by omega) lit st (se_u va v 0) (ch v) (hch v (by omega)).1 (hch v (by omega)).2 hV2) ml_M_66 im_M_isRight se_M_isRight in_M co_M_isRight (by decide +kernel) rfl rfl rfl ⟨Nat.le_of_ble_eq_true rfl, Nat.le_of_ble_eq_true rfl⟩ (va_recv (hK.sub (tys' := []) [] rfl) (hP.sub (ws' := [(g0, .inr (2, [.int co, .int (nI nv), .int (nI nc), .ref aL, .int (nI us), .ref aS, .int (nI dr), .ref aF, .ref aN, .ref aA, .int (nI as), .ref aO, .ref aV, .int la, .int bl, .ref aT, .int (nI th)])), (aL, .inl (kL, 4000, .inl lf)), (aS, .inl (kS, 501, .inl sf)), (aF, .inl (kF, 17, .inl ff)), (aN, .inl (kN, 500, .inl nf)), (aV, .inl (kV, 16, .inl (upd g v 0)))]) [0, 1, 2, 3, 4, 6] rfl) (ci := 2) (q0 := 0) rfl rfl) (hP.sub [0, 1, 2, 3, 4, 6] rfl) (hD.sub [0, 1, 2, 3, 4, 6] (by decide) rfl) (hK.sub [0, 1, 2, 3, 5] rfl) hZ hX hS hFc rfl hl.1 (Nat.le_of_ble_eq_true rfl) dM_search_92 ⟨Nat.le_of_ble_eq_true rfl, Nat.le_of_ble_eq_true rfl⟩) hP hD hS hFc [0, 1, 2, 3, 4, 6] [5] (wr := [(aO, .inl (kO, 16, .inl of))]) rfl rfl rfl (by decide) (fun z uu H locs hw hP hD hS => ?_)
              have hP : va_P (dC, dI) vwCl [(g0, .inr (2, [.int co, .int (nI nv), .int (nI nc), .ref aL, .int (nI us), .ref aS, .int (nI dr), .ref aF, .ref aN, .ref aA, .int (nI as), .ref aO, .ref aV, .int la, .int bl, .ref aT, .int (nI th)])), (aL, .inl (kL, 4000, .inl lf)), (aS, .inl (kS, 501, .inl sf)), (aF, .inl (kF, 17, .inl ff)), (aN, .inl (kN, 500, .inl nf)), (aO, .inl (kO, 16, .inl of)), (aV, .inl (kV, 16, .inl (upd g v 0)))] H := hP.sub [1, 2, 3, 4, 5, 0, 6] rfl
              have hD : va_D A [(g0, .inr (2, [.int co, .int (nI nv), .int (nI nc), .ref aL, .int (nI us), .ref aS, .int (nI dr), .ref aF, .ref aN, .ref aA, .int (nI as), .ref aO, .ref aV, .int la, .int bl, .ref aT, .int (nI th)])), (aL, .inl (kL, 4000, .inl lf)), (aS, .inl (kS, 501, .inl sf)), (aF, .inl (kF, 17, .inl ff)), (aN, .inl (kN, 500, .inl nf)), (aO, .inl (kO, 16, .inl of)), (aV, .inl (kV, 16, .inl (upd g v 0)))] := hD.sub [1, 2, 3, 4, 5, 0, 6] (by decide) rfl
              refine lv_if_ne (tgt := 102) hx hb dM_search_95 (by decide) (fun c7 => ?_) (fun c7 => ?_)
              · have hR : se_R lit st ch v (se_u va v 0) := by
                  rcases hw with ⟨_, h⟩ | ⟨h, _⟩
                  · exact h
                  · exact absurd h c7
                refine lv_iconst (v := 0) hx hb dM_search_102 (by decide) ?_
                refine lv_istore_n (lv' := [(2, .int 0), (0, .ref g0), (1, .int (nI v))]) hx hb dM_search_103 rfl hl (by decide) rfl (fun ls hl => ?_)
                refine lv_iload_n hx hb dM_search_104 rfl (lv_at hl 0 rfl) ?_
                refine lv_if_eq (tgt := 112) hx hb dM_search_105 (by decide) (fun c8 => ?_) (fun c8 => ?_)
                · refine lv_iload_n hx hb dM_search_112 rfl (lv_at hl 2 rfl) ?_
                  refine lv_iconst (v := 1) hx hb dM_search_113 (by decide) ?_
                  refine lv_iadd hx hb dM_search_114 ?_
                  refine ls_topi (y := nI (v + 1)) (nI_1 _) ?_
                  refine lv_istore_n (lv' := [(1, .int (nI (v + 1))), (2, .int 0), (0, .ref g0)]) hx hb dM_search_115 rfl hl (by decide) rfl (fun ls hl => ?_)
                  refine lv_goto (tgt := 17) hx hb dM_search_116 (by decide) ?_
                  exact ih (v + 1, 0, upd g v 0, se_u va v 0) _ _ _ ((se_m1 c2).1) ⟨⟨hV2, Or.inl ⟨rfl, by omega, se_up f1 f2 hR f3⟩⟩, hP, hD, hS, lv_sub hl [2, 0, 1] rfl⟩
                · exact absurd rfl c8
              · have hR : ¬ se_R lit st ch v (se_u va v 0) := by
                  rcases hw with ⟨h, _⟩ | ⟨_, c, h1, h2⟩
                  · rw [h] at c7; exact absurd c7 (by decide)
                  · exact fun q => h2 (q c h1)
                refine lv_iconst (v := 1) hx hb dM_search_98 (by decide) ?_
                refine lv_goto (tgt := 103) hx hb dM_search_99 (by decide) ?_
                refine lv_istore_n (lv' := [(2, .int 1), (0, .ref g0), (1, .int (nI v))]) hx hb dM_search_103 rfl hl (by decide) rfl (fun ls hl => ?_)
                refine lv_iload_n hx hb dM_search_104 rfl (lv_at hl 0 rfl) ?_
                refine lv_if_eq (tgt := 112) hx hb dM_search_105 (by decide) (fun c8 => ?_) (fun c8 => ?_)
                · exact absurd c8 (by decide)
                · refine lv_iload_n hx hb dM_search_108 rfl (lv_at hl 2 rfl) ?_
                  refine lv_goto (tgt := 115) hx hb dM_search_109 (by decide) ?_
                  refine lv_istore_n (lv' := [(1, .int (nI v)), (2, .int 1), (0, .ref g0)]) hx hb dM_search_115 rfl hl (by decide) rfl (fun ls hl => ?_)
                  refine lv_goto (tgt := 17) hx hb dM_search_116 (by decide) ?_
                  exact ih (v, 1, upd g v 0, se_u va v 0) _ _ _ ((se_m1 c2).2) ⟨⟨hV2, Or.inr ⟨rfl, by omega, se_no hdp (by omega) f1 f2 hR f3⟩⟩, hP, hD, hS, lv_sub hl [2, 0, 1] rfl⟩
            · obtain ⟨f1, f2, f3⟩ := se_first hdp c2 hSP (x := 1) (Or.inl ⟨c4, rfl⟩) (hof v c2)
              refine lv_iconst (v := 1) hx hb dM_search_48 (by decide) ?_
              refine lv_goto (tgt := 53) hx hb dM_search_49 (by decide) ?_
              refine va_iast hx hb hK hP hD hS 6 5 rfl rfl (vp_in_nI (by omega) (by decide)) dM_search_53 (fun H locs hP hD hS => ?_)
              rw [show upd g (nI v).toNatClampNeg 1 = upd g v 1 from by rw [nI_clamp (by omega)]] at hP hD
              have hP : va_P (dC, dI) vwCl [(g0, .inr (2, [.int co, .int (nI nv), .int (nI nc), .ref aL, .int (nI us), .ref aS, .int (nI dr), .ref aF, .ref aN, .ref aA, .int (nI as), .ref aO, .ref aV, .int la, .int bl, .ref aT, .int (nI th)])), (aL, .inl (kL, 4000, .inl lf)), (aS, .inl (kS, 501, .inl sf)), (aF, .inl (kF, 17, .inl ff)), (aN, .inl (kN, 500, .inl nf)), (aO, .inl (kO, 16, .inl of)), (aV, .inl (kV, 16, .inl (upd g v 1)))] H := hP
              have hD : va_D A [(g0, .inr (2, [.int co, .int (nI nv), .int (nI nc), .ref aL, .int (nI us), .ref aS, .int (nI dr), .ref aF, .ref aN, .ref aA, .int (nI as), .ref aO, .ref aV, .int la, .int bl, .ref aT, .int (nI th)])), (aL, .inl (kL, 4000, .inl lf)), (aS, .inl (kS, 501, .inl sf)), (aF, .inl (kF, 17, .inl ff)), (aN, .inl (kN, 500, .inl nf)), (aO, .inl (kO, 16, .inl of)), (aV, .inl (kV, 16, .inl (upd g v 1)))] := hD
              have hV2 : sv_V (upd g v 1) (se_u va v 1) := sv_Vu (x := 1) hV (by decide)
              refine lv_goto (tgt := 90) hx hb dM_search_54 (by decide) ?_
              refine lv_aload_n hx hb dM_search_90 rfl (lv_at hl 0 rfl) ?_
              refine lv_iload_n hx hb dM_search_91 rfl (lv_at hl 1 rfl) ?_
              have hFc := va_free (wc := [(g0, .inr (2, [.int co, .int (nI nv), .int (nI nc), .ref aL, .int (nI us), .ref aS, .int (nI dr), .ref aF, .ref aN, .ref aA, .int (nI as), .ref aO, .ref aV, .int la, .int bl, .ref aT, .int (nI th)])), (aL, .inl (kL, 4000, .inl lf)), (aS, .inl (kS, 501, .inl sf)), (aF, .inl (kF, 17, .inl ff)), (aN, .inl (kN, 500, .inl nf)), (aV, .inl (kV, 16, .inl (upd g v 1)))]) hD hS hA [0, 1, 2, 3, 4, 6] rfl
              refine wc_i (wc_V (As := [.int (nI v)]) (rest := []) (n := 1) SF (k_M_isRight l dC dI tI _ g0 aL aS aF aN aA aO aV aT kL kS kF kN kV lf sf ff nf (upd g v 1) nv nc us dr as th co la bl v (by omega) lit st (se_u va v 1) (ch v) (hch v (by omega)).1 (hch v (by omega)).2 hV2) ml_M_66 im_M_isRight se_M_isRight in_M co_M_isRight (by decide +kernel) rfl rfl rfl ⟨Nat.le_of_ble_eq_true rfl, Nat.le_of_ble_eq_true rfl⟩ (va_recv (hK.sub (tys' := []) [] rfl) (hP.sub (ws' := [(g0, .inr (2, [.int co, .int (nI nv), .int (nI nc), .ref aL, .int (nI us), .ref aS, .int (nI dr), .ref aF, .ref aN, .ref aA, .int (nI as), .ref aO, .ref aV, .int la, .int bl, .ref aT, .int (nI th)])), (aL, .inl (kL, 4000, .inl lf)), (aS, .inl (kS, 501, .inl sf)), (aF, .inl (kF, 17, .inl ff)), (aN, .inl (kN, 500, .inl nf)), (aV, .inl (kV, 16, .inl (upd g v 1)))]) [0, 1, 2, 3, 4, 6] rfl) (ci := 2) (q0 := 0) rfl rfl) (hP.sub [0, 1, 2, 3, 4, 6] rfl) (hD.sub [0, 1, 2, 3, 4, 6] (by decide) rfl) (hK.sub [0, 1, 2, 3, 5] rfl) hZ hX hS hFc rfl hl.1 (Nat.le_of_ble_eq_true rfl) dM_search_92 ⟨Nat.le_of_ble_eq_true rfl, Nat.le_of_ble_eq_true rfl⟩) hP hD hS hFc [0, 1, 2, 3, 4, 6] [5] (wr := [(aO, .inl (kO, 16, .inl of))]) rfl rfl rfl (by decide) (fun z uu H locs hw hP hD hS => ?_)
              have hP : va_P (dC, dI) vwCl [(g0, .inr (2, [.int co, .int (nI nv), .int (nI nc), .ref aL, .int (nI us), .ref aS, .int (nI dr), .ref aF, .ref aN, .ref aA, .int (nI as), .ref aO, .ref aV, .int la, .int bl, .ref aT, .int (nI th)])), (aL, .inl (kL, 4000, .inl lf)), (aS, .inl (kS, 501, .inl sf)), (aF, .inl (kF, 17, .inl ff)), (aN, .inl (kN, 500, .inl nf)), (aO, .inl (kO, 16, .inl of)), (aV, .inl (kV, 16, .inl (upd g v 1)))] H := hP.sub [1, 2, 3, 4, 5, 0, 6] rfl
              have hD : va_D A [(g0, .inr (2, [.int co, .int (nI nv), .int (nI nc), .ref aL, .int (nI us), .ref aS, .int (nI dr), .ref aF, .ref aN, .ref aA, .int (nI as), .ref aO, .ref aV, .int la, .int bl, .ref aT, .int (nI th)])), (aL, .inl (kL, 4000, .inl lf)), (aS, .inl (kS, 501, .inl sf)), (aF, .inl (kF, 17, .inl ff)), (aN, .inl (kN, 500, .inl nf)), (aO, .inl (kO, 16, .inl of)), (aV, .inl (kV, 16, .inl (upd g v 1)))] := hD.sub [1, 2, 3, 4, 5, 0, 6] (by decide) rfl
              refine lv_if_ne (tgt := 102) hx hb dM_search_95 (by decide) (fun c7 => ?_) (fun c7 => ?_)
              · have hR : se_R lit st ch v (se_u va v 1) := by
                  rcases hw with ⟨_, h⟩ | ⟨h, _⟩
                  · exact h
                  · exact absurd h c7
                refine lv_iconst (v := 0) hx hb dM_search_102 (by decide) ?_
                refine lv_istore_n (lv' := [(2, .int 0), (0, .ref g0), (1, .int (nI v))]) hx hb dM_search_103 rfl hl (by decide) rfl (fun ls hl => ?_)
                refine lv_iload_n hx hb dM_search_104 rfl (lv_at hl 0 rfl) ?_
                refine lv_if_eq (tgt := 112) hx hb dM_search_105 (by decide) (fun c8 => ?_) (fun c8 => ?_)
                · refine lv_iload_n hx hb dM_search_112 rfl (lv_at hl 2 rfl) ?_
                  refine lv_iconst (v := 1) hx hb dM_search_113 (by decide) ?_
                  refine lv_iadd hx hb dM_search_114 ?_
                  refine ls_topi (y := nI (v + 1)) (nI_1 _) ?_
                  refine lv_istore_n (lv' := [(1, .int (nI (v + 1))), (2, .int 0), (0, .ref g0)]) hx hb dM_search_115 rfl hl (by decide) rfl (fun ls hl => ?_)
                  refine lv_goto (tgt := 17) hx hb dM_search_116 (by decide) ?_
                  exact ih (v + 1, 0, upd g v 1, se_u va v 1) _ _ _ ((se_m1 c2).1) ⟨⟨hV2, Or.inl ⟨rfl, by omega, se_up f1 f2 hR f3⟩⟩, hP, hD, hS, lv_sub hl [2, 0, 1] rfl⟩
                · exact absurd rfl c8
              · have hR : ¬ se_R lit st ch v (se_u va v 1) := by
                  rcases hw with ⟨h, _⟩ | ⟨_, c, h1, h2⟩
                  · rw [h] at c7; exact absurd c7 (by decide)
                  · exact fun q => h2 (q c h1)
                refine lv_iconst (v := 1) hx hb dM_search_98 (by decide) ?_
                refine lv_goto (tgt := 103) hx hb dM_search_99 (by decide) ?_
                refine lv_istore_n (lv' := [(2, .int 1), (0, .ref g0), (1, .int (nI v))]) hx hb dM_search_103 rfl hl (by decide) rfl (fun ls hl => ?_)
                refine lv_iload_n hx hb dM_search_104 rfl (lv_at hl 0 rfl) ?_
                refine lv_if_eq (tgt := 112) hx hb dM_search_105 (by decide) (fun c8 => ?_) (fun c8 => ?_)
                · exact absurd c8 (by decide)
                · refine lv_iload_n hx hb dM_search_108 rfl (lv_at hl 2 rfl) ?_
                  refine lv_goto (tgt := 115) hx hb dM_search_109 (by decide) ?_
                  refine lv_istore_n (lv' := [(1, .int (nI v)), (2, .int 1), (0, .ref g0)]) hx hb dM_search_115 rfl hl (by decide) rfl (fun ls hl => ?_)
                  refine lv_goto (tgt := 17) hx hb dM_search_116 (by decide) ?_
                  exact ih (v, 1, upd g v 1, se_u va v 1) _ _ _ ((se_m1 c2).2) ⟨⟨hV2, Or.inr ⟨rfl, by omega, se_no hdp (by omega) f1 f2 hR f3⟩⟩, hP, hD, hS, lv_sub hl [2, 0, 1] rfl⟩
    · subst eb
      refine lv_iload_n hx hb dM_search_17 rfl (lv_at hl 1 rfl) ?_
      refine lv_if_lt (tgt := 119) hx hb dM_search_18 (by decide) (fun c1 => ?_) (fun c1 => ?_)
      · have c1 : v < 0 := (nI_ltI (a := v) (b := 0) (by omega) (by omega)).mp c1
        exact absurd c1 (Nat.not_lt_zero _)
      · have c1 : 0 ≤ v := Nat.le_of_not_lt (fun q => c1 ((nI_ltI (a := v) (b := 0) (by omega) (by omega)).mpr q))
        refine lv_iload_n hx hb dM_search_21 rfl (lv_at hl 1 rfl) ?_
        refine lv_aload_n hx hb dM_search_22 rfl (lv_at hl 0 rfl) ?_
        refine va_get (D := (dC, dI)) (ci := 2) (v := .int (nI nv)) (C := RM) (T := TM) (N := 17) hx hb hts lyM hown hK hP 0 rfl rfl 1 (by decide) (hts _ fl_M_41) (fun _ h9 => h9) rfl dM_search_23 ?_
        refine lv_icmp_ge (tgt := 119) hx hb dM_search_26 (by decide) (fun c2 => ?_) (fun c2 => ?_)
        · have c2 : nv ≤ v := (nI_leI (a := nv) (b := v) (by omega) (by omega)).mp c2
          exact absurd hvn (by omega)
        · have c2 : v < nv := Nat.lt_of_not_le (fun q => c2 ((nI_leI (a := nv) (b := v) (by omega) (by omega)).mpr q))
          refine lv_iload_n hx hb dM_search_29 rfl (lv_at hl 2 rfl) ?_
          refine lv_if_ne (tgt := 57) hx hb dM_search_30 (by decide) (fun c3 => ?_) (fun c3 => ?_)
          · have c3 : 1 ≠ 0 := fun q => c3 ((nI_eq (a := 1) (b := 0) (by omega) (by omega)).mpr q)
            refine lv_aload_n hx hb dM_search_57 rfl (lv_at hl 0 rfl) ?_
            refine va_get (D := (dC, dI)) (ci := 2) (v := .ref aV) (C := RM) (T := TM) (N := 17) hx hb hts lyM hown hK hP 0 rfl rfl 12 (by decide) (hts _ fl_M_28) (fun _ h9 => h9) rfl dM_search_58 ?_
            refine lv_iload_n hx hb dM_search_61 rfl (lv_at hl 1 rfl) ?_
            refine va_iald hx hb hK hP 6 5 rfl rfl (vp_in_nI (by omega) (by decide)) dM_search_62 ?_
            refine ls_topi (y := nI (va v)) (by rw [nI_clamp (by omega)]; exact (hV v (by omega)).1) ?_
            refine lv_iconst (v := 1) hx hb dM_search_63 (by decide) ?_
            have hva := (hV v (by omega)).2
            refine lv_icmp_eq (tgt := 77) hx hb dM_search_64 (by decide) (fun c4 => ?_) (fun c4 => ?_)
            · have c4 : (va v) = 1 := (nI_eq (a := (va v)) (b := 1) (by omega) (by omega)).mp c4
              have hno := Or.inl (b := ¬ of v = -1) c4
              rcases Nat.eq_zero_or_pos v with v0 | v0
              · subst v0
                refine lv_iinc (v := (-1)) (lv' := [(1, .int (-1)), (0, .ref g0), (2, .int (nI 1))]) hx hb dM_search_77 hl (k := 1) rfl (by decide) (by decide) rfl (fun ls hl => ?_)
                refine lv_goto (tgt := 17) hx hb dM_search_80 (by decide) ?_
                refine lv_iload_n hx hb dM_search_17 rfl (lv_at hl 0 rfl) ?_
                refine lv_if_lt (tgt := 119) hx hb dM_search_18 (by decide) (fun c8 => ?_) (fun c8 => ?_)
                · refine lv_iload_n hx hb dM_search_119 rfl (lv_at hl 0 rfl) ?_
                  refine lv_aload_n hx hb dM_search_120 rfl (lv_at hl 1 rfl) ?_
                  refine va_get (D := (dC, dI)) (ci := 2) (v := .int (nI nv)) (C := RM) (T := TM) (N := 17) hx hb hts lyM hown hK hP 0 rfl rfl 1 (by decide) (hts _ fl_M_41) (fun _ h9 => h9) rfl dM_search_121 ?_
                  refine lv_icmp_ne (tgt := 131) hx hb dM_search_124 (by decide) (fun c9 => ?_) (fun c9 => ?_)
                  · refine lv_iconst (v := 0) hx hb dM_search_131 (by decide) ?_
                    exact (W.zret (v := 0) hx hb hr (rfl) (fun t ht hW => ⟨⟨0, (g, va), rfl, ⟨hV, sv_no (fun b hb => se_none c2 hSB hno b hb (fun i hi => absurd hi (Nat.not_lt_zero _)))⟩, by rw [ht]; exact hP, va_K.moved hW.alike hK, hD⟩, hS.F ht⟩) hS.2.2 dM_search_132)
                  · exact absurd (nI_pos (n := nv) (by omega)) (by rw [← c9]; decide)
                · exact absurd (by decide) c8
              · obtain ⟨v1, rfl⟩ : ∃ v1, v = v1 + 1 := ⟨v - 1, by omega⟩
                refine lv_iinc (v := nI v1) (lv' := [(1, .int (nI v1)), (0, .ref g0), (2, .int (nI 1))]) hx hb dM_search_77 hl (k := 1) rfl (pk_m1 v1) (by decide) rfl (fun ls hl => ?_)
                refine lv_goto (tgt := 17) hx hb dM_search_80 (by decide) ?_
                exact ih (v1, 1, g, va) _ _ _ (se_m3) ⟨⟨hV, Or.inr ⟨rfl, by omega, se_down c2 hSB hno⟩⟩, hP, hD, hS, lv_sub hl [1, 0, 2] rfl⟩
            · have c4 : (va v) ≠ 1 := fun q => c4 ((nI_eq (a := (va v)) (b := 1) (by omega) (by omega)).mpr q)
              refine lv_aload_n hx hb dM_search_67 rfl (lv_at hl 0 rfl) ?_
              refine va_get (D := (dC, dI)) (ci := 2) (v := .ref aO) (C := RM) (T := TM) (N := 17) hx hb hts lyM hown hK hP 0 rfl rfl 11 (by decide) (hts _ fl_M_25) (fun _ h9 => h9) rfl dM_search_68 ?_
              refine lv_iload_n hx hb dM_search_71 rfl (lv_at hl 1 rfl) ?_
              refine va_iald hx hb hK hP 5 4 rfl rfl (vp_in_nI (by omega) (by decide)) dM_search_72 ?_
              refine ls_topi (y := of v) (by rw [nI_clamp (by omega)]) ?_
              refine lv_iconst (v := (-1)) hx hb dM_search_73 (by decide) ?_
              refine lv_icmp_eq (tgt := 83) hx hb dM_search_74 (by decide) (fun c5 => ?_) (fun c5 => ?_)
              · obtain ⟨f1, f2, f3⟩ := se_second hdp c2 hSB c4 c5
                refine lv_aload_n hx hb dM_search_83 rfl (lv_at hl 0 rfl) ?_
                refine va_get (D := (dC, dI)) (ci := 2) (v := .ref aV) (C := RM) (T := TM) (N := 17) hx hb hts lyM hown hK hP 0 rfl rfl 12 (by decide) (hts _ fl_M_28) (fun _ h9 => h9) rfl dM_search_84 ?_
                refine lv_iload_n hx hb dM_search_87 rfl (lv_at hl 1 rfl) ?_
                refine lv_iconst (v := 1) hx hb dM_search_88 (by decide) ?_
                refine va_iast hx hb hK hP hD hS 6 5 rfl rfl (vp_in_nI (by omega) (by decide)) dM_search_89 (fun H locs hP hD hS => ?_)
                rw [show upd g (nI v).toNatClampNeg 1 = upd g v 1 from by rw [nI_clamp (by omega)]] at hP hD
                have hP : va_P (dC, dI) vwCl [(g0, .inr (2, [.int co, .int (nI nv), .int (nI nc), .ref aL, .int (nI us), .ref aS, .int (nI dr), .ref aF, .ref aN, .ref aA, .int (nI as), .ref aO, .ref aV, .int la, .int bl, .ref aT, .int (nI th)])), (aL, .inl (kL, 4000, .inl lf)), (aS, .inl (kS, 501, .inl sf)), (aF, .inl (kF, 17, .inl ff)), (aN, .inl (kN, 500, .inl nf)), (aO, .inl (kO, 16, .inl of)), (aV, .inl (kV, 16, .inl (upd g v 1)))] H := hP
                have hD : va_D A [(g0, .inr (2, [.int co, .int (nI nv), .int (nI nc), .ref aL, .int (nI us), .ref aS, .int (nI dr), .ref aF, .ref aN, .ref aA, .int (nI as), .ref aO, .ref aV, .int la, .int bl, .ref aT, .int (nI th)])), (aL, .inl (kL, 4000, .inl lf)), (aS, .inl (kS, 501, .inl sf)), (aF, .inl (kF, 17, .inl ff)), (aN, .inl (kN, 500, .inl nf)), (aO, .inl (kO, 16, .inl of)), (aV, .inl (kV, 16, .inl (upd g v 1)))] := hD
                have hV2 : sv_V (upd g v 1) (se_u va v 1) := sv_Vu (x := 1) hV (by decide)
                refine lv_aload_n hx hb dM_search_90 rfl (lv_at hl 0 rfl) ?_
                refine lv_iload_n hx hb dM_search_91 rfl (lv_at hl 1 rfl) ?_
                have hFc := va_free (wc := [(g0, .inr (2, [.int co, .int (nI nv), .int (nI nc), .ref aL, .int (nI us), .ref aS, .int (nI dr), .ref aF, .ref aN, .ref aA, .int (nI as), .ref aO, .ref aV, .int la, .int bl, .ref aT, .int (nI th)])), (aL, .inl (kL, 4000, .inl lf)), (aS, .inl (kS, 501, .inl sf)), (aF, .inl (kF, 17, .inl ff)), (aN, .inl (kN, 500, .inl nf)), (aV, .inl (kV, 16, .inl (upd g v 1)))]) hD hS hA [0, 1, 2, 3, 4, 6] rfl
                refine wc_i (wc_V (As := [.int (nI v)]) (rest := []) (n := 1) SF (k_M_isRight l dC dI tI _ g0 aL aS aF aN aA aO aV aT kL kS kF kN kV lf sf ff nf (upd g v 1) nv nc us dr as th co la bl v (by omega) lit st (se_u va v 1) (ch v) (hch v (by omega)).1 (hch v (by omega)).2 hV2) ml_M_66 im_M_isRight se_M_isRight in_M co_M_isRight (by decide +kernel) rfl rfl rfl ⟨Nat.le_of_ble_eq_true rfl, Nat.le_of_ble_eq_true rfl⟩ (va_recv (hK.sub (tys' := []) [] rfl) (hP.sub (ws' := [(g0, .inr (2, [.int co, .int (nI nv), .int (nI nc), .ref aL, .int (nI us), .ref aS, .int (nI dr), .ref aF, .ref aN, .ref aA, .int (nI as), .ref aO, .ref aV, .int la, .int bl, .ref aT, .int (nI th)])), (aL, .inl (kL, 4000, .inl lf)), (aS, .inl (kS, 501, .inl sf)), (aF, .inl (kF, 17, .inl ff)), (aN, .inl (kN, 500, .inl nf)), (aV, .inl (kV, 16, .inl (upd g v 1)))]) [0, 1, 2, 3, 4, 6] rfl) (ci := 2) (q0 := 0) rfl rfl) (hP.sub [0, 1, 2, 3, 4, 6] rfl) (hD.sub [0, 1, 2, 3, 4, 6] (by decide) rfl) (hK.sub [0, 1, 2, 3, 5] rfl) hZ hX hS hFc rfl hl.1 (Nat.le_of_ble_eq_true rfl) dM_search_92 ⟨Nat.le_of_ble_eq_true rfl, Nat.le_of_ble_eq_true rfl⟩) hP hD hS hFc [0, 1, 2, 3, 4, 6] [5] (wr := [(aO, .inl (kO, 16, .inl of))]) rfl rfl rfl (by decide) (fun z uu H locs hw hP hD hS => ?_)
                have hP : va_P (dC, dI) vwCl [(g0, .inr (2, [.int co, .int (nI nv), .int (nI nc), .ref aL, .int (nI us), .ref aS, .int (nI dr), .ref aF, .ref aN, .ref aA, .int (nI as), .ref aO, .ref aV, .int la, .int bl, .ref aT, .int (nI th)])), (aL, .inl (kL, 4000, .inl lf)), (aS, .inl (kS, 501, .inl sf)), (aF, .inl (kF, 17, .inl ff)), (aN, .inl (kN, 500, .inl nf)), (aO, .inl (kO, 16, .inl of)), (aV, .inl (kV, 16, .inl (upd g v 1)))] H := hP.sub [1, 2, 3, 4, 5, 0, 6] rfl
                have hD : va_D A [(g0, .inr (2, [.int co, .int (nI nv), .int (nI nc), .ref aL, .int (nI us), .ref aS, .int (nI dr), .ref aF, .ref aN, .ref aA, .int (nI as), .ref aO, .ref aV, .int la, .int bl, .ref aT, .int (nI th)])), (aL, .inl (kL, 4000, .inl lf)), (aS, .inl (kS, 501, .inl sf)), (aF, .inl (kF, 17, .inl ff)), (aN, .inl (kN, 500, .inl nf)), (aO, .inl (kO, 16, .inl of)), (aV, .inl (kV, 16, .inl (upd g v 1)))] := hD.sub [1, 2, 3, 4, 5, 0, 6] (by decide) rfl
                refine lv_if_ne (tgt := 102) hx hb dM_search_95 (by decide) (fun c7 => ?_) (fun c7 => ?_)
                · have hR : se_R lit st ch v (se_u va v 1) := by
                    rcases hw with ⟨_, h⟩ | ⟨h, _⟩
                    · exact h
                    · exact absurd h c7
                  refine lv_iconst (v := 0) hx hb dM_search_102 (by decide) ?_
                  refine lv_istore_n (lv' := [(2, .int 0), (0, .ref g0), (1, .int (nI v))]) hx hb dM_search_103 rfl hl (by decide) rfl (fun ls hl => ?_)
                  refine lv_iload_n hx hb dM_search_104 rfl (lv_at hl 0 rfl) ?_
                  refine lv_if_eq (tgt := 112) hx hb dM_search_105 (by decide) (fun c8 => ?_) (fun c8 => ?_)
                  · refine lv_iload_n hx hb dM_search_112 rfl (lv_at hl 2 rfl) ?_
                    refine lv_iconst (v := 1) hx hb dM_search_113 (by decide) ?_
                    refine lv_iadd hx hb dM_search_114 ?_
                    refine ls_topi (y := nI (v + 1)) (nI_1 _) ?_
                    refine lv_istore_n (lv' := [(1, .int (nI (v + 1))), (2, .int 0), (0, .ref g0)]) hx hb dM_search_115 rfl hl (by decide) rfl (fun ls hl => ?_)
                    refine lv_goto (tgt := 17) hx hb dM_search_116 (by decide) ?_
                    exact ih (v + 1, 0, upd g v 1, se_u va v 1) _ _ _ ((se_m2 c2 (by omega)).1) ⟨⟨hV2, Or.inl ⟨rfl, by omega, se_up f1 f2 hR f3⟩⟩, hP, hD, hS, lv_sub hl [2, 0, 1] rfl⟩
                  · exact absurd rfl c8
                · have hR : ¬ se_R lit st ch v (se_u va v 1) := by
                    rcases hw with ⟨h, _⟩ | ⟨_, c, h1, h2⟩
                    · rw [h] at c7; exact absurd c7 (by decide)
                    · exact fun q => h2 (q c h1)
                  refine lv_iconst (v := 1) hx hb dM_search_98 (by decide) ?_
                  refine lv_goto (tgt := 103) hx hb dM_search_99 (by decide) ?_
                  refine lv_istore_n (lv' := [(2, .int 1), (0, .ref g0), (1, .int (nI v))]) hx hb dM_search_103 rfl hl (by decide) rfl (fun ls hl => ?_)
                  refine lv_iload_n hx hb dM_search_104 rfl (lv_at hl 0 rfl) ?_
                  refine lv_if_eq (tgt := 112) hx hb dM_search_105 (by decide) (fun c8 => ?_) (fun c8 => ?_)
                  · exact absurd c8 (by decide)
                  · refine lv_iload_n hx hb dM_search_108 rfl (lv_at hl 2 rfl) ?_
                    refine lv_goto (tgt := 115) hx hb dM_search_109 (by decide) ?_
                    refine lv_istore_n (lv' := [(1, .int (nI v)), (2, .int 1), (0, .ref g0)]) hx hb dM_search_115 rfl hl (by decide) rfl (fun ls hl => ?_)
                    refine lv_goto (tgt := 17) hx hb dM_search_116 (by decide) ?_
                    exact ih (v, 1, upd g v 1, se_u va v 1) _ _ _ ((se_m2 c2 (by omega)).2) ⟨⟨hV2, Or.inr ⟨rfl, by omega, se_no hdp (by omega) f1 f2 hR f3⟩⟩, hP, hD, hS, lv_sub hl [2, 0, 1] rfl⟩
              · have hno := Or.inr (a := va v = 1) c5
                rcases Nat.eq_zero_or_pos v with v0 | v0
                · subst v0
                  refine lv_iinc (v := (-1)) (lv' := [(1, .int (-1)), (0, .ref g0), (2, .int (nI 1))]) hx hb dM_search_77 hl (k := 1) rfl (by decide) (by decide) rfl (fun ls hl => ?_)
                  refine lv_goto (tgt := 17) hx hb dM_search_80 (by decide) ?_
                  refine lv_iload_n hx hb dM_search_17 rfl (lv_at hl 0 rfl) ?_
                  refine lv_if_lt (tgt := 119) hx hb dM_search_18 (by decide) (fun c8 => ?_) (fun c8 => ?_)
                  · refine lv_iload_n hx hb dM_search_119 rfl (lv_at hl 0 rfl) ?_
                    refine lv_aload_n hx hb dM_search_120 rfl (lv_at hl 1 rfl) ?_
                    refine va_get (D := (dC, dI)) (ci := 2) (v := .int (nI nv)) (C := RM) (T := TM) (N := 17) hx hb hts lyM hown hK hP 0 rfl rfl 1 (by decide) (hts _ fl_M_41) (fun _ h9 => h9) rfl dM_search_121 ?_
                    refine lv_icmp_ne (tgt := 131) hx hb dM_search_124 (by decide) (fun c9 => ?_) (fun c9 => ?_)
                    · refine lv_iconst (v := 0) hx hb dM_search_131 (by decide) ?_
                      exact (W.zret (v := 0) hx hb hr (rfl) (fun t ht hW => ⟨⟨0, (g, va), rfl, ⟨hV, sv_no (fun b hb => se_none c2 hSB hno b hb (fun i hi => absurd hi (Nat.not_lt_zero _)))⟩, by rw [ht]; exact hP, va_K.moved hW.alike hK, hD⟩, hS.F ht⟩) hS.2.2 dM_search_132)
                    · exact absurd (nI_pos (n := nv) (by omega)) (by rw [← c9]; decide)
                  · exact absurd (by decide) c8
                · obtain ⟨v1, rfl⟩ : ∃ v1, v = v1 + 1 := ⟨v - 1, by omega⟩
                  refine lv_iinc (v := nI v1) (lv' := [(1, .int (nI v1)), (0, .ref g0), (2, .int (nI 1))]) hx hb dM_search_77 hl (k := 1) rfl (pk_m1 v1) (by decide) rfl (fun ls hl => ?_)
                  refine lv_goto (tgt := 17) hx hb dM_search_80 (by decide) ?_
                  exact ih (v1, 1, g, va) _ _ _ (se_m3) ⟨⟨hV, Or.inr ⟨rfl, by omega, se_down c2 hSB hno⟩⟩, hP, hD, hS, lv_sub hl [1, 0, 2] rfl⟩
          · have c3 : 1 = 0 := (nI_eq (a := 1) (b := 0) (by omega) (by omega)).mp c3
            exact absurd c3 (by decide)
  · refine lv_iconst (v := 0) hx hb dM_search_11 (by decide) ?_
    exact (W.zret (v := 0) hx hb hr (rfl) (fun t ht hW => ⟨⟨0, (vf, vv0), rfl, ⟨hV0, sv_no (fun b hb => c1 (h16.mpr hb.1))⟩, by rw [ht]; exact hP, va_K.moved hW.alike hK, hD⟩, hS.F ht⟩) hS.2.2 dM_search_12)
