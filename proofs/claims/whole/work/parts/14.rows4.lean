set_option maxHeartbeats 4000000 in
set_option maxRecDepth 100000 in
/-- leastRow() -/
theorem k_R_leastRow (l : Launch) (dC : Nat → ClassId) (dI : Nat → Nat → Nat) (tI sz : Nat) (h w : Nat) (cL : ClassId) (f : Nat → Int64) (U : Nat) (hU : U ≤ 1024) (n : Nat) (hn : U = 2 ^ n) (hn1 : n ≤ 10) (hne : ∃ k, k < U ∧ f k ≠ 0) : Met l yR_leastRow (Cond.code yR_leastRow cR_leastRow 8 (some .int) :: GG) (lvr 3 0 0) (va_Pc [.ref h] (wPre dC dI [(cL, .long)] [(h, .inr (0, [.ref w, .int (nI U)])), (w, .inl (cL, 1024, .inr (.inl f)))] sz tI)) (va_Qi (fun (r : Int32) (u : Unit) => ∃ q, r = nI q ∧ lr_L f n q) (fun u t => wB dC dI [(cL, .long)] (va_A [(h, .inr (0, [.ref w, .int (nI U)])), (w, .inl (cL, 1024, .inr (.inl f)))] sz) [(h, .inr (0, [.ref w, .int (nI U)])), (w, .inl (cL, 1024, .inr (.inl f)))] t) (va_A [(h, .inr (0, [.ref w, .int (nI U)])), (w, .inl (cL, 1024, .inr (.inl f)))] sz)) 0 0 (va_A [(h, .inr (0, [.ref w, .int (nI U)])), (w, .inl (cL, 1024, .inr (.inl f)))] sz) := by
  refine Met.ofW (cc := cR_leastRow) (maxL := 8) (ret := (some .int)) (by decide) rfl ?_
  intro p e s m args below meth c s₁ B hml hv
  obtain ⟨rfl, hsz, hP, hK, hD0, hZ, hX⟩ := hv
  have hx := B.exec
  have hb := B.bytes
  have hr := B.returns
  have hts : ∀ w ∈ GG, w.before ([.ref h] : List Value).toArray s = true := fun w h => atoms_spec (ws := _ :: GG) B.pre w (List.mem_cons_of_mem _ h)
  have hown : s.vm.findClass RR = some m.cls := findClass_of_methodNamed B.named
  have hlocks := B.notSynchronized
  subst hsz
  have hD := hD0.self (sz := s.heap.size)
  generalize hAe : va_A [(h, .inr (0, [.ref w, .int (nI U)])), (w, .inl (cL, 1024, .inr (.inl f)))] s.heap.size = A at hD hZ ⊢
  have hA : ∀ q : Nat, s.heap.size ≤ q → A q := fun q h => by rw [← hAe]; exact Or.inr h
  have hS : va_S A s.heap s.heap [] := va_S.rf
  have hl := lv_entry ([.ref h]) (n := 8) (Nat.le_of_ble_eq_true rfl)
  rw [lg_entry_eq]
  generalize (lg_sl ([.ref h]) ++ List.replicate (8 - (lg_sl ([.ref h])).length) Slot.unset).toArray = ls at hl ⊢
  have hl : lv_has ls 8 [(0, .ref h)] := hl
  have SF : CallFix p m c cR_leastRow 8 s ([.ref h] : List Value).toArray GG RR := ⟨hx, hb, hml, hown, hts⟩
  skip
  have hP : va_P (dC, dI) vwCl [(h, .inr (0, [.ref w, .int (nI U)])), (w, .inl (cL, 1024, .inr (.inl f)))] s.heap := hP
  refine lv_lconst (v := 0) hx hb dR_leastRow_0 (by decide) ?_
  refine lv_lstore_n (lv' := [(1, .long 0), (0, .ref h)]) hx hb dR_leastRow_1 rfl hl (by decide) rfl (fun ls hl => ?_)
  refine lv_aload_n hx hb dR_leastRow_2 rfl (lv_at hl 1 rfl) ?_
  have hFc := va_free (wc := [(h, .inr (0, [.ref w, .int (nI U)])), (w, .inl (cL, 1024, .inr (.inl f)))]) hD hS hA [0, 1] rfl
  refine wc_i (wc_V (As := []) (rest := []) (n := 0) SF (k_R_end l dC dI tI _ h w cL f U hU) ml_R_21 im_R_end se_R_end in_R co_R_end (by decide +kernel) rfl rfl rfl ⟨Nat.le_of_ble_eq_true rfl, Nat.le_of_ble_eq_true rfl⟩ (va_recv (hK.sub (tys' := []) [] rfl) (hP.sub (ws' := [(h, .inr (0, [.ref w, .int (nI U)])), (w, .inl (cL, 1024, .inr (.inl f)))]) [0, 1] rfl) (ci := 0) (q0 := 0) rfl rfl) (hP.sub [0, 1] rfl) (hD.sub [0, 1] (by decide) rfl) (hK.sub [0] rfl) hZ hX hS hFc rfl hl.1 (Nat.le_of_ble_eq_true rfl) dR_leastRow_3 ⟨Nat.le_of_ble_eq_true rfl, Nat.le_of_ble_eq_true rfl⟩) hP hD hS hFc [0, 1] [] (wr := []) rfl rfl rfl (by decide) (fun z uu H locs hw hP hD hS => ?_)
  have hP : va_P (dC, dI) vwCl [(h, .inr (0, [.ref w, .int (nI U)])), (w, .inl (cL, 1024, .inr (.inl f)))] H := hP.sub [0, 1] rfl
  have hD : va_D A [(h, .inr (0, [.ref w, .int (nI U)])), (w, .inl (cL, 1024, .inr (.inl f)))] := hD.sub [0, 1] (by decide) rfl
  have hw : z = nI U := hw
  subst hw
  refine lv_istore_n (lv' := [(3, .int (nI U)), (1, .long 0), (0, .ref h)]) hx hb dR_leastRow_6 rfl hl (by decide) rfl (fun ls hl => ?_)
  refine lv_iconst (v := 0) hx hb dR_leastRow_7 (by decide) ?_
  refine lv_istore (lv' := [(4, .int 0), (3, .int (nI U)), (1, .long 0), (0, .ref h)]) hx hb dR_leastRow_8 hl (by decide) rfl (fun ls hl => ?_)
  refine lp_mu (α := Nat × Int64) (fun a_ => match a_ with | (i, bits) => U - i) (fun a_ H locs ls => match a_ with | (i, bits) => (i ≤ U ∧ ∀ b, b < 64 → (ls_b bits b = true ↔ ∃ k, k < i ∧ ls_b (f k) b = true)) ∧ va_P (dC, dI) vwCl [(h, .inr (0, [.ref w, .int (nI U)])), (w, .inl (cL, 1024, .inr (.inl f)))] H ∧ va_D A [(h, .inr (0, [.ref w, .int (nI U)])), (w, .inl (cL, 1024, .inr (.inl f)))] ∧ va_S A s.heap H locs ∧ lv_has ls 8 [(0, .ref h), (1, .long bits), (3, .int (nI U)), (4, .int (nI i))]) ?_ (0, 0) ⟨⟨Nat.zero_le _, fun b hb => by rw [ls_b_0]; simp⟩, hP, hD, hS, lv_sub hl [3, 2, 1, 0] rfl⟩
  intro a_ H locs ls hI ih
  obtain ⟨i, bits⟩ := a_
  obtain ⟨hI, hP, hD, hS, hl⟩ := hI
  have hI : i ≤ U ∧ ∀ b, b < 64 → (ls_b bits b = true ↔ ∃ k, k < i ∧ ls_b (f k) b = true) := hI
  have hP : va_P (dC, dI) vwCl [(h, .inr (0, [.ref w, .int (nI U)])), (w, .inl (cL, 1024, .inr (.inl f)))] H := hP
  have hD : va_D A [(h, .inr (0, [.ref w, .int (nI U)])), (w, .inl (cL, 1024, .inr (.inl f)))] := hD
  have hl : lv_has ls 8 [(0, .ref h), (1, .long bits), (3, .int (nI U)), (4, .int (nI i))] := hl
  obtain ⟨hi, hb1⟩ := hI
  refine lv_iload hx hb dR_leastRow_10 (lv_at hl 3 rfl) ?_
  refine lv_iload_n hx hb dR_leastRow_12 rfl (lv_at hl 2 rfl) ?_
  refine lv_icmp_ge (tgt := 32) hx hb dR_leastRow_13 (by decide) (fun c1 => ?_) (fun c1 => ?_)
  · have c1 : U ≤ i := (nI_leI (a := U) (b := i) (by omega) (by omega)).mp c1
    have h20 : lr_2 f U 0 bits 0 := lr_20 (fun b hb => by rw [hb1 b hb, show i = U by omega]; rfl) hne
    refine lv_iconst (v := 0) hx hb dR_leastRow_32 (by decide) ?_
    refine lv_istore (lv' := [(4, .int 0), (0, .ref h), (1, .long bits), (3, .int (nI U))]) hx hb dR_leastRow_33 hl (by decide) rfl (fun ls hl => ?_)
    refine lv_iconst (v := 0) hx hb dR_leastRow_35 (by decide) ?_
    refine lv_istore (lv' := [(5, .int 0), (4, .int 0), (0, .ref h), (1, .long bits), (3, .int (nI U))]) hx hb dR_leastRow_36 hl (by decide) rfl (fun ls hl => ?_)
    refine lp_mu (α := Nat × Int64 × Nat) (fun a_ => match a_ with | (v, bt, inn) => 6 - v) (fun a_ H locs ls => match a_ with | (v, bt, inn) => (lr_2 f U v bt inn) ∧ va_P (dC, dI) vwCl [(h, .inr (0, [.ref w, .int (nI U)])), (w, .inl (cL, 1024, .inr (.inl f)))] H ∧ va_D A [(h, .inr (0, [.ref w, .int (nI U)])), (w, .inl (cL, 1024, .inr (.inl f)))] ∧ va_S A s.heap H locs ∧ lv_has ls 8 [(0, .ref h), (1, .long bt), (3, .int (nI U)), (4, .int (nI inn)), (5, .int (nI v))]) ?_ (0, bits, 0) ⟨h20, hP, hD, hS, lv_sub hl [2, 3, 4, 1, 0] rfl⟩
    intro a_ H locs ls hJ ih2
    obtain ⟨v, bt, inn⟩ := a_
    obtain ⟨hJ, hP, hD, hS, hl⟩ := hJ
    have hJ : lr_2 f U v bt inn := hJ
    have hP : va_P (dC, dI) vwCl [(h, .inr (0, [.ref w, .int (nI U)])), (w, .inl (cL, 1024, .inr (.inl f)))] H := hP
    have hD : va_D A [(h, .inr (0, [.ref w, .int (nI U)])), (w, .inl (cL, 1024, .inr (.inl f)))] := hD
    have hl : lv_has ls 8 [(0, .ref h), (1, .long bt), (3, .int (nI U)), (4, .int (nI inn)), (5, .int (nI v))] := hl
    have hv6 := hJ.1
    have hin := hJ.2.1
    have hpv : 2 ^ v ≤ 64 := Nat.le_trans (Nat.pow_le_pow_right (by decide) hv6) (by decide)
    refine lv_iload hx hb dR_leastRow_38 (lv_at hl 4 rfl) ?_
    refine va_gets hx hb hZ.1 hS hown (hts _ fl_R_31) (fun _ h9 => h9) dR_leastRow_40 ?_
    refine va_tlen (v := 6) hx hb hZ.2.1 hS rfl dR_leastRow_43 ?_
    refine lv_icmp_ge (tgt := 89) hx hb dR_leastRow_44 (by decide) (fun c2 => ?_) (fun c2 => ?_)
    · have c2 : 6 ≤ v := (nI_leI (a := 6) (b := v) (by omega) (by omega)).mp c2
      have hv : v = 6 := by omega
      subst hv
      obtain ⟨hi64, hbb, h30⟩ := lr_6 hJ
      refine lv_iconst (v := 0) hx hb dR_leastRow_89 (by decide) ?_
      refine lv_istore (lv' := [(5, .int 0), (0, .ref h), (1, .long bt), (3, .int (nI U)), (4, .int (nI inn))]) hx hb dR_leastRow_90 hl (by decide) rfl (fun ls hl => ?_)
      refine lv_iconst (v := 1) hx hb dR_leastRow_92 (by decide) ?_
      refine lv_istore (lv' := [(6, .int 1), (5, .int 0), (0, .ref h), (1, .long bt), (3, .int (nI U)), (4, .int (nI inn))]) hx hb dR_leastRow_93 hl (by decide) rfl (fun ls hl => ?_)
      refine lp_mu (α := Nat × Nat) (fun a_ => match a_ with | (j, wd) => n - j) (fun a_ H locs ls => match a_ with | (j, wd) => (j ≤ n ∧ lr_3 f U inn j wd) ∧ va_P (dC, dI) vwCl [(h, .inr (0, [.ref w, .int (nI U)])), (w, .inl (cL, 1024, .inr (.inl f)))] H ∧ va_D A [(h, .inr (0, [.ref w, .int (nI U)])), (w, .inl (cL, 1024, .inr (.inl f)))] ∧ va_S A s.heap H locs ∧ lv_has ls 8 [(0, .ref h), (1, .long bt), (3, .int (nI U)), (4, .int (nI inn)), (5, .int (nI wd)), (6, .int (nI (2 ^ j)))]) ?_ (0, 0) ⟨⟨Nat.zero_le _, h30⟩, hP, hD, hS, lv_sub hl [2, 3, 4, 5, 1, 0] rfl⟩
      intro a_ H locs ls hK3 ih3
      obtain ⟨j, wd⟩ := a_
      obtain ⟨hK3, hP, hD, hS, hl⟩ := hK3
      have hK3 : j ≤ n ∧ lr_3 f U inn j wd := hK3
      have hP : va_P (dC, dI) vwCl [(h, .inr (0, [.ref w, .int (nI U)])), (w, .inl (cL, 1024, .inr (.inl f)))] H := hP
      have hD : va_D A [(h, .inr (0, [.ref w, .int (nI U)])), (w, .inl (cL, 1024, .inr (.inl f)))] := hD
      have hl : lv_has ls 8 [(0, .ref h), (1, .long bt), (3, .int (nI U)), (4, .int (nI inn)), (5, .int (nI wd)), (6, .int (nI (2 ^ j)))] := hl
      obtain ⟨hjn, h3⟩ := hK3
      have hwd := h3.1
      have hpj : 2 ^ j ≤ 2 ^ n := Nat.pow_le_pow_right (by decide) hjn
      refine lv_iload hx hb dR_leastRow_95 (lv_at hl 5 rfl) ?_
      refine lv_iload_n hx hb dR_leastRow_97 rfl (lv_at hl 2 rfl) ?_
      refine lv_icmp_ge (tgt := 139) hx hb dR_leastRow_98 (by decide) (fun c4 => ?_) (fun c4 => ?_)
      · have c4 : U ≤ (2 ^ j) := (nI_leI (a := U) (b := (2 ^ j)) (by omega) (by omega)).mp c4
        have ej : j = n := by
          rcases Nat.lt_or_ge j n with q | q
          · have := Nat.pow_lt_pow_right (a := 2) (by decide) q
            omega
          · omega
        subst ej
        refine lv_iload hx hb dR_leastRow_139 (lv_at hl 4 rfl) ?_
        refine lv_bipush (v := 6) hx hb dR_leastRow_141 (by decide) ?_
        refine lv_ishl hx hb dR_leastRow_143 ?_
        refine ls_topi (y := nI (64 * wd)) (by have q := ls_shl (n := wd) (k := 6) (by decide) (by omega); rw [Nat.mul_comm] at q; exact q) ?_
        refine lv_iload hx hb dR_leastRow_144 (lv_at hl 3 rfl) ?_
        refine lv_ior hx hb dR_leastRow_146 ?_
        refine ls_topi (y := nI (64 * wd + inn)) (by rw [nx_or]; congr 1; have q := Nat.two_pow_add_eq_or_of_lt (i := 6) (b := inn) hi64 wd; exact q.symm) ?_
        exact (W.iret (v := nI (64 * wd + inn)) hx hb hr (fun t ht hW => ⟨⟨nI (64 * wd + inn), (), rfl, ⟨_, rfl, by rw [hn] at hJ h3; exact lr_end hJ h3⟩, by rw [ht]; exact hP, va_K.moved hW.alike hK, hD⟩, hS.F ht⟩) hS.2.2 dR_leastRow_147)
      · have c4 : (2 ^ j) < U := Nat.lt_of_not_le (fun q => c4 ((nI_leI (a := U) (b := (2 ^ j)) (by omega) (by omega)).mpr q))
        have hjl : j < n := (Nat.pow_lt_pow_iff_right (a := 2) (by decide)).mp (by omega)
        have hj1 : 2 ^ (j + 1) ≤ 2 ^ n := Nat.pow_le_pow_right (by decide) hjl
        have hj2 : 2 ^ (j + 1) = 2 ^ j * 2 := Nat.pow_succ 2 j
        refine lv_iload hx hb dR_leastRow_101 (lv_at hl 5 rfl) ?_
        refine lv_sipush (v := 1024) hx hb dR_leastRow_103 (by decide) ?_
        refine lv_icmp_ge (tgt := 139) hx hb dR_leastRow_106 (by decide) (fun c5 => ?_) (fun c5 => ?_)
        · have c5 : 1024 ≤ (2 ^ j) := (nI_leI (a := 1024) (b := (2 ^ j)) (by omega) (by omega)).mp c5
          exact absurd c5 (by omega)
        · have c5 : (2 ^ j) < 1024 := Nat.lt_of_not_le (fun q => c5 ((nI_leI (a := 1024) (b := (2 ^ j)) (by omega) (by omega)).mpr q))
          refine lv_aload_n hx hb dR_leastRow_109 rfl (lv_at hl 0 rfl) ?_
          refine lv_iload hx hb dR_leastRow_110 (lv_at hl 4 rfl) ?_
          refine lv_iconst (v := 2) hx hb dR_leastRow_112 (by decide) ?_
          refine lv_iload hx hb dR_leastRow_113 (lv_at hl 5 rfl) ?_
          refine lv_imul hx hb dR_leastRow_115 ?_
          refine ls_topi (y := nI (2 ^ (j + 1))) (by rw [hj2, Nat.mul_comm]; exact pk_mul 2 _) ?_
          refine lv_lload_n hx hb dR_leastRow_116 rfl (lv_at hl 1 rfl) ?_
          have hFc := va_free (wc := [(h, .inr (0, [.ref w, .int (nI U)])), (w, .inl (cL, 1024, .inr (.inl f)))]) hD hS hA [0, 1] rfl
          refine wc_i (wc_V (As := [.int (nI wd), .int (nI (2 ^ (j + 1))), .long bt]) (rest := []) (n := 3) SF (k_R_anyIn l dC dI tI _ h w cL f U hU wd (2 ^ (j + 1)) bt (by omega) (by omega) (by omega)) ml_R_53 im_R_anyIn se_R_anyIn in_R co_R_anyIn (by decide +kernel) rfl rfl rfl ⟨Nat.le_of_ble_eq_true rfl, Nat.le_of_ble_eq_true rfl⟩ (va_recv (hK.sub (tys' := []) [] rfl) (hP.sub (ws' := [(h, .inr (0, [.ref w, .int (nI U)])), (w, .inl (cL, 1024, .inr (.inl f)))]) [0, 1] rfl) (ci := 0) (q0 := 0) rfl rfl) (hP.sub [0, 1] rfl) (hD.sub [0, 1] (by decide) rfl) (hK.sub [0] rfl) hZ hX hS hFc rfl hl.1 (Nat.le_of_ble_eq_true rfl) dR_leastRow_117 ⟨Nat.le_of_ble_eq_true rfl, Nat.le_of_ble_eq_true rfl⟩) hP hD hS hFc [0, 1] [] (wr := []) rfl rfl rfl (by decide) (fun z uu H locs hw hP hD hS => ?_)
          have hP : va_P (dC, dI) vwCl [(h, .inr (0, [.ref w, .int (nI U)])), (w, .inl (cL, 1024, .inr (.inl f)))] H := hP.sub [0, 1] rfl
          have hD : va_D A [(h, .inr (0, [.ref w, .int (nI U)])), (w, .inl (cL, 1024, .inr (.inl f)))] := hD.sub [0, 1] (by decide) rfl
          refine lv_if_ne (tgt := 130) hx hb dR_leastRow_120 (by decide) (fun c6 => ?_) (fun c6 => ?_)
          · obtain ⟨t, ht, htv⟩ : ∃ t, wd + 2 ^ (j + 1) * t < U ∧ f (wd + 2 ^ (j + 1) * t) &&& bt ≠ 0 := by
              rcases hw with ⟨_, q⟩ | ⟨q, _⟩
              · exact q
              · exact absurd q c6
            refine lv_iload hx hb dR_leastRow_130 (lv_at hl 5 rfl) ?_
            refine lv_iconst (v := 2) hx hb dR_leastRow_132 (by decide) ?_
            refine lv_imul hx hb dR_leastRow_133 ?_
            refine ls_topi (y := nI (2 ^ (j + 1))) (by rw [hj2]; exact pk_mul _ 2) ?_
            refine lv_istore (lv' := [(6, .int (nI (2 ^ (j + 1)))), (0, .ref h), (1, .long bt), (3, .int (nI U)), (4, .int (nI inn)), (5, .int (nI wd))]) hx hb dR_leastRow_134 hl (by decide) rfl (fun ls hl => ?_)
            refine lv_goto (tgt := 95) hx hb dR_leastRow_136 (by decide) ?_
            exact ih3 (j + 1, wd) _ _ _ (by show n - (j + 1) < n - j; omega) ⟨⟨hjl, lr_3y h3 ht ((lr_nz hi64 hbb ht).mp htv)⟩, hP, hD, hS, lv_sub hl [1, 2, 3, 4, 5, 0] rfl⟩
          · have hno : ∀ t, wd + 2 ^ (j + 1) * t < U → ¬ ls_b (f (wd + 2 ^ (j + 1) * t)) inn = true := by
              rcases hw with ⟨q, _⟩ | ⟨_, q⟩
              · rw [q] at c6; exact absurd c6 (by decide)
              · exact fun t ht hv => ((lr_nz hi64 hbb ht).mpr hv) (q t ht)
            refine lv_iload hx hb dR_leastRow_123 (lv_at hl 4 rfl) ?_
            refine lv_iload hx hb dR_leastRow_125 (lv_at hl 5 rfl) ?_
            refine lv_ior hx hb dR_leastRow_127 ?_
            refine ls_topi (y := nI (wd + 2 ^ j)) (by rw [nx_or, lr_or hwd]) ?_
            refine lv_istore (lv' := [(5, .int (nI (wd + 2 ^ j))), (0, .ref h), (1, .long bt), (3, .int (nI U)), (4, .int (nI inn)), (6, .int (nI (2 ^ j)))]) hx hb dR_leastRow_128 hl (by decide) rfl (fun ls hl => ?_)
            refine lv_iload hx hb dR_leastRow_130 (lv_at hl 5 rfl) ?_
            refine lv_iconst (v := 2) hx hb dR_leastRow_132 (by decide) ?_
            refine lv_imul hx hb dR_leastRow_133 ?_
            refine ls_topi (y := nI (2 ^ (j + 1))) (by rw [hj2]; exact pk_mul _ 2) ?_
            refine lv_istore (lv' := [(6, .int (nI (2 ^ (j + 1)))), (5, .int (nI (wd + 2 ^ j))), (0, .ref h), (1, .long bt), (3, .int (nI U)), (4, .int (nI inn))]) hx hb dR_leastRow_134 hl (by decide) rfl (fun ls hl => ?_)
            refine lv_goto (tgt := 95) hx hb dR_leastRow_136 (by decide) ?_
            exact ih3 (j + 1, wd + 2 ^ j) _ _ _ (by show n - (j + 1) < n - j; omega) ⟨⟨hjl, lr_3n h3 hno⟩, hP, hD, hS, lv_sub hl [2, 3, 4, 5, 1, 0] rfl⟩
    · have c2 : v < 6 := Nat.lt_of_not_le (fun q => c2 ((nI_leI (a := 6) (b := v) (by omega) (by omega)).mpr q))
      refine lv_lload_n hx hb dR_leastRow_47 rfl (lv_at hl 1 rfl) ?_
      refine va_gets hx hb hZ.1 hS hown (hts _ fl_R_31) (fun _ h9 => h9) dR_leastRow_48 ?_
      refine lv_iload hx hb dR_leastRow_51 (lv_at hl 4 rfl) ?_
      refine va_tl (v := .long (ls_ones v)) hx hb hZ.2.1 hS (vp_in_nI c2 (by decide)) (by rw [nI_clamp (by omega)]) dR_leastRow_53 ?_
      refine lv_ldc2 (v := (-1)) hx hb hown (hts _ cj_R_19) dR_leastRow_54 ?_
      refine lv_lxor hx hb dR_leastRow_57 ?_
      refine lv_land hx hb dR_leastRow_58 ?_
      refine lv_lstore (lv' := [(6, .long (bt &&& ((ls_ones v) ^^^ (-1)))), (0, .ref h), (1, .long bt), (3, .int (nI U)), (4, .int (nI inn)), (5, .int (nI v))]) hx hb dR_leastRow_59 hl (by decide) rfl (fun ls hl => ?_)
      refine lv_lload hx hb dR_leastRow_61 (lv_at hl 0 rfl) ?_
      refine lv_lconst (v := 0) hx hb dR_leastRow_63 (by decide) ?_
      refine W.lcmp hx hb dR_leastRow_64 ?_
      refine lv_if_eq (tgt := 74) hx hb dR_leastRow_65 (by decide) (fun c3 => ?_) (fun c3 => ?_)
      · have c3 := (ls_cmp0 _).mp c3
        refine lv_iload hx hb dR_leastRow_74 (lv_at hl 4 rfl) ?_
        refine lv_iconst (v := 1) hx hb dR_leastRow_76 (by decide) ?_
        refine lv_iload hx hb dR_leastRow_77 (lv_at hl 5 rfl) ?_
        refine lv_ishl hx hb dR_leastRow_79 ?_
        refine ls_topi (y := nI (2 ^ v)) (by have q := ls_shl (n := 1) (k := v) (by omega) (by rw [Nat.one_mul]; exact Nat.pow_lt_pow_right (by decide) (by omega)); rw [Nat.one_mul] at q; exact q) ?_
        refine lv_ior hx hb dR_leastRow_80 ?_
        refine ls_topi (y := nI (inn + 2 ^ v)) (by rw [nx_or, lr_or hin]) ?_
        refine lv_istore (lv' := [(4, .int (nI (inn + 2 ^ v))), (6, .long (bt &&& ((ls_ones v) ^^^ (-1)))), (0, .ref h), (1, .long bt), (3, .int (nI U)), (5, .int (nI v))]) hx hb dR_leastRow_81 hl (by decide) rfl (fun ls hl => ?_)
        refine lv_iinc (v := nI (v + 1)) (lv' := [(5, .int (nI (v + 1))), (4, .int (nI (inn + 2 ^ v))), (6, .long (bt &&& ((ls_ones v) ^^^ (-1)))), (0, .ref h), (1, .long bt), (3, .int (nI U))]) hx hb dR_leastRow_83 hl (k := 5) rfl (nI_1 _) (by decide) rfl (fun ls hl => ?_)
        refine lv_goto (tgt := 38) hx hb dR_leastRow_86 (by decide) ?_
        exact ih2 (v + 1, bt, inn + 2 ^ v) _ _ _ (by show 6 - (v + 1) < 6 - v; omega) ⟨lr_2o hJ c2 c3, hP, hD, hS, lv_sub hl [3, 4, 5, 1, 0] rfl⟩
      · refine lv_lload hx hb dR_leastRow_68 (lv_at hl 0 rfl) ?_
        refine lv_lstore_n (lv' := [(1, .long (bt &&& ((ls_ones v) ^^^ (-1)))), (6, .long (bt &&& ((ls_ones v) ^^^ (-1)))), (0, .ref h), (3, .int (nI U)), (4, .int (nI inn)), (5, .int (nI v))]) hx hb dR_leastRow_70 rfl hl (by decide) rfl (fun ls hl => ?_)
        refine lv_goto (tgt := 83) hx hb dR_leastRow_71 (by decide) ?_
        refine lv_iinc (v := nI (v + 1)) (lv' := [(5, .int (nI (v + 1))), (1, .long (bt &&& ((ls_ones v) ^^^ (-1)))), (6, .long (bt &&& ((ls_ones v) ^^^ (-1)))), (0, .ref h), (3, .int (nI U)), (4, .int (nI inn))]) hx hb dR_leastRow_83 hl (k := 5) rfl (nI_1 _) (by decide) rfl (fun ls hl => ?_)
        refine lv_goto (tgt := 38) hx hb dR_leastRow_86 (by decide) ?_
        exact ih2 (v + 1, bt &&& (ls_ones v ^^^ (-1)), inn) _ _ _ (by show 6 - (v + 1) < 6 - v; omega) ⟨lr_2z hJ c2 (fun q => c3 ((ls_cmp0 _).mpr q)), hP, hD, hS, lv_sub hl [3, 1, 4, 5, 0] rfl⟩
  · have c1 : i < U := Nat.lt_of_not_le (fun q => c1 ((nI_leI (a := U) (b := i) (by omega) (by omega)).mpr q))
    refine lv_lload_n hx hb dR_leastRow_16 rfl (lv_at hl 1 rfl) ?_
    refine lv_aload_n hx hb dR_leastRow_17 rfl (lv_at hl 0 rfl) ?_
    refine va_get (D := (dC, dI)) (ci := 0) (v := .ref w) (C := RR) (T := TR) (N := 2) hx hb hts lyR hown hK hP 0 rfl rfl 0 (by decide) (hts _ fl_R_11) (fun _ h9 => h9) rfl dR_leastRow_18 ?_
    refine lv_iload hx hb dR_leastRow_21 (lv_at hl 3 rfl) ?_
    refine va_lald hx hb hK hP 1 0 rfl rfl (vp_in_nI (by omega) (by decide)) dR_leastRow_23 ?_
    refine ls_topl (y := f i) (by rw [nI_clamp (by omega)]) ?_
    refine lv_lor hx hb dR_leastRow_24 ?_
    refine lv_lstore_n (lv' := [(1, .long (bits ||| (f i))), (0, .ref h), (3, .int (nI U)), (4, .int (nI i))]) hx hb dR_leastRow_25 rfl hl (by decide) rfl (fun ls hl => ?_)
    refine lv_iinc (v := nI (i + 1)) (lv' := [(4, .int (nI (i + 1))), (1, .long (bits ||| (f i))), (0, .ref h), (3, .int (nI U))]) hx hb dR_leastRow_26 hl (k := 3) rfl (nI_1 _) (by decide) rfl (fun ls hl => ?_)
    refine lv_goto (tgt := 10) hx hb dR_leastRow_29 (by decide) ?_
    exact ih (i + 1, bits ||| f i) _ _ _ (by show U - (i + 1) < U - i; omega) ⟨⟨c1, fun b hb => by
        rw [ls_b_or, Bool.or_eq_true, hb1 b hb]
        constructor
        · intro q
          rcases q with ⟨k, h, g⟩ | q
          · exact ⟨k, by omega, g⟩
          · exact ⟨i, by omega, q⟩
        · rintro ⟨k, h, g⟩
          rcases Nat.lt_or_ge k i with q | q
          · exact Or.inl ⟨k, q, g⟩
          · rw [show k = i by omega] at g; exact Or.inr g⟩, hP, hD, hS, lv_sub hl [2, 1, 3, 0] rfl⟩
