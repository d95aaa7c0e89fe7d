def mu_x (L : Nat) : Nat := if L % 2 = 0 then L + 1 else L - 1
theorem mu_xor : ∀ L, L < 32 → nI L ^^^ 1 = nI (mu_x L) := by decide +kernel
theorem mu_lt : ∀ {L}, L < 32 → mu_x L < 32 := by decide +kernel
def mu_P (f : Nat → Int64) (U L : Nat) : Prop := ∃ k, k < U ∧ f k &&& ls_rw L k ≠ 0
theorem mu_0 {f : Nat → Int64} {U L : Nat} {r : Int32} (h : (r = 1 ∧ ∃ k, k < U ∧ f k &&& ls_rw L k ≠ 0) ∨ (r = 0 ∧ ∀ k, k < U → f k &&& ls_rw L k = 0)) (c : r = 0) : ¬ mu_P f U L := by
  rcases h with ⟨h, _⟩ | ⟨_, h⟩
  · rw [h] at c; exact absurd c (by decide)
  · rintro ⟨k, hk, hv⟩; exact hv (h k hk)
theorem mu_1 {f : Nat → Int64} {U L : Nat} {r : Int32} (h : (r = 1 ∧ ∃ k, k < U ∧ f k &&& ls_rw L k ≠ 0) ∨ (r = 0 ∧ ∀ k, k < U → f k &&& ls_rw L k = 0)) (c : ¬ r = 0) : mu_P f U L := by
  rcases h with ⟨_, h⟩ | ⟨h, _⟩
  · exact h
  · exact absurd h c
set_option maxHeartbeats 4000000 in
set_option maxRecDepth 100000 in
theorem k_S_refuse (l : Launch) (hst : l.stackTraces = false) (dC : Nat → ClassId) (dI : Nat → Nat → Nat) (tI sz : Nat) (h0 h1 h2 aw aa : Nat) (nv nl nc wc ac vt : Nat) (fo bl lv : Int32) (x : Int32) (hnv : nv ≤ 16) : vx_Met l yS_refuseUnknownLiteral (Cond.code yS_refuseUnknownLiteral cS_refuseUnknownLiteral 2 none :: GG) (lvr 6 1 6) (va_Pc [.ref h0, .int x] (wPre dC dI [] [(h0, .inr (1, [.ref h1, .ref h2, .ref aw, .ref aa, .int (nI nv), .int (nI nl), .int (nI nc), .int (nI wc), .int (nI ac), .int fo, .int bl, .int lv, .int (nI vt)]))] sz tI)) (va_Qv (fun (u : Unit) => (∃ L, L < 2 * nv ∧ x = nI L)) (fun u t => wB dC dI [] (va_A [(h0, .inr (1, [.ref h1, .ref h2, .ref aw, .ref aa, .int (nI nv), .int (nI nl), .int (nI nc), .int (nI wc), .int (nI ac), .int fo, .int bl, .int lv, .int (nI vt)]))] sz) [(h0, .inr (1, [.ref h1, .ref h2, .ref aw, .ref aa, .int (nI nv), .int (nI nl), .int (nI nc), .int (nI wc), .int (nI ac), .int fo, .int bl, .int lv, .int (nI vt)]))] t) (va_A [(h0, .inr (1, [.ref h1, .ref h2, .ref aw, .ref aa, .int (nI nv), .int (nI nl), .int (nI nc), .int (nI wc), .int (nI ac), .int fo, .int bl, .int lv, .int (nI vt)]))] sz)) (wXC dC dI [] [(h0, .inr (1, [.ref h1, .ref h2, .ref aw, .ref aa, .int (nI nv), .int (nI nl), .int (nI nc), .int (nI wc), .int (nI ac), .int fo, .int bl, .int lv, .int (nI vt)]))] sz (fun E => E = xA ∧ ¬ (∃ L, L < 2 * nv ∧ x = nI L))) 1 6 (va_A [(h0, .inr (1, [.ref h1, .ref h2, .ref aw, .ref aa, .int (nI nv), .int (nI nl), .int (nI nc), .int (nI wc), .int (nI ac), .int fo, .int bl, .int lv, .int (nI vt)]))] sz) := by
  unfold wXC
  refine vx_ofW (cc := cS_refuseUnknownLiteral) (maxL := 2) (ret := none) (by decide) rfl ?_
  intro p e s m args below meth c s₁ B hml hnt hv
  obtain ⟨rfl, hsz, hP, hK, hD0, hZ, hX⟩ := hv
  have hx := B.exec
  have hb := B.bytes
  have hr := B.returns
  have hts : ∀ w ∈ GG, w.before ([.ref h0, .int x] : List Value).toArray s = true := fun w h => atoms_spec (ws := _ :: GG) B.pre w (List.mem_cons_of_mem _ h)
  have hown : s.vm.findClass RS = some m.cls := findClass_of_methodNamed B.named
  have hlocks := B.notSynchronized
  subst hsz
  have hD := hD0.self (sz := s.heap.size)
  generalize hAe : va_A [(h0, .inr (1, [.ref h1, .ref h2, .ref aw, .ref aa, .int (nI nv), .int (nI nl), .int (nI nc), .int (nI wc), .int (nI ac), .int fo, .int bl, .int lv, .int (nI vt)]))] s.heap.size = A at hD hZ ⊢
  have hA : ∀ q : Nat, s.heap.size ≤ q → A q := fun q h => by rw [← hAe]; exact Or.inr h
  have hS : va_S A s.heap s.heap [] := va_S.rf
  have hl := lv_entry ([.ref h0, .int x]) (n := 2) (Nat.le_of_ble_eq_true rfl)
  rw [lg_entry_eq]
  generalize (lg_sl ([.ref h0, .int x]) ++ List.replicate (2 - (lg_sl ([.ref h0, .int x])).length) Slot.unset).toArray = ls at hl ⊢
  have hl : lv_has ls 2 [(0, .ref h0), (1, .int x)] := hl
  have SF : CallFix p m c cS_refuseUnknownLiteral 2 s ([.ref h0, .int x] : List Value).toArray GG RS := ⟨hx, hb, hml, hown, hts⟩
  skip
  have hP : va_P (dC, dI) vwCl [(h0, .inr (1, [.ref h1, .ref h2, .ref aw, .ref aa, .int (nI nv), .int (nI nl), .int (nI nc), .int (nI wc), .int (nI ac), .int fo, .int bl, .int lv, .int (nI vt)]))] s.heap := hP
  refine lv_iload_n hx hb dS_refuseUnknownLiteral_0 rfl (lv_at hl 1 rfl) ?_
  refine lv_if_lt (tgt := 14) hx hb dS_refuseUnknownLiteral_1 (by decide) (fun c1 => ?_) (fun c1 => ?_)
  · obtain ⟨sa, hstr⟩ := hX.2.2.2.2 (120, "there is no such literal") (by decide)
    exact vx_throwS (mc := 1) (ms := 6) hx hb hst (own := RS) (cls := xA) (names := xNs) (A := A) hown (by decide) (by decide) (hts _ cl_S_104) (hts _ in_IllegalArgumentException) hstr (xt_A_hat hts hX) xt_A_ot hZ.2.2.1 hZ.2.2.2 hS (by rw [hml]; exact hl.1) dS_refuseUnknownLiteral_14 dS_refuseUnknownLiteral_17 dS_refuseUnknownLiteral_18 dS_refuseUnknownLiteral_20 dS_refuseUnknownLiteral_23 (fun x hx => (hnt x hx).elim) (Nat.le_of_ble_eq_true rfl) (Nat.le_of_ble_eq_true rfl) (Nat.le_of_ble_eq_true rfl) (Nat.le_of_ble_eq_true rfl) hlocks (fun t hvm hsz hk => ⟨(), trivial, ⟨⟨rfl, fun ⟨L, hL, e⟩ => absurd c1 (by rw [e]; exact nI_pos (by omega))⟩, (wx_end hP hK hD hS hvm hsz hk).1⟩, (wx_end hP hK hD hS hvm hsz hk).2⟩) hS.2.2 (Nat.le_of_ble_eq_true rfl) (Nat.le_of_ble_eq_true rfl)
  · refine lv_iload_n hx hb dS_refuseUnknownLiteral_4 rfl (lv_at hl 1 rfl) ?_
    refine lv_iconst (v := 2) hx hb dS_refuseUnknownLiteral_5 (by decide) ?_
    refine lv_aload_n hx hb dS_refuseUnknownLiteral_6 rfl (lv_at hl 0 rfl) ?_
    refine va_get (D := (dC, dI)) (ci := 1) (v := .int (nI nv)) (C := RS) (T := TS) (N := 13) hx hb hts lyS hown hK hP 0 rfl rfl 4 (by decide) (hts _ fl_S_29) (fun _ h9 => h9) rfl dS_refuseUnknownLiteral_7 ?_
    refine lv_imul hx hb dS_refuseUnknownLiteral_10 ?_
    refine ls_topi (y := nI (2 * nv)) (pk_mul 2 nv) ?_
    refine lv_icmp_lt (tgt := 24) hx hb dS_refuseUnknownLiteral_11 (by decide) (fun c2 => ?_) (fun c2 => ?_)
    · obtain ⟨L, hL31, eL⟩ := nI_of c1
      refine W.widen (k := 1) (n := 6) (Nat.le_of_ble_eq_true rfl) (Nat.le_of_ble_eq_true rfl) ?_
      exact vx_ret (W.vret hx hb hr (fun t ht hW => ⟨⟨(), rfl, ⟨L, (nI_ltI (by omega) (by omega)).mp (by rw [← eL]; exact c2), eL⟩, by rw [ht]; exact hP, va_K.moved hW.alike hK, hD⟩, hS.F ht⟩) hS.2.2 dS_refuseUnknownLiteral_24)
    · obtain ⟨sa, hstr⟩ := hX.2.2.2.2 (120, "there is no such literal") (by decide)
      exact vx_throwS (mc := 1) (ms := 6) hx hb hst (own := RS) (cls := xA) (names := xNs) (A := A) hown (by decide) (by decide) (hts _ cl_S_104) (hts _ in_IllegalArgumentException) hstr (xt_A_hat hts hX) xt_A_ot hZ.2.2.1 hZ.2.2.2 hS (by rw [hml]; exact hl.1) dS_refuseUnknownLiteral_14 dS_refuseUnknownLiteral_17 dS_refuseUnknownLiteral_18 dS_refuseUnknownLiteral_20 dS_refuseUnknownLiteral_23 (fun x hx => (hnt x hx).elim) (Nat.le_of_ble_eq_true rfl) (Nat.le_of_ble_eq_true rfl) (Nat.le_of_ble_eq_true rfl) (Nat.le_of_ble_eq_true rfl) hlocks (fun t hvm hsz hk => ⟨(), trivial, ⟨⟨rfl, fun ⟨L, hL, e⟩ => c2 (by rw [e]; exact nI_lt hL (by omega))⟩, (wx_end hP hK hD hS hvm hsz hk).1⟩, (wx_end hP hK hD hS hvm hsz hk).2⟩) hS.2.2 (Nat.le_of_ble_eq_true rfl) (Nat.le_of_ble_eq_true rfl)
set_option maxHeartbeats 4000000 in
set_option maxRecDepth 100000 in
theorem k_S_variable (l : Launch) (hst : l.stackTraces = false) (dC : Nat → ClassId) (dI : Nat → Nat → Nat) (tI sz : Nat) (h0 h1 w1 h2 aw aa : Nat) (cL : ClassId) (f : Nat → Int64) (U : Nat) (hU : U ≤ 1024) (nv nl nc wc ac vt : Nat) (fo bl lv : Int32) (hnv : nv ≤ 16) (h22 : nv < 16 → nv < 6 ∨ 2 * U ≤ 1024) : vx_Met l yS_variable (Cond.code yS_variable cS_variable 2 (some .int) :: GG) (lvr 6 1 6) (va_Pc [.ref h0] (wPre dC dI [(cL, .long)] [(h0, .inr (1, [.ref h1, .ref h2, .ref aw, .ref aa, .int (nI nv), .int (nI nl), .int (nI nc), .int (nI wc), .int (nI ac), .int fo, .int bl, .int lv, .int (nI vt)])), (h1, .inr (0, [.ref w1, .int (nI U)])), (w1, .inl (cL, 1024, .inr (.inl f)))] sz tI)) (va_Qi (fun (r : Int32) (u : (Nat → Int64) × Nat) => nv < 16 ∧ r = nI nv ∧ ((nv < 6 ∧ u = (f, U)) ∨ (6 ≤ nv ∧ u.2 = 2 * U ∧ ∀ k, k < U → u.1 k = f k ∧ u.1 (U + k) = f k))) (fun u t => wB dC dI [(cL, .long)] (va_A [(h0, .inr (1, [.ref h1, .ref h2, .ref aw, .ref aa, .int (nI nv), .int (nI nl), .int (nI nc), .int (nI wc), .int (nI ac), .int fo, .int bl, .int lv, .int (nI vt)])), (h1, .inr (0, [.ref w1, .int (nI U)])), (w1, .inl (cL, 1024, .inr (.inl f)))] sz) [(h0, .inr (1, [.ref h1, .ref h2, .ref aw, .ref aa, .int (nI (nv + 1)), .int (nI nl), .int (nI nc), .int (nI wc), .int (nI ac), .int fo, .int bl, .int lv, .int (nI vt)])), (h1, .inr (0, [.ref w1, .int (nI u.2)])), (w1, .inl (cL, 1024, .inr (.inl u.1)))] t) (va_A [(h0, .inr (1, [.ref h1, .ref h2, .ref aw, .ref aa, .int (nI nv), .int (nI nl), .int (nI nc), .int (nI wc), .int (nI ac), .int fo, .int bl, .int lv, .int (nI vt)])), (h1, .inr (0, [.ref w1, .int (nI U)])), (w1, .inl (cL, 1024, .inr (.inl f)))] sz)) (wXC dC dI [(cL, .long)] [(h0, .inr (1, [.ref h1, .ref h2, .ref aw, .ref aa, .int (nI nv), .int (nI nl), .int (nI nc), .int (nI wc), .int (nI ac), .int fo, .int bl, .int lv, .int (nI vt)])), (h1, .inr (0, [.ref w1, .int (nI U)])), (w1, .inl (cL, 1024, .inr (.inl f)))] sz (fun E => E = xS ∧ 16 ≤ nv)) 1 6 (va_A [(h0, .inr (1, [.ref h1, .ref h2, .ref aw, .ref aa, .int (nI nv), .int (nI nl), .int (nI nc), .int (nI wc), .int (nI ac), .int fo, .int bl, .int lv, .int (nI vt)])), (h1, .inr (0, [.ref w1, .int (nI U)])), (w1, .inl (cL, 1024, .inr (.inl f)))] sz) := by
  unfold wXC
  refine vx_ofW (cc := cS_variable) (maxL := 2) (ret := (some .int)) (by decide) rfl ?_
  intro p e s m args below meth c s₁ B hml hnt hv
  obtain ⟨rfl, hsz, hP, hK, hD0, hZ, hX⟩ := hv
  have hx := B.exec
  have hb := B.bytes
  have hr := B.returns
  have hts : ∀ w ∈ GG, w.before ([.ref h0] : List Value).toArray s = true := fun w h => atoms_spec (ws := _ :: GG) B.pre w (List.mem_cons_of_mem _ h)
  have hown : s.vm.findClass RS = some m.cls := findClass_of_methodNamed B.named
  have hlocks := B.notSynchronized
  subst hsz
  have hD := hD0.self (sz := s.heap.size)
  generalize hAe : va_A [(h0, .inr (1, [.ref h1, .ref h2, .ref aw, .ref aa, .int (nI nv), .int (nI nl), .int (nI nc), .int (nI wc), .int (nI ac), .int fo, .int bl, .int lv, .int (nI vt)])), (h1, .inr (0, [.ref w1, .int (nI U)])), (w1, .inl (cL, 1024, .inr (.inl f)))] s.heap.size = A at hD hZ ⊢
  have hA : ∀ q : Nat, s.heap.size ≤ q → A q := fun q h => by rw [← hAe]; exact Or.inr h
  have hS : va_S A s.heap s.heap [] := va_S.rf
  have hl := lv_entry ([.ref h0]) (n := 2) (Nat.le_of_ble_eq_true rfl)
  rw [lg_entry_eq]
  generalize (lg_sl ([.ref h0]) ++ List.replicate (2 - (lg_sl ([.ref h0])).length) Slot.unset).toArray = ls at hl ⊢
  have hl : lv_has ls 2 [(0, .ref h0)] := hl
  have SF : CallFix p m c cS_variable 2 s ([.ref h0] : List Value).toArray GG RS := ⟨hx, hb, hml, hown, hts⟩
  skip
  have hP : va_P (dC, dI) vwCl [(h0, .inr (1, [.ref h1, .ref h2, .ref aw, .ref aa, .int (nI nv), .int (nI nl), .int (nI nc), .int (nI wc), .int (nI ac), .int fo, .int bl, .int lv, .int (nI vt)])), (h1, .inr (0, [.ref w1, .int (nI U)])), (w1, .inl (cL, 1024, .inr (.inl f)))] s.heap := hP
  refine lv_aload_n hx hb dS_variable_0 rfl (lv_at hl 0 rfl) ?_
  refine va_get (D := (dC, dI)) (ci := 1) (v := .int (nI nv)) (C := RS) (T := TS) (N := 13) hx hb hts lyS hown hK hP 0 rfl rfl 4 (by decide) (hts _ fl_S_29) (fun _ h9 => h9) rfl dS_variable_1 ?_
  refine lv_bipush (v := 16) hx hb dS_variable_4 (by decide) ?_
  refine lv_icmp_lt (tgt := 19) hx hb dS_variable_6 (by decide) (fun c1 => ?_) (fun c1 => ?_)
  · have c1 : nv < 16 := (nI_ltI (a := nv) (b := 16) (by omega) (by omega)).mp c1
    refine lv_aload_n hx hb dS_variable_19 rfl (lv_at hl 0 rfl) ?_
    refine va_get (D := (dC, dI)) (ci := 1) (v := .int (nI nv)) (C := RS) (T := TS) (N := 13) hx hb hts lyS hown hK hP 0 rfl rfl 4 (by decide) (hts _ fl_S_29) (fun _ h9 => h9) rfl dS_variable_20 ?_
    refine lv_istore_n (lv' := [(1, .int (nI nv)), (0, .ref h0)]) hx hb dS_variable_23 rfl hl (by decide) rfl (fun ls hl => ?_)
    refine lv_aload_n hx hb dS_variable_24 rfl (lv_at hl 1 rfl) ?_
    refine va_get (D := (dC, dI)) (ci := 1) (v := .ref h1) (C := RS) (T := TS) (N := 13) hx hb hts lyS hown hK hP 0 rfl rfl 0 (by decide) (hts _ fl_S_10) (fun _ h9 => h9) rfl dS_variable_25 ?_
    refine lv_iload_n hx hb dS_variable_28 rfl (lv_at hl 0 rfl) ?_
    have hFc := va_free (wc := [(h1, .inr (0, [.ref w1, .int (nI U)])), (w1, .inl (cL, 1024, .inr (.inl f)))]) hD hS hA [1, 2] rfl
    refine wc_v (wc_V (As := [.int (nI nv)]) (rest := []) (n := 1) SF (k_R_addVariable l dC dI tI _ h1 w1 cL f U hU nv (by omega) (h22 c1)) ml_S_40 im_R_addVariable se_R_addVariable in_R co_R_addVariable (by decide +kernel) rfl rfl rfl ⟨Nat.le_of_ble_eq_true rfl, Nat.le_of_ble_eq_true rfl⟩ (va_recv (hK.sub (tys' := []) [] rfl) (hP.sub (ws' := [(h1, .inr (0, [.ref w1, .int (nI U)])), (w1, .inl (cL, 1024, .inr (.inl f)))]) [1, 2] rfl) (ci := 0) (q0 := 0) rfl rfl) (hP.sub [1, 2] rfl) (hD.sub [1, 2] (by decide) rfl) (hK.sub [0] rfl) hZ hX hS hFc rfl hl.1 (Nat.le_of_ble_eq_true rfl) dS_variable_29 ⟨Nat.le_of_ble_eq_true rfl, Nat.le_of_ble_eq_true rfl⟩) hP hD hS hFc [1, 2] [0] (wr := [(h0, .inr (1, [.ref h1, .ref h2, .ref aw, .ref aa, .int (nI nv), .int (nI nl), .int (nI nc), .int (nI wc), .int (nI ac), .int fo, .int bl, .int lv, .int (nI vt)]))]) rfl rfl rfl (by decide) (fun uu H locs hw hP hD hS => ?_)
    have hP : va_P (dC, dI) vwCl [(h0, .inr (1, [.ref h1, .ref h2, .ref aw, .ref aa, .int (nI nv), .int (nI nl), .int (nI nc), .int (nI wc), .int (nI ac), .int fo, .int bl, .int lv, .int (nI vt)])), (h1, .inr (0, [.ref w1, .int (nI uu.2)])), (w1, .inl (cL, 1024, .inr (.inl uu.1)))] H := hP.sub [0, 1, 2] rfl
    have hD : va_D A [(h0, .inr (1, [.ref h1, .ref h2, .ref aw, .ref aa, .int (nI nv), .int (nI nl), .int (nI nc), .int (nI wc), .int (nI ac), .int fo, .int bl, .int lv, .int (nI vt)])), (h1, .inr (0, [.ref w1, .int (nI uu.2)])), (w1, .inl (cL, 1024, .inr (.inl uu.1)))] := hD.sub [0, 1, 2] (by decide) rfl
    refine lv_aload_n hx hb dS_variable_32 rfl (lv_at hl 1 rfl) ?_
    refine lv_dup hx hb dS_variable_33 rfl ?_
    refine va_get (D := (dC, dI)) (ci := 1) (v := .int (nI nv)) (C := RS) (T := TS) (N := 13) hx hb hts lyS hown hK hP 0 rfl rfl 4 (by decide) (hts _ fl_S_29) (fun _ h9 => h9) rfl dS_variable_34 ?_
    refine lv_iconst (v := 1) hx hb dS_variable_37 (by decide) ?_
    refine lv_iadd hx hb dS_variable_38 ?_
    refine ls_topi (y := nI (nv + 1)) (nI_1 _) ?_
    refine va_put (D := (dC, dI)) (ci := 1) (v := .int (nI (nv + 1))) (ty := .int) (C := RS) (T := TS) (N := 13) hx hb hts lyS tyS tyS_ok nmS hown hK hP hD hS 0 rfl rfl 4 (by decide) (hts _ fl_S_29) (fun _ h9 => h9) rfl (by decide +kernel) rfl rfl (Nat.le_of_ble_eq_true rfl) dS_variable_39 (fun H locs hP hD hS => ?_)
    have hP : va_P (dC, dI) vwCl [(h0, .inr (1, [.ref h1, .ref h2, .ref aw, .ref aa, .int (nI (nv + 1)), .int (nI nl), .int (nI nc), .int (nI wc), .int (nI ac), .int fo, .int bl, .int lv, .int (nI vt)])), (h1, .inr (0, [.ref w1, .int (nI uu.2)])), (w1, .inl (cL, 1024, .inr (.inl uu.1)))] H := hP
    have hD : va_D A [(h0, .inr (1, [.ref h1, .ref h2, .ref aw, .ref aa, .int (nI (nv + 1)), .int (nI nl), .int (nI nc), .int (nI wc), .int (nI ac), .int fo, .int bl, .int lv, .int (nI vt)])), (h1, .inr (0, [.ref w1, .int (nI uu.2)])), (w1, .inl (cL, 1024, .inr (.inl uu.1)))] := hD
    refine lv_iload_n hx hb dS_variable_42 rfl (lv_at hl 0 rfl) ?_
    refine W.widen (k := 1) (n := 6) (Nat.le_of_ble_eq_true rfl) (Nat.le_of_ble_eq_true rfl) ?_
    exact vx_ret (W.iret (v := nI nv) hx hb hr (fun t ht hW => ⟨⟨nI nv, (uu.1, uu.2), rfl, ⟨c1, rfl, hw⟩, by rw [ht]; exact hP, va_K.moved hW.alike hK, hD⟩, hS.F ht⟩) hS.2.2 dS_variable_43)
  · have c1 : 16 ≤ nv := Nat.le_of_not_lt (fun q => c1 ((nI_ltI (a := nv) (b := 16) (by omega) (by omega)).mpr q))
    obtain ⟨sa, hstr⟩ := hX.2.2.2.2 (35, "there are 16 variables") (by decide)
    exact vx_throwS (mc := 1) (ms := 6) hx hb hst (own := RS) (cls := xS) (names := xNs) (A := A) hown (by decide) (by decide) (hts _ cl_S_33) (hts _ in_IllegalStateException) hstr (xt_S_hat hts hX) xt_S_ot hZ.2.2.1 hZ.2.2.2 hS (by rw [hml]; exact hl.1) dS_variable_9 dS_variable_12 dS_variable_13 dS_variable_15 dS_variable_18 (fun x hx => (hnt x hx).elim) (Nat.le_of_ble_eq_true rfl) (Nat.le_of_ble_eq_true rfl) (Nat.le_of_ble_eq_true rfl) (Nat.le_of_ble_eq_true rfl) hlocks (fun t hvm hsz hk => ⟨(), trivial, ⟨⟨rfl, c1⟩, (wx_end hP hK hD hS hvm hsz hk).1⟩, (wx_end hP hK hD hS hvm hsz hk).2⟩) hS.2.2 (Nat.le_of_ble_eq_true rfl) (Nat.le_of_ble_eq_true rfl)
set_option maxHeartbeats 4000000 in
set_option maxRecDepth 100000 in
theorem k_S_literal (l : Launch) (hst : l.stackTraces = false) (dC : Nat → ClassId) (dI : Nat → Nat → Nat) (tI sz : Nat) (h0 h1 h2 aw aa : Nat) (cI : ClassId) (wf : Nat → Int32) (nv nl nc wc ac vt : Nat) (fo bl lv : Int32) (x : Int32) (hnv : nv ≤ 16) (hwc : wc ≤ 40) (hnl : nl ≤ 4000) : vx_Met l yS_literal (Cond.code yS_literal cS_literal 2 (some .int) :: GG) (lvr 7 2 12) (va_Pc [.ref h0, .int x] (wPre dC dI [(cI, .int)] [(h0, .inr (1, [.ref h1, .ref h2, .ref aw, .ref aa, .int (nI nv), .int (nI nl), .int (nI nc), .int (nI wc), .int (nI ac), .int fo, .int bl, .int lv, .int (nI vt)])), (aw, .inl (cI, 40, .inl wf))] sz tI)) (va_Qi (fun (r : Int32) (u : Unit) => (∃ L, L < 2 * nv ∧ x = nI L) ∧ wc < 40 ∧ nl < 4000 ∧ r = nI (wc + 1)) (fun u t => wB dC dI [(cI, .int)] (va_A [(h0, .inr (1, [.ref h1, .ref h2, .ref aw, .ref aa, .int (nI nv), .int (nI nl), .int (nI nc), .int (nI wc), .int (nI ac), .int fo, .int bl, .int lv, .int (nI vt)])), (aw, .inl (cI, 40, .inl wf))] sz) [(h0, .inr (1, [.ref h1, .ref h2, .ref aw, .ref aa, .int (nI nv), .int (nI (nl + 1)), .int (nI nc), .int (nI (wc + 1)), .int (nI ac), .int fo, .int bl, .int lv, .int (nI vt)])), (aw, .inl (cI, 40, .inl (upd wf wc x)))] t) (va_A [(h0, .inr (1, [.ref h1, .ref h2, .ref aw, .ref aa, .int (nI nv), .int (nI nl), .int (nI nc), .int (nI wc), .int (nI ac), .int fo, .int bl, .int lv, .int (nI vt)])), (aw, .inl (cI, 40, .inl wf))] sz)) (wXC dC dI [(cI, .int)] [(h0, .inr (1, [.ref h1, .ref h2, .ref aw, .ref aa, .int (nI nv), .int (nI nl), .int (nI nc), .int (nI wc), .int (nI ac), .int fo, .int bl, .int lv, .int (nI vt)])), (aw, .inl (cI, 40, .inl wf))] sz (fun E => (E = xA ∧ ¬ (∃ L, L < 2 * nv ∧ x = nI L)) ∨ (E = xS ∧ (∃ L, L < 2 * nv ∧ x = nI L) ∧ (40 ≤ wc ∨ 4000 ≤ nl)))) 2 12 (va_A [(h0, .inr (1, [.ref h1, .ref h2, .ref aw, .ref aa, .int (nI nv), .int (nI nl), .int (nI nc), .int (nI wc), .int (nI ac), .int fo, .int bl, .int lv, .int (nI vt)])), (aw, .inl (cI, 40, .inl wf))] sz) := by
  unfold wXC
  refine vx_ofW (cc := cS_literal) (maxL := 2) (ret := (some .int)) (by decide) rfl ?_
  intro p e s m args below meth c s₁ B hml hnt hv
  obtain ⟨rfl, hsz, hP, hK, hD0, hZ, hX⟩ := hv
  have hx := B.exec
  have hb := B.bytes
  have hr := B.returns
  have hts : ∀ w ∈ GG, w.before ([.ref h0, .int x] : List Value).toArray s = true := fun w h => atoms_spec (ws := _ :: GG) B.pre w (List.mem_cons_of_mem _ h)
  have hown : s.vm.findClass RS = some m.cls := findClass_of_methodNamed B.named
  have hlocks := B.notSynchronized
  subst hsz
  have hD := hD0.self (sz := s.heap.size)
  generalize hAe : va_A [(h0, .inr (1, [.ref h1, .ref h2, .ref aw, .ref aa, .int (nI nv), .int (nI nl), .int (nI nc), .int (nI wc), .int (nI ac), .int fo, .int bl, .int lv, .int (nI vt)])), (aw, .inl (cI, 40, .inl wf))] s.heap.size = A at hD hZ ⊢
  have hA : ∀ q : Nat, s.heap.size ≤ q → A q := fun q h => by rw [← hAe]; exact Or.inr h
  have hS : va_S A s.heap s.heap [] := va_S.rf
  have hl := lv_entry ([.ref h0, .int x]) (n := 2) (Nat.le_of_ble_eq_true rfl)
  rw [lg_entry_eq]
  generalize (lg_sl ([.ref h0, .int x]) ++ List.replicate (2 - (lg_sl ([.ref h0, .int x])).length) Slot.unset).toArray = ls at hl ⊢
  have hl : lv_has ls 2 [(0, .ref h0), (1, .int x)] := hl
  have SF : CallFix p m c cS_literal 2 s ([.ref h0, .int x] : List Value).toArray GG RS := ⟨hx, hb, hml, hown, hts⟩
  skip
  have hP : va_P (dC, dI) vwCl [(h0, .inr (1, [.ref h1, .ref h2, .ref aw, .ref aa, .int (nI nv), .int (nI nl), .int (nI nc), .int (nI wc), .int (nI ac), .int fo, .int bl, .int lv, .int (nI vt)])), (aw, .inl (cI, 40, .inl wf))] s.heap := hP
  refine lv_aload_n hx hb dS_literal_0 rfl (lv_at hl 0 rfl) ?_
  refine lv_iload_n hx hb dS_literal_1 rfl (lv_at hl 1 rfl) ?_
  have hFc := va_free (wc := [(h0, .inr (1, [.ref h1, .ref h2, .ref aw, .ref aa, .int (nI nv), .int (nI nl), .int (nI nc), .int (nI wc), .int (nI ac), .int fo, .int bl, .int lv, .int (nI vt)]))]) hD hS hA [0] rfl
  refine wcx_v (wcx_V (As := [.int x]) (rest := []) (n := 1) SF (k_S_refuse l hst dC dI tI _ h0 h1 h2 aw aa nv nl nc wc ac vt fo bl lv x hnv) ml_S_44 im_S_refuseUnknownLiteral se_S_refuseUnknownLiteral in_S co_S_refuseUnknownLiteral (by decide +kernel) rfl rfl rfl ⟨Nat.le_of_ble_eq_true rfl, Nat.le_of_ble_eq_true rfl⟩ (va_recv (hK.sub (tys' := []) [] rfl) (hP.sub (ws' := [(h0, .inr (1, [.ref h1, .ref h2, .ref aw, .ref aa, .int (nI nv), .int (nI nl), .int (nI nc), .int (nI wc), .int (nI ac), .int fo, .int bl, .int lv, .int (nI vt)]))]) [0] rfl) (ci := 1) (q0 := 0) rfl rfl) (hP.sub [0] rfl) (hD.sub [0] (by decide) rfl) (hK.sub [] rfl) hZ hX hS hFc rfl hl.1 (Nat.le_of_ble_eq_true rfl) dS_literal_2 ⟨Nat.le_of_ble_eq_true rfl, Nat.le_of_ble_eq_true rfl⟩) hP hD hS hFc [0] [1] (wr := [(aw, .inl (cI, 40, .inl wf))]) rfl rfl rfl (by decide) (fun E ce q9 H locs hE hP hD hS h7 h8 h9 => ?_) (fun uu H locs hlit hP hD hS => ?_)
  · have hP : va_P (dC, dI) vwCl [(h0, .inr (1, [.ref h1, .ref h2, .ref aw, .ref aa, .int (nI nv), .int (nI nl), .int (nI nc), .int (nI wc), .int (nI ac), .int fo, .int bl, .int lv, .int (nI vt)])), (aw, .inl (cI, 40, .inl wf))] H := hP.sub [1, 0] rfl
    have hD : va_D A [(h0, .inr (1, [.ref h1, .ref h2, .ref aw, .ref aa, .int (nI nv), .int (nI nl), .int (nI nc), .int (nI wc), .int (nI ac), .int fo, .int bl, .int lv, .int (nI vt)])), (aw, .inl (cI, 40, .inl wf))] := hD.sub [1, 0] (by decide) rfl
    exact vx_out (fun x hx => (hnt x hx).elim) hlocks h7 h8 h9 (fun t ht hvm => ⟨(), trivial, ⟨Or.inl hE, by rw [ht]; exact hP, va_K.moved hvm hK, hD⟩, hS.F ht⟩) hS.2.2 (Nat.le_of_ble_eq_true rfl) (Nat.le_of_ble_eq_true rfl)
  · have hP : va_P (dC, dI) vwCl [(h0, .inr (1, [.ref h1, .ref h2, .ref aw, .ref aa, .int (nI nv), .int (nI nl), .int (nI nc), .int (nI wc), .int (nI ac), .int fo, .int bl, .int lv, .int (nI vt)])), (aw, .inl (cI, 40, .inl wf))] H := hP.sub [1, 0] rfl
    have hD : va_D A [(h0, .inr (1, [.ref h1, .ref h2, .ref aw, .ref aa, .int (nI nv), .int (nI nl), .int (nI nc), .int (nI wc), .int (nI ac), .int fo, .int bl, .int lv, .int (nI vt)])), (aw, .inl (cI, 40, .inl wf))] := hD.sub [1, 0] (by decide) rfl
    refine lv_aload_n hx hb dS_literal_5 rfl (lv_at hl 0 rfl) ?_
    refine va_get (D := (dC, dI)) (ci := 1) (v := .int (nI wc)) (C := RS) (T := TS) (N := 13) hx hb hts lyS hown hK hP 0 rfl rfl 7 (by decide) (hts _ fl_S_47) (fun _ h9 => h9) rfl dS_literal_6 ?_
    refine lv_aload_n hx hb dS_literal_9 rfl (lv_at hl 0 rfl) ?_
    refine va_get (D := (dC, dI)) (ci := 1) (v := .ref aw) (C := RS) (T := TS) (N := 13) hx hb hts lyS hown hK hP 0 rfl rfl 2 (by decide) (hts _ fl_S_19) (fun _ h9 => h9) rfl dS_literal_10 ?_
    refine va_alen (v := 40) hx hb hK hP 1 0 rfl rfl rfl dS_literal_13 ?_
    refine lv_icmp_lt (tgt := 27) hx hb dS_literal_14 (by decide) (fun c1 => ?_) (fun c1 => ?_)
    · have c1 : wc < 40 := (nI_ltI (a := wc) (b := 40) (by omega) (by omega)).mp c1
      refine lv_aload_n hx hb dS_literal_27 rfl (lv_at hl 0 rfl) ?_
      refine va_get (D := (dC, dI)) (ci := 1) (v := .int (nI nl)) (C := RS) (T := TS) (N := 13) hx hb hts lyS hown hK hP 0 rfl rfl 5 (by decide) (hts _ fl_S_52) (fun _ h9 => h9) rfl dS_literal_28 ?_
      refine lv_sipush (v := 4000) hx hb dS_literal_31 (by decide) ?_
      refine lv_icmp_lt (tgt := 47) hx hb dS_literal_34 (by decide) (fun c2 => ?_) (fun c2 => ?_)
      · have c2 : nl < 4000 := (nI_ltI (a := nl) (b := 4000) (by omega) (by omega)).mp c2
        refine lv_aload_n hx hb dS_literal_47 rfl (lv_at hl 0 rfl) ?_
        refine va_get (D := (dC, dI)) (ci := 1) (v := .ref aw) (C := RS) (T := TS) (N := 13) hx hb hts lyS hown hK hP 0 rfl rfl 2 (by decide) (hts _ fl_S_19) (fun _ h9 => h9) rfl dS_literal_48 ?_
        refine lv_aload_n hx hb dS_literal_51 rfl (lv_at hl 0 rfl) ?_
        refine va_get (D := (dC, dI)) (ci := 1) (v := .int (nI wc)) (C := RS) (T := TS) (N := 13) hx hb hts lyS hown hK hP 0 rfl rfl 7 (by decide) (hts _ fl_S_47) (fun _ h9 => h9) rfl dS_literal_52 ?_
        refine lv_iload_n hx hb dS_literal_55 rfl (lv_at hl 1 rfl) ?_
        refine va_iast hx hb hK hP hD hS 1 0 rfl rfl (vp_in_nI (by omega) (by decide)) dS_literal_56 (fun H locs hP hD hS => ?_)
        rw [show upd wf (nI wc).toNatClampNeg x = upd wf wc x from by rw [nI_clamp (by omega)]] at hP hD
        have hP : va_P (dC, dI) vwCl [(h0, .inr (1, [.ref h1, .ref h2, .ref aw, .ref aa, .int (nI nv), .int (nI nl), .int (nI nc), .int (nI wc), .int (nI ac), .int fo, .int bl, .int lv, .int (nI vt)])), (aw, .inl (cI, 40, .inl (upd wf wc x)))] H := hP
        have hD : va_D A [(h0, .inr (1, [.ref h1, .ref h2, .ref aw, .ref aa, .int (nI nv), .int (nI nl), .int (nI nc), .int (nI wc), .int (nI ac), .int fo, .int bl, .int lv, .int (nI vt)])), (aw, .inl (cI, 40, .inl (upd wf wc x)))] := hD
        refine lv_aload_n hx hb dS_literal_57 rfl (lv_at hl 0 rfl) ?_
        refine lv_dup hx hb dS_literal_58 rfl ?_
        refine va_get (D := (dC, dI)) (ci := 1) (v := .int (nI wc)) (C := RS) (T := TS) (N := 13) hx hb hts lyS hown hK hP 0 rfl rfl 7 (by decide) (hts _ fl_S_47) (fun _ h9 => h9) rfl dS_literal_59 ?_
        refine lv_iconst (v := 1) hx hb dS_literal_62 (by decide) ?_
        refine lv_iadd hx hb dS_literal_63 ?_
        refine ls_topi (y := nI (wc + 1)) (nI_1 _) ?_
        refine va_put (D := (dC, dI)) (ci := 1) (v := .int (nI (wc + 1))) (ty := .int) (C := RS) (T := TS) (N := 13) hx hb hts lyS tyS tyS_ok nmS hown hK hP hD hS 0 rfl rfl 7 (by decide) (hts _ fl_S_47) (fun _ h9 => h9) rfl (by decide +kernel) rfl rfl (Nat.le_of_ble_eq_true rfl) dS_literal_64 (fun H locs hP hD hS => ?_)
        have hP : va_P (dC, dI) vwCl [(h0, .inr (1, [.ref h1, .ref h2, .ref aw, .ref aa, .int (nI nv), .int (nI nl), .int (nI nc), .int (nI (wc + 1)), .int (nI ac), .int fo, .int bl, .int lv, .int (nI vt)])), (aw, .inl (cI, 40, .inl (upd wf wc x)))] H := hP
        have hD : va_D A [(h0, .inr (1, [.ref h1, .ref h2, .ref aw, .ref aa, .int (nI nv), .int (nI nl), .int (nI nc), .int (nI (wc + 1)), .int (nI ac), .int fo, .int bl, .int lv, .int (nI vt)])), (aw, .inl (cI, 40, .inl (upd wf wc x)))] := hD
        refine lv_aload_n hx hb dS_literal_67 rfl (lv_at hl 0 rfl) ?_
        refine lv_dup hx hb dS_literal_68 rfl ?_
        refine va_get (D := (dC, dI)) (ci := 1) (v := .int (nI nl)) (C := RS) (T := TS) (N := 13) hx hb hts lyS hown hK hP 0 rfl rfl 5 (by decide) (hts _ fl_S_52) (fun _ h9 => h9) rfl dS_literal_69 ?_
        refine lv_iconst (v := 1) hx hb dS_literal_72 (by decide) ?_
        refine lv_iadd hx hb dS_literal_73 ?_
        refine ls_topi (y := nI (nl + 1)) (nI_1 _) ?_
        refine va_put (D := (dC, dI)) (ci := 1) (v := .int (nI (nl + 1))) (ty := .int) (C := RS) (T := TS) (N := 13) hx hb hts lyS tyS tyS_ok nmS hown hK hP hD hS 0 rfl rfl 5 (by decide) (hts _ fl_S_52) (fun _ h9 => h9) rfl (by decide +kernel) rfl rfl (Nat.le_of_ble_eq_true rfl) dS_literal_74 (fun H locs hP hD hS => ?_)
        have hP : va_P (dC, dI) vwCl [(h0, .inr (1, [.ref h1, .ref h2, .ref aw, .ref aa, .int (nI nv), .int (nI (nl + 1)), .int (nI nc), .int (nI (wc + 1)), .int (nI ac), .int fo, .int bl, .int lv, .int (nI vt)])), (aw, .inl (cI, 40, .inl (upd wf wc x)))] H := hP
        have hD : va_D A [(h0, .inr (1, [.ref h1, .ref h2, .ref aw, .ref aa, .int (nI nv), .int (nI (nl + 1)), .int (nI nc), .int (nI (wc + 1)), .int (nI ac), .int fo, .int bl, .int lv, .int (nI vt)])), (aw, .inl (cI, 40, .inl (upd wf wc x)))] := hD
        refine lv_aload_n hx hb dS_literal_77 rfl (lv_at hl 0 rfl) ?_
        refine va_get (D := (dC, dI)) (ci := 1) (v := .int (nI (wc + 1))) (C := RS) (T := TS) (N := 13) hx hb hts lyS hown hK hP 0 rfl rfl 7 (by decide) (hts _ fl_S_47) (fun _ h9 => h9) rfl dS_literal_78 ?_
        refine W.widen (k := 2) (n := 12) (Nat.le_of_ble_eq_true rfl) (Nat.le_of_ble_eq_true rfl) ?_
        exact vx_ret (W.iret (v := nI (wc + 1)) hx hb hr (fun t ht hW => ⟨⟨nI (wc + 1), (), rfl, ⟨hlit, c1, c2, rfl⟩, by rw [ht]; exact hP, va_K.moved hW.alike hK, hD⟩, hS.F ht⟩) hS.2.2 dS_literal_81)
      · have c2 : 4000 ≤ nl := Nat.le_of_not_lt (fun q => c2 ((nI_ltI (a := nl) (b := 4000) (by omega) (by omega)).mpr q))
        obtain ⟨sa, hstr⟩ := hX.2.2.2.2 (55, "all clauses have 4000 literals") (by decide)
        exact vx_throwS (mc := 2) (ms := 12) hx hb hst (own := RS) (cls := xS) (names := xNs) (A := A) hown (by decide) (by decide) (hts _ cl_S_33) (hts _ in_IllegalStateException) hstr (xt_S_hat hts hX) xt_S_ot hZ.2.2.1 hZ.2.2.2 hS (by rw [hml]; exact hl.1) dS_literal_37 dS_literal_40 dS_literal_41 dS_literal_43 dS_literal_46 (fun x hx => (hnt x hx).elim) (Nat.le_of_ble_eq_true rfl) (Nat.le_of_ble_eq_true rfl) (Nat.le_of_ble_eq_true rfl) (Nat.le_of_ble_eq_true rfl) hlocks (fun t hvm hsz hk => ⟨(), trivial, ⟨Or.inr ⟨rfl, hlit, Or.inr c2⟩, (wx_end hP hK hD hS hvm hsz hk).1⟩, (wx_end hP hK hD hS hvm hsz hk).2⟩) hS.2.2 (Nat.le_of_ble_eq_true rfl) (Nat.le_of_ble_eq_true rfl)
    · have c1 : 40 ≤ wc := Nat.le_of_not_lt (fun q => c1 ((nI_ltI (a := wc) (b := 40) (by omega) (by omega)).mpr q))
      obtain ⟨sa, hstr⟩ := hX.2.2.2.2 (50, "the clause has 40 literals") (by decide)
      exact vx_throwS (mc := 2) (ms := 12) hx hb hst (own := RS) (cls := xS) (names := xNs) (A := A) hown (by decide) (by decide) (hts _ cl_S_33) (hts _ in_IllegalStateException) hstr (xt_S_hat hts hX) xt_S_ot hZ.2.2.1 hZ.2.2.2 hS (by rw [hml]; exact hl.1) dS_literal_17 dS_literal_20 dS_literal_21 dS_literal_23 dS_literal_26 (fun x hx => (hnt x hx).elim) (Nat.le_of_ble_eq_true rfl) (Nat.le_of_ble_eq_true rfl) (Nat.le_of_ble_eq_true rfl) (Nat.le_of_ble_eq_true rfl) hlocks (fun t hvm hsz hk => ⟨(), trivial, ⟨Or.inr ⟨rfl, hlit, Or.inl c1⟩, (wx_end hP hK hD hS hvm hsz hk).1⟩, (wx_end hP hK hD hS hvm hsz hk).2⟩) hS.2.2 (Nat.le_of_ble_eq_true rfl) (Nat.le_of_ble_eq_true rfl)
set_option maxHeartbeats 4000000 in
set_option maxRecDepth 100000 in
theorem k_S_close (l : Launch) (hst : l.stackTraces = false) (dC : Nat → ClassId) (dI : Nat → Nat → Nat) (tI sz : Nat) (h0 h1 w1 h2 aw aa : Nat) (cL cI : ClassId) (f : Nat → Int64) (wf : Nat → Int32) (cn : Nat → Nat) (U : Nat) (hU : U ≤ 1024) (nv nl nc wc ac vt : Nat) (fo bl lv : Int32) (hnc : nc ≤ 500) (hwc : wc ≤ 40) (hcn : ∀ j, j < wc → wf j = nI (cn j) ∧ cn j < 32) : vx_Met l yS_close (Cond.code yS_close cS_close 1 (some .int) :: GG) (lvr 6 1 6) (va_Pc [.ref h0] (wPre dC dI [(cL, .long), (cI, .int)] [(h0, .inr (1, [.ref h1, .ref h2, .ref aw, .ref aa, .int (nI nv), .int (nI nl), .int (nI nc), .int (nI wc), .int (nI ac), .int fo, .int bl, .int lv, .int (nI vt)])), (h1, .inr (0, [.ref w1, .int (nI U)])), (w1, .inl (cL, 1024, .inr (.inl f))), (aw, .inl (cI, 40, .inl wf))] sz tI)) (va_Qi (fun (r : Int32) (u : Nat → Int64) => nc < 500 ∧ r = nI (nc + 1) ∧ ∀ k, k < U → u k = f k &&& ls_or cn k wc) (fun u t => wB dC dI [(cL, .long), (cI, .int)] (va_A [(h0, .inr (1, [.ref h1, .ref h2, .ref aw, .ref aa, .int (nI nv), .int (nI nl), .int (nI nc), .int (nI wc), .int (nI ac), .int fo, .int bl, .int lv, .int (nI vt)])), (h1, .inr (0, [.ref w1, .int (nI U)])), (w1, .inl (cL, 1024, .inr (.inl f))), (aw, .inl (cI, 40, .inl wf))] sz) [(h0, .inr (1, [.ref h1, .ref h2, .ref aw, .ref aa, .int (nI nv), .int (nI nl), .int (nI (nc + 1)), .int 0, .int (nI ac), .int fo, .int bl, .int lv, .int (nI vt)])), (h1, .inr (0, [.ref w1, .int (nI U)])), (w1, .inl (cL, 1024, .inr (.inl u))), (aw, .inl (cI, 40, .inl wf))] t) (va_A [(h0, .inr (1, [.ref h1, .ref h2, .ref aw, .ref aa, .int (nI nv), .int (nI nl), .int (nI nc), .int (nI wc), .int (nI ac), .int fo, .int bl, .int lv, .int (nI vt)])), (h1, .inr (0, [.ref w1, .int (nI U)])), (w1, .inl (cL, 1024, .inr (.inl f))), (aw, .inl (cI, 40, .inl wf))] sz)) (wXC dC dI [(cL, .long), (cI, .int)] [(h0, .inr (1, [.ref h1, .ref h2, .ref aw, .ref aa, .int (nI nv), .int (nI nl), .int (nI nc), .int (nI wc), .int (nI ac), .int fo, .int bl, .int lv, .int (nI vt)])), (h1, .inr (0, [.ref w1, .int (nI U)])), (w1, .inl (cL, 1024, .inr (.inl f))), (aw, .inl (cI, 40, .inl wf))] sz (fun E => E = xS ∧ 500 ≤ nc)) 1 6 (va_A [(h0, .inr (1, [.ref h1, .ref h2, .ref aw, .ref aa, .int (nI nv), .int (nI nl), .int (nI nc), .int (nI wc), .int (nI ac), .int fo, .int bl, .int lv, .int (nI vt)])), (h1, .inr (0, [.ref w1, .int (nI U)])), (w1, .inl (cL, 1024, .inr (.inl f))), (aw, .inl (cI, 40, .inl wf))] sz) := by
  unfold wXC
  refine vx_ofW (cc := cS_close) (maxL := 1) (ret := (some .int)) (by decide) rfl ?_
  intro p e s m args below meth c s₁ B hml hnt hv
  obtain ⟨rfl, hsz, hP, hK, hD0, hZ, hX⟩ := hv
  have hx := B.exec
  have hb := B.bytes
  have hr := B.returns
  have hts : ∀ w ∈ GG, w.before ([.ref h0] : List Value).toArray s = true := fun w h => atoms_spec (ws := _ :: GG) B.pre w (List.mem_cons_of_mem _ h)
  have hown : s.vm.findClass RS = some m.cls := findClass_of_methodNamed B.named
  have hlocks := B.notSynchronized
  subst hsz
  have hD := hD0.self (sz := s.heap.size)
  generalize hAe : va_A [(h0, .inr (1, [.ref h1, .ref h2, .ref aw, .ref aa, .int (nI nv), .int (nI nl), .int (nI nc), .int (nI wc), .int (nI ac), .int fo, .int bl, .int lv, .int (nI vt)])), (h1, .inr (0, [.ref w1, .int (nI U)])), (w1, .inl (cL, 1024, .inr (.inl f))), (aw, .inl (cI, 40, .inl wf))] s.heap.size = A at hD hZ ⊢
  have hA : ∀ q : Nat, s.heap.size ≤ q → A q := fun q h => by rw [← hAe]; exact Or.inr h
  have hS : va_S A s.heap s.heap [] := va_S.rf
  have hl := lv_entry ([.ref h0]) (n := 1) (Nat.le_of_ble_eq_true rfl)
  rw [lg_entry_eq]
  generalize (lg_sl ([.ref h0]) ++ List.replicate (1 - (lg_sl ([.ref h0])).length) Slot.unset).toArray = ls at hl ⊢
  have hl : lv_has ls 1 [(0, .ref h0)] := hl
  have SF : CallFix p m c cS_close 1 s ([.ref h0] : List Value).toArray GG RS := ⟨hx, hb, hml, hown, hts⟩
  skip
  have hP : va_P (dC, dI) vwCl [(h0, .inr (1, [.ref h1, .ref h2, .ref aw, .ref aa, .int (nI nv), .int (nI nl), .int (nI nc), .int (nI wc), .int (nI ac), .int fo, .int bl, .int lv, .int (nI vt)])), (h1, .inr (0, [.ref w1, .int (nI U)])), (w1, .inl (cL, 1024, .inr (.inl f))), (aw, .inl (cI, 40, .inl wf))] s.heap := hP
  refine lv_aload_n hx hb dS_close_0 rfl (lv_at hl 0 rfl) ?_
  refine va_get (D := (dC, dI)) (ci := 1) (v := .int (nI nc)) (C := RS) (T := TS) (N := 13) hx hb hts lyS hown hK hP 0 rfl rfl 6 (by decide) (hts _ fl_S_57) (fun _ h9 => h9) rfl dS_close_1 ?_
  refine lv_sipush (v := 500) hx hb dS_close_4 (by decide) ?_
  refine lv_icmp_lt (tgt := 20) hx hb dS_close_7 (by decide) (fun c1 => ?_) (fun c1 => ?_)
  · have c1 : nc < 500 := (nI_ltI (a := nc) (b := 500) (by omega) (by omega)).mp c1
    refine lv_aload_n hx hb dS_close_20 rfl (lv_at hl 0 rfl) ?_
    refine va_get (D := (dC, dI)) (ci := 1) (v := .ref h1) (C := RS) (T := TS) (N := 13) hx hb hts lyS hown hK hP 0 rfl rfl 0 (by decide) (hts _ fl_S_10) (fun _ h9 => h9) rfl dS_close_21 ?_
    refine lv_aload_n hx hb dS_close_24 rfl (lv_at hl 0 rfl) ?_
    refine va_get (D := (dC, dI)) (ci := 1) (v := .ref aw) (C := RS) (T := TS) (N := 13) hx hb hts lyS hown hK hP 0 rfl rfl 2 (by decide) (hts _ fl_S_19) (fun _ h9 => h9) rfl dS_close_25 ?_
    refine lv_aload_n hx hb dS_close_28 rfl (lv_at hl 0 rfl) ?_
    refine va_get (D := (dC, dI)) (ci := 1) (v := .int (nI wc)) (C := RS) (T := TS) (N := 13) hx hb hts lyS hown hK hP 0 rfl rfl 7 (by decide) (hts _ fl_S_47) (fun _ h9 => h9) rfl dS_close_29 ?_
    have hFc := va_free (wc := [(h1, .inr (0, [.ref w1, .int (nI U)])), (w1, .inl (cL, 1024, .inr (.inl f))), (aw, .inl (cI, 40, .inl wf))]) hD hS hA [1, 2, 3] rfl
    refine wc_v (wc_V (As := [.ref aw, .int (nI wc)]) (rest := []) (n := 2) SF (k_R_keepClause l dC dI tI _ h1 w1 cL f U hU aw cI wf cn wc hwc hcn) ml_S_62 im_R_keepClause se_R_keepClause in_R co_R_keepClause (by decide +kernel) rfl rfl rfl ⟨Nat.le_of_ble_eq_true rfl, Nat.le_of_ble_eq_true rfl⟩ (va_recv (hK.sub (tys' := []) [] rfl) (hP.sub (ws' := [(h1, .inr (0, [.ref w1, .int (nI U)])), (w1, .inl (cL, 1024, .inr (.inl f))), (aw, .inl (cI, 40, .inl wf))]) [1, 2, 3] rfl) (ci := 0) (q0 := 0) rfl rfl) (hP.sub [1, 2, 3] rfl) (hD.sub [1, 2, 3] (by decide) rfl) (hK.sub [0, 1] rfl) hZ hX hS hFc rfl hl.1 (Nat.le_of_ble_eq_true rfl) dS_close_32 ⟨Nat.le_of_ble_eq_true rfl, Nat.le_of_ble_eq_true rfl⟩) hP hD hS hFc [1, 2, 3] [0] (wr := [(h0, .inr (1, [.ref h1, .ref h2, .ref aw, .ref aa, .int (nI nv), .int (nI nl), .int (nI nc), .int (nI wc), .int (nI ac), .int fo, .int bl, .int lv, .int (nI vt)]))]) rfl rfl rfl (by decide) (fun uu H locs hw hP hD hS => ?_)
    have hP : va_P (dC, dI) vwCl [(h0, .inr (1, [.ref h1, .ref h2, .ref aw, .ref aa, .int (nI nv), .int (nI nl), .int (nI nc), .int (nI wc), .int (nI ac), .int fo, .int bl, .int lv, .int (nI vt)])), (h1, .inr (0, [.ref w1, .int (nI U)])), (w1, .inl (cL, 1024, .inr (.inl uu))), (aw, .inl (cI, 40, .inl wf))] H := hP.sub [0, 1, 2, 3] rfl
    have hD : va_D A [(h0, .inr (1, [.ref h1, .ref h2, .ref aw, .ref aa, .int (nI nv), .int (nI nl), .int (nI nc), .int (nI wc), .int (nI ac), .int fo, .int bl, .int lv, .int (nI vt)])), (h1, .inr (0, [.ref w1, .int (nI U)])), (w1, .inl (cL, 1024, .inr (.inl uu))), (aw, .inl (cI, 40, .inl wf))] := hD.sub [0, 1, 2, 3] (by decide) rfl
    refine lv_aload_n hx hb dS_close_35 rfl (lv_at hl 0 rfl) ?_
    refine lv_iconst (v := 0) hx hb dS_close_36 (by decide) ?_
    refine va_put (D := (dC, dI)) (ci := 1) (v := .int 0) (ty := .int) (C := RS) (T := TS) (N := 13) hx hb hts lyS tyS tyS_ok nmS hown hK hP hD hS 0 rfl rfl 7 (by decide) (hts _ fl_S_47) (fun _ h9 => h9) rfl (by decide +kernel) rfl rfl (Nat.le_of_ble_eq_true rfl) dS_close_37 (fun H locs hP hD hS => ?_)
    have hP : va_P (dC, dI) vwCl [(h0, .inr (1, [.ref h1, .ref h2, .ref aw, .ref aa, .int (nI nv), .int (nI nl), .int (nI nc), .int 0, .int (nI ac), .int fo, .int bl, .int lv, .int (nI vt)])), (h1, .inr (0, [.ref w1, .int (nI U)])), (w1, .inl (cL, 1024, .inr (.inl uu))), (aw, .inl (cI, 40, .inl wf))] H := hP
    have hD : va_D A [(h0, .inr (1, [.ref h1, .ref h2, .ref aw, .ref aa, .int (nI nv), .int (nI nl), .int (nI nc), .int 0, .int (nI ac), .int fo, .int bl, .int lv, .int (nI vt)])), (h1, .inr (0, [.ref w1, .int (nI U)])), (w1, .inl (cL, 1024, .inr (.inl uu))), (aw, .inl (cI, 40, .inl wf))] := hD
    refine lv_aload_n hx hb dS_close_40 rfl (lv_at hl 0 rfl) ?_
    refine lv_dup hx hb dS_close_41 rfl ?_
    refine va_get (D := (dC, dI)) (ci := 1) (v := .int (nI nc)) (C := RS) (T := TS) (N := 13) hx hb hts lyS hown hK hP 0 rfl rfl 6 (by decide) (hts _ fl_S_57) (fun _ h9 => h9) rfl dS_close_42 ?_
    refine lv_iconst (v := 1) hx hb dS_close_45 (by decide) ?_
    refine lv_iadd hx hb dS_close_46 ?_
    refine ls_topi (y := nI (nc + 1)) (nI_1 _) ?_
    refine va_put (D := (dC, dI)) (ci := 1) (v := .int (nI (nc + 1))) (ty := .int) (C := RS) (T := TS) (N := 13) hx hb hts lyS tyS tyS_ok nmS hown hK hP hD hS 0 rfl rfl 6 (by decide) (hts _ fl_S_57) (fun _ h9 => h9) rfl (by decide +kernel) rfl rfl (Nat.le_of_ble_eq_true rfl) dS_close_47 (fun H locs hP hD hS => ?_)
    have hP : va_P (dC, dI) vwCl [(h0, .inr (1, [.ref h1, .ref h2, .ref aw, .ref aa, .int (nI nv), .int (nI nl), .int (nI (nc + 1)), .int 0, .int (nI ac), .int fo, .int bl, .int lv, .int (nI vt)])), (h1, .inr (0, [.ref w1, .int (nI U)])), (w1, .inl (cL, 1024, .inr (.inl uu))), (aw, .inl (cI, 40, .inl wf))] H := hP
    have hD : va_D A [(h0, .inr (1, [.ref h1, .ref h2, .ref aw, .ref aa, .int (nI nv), .int (nI nl), .int (nI (nc + 1)), .int 0, .int (nI ac), .int fo, .int bl, .int lv, .int (nI vt)])), (h1, .inr (0, [.ref w1, .int (nI U)])), (w1, .inl (cL, 1024, .inr (.inl uu))), (aw, .inl (cI, 40, .inl wf))] := hD
    refine lv_aload_n hx hb dS_close_50 rfl (lv_at hl 0 rfl) ?_
    refine va_get (D := (dC, dI)) (ci := 1) (v := .int (nI (nc + 1))) (C := RS) (T := TS) (N := 13) hx hb hts lyS hown hK hP 0 rfl rfl 6 (by decide) (hts _ fl_S_57) (fun _ h9 => h9) rfl dS_close_51 ?_
    refine W.widen (k := 1) (n := 6) (Nat.le_of_ble_eq_true rfl) (Nat.le_of_ble_eq_true rfl) ?_
    exact vx_ret (W.iret (v := nI (nc + 1)) hx hb hr (fun t ht hW => ⟨⟨nI (nc + 1), uu, rfl, ⟨c1, rfl, hw⟩, by rw [ht]; exact hP, va_K.moved hW.alike hK, hD⟩, hS.F ht⟩) hS.2.2 dS_close_54)
  · have c1 : 500 ≤ nc := Nat.le_of_not_lt (fun q => c1 ((nI_ltI (a := nc) (b := 500) (by omega) (by omega)).mpr q))
    obtain ⟨sa, hstr⟩ := hX.2.2.2.2 (60, "there are 500 clauses") (by decide)
    exact vx_throwS (mc := 1) (ms := 6) hx hb hst (own := RS) (cls := xS) (names := xNs) (A := A) hown (by decide) (by decide) (hts _ cl_S_33) (hts _ in_IllegalStateException) hstr (xt_S_hat hts hX) xt_S_ot hZ.2.2.1 hZ.2.2.2 hS (by rw [hml]; exact hl.1) dS_close_10 dS_close_13 dS_close_14 dS_close_16 dS_close_19 (fun x hx => (hnt x hx).elim) (Nat.le_of_ble_eq_true rfl) (Nat.le_of_ble_eq_true rfl) (Nat.le_of_ble_eq_true rfl) (Nat.le_of_ble_eq_true rfl) hlocks (fun t hvm hsz hk => ⟨(), trivial, ⟨⟨rfl, c1⟩, (wx_end hP hK hD hS hvm hsz hk).1⟩, (wx_end hP hK hD hS hvm hsz hk).2⟩) hS.2.2 (Nat.le_of_ble_eq_true rfl) (Nat.le_of_ble_eq_true rfl)
set_option maxHeartbeats 4000000 in
set_option maxRecDepth 100000 in
theorem k_S_assume (l : Launch) (hst : l.stackTraces = false) (dC : Nat → ClassId) (dI : Nat → Nat → Nat) (tI sz : Nat) (h0 h1 h2 aw aa : Nat) (cJ : ClassId) (af : Nat → Int32) (nv nl nc wc ac vt : Nat) (fo bl lv : Int32) (x : Int32) (hnv : nv ≤ 16) (hac : ac ≤ 64) : vx_Met l yS_assume (Cond.code yS_assume cS_assume 2 (some .int) :: GG) (lvr 7 2 12) (va_Pc [.ref h0, .int x] (wPre dC dI [(cJ, .int)] [(h0, .inr (1, [.ref h1, .ref h2, .ref aw, .ref aa, .int (nI nv), .int (nI nl), .int (nI nc), .int (nI wc), .int (nI ac), .int fo, .int bl, .int lv, .int (nI vt)])), (aa, .inl (cJ, 64, .inl af))] sz tI)) (va_Qi (fun (r : Int32) (u : Unit) => (∃ L, L < 2 * nv ∧ x = nI L) ∧ ac < 64 ∧ r = nI (ac + 1)) (fun u t => wB dC dI [(cJ, .int)] (va_A [(h0, .inr (1, [.ref h1, .ref h2, .ref aw, .ref aa, .int (nI nv), .int (nI nl), .int (nI nc), .int (nI wc), .int (nI ac), .int fo, .int bl, .int lv, .int (nI vt)])), (aa, .inl (cJ, 64, .inl af))] sz) [(h0, .inr (1, [.ref h1, .ref h2, .ref aw, .ref aa, .int (nI nv), .int (nI nl), .int (nI nc), .int (nI wc), .int (nI (ac + 1)), .int fo, .int bl, .int lv, .int (nI vt)])), (aa, .inl (cJ, 64, .inl (upd af ac x)))] t) (va_A [(h0, .inr (1, [.ref h1, .ref h2, .ref aw, .ref aa, .int (nI nv), .int (nI nl), .int (nI nc), .int (nI wc), .int (nI ac), .int fo, .int bl, .int lv, .int (nI vt)])), (aa, .inl (cJ, 64, .inl af))] sz)) (wXC dC dI [(cJ, .int)] [(h0, .inr (1, [.ref h1, .ref h2, .ref aw, .ref aa, .int (nI nv), .int (nI nl), .int (nI nc), .int (nI wc), .int (nI ac), .int fo, .int bl, .int lv, .int (nI vt)])), (aa, .inl (cJ, 64, .inl af))] sz (fun E => (E = xA ∧ ¬ (∃ L, L < 2 * nv ∧ x = nI L)) ∨ (E = xS ∧ (∃ L, L < 2 * nv ∧ x = nI L) ∧ 64 ≤ ac))) 2 12 (va_A [(h0, .inr (1, [.ref h1, .ref h2, .ref aw, .ref aa, .int (nI nv), .int (nI nl), .int (nI nc), .int (nI wc), .int (nI ac), .int fo, .int bl, .int lv, .int (nI vt)])), (aa, .inl (cJ, 64, .inl af))] sz) := by
  unfold wXC
  refine vx_ofW (cc := cS_assume) (maxL := 2) (ret := (some .int)) (by decide) rfl ?_
  intro p e s m args below meth c s₁ B hml hnt hv
  obtain ⟨rfl, hsz, hP, hK, hD0, hZ, hX⟩ := hv
  have hx := B.exec
  have hb := B.bytes
  have hr := B.returns
  have hts : ∀ w ∈ GG, w.before ([.ref h0, .int x] : List Value).toArray s = true := fun w h => atoms_spec (ws := _ :: GG) B.pre w (List.mem_cons_of_mem _ h)
  have hown : s.vm.findClass RS = some m.cls := findClass_of_methodNamed B.named
  have hlocks := B.notSynchronized
  subst hsz
  have hD := hD0.self (sz := s.heap.size)
  generalize hAe : va_A [(h0, .inr (1, [.ref h1, .ref h2, .ref aw, .ref aa, .int (nI nv), .int (nI nl), .int (nI nc), .int (nI wc), .int (nI ac), .int fo, .int bl, .int lv, .int (nI vt)])), (aa, .inl (cJ, 64, .inl af))] s.heap.size = A at hD hZ ⊢
  have hA : ∀ q : Nat, s.heap.size ≤ q → A q := fun q h => by rw [← hAe]; exact Or.inr h
  have hS : va_S A s.heap s.heap [] := va_S.rf
  have hl := lv_entry ([.ref h0, .int x]) (n := 2) (Nat.le_of_ble_eq_true rfl)
  rw [lg_entry_eq]
  generalize (lg_sl ([.ref h0, .int x]) ++ List.replicate (2 - (lg_sl ([.ref h0, .int x])).length) Slot.unset).toArray = ls at hl ⊢
  have hl : lv_has ls 2 [(0, .ref h0), (1, .int x)] := hl
  have SF : CallFix p m c cS_assume 2 s ([.ref h0, .int x] : List Value).toArray GG RS := ⟨hx, hb, hml, hown, hts⟩
  skip
  have hP : va_P (dC, dI) vwCl [(h0, .inr (1, [.ref h1, .ref h2, .ref aw, .ref aa, .int (nI nv), .int (nI nl), .int (nI nc), .int (nI wc), .int (nI ac), .int fo, .int bl, .int lv, .int (nI vt)])), (aa, .inl (cJ, 64, .inl af))] s.heap := hP
  refine lv_aload_n hx hb dS_assume_0 rfl (lv_at hl 0 rfl) ?_
  refine lv_iload_n hx hb dS_assume_1 rfl (lv_at hl 1 rfl) ?_
  have hFc := va_free (wc := [(h0, .inr (1, [.ref h1, .ref h2, .ref aw, .ref aa, .int (nI nv), .int (nI nl), .int (nI nc), .int (nI wc), .int (nI ac), .int fo, .int bl, .int lv, .int (nI vt)]))]) hD hS hA [0] rfl
  refine wcx_v (wcx_V (As := [.int x]) (rest := []) (n := 1) SF (k_S_refuse l hst dC dI tI _ h0 h1 h2 aw aa nv nl nc wc ac vt fo bl lv x hnv) ml_S_44 im_S_refuseUnknownLiteral se_S_refuseUnknownLiteral in_S co_S_refuseUnknownLiteral (by decide +kernel) rfl rfl rfl ⟨Nat.le_of_ble_eq_true rfl, Nat.le_of_ble_eq_true rfl⟩ (va_recv (hK.sub (tys' := []) [] rfl) (hP.sub (ws' := [(h0, .inr (1, [.ref h1, .ref h2, .ref aw, .ref aa, .int (nI nv), .int (nI nl), .int (nI nc), .int (nI wc), .int (nI ac), .int fo, .int bl, .int lv, .int (nI vt)]))]) [0] rfl) (ci := 1) (q0 := 0) rfl rfl) (hP.sub [0] rfl) (hD.sub [0] (by decide) rfl) (hK.sub [] rfl) hZ hX hS hFc rfl hl.1 (Nat.le_of_ble_eq_true rfl) dS_assume_2 ⟨Nat.le_of_ble_eq_true rfl, Nat.le_of_ble_eq_true rfl⟩) hP hD hS hFc [0] [1] (wr := [(aa, .inl (cJ, 64, .inl af))]) rfl rfl rfl (by decide) (fun E ce q9 H locs hE hP hD hS h7 h8 h9 => ?_) (fun uu H locs hlit hP hD hS => ?_)
  · have hP : va_P (dC, dI) vwCl [(h0, .inr (1, [.ref h1, .ref h2, .ref aw, .ref aa, .int (nI nv), .int (nI nl), .int (nI nc), .int (nI wc), .int (nI ac), .int fo, .int bl, .int lv, .int (nI vt)])), (aa, .inl (cJ, 64, .inl af))] H := hP.sub [1, 0] rfl
    have hD : va_D A [(h0, .inr (1, [.ref h1, .ref h2, .ref aw, .ref aa, .int (nI nv), .int (nI nl), .int (nI nc), .int (nI wc), .int (nI ac), .int fo, .int bl, .int lv, .int (nI vt)])), (aa, .inl (cJ, 64, .inl af))] := hD.sub [1, 0] (by decide) rfl
    exact vx_out (fun x hx => (hnt x hx).elim) hlocks h7 h8 h9 (fun t ht hvm => ⟨(), trivial, ⟨Or.inl hE, by rw [ht]; exact hP, va_K.moved hvm hK, hD⟩, hS.F ht⟩) hS.2.2 (Nat.le_of_ble_eq_true rfl) (Nat.le_of_ble_eq_true rfl)
  · have hP : va_P (dC, dI) vwCl [(h0, .inr (1, [.ref h1, .ref h2, .ref aw, .ref aa, .int (nI nv), .int (nI nl), .int (nI nc), .int (nI wc), .int (nI ac), .int fo, .int bl, .int lv, .int (nI vt)])), (aa, .inl (cJ, 64, .inl af))] H := hP.sub [1, 0] rfl
    have hD : va_D A [(h0, .inr (1, [.ref h1, .ref h2, .ref aw, .ref aa, .int (nI nv), .int (nI nl), .int (nI nc), .int (nI wc), .int (nI ac), .int fo, .int bl, .int lv, .int (nI vt)])), (aa, .inl (cJ, 64, .inl af))] := hD.sub [1, 0] (by decide) rfl
    refine lv_aload_n hx hb dS_assume_5 rfl (lv_at hl 0 rfl) ?_
    refine va_get (D := (dC, dI)) (ci := 1) (v := .int (nI ac)) (C := RS) (T := TS) (N := 13) hx hb hts lyS hown hK hP 0 rfl rfl 8 (by decide) (hts _ fl_S_66) (fun _ h9 => h9) rfl dS_assume_6 ?_
    refine lv_aload_n hx hb dS_assume_9 rfl (lv_at hl 0 rfl) ?_
    refine va_get (D := (dC, dI)) (ci := 1) (v := .ref aa) (C := RS) (T := TS) (N := 13) hx hb hts lyS hown hK hP 0 rfl rfl 3 (by decide) (hts _ fl_S_23) (fun _ h9 => h9) rfl dS_assume_10 ?_
    refine va_alen (v := 64) hx hb hK hP 1 0 rfl rfl rfl dS_assume_13 ?_
    refine lv_icmp_lt (tgt := 27) hx hb dS_assume_14 (by decide) (fun c1 => ?_) (fun c1 => ?_)
    · have c1 : ac < 64 := (nI_ltI (a := ac) (b := 64) (by omega) (by omega)).mp c1
      refine lv_aload_n hx hb dS_assume_27 rfl (lv_at hl 0 rfl) ?_
      refine va_get (D := (dC, dI)) (ci := 1) (v := .ref aa) (C := RS) (T := TS) (N := 13) hx hb hts lyS hown hK hP 0 rfl rfl 3 (by decide) (hts _ fl_S_23) (fun _ h9 => h9) rfl dS_assume_28 ?_
      refine lv_aload_n hx hb dS_assume_31 rfl (lv_at hl 0 rfl) ?_
      refine va_get (D := (dC, dI)) (ci := 1) (v := .int (nI ac)) (C := RS) (T := TS) (N := 13) hx hb hts lyS hown hK hP 0 rfl rfl 8 (by decide) (hts _ fl_S_66) (fun _ h9 => h9) rfl dS_assume_32 ?_
      refine lv_iload_n hx hb dS_assume_35 rfl (lv_at hl 1 rfl) ?_
      refine va_iast hx hb hK hP hD hS 1 0 rfl rfl (vp_in_nI (by omega) (by decide)) dS_assume_36 (fun H locs hP hD hS => ?_)
      rw [show upd af (nI ac).toNatClampNeg x = upd af ac x from by rw [nI_clamp (by omega)]] at hP hD
      have hP : va_P (dC, dI) vwCl [(h0, .inr (1, [.ref h1, .ref h2, .ref aw, .ref aa, .int (nI nv), .int (nI nl), .int (nI nc), .int (nI wc), .int (nI ac), .int fo, .int bl, .int lv, .int (nI vt)])), (aa, .inl (cJ, 64, .inl (upd af ac x)))] H := hP
      have hD : va_D A [(h0, .inr (1, [.ref h1, .ref h2, .ref aw, .ref aa, .int (nI nv), .int (nI nl), .int (nI nc), .int (nI wc), .int (nI ac), .int fo, .int bl, .int lv, .int (nI vt)])), (aa, .inl (cJ, 64, .inl (upd af ac x)))] := hD
      refine lv_aload_n hx hb dS_assume_37 rfl (lv_at hl 0 rfl) ?_
      refine lv_dup hx hb dS_assume_38 rfl ?_
      refine va_get (D := (dC, dI)) (ci := 1) (v := .int (nI ac)) (C := RS) (T := TS) (N := 13) hx hb hts lyS hown hK hP 0 rfl rfl 8 (by decide) (hts _ fl_S_66) (fun _ h9 => h9) rfl dS_assume_39 ?_
      refine lv_iconst (v := 1) hx hb dS_assume_42 (by decide) ?_
      refine lv_iadd hx hb dS_assume_43 ?_
      refine ls_topi (y := nI (ac + 1)) (nI_1 _) ?_
      refine va_put (D := (dC, dI)) (ci := 1) (v := .int (nI (ac + 1))) (ty := .int) (C := RS) (T := TS) (N := 13) hx hb hts lyS tyS tyS_ok nmS hown hK hP hD hS 0 rfl rfl 8 (by decide) (hts _ fl_S_66) (fun _ h9 => h9) rfl (by decide +kernel) rfl rfl (Nat.le_of_ble_eq_true rfl) dS_assume_44 (fun H locs hP hD hS => ?_)
      have hP : va_P (dC, dI) vwCl [(h0, .inr (1, [.ref h1, .ref h2, .ref aw, .ref aa, .int (nI nv), .int (nI nl), .int (nI nc), .int (nI wc), .int (nI (ac + 1)), .int fo, .int bl, .int lv, .int (nI vt)])), (aa, .inl (cJ, 64, .inl (upd af ac x)))] H := hP
      have hD : va_D A [(h0, .inr (1, [.ref h1, .ref h2, .ref aw, .ref aa, .int (nI nv), .int (nI nl), .int (nI nc), .int (nI wc), .int (nI (ac + 1)), .int fo, .int bl, .int lv, .int (nI vt)])), (aa, .inl (cJ, 64, .inl (upd af ac x)))] := hD
      refine lv_aload_n hx hb dS_assume_47 rfl (lv_at hl 0 rfl) ?_
      refine va_get (D := (dC, dI)) (ci := 1) (v := .int (nI (ac + 1))) (C := RS) (T := TS) (N := 13) hx hb hts lyS hown hK hP 0 rfl rfl 8 (by decide) (hts _ fl_S_66) (fun _ h9 => h9) rfl dS_assume_48 ?_
      refine W.widen (k := 2) (n := 12) (Nat.le_of_ble_eq_true rfl) (Nat.le_of_ble_eq_true rfl) ?_
      exact vx_ret (W.iret (v := nI (ac + 1)) hx hb hr (fun t ht hW => ⟨⟨nI (ac + 1), (), rfl, ⟨hlit, c1, rfl⟩, by rw [ht]; exact hP, va_K.moved hW.alike hK, hD⟩, hS.F ht⟩) hS.2.2 dS_assume_51)
    · have c1 : 64 ≤ ac := Nat.le_of_not_lt (fun q => c1 ((nI_ltI (a := ac) (b := 64) (by omega) (by omega)).mpr q))
      obtain ⟨sa, hstr⟩ := hX.2.2.2.2 (69, "there are 64 assumptions") (by decide)
      exact vx_throwS (mc := 2) (ms := 12) hx hb hst (own := RS) (cls := xS) (names := xNs) (A := A) hown (by decide) (by decide) (hts _ cl_S_33) (hts _ in_IllegalStateException) hstr (xt_S_hat hts hX) xt_S_ot hZ.2.2.1 hZ.2.2.2 hS (by rw [hml]; exact hl.1) dS_assume_17 dS_assume_20 dS_assume_21 dS_assume_23 dS_assume_26 (fun x hx => (hnt x hx).elim) (Nat.le_of_ble_eq_true rfl) (Nat.le_of_ble_eq_true rfl) (Nat.le_of_ble_eq_true rfl) (Nat.le_of_ble_eq_true rfl) hlocks (fun t hvm hsz hk => ⟨(), trivial, ⟨Or.inr ⟨rfl, hlit, c1⟩, (wx_end hP hK hD hS hvm hsz hk).1⟩, (wx_end hP hK hD hS hvm hsz hk).2⟩) hS.2.2 (Nat.le_of_ble_eq_true rfl) (Nat.le_of_ble_eq_true rfl)
set_option maxHeartbeats 4000000 in
set_option maxRecDepth 100000 in
theorem k_S_least (l : Launch) (hst : l.stackTraces = false) (dC : Nat → ClassId) (dI : Nat → Nat → Nat) (tI sz : Nat) (h0 h1 h2 aw aa : Nat) (nv nl nc wc ac vt : Nat) (fo bl lv : Int32) (x : Int32) (hnv : nv ≤ 16) (hvt : vt ≤ 16) : vx_Met l yS_least (Cond.code yS_least cS_least 2 (some .int) :: GG) (lvr 6 1 6) (va_Pc [.ref h0, .int x] (wPre dC dI [] [(h0, .inr (1, [.ref h1, .ref h2, .ref aw, .ref aa, .int (nI nv), .int (nI nl), .int (nI nc), .int (nI wc), .int (nI ac), .int fo, .int bl, .int lv, .int (nI vt)]))] sz tI)) (va_Qi (fun (r : Int32) (u : Unit) => ∃ v, v < nv ∧ x = nI v ∧ ((r = -1 ∧ (fo = 0 ∨ vt ≤ v)) ∨ (¬ fo = 0 ∧ v < vt ∧ r = (lv >>> (nI v &&& 31)) &&& 1))) (fun u t => wB dC dI [] (va_A [(h0, .inr (1, [.ref h1, .ref h2, .ref aw, .ref aa, .int (nI nv), .int (nI nl), .int (nI nc), .int (nI wc), .int (nI ac), .int fo, .int bl, .int lv, .int (nI vt)]))] sz) [(h0, .inr (1, [.ref h1, .ref h2, .ref aw, .ref aa, .int (nI nv), .int (nI nl), .int (nI nc), .int (nI wc), .int (nI ac), .int fo, .int bl, .int lv, .int (nI vt)]))] t) (va_A [(h0, .inr (1, [.ref h1, .ref h2, .ref aw, .ref aa, .int (nI nv), .int (nI nl), .int (nI nc), .int (nI wc), .int (nI ac), .int fo, .int bl, .int lv, .int (nI vt)]))] sz)) (wXC dC dI [] [(h0, .inr (1, [.ref h1, .ref h2, .ref aw, .ref aa, .int (nI nv), .int (nI nl), .int (nI nc), .int (nI wc), .int (nI ac), .int fo, .int bl, .int lv, .int (nI vt)]))] sz (fun E => E = xI ∧ ¬ (∃ v, v < nv ∧ x = nI v))) 1 6 (va_A [(h0, .inr (1, [.ref h1, .ref h2, .ref aw, .ref aa, .int (nI nv), .int (nI nl), .int (nI nc), .int (nI wc), .int (nI ac), .int fo, .int bl, .int lv, .int (nI vt)]))] sz) := by
  unfold wXC
  refine vx_ofW (cc := cS_least) (maxL := 2) (ret := (some .int)) (by decide) rfl ?_
  intro p e s m args below meth c s₁ B hml hnt hv
  obtain ⟨rfl, hsz, hP, hK, hD0, hZ, hX⟩ := hv
  have hx := B.exec
  have hb := B.bytes
  have hr := B.returns
  have hts : ∀ w ∈ GG, w.before ([.ref h0, .int x] : List Value).toArray s = true := fun w h => atoms_spec (ws := _ :: GG) B.pre w (List.mem_cons_of_mem _ h)
  have hown : s.vm.findClass RS = some m.cls := findClass_of_methodNamed B.named
  have hlocks := B.notSynchronized
  subst hsz
  have hD := hD0.self (sz := s.heap.size)
  generalize hAe : va_A [(h0, .inr (1, [.ref h1, .ref h2, .ref aw, .ref aa, .int (nI nv), .int (nI nl), .int (nI nc), .int (nI wc), .int (nI ac), .int fo, .int bl, .int lv, .int (nI vt)]))] s.heap.size = A at hD hZ ⊢
  have hA : ∀ q : Nat, s.heap.size ≤ q → A q := fun q h => by rw [← hAe]; exact Or.inr h
  have hS : va_S A s.heap s.heap [] := va_S.rf
  have hl := lv_entry ([.ref h0, .int x]) (n := 2) (Nat.le_of_ble_eq_true rfl)
  rw [lg_entry_eq]
  generalize (lg_sl ([.ref h0, .int x]) ++ List.replicate (2 - (lg_sl ([.ref h0, .int x])).length) Slot.unset).toArray = ls at hl ⊢
  have hl : lv_has ls 2 [(0, .ref h0), (1, .int x)] := hl
  have SF : CallFix p m c cS_least 2 s ([.ref h0, .int x] : List Value).toArray GG RS := ⟨hx, hb, hml, hown, hts⟩
  skip
  have hP : va_P (dC, dI) vwCl [(h0, .inr (1, [.ref h1, .ref h2, .ref aw, .ref aa, .int (nI nv), .int (nI nl), .int (nI nc), .int (nI wc), .int (nI ac), .int fo, .int bl, .int lv, .int (nI vt)]))] s.heap := hP
  refine lv_iload_n hx hb dS_least_0 rfl (lv_at hl 1 rfl) ?_
  refine lv_if_lt (tgt := 12) hx hb dS_least_1 (by decide) (fun c1 => ?_) (fun c1 => ?_)
  · obtain ⟨sa, hstr⟩ := hX.2.2.2.2 (97, "there is no such variable") (by decide)
    exact vx_throwS (mc := 1) (ms := 6) hx hb hst (own := RS) (cls := xI) (names := xNs) (A := A) hown (by decide) (by decide) (hts _ cl_S_95) (hts _ in_IndexOutOfBoundsException) hstr (xt_I_hat hts hX) xt_I_ot hZ.2.2.1 hZ.2.2.2 hS (by rw [hml]; exact hl.1) dS_least_12 dS_least_15 dS_least_16 dS_least_18 dS_least_21 (fun x hx => (hnt x hx).elim) (Nat.le_of_ble_eq_true rfl) (Nat.le_of_ble_eq_true rfl) (Nat.le_of_ble_eq_true rfl) (Nat.le_of_ble_eq_true rfl) hlocks (fun t hvm hsz hk => ⟨(), trivial, ⟨⟨rfl, fun ⟨v, hv, e⟩ => absurd c1 (by rw [e]; exact nI_pos (by omega))⟩, (wx_end hP hK hD hS hvm hsz hk).1⟩, (wx_end hP hK hD hS hvm hsz hk).2⟩) hS.2.2 (Nat.le_of_ble_eq_true rfl) (Nat.le_of_ble_eq_true rfl)
  · refine lv_iload_n hx hb dS_least_4 rfl (lv_at hl 1 rfl) ?_
    refine lv_aload_n hx hb dS_least_5 rfl (lv_at hl 0 rfl) ?_
    refine va_get (D := (dC, dI)) (ci := 1) (v := .int (nI nv)) (C := RS) (T := TS) (N := 13) hx hb hts lyS hown hK hP 0 rfl rfl 4 (by decide) (hts _ fl_S_29) (fun _ h9 => h9) rfl dS_least_6 ?_
    refine lv_icmp_lt (tgt := 22) hx hb dS_least_9 (by decide) (fun c2 => ?_) (fun c2 => ?_)
    · obtain ⟨v, hv31, ev⟩ := nI_of c1
      have hv : v < nv := (nI_ltI (by omega) (by omega)).mp (by rw [← ev]; exact c2)
      subst ev
      refine lv_aload_n hx hb dS_least_22 rfl (lv_at hl 0 rfl) ?_
      refine va_get (D := (dC, dI)) (ci := 1) (v := .int fo) (C := RS) (T := TS) (N := 13) hx hb hts lyS hown hK hP 0 rfl rfl 9 (by decide) (hts _ fl_S_82) (fun _ h9 => h9) rfl dS_least_23 ?_
      refine lv_if_eq (tgt := 37) hx hb dS_least_26 (by decide) (fun c3 => ?_) (fun c3 => ?_)
      · refine lv_iconst (v := (-1)) hx hb dS_least_37 (by decide) ?_
        refine W.widen (k := 1) (n := 6) (Nat.le_of_ble_eq_true rfl) (Nat.le_of_ble_eq_true rfl) ?_
        exact vx_ret (W.iret (v := (-1)) hx hb hr (fun t ht hW => ⟨⟨(-1), (), rfl, ⟨v, hv, rfl, Or.inl ⟨rfl, Or.inl c3⟩⟩, by rw [ht]; exact hP, va_K.moved hW.alike hK, hD⟩, hS.F ht⟩) hS.2.2 dS_least_38)
      · refine lv_iload_n hx hb dS_least_29 rfl (lv_at hl 1 rfl) ?_
        refine lv_aload_n hx hb dS_least_30 rfl (lv_at hl 0 rfl) ?_
        refine va_get (D := (dC, dI)) (ci := 1) (v := .int (nI vt)) (C := RS) (T := TS) (N := 13) hx hb hts lyS hown hK hP 0 rfl rfl 12 (by decide) (hts _ fl_S_92) (fun _ h9 => h9) rfl dS_least_31 ?_
        refine lv_icmp_lt (tgt := 39) hx hb dS_least_34 (by decide) (fun c4 => ?_) (fun c4 => ?_)
        · have c4 : v < vt := (nI_ltI (a := v) (b := vt) (by omega) (by omega)).mp c4
          refine lv_aload_n hx hb dS_least_39 rfl (lv_at hl 0 rfl) ?_
          refine va_get (D := (dC, dI)) (ci := 1) (v := .int lv) (C := RS) (T := TS) (N := 13) hx hb hts lyS hown hK hP 0 rfl rfl 11 (by decide) (hts _ fl_S_89) (fun _ h9 => h9) rfl dS_least_40 ?_
          refine lv_iload_n hx hb dS_least_43 rfl (lv_at hl 1 rfl) ?_
          refine lv_ishr hx hb dS_least_44 ?_
          refine lv_iconst (v := 1) hx hb dS_least_45 (by decide) ?_
          refine lv_iand hx hb dS_least_46 ?_
          refine W.widen (k := 1) (n := 6) (Nat.le_of_ble_eq_true rfl) (Nat.le_of_ble_eq_true rfl) ?_
          exact vx_ret (W.iret (v := (lv >>> ((nI v) &&& 31)) &&& 1) hx hb hr (fun t ht hW => ⟨⟨(lv >>> ((nI v) &&& 31)) &&& 1, (), rfl, ⟨v, hv, rfl, Or.inr ⟨c3, c4, rfl⟩⟩, by rw [ht]; exact hP, va_K.moved hW.alike hK, hD⟩, hS.F ht⟩) hS.2.2 dS_least_47)
        · have c4 : vt ≤ v := Nat.le_of_not_lt (fun q => c4 ((nI_ltI (a := v) (b := vt) (by omega) (by omega)).mpr q))
          refine lv_iconst (v := (-1)) hx hb dS_least_37 (by decide) ?_
          refine W.widen (k := 1) (n := 6) (Nat.le_of_ble_eq_true rfl) (Nat.le_of_ble_eq_true rfl) ?_
          exact vx_ret (W.iret (v := (-1)) hx hb hr (fun t ht hW => ⟨⟨(-1), (), rfl, ⟨v, hv, rfl, Or.inl ⟨rfl, Or.inr c4⟩⟩, by rw [ht]; exact hP, va_K.moved hW.alike hK, hD⟩, hS.F ht⟩) hS.2.2 dS_least_38)
    · obtain ⟨sa, hstr⟩ := hX.2.2.2.2 (97, "there is no such variable") (by decide)
      exact vx_throwS (mc := 1) (ms := 6) hx hb hst (own := RS) (cls := xI) (names := xNs) (A := A) hown (by decide) (by decide) (hts _ cl_S_95) (hts _ in_IndexOutOfBoundsException) hstr (xt_I_hat hts hX) xt_I_ot hZ.2.2.1 hZ.2.2.2 hS (by rw [hml]; exact hl.1) dS_least_12 dS_least_15 dS_least_16 dS_least_18 dS_least_21 (fun x hx => (hnt x hx).elim) (Nat.le_of_ble_eq_true rfl) (Nat.le_of_ble_eq_true rfl) (Nat.le_of_ble_eq_true rfl) (Nat.le_of_ble_eq_true rfl) hlocks (fun t hvm hsz hk => ⟨(), trivial, ⟨⟨rfl, fun ⟨v, hv, e⟩ => c2 (by rw [e]; exact nI_lt hv (by omega))⟩, (wx_end hP hK hD hS hvm hsz hk).1⟩, (wx_end hP hK hD hS hvm hsz hk).2⟩) hS.2.2 (Nat.le_of_ble_eq_true rfl) (Nat.le_of_ble_eq_true rfl)
set_option maxHeartbeats 4000000 in
set_option maxRecDepth 100000 in
theorem k_S_must (l : Launch) (hst : l.stackTraces = false) (dC : Nat → ClassId) (dI : Nat → Nat → Nat) (tI sz : Nat) (h0 h1 w1 h2 aw aa : Nat) (cL : ClassId) (f : Nat → Int64) (U : Nat) (hU : U ≤ 1024) (nv nl nc wc ac vt : Nat) (fo bl lv : Int32) (x : Int32) (hnv : nv ≤ 16) : vx_Met l yS_must (Cond.code yS_must cS_must 4 (some .int) :: GG) (lvr 7 1 6) (va_Pc [.ref h0, .int x] (wPre dC dI [(cL, .long)] [(h0, .inr (1, [.ref h1, .ref h2, .ref aw, .ref aa, .int (nI nv), .int (nI nl), .int (nI nc), .int (nI wc), .int (nI ac), .int fo, .int bl, .int lv, .int (nI vt)])), (h1, .inr (0, [.ref w1, .int (nI U)])), (w1, .inl (cL, 1024, .inr (.inl f)))] sz tI)) (va_Qi (fun (r : Int32) (u : Unit) => ∃ L, L < 2 * nv ∧ x = nI L ∧ ((mu_P f U L ∧ mu_P f U (mu_x L) ∧ r = 2) ∨ (mu_P f U L ∧ ¬ mu_P f U (mu_x L) ∧ r = 1) ∨ (¬ mu_P f U L ∧ mu_P f U (mu_x L) ∧ r = 0) ∨ (¬ mu_P f U L ∧ ¬ mu_P f U (mu_x L) ∧ r = -1))) (fun u t => wB dC dI [(cL, .long)] (va_A [(h0, .inr (1, [.ref h1, .ref h2, .ref aw, .ref aa, .int (nI nv), .int (nI nl), .int (nI nc), .int (nI wc), .int (nI ac), .int fo, .int bl, .int lv, .int (nI vt)])), (h1, .inr (0, [.ref w1, .int (nI U)])), (w1, .inl (cL, 1024, .inr (.inl f)))] sz) [(h0, .inr (1, [.ref h1, .ref h2, .ref aw, .ref aa, .int (nI nv), .int (nI nl), .int (nI nc), .int (nI wc), .int (nI ac), .int fo, .int bl, .int lv, .int (nI vt)])), (h1, .inr (0, [.ref w1, .int (nI U)])), (w1, .inl (cL, 1024, .inr (.inl f)))] t) (va_A [(h0, .inr (1, [.ref h1, .ref h2, .ref aw, .ref aa, .int (nI nv), .int (nI nl), .int (nI nc), .int (nI wc), .int (nI ac), .int fo, .int bl, .int lv, .int (nI vt)])), (h1, .inr (0, [.ref w1, .int (nI U)])), (w1, .inl (cL, 1024, .inr (.inl f)))] sz)) (wXC dC dI [(cL, .long)] [(h0, .inr (1, [.ref h1, .ref h2, .ref aw, .ref aa, .int (nI nv), .int (nI nl), .int (nI nc), .int (nI wc), .int (nI ac), .int fo, .int bl, .int lv, .int (nI vt)])), (h1, .inr (0, [.ref w1, .int (nI U)])), (w1, .inl (cL, 1024, .inr (.inl f)))] sz (fun E => E = xA ∧ ¬ (∃ L, L < 2 * nv ∧ x = nI L))) 1 6 (va_A [(h0, .inr (1, [.ref h1, .ref h2, .ref aw, .ref aa, .int (nI nv), .int (nI nl), .int (nI nc), .int (nI wc), .int (nI ac), .int fo, .int bl, .int lv, .int (nI vt)])), (h1, .inr (0, [.ref w1, .int (nI U)])), (w1, .inl (cL, 1024, .inr (.inl f)))] sz) := by
  unfold wXC
  refine vx_ofW (cc := cS_must) (maxL := 4) (ret := (some .int)) (by decide) rfl ?_
  intro p e s m args below meth c s₁ B hml hnt hv
  obtain ⟨rfl, hsz, hP, hK, hD0, hZ, hX⟩ := hv
  have hx := B.exec
  have hb := B.bytes
  have hr := B.returns
  have hts : ∀ w ∈ GG, w.before ([.ref h0, .int x] : List Value).toArray s = true := fun w h => atoms_spec (ws := _ :: GG) B.pre w (List.mem_cons_of_mem _ h)
  have hown : s.vm.findClass RS = some m.cls := findClass_of_methodNamed B.named
  have hlocks := B.notSynchronized
  subst hsz
  have hD := hD0.self (sz := s.heap.size)
  generalize hAe : va_A [(h0, .inr (1, [.ref h1, .ref h2, .ref aw, .ref aa, .int (nI nv), .int (nI nl), .int (nI nc), .int (nI wc), .int (nI ac), .int fo, .int bl, .int lv, .int (nI vt)])), (h1, .inr (0, [.ref w1, .int (nI U)])), (w1, .inl (cL, 1024, .inr (.inl f)))] s.heap.size = A at hD hZ ⊢
  have hA : ∀ q : Nat, s.heap.size ≤ q → A q := fun q h => by rw [← hAe]; exact Or.inr h
  have hS : va_S A s.heap s.heap [] := va_S.rf
  have hl := lv_entry ([.ref h0, .int x]) (n := 4) (Nat.le_of_ble_eq_true rfl)
  rw [lg_entry_eq]
  generalize (lg_sl ([.ref h0, .int x]) ++ List.replicate (4 - (lg_sl ([.ref h0, .int x])).length) Slot.unset).toArray = ls at hl ⊢
  have hl : lv_has ls 4 [(0, .ref h0), (1, .int x)] := hl
  have SF : CallFix p m c cS_must 4 s ([.ref h0, .int x] : List Value).toArray GG RS := ⟨hx, hb, hml, hown, hts⟩
  skip
  have hP : va_P (dC, dI) vwCl [(h0, .inr (1, [.ref h1, .ref h2, .ref aw, .ref aa, .int (nI nv), .int (nI nl), .int (nI nc), .int (nI wc), .int (nI ac), .int fo, .int bl, .int lv, .int (nI vt)])), (h1, .inr (0, [.ref w1, .int (nI U)])), (w1, .inl (cL, 1024, .inr (.inl f)))] s.heap := hP
  refine lv_aload_n hx hb dS_must_0 rfl (lv_at hl 0 rfl) ?_
  refine lv_iload_n hx hb dS_must_1 rfl (lv_at hl 1 rfl) ?_
  have hFc := va_free (wc := [(h0, .inr (1, [.ref h1, .ref h2, .ref aw, .ref aa, .int (nI nv), .int (nI nl), .int (nI nc), .int (nI wc), .int (nI ac), .int fo, .int bl, .int lv, .int (nI vt)]))]) hD hS hA [0] rfl
  refine wcx_v (wcx_V (As := [.int x]) (rest := []) (n := 1) SF (k_S_refuse l hst dC dI tI _ h0 h1 h2 aw aa nv nl nc wc ac vt fo bl lv x hnv) ml_S_44 im_S_refuseUnknownLiteral se_S_refuseUnknownLiteral in_S co_S_refuseUnknownLiteral (by decide +kernel) rfl rfl rfl ⟨Nat.le_of_ble_eq_true rfl, Nat.le_of_ble_eq_true rfl⟩ (va_recv (hK.sub (tys' := []) [] rfl) (hP.sub (ws' := [(h0, .inr (1, [.ref h1, .ref h2, .ref aw, .ref aa, .int (nI nv), .int (nI nl), .int (nI nc), .int (nI wc), .int (nI ac), .int fo, .int bl, .int lv, .int (nI vt)]))]) [0] rfl) (ci := 1) (q0 := 0) rfl rfl) (hP.sub [0] rfl) (hD.sub [0] (by decide) rfl) (hK.sub [] rfl) hZ hX hS hFc rfl hl.1 (Nat.le_of_ble_eq_true rfl) dS_must_2 ⟨Nat.le_of_ble_eq_true rfl, Nat.le_of_ble_eq_true rfl⟩) hP hD hS hFc [0] [1, 2] (wr := [(h1, .inr (0, [.ref w1, .int (nI U)])), (w1, .inl (cL, 1024, .inr (.inl f)))]) rfl rfl rfl (by decide) (fun E ce q9 H locs hE hP hD hS h7 h8 h9 => ?_) (fun uu H locs hlit hP hD hS => ?_)
  · have hP : va_P (dC, dI) vwCl [(h0, .inr (1, [.ref h1, .ref h2, .ref aw, .ref aa, .int (nI nv), .int (nI nl), .int (nI nc), .int (nI wc), .int (nI ac), .int fo, .int bl, .int lv, .int (nI vt)])), (h1, .inr (0, [.ref w1, .int (nI U)])), (w1, .inl (cL, 1024, .inr (.inl f)))] H := hP.sub [2, 0, 1] rfl
    have hD : va_D A [(h0, .inr (1, [.ref h1, .ref h2, .ref aw, .ref aa, .int (nI nv), .int (nI nl), .int (nI nc), .int (nI wc), .int (nI ac), .int fo, .int bl, .int lv, .int (nI vt)])), (h1, .inr (0, [.ref w1, .int (nI U)])), (w1, .inl (cL, 1024, .inr (.inl f)))] := hD.sub [2, 0, 1] (by decide) rfl
    exact vx_out (fun x hx => (hnt x hx).elim) hlocks h7 h8 h9 (fun t ht hvm => ⟨(), trivial, ⟨hE, by rw [ht]; exact hP, va_K.moved hvm hK, hD⟩, hS.F ht⟩) hS.2.2 (Nat.le_of_ble_eq_true rfl) (Nat.le_of_ble_eq_true rfl)
  · have hP : va_P (dC, dI) vwCl [(h0, .inr (1, [.ref h1, .ref h2, .ref aw, .ref aa, .int (nI nv), .int (nI nl), .int (nI nc), .int (nI wc), .int (nI ac), .int fo, .int bl, .int lv, .int (nI vt)])), (h1, .inr (0, [.ref w1, .int (nI U)])), (w1, .inl (cL, 1024, .inr (.inl f)))] H := hP.sub [2, 0, 1] rfl
    have hD : va_D A [(h0, .inr (1, [.ref h1, .ref h2, .ref aw, .ref aa, .int (nI nv), .int (nI nl), .int (nI nc), .int (nI wc), .int (nI ac), .int fo, .int bl, .int lv, .int (nI vt)])), (h1, .inr (0, [.ref w1, .int (nI U)])), (w1, .inl (cL, 1024, .inr (.inl f)))] := hD.sub [2, 0, 1] (by decide) rfl
    obtain ⟨L, hL, eL⟩ := hlit
    subst eL
    refine lv_aload_n hx hb dS_must_5 rfl (lv_at hl 0 rfl) ?_
    refine va_get (D := (dC, dI)) (ci := 1) (v := .ref h1) (C := RS) (T := TS) (N := 13) hx hb hts lyS hown hK hP 0 rfl rfl 0 (by decide) (hts _ fl_S_10) (fun _ h9 => h9) rfl dS_must_6 ?_
    refine lv_iload_n hx hb dS_must_9 rfl (lv_at hl 1 rfl) ?_
    have hFc := va_free (wc := [(h1, .inr (0, [.ref w1, .int (nI U)])), (w1, .inl (cL, 1024, .inr (.inl f)))]) hD hS hA [1, 2] rfl
    refine wc_i (wc_V (As := [.int (nI L)]) (rest := []) (n := 1) SF (k_R_anyWith l dC dI tI _ h1 w1 cL f U hU L (by omega)) ml_S_100 im_R_anyWith se_R_anyWith in_R co_R_anyWith (by decide +kernel) rfl rfl rfl ⟨Nat.le_of_ble_eq_true rfl, Nat.le_of_ble_eq_true rfl⟩ (va_recv (hK.sub (tys' := []) [] rfl) (hP.sub (ws' := [(h1, .inr (0, [.ref w1, .int (nI U)])), (w1, .inl (cL, 1024, .inr (.inl f)))]) [1, 2] rfl) (ci := 0) (q0 := 0) rfl rfl) (hP.sub [1, 2] rfl) (hD.sub [1, 2] (by decide) rfl) (hK.sub [0] rfl) hZ hX hS hFc rfl hl.1 (Nat.le_of_ble_eq_true rfl) dS_must_10 ⟨Nat.le_of_ble_eq_true rfl, Nat.le_of_ble_eq_true rfl⟩) hP hD hS hFc [1, 2] [0] (wr := [(h0, .inr (1, [.ref h1, .ref h2, .ref aw, .ref aa, .int (nI nv), .int (nI nl), .int (nI nc), .int (nI wc), .int (nI ac), .int fo, .int bl, .int lv, .int (nI vt)]))]) rfl rfl rfl (by decide) (fun z1 uu1 H locs hz1 hP hD hS => ?_)
    have hP : va_P (dC, dI) vwCl [(h0, .inr (1, [.ref h1, .ref h2, .ref aw, .ref aa, .int (nI nv), .int (nI nl), .int (nI nc), .int (nI wc), .int (nI ac), .int fo, .int bl, .int lv, .int (nI vt)])), (h1, .inr (0, [.ref w1, .int (nI U)])), (w1, .inl (cL, 1024, .inr (.inl f)))] H := hP.sub [0, 1, 2] rfl
    have hD : va_D A [(h0, .inr (1, [.ref h1, .ref h2, .ref aw, .ref aa, .int (nI nv), .int (nI nl), .int (nI nc), .int (nI wc), .int (nI ac), .int fo, .int bl, .int lv, .int (nI vt)])), (h1, .inr (0, [.ref w1, .int (nI U)])), (w1, .inl (cL, 1024, .inr (.inl f)))] := hD.sub [0, 1, 2] (by decide) rfl
    refine lv_istore_n (lv' := [(2, .int z1), (0, .ref h0), (1, .int (nI L))]) hx hb dS_must_13 rfl hl (by decide) rfl (fun ls hl => ?_)
    refine lv_aload_n hx hb dS_must_14 rfl (lv_at hl 1 rfl) ?_
    refine va_get (D := (dC, dI)) (ci := 1) (v := .ref h1) (C := RS) (T := TS) (N := 13) hx hb hts lyS hown hK hP 0 rfl rfl 0 (by decide) (hts _ fl_S_10) (fun _ h9 => h9) rfl dS_must_15 ?_
    refine lv_iload_n hx hb dS_must_18 rfl (lv_at hl 2 rfl) ?_
    refine lv_iconst (v := 1) hx hb dS_must_19 (by decide) ?_
    refine lv_ixor hx hb dS_must_20 ?_
    refine ls_topi (y := nI (mu_x L)) (mu_xor L (by omega)) ?_
    have hFc := va_free (wc := [(h1, .inr (0, [.ref w1, .int (nI U)])), (w1, .inl (cL, 1024, .inr (.inl f)))]) hD hS hA [1, 2] rfl
    refine wc_i (wc_V (As := [.int (nI (mu_x L))]) (rest := []) (n := 1) SF (k_R_anyWith l dC dI tI _ h1 w1 cL f U hU (mu_x L) (mu_lt (by omega))) ml_S_100 im_R_anyWith se_R_anyWith in_R co_R_anyWith (by decide +kernel) rfl rfl rfl ⟨Nat.le_of_ble_eq_true rfl, Nat.le_of_ble_eq_true rfl⟩ (va_recv (hK.sub (tys' := []) [] rfl) (hP.sub (ws' := [(h1, .inr (0, [.ref w1, .int (nI U)])), (w1, .inl (cL, 1024, .inr (.inl f)))]) [1, 2] rfl) (ci := 0) (q0 := 0) rfl rfl) (hP.sub [1, 2] rfl) (hD.sub [1, 2] (by decide) rfl) (hK.sub [0] rfl) hZ hX hS hFc rfl hl.1 (Nat.le_of_ble_eq_true rfl) dS_must_21 ⟨Nat.le_of_ble_eq_true rfl, Nat.le_of_ble_eq_true rfl⟩) hP hD hS hFc [1, 2] [0] (wr := [(h0, .inr (1, [.ref h1, .ref h2, .ref aw, .ref aa, .int (nI nv), .int (nI nl), .int (nI nc), .int (nI wc), .int (nI ac), .int fo, .int bl, .int lv, .int (nI vt)]))]) rfl rfl rfl (by decide) (fun z2 uu2 H locs hz2 hP hD hS => ?_)
    have hP : va_P (dC, dI) vwCl [(h0, .inr (1, [.ref h1, .ref h2, .ref aw, .ref aa, .int (nI nv), .int (nI nl), .int (nI nc), .int (nI wc), .int (nI ac), .int fo, .int bl, .int lv, .int (nI vt)])), (h1, .inr (0, [.ref w1, .int (nI U)])), (w1, .inl (cL, 1024, .inr (.inl f)))] H := hP.sub [0, 1, 2] rfl
    have hD : va_D A [(h0, .inr (1, [.ref h1, .ref h2, .ref aw, .ref aa, .int (nI nv), .int (nI nl), .int (nI nc), .int (nI wc), .int (nI ac), .int fo, .int bl, .int lv, .int (nI vt)])), (h1, .inr (0, [.ref w1, .int (nI U)])), (w1, .inl (cL, 1024, .inr (.inl f)))] := hD.sub [0, 1, 2] (by decide) rfl
    refine lv_istore_n (lv' := [(3, .int z2), (2, .int z1), (0, .ref h0), (1, .int (nI L))]) hx hb dS_must_24 rfl hl (by decide) rfl (fun ls hl => ?_)
    refine lv_iload_n hx hb dS_must_25 rfl (lv_at hl 1 rfl) ?_
    refine lv_if_eq (tgt := 39) hx hb dS_must_26 (by decide) (fun c1 => ?_) (fun c1 => ?_)
    · have hn1 := mu_0 hz1 c1
      refine lv_iload_n hx hb dS_must_39 rfl (lv_at hl 0 rfl) ?_
      refine lv_if_eq (tgt := 47) hx hb dS_must_40 (by decide) (fun c2 => ?_) (fun c2 => ?_)
      · have hn2 := mu_0 hz2 c2
        refine lv_iconst (v := (-1)) hx hb dS_must_47 (by decide) ?_
        refine W.widen (k := 1) (n := 6) (Nat.le_of_ble_eq_true rfl) (Nat.le_of_ble_eq_true rfl) ?_
        exact vx_ret (W.iret (v := (-1)) hx hb hr (fun t ht hW => ⟨⟨(-1), (), rfl, ⟨L, hL, rfl, Or.inr (Or.inr (Or.inr ⟨hn1, hn2, rfl⟩))⟩, by rw [ht]; exact hP, va_K.moved hW.alike hK, hD⟩, hS.F ht⟩) hS.2.2 dS_must_48)
      · have hn2 := mu_1 hz2 c2
        refine lv_iconst (v := 0) hx hb dS_must_43 (by decide) ?_
        refine lv_goto (tgt := 48) hx hb dS_must_44 (by decide) ?_
        refine W.widen (k := 1) (n := 6) (Nat.le_of_ble_eq_true rfl) (Nat.le_of_ble_eq_true rfl) ?_
        exact vx_ret (W.iret (v := 0) hx hb hr (fun t ht hW => ⟨⟨0, (), rfl, ⟨L, hL, rfl, Or.inr (Or.inr (Or.inl ⟨hn1, hn2, rfl⟩))⟩, by rw [ht]; exact hP, va_K.moved hW.alike hK, hD⟩, hS.F ht⟩) hS.2.2 dS_must_48)
    · have hn1 := mu_1 hz1 c1
      refine lv_iload_n hx hb dS_must_29 rfl (lv_at hl 0 rfl) ?_
      refine lv_if_eq (tgt := 37) hx hb dS_must_30 (by decide) (fun c2 => ?_) (fun c2 => ?_)
      · have hn2 := mu_0 hz2 c2
        refine lv_iconst (v := 1) hx hb dS_must_37 (by decide) ?_
        refine W.widen (k := 1) (n := 6) (Nat.le_of_ble_eq_true rfl) (Nat.le_of_ble_eq_true rfl) ?_
        exact vx_ret (W.iret (v := 1) hx hb hr (fun t ht hW => ⟨⟨1, (), rfl, ⟨L, hL, rfl, Or.inr (Or.inl ⟨hn1, hn2, rfl⟩)⟩, by rw [ht]; exact hP, va_K.moved hW.alike hK, hD⟩, hS.F ht⟩) hS.2.2 dS_must_38)
      · have hn2 := mu_1 hz2 c2
        refine lv_iconst (v := 2) hx hb dS_must_33 (by decide) ?_
        refine lv_goto (tgt := 38) hx hb dS_must_34 (by decide) ?_
        refine W.widen (k := 1) (n := 6) (Nat.le_of_ble_eq_true rfl) (Nat.le_of_ble_eq_true rfl) ?_
        exact vx_ret (W.iret (v := 2) hx hb hr (fun t ht hW => ⟨⟨2, (), rfl, ⟨L, hL, rfl, Or.inl ⟨hn1, hn2, rfl⟩⟩, by rw [ht]; exact hP, va_K.moved hW.alike hK, hD⟩, hS.F ht⟩) hS.2.2 dS_must_38)
