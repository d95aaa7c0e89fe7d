theorem wy_le {X a b : Nat} (hX : X < 2 ^ 31) (ha : a < 2 ^ 30) (hb : b < 2 ^ 30) : nI X ≤ nI a - nI b ↔ X + b ≤ a := by
  rw [Int32.le_iff_toInt_le, pk_sub_toInt ha hb, nI_toInt hX]
  omega
theorem wy_drop {f g : Nat → Int64} {n F N e k : Nat} {u : (Nat → Int64) × Nat} (hk : k < 16) (he : e ≤ 10) (h : wy_I f n F N (16 - (k + 1)) g e) (hn : ¬ (F ≤ k ∧ k < F + N)) (hu : (k < 6 ∧ u.2 = 2 ^ e ∧ ∀ j, j < 2 ^ e → u.1 j = (g j ||| ls_ush (g j) (2 ^ k)) &&& (ls_ones k ^^^ (-1))) ∨ (6 ≤ k ∧ ((2 ^ e ≤ 2 ^ (k - 6) ∧ u = (g, 2 ^ e)) ∨ (2 ^ (k - 6) < 2 ^ e ∧ u.2 = 2 ^ e / 2 ∧ ∀ j, j < 2 ^ e / 2 → u.1 j = g (dp_in (k - 6) j) ||| g (dp_in (k - 6) j + 2 ^ (k - 6)))))) : ∃ e', e' ≤ 10 ∧ u.2 = 2 ^ e' ∧ wy_I f n F N (16 - k) u.1 e' := by
  have e15 : 15 - (16 - (k + 1)) = k := by omega
  rw [show 16 - k = 16 - (k + 1) + 1 by omega]
  rcases hu with ⟨h6, hU, hw⟩ | ⟨h6, ⟨hle, hU⟩ | ⟨hlt, hU, hw⟩⟩
  · obtain ⟨a1, a2⟩ := wy_in h6 hw
    exact ⟨e, he, hU, wy_img h (by rw [e15]; exact hn) (by rw [e15]; exact a1) (by rw [e15]; exact a2)⟩
  · have hd : ∀ x, x < 64 * 2 ^ e → wy_d k x = x := fun x hx => by
      have hxk : x < 2 ^ k := by
        have : 2 ^ k = 64 * 2 ^ (k - 6) := by rw [show (64 : Nat) = 2 ^ 6 from rfl, ← Nat.pow_add]; congr 1; omega
        omega
      unfold wy_d
      rw [if_neg (by omega), Nat.mod_eq_of_lt hxk, Nat.div_eq_of_lt (Nat.lt_of_lt_of_le hxk (Nat.pow_le_pow_right (by decide) (by omega)))]
      omega
    refine ⟨e, he, by rw [hU], wy_img h (by rw [e15]; exact hn) ?_ ?_⟩
    · rw [e15, hU]
      exact fun r hr => ⟨fun q => ⟨r, hr, q, hd r hr⟩, fun ⟨x, x1, x2, x3⟩ => by rw [hd x x1] at x3; rw [← x3]; exact x2⟩
    · rw [e15]; exact fun x hx => by rw [hd x hx]; exact hx
  · have hke : k - 6 < e := (Nat.pow_lt_pow_iff_right (by decide)).mp hlt
    have hh : 2 ^ e / 2 = 2 ^ (e - 1) := by
      obtain ⟨d, rfl⟩ : ∃ d, e = d + 1 := ⟨e - 1, by omega⟩
      rw [Nat.pow_succ, Nat.add_sub_cancel]; omega
    rw [hh] at hU hw
    obtain ⟨a1, a2⟩ := wy_out h6 hke hw
    exact ⟨e - 1, by omega, hU, wy_img h (by rw [e15]; exact hn) (by rw [e15]; exact a1) (by rw [e15]; exact a2)⟩
set_option maxHeartbeats 4000000 in
set_option maxRecDepth 100000 in
theorem k_S_ways (l : Launch) (hst : l.stackTraces = false) (dC : Nat → ClassId) (dI : Nat → Nat → Nat) (tI sz : Nat) (h0 h1 w1 h2 w2 aw aa : Nat) (cL cM : ClassId) (f g0 : Nat → Int64) (y0 : Int32) (U n : Nat) (hU : U ≤ 1024) (hn : U = 2 ^ n) (hnn : n ≤ 10) (nv nl nc wc ac vt : Nat) (fo bl lv : Int32) (x y : Int32) (hnv : nv ≤ 16) : vx_Met l yS_ways (Cond.code yS_ways cS_ways 4 (some .int) :: GG) (lvr 6 1 6) (va_Pc [.ref h0, .int x, .int y] (wPre dC dI [(cL, .long), (cM, .long)] [(h0, .inr (1, [.ref h1, .ref h2, .ref aw, .ref aa, .int (nI nv), .int (nI nl), .int (nI nc), .int (nI wc), .int (nI ac), .int fo, .int bl, .int lv, .int (nI vt)])), (h1, .inr (0, [.ref w1, .int (nI U)])), (w1, .inl (cL, 1024, .inr (.inl f))), (h2, .inr (0, [.ref w2, .int y0])), (w2, .inl (cM, 1024, .inr (.inl g0)))] sz tI)) (va_Qi (fun (r : Int32) (u : (Nat → Int64) × Nat) => ∃ F N ee, N ≤ 8 ∧ y = nI N ∧ x = nI F ∧ F + N ≤ nv ∧ ee ≤ 10 ∧ u.2 = 2 ^ ee ∧ r = nI (ls_sum u.1 (2 ^ ee)) ∧ wy_I f n F N 16 u.1 ee) (fun u t => wB dC dI [(cL, .long), (cM, .long)] (va_A [(h0, .inr (1, [.ref h1, .ref h2, .ref aw, .ref aa, .int (nI nv), .int (nI nl), .int (nI nc), .int (nI wc), .int (nI ac), .int fo, .int bl, .int lv, .int (nI vt)])), (h1, .inr (0, [.ref w1, .int (nI U)])), (w1, .inl (cL, 1024, .inr (.inl f))), (h2, .inr (0, [.ref w2, .int y0])), (w2, .inl (cM, 1024, .inr (.inl g0)))] sz) [(h0, .inr (1, [.ref h1, .ref h2, .ref aw, .ref aa, .int (nI nv), .int (nI nl), .int (nI nc), .int (nI wc), .int (nI ac), .int fo, .int bl, .int lv, .int (nI vt)])), (h1, .inr (0, [.ref w1, .int (nI U)])), (w1, .inl (cL, 1024, .inr (.inl f))), (h2, .inr (0, [.ref w2, .int (nI u.2)])), (w2, .inl (cM, 1024, .inr (.inl u.1)))] t) (va_A [(h0, .inr (1, [.ref h1, .ref h2, .ref aw, .ref aa, .int (nI nv), .int (nI nl), .int (nI nc), .int (nI wc), .int (nI ac), .int fo, .int bl, .int lv, .int (nI vt)])), (h1, .inr (0, [.ref w1, .int (nI U)])), (w1, .inl (cL, 1024, .inr (.inl f))), (h2, .inr (0, [.ref w2, .int y0])), (w2, .inl (cM, 1024, .inr (.inl g0)))] sz)) (wXC dC dI [(cL, .long), (cM, .long)] [(h0, .inr (1, [.ref h1, .ref h2, .ref aw, .ref aa, .int (nI nv), .int (nI nl), .int (nI nc), .int (nI wc), .int (nI ac), .int fo, .int bl, .int lv, .int (nI vt)])), (h1, .inr (0, [.ref w1, .int (nI U)])), (w1, .inl (cL, 1024, .inr (.inl f))), (h2, .inr (0, [.ref w2, .int y0])), (w2, .inl (cM, 1024, .inr (.inl g0)))] sz (fun E => (E = xA ∧ ¬ (∃ N, N ≤ 8 ∧ y = nI N)) ∨ (E = xI ∧ (∃ N, N ≤ 8 ∧ y = nI N) ∧ ¬ (∃ F N, N ≤ 8 ∧ y = nI N ∧ x = nI F ∧ F + N ≤ nv)))) 1 6 (va_A [(h0, .inr (1, [.ref h1, .ref h2, .ref aw, .ref aa, .int (nI nv), .int (nI nl), .int (nI nc), .int (nI wc), .int (nI ac), .int fo, .int bl, .int lv, .int (nI vt)])), (h1, .inr (0, [.ref w1, .int (nI U)])), (w1, .inl (cL, 1024, .inr (.inl f))), (h2, .inr (0, [.ref w2, .int y0])), (w2, .inl (cM, 1024, .inr (.inl g0)))] sz) := by
  unfold wXC
  refine vx_ofW (cc := cS_ways) (maxL := 4) (ret := (some .int)) (by decide) rfl ?_
  intro p e s m args below meth c s₁ B hml hnt hv
  obtain ⟨rfl, hsz, hP, hK, hD0, hZ, hX⟩ := hv
  have hx := B.exec
  have hb := B.bytes
  have hr := B.returns
  have hts : ∀ w ∈ GG, w.before ([.ref h0, .int x, .int y] : List Value).toArray s = true := fun w h => atoms_spec (ws := _ :: GG) B.pre w (List.mem_cons_of_mem _ h)
  have hown : s.vm.findClass RS = some m.cls := findClass_of_methodNamed B.named
  have hlocks := B.notSynchronized
  subst hsz
  have hD := hD0.self (sz := s.heap.size)
  generalize hAe : va_A [(h0, .inr (1, [.ref h1, .ref h2, .ref aw, .ref aa, .int (nI nv), .int (nI nl), .int (nI nc), .int (nI wc), .int (nI ac), .int fo, .int bl, .int lv, .int (nI vt)])), (h1, .inr (0, [.ref w1, .int (nI U)])), (w1, .inl (cL, 1024, .inr (.inl f))), (h2, .inr (0, [.ref w2, .int y0])), (w2, .inl (cM, 1024, .inr (.inl g0)))] s.heap.size = A at hD hZ ⊢
  have hA : ∀ q : Nat, s.heap.size ≤ q → A q := fun q h => by rw [← hAe]; exact Or.inr h
  have hS : va_S A s.heap s.heap [] := va_S.rf
  have hl := lv_entry ([.ref h0, .int x, .int y]) (n := 4) (Nat.le_of_ble_eq_true rfl)
  rw [lg_entry_eq]
  generalize (lg_sl ([.ref h0, .int x, .int y]) ++ List.replicate (4 - (lg_sl ([.ref h0, .int x, .int y])).length) Slot.unset).toArray = ls at hl ⊢
  have hl : lv_has ls 4 [(0, .ref h0), (1, .int x), (2, .int y)] := hl
  have SF : CallFix p m c cS_ways 4 s ([.ref h0, .int x, .int y] : List Value).toArray GG RS := ⟨hx, hb, hml, hown, hts⟩
  skip
  have hP : va_P (dC, dI) vwCl [(h0, .inr (1, [.ref h1, .ref h2, .ref aw, .ref aa, .int (nI nv), .int (nI nl), .int (nI nc), .int (nI wc), .int (nI ac), .int fo, .int bl, .int lv, .int (nI vt)])), (h1, .inr (0, [.ref w1, .int (nI U)])), (w1, .inl (cL, 1024, .inr (.inl f))), (h2, .inr (0, [.ref w2, .int y0])), (w2, .inl (cM, 1024, .inr (.inl g0)))] s.heap := hP
  refine lv_iload_n hx hb dS_ways_0 rfl (lv_at hl 2 rfl) ?_
  refine lv_if_lt (tgt := 10) hx hb dS_ways_1 (by decide) (fun c1 => ?_) (fun c1 => ?_)
  · obtain ⟨sa, hstr⟩ := hX.2.2.2.2 (106, "n is not 0 .. 8") (by decide)
    exact vx_throwS (mc := 1) (ms := 6) hx hb hst (own := RS) (cls := xA) (names := xNs) (A := A) hown (by decide) (by decide) (hts _ cl_S_104) (hts _ in_IllegalArgumentException) hstr (xt_A_hat hts hX) xt_A_ot hZ.2.2.1 hZ.2.2.2 hS (by rw [hml]; exact hl.1) dS_ways_10 dS_ways_13 dS_ways_14 dS_ways_16 dS_ways_19 (fun x hx => (hnt x hx).elim) (Nat.le_of_ble_eq_true rfl) (Nat.le_of_ble_eq_true rfl) (Nat.le_of_ble_eq_true rfl) (Nat.le_of_ble_eq_true rfl) hlocks (fun t hvm hsz hk => ⟨(), trivial, ⟨Or.inl ⟨rfl, fun ⟨N, hN, e⟩ => absurd c1 (by rw [e]; exact nI_pos (by omega))⟩, (wx_end hP hK hD hS hvm hsz hk).1⟩, (wx_end hP hK hD hS hvm hsz hk).2⟩) hS.2.2 (Nat.le_of_ble_eq_true rfl) (Nat.le_of_ble_eq_true rfl)
  · obtain ⟨N, hN31, eN⟩ := nI_of c1
    subst eN
    refine lv_iload_n hx hb dS_ways_4 rfl (lv_at hl 2 rfl) ?_
    refine lv_bipush (v := 8) hx hb dS_ways_5 (by decide) ?_
    refine lv_icmp_le (tgt := 20) hx hb dS_ways_7 (by decide) (fun c2 => ?_) (fun c2 => ?_)
    · have c2 : N ≤ 8 := (nI_leI (a := N) (b := 8) (by omega) (by omega)).mp c2
      refine lv_iload_n hx hb dS_ways_20 rfl (lv_at hl 1 rfl) ?_
      refine lv_if_lt (tgt := 34) hx hb dS_ways_21 (by decide) (fun c3 => ?_) (fun c3 => ?_)
      · obtain ⟨sa, hstr⟩ := hX.2.2.2.2 (109, "there are not so many variables from there on") (by decide)
        exact vx_throwS (mc := 1) (ms := 6) hx hb hst (own := RS) (cls := xI) (names := xNs) (A := A) hown (by decide) (by decide) (hts _ cl_S_95) (hts _ in_IndexOutOfBoundsException) hstr (xt_I_hat hts hX) xt_I_ot hZ.2.2.1 hZ.2.2.2 hS (by rw [hml]; exact hl.1) dS_ways_34 dS_ways_37 dS_ways_38 dS_ways_40 dS_ways_43 (fun x hx => (hnt x hx).elim) (Nat.le_of_ble_eq_true rfl) (Nat.le_of_ble_eq_true rfl) (Nat.le_of_ble_eq_true rfl) (Nat.le_of_ble_eq_true rfl) hlocks (fun t hvm hsz hk => ⟨(), trivial, ⟨Or.inr ⟨rfl, ⟨N, c2, rfl⟩, fun ⟨F, N2, h1, h2, h3, h4⟩ => absurd c3 (by rw [h3]; exact nI_pos (by omega))⟩, (wx_end hP hK hD hS hvm hsz hk).1⟩, (wx_end hP hK hD hS hvm hsz hk).2⟩) hS.2.2 (Nat.le_of_ble_eq_true rfl) (Nat.le_of_ble_eq_true rfl)
      · obtain ⟨F, hF31, eF⟩ := nI_of c3
        subst eF
        refine lv_iload_n hx hb dS_ways_24 rfl (lv_at hl 1 rfl) ?_
        refine lv_aload_n hx hb dS_ways_25 rfl (lv_at hl 0 rfl) ?_
        refine va_get (D := (dC, dI)) (ci := 1) (v := .int (nI nv)) (C := RS) (T := TS) (N := 13) hx hb hts lyS hown hK hP 0 rfl rfl 4 (by decide) (hts _ fl_S_29) (fun _ h9 => h9) rfl dS_ways_26 ?_
        refine lv_iload_n hx hb dS_ways_29 rfl (lv_at hl 2 rfl) ?_
        refine lv_isub hx hb dS_ways_30 ?_
        refine lv_icmp_le (tgt := 44) hx hb dS_ways_31 (by decide) (fun c4 => ?_) (fun c4 => ?_)
        · have hFN : F + N ≤ nv := (wy_le (by omega) (by omega) (by omega)).mp c4
          refine lv_aload_n hx hb dS_ways_44 rfl (lv_at hl 0 rfl) ?_
          refine va_get (D := (dC, dI)) (ci := 1) (v := .ref h2) (C := RS) (T := TS) (N := 13) hx hb hts lyS hown hK hP 0 rfl rfl 1 (by decide) (hts _ fl_S_16) (fun _ h9 => h9) rfl dS_ways_45 ?_
          refine lv_aload_n hx hb dS_ways_48 rfl (lv_at hl 0 rfl) ?_
          refine va_get (D := (dC, dI)) (ci := 1) (v := .ref h1) (C := RS) (T := TS) (N := 13) hx hb hts lyS hown hK hP 0 rfl rfl 0 (by decide) (hts _ fl_S_10) (fun _ h9 => h9) rfl dS_ways_49 ?_
          have hFc := va_free (wc := [(h2, .inr (0, [.ref w2, .int y0])), (w2, .inl (cM, 1024, .inr (.inl g0))), (h1, .inr (0, [.ref w1, .int (nI U)])), (w1, .inl (cL, 1024, .inr (.inl f)))]) hD hS hA [3, 4, 1, 2] rfl
          refine wc_v (wc_V (As := [.ref h1]) (rest := []) (n := 1) SF (k_R_copyFrom l dC dI tI _ h2 w2 h1 w1 cM cL g0 f y0 U hU) ml_S_71 im_R_copyFrom se_R_copyFrom in_R co_R_copyFrom (by decide +kernel) rfl rfl rfl ⟨Nat.le_of_ble_eq_true rfl, Nat.le_of_ble_eq_true rfl⟩ (va_recv (hK.sub (tys' := []) [] rfl) (hP.sub (ws' := [(h2, .inr (0, [.ref w2, .int y0])), (w2, .inl (cM, 1024, .inr (.inl g0))), (h1, .inr (0, [.ref w1, .int (nI U)])), (w1, .inl (cL, 1024, .inr (.inl f)))]) [3, 4, 1, 2] rfl) (ci := 0) (q0 := 0) rfl rfl) (hP.sub [3, 4, 1, 2] rfl) (hD.sub [3, 4, 1, 2] (by decide) rfl) (hK.sub [1, 0] rfl) hZ hX hS hFc rfl hl.1 (Nat.le_of_ble_eq_true rfl) dS_ways_52 ⟨Nat.le_of_ble_eq_true rfl, Nat.le_of_ble_eq_true rfl⟩) hP hD hS hFc [3, 4, 1, 2] [0] (wr := [(h0, .inr (1, [.ref h1, .ref h2, .ref aw, .ref aa, .int (nI nv), .int (nI nl), .int (nI nc), .int (nI wc), .int (nI ac), .int fo, .int bl, .int lv, .int (nI vt)]))]) rfl rfl rfl (by decide) (fun g1 H locs hg1 hP hD hS => ?_)
          have hP : va_P (dC, dI) vwCl [(h0, .inr (1, [.ref h1, .ref h2, .ref aw, .ref aa, .int (nI nv), .int (nI nl), .int (nI nc), .int (nI wc), .int (nI ac), .int fo, .int bl, .int lv, .int (nI vt)])), (h1, .inr (0, [.ref w1, .int (nI U)])), (w1, .inl (cL, 1024, .inr (.inl f))), (h2, .inr (0, [.ref w2, .int (nI U)])), (w2, .inl (cM, 1024, .inr (.inl g1)))] H := hP.sub [0, 3, 4, 1, 2] rfl
          have hD : va_D A [(h0, .inr (1, [.ref h1, .ref h2, .ref aw, .ref aa, .int (nI nv), .int (nI nl), .int (nI nc), .int (nI wc), .int (nI ac), .int fo, .int bl, .int lv, .int (nI vt)])), (h1, .inr (0, [.ref w1, .int (nI U)])), (w1, .inl (cL, 1024, .inr (.inl f))), (h2, .inr (0, [.ref w2, .int (nI U)])), (w2, .inl (cM, 1024, .inr (.inl g1)))] := hD.sub [0, 3, 4, 1, 2] (by decide) rfl
          have hg2 : wy_I f n F N (16 - 16) g1 n := wy_I0 (fun k hk => hg1 k (by rw [hn]; exact hk))
          refine lv_bipush (v := 15) hx hb dS_ways_55 (by decide) ?_
          refine lv_istore_n (lv' := [(3, .int 15), (0, .ref h0), (1, .int (nI F)), (2, .int (nI N))]) hx hb dS_ways_57 rfl hl (by decide) rfl (fun ls hl => ?_)
          have hP : va_P (dC, dI) vwCl [(h0, .inr (1, [.ref h1, .ref h2, .ref aw, .ref aa, .int (nI nv), .int (nI nl), .int (nI nc), .int (nI wc), .int (nI ac), .int fo, .int bl, .int lv, .int (nI vt)])), (h1, .inr (0, [.ref w1, .int (nI U)])), (w1, .inl (cL, 1024, .inr (.inl f))), (h2, .inr (0, [.ref w2, .int (nI (2 ^ n))])), (w2, .inl (cM, 1024, .inr (.inl g1)))] H := by rw [← hn]; exact hP
          have hD : va_D A [(h0, .inr (1, [.ref h1, .ref h2, .ref aw, .ref aa, .int (nI nv), .int (nI nl), .int (nI nc), .int (nI wc), .int (nI ac), .int fo, .int bl, .int lv, .int (nI vt)])), (h1, .inr (0, [.ref w1, .int (nI U)])), (w1, .inl (cL, 1024, .inr (.inl f))), (h2, .inr (0, [.ref w2, .int (nI (2 ^ n))])), (w2, .inl (cM, 1024, .inr (.inl g1)))] := by rw [← hn]; exact hD
          refine lp_mu (α := Nat × (Nat → Int64) × Nat) (fun a_ => match a_ with | (m9, g, ee) => m9) (fun a_ H locs ls => match a_ with | (m9, g, ee) => (m9 ≤ 16 ∧ ee ≤ 10 ∧ wy_I f n F N (16 - m9) g ee) ∧ va_P (dC, dI) vwCl [(h0, .inr (1, [.ref h1, .ref h2, .ref aw, .ref aa, .int (nI nv), .int (nI nl), .int (nI nc), .int (nI wc), .int (nI ac), .int fo, .int bl, .int lv, .int (nI vt)])), (h1, .inr (0, [.ref w1, .int (nI U)])), (w1, .inl (cL, 1024, .inr (.inl f))), (h2, .inr (0, [.ref w2, .int (nI (2 ^ ee))])), (w2, .inl (cM, 1024, .inr (.inl g)))] H ∧ va_D A [(h0, .inr (1, [.ref h1, .ref h2, .ref aw, .ref aa, .int (nI nv), .int (nI nl), .int (nI nc), .int (nI wc), .int (nI ac), .int fo, .int bl, .int lv, .int (nI vt)])), (h1, .inr (0, [.ref w1, .int (nI U)])), (w1, .inl (cL, 1024, .inr (.inl f))), (h2, .inr (0, [.ref w2, .int (nI (2 ^ ee))])), (w2, .inl (cM, 1024, .inr (.inl g)))] ∧ va_S A s.heap H locs ∧ lv_has ls 4 [(0, .ref h0), (1, .int (nI F)), (2, .int (nI N)), (3, .int (sx m9))]) ?_ (16, g1, n) ⟨⟨Nat.le_refl _, hnn, hg2⟩, hP, hD, hS, lv_sub hl [1, 2, 3, 0] rfl⟩
          intro a_ H locs ls hI ih
          obtain ⟨m9, g, ee⟩ := a_
          obtain ⟨hI, hP, hD, hS, hl⟩ := hI
          have hI : m9 ≤ 16 ∧ ee ≤ 10 ∧ wy_I f n F N (16 - m9) g ee := hI
          have hP : va_P (dC, dI) vwCl [(h0, .inr (1, [.ref h1, .ref h2, .ref aw, .ref aa, .int (nI nv), .int (nI nl), .int (nI nc), .int (nI wc), .int (nI ac), .int fo, .int bl, .int lv, .int (nI vt)])), (h1, .inr (0, [.ref w1, .int (nI U)])), (w1, .inl (cL, 1024, .inr (.inl f))), (h2, .inr (0, [.ref w2, .int (nI (2 ^ ee))])), (w2, .inl (cM, 1024, .inr (.inl g)))] H := hP
          have hD : va_D A [(h0, .inr (1, [.ref h1, .ref h2, .ref aw, .ref aa, .int (nI nv), .int (nI nl), .int (nI nc), .int (nI wc), .int (nI ac), .int fo, .int bl, .int lv, .int (nI vt)])), (h1, .inr (0, [.ref w1, .int (nI U)])), (w1, .inl (cL, 1024, .inr (.inl f))), (h2, .inr (0, [.ref w2, .int (nI (2 ^ ee))])), (w2, .inl (cM, 1024, .inr (.inl g)))] := hD
          have hl : lv_has ls 4 [(0, .ref h0), (1, .int (nI F)), (2, .int (nI N)), (3, .int (sx m9))] := hl
          obtain ⟨hm, hee, hI⟩ := hI
          have hpe : 2 ^ ee ≤ 1024 := Nat.le_trans (Nat.pow_le_pow_right (by decide) hee) (by decide)
          rcases Nat.eq_zero_or_pos m9 with m0 | m0
          · subst m0
            have hl : lv_has ls 4 [(0, .ref h0), (1, .int (nI F)), (2, .int (nI N)), (3, .int (-1))] := hl
            refine lv_iload_n hx hb dS_ways_58 rfl (lv_at hl 3 rfl) ?_
            refine lv_if_lt (tgt := 88) hx hb dS_ways_59 (by decide) (fun c5 => ?_) (fun c5 => ?_)
            · refine lv_aload_n hx hb dS_ways_88 rfl (lv_at hl 0 rfl) ?_
              refine va_get (D := (dC, dI)) (ci := 1) (v := .ref h2) (C := RS) (T := TS) (N := 13) hx hb hts lyS hown hK hP 0 rfl rfl 1 (by decide) (hts _ fl_S_16) (fun _ h9 => h9) rfl dS_ways_89 ?_
              have hFc := va_free (wc := [(h2, .inr (0, [.ref w2, .int (nI (2 ^ ee))])), (w2, .inl (cM, 1024, .inr (.inl g)))]) hD hS hA [3, 4] rfl
              refine wc_i (wc_V (As := []) (rest := []) (n := 0) SF (k_R_count l dC dI tI _ h2 w2 cM g (2 ^ ee) hpe) ml_S_114 im_R_count se_R_count in_R co_R_count (by decide +kernel) rfl rfl rfl ⟨Nat.le_of_ble_eq_true rfl, Nat.le_of_ble_eq_true rfl⟩ (va_recv (hK.sub (tys' := []) [] rfl) (hP.sub (ws' := [(h2, .inr (0, [.ref w2, .int (nI (2 ^ ee))])), (w2, .inl (cM, 1024, .inr (.inl g)))]) [3, 4] rfl) (ci := 0) (q0 := 0) rfl rfl) (hP.sub [3, 4] rfl) (hD.sub [3, 4] (by decide) rfl) (hK.sub [1] rfl) hZ hX hS hFc rfl hl.1 (Nat.le_of_ble_eq_true rfl) dS_ways_92 ⟨Nat.le_of_ble_eq_true rfl, Nat.le_of_ble_eq_true rfl⟩) hP hD hS hFc [3, 4] [0, 1, 2] (wr := [(h0, .inr (1, [.ref h1, .ref h2, .ref aw, .ref aa, .int (nI nv), .int (nI nl), .int (nI nc), .int (nI wc), .int (nI ac), .int fo, .int bl, .int lv, .int (nI vt)])), (h1, .inr (0, [.ref w1, .int (nI U)])), (w1, .inl (cL, 1024, .inr (.inl f)))]) rfl rfl rfl (by decide) (fun r9 uu H locs hw hP hD hS => ?_)
              have hP : va_P (dC, dI) vwCl [(h0, .inr (1, [.ref h1, .ref h2, .ref aw, .ref aa, .int (nI nv), .int (nI nl), .int (nI nc), .int (nI wc), .int (nI ac), .int fo, .int bl, .int lv, .int (nI vt)])), (h1, .inr (0, [.ref w1, .int (nI U)])), (w1, .inl (cL, 1024, .inr (.inl f))), (h2, .inr (0, [.ref w2, .int (nI (2 ^ ee))])), (w2, .inl (cM, 1024, .inr (.inl g)))] H := hP.sub [0, 1, 2, 3, 4] rfl
              have hD : va_D A [(h0, .inr (1, [.ref h1, .ref h2, .ref aw, .ref aa, .int (nI nv), .int (nI nl), .int (nI nc), .int (nI wc), .int (nI ac), .int fo, .int bl, .int lv, .int (nI vt)])), (h1, .inr (0, [.ref w1, .int (nI U)])), (w1, .inl (cL, 1024, .inr (.inl f))), (h2, .inr (0, [.ref w2, .int (nI (2 ^ ee))])), (w2, .inl (cM, 1024, .inr (.inl g)))] := hD.sub [0, 1, 2, 3, 4] (by decide) rfl
              refine W.widen (k := 1) (n := 6) (Nat.le_of_ble_eq_true rfl) (Nat.le_of_ble_eq_true rfl) ?_
              exact vx_ret (W.iret (v := r9) hx hb hr (fun t ht hW => ⟨⟨r9, (g, 2 ^ ee), rfl, ⟨F, N, ee, c2, rfl, rfl, hFN, hee, rfl, hw, hI⟩, by rw [ht]; exact hP, va_K.moved hW.alike hK, hD⟩, hS.F ht⟩) hS.2.2 dS_ways_95)
            · exact absurd (by decide) c5
          · obtain ⟨k, rfl⟩ : ∃ k, m9 = k + 1 := ⟨m9 - 1, by omega⟩
            have hl : lv_has ls 4 [(0, .ref h0), (1, .int (nI F)), (2, .int (nI N)), (3, .int (nI k))] := hl
            refine lv_iload_n hx hb dS_ways_58 rfl (lv_at hl 3 rfl) ?_
            refine lv_if_lt (tgt := 88) hx hb dS_ways_59 (by decide) (fun c5 => ?_) (fun c5 => ?_)
            · have c5 : k < 0 := (nI_ltI (a := k) (b := 0) (by omega) (by omega)).mp c5
              exact absurd c5 (Nat.not_lt_zero _)
            · have c5 : 0 ≤ k := Nat.le_of_not_lt (fun q => c5 ((nI_ltI (a := k) (b := 0) (by omega) (by omega)).mpr q))
              refine lv_iload_n hx hb dS_ways_62 rfl (lv_at hl 3 rfl) ?_
              refine lv_iload_n hx hb dS_ways_63 rfl (lv_at hl 1 rfl) ?_
              refine lv_icmp_lt (tgt := 74) hx hb dS_ways_64 (by decide) (fun c6 => ?_) (fun c6 => ?_)
              · have c6 : k < F := (nI_ltI (a := k) (b := F) (by omega) (by omega)).mp c6
                refine lv_aload_n hx hb dS_ways_74 rfl (lv_at hl 0 rfl) ?_
                refine va_get (D := (dC, dI)) (ci := 1) (v := .ref h2) (C := RS) (T := TS) (N := 13) hx hb hts lyS hown hK hP 0 rfl rfl 1 (by decide) (hts _ fl_S_16) (fun _ h9 => h9) rfl dS_ways_75 ?_
                refine lv_iload_n hx hb dS_ways_78 rfl (lv_at hl 3 rfl) ?_
                have hFc := va_free (wc := [(h2, .inr (0, [.ref w2, .int (nI (2 ^ ee))])), (w2, .inl (cM, 1024, .inr (.inl g)))]) hD hS hA [3, 4] rfl
                refine wc_v (wc_V (As := [.int (nI k)]) (rest := []) (n := 1) SF (k_R_dropVariable l dC dI tI _ h2 w2 cM g (2 ^ ee) hpe k ee rfl hee (by omega)) ml_S_111 im_R_dropVariable se_R_dropVariable in_R co_R_dropVariable (by decide +kernel) rfl rfl rfl ⟨Nat.le_of_ble_eq_true rfl, Nat.le_of_ble_eq_true rfl⟩ (va_recv (hK.sub (tys' := []) [] rfl) (hP.sub (ws' := [(h2, .inr (0, [.ref w2, .int (nI (2 ^ ee))])), (w2, .inl (cM, 1024, .inr (.inl g)))]) [3, 4] rfl) (ci := 0) (q0 := 0) rfl rfl) (hP.sub [3, 4] rfl) (hD.sub [3, 4] (by decide) rfl) (hK.sub [1] rfl) hZ hX hS hFc rfl hl.1 (Nat.le_of_ble_eq_true rfl) dS_ways_79 ⟨Nat.le_of_ble_eq_true rfl, Nat.le_of_ble_eq_true rfl⟩) hP hD hS hFc [3, 4] [0, 1, 2] (wr := [(h0, .inr (1, [.ref h1, .ref h2, .ref aw, .ref aa, .int (nI nv), .int (nI nl), .int (nI nc), .int (nI wc), .int (nI ac), .int fo, .int bl, .int lv, .int (nI vt)])), (h1, .inr (0, [.ref w1, .int (nI U)])), (w1, .inl (cL, 1024, .inr (.inl f)))]) rfl rfl rfl (by decide) (fun uu H locs hdr hP hD hS => ?_)
                have hP : va_P (dC, dI) vwCl [(h0, .inr (1, [.ref h1, .ref h2, .ref aw, .ref aa, .int (nI nv), .int (nI nl), .int (nI nc), .int (nI wc), .int (nI ac), .int fo, .int bl, .int lv, .int (nI vt)])), (h1, .inr (0, [.ref w1, .int (nI U)])), (w1, .inl (cL, 1024, .inr (.inl f))), (h2, .inr (0, [.ref w2, .int (nI uu.2)])), (w2, .inl (cM, 1024, .inr (.inl uu.1)))] H := hP.sub [0, 1, 2, 3, 4] rfl
                have hD : va_D A [(h0, .inr (1, [.ref h1, .ref h2, .ref aw, .ref aa, .int (nI nv), .int (nI nl), .int (nI nc), .int (nI wc), .int (nI ac), .int fo, .int bl, .int lv, .int (nI vt)])), (h1, .inr (0, [.ref w1, .int (nI U)])), (w1, .inl (cL, 1024, .inr (.inl f))), (h2, .inr (0, [.ref w2, .int (nI uu.2)])), (w2, .inl (cM, 1024, .inr (.inl uu.1)))] := hD.sub [0, 1, 2, 3, 4] (by decide) rfl
                obtain ⟨e2, he2, hU2, hI2⟩ := wy_drop (by omega) hee hI (by omega) hdr
                have hP : va_P (dC, dI) vwCl [(h0, .inr (1, [.ref h1, .ref h2, .ref aw, .ref aa, .int (nI nv), .int (nI nl), .int (nI nc), .int (nI wc), .int (nI ac), .int fo, .int bl, .int lv, .int (nI vt)])), (h1, .inr (0, [.ref w1, .int (nI U)])), (w1, .inl (cL, 1024, .inr (.inl f))), (h2, .inr (0, [.ref w2, .int (nI (2 ^ e2))])), (w2, .inl (cM, 1024, .inr (.inl uu.1)))] H := by rw [← hU2]; exact hP
                have hD : va_D A [(h0, .inr (1, [.ref h1, .ref h2, .ref aw, .ref aa, .int (nI nv), .int (nI nl), .int (nI nc), .int (nI wc), .int (nI ac), .int fo, .int bl, .int lv, .int (nI vt)])), (h1, .inr (0, [.ref w1, .int (nI U)])), (w1, .inl (cL, 1024, .inr (.inl f))), (h2, .inr (0, [.ref w2, .int (nI (2 ^ e2))])), (w2, .inl (cM, 1024, .inr (.inl uu.1)))] := by rw [← hU2]; exact hD
                refine lv_iinc (v := sx k) (lv' := [(3, .int (sx k)), (0, .ref h0), (1, .int (nI F)), (2, .int (nI N))]) hx hb dS_ways_82 hl (k := 3) rfl (sx_m1 k) (by decide) rfl (fun ls hl => ?_)
                refine lv_goto (tgt := 58) hx hb dS_ways_85 (by decide) ?_
                exact ih (k, uu.1, e2) _ _ _ (Nat.lt_succ_self _) ⟨⟨by omega, he2, hI2⟩, hP, hD, hS, lv_sub hl [1, 2, 3, 0] rfl⟩
              · have c6 : F ≤ k := Nat.le_of_not_lt (fun q => c6 ((nI_ltI (a := k) (b := F) (by omega) (by omega)).mpr q))
                refine lv_iload_n hx hb dS_ways_67 rfl (lv_at hl 3 rfl) ?_
                refine lv_iload_n hx hb dS_ways_68 rfl (lv_at hl 1 rfl) ?_
                refine lv_iload_n hx hb dS_ways_69 rfl (lv_at hl 2 rfl) ?_
                refine lv_iadd hx hb dS_ways_70 ?_
                refine ls_topi (y := nI (F + N)) (nI_add _ _) ?_
                refine lv_icmp_lt (tgt := 82) hx hb dS_ways_71 (by decide) (fun c7 => ?_) (fun c7 => ?_)
                · have c7 : k < (F + N) := (nI_ltI (a := k) (b := (F + N)) (by omega) (by omega)).mp c7
                  refine lv_iinc (v := sx k) (lv' := [(3, .int (sx k)), (0, .ref h0), (1, .int (nI F)), (2, .int (nI N))]) hx hb dS_ways_82 hl (k := 3) rfl (sx_m1 k) (by decide) rfl (fun ls hl => ?_)
                  refine lv_goto (tgt := 58) hx hb dS_ways_85 (by decide) ?_
                  exact ih (k, g, ee) _ _ _ (Nat.lt_succ_self _) ⟨⟨by omega, hee, by rw [show 16 - k = 16 - (k + 1) + 1 by omega]; exact wy_keep hI (by omega)⟩, hP, hD, hS, lv_sub hl [1, 2, 3, 0] rfl⟩
                · have c7 : (F + N) ≤ k := Nat.le_of_not_lt (fun q => c7 ((nI_ltI (a := k) (b := (F + N)) (by omega) (by omega)).mpr q))
                  refine lv_aload_n hx hb dS_ways_74 rfl (lv_at hl 0 rfl) ?_
                  refine va_get (D := (dC, dI)) (ci := 1) (v := .ref h2) (C := RS) (T := TS) (N := 13) hx hb hts lyS hown hK hP 0 rfl rfl 1 (by decide) (hts _ fl_S_16) (fun _ h9 => h9) rfl dS_ways_75 ?_
                  refine lv_iload_n hx hb dS_ways_78 rfl (lv_at hl 3 rfl) ?_
                  have hFc := va_free (wc := [(h2, .inr (0, [.ref w2, .int (nI (2 ^ ee))])), (w2, .inl (cM, 1024, .inr (.inl g)))]) hD hS hA [3, 4] rfl
                  refine wc_v (wc_V (As := [.int (nI k)]) (rest := []) (n := 1) SF (k_R_dropVariable l dC dI tI _ h2 w2 cM g (2 ^ ee) hpe k ee rfl hee (by omega)) ml_S_111 im_R_dropVariable se_R_dropVariable in_R co_R_dropVariable (by decide +kernel) rfl rfl rfl ⟨Nat.le_of_ble_eq_true rfl, Nat.le_of_ble_eq_true rfl⟩ (va_recv (hK.sub (tys' := []) [] rfl) (hP.sub (ws' := [(h2, .inr (0, [.ref w2, .int (nI (2 ^ ee))])), (w2, .inl (cM, 1024, .inr (.inl g)))]) [3, 4] rfl) (ci := 0) (q0 := 0) rfl rfl) (hP.sub [3, 4] rfl) (hD.sub [3, 4] (by decide) rfl) (hK.sub [1] rfl) hZ hX hS hFc rfl hl.1 (Nat.le_of_ble_eq_true rfl) dS_ways_79 ⟨Nat.le_of_ble_eq_true rfl, Nat.le_of_ble_eq_true rfl⟩) hP hD hS hFc [3, 4] [0, 1, 2] (wr := [(h0, .inr (1, [.ref h1, .ref h2, .ref aw, .ref aa, .int (nI nv), .int (nI nl), .int (nI nc), .int (nI wc), .int (nI ac), .int fo, .int bl, .int lv, .int (nI vt)])), (h1, .inr (0, [.ref w1, .int (nI U)])), (w1, .inl (cL, 1024, .inr (.inl f)))]) rfl rfl rfl (by decide) (fun uu H locs hdr hP hD hS => ?_)
                  have hP : va_P (dC, dI) vwCl [(h0, .inr (1, [.ref h1, .ref h2, .ref aw, .ref aa, .int (nI nv), .int (nI nl), .int (nI nc), .int (nI wc), .int (nI ac), .int fo, .int bl, .int lv, .int (nI vt)])), (h1, .inr (0, [.ref w1, .int (nI U)])), (w1, .inl (cL, 1024, .inr (.inl f))), (h2, .inr (0, [.ref w2, .int (nI uu.2)])), (w2, .inl (cM, 1024, .inr (.inl uu.1)))] H := hP.sub [0, 1, 2, 3, 4] rfl
                  have hD : va_D A [(h0, .inr (1, [.ref h1, .ref h2, .ref aw, .ref aa, .int (nI nv), .int (nI nl), .int (nI nc), .int (nI wc), .int (nI ac), .int fo, .int bl, .int lv, .int (nI vt)])), (h1, .inr (0, [.ref w1, .int (nI U)])), (w1, .inl (cL, 1024, .inr (.inl f))), (h2, .inr (0, [.ref w2, .int (nI uu.2)])), (w2, .inl (cM, 1024, .inr (.inl uu.1)))] := hD.sub [0, 1, 2, 3, 4] (by decide) rfl
                  obtain ⟨e2, he2, hU2, hI2⟩ := wy_drop (by omega) hee hI (by omega) hdr
                  have hP : va_P (dC, dI) vwCl [(h0, .inr (1, [.ref h1, .ref h2, .ref aw, .ref aa, .int (nI nv), .int (nI nl), .int (nI nc), .int (nI wc), .int (nI ac), .int fo, .int bl, .int lv, .int (nI vt)])), (h1, .inr (0, [.ref w1, .int (nI U)])), (w1, .inl (cL, 1024, .inr (.inl f))), (h2, .inr (0, [.ref w2, .int (nI (2 ^ e2))])), (w2, .inl (cM, 1024, .inr (.inl uu.1)))] H := by rw [← hU2]; exact hP
                  have hD : va_D A [(h0, .inr (1, [.ref h1, .ref h2, .ref aw, .ref aa, .int (nI nv), .int (nI nl), .int (nI nc), .int (nI wc), .int (nI ac), .int fo, .int bl, .int lv, .int (nI vt)])), (h1, .inr (0, [.ref w1, .int (nI U)])), (w1, .inl (cL, 1024, .inr (.inl f))), (h2, .inr (0, [.ref w2, .int (nI (2 ^ e2))])), (w2, .inl (cM, 1024, .inr (.inl uu.1)))] := by rw [← hU2]; exact hD
                  refine lv_iinc (v := sx k) (lv' := [(3, .int (sx k)), (0, .ref h0), (1, .int (nI F)), (2, .int (nI N))]) hx hb dS_ways_82 hl (k := 3) rfl (sx_m1 k) (by decide) rfl (fun ls hl => ?_)
                  refine lv_goto (tgt := 58) hx hb dS_ways_85 (by decide) ?_
                  exact ih (k, uu.1, e2) _ _ _ (Nat.lt_succ_self _) ⟨⟨by omega, he2, hI2⟩, hP, hD, hS, lv_sub hl [1, 2, 3, 0] rfl⟩
        · obtain ⟨sa, hstr⟩ := hX.2.2.2.2 (109, "there are not so many variables from there on") (by decide)
          exact vx_throwS (mc := 1) (ms := 6) hx hb hst (own := RS) (cls := xI) (names := xNs) (A := A) hown (by decide) (by decide) (hts _ cl_S_95) (hts _ in_IndexOutOfBoundsException) hstr (xt_I_hat hts hX) xt_I_ot hZ.2.2.1 hZ.2.2.2 hS (by rw [hml]; exact hl.1) dS_ways_34 dS_ways_37 dS_ways_38 dS_ways_40 dS_ways_43 (fun x hx => (hnt x hx).elim) (Nat.le_of_ble_eq_true rfl) (Nat.le_of_ble_eq_true rfl) (Nat.le_of_ble_eq_true rfl) (Nat.le_of_ble_eq_true rfl) hlocks (fun t hvm hsz hk => ⟨(), trivial, ⟨Or.inr ⟨rfl, ⟨N, c2, rfl⟩, fun ⟨F2, N2, h1, h2, h3, h4⟩ => c4 ((wy_le (by omega) (by omega) (by omega)).mpr (by rw [(nI_eq (by omega) (by omega)).mp h3, (nI_eq (by omega) (by omega)).mp h2]; exact h4))⟩, (wx_end hP hK hD hS hvm hsz hk).1⟩, (wx_end hP hK hD hS hvm hsz hk).2⟩) hS.2.2 (Nat.le_of_ble_eq_true rfl) (Nat.le_of_ble_eq_true rfl)
    · have c2 : 8 < N := Nat.lt_of_not_le (fun q => c2 ((nI_leI (a := N) (b := 8) (by omega) (by omega)).mpr q))
      obtain ⟨sa, hstr⟩ := hX.2.2.2.2 (106, "n is not 0 .. 8") (by decide)
      exact vx_throwS (mc := 1) (ms := 6) hx hb hst (own := RS) (cls := xA) (names := xNs) (A := A) hown (by decide) (by decide) (hts _ cl_S_104) (hts _ in_IllegalArgumentException) hstr (xt_A_hat hts hX) xt_A_ot hZ.2.2.1 hZ.2.2.2 hS (by rw [hml]; exact hl.1) dS_ways_10 dS_ways_13 dS_ways_14 dS_ways_16 dS_ways_19 (fun x hx => (hnt x hx).elim) (Nat.le_of_ble_eq_true rfl) (Nat.le_of_ble_eq_true rfl) (Nat.le_of_ble_eq_true rfl) (Nat.le_of_ble_eq_true rfl) hlocks (fun t hvm hsz hk => ⟨(), trivial, ⟨Or.inl ⟨rfl, fun ⟨N2, hN, e⟩ => absurd ((nI_eq (by omega) (by omega)).mp e) (by omega)⟩, (wx_end hP hK hD hS hvm hsz hk).1⟩, (wx_end hP hK hD hS hvm hsz hk).2⟩) hS.2.2 (Nat.le_of_ble_eq_true rfl) (Nat.le_of_ble_eq_true rfl)
