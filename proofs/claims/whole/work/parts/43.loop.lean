set_option maxHeartbeats 8000000 in
set_option maxRecDepth 100000 in
theorem law_loop {p : Program} {l : Launch} {e : Env} {s : State} {m : MethodId} {below : List Frame} {meth : Method} {c : Code} {b L : Nat} {xs : Nat → Int32} {dC : Nat → ClassId} {dI : Nat → Nat → Nat} {tI : Nat} {A : Nat → Prop} (hst : l.stackTraces = false) (C : LC p s m meth c b L xs dC dI tI A) (hr : meth.sig.returnType = ret) (hlocks : meth.locks = false) (hAs : ∀ q, A q → s.heap.size ≤ q) {h0 h1 w1 h2 w2 aw aa g0 aL aS aF aN aA aO aV aT ao : Nat} {cL cM cI cJ kL kS kF kN kA kO kV kT cO : ClassId} (hK : va_K (dC, dI) vwCl [(cL, .long), (cM, .long), (cI, .int), (cJ, .int), (kL, .int), (kS, .int), (kF, .int), (kN, .int), (kA, .int), (kO, .int), (kV, .int), (kT, .int), (cO, .long)] s) {H : Heap} {locs : List Loc} {ls : Array Slot} (hJ0 : LJ s dC dI A b h0 h1 w1 h2 w2 aw aa g0 aL aS aF aN aA aO aV aT ao cL cM cI cJ kL kS kF kN kA kO kV kT cO 0 H locs ls) : W p l e room_1 s m #[Value.ref b] below meth c H locs 17 7317 (lw_Z below #[Value.ref b] s) (F0 m 23 ls []) := by
  obtain ⟨hx, hb, hml, hown, hts, hXs, hbl, hbA, hA, hZ, hX, hL⟩ := id C
  refine lp_up (T := L / 3) (LJ s dC dI A b h0 h1 w1 h2 w2 aw aa g0 aL aS aF aN aA aO aV aT ao cL cM cI cJ kL kS kF kN kA kO kV kT cO) (fun t => 17 + 2 * t) (fun t => 7317 + 12 * t) ?_ 0 (Nat.zero_le _) hJ0
  intro t H locs ls htT hJ ih
  obtain ⟨f, g, y, wf, af, fo, bl, lv, nv, nc, us, dr, as, th, co, la, mb, lf, sf, ff, nf, am, of, vf, tf, og, lit, st, vv, an, ch, hCP, hP, hD, hS, hl⟩ := hJ
  show W p l e room_1 s m #[Value.ref b] below meth c H locs (17 + 2 * t) (7317 + 12 * t) (lw_Z below #[Value.ref b] s) (F0 m 23 ls [])
  refine lv_iload hx hb dL_law_23 (lv_at hl 4 rfl) ?_
  refine lv_aload_n hx hb dL_law_25 rfl (lv_at hl 0 rfl) ?_
  refine va_slen hx hb hXs hbl hbA hS dL_law_26 ?_
  refine lv_iconst (v := 3) hx hb dL_law_27 (by decide) ?_
  refine lv_isub hx hb dL_law_28 ?_
  refine lv_icmp_gt (tgt := 549) hx hb dL_law_29 (by decide) (fun c1 => ?_) (fun c1 => ?_)
  · refine lv_iconst (v := 1) hx hb dL_law_549 (by decide) ?_
    refine va_forget (fun q hq => hAs _ (hS.2.2 q hq)) ?_
    refine W.widen (k := 1050) (n := 15563) (by omega) (by omega) ?_
    exact lw_ret hx hb hr hlocks dL_law_550
  · have ht : 3 * t + 3 ≤ L := (wy_le (X := 3 * t) (a := L) (b := 3) (by omega) (by omega) (by decide)).mp (Int32.not_lt.mp c1)
    refine lv_aload_n hx hb dL_law_32 rfl (lv_at hl 0 rfl) ?_
    refine lv_iload hx hb dL_law_33 (lv_at hl 4 rfl) ?_
    refine va_sld hx hb hXs hbl hbA hS (vp_in_nI (n := 3 * t) (by omega) (by omega)) dL_law_35 ?_
    refine lv_bipush (v := 15) hx hb dL_law_36 (by decide) ?_
    refine lv_iand hx hb dL_law_38 ?_
    obtain ⟨j, hj, ej⟩ := pk_andE (xs (nI (3 * t)).toNatClampNeg) (m := 15) 4 rfl
    refine ls_topi (y := nI j) (ej) ?_
    have hj : j < 16 := hj
    have ih2 : ∀ (H1 : Heap) (locs1 : List Loc) (ls1 : Array Slot), LJ s dC dI A b h0 h1 w1 h2 w2 aw aa g0 aL aS aF aN aA aO aV aT ao cL cM cI cJ kL kS kF kN kA kO kV kT cO (t + 1) H1 locs1 ls1 → W p l e room_1 s m #[Value.ref b] below meth c H1 locs1 (17 + 2 * (t + 1)) (7317 + 12 * (t + 1)) (lw_Z below #[Value.ref b] s) (F0 m 23 ls1 []) := fun H1 locs1 ls1 q => ih (by omega) H1 locs1 ls1 q
    rcases (show j = 0 ∨ j = 1 ∨ j = 2 ∨ j = 3 ∨ j = 4 ∨ j = 5 ∨ j = 6 ∨ j = 7 ∨ j = 8 ∨ j = 9 ∨ j = 10 ∨ j = 11 ∨ 12 ≤ j by omega) with rfl | rfl | rfl | rfl | rfl | rfl | rfl | rfl | rfl | rfl | rfl | rfl | hj2
    · refine lv_tableIn (off := 61) (tgt := 100) hx hb dL_law_39 (by decide) (by decide) (by decide) (by decide) ?_
      exact law_0 hst C hK t ht f g y wf af fo bl lv nv nc us dr as th co la mb lf sf ff nf am of vf tf og lit st vv an ch hCP hP hD hS hl ih2
    · refine lv_tableIn (off := 105) (tgt := 144) hx hb dL_law_39 (by decide) (by decide) (by decide) (by decide) ?_
      exact law_1 hst C hK t ht f g y wf af fo bl lv nv nc us dr as th co la mb lf sf ff nf am of vf tf og lit st vv an ch hCP hP hD hS hl ih2
    · refine lv_tableIn (off := 161) (tgt := 200) hx hb dL_law_39 (by decide) (by decide) (by decide) (by decide) ?_
      exact law_2 hst C hK t ht f g y wf af fo bl lv nv nc us dr as th co la mb lf sf ff nf am of vf tf og lit st vv an ch hCP hP hD hS hl ih2
    · refine lv_tableIn (off := 205) (tgt := 244) hx hb dL_law_39 (by decide) (by decide) (by decide) (by decide) ?_
      exact law_3 hst C hK t ht f g y wf af fo bl lv nv nc us dr as th co la mb lf sf ff nf am of vf tf og lit st vv an ch hCP hP hD hS hl ih2
    · refine lv_tableIn (off := 261) (tgt := 300) hx hb dL_law_39 (by decide) (by decide) (by decide) (by decide) ?_
      exact law_4 hst C hK t ht f g y wf af fo bl lv nv nc us dr as th co la mb lf sf ff nf am of vf tf og lit st vv an ch hCP hP hD hS hl ih2
    · refine lv_tableIn (off := 274) (tgt := 313) hx hb dL_law_39 (by decide) (by decide) (by decide) (by decide) ?_
      exact law_5 hst C hK t ht f g y wf af fo bl lv nv nc us dr as th co la mb lf sf ff nf am of vf tf og lit st vv an ch hCP hP hD hS hl ih2
    · refine lv_tableIn (off := 287) (tgt := 326) hx hb dL_law_39 (by decide) (by decide) (by decide) (by decide) ?_
      exact law_6 hst C hK t ht f g y wf af fo bl lv nv nc us dr as th co la mb lf sf ff nf am of vf tf og lit st vv an ch hCP hP hD hS hl ih2
    · refine lv_tableIn (off := 343) (tgt := 382) hx hb dL_law_39 (by decide) (by decide) (by decide) (by decide) ?_
      exact law_7 hst C hK t ht f g y wf af fo bl lv nv nc us dr as th co la mb lf sf ff nf am of vf tf og lit st vv an ch hCP hP hD hS hl ih2
    · refine lv_tableIn (off := 399) (tgt := 438) hx hb dL_law_39 (by decide) (by decide) (by decide) (by decide) ?_
      exact law_8 hst C hK t ht f g y wf af fo bl lv nv nc us dr as th co la mb lf sf ff nf am of vf tf og lit st vv an ch hCP hP hD hS hl ih2
    · refine lv_tableIn (off := 467) (tgt := 506) hx hb dL_law_39 (by decide) (by decide) (by decide) (by decide) ?_
      exact law_9 hst C hK t ht f g y wf af fo bl lv nv nc us dr as th co la mb lf sf ff nf am of vf tf og lit st vv an ch hCP hP hD hS hl ih2
    · refine lv_tableIn (off := 480) (tgt := 519) hx hb dL_law_39 (by decide) (by decide) (by decide) (by decide) ?_
      exact law_10 hst C hK t ht f g y wf af fo bl lv nv nc us dr as th co la mb lf sf ff nf am of vf tf og lit st vv an ch hCP hP hD hS hl ih2
    · refine lv_tableIn (off := 493) (tgt := 532) hx hb dL_law_39 (by decide) (by decide) (by decide) (by decide) ?_
      exact law_11 hst C hK t ht f g y wf af fo bl lv nv nc us dr as th co la mb lf sf ff nf am of vf tf og lit st vv an ch hCP hP hD hS hl ih2
    · refine lv_tableOut (tgt := 543) hx hb dL_law_39 (Or.inr (by rw [nI_toInt (by omega)]; omega)) (by decide) ?_
      exact law_d hst C hK t ht f g y wf af fo bl lv nv nc us dr as th co la mb lf sf ff nf am of vf tf og lit st vv an ch hCP hP hD hS hl ih2
