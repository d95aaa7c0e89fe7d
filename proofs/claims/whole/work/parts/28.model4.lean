def wyQ (F N X : Nat) (b : Nat → Nat) : Prop := ∀ k, k < N → b (F + k) = X / 2 ^ k % 2
noncomputable def wyB (nv : Nat) (lit st : Nat → Nat) (ch : Nat → List Nat) (F N X : Nat) : Bool := @decide (sv_sat nv lit st ch (wyQ F N X)) (Classical.propDecidable _)
theorem wyB_t {nv : Nat} {lit st : Nat → Nat} {ch : Nat → List Nat} {F N X : Nat} : wyB nv lit st ch F N X = true ↔ sv_sat nv lit st ch (wyQ F N X) := @decide_eq_true_iff _ (Classical.propDecidable _)
def wq_I (nv F X k : Nat) (o : Nat → Int32) : Prop := ∀ v, v < nv → o v = if F ≤ v ∧ v < F + k then nI (X / 2 ^ (v - F) % 2) else -1
theorem wq_s {nv F X k : Nat} {o : Nat → Int32} (h : wq_I nv F X k o) : wq_I nv F X (k + 1) (upd o (F + k) (nI (X / 2 ^ k % 2))) := by
  intro v hv
  unfold upd
  by_cases q : v = F + k
  · rw [if_pos q, if_pos (by omega), show v - F = k by omega]
  · rw [if_neg q, h v hv]
    by_cases q2 : F ≤ v ∧ v < F + k
    · rw [if_pos q2, if_pos (by omega)]
    · rw [if_neg q2, if_neg (by omega)]
theorem wq_v {nv F X k : Nat} {o : Nat → Int32} (h : wq_I nv F X k o) : ∀ v, v < nv → o v = -1 ∨ o v = 0 ∨ o v = 1 := by
  intro v hv
  rw [h v hv]
  split
  · rcases Nat.mod_two_eq_zero_or_one (X / 2 ^ (v - F)) with e | e
    · rw [e]; exact Or.inr (Or.inl rfl)
    · rw [e]; exact Or.inr (Or.inr rfl)
  · exact Or.inl rfl
theorem wq_e {nv F X N : Nat} {o : Nat → Int32} (h : wq_I nv F X N o) (hF : F + N ≤ nv) {lit st : Nat → Nat} {ch : Nat → List Nat} {r : Int32} {a : Nat → Nat} (hp : sv_P nv lit st ch (sv_Q nv o) r a) : sv_P nv lit st ch (wyQ F N X) r a := by
  refine sv_Pc (fun b hb => ?_) hp
  constructor
  · intro q k hk
    have q1 := q (F + k) (by omega)
    rw [h (F + k) (by omega), if_pos (by omega), show F + k - F = k by omega] at q1
    have hb1 := (hb.2 (F + k) (by omega)).2
    have hne : ¬ nI (X / 2 ^ k % 2) = -1 := fun z => absurd (nI_pos (n := X / 2 ^ k % 2) (by omega)) (by rw [z]; decide)
    exact ((nI_eq (by omega) (by omega)).mp (q1.resolve_left hne)).symm
  · intro q v hv
    rw [h v hv]
    split
    · rename_i hc
      have := q (v - F) (by omega)
      rw [show F + (v - F) = v by omega] at this
      exact Or.inr (by rw [this])
    · exact Or.inl rfl
def cl_m (lit : Nat → Nat) (us : Nat) : Nat → Nat
  | 0 => 0
  | j + 1 => max (cl_m lit us j) (lit (us + j) / 2 + 1)
def cl_v (lit : Nat → Nat) (us dr : Nat) : Nat := if cl_m lit us dr = 0 then 16 else cl_m lit us dr - 1
theorem cl_le {a m : Nat} (ha : a < 2 ^ 31) (hm : m < 2 ^ 31) : nI a ≤ sx m ↔ a + 1 ≤ m := by
  cases m with
  | zero =>
    constructor
    · intro h
      exact absurd (show nI a ≤ -1 from h) (by rw [Int32.le_iff_toInt_le, nI_toInt ha]; simp; omega)
    · intro h; omega
  | succ m => show nI a ≤ nI m ↔ _; rw [nI_leI ha (by omega)]; omega
theorem cl_ml {lit : Nat → Nat} {us j : Nat} (h : ∀ k, us ≤ k → k < us + j → lit k < 32) : cl_m lit us j ≤ 16 := by
  induction j with
  | zero => simp [cl_m]
  | succ j ih =>
    have := ih (fun k h1 h2 => h k h1 (by omega))
    have := h (us + j) (by omega) (by omega)
    simp only [cl_m]
    omega
theorem cl_m1 {m : Nat} (hm : m < 2 ^ 31) : sx m = -1 ↔ m = 0 := by
  cases m with
  | zero => exact ⟨fun _ => rfl, fun _ => rfl⟩
  | succ m => exact ⟨fun h => absurd (nI_pos (n := m) (by omega)) (by rw [show nI m = -1 from h]; decide), fun h => by omega⟩
set_option maxHeartbeats 4000000 in
set_option maxRecDepth 100000 in
theorem k_M_ways (l : Launch) (dC : Nat → ClassId) (dI : Nat → Nat → Nat) (tI sz : Nat) (g0 aL aS aF aN aA aO aV aT : Nat) (kL kS kF kN kO kV : ClassId) (lf sf ff nf of vf : Nat → Int32) (nv nc us dr as th : Nat) (co la bl : Int32) (lit st vv0 : Nat → Nat) (ch : Nat → List Nat) (hnv : nv ≤ 16) (hch : ∀ v, v < nv → lm_ch nf (ff v) (ch v) ∧ lm_C lf sf lit st (ch v)) (h16 : ff 16 = -1 ↔ ch 16 = []) (hdp : se_D nv lit st ch) (hV0 : sv_V vf vv0) (x y : Int32) : Met l yM_ways (Cond.code yM_ways cM_ways 6 (some .int) :: GG) (lvr 2 0 0) (va_Pc [.ref g0, .int x, .int y] (wPre dC dI [(kL, .int), (kS, .int), (kF, .int), (kN, .int), (kO, .int), (kV, .int)] [(g0, .inr (2, [.int co, .int (nI nv), .int (nI nc), .ref aL, .int (nI us), .ref aS, .int (nI dr), .ref aF, .ref aN, .ref aA, .int (nI as), .ref aO, .ref aV, .int la, .int bl, .ref aT, .int (nI th)])), (aL, .inl (kL, 4000, .inl lf)), (aS, .inl (kS, 501, .inl sf)), (aF, .inl (kF, 17, .inl ff)), (aN, .inl (kN, 500, .inl nf)), (aO, .inl (kO, 16, .inl of)), (aV, .inl (kV, 16, .inl vf))] sz tI)) (va_Qi (fun (r : Int32) (u : (Nat → Int32) × (Nat → Int32) × (Nat → Nat) × Int32) => sv_V u.2.1 u.2.2.1 ∧ ((u.2.2.2 = 1 ∧ ¬ (∃ N, N ≤ 8 ∧ y = nI N)) ∨ (u.2.2.2 = 2 ∧ (∃ N, N ≤ 8 ∧ y = nI N) ∧ ¬ (∃ F N, N ≤ 8 ∧ y = nI N ∧ x = nI F ∧ F + N ≤ nv)) ∨ (u.2.2.2 = 0 ∧ ∃ F N, N ≤ 8 ∧ y = nI N ∧ x = nI F ∧ F + N ≤ nv ∧ r = nI (ls_cnt (wyB nv lit st ch F N) (2 ^ N))))) (fun u t => wB dC dI [(kL, .int), (kS, .int), (kF, .int), (kN, .int), (kO, .int), (kV, .int)] (va_A [(g0, .inr (2, [.int co, .int (nI nv), .int (nI nc), .ref aL, .int (nI us), .ref aS, .int (nI dr), .ref aF, .ref aN, .ref aA, .int (nI as), .ref aO, .ref aV, .int la, .int bl, .ref aT, .int (nI th)])), (aL, .inl (kL, 4000, .inl lf)), (aS, .inl (kS, 501, .inl sf)), (aF, .inl (kF, 17, .inl ff)), (aN, .inl (kN, 500, .inl nf)), (aO, .inl (kO, 16, .inl of)), (aV, .inl (kV, 16, .inl vf))] sz) [(g0, .inr (2, [.int u.2.2.2, .int (nI nv), .int (nI nc), .ref aL, .int (nI us), .ref aS, .int (nI dr), .ref aF, .ref aN, .ref aA, .int (nI as), .ref aO, .ref aV, .int la, .int bl, .ref aT, .int (nI th)])), (aL, .inl (kL, 4000, .inl lf)), (aS, .inl (kS, 501, .inl sf)), (aF, .inl (kF, 17, .inl ff)), (aN, .inl (kN, 500, .inl nf)), (aO, .inl (kO, 16, .inl u.1)), (aV, .inl (kV, 16, .inl u.2.1))] t) (va_A [(g0, .inr (2, [.int co, .int (nI nv), .int (nI nc), .ref aL, .int (nI us), .ref aS, .int (nI dr), .ref aF, .ref aN, .ref aA, .int (nI as), .ref aO, .ref aV, .int la, .int bl, .ref aT, .int (nI th)])), (aL, .inl (kL, 4000, .inl lf)), (aS, .inl (kS, 501, .inl sf)), (aF, .inl (kF, 17, .inl ff)), (aN, .inl (kN, 500, .inl nf)), (aO, .inl (kO, 16, .inl of)), (aV, .inl (kV, 16, .inl vf))] sz)) 0 0 (va_A [(g0, .inr (2, [.int co, .int (nI nv), .int (nI nc), .ref aL, .int (nI us), .ref aS, .int (nI dr), .ref aF, .ref aN, .ref aA, .int (nI as), .ref aO, .ref aV, .int la, .int bl, .ref aT, .int (nI th)])), (aL, .inl (kL, 4000, .inl lf)), (aS, .inl (kS, 501, .inl sf)), (aF, .inl (kF, 17, .inl ff)), (aN, .inl (kN, 500, .inl nf)), (aO, .inl (kO, 16, .inl of)), (aV, .inl (kV, 16, .inl vf))] sz) := by
  refine Met.ofW (cc := cM_ways) (maxL := 6) (ret := (some .int)) (by decide) rfl ?_
  intro p e s m args below meth c s₁ B hml hv
  obtain ⟨rfl, hsz, hP, hK, hD0, hZ, hX⟩ := hv
  have hx := B.exec
  have hb := B.bytes
  have hr := B.returns
  have hts : ∀ w ∈ GG, w.before ([.ref g0, .int x, .int y] : List Value).toArray s = true := fun w h => atoms_spec (ws := _ :: GG) B.pre w (List.mem_cons_of_mem _ h)
  have hown : s.vm.findClass RM = some m.cls := findClass_of_methodNamed B.named
  have hlocks := B.notSynchronized
  subst hsz
  have hD := hD0.self (sz := s.heap.size)
  generalize hAe : va_A [(g0, .inr (2, [.int co, .int (nI nv), .int (nI nc), .ref aL, .int (nI us), .ref aS, .int (nI dr), .ref aF, .ref aN, .ref aA, .int (nI as), .ref aO, .ref aV, .int la, .int bl, .ref aT, .int (nI th)])), (aL, .inl (kL, 4000, .inl lf)), (aS, .inl (kS, 501, .inl sf)), (aF, .inl (kF, 17, .inl ff)), (aN, .inl (kN, 500, .inl nf)), (aO, .inl (kO, 16, .inl of)), (aV, .inl (kV, 16, .inl vf))] s.heap.size = A at hD hZ ⊢
  have hA : ∀ q : Nat, s.heap.size ≤ q → A q := fun q h => by rw [← hAe]; exact Or.inr h
  have hS : va_S A s.heap s.heap [] := va_S.rf
  have hl := lv_entry ([.ref g0, .int x, .int y]) (n := 6) (Nat.le_of_ble_eq_true rfl)
  rw [lg_entry_eq]
  generalize (lg_sl ([.ref g0, .int x, .int y]) ++ List.replicate (6 - (lg_sl ([.ref g0, .int x, .int y])).length) Slot.unset).toArray = ls at hl ⊢
  have hl : lv_has ls 6 [(0, .ref g0), (1, .int x), (2, .int y)] := hl
  have SF : CallFix p m c cM_ways 6 s ([.ref g0, .int x, .int y] : List Value).toArray GG RM := ⟨hx, hb, hml, hown, hts⟩
  skip
  have hP : va_P (dC, dI) vwCl [(g0, .inr (2, [.int co, .int (nI nv), .int (nI nc), .ref aL, .int (nI us), .ref aS, .int (nI dr), .ref aF, .ref aN, .ref aA, .int (nI as), .ref aO, .ref aV, .int la, .int bl, .ref aT, .int (nI th)])), (aL, .inl (kL, 4000, .inl lf)), (aS, .inl (kS, 501, .inl sf)), (aF, .inl (kF, 17, .inl ff)), (aN, .inl (kN, 500, .inl nf)), (aO, .inl (kO, 16, .inl of)), (aV, .inl (kV, 16, .inl vf))] s.heap := hP
  refine lv_aload_n hx hb dM_ways_0 rfl (lv_at hl 0 rfl) ?_
  refine lv_iload_n hx hb dM_ways_1 rfl (lv_at hl 2 rfl) ?_
  refine lv_if_lt (tgt := 11) hx hb dM_ways_2 (by decide) (fun c1 => ?_) (fun c1 => ?_)
  · refine lv_iconst (v := 1) hx hb dM_ways_11 (by decide) ?_
    refine lv_goto (tgt := 34) hx hb dM_ways_12 (by decide) ?_
    refine va_put (D := (dC, dI)) (ci := 2) (v := .int 1) (ty := .int) (C := RM) (T := TM) (N := 17) hx hb hts lyM tyM tyM_ok nmM hown hK hP hD hS 0 rfl rfl 0 (by decide) (hts _ fl_M_37) (fun _ h9 => h9) rfl (by decide +kernel) rfl rfl (Nat.le_of_ble_eq_true rfl) dM_ways_34 (fun H locs hP hD hS => ?_)
    have hP : va_P (dC, dI) vwCl [(g0, .inr (2, [.int 1, .int (nI nv), .int (nI nc), .ref aL, .int (nI us), .ref aS, .int (nI dr), .ref aF, .ref aN, .ref aA, .int (nI as), .ref aO, .ref aV, .int la, .int bl, .ref aT, .int (nI th)])), (aL, .inl (kL, 4000, .inl lf)), (aS, .inl (kS, 501, .inl sf)), (aF, .inl (kF, 17, .inl ff)), (aN, .inl (kN, 500, .inl nf)), (aO, .inl (kO, 16, .inl of)), (aV, .inl (kV, 16, .inl vf))] H := hP
    have hD : va_D A [(g0, .inr (2, [.int 1, .int (nI nv), .int (nI nc), .ref aL, .int (nI us), .ref aS, .int (nI dr), .ref aF, .ref aN, .ref aA, .int (nI as), .ref aO, .ref aV, .int la, .int bl, .ref aT, .int (nI th)])), (aL, .inl (kL, 4000, .inl lf)), (aS, .inl (kS, 501, .inl sf)), (aF, .inl (kF, 17, .inl ff)), (aN, .inl (kN, 500, .inl nf)), (aO, .inl (kO, 16, .inl of)), (aV, .inl (kV, 16, .inl vf))] := hD
    refine lv_aload_n hx hb dM_ways_37 rfl (lv_at hl 0 rfl) ?_
    refine va_get (D := (dC, dI)) (ci := 2) (v := .int 1) (C := RM) (T := TM) (N := 17) hx hb hts lyM hown hK hP 0 rfl rfl 0 (by decide) (hts _ fl_M_37) (fun _ h9 => h9) rfl dM_ways_38 ?_
    refine lv_if_le (tgt := 46) hx hb dM_ways_41 (by decide) (fun c9 => ?_) (fun c9 => ?_)
    · exact absurd c9 (by decide)
    · refine lv_iconst (v := 0) hx hb dM_ways_44 (by decide) ?_
      exact (W.iret (v := 0) hx hb hr (fun t ht hW => ⟨⟨0, (of, vf, vv0, 1), rfl, ⟨hV0, Or.inl ⟨rfl, fun ⟨N, hN, e⟩ => absurd c1 (by rw [e]; exact nI_pos (by omega))⟩⟩, by rw [ht]; exact hP, va_K.moved hW.alike hK, hD⟩, hS.F ht⟩) hS.2.2 dM_ways_45)
  · obtain ⟨N, hN31, eN⟩ := nI_of c1
    subst eN
    refine lv_iload_n hx hb dM_ways_5 rfl (lv_at hl 2 rfl) ?_
    refine lv_bipush (v := 8) hx hb dM_ways_6 (by decide) ?_
    refine lv_icmp_le (tgt := 15) hx hb dM_ways_8 (by decide) (fun c2 => ?_) (fun c2 => ?_)
    · have c2 : N ≤ 8 := (nI_leI (a := N) (b := 8) (by omega) (by omega)).mp c2
      refine lv_iload_n hx hb dM_ways_15 rfl (lv_at hl 1 rfl) ?_
      refine lv_if_lt (tgt := 29) hx hb dM_ways_16 (by decide) (fun c3 => ?_) (fun c3 => ?_)
      · refine lv_iconst (v := 2) hx hb dM_ways_29 (by decide) ?_
        refine lv_goto (tgt := 34) hx hb dM_ways_30 (by decide) ?_
        refine va_put (D := (dC, dI)) (ci := 2) (v := .int 2) (ty := .int) (C := RM) (T := TM) (N := 17) hx hb hts lyM tyM tyM_ok nmM hown hK hP hD hS 0 rfl rfl 0 (by decide) (hts _ fl_M_37) (fun _ h9 => h9) rfl (by decide +kernel) rfl rfl (Nat.le_of_ble_eq_true rfl) dM_ways_34 (fun H locs hP hD hS => ?_)
        have hP : va_P (dC, dI) vwCl [(g0, .inr (2, [.int 2, .int (nI nv), .int (nI nc), .ref aL, .int (nI us), .ref aS, .int (nI dr), .ref aF, .ref aN, .ref aA, .int (nI as), .ref aO, .ref aV, .int la, .int bl, .ref aT, .int (nI th)])), (aL, .inl (kL, 4000, .inl lf)), (aS, .inl (kS, 501, .inl sf)), (aF, .inl (kF, 17, .inl ff)), (aN, .inl (kN, 500, .inl nf)), (aO, .inl (kO, 16, .inl of)), (aV, .inl (kV, 16, .inl vf))] H := hP
        have hD : va_D A [(g0, .inr (2, [.int 2, .int (nI nv), .int (nI nc), .ref aL, .int (nI us), .ref aS, .int (nI dr), .ref aF, .ref aN, .ref aA, .int (nI as), .ref aO, .ref aV, .int la, .int bl, .ref aT, .int (nI th)])), (aL, .inl (kL, 4000, .inl lf)), (aS, .inl (kS, 501, .inl sf)), (aF, .inl (kF, 17, .inl ff)), (aN, .inl (kN, 500, .inl nf)), (aO, .inl (kO, 16, .inl of)), (aV, .inl (kV, 16, .inl vf))] := hD
        refine lv_aload_n hx hb dM_ways_37 rfl (lv_at hl 0 rfl) ?_
        refine va_get (D := (dC, dI)) (ci := 2) (v := .int 2) (C := RM) (T := TM) (N := 17) hx hb hts lyM hown hK hP 0 rfl rfl 0 (by decide) (hts _ fl_M_37) (fun _ h9 => h9) rfl dM_ways_38 ?_
        refine lv_if_le (tgt := 46) hx hb dM_ways_41 (by decide) (fun c9 => ?_) (fun c9 => ?_)
        · exact absurd c9 (by decide)
        · refine lv_iconst (v := 0) hx hb dM_ways_44 (by decide) ?_
          exact (W.iret (v := 0) hx hb hr (fun t ht hW => ⟨⟨0, (of, vf, vv0, 2), rfl, ⟨hV0, Or.inr (Or.inl ⟨rfl, ⟨N, c2, rfl⟩, fun ⟨F, N2, h1, h2, h3, h4⟩ => absurd c3 (by rw [h3]; exact nI_pos (by omega))⟩)⟩, by rw [ht]; exact hP, va_K.moved hW.alike hK, hD⟩, hS.F ht⟩) hS.2.2 dM_ways_45)
      · obtain ⟨F, hF31, eF⟩ := nI_of c3
        subst eF
        refine lv_iload_n hx hb dM_ways_19 rfl (lv_at hl 1 rfl) ?_
        refine lv_aload_n hx hb dM_ways_20 rfl (lv_at hl 0 rfl) ?_
        refine va_get (D := (dC, dI)) (ci := 2) (v := .int (nI nv)) (C := RM) (T := TM) (N := 17) hx hb hts lyM hown hK hP 0 rfl rfl 1 (by decide) (hts _ fl_M_41) (fun _ h9 => h9) rfl dM_ways_21 ?_
        refine lv_iload_n hx hb dM_ways_24 rfl (lv_at hl 2 rfl) ?_
        refine lv_isub hx hb dM_ways_25 ?_
        refine lv_icmp_le (tgt := 33) hx hb dM_ways_26 (by decide) (fun c4 => ?_) (fun c4 => ?_)
        · have hFN : F + N ≤ nv := (wy_le (by omega) (by omega) (by omega)).mp c4
          have hp2 : 2 ^ N ≤ 256 := Nat.le_trans (Nat.pow_le_pow_right (by decide) c2) (by decide)
          refine lv_iconst (v := 0) hx hb dM_ways_33 (by decide) ?_
          refine va_put (D := (dC, dI)) (ci := 2) (v := .int 0) (ty := .int) (C := RM) (T := TM) (N := 17) hx hb hts lyM tyM tyM_ok nmM hown hK hP hD hS 0 rfl rfl 0 (by decide) (hts _ fl_M_37) (fun _ h9 => h9) rfl (by decide +kernel) rfl rfl (Nat.le_of_ble_eq_true rfl) dM_ways_34 (fun H locs hP hD hS => ?_)
          have hP : va_P (dC, dI) vwCl [(g0, .inr (2, [.int 0, .int (nI nv), .int (nI nc), .ref aL, .int (nI us), .ref aS, .int (nI dr), .ref aF, .ref aN, .ref aA, .int (nI as), .ref aO, .ref aV, .int la, .int bl, .ref aT, .int (nI th)])), (aL, .inl (kL, 4000, .inl lf)), (aS, .inl (kS, 501, .inl sf)), (aF, .inl (kF, 17, .inl ff)), (aN, .inl (kN, 500, .inl nf)), (aO, .inl (kO, 16, .inl of)), (aV, .inl (kV, 16, .inl vf))] H := hP
          have hD : va_D A [(g0, .inr (2, [.int 0, .int (nI nv), .int (nI nc), .ref aL, .int (nI us), .ref aS, .int (nI dr), .ref aF, .ref aN, .ref aA, .int (nI as), .ref aO, .ref aV, .int la, .int bl, .ref aT, .int (nI th)])), (aL, .inl (kL, 4000, .inl lf)), (aS, .inl (kS, 501, .inl sf)), (aF, .inl (kF, 17, .inl ff)), (aN, .inl (kN, 500, .inl nf)), (aO, .inl (kO, 16, .inl of)), (aV, .inl (kV, 16, .inl vf))] := hD
          refine lv_aload_n hx hb dM_ways_37 rfl (lv_at hl 0 rfl) ?_
          refine va_get (D := (dC, dI)) (ci := 2) (v := .int 0) (C := RM) (T := TM) (N := 17) hx hb hts lyM hown hK hP 0 rfl rfl 0 (by decide) (hts _ fl_M_37) (fun _ h9 => h9) rfl dM_ways_38 ?_
          refine lv_if_le (tgt := 46) hx hb dM_ways_41 (by decide) (fun c9 => ?_) (fun c9 => ?_)
          · refine lv_iconst (v := 0) hx hb dM_ways_46 (by decide) ?_
            refine lv_istore_n (lv' := [(3, .int 0), (0, .ref g0), (1, .int (nI F)), (2, .int (nI N))]) hx hb dM_ways_47 rfl hl (by decide) rfl (fun ls hl => ?_)
            refine lv_iconst (v := 0) hx hb dM_ways_48 (by decide) ?_
            refine lv_istore (lv' := [(4, .int 0), (3, .int 0), (0, .ref g0), (1, .int (nI F)), (2, .int (nI N))]) hx hb dM_ways_49 hl (by decide) rfl (fun ls hl => ?_)
            refine lp_mu (α := Nat × (Nat → Int32) × (Nat → Int32) × (Nat → Nat)) (fun a_ => match a_ with | (X, o, v, vv) => 2 ^ N - X) (fun a_ H locs ls => match a_ with | (X, o, v, vv) => (X ≤ 2 ^ N ∧ sv_V v vv) ∧ va_P (dC, dI) vwCl [(g0, .inr (2, [.int 0, .int (nI nv), .int (nI nc), .ref aL, .int (nI us), .ref aS, .int (nI dr), .ref aF, .ref aN, .ref aA, .int (nI as), .ref aO, .ref aV, .int la, .int bl, .ref aT, .int (nI th)])), (aL, .inl (kL, 4000, .inl lf)), (aS, .inl (kS, 501, .inl sf)), (aF, .inl (kF, 17, .inl ff)), (aN, .inl (kN, 500, .inl nf)), (aO, .inl (kO, 16, .inl o)), (aV, .inl (kV, 16, .inl v))] H ∧ va_D A [(g0, .inr (2, [.int 0, .int (nI nv), .int (nI nc), .ref aL, .int (nI us), .ref aS, .int (nI dr), .ref aF, .ref aN, .ref aA, .int (nI as), .ref aO, .ref aV, .int la, .int bl, .ref aT, .int (nI th)])), (aL, .inl (kL, 4000, .inl lf)), (aS, .inl (kS, 501, .inl sf)), (aF, .inl (kF, 17, .inl ff)), (aN, .inl (kN, 500, .inl nf)), (aO, .inl (kO, 16, .inl o)), (aV, .inl (kV, 16, .inl v))] ∧ va_S A s.heap H locs ∧ lv_has ls 6 [(0, .ref g0), (1, .int (nI F)), (2, .int (nI N)), (3, .int (nI (ls_cnt (wyB nv lit st ch F N) X))), (4, .int (nI X))]) ?_ (0, of, vf, vv0) ⟨⟨Nat.zero_le _, hV0⟩, hP, hD, hS, lv_sub hl [2, 3, 4, 1, 0] rfl⟩
            intro a_ H locs ls hI ih
            obtain ⟨X, o, v, vv⟩ := a_
            obtain ⟨hI, hP, hD, hS, hl⟩ := hI
            have hI : X ≤ 2 ^ N ∧ sv_V v vv := hI
            have hP : va_P (dC, dI) vwCl [(g0, .inr (2, [.int 0, .int (nI nv), .int (nI nc), .ref aL, .int (nI us), .ref aS, .int (nI dr), .ref aF, .ref aN, .ref aA, .int (nI as), .ref aO, .ref aV, .int la, .int bl, .ref aT, .int (nI th)])), (aL, .inl (kL, 4000, .inl lf)), (aS, .inl (kS, 501, .inl sf)), (aF, .inl (kF, 17, .inl ff)), (aN, .inl (kN, 500, .inl nf)), (aO, .inl (kO, 16, .inl o)), (aV, .inl (kV, 16, .inl v))] H := hP
            have hD : va_D A [(g0, .inr (2, [.int 0, .int (nI nv), .int (nI nc), .ref aL, .int (nI us), .ref aS, .int (nI dr), .ref aF, .ref aN, .ref aA, .int (nI as), .ref aO, .ref aV, .int la, .int bl, .ref aT, .int (nI th)])), (aL, .inl (kL, 4000, .inl lf)), (aS, .inl (kS, 501, .inl sf)), (aF, .inl (kF, 17, .inl ff)), (aN, .inl (kN, 500, .inl nf)), (aO, .inl (kO, 16, .inl o)), (aV, .inl (kV, 16, .inl v))] := hD
            have hl : lv_has ls 6 [(0, .ref g0), (1, .int (nI F)), (2, .int (nI N)), (3, .int (nI (ls_cnt (wyB nv lit st ch F N) X))), (4, .int (nI X))] := hl
            obtain ⟨hX2, hVV⟩ := hI
            have hcn := ls_cnt_le (wyB nv lit st ch F N) X
            refine lv_iload hx hb dM_ways_51 (lv_at hl 4 rfl) ?_
            refine lv_iconst (v := 1) hx hb dM_ways_53 (by decide) ?_
            refine lv_iload_n hx hb dM_ways_54 rfl (lv_at hl 2 rfl) ?_
            refine lv_ishl hx hb dM_ways_55 ?_
            refine ls_topi (y := nI (2 ^ N)) (by have q := ls_shl (n := 1) (k := N) (by omega) (by rw [Nat.one_mul]; omega); rw [Nat.one_mul] at q; exact q) ?_
            refine lv_icmp_ge (tgt := 115) hx hb dM_ways_56 (by decide) (fun c6 => ?_) (fun c6 => ?_)
            · have c6 : (2 ^ N) ≤ X := (nI_leI (a := (2 ^ N)) (b := X) (by omega) (by omega)).mp c6
              refine lv_iload_n hx hb dM_ways_115 rfl (lv_at hl 3 rfl) ?_
              exact (W.iret (v := nI (ls_cnt (wyB nv lit st ch F N) X)) hx hb hr (fun t ht hW => ⟨⟨nI (ls_cnt (wyB nv lit st ch F N) X), (o, v, vv, 0), rfl, ⟨hVV, Or.inr (Or.inr ⟨rfl, F, N, c2, rfl, rfl, hFN, by rw [show 2 ^ N = X by omega]⟩)⟩, by rw [ht]; exact hP, va_K.moved hW.alike hK, hD⟩, hS.F ht⟩) hS.2.2 dM_ways_116)
            · have c6 : X < (2 ^ N) := Nat.lt_of_not_le (fun q => c6 ((nI_leI (a := (2 ^ N)) (b := X) (by omega) (by omega)).mpr q))
              refine lv_aload_n hx hb dM_ways_59 rfl (lv_at hl 0 rfl) ?_
              have hFc := va_free (wc := [(g0, .inr (2, [.int 0, .int (nI nv), .int (nI nc), .ref aL, .int (nI us), .ref aS, .int (nI dr), .ref aF, .ref aN, .ref aA, .int (nI as), .ref aO, .ref aV, .int la, .int bl, .ref aT, .int (nI th)])), (aO, .inl (kO, 16, .inl o))]) hD hS hA [0, 5] rfl
              refine wc_v (wc_V (As := []) (rest := []) (n := 0) SF (k_M_free l dC dI tI _ g0 aL aS aF aN aA aO aV aT kO o nv nc us dr as th 0 la bl hnv) ml_M_69 im_M_free se_M_free in_M co_M_free (by decide +kernel) rfl rfl rfl ⟨Nat.le_of_ble_eq_true rfl, Nat.le_of_ble_eq_true rfl⟩ (va_recv (hK.sub (tys' := []) [] rfl) (hP.sub (ws' := [(g0, .inr (2, [.int 0, .int (nI nv), .int (nI nc), .ref aL, .int (nI us), .ref aS, .int (nI dr), .ref aF, .ref aN, .ref aA, .int (nI as), .ref aO, .ref aV, .int la, .int bl, .ref aT, .int (nI th)])), (aO, .inl (kO, 16, .inl o))]) [0, 5] rfl) (ci := 2) (q0 := 0) rfl rfl) (hP.sub [0, 5] rfl) (hD.sub [0, 5] (by decide) rfl) (hK.sub [4] rfl) hZ hX hS hFc rfl hl.1 (Nat.le_of_ble_eq_true rfl) dM_ways_60 ⟨Nat.le_of_ble_eq_true rfl, Nat.le_of_ble_eq_true rfl⟩) hP hD hS hFc [0, 5] [1, 2, 3, 4, 6] (wr := [(aL, .inl (kL, 4000, .inl lf)), (aS, .inl (kS, 501, .inl sf)), (aF, .inl (kF, 17, .inl ff)), (aN, .inl (kN, 500, .inl nf)), (aV, .inl (kV, 16, .inl v))]) rfl rfl rfl (by decide) (fun o1 H locs ho1 hP hD hS => ?_)
              have hP : va_P (dC, dI) vwCl [(g0, .inr (2, [.int 0, .int (nI nv), .int (nI nc), .ref aL, .int (nI us), .ref aS, .int (nI dr), .ref aF, .ref aN, .ref aA, .int (nI as), .ref aO, .ref aV, .int la, .int bl, .ref aT, .int (nI th)])), (aL, .inl (kL, 4000, .inl lf)), (aS, .inl (kS, 501, .inl sf)), (aF, .inl (kF, 17, .inl ff)), (aN, .inl (kN, 500, .inl nf)), (aO, .inl (kO, 16, .inl o1)), (aV, .inl (kV, 16, .inl v))] H := hP.sub [5, 0, 1, 2, 3, 6, 4] rfl
              have hD : va_D A [(g0, .inr (2, [.int 0, .int (nI nv), .int (nI nc), .ref aL, .int (nI us), .ref aS, .int (nI dr), .ref aF, .ref aN, .ref aA, .int (nI as), .ref aO, .ref aV, .int la, .int bl, .ref aT, .int (nI th)])), (aL, .inl (kL, 4000, .inl lf)), (aS, .inl (kS, 501, .inl sf)), (aF, .inl (kF, 17, .inl ff)), (aN, .inl (kN, 500, .inl nf)), (aO, .inl (kO, 16, .inl o1)), (aV, .inl (kV, 16, .inl v))] := hD.sub [5, 0, 1, 2, 3, 6, 4] (by decide) rfl
              refine lv_iconst (v := 0) hx hb dM_ways_63 (by decide) ?_
              refine lv_istore (lv' := [(5, .int 0), (0, .ref g0), (1, .int (nI F)), (2, .int (nI N)), (3, .int (nI (ls_cnt (wyB nv lit st ch F N) X))), (4, .int (nI X))]) hx hb dM_ways_64 hl (by decide) rfl (fun ls hl => ?_)
              refine lp_mu (α := Nat × (Nat → Int32)) (fun a_ => match a_ with | (k, oo) => N - k) (fun a_ H locs ls => match a_ with | (k, oo) => (k ≤ N ∧ wq_I nv F X k oo) ∧ va_P (dC, dI) vwCl [(g0, .inr (2, [.int 0, .int (nI nv), .int (nI nc), .ref aL, .int (nI us), .ref aS, .int (nI dr), .ref aF, .ref aN, .ref aA, .int (nI as), .ref aO, .ref aV, .int la, .int bl, .ref aT, .int (nI th)])), (aL, .inl (kL, 4000, .inl lf)), (aS, .inl (kS, 501, .inl sf)), (aF, .inl (kF, 17, .inl ff)), (aN, .inl (kN, 500, .inl nf)), (aO, .inl (kO, 16, .inl oo)), (aV, .inl (kV, 16, .inl v))] H ∧ va_D A [(g0, .inr (2, [.int 0, .int (nI nv), .int (nI nc), .ref aL, .int (nI us), .ref aS, .int (nI dr), .ref aF, .ref aN, .ref aA, .int (nI as), .ref aO, .ref aV, .int la, .int bl, .ref aT, .int (nI th)])), (aL, .inl (kL, 4000, .inl lf)), (aS, .inl (kS, 501, .inl sf)), (aF, .inl (kF, 17, .inl ff)), (aN, .inl (kN, 500, .inl nf)), (aO, .inl (kO, 16, .inl oo)), (aV, .inl (kV, 16, .inl v))] ∧ va_S A s.heap H locs ∧ lv_has ls 6 [(0, .ref g0), (1, .int (nI F)), (2, .int (nI N)), (3, .int (nI (ls_cnt (wyB nv lit st ch F N) X))), (4, .int (nI X)), (5, .int (nI k))]) ?_ (0, o1) ⟨⟨Nat.zero_le _, fun v hv => by rw [if_neg (by omega)]; exact ho1 v hv⟩, hP, hD, hS, lv_sub hl [1, 2, 3, 4, 5, 0] rfl⟩
              intro a_ H locs ls hJ ih2
              obtain ⟨k, oo⟩ := a_
              obtain ⟨hJ, hP, hD, hS, hl⟩ := hJ
              have hJ : k ≤ N ∧ wq_I nv F X k oo := hJ
              have hP : va_P (dC, dI) vwCl [(g0, .inr (2, [.int 0, .int (nI nv), .int (nI nc), .ref aL, .int (nI us), .ref aS, .int (nI dr), .ref aF, .ref aN, .ref aA, .int (nI as), .ref aO, .ref aV, .int la, .int bl, .ref aT, .int (nI th)])), (aL, .inl (kL, 4000, .inl lf)), (aS, .inl (kS, 501, .inl sf)), (aF, .inl (kF, 17, .inl ff)), (aN, .inl (kN, 500, .inl nf)), (aO, .inl (kO, 16, .inl oo)), (aV, .inl (kV, 16, .inl v))] H := hP
              have hD : va_D A [(g0, .inr (2, [.int 0, .int (nI nv), .int (nI nc), .ref aL, .int (nI us), .ref aS, .int (nI dr), .ref aF, .ref aN, .ref aA, .int (nI as), .ref aO, .ref aV, .int la, .int bl, .ref aT, .int (nI th)])), (aL, .inl (kL, 4000, .inl lf)), (aS, .inl (kS, 501, .inl sf)), (aF, .inl (kF, 17, .inl ff)), (aN, .inl (kN, 500, .inl nf)), (aO, .inl (kO, 16, .inl oo)), (aV, .inl (kV, 16, .inl v))] := hD
              have hl : lv_has ls 6 [(0, .ref g0), (1, .int (nI F)), (2, .int (nI N)), (3, .int (nI (ls_cnt (wyB nv lit st ch F N) X))), (4, .int (nI X)), (5, .int (nI k))] := hl
              obtain ⟨hk, hwq⟩ := hJ
              refine lv_iload hx hb dM_ways_66 (lv_at hl 5 rfl) ?_
              refine lv_iload_n hx hb dM_ways_68 rfl (lv_at hl 2 rfl) ?_
              refine lv_icmp_ge (tgt := 94) hx hb dM_ways_69 (by decide) (fun c7 => ?_) (fun c7 => ?_)
              · have c7 : N ≤ k := (nI_leI (a := N) (b := k) (by omega) (by omega)).mp c7
                have ek : k = N := by omega
                rw [ek] at hwq
                refine lv_aload_n hx hb dM_ways_94 rfl (lv_at hl 0 rfl) ?_
                have hFc := va_free (wc := [(g0, .inr (2, [.int 0, .int (nI nv), .int (nI nc), .ref aL, .int (nI us), .ref aS, .int (nI dr), .ref aF, .ref aN, .ref aA, .int (nI as), .ref aO, .ref aV, .int la, .int bl, .ref aT, .int (nI th)])), (aL, .inl (kL, 4000, .inl lf)), (aS, .inl (kS, 501, .inl sf)), (aF, .inl (kF, 17, .inl ff)), (aN, .inl (kN, 500, .inl nf)), (aO, .inl (kO, 16, .inl oo)), (aV, .inl (kV, 16, .inl v))]) hD hS hA [0, 1, 2, 3, 4, 5, 6] rfl
                refine wc_i (wc_V (As := []) (rest := []) (n := 0) SF (k_M_search l dC dI tI _ g0 aL aS aF aN aA aO aV aT kL kS kF kN kO kV lf sf ff nf oo v nv nc us dr as th 0 la bl lit st vv ch hnv hch h16 hdp (wq_v hwq) hVV) ml_M_75 im_M_search se_M_search in_M co_M_search (by decide +kernel) rfl rfl rfl ⟨Nat.le_of_ble_eq_true rfl, Nat.le_of_ble_eq_true rfl⟩ (va_recv (hK.sub (tys' := []) [] rfl) (hP.sub (ws' := [(g0, .inr (2, [.int 0, .int (nI nv), .int (nI nc), .ref aL, .int (nI us), .ref aS, .int (nI dr), .ref aF, .ref aN, .ref aA, .int (nI as), .ref aO, .ref aV, .int la, .int bl, .ref aT, .int (nI th)])), (aL, .inl (kL, 4000, .inl lf)), (aS, .inl (kS, 501, .inl sf)), (aF, .inl (kF, 17, .inl ff)), (aN, .inl (kN, 500, .inl nf)), (aO, .inl (kO, 16, .inl oo)), (aV, .inl (kV, 16, .inl v))]) [0, 1, 2, 3, 4, 5, 6] rfl) (ci := 2) (q0 := 0) rfl rfl) (hP.sub [0, 1, 2, 3, 4, 5, 6] rfl) (hD.sub [0, 1, 2, 3, 4, 5, 6] (by decide) rfl) (hK.sub [0, 1, 2, 3, 4, 5] rfl) hZ hX hS hFc rfl hl.1 (Nat.le_of_ble_eq_true rfl) dM_ways_95 ⟨Nat.le_of_ble_eq_true rfl, Nat.le_of_ble_eq_true rfl⟩) hP hD hS hFc [0, 1, 2, 3, 4, 5, 6] [] (wr := []) rfl rfl rfl (by decide) (fun so u1 H locs hs1 hP hD hS => ?_)
                have hP : va_P (dC, dI) vwCl [(g0, .inr (2, [.int 0, .int (nI nv), .int (nI nc), .ref aL, .int (nI us), .ref aS, .int (nI dr), .ref aF, .ref aN, .ref aA, .int (nI as), .ref aO, .ref aV, .int la, .int bl, .ref aT, .int (nI th)])), (aL, .inl (kL, 4000, .inl lf)), (aS, .inl (kS, 501, .inl sf)), (aF, .inl (kF, 17, .inl ff)), (aN, .inl (kN, 500, .inl nf)), (aO, .inl (kO, 16, .inl oo)), (aV, .inl (kV, 16, .inl u1.1))] H := hP.sub [0, 1, 2, 3, 4, 5, 6] rfl
                have hD : va_D A [(g0, .inr (2, [.int 0, .int (nI nv), .int (nI nc), .ref aL, .int (nI us), .ref aS, .int (nI dr), .ref aF, .ref aN, .ref aA, .int (nI as), .ref aO, .ref aV, .int la, .int bl, .ref aT, .int (nI th)])), (aL, .inl (kL, 4000, .inl lf)), (aS, .inl (kS, 501, .inl sf)), (aF, .inl (kF, 17, .inl ff)), (aN, .inl (kN, 500, .inl nf)), (aO, .inl (kO, 16, .inl oo)), (aV, .inl (kV, 16, .inl u1.1))] := hD.sub [0, 1, 2, 3, 4, 5, 6] (by decide) rfl
                have hq1 := wq_e hwq hFN hs1.2
                refine lv_if_eq (tgt := 107) hx hb dM_ways_98 (by decide) (fun c8 => ?_) (fun c8 => ?_)
                · have hwb : wyB nv lit st ch F N X = false := by
                    rcases Bool.eq_false_or_eq_true (wyB nv lit st ch F N X) with q | q
                    · exact absurd (wyB_t.mp q) (sv_P0 hq1 c8)
                    · exact q
                  refine lv_iload_n hx hb dM_ways_107 rfl (lv_at hl 3 rfl) ?_
                  refine ls_topi (y := nI (ls_cnt (wyB nv lit st ch F N) (X + 1))) (by show _ = nI (ls_cnt _ X + _); rw [hwb]; rfl) ?_
                  refine lv_istore_n (lv' := [(3, .int (nI (ls_cnt (wyB nv lit st ch F N) (X + 1)))), (0, .ref g0), (1, .int (nI F)), (2, .int (nI N)), (4, .int (nI X)), (5, .int (nI k))]) hx hb dM_ways_108 rfl hl (by decide) rfl (fun ls hl => ?_)
                  refine lv_iinc (v := nI (X + 1)) (lv' := [(4, .int (nI (X + 1))), (3, .int (nI (ls_cnt (wyB nv lit st ch F N) (X + 1)))), (0, .ref g0), (1, .int (nI F)), (2, .int (nI N)), (5, .int (nI k))]) hx hb dM_ways_109 hl (k := 4) rfl (nI_1 _) (by decide) rfl (fun ls hl => ?_)
                  refine lv_goto (tgt := 51) hx hb dM_ways_112 (by decide) ?_
                  exact ih (X + 1, oo, u1.1, u1.2) _ _ _ (by show 2 ^ N - (X + 1) < 2 ^ N - X; omega) ⟨⟨by omega, hs1.1⟩, hP, hD, hS, lv_sub hl [2, 3, 4, 1, 0] rfl⟩
                · have hwb : wyB nv lit st ch F N X = true := wyB_t.mpr (sv_P1 hq1 c8).2
                  refine lv_iload_n hx hb dM_ways_101 rfl (lv_at hl 3 rfl) ?_
                  refine lv_iconst (v := 1) hx hb dM_ways_102 (by decide) ?_
                  refine lv_iadd hx hb dM_ways_103 ?_
                  refine ls_topi (y := nI (ls_cnt (wyB nv lit st ch F N) (X + 1))) (by show _ = nI (ls_cnt _ X + _); rw [hwb, nI_1]; rfl) ?_
                  refine lv_goto (tgt := 108) hx hb dM_ways_104 (by decide) ?_
                  refine lv_istore_n (lv' := [(3, .int (nI (ls_cnt (wyB nv lit st ch F N) (X + 1)))), (0, .ref g0), (1, .int (nI F)), (2, .int (nI N)), (4, .int (nI X)), (5, .int (nI k))]) hx hb dM_ways_108 rfl hl (by decide) rfl (fun ls hl => ?_)
                  refine lv_iinc (v := nI (X + 1)) (lv' := [(4, .int (nI (X + 1))), (3, .int (nI (ls_cnt (wyB nv lit st ch F N) (X + 1)))), (0, .ref g0), (1, .int (nI F)), (2, .int (nI N)), (5, .int (nI k))]) hx hb dM_ways_109 hl (k := 4) rfl (nI_1 _) (by decide) rfl (fun ls hl => ?_)
                  refine lv_goto (tgt := 51) hx hb dM_ways_112 (by decide) ?_
                  exact ih (X + 1, oo, u1.1, u1.2) _ _ _ (by show 2 ^ N - (X + 1) < 2 ^ N - X; omega) ⟨⟨by omega, hs1.1⟩, hP, hD, hS, lv_sub hl [2, 3, 4, 1, 0] rfl⟩
              · have c7 : k < N := Nat.lt_of_not_le (fun q => c7 ((nI_leI (a := N) (b := k) (by omega) (by omega)).mpr q))
                refine lv_aload_n hx hb dM_ways_72 rfl (lv_at hl 0 rfl) ?_
                refine va_get (D := (dC, dI)) (ci := 2) (v := .ref aO) (C := RM) (T := TM) (N := 17) hx hb hts lyM hown hK hP 0 rfl rfl 11 (by decide) (hts _ fl_M_25) (fun _ h9 => h9) rfl dM_ways_73 ?_
                refine lv_iload_n hx hb dM_ways_76 rfl (lv_at hl 1 rfl) ?_
                refine lv_iload hx hb dM_ways_77 (lv_at hl 5 rfl) ?_
                refine lv_iadd hx hb dM_ways_79 ?_
                refine ls_topi (y := nI (F + k)) (nI_add _ _) ?_
                refine lv_iload hx hb dM_ways_80 (lv_at hl 4 rfl) ?_
                refine lv_iload hx hb dM_ways_82 (lv_at hl 5 rfl) ?_
                refine lv_ishr hx hb dM_ways_84 ?_
                refine ls_topi (y := nI (X / 2 ^ k)) (ls_shr (by omega) (by omega)) ?_
                refine lv_iconst (v := 1) hx hb dM_ways_85 (by decide) ?_
                refine lv_iand hx hb dM_ways_86 ?_
                refine ls_topi (y := nI (X / 2 ^ k % 2)) (ls_and1 (Nat.lt_of_le_of_lt (Nat.div_le_self _ _) (by omega))) ?_
                refine va_iast hx hb hK hP hD hS 5 4 rfl rfl (vp_in_nI (by omega) (by decide)) dM_ways_87 (fun H locs hP hD hS => ?_)
                rw [show upd oo (nI (F + k)).toNatClampNeg (nI (X / 2 ^ k % 2)) = upd oo (F + k) (nI (X / 2 ^ k % 2)) from by rw [nI_clamp (by omega)]] at hP hD
                have hP : va_P (dC, dI) vwCl [(g0, .inr (2, [.int 0, .int (nI nv), .int (nI nc), .ref aL, .int (nI us), .ref aS, .int (nI dr), .ref aF, .ref aN, .ref aA, .int (nI as), .ref aO, .ref aV, .int la, .int bl, .ref aT, .int (nI th)])), (aL, .inl (kL, 4000, .inl lf)), (aS, .inl (kS, 501, .inl sf)), (aF, .inl (kF, 17, .inl ff)), (aN, .inl (kN, 500, .inl nf)), (aO, .inl (kO, 16, .inl (upd oo (F + k) (nI (X / 2 ^ k % 2))))), (aV, .inl (kV, 16, .inl v))] H := hP
                have hD : va_D A [(g0, .inr (2, [.int 0, .int (nI nv), .int (nI nc), .ref aL, .int (nI us), .ref aS, .int (nI dr), .ref aF, .ref aN, .ref aA, .int (nI as), .ref aO, .ref aV, .int la, .int bl, .ref aT, .int (nI th)])), (aL, .inl (kL, 4000, .inl lf)), (aS, .inl (kS, 501, .inl sf)), (aF, .inl (kF, 17, .inl ff)), (aN, .inl (kN, 500, .inl nf)), (aO, .inl (kO, 16, .inl (upd oo (F + k) (nI (X / 2 ^ k % 2))))), (aV, .inl (kV, 16, .inl v))] := hD
                refine lv_iinc (v := nI (k + 1)) (lv' := [(5, .int (nI (k + 1))), (0, .ref g0), (1, .int (nI F)), (2, .int (nI N)), (3, .int (nI (ls_cnt (wyB nv lit st ch F N) X))), (4, .int (nI X))]) hx hb dM_ways_88 hl (k := 5) rfl (nI_1 _) (by decide) rfl (fun ls hl => ?_)
                refine lv_goto (tgt := 66) hx hb dM_ways_91 (by decide) ?_
                exact ih2 (k + 1, upd oo (F + k) (nI (X / 2 ^ k % 2))) _ _ _ (by show N - (k + 1) < N - k; omega) ⟨⟨c7, wq_s hwq⟩, hP, hD, hS, lv_sub hl [1, 2, 3, 4, 5, 0] rfl⟩
          · exact absurd (by decide) c9
        · refine lv_iconst (v := 2) hx hb dM_ways_29 (by decide) ?_
          refine lv_goto (tgt := 34) hx hb dM_ways_30 (by decide) ?_
          refine va_put (D := (dC, dI)) (ci := 2) (v := .int 2) (ty := .int) (C := RM) (T := TM) (N := 17) hx hb hts lyM tyM tyM_ok nmM hown hK hP hD hS 0 rfl rfl 0 (by decide) (hts _ fl_M_37) (fun _ h9 => h9) rfl (by decide +kernel) rfl rfl (Nat.le_of_ble_eq_true rfl) dM_ways_34 (fun H locs hP hD hS => ?_)
          have hP : va_P (dC, dI) vwCl [(g0, .inr (2, [.int 2, .int (nI nv), .int (nI nc), .ref aL, .int (nI us), .ref aS, .int (nI dr), .ref aF, .ref aN, .ref aA, .int (nI as), .ref aO, .ref aV, .int la, .int bl, .ref aT, .int (nI th)])), (aL, .inl (kL, 4000, .inl lf)), (aS, .inl (kS, 501, .inl sf)), (aF, .inl (kF, 17, .inl ff)), (aN, .inl (kN, 500, .inl nf)), (aO, .inl (kO, 16, .inl of)), (aV, .inl (kV, 16, .inl vf))] H := hP
          have hD : va_D A [(g0, .inr (2, [.int 2, .int (nI nv), .int (nI nc), .ref aL, .int (nI us), .ref aS, .int (nI dr), .ref aF, .ref aN, .ref aA, .int (nI as), .ref aO, .ref aV, .int la, .int bl, .ref aT, .int (nI th)])), (aL, .inl (kL, 4000, .inl lf)), (aS, .inl (kS, 501, .inl sf)), (aF, .inl (kF, 17, .inl ff)), (aN, .inl (kN, 500, .inl nf)), (aO, .inl (kO, 16, .inl of)), (aV, .inl (kV, 16, .inl vf))] := hD
          refine lv_aload_n hx hb dM_ways_37 rfl (lv_at hl 0 rfl) ?_
          refine va_get (D := (dC, dI)) (ci := 2) (v := .int 2) (C := RM) (T := TM) (N := 17) hx hb hts lyM hown hK hP 0 rfl rfl 0 (by decide) (hts _ fl_M_37) (fun _ h9 => h9) rfl dM_ways_38 ?_
          refine lv_if_le (tgt := 46) hx hb dM_ways_41 (by decide) (fun c9 => ?_) (fun c9 => ?_)
          · exact absurd c9 (by decide)
          · refine lv_iconst (v := 0) hx hb dM_ways_44 (by decide) ?_
            exact (W.iret (v := 0) hx hb hr (fun t ht hW => ⟨⟨0, (of, vf, vv0, 2), rfl, ⟨hV0, Or.inr (Or.inl ⟨rfl, ⟨N, c2, rfl⟩, fun ⟨F2, N2, h1, h2, h3, h4⟩ => c4 ((wy_le (by omega) (by omega) (by omega)).mpr (by rw [(nI_eq (by omega) (by omega)).mp h3, (nI_eq (by omega) (by omega)).mp h2]; exact h4))⟩)⟩, by rw [ht]; exact hP, va_K.moved hW.alike hK, hD⟩, hS.F ht⟩) hS.2.2 dM_ways_45)
    · have c2 : 8 < N := Nat.lt_of_not_le (fun q => c2 ((nI_leI (a := N) (b := 8) (by omega) (by omega)).mpr q))
      refine lv_iconst (v := 1) hx hb dM_ways_11 (by decide) ?_
      refine lv_goto (tgt := 34) hx hb dM_ways_12 (by decide) ?_
      refine va_put (D := (dC, dI)) (ci := 2) (v := .int 1) (ty := .int) (C := RM) (T := TM) (N := 17) hx hb hts lyM tyM tyM_ok nmM hown hK hP hD hS 0 rfl rfl 0 (by decide) (hts _ fl_M_37) (fun _ h9 => h9) rfl (by decide +kernel) rfl rfl (Nat.le_of_ble_eq_true rfl) dM_ways_34 (fun H locs hP hD hS => ?_)
      have hP : va_P (dC, dI) vwCl [(g0, .inr (2, [.int 1, .int (nI nv), .int (nI nc), .ref aL, .int (nI us), .ref aS, .int (nI dr), .ref aF, .ref aN, .ref aA, .int (nI as), .ref aO, .ref aV, .int la, .int bl, .ref aT, .int (nI th)])), (aL, .inl (kL, 4000, .inl lf)), (aS, .inl (kS, 501, .inl sf)), (aF, .inl (kF, 17, .inl ff)), (aN, .inl (kN, 500, .inl nf)), (aO, .inl (kO, 16, .inl of)), (aV, .inl (kV, 16, .inl vf))] H := hP
      have hD : va_D A [(g0, .inr (2, [.int 1, .int (nI nv), .int (nI nc), .ref aL, .int (nI us), .ref aS, .int (nI dr), .ref aF, .ref aN, .ref aA, .int (nI as), .ref aO, .ref aV, .int la, .int bl, .ref aT, .int (nI th)])), (aL, .inl (kL, 4000, .inl lf)), (aS, .inl (kS, 501, .inl sf)), (aF, .inl (kF, 17, .inl ff)), (aN, .inl (kN, 500, .inl nf)), (aO, .inl (kO, 16, .inl of)), (aV, .inl (kV, 16, .inl vf))] := hD
      refine lv_aload_n hx hb dM_ways_37 rfl (lv_at hl 0 rfl) ?_
      refine va_get (D := (dC, dI)) (ci := 2) (v := .int 1) (C := RM) (T := TM) (N := 17) hx hb hts lyM hown hK hP 0 rfl rfl 0 (by decide) (hts _ fl_M_37) (fun _ h9 => h9) rfl dM_ways_38 ?_
      refine lv_if_le (tgt := 46) hx hb dM_ways_41 (by decide) (fun c9 => ?_) (fun c9 => ?_)
      · exact absurd c9 (by decide)
      · refine lv_iconst (v := 0) hx hb dM_ways_44 (by decide) ?_
        exact (W.iret (v := 0) hx hb hr (fun t ht hW => ⟨⟨0, (of, vf, vv0, 1), rfl, ⟨hV0, Or.inl ⟨rfl, fun ⟨N2, hN, e⟩ => absurd ((nI_eq (by omega) (by omega)).mp e) (by omega)⟩⟩, by rw [ht]; exact hP, va_K.moved hW.alike hK, hD⟩, hS.F ht⟩) hS.2.2 dM_ways_45)
set_option maxHeartbeats 4000000 in
set_option maxRecDepth 100000 in
theorem k_M_close (l : Launch) (dC : Nat → ClassId) (dI : Nat → Nat → Nat) (tI sz : Nat) (g0 aL aS aF aN aA aO aV aT : Nat) (kL kS kF kN : ClassId) (lf sf ff nf : Nat → Int32) (nv nc us dr as th : Nat) (co la bl : Int32) (lit : Nat → Nat) (hnc : nc ≤ 500) (hdr : dr ≤ 40) (hus : us + dr ≤ 4000) (hlit : ∀ k, k < us + dr → lf k = nI (lit k) ∧ lit k < 32) : Met l yM_close (Cond.code yM_close cM_close 3 (some .int) :: GG) (lvr 0 0 0) (va_Pc [.ref g0] (wPre dC dI [(kL, .int), (kS, .int), (kF, .int), (kN, .int)] [(g0, .inr (2, [.int co, .int (nI nv), .int (nI nc), .ref aL, .int (nI us), .ref aS, .int (nI dr), .ref aF, .ref aN, .ref aA, .int (nI as), .ref aO, .ref aV, .int la, .int bl, .ref aT, .int (nI th)])), (aL, .inl (kL, 4000, .inl lf)), (aS, .inl (kS, 501, .inl sf)), (aF, .inl (kF, 17, .inl ff)), (aN, .inl (kN, 500, .inl nf))] sz tI)) (va_Qi (fun (r : Int32) (u : (Nat → Int32) × (Nat → Int32) × (Nat → Int32) × Int32 × Nat × Nat × Nat) => (nc = 500 ∧ u = (sf, ff, nf, 1, nc, us, dr)) ∨ (nc < 500 ∧ r = nI (nc + 1) ∧ u.1 = upd (upd sf nc (nI us)) (nc + 1) (nI (us + dr)) ∧ u.2.1 = upd ff (cl_v lit us dr) (nI nc) ∧ u.2.2.1 = upd nf nc (ff (cl_v lit us dr)) ∧ u.2.2.2.1 = 0 ∧ u.2.2.2.2.1 = nc + 1 ∧ u.2.2.2.2.2 = (us + dr, 0))) (fun u t => wB dC dI [(kL, .int), (kS, .int), (kF, .int), (kN, .int)] (va_A [(g0, .inr (2, [.int co, .int (nI nv), .int (nI nc), .ref aL, .int (nI us), .ref aS, .int (nI dr), .ref aF, .ref aN, .ref aA, .int (nI as), .ref aO, .ref aV, .int la, .int bl, .ref aT, .int (nI th)])), (aL, .inl (kL, 4000, .inl lf)), (aS, .inl (kS, 501, .inl sf)), (aF, .inl (kF, 17, .inl ff)), (aN, .inl (kN, 500, .inl nf))] sz) [(g0, .inr (2, [.int u.2.2.2.1, .int (nI nv), .int (nI u.2.2.2.2.1), .ref aL, .int (nI u.2.2.2.2.2.1), .ref aS, .int (nI u.2.2.2.2.2.2), .ref aF, .ref aN, .ref aA, .int (nI as), .ref aO, .ref aV, .int la, .int bl, .ref aT, .int (nI th)])), (aL, .inl (kL, 4000, .inl lf)), (aS, .inl (kS, 501, .inl u.1)), (aF, .inl (kF, 17, .inl u.2.1)), (aN, .inl (kN, 500, .inl u.2.2.1))] t) (va_A [(g0, .inr (2, [.int co, .int (nI nv), .int (nI nc), .ref aL, .int (nI us), .ref aS, .int (nI dr), .ref aF, .ref aN, .ref aA, .int (nI as), .ref aO, .ref aV, .int la, .int bl, .ref aT, .int (nI th)])), (aL, .inl (kL, 4000, .inl lf)), (aS, .inl (kS, 501, .inl sf)), (aF, .inl (kF, 17, .inl ff)), (aN, .inl (kN, 500, .inl nf))] sz)) 0 0 (va_A [(g0, .inr (2, [.int co, .int (nI nv), .int (nI nc), .ref aL, .int (nI us), .ref aS, .int (nI dr), .ref aF, .ref aN, .ref aA, .int (nI as), .ref aO, .ref aV, .int la, .int bl, .ref aT, .int (nI th)])), (aL, .inl (kL, 4000, .inl lf)), (aS, .inl (kS, 501, .inl sf)), (aF, .inl (kF, 17, .inl ff)), (aN, .inl (kN, 500, .inl nf))] sz) := by
  refine Met.ofW (cc := cM_close) (maxL := 3) (ret := (some .int)) (by decide) rfl ?_
  intro p e s m args below meth c s₁ B hml hv
  obtain ⟨rfl, hsz, hP, hK, hD0, hZ, hX⟩ := hv
  have hx := B.exec
  have hb := B.bytes
  have hr := B.returns
  have hts : ∀ w ∈ GG, w.before ([.ref g0] : List Value).toArray s = true := fun w h => atoms_spec (ws := _ :: GG) B.pre w (List.mem_cons_of_mem _ h)
  have hown : s.vm.findClass RM = some m.cls := findClass_of_methodNamed B.named
  have hlocks := B.notSynchronized
  subst hsz
  have hD := hD0.self (sz := s.heap.size)
  generalize hAe : va_A [(g0, .inr (2, [.int co, .int (nI nv), .int (nI nc), .ref aL, .int (nI us), .ref aS, .int (nI dr), .ref aF, .ref aN, .ref aA, .int (nI as), .ref aO, .ref aV, .int la, .int bl, .ref aT, .int (nI th)])), (aL, .inl (kL, 4000, .inl lf)), (aS, .inl (kS, 501, .inl sf)), (aF, .inl (kF, 17, .inl ff)), (aN, .inl (kN, 500, .inl nf))] s.heap.size = A at hD hZ ⊢
  have hA : ∀ q : Nat, s.heap.size ≤ q → A q := fun q h => by rw [← hAe]; exact Or.inr h
  have hS : va_S A s.heap s.heap [] := va_S.rf
  have hl := lv_entry ([.ref g0]) (n := 3) (Nat.le_of_ble_eq_true rfl)
  rw [lg_entry_eq]
  generalize (lg_sl ([.ref g0]) ++ List.replicate (3 - (lg_sl ([.ref g0])).length) Slot.unset).toArray = ls at hl ⊢
  have hl : lv_has ls 3 [(0, .ref g0)] := hl
  have SF : CallFix p m c cM_close 3 s ([.ref g0] : List Value).toArray GG RM := ⟨hx, hb, hml, hown, hts⟩
  skip
  have hP : va_P (dC, dI) vwCl [(g0, .inr (2, [.int co, .int (nI nv), .int (nI nc), .ref aL, .int (nI us), .ref aS, .int (nI dr), .ref aF, .ref aN, .ref aA, .int (nI as), .ref aO, .ref aV, .int la, .int bl, .ref aT, .int (nI th)])), (aL, .inl (kL, 4000, .inl lf)), (aS, .inl (kS, 501, .inl sf)), (aF, .inl (kF, 17, .inl ff)), (aN, .inl (kN, 500, .inl nf))] s.heap := hP
  refine lv_aload_n hx hb dM_close_0 rfl (lv_at hl 0 rfl) ?_
  refine lv_aload_n hx hb dM_close_1 rfl (lv_at hl 0 rfl) ?_
  refine va_get (D := (dC, dI)) (ci := 2) (v := .int (nI nc)) (C := RM) (T := TM) (N := 17) hx hb hts lyM hown hK hP 0 rfl rfl 2 (by decide) (hts _ fl_M_44) (fun _ h9 => h9) rfl dM_close_2 ?_
  refine lv_sipush (v := 500) hx hb dM_close_5 (by decide) ?_
  refine lv_icmp_ne (tgt := 15) hx hb dM_close_8 (by decide) (fun c1 => ?_) (fun c1 => ?_)
  · have c1 : nc ≠ 500 := fun q => c1 ((nI_eq (a := nc) (b := 500) (by omega) (by omega)).mpr q)
    refine lv_iconst (v := 0) hx hb dM_close_15 (by decide) ?_
    refine va_put (D := (dC, dI)) (ci := 2) (v := .int 0) (ty := .int) (C := RM) (T := TM) (N := 17) hx hb hts lyM tyM tyM_ok nmM hown hK hP hD hS 0 rfl rfl 0 (by decide) (hts _ fl_M_37) (fun _ h9 => h9) rfl (by decide +kernel) rfl rfl (Nat.le_of_ble_eq_true rfl) dM_close_16 (fun H locs hP hD hS => ?_)
    have hP : va_P (dC, dI) vwCl [(g0, .inr (2, [.int 0, .int (nI nv), .int (nI nc), .ref aL, .int (nI us), .ref aS, .int (nI dr), .ref aF, .ref aN, .ref aA, .int (nI as), .ref aO, .ref aV, .int la, .int bl, .ref aT, .int (nI th)])), (aL, .inl (kL, 4000, .inl lf)), (aS, .inl (kS, 501, .inl sf)), (aF, .inl (kF, 17, .inl ff)), (aN, .inl (kN, 500, .inl nf))] H := hP
    have hD : va_D A [(g0, .inr (2, [.int 0, .int (nI nv), .int (nI nc), .ref aL, .int (nI us), .ref aS, .int (nI dr), .ref aF, .ref aN, .ref aA, .int (nI as), .ref aO, .ref aV, .int la, .int bl, .ref aT, .int (nI th)])), (aL, .inl (kL, 4000, .inl lf)), (aS, .inl (kS, 501, .inl sf)), (aF, .inl (kF, 17, .inl ff)), (aN, .inl (kN, 500, .inl nf))] := hD
    refine lv_aload_n hx hb dM_close_19 rfl (lv_at hl 0 rfl) ?_
    refine va_get (D := (dC, dI)) (ci := 2) (v := .int 0) (C := RM) (T := TM) (N := 17) hx hb hts lyM hown hK hP 0 rfl rfl 0 (by decide) (hts _ fl_M_37) (fun _ h9 => h9) rfl dM_close_20 ?_
    refine lv_if_le (tgt := 28) hx hb dM_close_23 (by decide) (fun c9 => ?_) (fun c9 => ?_)
    · refine lv_iconst (v := (-1)) hx hb dM_close_28 (by decide) ?_
      refine lv_istore_n (lv' := [(1, .int (-1)), (0, .ref g0)]) hx hb dM_close_29 rfl hl (by decide) rfl (fun ls hl => ?_)
      refine lv_aload_n hx hb dM_close_30 rfl (lv_at hl 1 rfl) ?_
      refine va_get (D := (dC, dI)) (ci := 2) (v := .int (nI us)) (C := RM) (T := TM) (N := 17) hx hb hts lyM hown hK hP 0 rfl rfl 4 (by decide) (hts _ fl_M_47) (fun _ h9 => h9) rfl dM_close_31 ?_
      refine lv_istore_n (lv' := [(2, .int (nI us)), (1, .int (-1)), (0, .ref g0)]) hx hb dM_close_34 rfl hl (by decide) rfl (fun ls hl => ?_)
      refine lp_mu (α := Nat) (fun a_ => match a_ with | j => dr - j) (fun a_ H locs ls => match a_ with | j => (j ≤ dr) ∧ va_P (dC, dI) vwCl [(g0, .inr (2, [.int 0, .int (nI nv), .int (nI nc), .ref aL, .int (nI us), .ref aS, .int (nI dr), .ref aF, .ref aN, .ref aA, .int (nI as), .ref aO, .ref aV, .int la, .int bl, .ref aT, .int (nI th)])), (aL, .inl (kL, 4000, .inl lf)), (aS, .inl (kS, 501, .inl sf)), (aF, .inl (kF, 17, .inl ff)), (aN, .inl (kN, 500, .inl nf))] H ∧ va_D A [(g0, .inr (2, [.int 0, .int (nI nv), .int (nI nc), .ref aL, .int (nI us), .ref aS, .int (nI dr), .ref aF, .ref aN, .ref aA, .int (nI as), .ref aO, .ref aV, .int la, .int bl, .ref aT, .int (nI th)])), (aL, .inl (kL, 4000, .inl lf)), (aS, .inl (kS, 501, .inl sf)), (aF, .inl (kF, 17, .inl ff)), (aN, .inl (kN, 500, .inl nf))] ∧ va_S A s.heap H locs ∧ lv_has ls 3 [(0, .ref g0), (1, .int (sx (cl_m lit us j))), (2, .int (nI (us + j)))]) ?_ (0) ⟨Nat.zero_le _, hP, hD, hS, lv_sub hl [2, 1, 0] rfl⟩
      intro a_ H locs ls hI ih
      obtain ⟨j, rfl⟩ : ∃ z, z = a_ := ⟨_, rfl⟩
      obtain ⟨hI, hP, hD, hS, hl⟩ := hI
      have hI : j ≤ dr := hI
      have hP : va_P (dC, dI) vwCl [(g0, .inr (2, [.int 0, .int (nI nv), .int (nI nc), .ref aL, .int (nI us), .ref aS, .int (nI dr), .ref aF, .ref aN, .ref aA, .int (nI as), .ref aO, .ref aV, .int la, .int bl, .ref aT, .int (nI th)])), (aL, .inl (kL, 4000, .inl lf)), (aS, .inl (kS, 501, .inl sf)), (aF, .inl (kF, 17, .inl ff)), (aN, .inl (kN, 500, .inl nf))] H := hP
      have hD : va_D A [(g0, .inr (2, [.int 0, .int (nI nv), .int (nI nc), .ref aL, .int (nI us), .ref aS, .int (nI dr), .ref aF, .ref aN, .ref aA, .int (nI as), .ref aO, .ref aV, .int la, .int bl, .ref aT, .int (nI th)])), (aL, .inl (kL, 4000, .inl lf)), (aS, .inl (kS, 501, .inl sf)), (aF, .inl (kF, 17, .inl ff)), (aN, .inl (kN, 500, .inl nf))] := hD
      have hl : lv_has ls 3 [(0, .ref g0), (1, .int (sx (cl_m lit us j))), (2, .int (nI (us + j)))] := hl
      have hml := cl_ml (lit := lit) (us := us) (j := j) (fun k h1 h2 => (hlit k (by omega)).2)
      refine lv_iload_n hx hb dM_close_35 rfl (lv_at hl 2 rfl) ?_
      refine lv_aload_n hx hb dM_close_36 rfl (lv_at hl 0 rfl) ?_
      refine va_get (D := (dC, dI)) (ci := 2) (v := .int (nI us)) (C := RM) (T := TM) (N := 17) hx hb hts lyM hown hK hP 0 rfl rfl 4 (by decide) (hts _ fl_M_47) (fun _ h9 => h9) rfl dM_close_37 ?_
      refine lv_aload_n hx hb dM_close_40 rfl (lv_at hl 0 rfl) ?_
      refine va_get (D := (dC, dI)) (ci := 2) (v := .int (nI dr)) (C := RM) (T := TM) (N := 17) hx hb hts lyM hown hK hP 0 rfl rfl 6 (by decide) (hts _ fl_M_50) (fun _ h9 => h9) rfl dM_close_41 ?_
      refine lv_iadd hx hb dM_close_44 ?_
      refine ls_topi (y := nI (us + dr)) (nI_add _ _) ?_
      refine lv_icmp_ge (tgt := 79) hx hb dM_close_45 (by decide) (fun c4 => ?_) (fun c4 => ?_)
      · have c4 : us + dr ≤ us + j := (nI_leI (a := us + dr) (b := us + j) (by omega) (by omega)).mp c4
        have ej : j = dr := by omega
        have hcv : cl_v lit us dr ≤ 16 := by unfold cl_v; rw [← ej]; split <;> omega
        refine lv_iload_n hx hb dM_close_79 rfl (lv_at hl 1 rfl) ?_
        refine lv_iconst (v := (-1)) hx hb dM_close_80 (by decide) ?_
        refine lv_icmp_ne (tgt := 89) hx hb dM_close_81 (by decide) (fun c5 => ?_) (fun c5 => ?_)
        · have hnz : ¬ cl_m lit us dr = 0 := fun h => c5 ((cl_m1 (by omega)).mpr (by rw [ej]; exact h))
          refine lv_iload_n hx hb dM_close_89 rfl (lv_at hl 1 rfl) ?_
          refine ls_topi (y := nI (cl_v lit us dr)) (by unfold cl_v; rw [if_neg hnz, ej]; obtain ⟨z, hz⟩ : ∃ z, cl_m lit us dr = z + 1 := ⟨cl_m lit us dr - 1, by omega⟩; rw [hz]; rfl) ?_
          refine lv_istore_n (lv' := [(1, .int (nI (cl_v lit us dr))), (0, .ref g0), (2, .int (nI (us + j)))]) hx hb dM_close_90 rfl hl (by decide) rfl (fun ls hl => ?_)
          refine lv_aload_n hx hb dM_close_91 rfl (lv_at hl 1 rfl) ?_
          refine va_get (D := (dC, dI)) (ci := 2) (v := .ref aS) (C := RM) (T := TM) (N := 17) hx hb hts lyM hown hK hP 0 rfl rfl 5 (by decide) (hts _ fl_M_13) (fun _ h9 => h9) rfl dM_close_92 ?_
          refine lv_aload_n hx hb dM_close_95 rfl (lv_at hl 1 rfl) ?_
          refine va_get (D := (dC, dI)) (ci := 2) (v := .int (nI nc)) (C := RM) (T := TM) (N := 17) hx hb hts lyM hown hK hP 0 rfl rfl 2 (by decide) (hts _ fl_M_44) (fun _ h9 => h9) rfl dM_close_96 ?_
          refine lv_aload_n hx hb dM_close_99 rfl (lv_at hl 1 rfl) ?_
          refine va_get (D := (dC, dI)) (ci := 2) (v := .int (nI us)) (C := RM) (T := TM) (N := 17) hx hb hts lyM hown hK hP 0 rfl rfl 4 (by decide) (hts _ fl_M_47) (fun _ h9 => h9) rfl dM_close_100 ?_
          refine va_iast hx hb hK hP hD hS 2 1 rfl rfl (vp_in_nI (by omega) (by decide)) dM_close_103 (fun H locs hP hD hS => ?_)
          rw [show upd sf (nI nc).toNatClampNeg (nI us) = upd sf nc (nI us) from by rw [nI_clamp (by omega)]] at hP hD
          have hP : va_P (dC, dI) vwCl [(g0, .inr (2, [.int 0, .int (nI nv), .int (nI nc), .ref aL, .int (nI us), .ref aS, .int (nI dr), .ref aF, .ref aN, .ref aA, .int (nI as), .ref aO, .ref aV, .int la, .int bl, .ref aT, .int (nI th)])), (aL, .inl (kL, 4000, .inl lf)), (aS, .inl (kS, 501, .inl (upd sf nc (nI us)))), (aF, .inl (kF, 17, .inl ff)), (aN, .inl (kN, 500, .inl nf))] H := hP
          have hD : va_D A [(g0, .inr (2, [.int 0, .int (nI nv), .int (nI nc), .ref aL, .int (nI us), .ref aS, .int (nI dr), .ref aF, .ref aN, .ref aA, .int (nI as), .ref aO, .ref aV, .int la, .int bl, .ref aT, .int (nI th)])), (aL, .inl (kL, 4000, .inl lf)), (aS, .inl (kS, 501, .inl (upd sf nc (nI us)))), (aF, .inl (kF, 17, .inl ff)), (aN, .inl (kN, 500, .inl nf))] := hD
          refine lv_aload_n hx hb dM_close_104 rfl (lv_at hl 1 rfl) ?_
          refine va_get (D := (dC, dI)) (ci := 2) (v := .ref aN) (C := RM) (T := TM) (N := 17) hx hb hts lyM hown hK hP 0 rfl rfl 8 (by decide) (hts _ fl_M_19) (fun _ h9 => h9) rfl dM_close_105 ?_
          refine lv_aload_n hx hb dM_close_108 rfl (lv_at hl 1 rfl) ?_
          refine va_get (D := (dC, dI)) (ci := 2) (v := .int (nI nc)) (C := RM) (T := TM) (N := 17) hx hb hts lyM hown hK hP 0 rfl rfl 2 (by decide) (hts _ fl_M_44) (fun _ h9 => h9) rfl dM_close_109 ?_
          refine lv_aload_n hx hb dM_close_112 rfl (lv_at hl 1 rfl) ?_
          refine va_get (D := (dC, dI)) (ci := 2) (v := .ref aF) (C := RM) (T := TM) (N := 17) hx hb hts lyM hown hK hP 0 rfl rfl 7 (by decide) (hts _ fl_M_16) (fun _ h9 => h9) rfl dM_close_113 ?_
          refine lv_iload_n hx hb dM_close_116 rfl (lv_at hl 0 rfl) ?_
          refine va_iald hx hb hK hP 3 2 rfl rfl (vp_in_nI (by omega) (by decide)) dM_close_117 ?_
          refine ls_topi (y := ff (cl_v lit us dr)) (by rw [nI_clamp (by omega)]) ?_
          refine va_iast hx hb hK hP hD hS 4 3 rfl rfl (vp_in_nI (by omega) (by decide)) dM_close_118 (fun H locs hP hD hS => ?_)
          rw [show upd nf (nI nc).toNatClampNeg (ff (cl_v lit us dr)) = upd nf nc (ff (cl_v lit us dr)) from by rw [nI_clamp (by omega)]] at hP hD
          have hP : va_P (dC, dI) vwCl [(g0, .inr (2, [.int 0, .int (nI nv), .int (nI nc), .ref aL, .int (nI us), .ref aS, .int (nI dr), .ref aF, .ref aN, .ref aA, .int (nI as), .ref aO, .ref aV, .int la, .int bl, .ref aT, .int (nI th)])), (aL, .inl (kL, 4000, .inl lf)), (aS, .inl (kS, 501, .inl (upd sf nc (nI us)))), (aF, .inl (kF, 17, .inl ff)), (aN, .inl (kN, 500, .inl (upd nf nc (ff (cl_v lit us dr)))))] H := hP
          have hD : va_D A [(g0, .inr (2, [.int 0, .int (nI nv), .int (nI nc), .ref aL, .int (nI us), .ref aS, .int (nI dr), .ref aF, .ref aN, .ref aA, .int (nI as), .ref aO, .ref aV, .int la, .int bl, .ref aT, .int (nI th)])), (aL, .inl (kL, 4000, .inl lf)), (aS, .inl (kS, 501, .inl (upd sf nc (nI us)))), (aF, .inl (kF, 17, .inl ff)), (aN, .inl (kN, 500, .inl (upd nf nc (ff (cl_v lit us dr)))))] := hD
          refine lv_aload_n hx hb dM_close_119 rfl (lv_at hl 1 rfl) ?_
          refine va_get (D := (dC, dI)) (ci := 2) (v := .ref aF) (C := RM) (T := TM) (N := 17) hx hb hts lyM hown hK hP 0 rfl rfl 7 (by decide) (hts _ fl_M_16) (fun _ h9 => h9) rfl dM_close_120 ?_
          refine lv_iload_n hx hb dM_close_123 rfl (lv_at hl 0 rfl) ?_
          refine lv_aload_n hx hb dM_close_124 rfl (lv_at hl 1 rfl) ?_
          refine va_get (D := (dC, dI)) (ci := 2) (v := .int (nI nc)) (C := RM) (T := TM) (N := 17) hx hb hts lyM hown hK hP 0 rfl rfl 2 (by decide) (hts _ fl_M_44) (fun _ h9 => h9) rfl dM_close_125 ?_
          refine va_iast hx hb hK hP hD hS 3 2 rfl rfl (vp_in_nI (by omega) (by decide)) dM_close_128 (fun H locs hP hD hS => ?_)
          rw [show upd ff (nI (cl_v lit us dr)).toNatClampNeg (nI nc) = upd ff (cl_v lit us dr) (nI nc) from by rw [nI_clamp (by omega)]] at hP hD
          have hP : va_P (dC, dI) vwCl [(g0, .inr (2, [.int 0, .int (nI nv), .int (nI nc), .ref aL, .int (nI us), .ref aS, .int (nI dr), .ref aF, .ref aN, .ref aA, .int (nI as), .ref aO, .ref aV, .int la, .int bl, .ref aT, .int (nI th)])), (aL, .inl (kL, 4000, .inl lf)), (aS, .inl (kS, 501, .inl (upd sf nc (nI us)))), (aF, .inl (kF, 17, .inl (upd ff (cl_v lit us dr) (nI nc)))), (aN, .inl (kN, 500, .inl (upd nf nc (ff (cl_v lit us dr)))))] H := hP
          have hD : va_D A [(g0, .inr (2, [.int 0, .int (nI nv), .int (nI nc), .ref aL, .int (nI us), .ref aS, .int (nI dr), .ref aF, .ref aN, .ref aA, .int (nI as), .ref aO, .ref aV, .int la, .int bl, .ref aT, .int (nI th)])), (aL, .inl (kL, 4000, .inl lf)), (aS, .inl (kS, 501, .inl (upd sf nc (nI us)))), (aF, .inl (kF, 17, .inl (upd ff (cl_v lit us dr) (nI nc)))), (aN, .inl (kN, 500, .inl (upd nf nc (ff (cl_v lit us dr)))))] := hD
          refine lv_aload_n hx hb dM_close_129 rfl (lv_at hl 1 rfl) ?_
          refine lv_dup hx hb dM_close_130 rfl ?_
          refine va_get (D := (dC, dI)) (ci := 2) (v := .int (nI us)) (C := RM) (T := TM) (N := 17) hx hb hts lyM hown hK hP 0 rfl rfl 4 (by decide) (hts _ fl_M_47) (fun _ h9 => h9) rfl dM_close_131 ?_
          refine lv_aload_n hx hb dM_close_134 rfl (lv_at hl 1 rfl) ?_
          refine va_get (D := (dC, dI)) (ci := 2) (v := .int (nI dr)) (C := RM) (T := TM) (N := 17) hx hb hts lyM hown hK hP 0 rfl rfl 6 (by decide) (hts _ fl_M_50) (fun _ h9 => h9) rfl dM_close_135 ?_
          refine lv_iadd hx hb dM_close_138 ?_
          refine ls_topi (y := nI (us + dr)) (nI_add _ _) ?_
          refine va_put (D := (dC, dI)) (ci := 2) (v := .int (nI (us + dr))) (ty := .int) (C := RM) (T := TM) (N := 17) hx hb hts lyM tyM tyM_ok nmM hown hK hP hD hS 0 rfl rfl 4 (by decide) (hts _ fl_M_47) (fun _ h9 => h9) rfl (by decide +kernel) rfl rfl (Nat.le_of_ble_eq_true rfl) dM_close_139 (fun H locs hP hD hS => ?_)
          have hP : va_P (dC, dI) vwCl [(g0, .inr (2, [.int 0, .int (nI nv), .int (nI nc), .ref aL, .int (nI (us + dr)), .ref aS, .int (nI dr), .ref aF, .ref aN, .ref aA, .int (nI as), .ref aO, .ref aV, .int la, .int bl, .ref aT, .int (nI th)])), (aL, .inl (kL, 4000, .inl lf)), (aS, .inl (kS, 501, .inl (upd sf nc (nI us)))), (aF, .inl (kF, 17, .inl (upd ff (cl_v lit us dr) (nI nc)))), (aN, .inl (kN, 500, .inl (upd nf nc (ff (cl_v lit us dr)))))] H := hP
          have hD : va_D A [(g0, .inr (2, [.int 0, .int (nI nv), .int (nI nc), .ref aL, .int (nI (us + dr)), .ref aS, .int (nI dr), .ref aF, .ref aN, .ref aA, .int (nI as), .ref aO, .ref aV, .int la, .int bl, .ref aT, .int (nI th)])), (aL, .inl (kL, 4000, .inl lf)), (aS, .inl (kS, 501, .inl (upd sf nc (nI us)))), (aF, .inl (kF, 17, .inl (upd ff (cl_v lit us dr) (nI nc)))), (aN, .inl (kN, 500, .inl (upd nf nc (ff (cl_v lit us dr)))))] := hD
          refine lv_aload_n hx hb dM_close_142 rfl (lv_at hl 1 rfl) ?_
          refine lv_iconst (v := 0) hx hb dM_close_143 (by decide) ?_
          refine va_put (D := (dC, dI)) (ci := 2) (v := .int 0) (ty := .int) (C := RM) (T := TM) (N := 17) hx hb hts lyM tyM tyM_ok nmM hown hK hP hD hS 0 rfl rfl 6 (by decide) (hts _ fl_M_50) (fun _ h9 => h9) rfl (by decide +kernel) rfl rfl (Nat.le_of_ble_eq_true rfl) dM_close_144 (fun H locs hP hD hS => ?_)
          have hP : va_P (dC, dI) vwCl [(g0, .inr (2, [.int 0, .int (nI nv), .int (nI nc), .ref aL, .int (nI (us + dr)), .ref aS, .int 0, .ref aF, .ref aN, .ref aA, .int (nI as), .ref aO, .ref aV, .int la, .int bl, .ref aT, .int (nI th)])), (aL, .inl (kL, 4000, .inl lf)), (aS, .inl (kS, 501, .inl (upd sf nc (nI us)))), (aF, .inl (kF, 17, .inl (upd ff (cl_v lit us dr) (nI nc)))), (aN, .inl (kN, 500, .inl (upd nf nc (ff (cl_v lit us dr)))))] H := hP
          have hD : va_D A [(g0, .inr (2, [.int 0, .int (nI nv), .int (nI nc), .ref aL, .int (nI (us + dr)), .ref aS, .int 0, .ref aF, .ref aN, .ref aA, .int (nI as), .ref aO, .ref aV, .int la, .int bl, .ref aT, .int (nI th)])), (aL, .inl (kL, 4000, .inl lf)), (aS, .inl (kS, 501, .inl (upd sf nc (nI us)))), (aF, .inl (kF, 17, .inl (upd ff (cl_v lit us dr) (nI nc)))), (aN, .inl (kN, 500, .inl (upd nf nc (ff (cl_v lit us dr)))))] := hD
          refine lv_aload_n hx hb dM_close_147 rfl (lv_at hl 1 rfl) ?_
          refine lv_dup hx hb dM_close_148 rfl ?_
          refine va_get (D := (dC, dI)) (ci := 2) (v := .int (nI nc)) (C := RM) (T := TM) (N := 17) hx hb hts lyM hown hK hP 0 rfl rfl 2 (by decide) (hts _ fl_M_44) (fun _ h9 => h9) rfl dM_close_149 ?_
          refine lv_iconst (v := 1) hx hb dM_close_152 (by decide) ?_
          refine lv_iadd hx hb dM_close_153 ?_
          refine ls_topi (y := nI (nc + 1)) (nI_1 _) ?_
          refine va_put (D := (dC, dI)) (ci := 2) (v := .int (nI (nc + 1))) (ty := .int) (C := RM) (T := TM) (N := 17) hx hb hts lyM tyM tyM_ok nmM hown hK hP hD hS 0 rfl rfl 2 (by decide) (hts _ fl_M_44) (fun _ h9 => h9) rfl (by decide +kernel) rfl rfl (Nat.le_of_ble_eq_true rfl) dM_close_154 (fun H locs hP hD hS => ?_)
          have hP : va_P (dC, dI) vwCl [(g0, .inr (2, [.int 0, .int (nI nv), .int (nI (nc + 1)), .ref aL, .int (nI (us + dr)), .ref aS, .int 0, .ref aF, .ref aN, .ref aA, .int (nI as), .ref aO, .ref aV, .int la, .int bl, .ref aT, .int (nI th)])), (aL, .inl (kL, 4000, .inl lf)), (aS, .inl (kS, 501, .inl (upd sf nc (nI us)))), (aF, .inl (kF, 17, .inl (upd ff (cl_v lit us dr) (nI nc)))), (aN, .inl (kN, 500, .inl (upd nf nc (ff (cl_v lit us dr)))))] H := hP
          have hD : va_D A [(g0, .inr (2, [.int 0, .int (nI nv), .int (nI (nc + 1)), .ref aL, .int (nI (us + dr)), .ref aS, .int 0, .ref aF, .ref aN, .ref aA, .int (nI as), .ref aO, .ref aV, .int la, .int bl, .ref aT, .int (nI th)])), (aL, .inl (kL, 4000, .inl lf)), (aS, .inl (kS, 501, .inl (upd sf nc (nI us)))), (aF, .inl (kF, 17, .inl (upd ff (cl_v lit us dr) (nI nc)))), (aN, .inl (kN, 500, .inl (upd nf nc (ff (cl_v lit us dr)))))] := hD
          refine lv_aload_n hx hb dM_close_157 rfl (lv_at hl 1 rfl) ?_
          refine va_get (D := (dC, dI)) (ci := 2) (v := .ref aS) (C := RM) (T := TM) (N := 17) hx hb hts lyM hown hK hP 0 rfl rfl 5 (by decide) (hts _ fl_M_13) (fun _ h9 => h9) rfl dM_close_158 ?_
          refine lv_aload_n hx hb dM_close_161 rfl (lv_at hl 1 rfl) ?_
          refine va_get (D := (dC, dI)) (ci := 2) (v := .int (nI (nc + 1))) (C := RM) (T := TM) (N := 17) hx hb hts lyM hown hK hP 0 rfl rfl 2 (by decide) (hts _ fl_M_44) (fun _ h9 => h9) rfl dM_close_162 ?_
          refine lv_aload_n hx hb dM_close_165 rfl (lv_at hl 1 rfl) ?_
          refine va_get (D := (dC, dI)) (ci := 2) (v := .int (nI (us + dr))) (C := RM) (T := TM) (N := 17) hx hb hts lyM hown hK hP 0 rfl rfl 4 (by decide) (hts _ fl_M_47) (fun _ h9 => h9) rfl dM_close_166 ?_
          refine va_iast hx hb hK hP hD hS 2 1 rfl rfl (vp_in_nI (by omega) (by decide)) dM_close_169 (fun H locs hP hD hS => ?_)
          rw [show upd (upd sf nc (nI us)) (nI (nc + 1)).toNatClampNeg (nI (us + dr)) = upd (upd sf nc (nI us)) (nc + 1) (nI (us + dr)) from by rw [nI_clamp (by omega)]] at hP hD
          have hP : va_P (dC, dI) vwCl [(g0, .inr (2, [.int 0, .int (nI nv), .int (nI (nc + 1)), .ref aL, .int (nI (us + dr)), .ref aS, .int 0, .ref aF, .ref aN, .ref aA, .int (nI as), .ref aO, .ref aV, .int la, .int bl, .ref aT, .int (nI th)])), (aL, .inl (kL, 4000, .inl lf)), (aS, .inl (kS, 501, .inl (upd (upd sf nc (nI us)) (nc + 1) (nI (us + dr))))), (aF, .inl (kF, 17, .inl (upd ff (cl_v lit us dr) (nI nc)))), (aN, .inl (kN, 500, .inl (upd nf nc (ff (cl_v lit us dr)))))] H := hP
          have hD : va_D A [(g0, .inr (2, [.int 0, .int (nI nv), .int (nI (nc + 1)), .ref aL, .int (nI (us + dr)), .ref aS, .int 0, .ref aF, .ref aN, .ref aA, .int (nI as), .ref aO, .ref aV, .int la, .int bl, .ref aT, .int (nI th)])), (aL, .inl (kL, 4000, .inl lf)), (aS, .inl (kS, 501, .inl (upd (upd sf nc (nI us)) (nc + 1) (nI (us + dr))))), (aF, .inl (kF, 17, .inl (upd ff (cl_v lit us dr) (nI nc)))), (aN, .inl (kN, 500, .inl (upd nf nc (ff (cl_v lit us dr)))))] := hD
          refine lv_aload_n hx hb dM_close_170 rfl (lv_at hl 1 rfl) ?_
          refine va_get (D := (dC, dI)) (ci := 2) (v := .int (nI (nc + 1))) (C := RM) (T := TM) (N := 17) hx hb hts lyM hown hK hP 0 rfl rfl 2 (by decide) (hts _ fl_M_44) (fun _ h9 => h9) rfl dM_close_171 ?_
          exact (W.iret (v := nI (nc + 1)) hx hb hr (fun t ht hW => ⟨⟨nI (nc + 1), (upd (upd sf nc (nI us)) (nc + 1) (nI (us + dr)), upd ff (cl_v lit us dr) (nI nc), upd nf nc (ff (cl_v lit us dr)), 0, nc + 1, us + dr, 0), rfl, Or.inr ⟨by omega, rfl, rfl, rfl, rfl, rfl, rfl, rfl⟩, by rw [ht]; exact hP, va_K.moved hW.alike hK, hD⟩, hS.F ht⟩) hS.2.2 dM_close_174)
        · have hz0 : cl_m lit us dr = 0 := by rw [← ej]; exact (cl_m1 (by omega)).mp c5
          refine lv_bipush (v := 16) hx hb dM_close_84 (by decide) ?_
          refine lv_goto (tgt := 90) hx hb dM_close_86 (by decide) ?_
          refine ls_topi (y := nI (cl_v lit us dr)) (by unfold cl_v; rw [if_pos hz0]; rfl) ?_
          refine lv_istore_n (lv' := [(1, .int (nI (cl_v lit us dr))), (0, .ref g0), (2, .int (nI (us + j)))]) hx hb dM_close_90 rfl hl (by decide) rfl (fun ls hl => ?_)
          refine lv_aload_n hx hb dM_close_91 rfl (lv_at hl 1 rfl) ?_
          refine va_get (D := (dC, dI)) (ci := 2) (v := .ref aS) (C := RM) (T := TM) (N := 17) hx hb hts lyM hown hK hP 0 rfl rfl 5 (by decide) (hts _ fl_M_13) (fun _ h9 => h9) rfl dM_close_92 ?_
          refine lv_aload_n hx hb dM_close_95 rfl (lv_at hl 1 rfl) ?_
          refine va_get (D := (dC, dI)) (ci := 2) (v := .int (nI nc)) (C := RM) (T := TM) (N := 17) hx hb hts lyM hown hK hP 0 rfl rfl 2 (by decide) (hts _ fl_M_44) (fun _ h9 => h9) rfl dM_close_96 ?_
          refine lv_aload_n hx hb dM_close_99 rfl (lv_at hl 1 rfl) ?_
          refine va_get (D := (dC, dI)) (ci := 2) (v := .int (nI us)) (C := RM) (T := TM) (N := 17) hx hb hts lyM hown hK hP 0 rfl rfl 4 (by decide) (hts _ fl_M_47) (fun _ h9 => h9) rfl dM_close_100 ?_
          refine va_iast hx hb hK hP hD hS 2 1 rfl rfl (vp_in_nI (by omega) (by decide)) dM_close_103 (fun H locs hP hD hS => ?_)
          rw [show upd sf (nI nc).toNatClampNeg (nI us) = upd sf nc (nI us) from by rw [nI_clamp (by omega)]] at hP hD
          have hP : va_P (dC, dI) vwCl [(g0, .inr (2, [.int 0, .int (nI nv), .int (nI nc), .ref aL, .int (nI us), .ref aS, .int (nI dr), .ref aF, .ref aN, .ref aA, .int (nI as), .ref aO, .ref aV, .int la, .int bl, .ref aT, .int (nI th)])), (aL, .inl (kL, 4000, .inl lf)), (aS, .inl (kS, 501, .inl (upd sf nc (nI us)))), (aF, .inl (kF, 17, .inl ff)), (aN, .inl (kN, 500, .inl nf))] H := hP
          have hD : va_D A [(g0, .inr (2, [.int 0, .int (nI nv), .int (nI nc), .ref aL, .int (nI us), .ref aS, .int (nI dr), .ref aF, .ref aN, .ref aA, .int (nI as), .ref aO, .ref aV, .int la, .int bl, .ref aT, .int (nI th)])), (aL, .inl (kL, 4000, .inl lf)), (aS, .inl (kS, 501, .inl (upd sf nc (nI us)))), (aF, .inl (kF, 17, .inl ff)), (aN, .inl (kN, 500, .inl nf))] := hD
          refine lv_aload_n hx hb dM_close_104 rfl (lv_at hl 1 rfl) ?_
          refine va_get (D := (dC, dI)) (ci := 2) (v := .ref aN) (C := RM) (T := TM) (N := 17) hx hb hts lyM hown hK hP 0 rfl rfl 8 (by decide) (hts _ fl_M_19) (fun _ h9 => h9) rfl dM_close_105 ?_
          refine lv_aload_n hx hb dM_close_108 rfl (lv_at hl 1 rfl) ?_
          refine va_get (D := (dC, dI)) (ci := 2) (v := .int (nI nc)) (C := RM) (T := TM) (N := 17) hx hb hts lyM hown hK hP 0 rfl rfl 2 (by decide) (hts _ fl_M_44) (fun _ h9 => h9) rfl dM_close_109 ?_
          refine lv_aload_n hx hb dM_close_112 rfl (lv_at hl 1 rfl) ?_
          refine va_get (D := (dC, dI)) (ci := 2) (v := .ref aF) (C := RM) (T := TM) (N := 17) hx hb hts lyM hown hK hP 0 rfl rfl 7 (by decide) (hts _ fl_M_16) (fun _ h9 => h9) rfl dM_close_113 ?_
          refine lv_iload_n hx hb dM_close_116 rfl (lv_at hl 0 rfl) ?_
          refine va_iald hx hb hK hP 3 2 rfl rfl (vp_in_nI (by omega) (by decide)) dM_close_117 ?_
          refine ls_topi (y := ff (cl_v lit us dr)) (by rw [nI_clamp (by omega)]) ?_
          refine va_iast hx hb hK hP hD hS 4 3 rfl rfl (vp_in_nI (by omega) (by decide)) dM_close_118 (fun H locs hP hD hS => ?_)
          rw [show upd nf (nI nc).toNatClampNeg (ff (cl_v lit us dr)) = upd nf nc (ff (cl_v lit us dr)) from by rw [nI_clamp (by omega)]] at hP hD
          have hP : va_P (dC, dI) vwCl [(g0, .inr (2, [.int 0, .int (nI nv), .int (nI nc), .ref aL, .int (nI us), .ref aS, .int (nI dr), .ref aF, .ref aN, .ref aA, .int (nI as), .ref aO, .ref aV, .int la, .int bl, .ref aT, .int (nI th)])), (aL, .inl (kL, 4000, .inl lf)), (aS, .inl (kS, 501, .inl (upd sf nc (nI us)))), (aF, .inl (kF, 17, .inl ff)), (aN, .inl (kN, 500, .inl (upd nf nc (ff (cl_v lit us dr)))))] H := hP
          have hD : va_D A [(g0, .inr (2, [.int 0, .int (nI nv), .int (nI nc), .ref aL, .int (nI us), .ref aS, .int (nI dr), .ref aF, .ref aN, .ref aA, .int (nI as), .ref aO, .ref aV, .int la, .int bl, .ref aT, .int (nI th)])), (aL, .inl (kL, 4000, .inl lf)), (aS, .inl (kS, 501, .inl (upd sf nc (nI us)))), (aF, .inl (kF, 17, .inl ff)), (aN, .inl (kN, 500, .inl (upd nf nc (ff (cl_v lit us dr)))))] := hD
          refine lv_aload_n hx hb dM_close_119 rfl (lv_at hl 1 rfl) ?_
          refine va_get (D := (dC, dI)) (ci := 2) (v := .ref aF) (C := RM) (T := TM) (N := 17) hx hb hts lyM hown hK hP 0 rfl rfl 7 (by decide) (hts _ fl_M_16) (fun _ h9 => h9) rfl dM_close_120 ?_
          refine lv_iload_n hx hb dM_close_123 rfl (lv_at hl 0 rfl) ?_
          refine lv_aload_n hx hb dM_close_124 rfl (lv_at hl 1 rfl) ?_
          refine va_get (D := (dC, dI)) (ci := 2) (v := .int (nI nc)) (C := RM) (T := TM) (N := 17) hx hb hts lyM hown hK hP 0 rfl rfl 2 (by decide) (hts _ fl_M_44) (fun _ h9 => h9) rfl dM_close_125 ?_
          refine va_iast hx hb hK hP hD hS 3 2 rfl rfl (vp_in_nI (by omega) (by decide)) dM_close_128 (fun H locs hP hD hS => ?_)
          rw [show upd ff (nI (cl_v lit us dr)).toNatClampNeg (nI nc) = upd ff (cl_v lit us dr) (nI nc) from by rw [nI_clamp (by omega)]] at hP hD
          have hP : va_P (dC, dI) vwCl [(g0, .inr (2, [.int 0, .int (nI nv), .int (nI nc), .ref aL, .int (nI us), .ref aS, .int (nI dr), .ref aF, .ref aN, .ref aA, .int (nI as), .ref aO, .ref aV, .int la, .int bl, .ref aT, .int (nI th)])), (aL, .inl (kL, 4000, .inl lf)), (aS, .inl (kS, 501, .inl (upd sf nc (nI us)))), (aF, .inl (kF, 17, .inl (upd ff (cl_v lit us dr) (nI nc)))), (aN, .inl (kN, 500, .inl (upd nf nc (ff (cl_v lit us dr)))))] H := hP
          have hD : va_D A [(g0, .inr (2, [.int 0, .int (nI nv), .int (nI nc), .ref aL, .int (nI us), .ref aS, .int (nI dr), .ref aF, .ref aN, .ref aA, .int (nI as), .ref aO, .ref aV, .int la, .int bl, .ref aT, .int (nI th)])), (aL, .inl (kL, 4000, .inl lf)), (aS, .inl (kS, 501, .inl (upd sf nc (nI us)))), (aF, .inl (kF, 17, .inl (upd ff (cl_v lit us dr) (nI nc)))), (aN, .inl (kN, 500, .inl (upd nf nc (ff (cl_v lit us dr)))))] := hD
          refine lv_aload_n hx hb dM_close_129 rfl (lv_at hl 1 rfl) ?_
          refine lv_dup hx hb dM_close_130 rfl ?_
          refine va_get (D := (dC, dI)) (ci := 2) (v := .int (nI us)) (C := RM) (T := TM) (N := 17) hx hb hts lyM hown hK hP 0 rfl rfl 4 (by decide) (hts _ fl_M_47) (fun _ h9 => h9) rfl dM_close_131 ?_
          refine lv_aload_n hx hb dM_close_134 rfl (lv_at hl 1 rfl) ?_
          refine va_get (D := (dC, dI)) (ci := 2) (v := .int (nI dr)) (C := RM) (T := TM) (N := 17) hx hb hts lyM hown hK hP 0 rfl rfl 6 (by decide) (hts _ fl_M_50) (fun _ h9 => h9) rfl dM_close_135 ?_
          refine lv_iadd hx hb dM_close_138 ?_
          refine ls_topi (y := nI (us + dr)) (nI_add _ _) ?_
          refine va_put (D := (dC, dI)) (ci := 2) (v := .int (nI (us + dr))) (ty := .int) (C := RM) (T := TM) (N := 17) hx hb hts lyM tyM tyM_ok nmM hown hK hP hD hS 0 rfl rfl 4 (by decide) (hts _ fl_M_47) (fun _ h9 => h9) rfl (by decide +kernel) rfl rfl (Nat.le_of_ble_eq_true rfl) dM_close_139 (fun H locs hP hD hS => ?_)
          have hP : va_P (dC, dI) vwCl [(g0, .inr (2, [.int 0, .int (nI nv), .int (nI nc), .ref aL, .int (nI (us + dr)), .ref aS, .int (nI dr), .ref aF, .ref aN, .ref aA, .int (nI as), .ref aO, .ref aV, .int la, .int bl, .ref aT, .int (nI th)])), (aL, .inl (kL, 4000, .inl lf)), (aS, .inl (kS, 501, .inl (upd sf nc (nI us)))), (aF, .inl (kF, 17, .inl (upd ff (cl_v lit us dr) (nI nc)))), (aN, .inl (kN, 500, .inl (upd nf nc (ff (cl_v lit us dr)))))] H := hP
          have hD : va_D A [(g0, .inr (2, [.int 0, .int (nI nv), .int (nI nc), .ref aL, .int (nI (us + dr)), .ref aS, .int (nI dr), .ref aF, .ref aN, .ref aA, .int (nI as), .ref aO, .ref aV, .int la, .int bl, .ref aT, .int (nI th)])), (aL, .inl (kL, 4000, .inl lf)), (aS, .inl (kS, 501, .inl (upd sf nc (nI us)))), (aF, .inl (kF, 17, .inl (upd ff (cl_v lit us dr) (nI nc)))), (aN, .inl (kN, 500, .inl (upd nf nc (ff (cl_v lit us dr)))))] := hD
          refine lv_aload_n hx hb dM_close_142 rfl (lv_at hl 1 rfl) ?_
          refine lv_iconst (v := 0) hx hb dM_close_143 (by decide) ?_
          refine va_put (D := (dC, dI)) (ci := 2) (v := .int 0) (ty := .int) (C := RM) (T := TM) (N := 17) hx hb hts lyM tyM tyM_ok nmM hown hK hP hD hS 0 rfl rfl 6 (by decide) (hts _ fl_M_50) (fun _ h9 => h9) rfl (by decide +kernel) rfl rfl (Nat.le_of_ble_eq_true rfl) dM_close_144 (fun H locs hP hD hS => ?_)
          have hP : va_P (dC, dI) vwCl [(g0, .inr (2, [.int 0, .int (nI nv), .int (nI nc), .ref aL, .int (nI (us + dr)), .ref aS, .int 0, .ref aF, .ref aN, .ref aA, .int (nI as), .ref aO, .ref aV, .int la, .int bl, .ref aT, .int (nI th)])), (aL, .inl (kL, 4000, .inl lf)), (aS, .inl (kS, 501, .inl (upd sf nc (nI us)))), (aF, .inl (kF, 17, .inl (upd ff (cl_v lit us dr) (nI nc)))), (aN, .inl (kN, 500, .inl (upd nf nc (ff (cl_v lit us dr)))))] H := hP
          have hD : va_D A [(g0, .inr (2, [.int 0, .int (nI nv), .int (nI nc), .ref aL, .int (nI (us + dr)), .ref aS, .int 0, .ref aF, .ref aN, .ref aA, .int (nI as), .ref aO, .ref aV, .int la, .int bl, .ref aT, .int (nI th)])), (aL, .inl (kL, 4000, .inl lf)), (aS, .inl (kS, 501, .inl (upd sf nc (nI us)))), (aF, .inl (kF, 17, .inl (upd ff (cl_v lit us dr) (nI nc)))), (aN, .inl (kN, 500, .inl (upd nf nc (ff (cl_v lit us dr)))))] := hD
          refine lv_aload_n hx hb dM_close_147 rfl (lv_at hl 1 rfl) ?_
          refine lv_dup hx hb dM_close_148 rfl ?_
          refine va_get (D := (dC, dI)) (ci := 2) (v := .int (nI nc)) (C := RM) (T := TM) (N := 17) hx hb hts lyM hown hK hP 0 rfl rfl 2 (by decide) (hts _ fl_M_44) (fun _ h9 => h9) rfl dM_close_149 ?_
          refine lv_iconst (v := 1) hx hb dM_close_152 (by decide) ?_
          refine lv_iadd hx hb dM_close_153 ?_
          refine ls_topi (y := nI (nc + 1)) (nI_1 _) ?_
          refine va_put (D := (dC, dI)) (ci := 2) (v := .int (nI (nc + 1))) (ty := .int) (C := RM) (T := TM) (N := 17) hx hb hts lyM tyM tyM_ok nmM hown hK hP hD hS 0 rfl rfl 2 (by decide) (hts _ fl_M_44) (fun _ h9 => h9) rfl (by decide +kernel) rfl rfl (Nat.le_of_ble_eq_true rfl) dM_close_154 (fun H locs hP hD hS => ?_)
          have hP : va_P (dC, dI) vwCl [(g0, .inr (2, [.int 0, .int (nI nv), .int (nI (nc + 1)), .ref aL, .int (nI (us + dr)), .ref aS, .int 0, .ref aF, .ref aN, .ref aA, .int (nI as), .ref aO, .ref aV, .int la, .int bl, .ref aT, .int (nI th)])), (aL, .inl (kL, 4000, .inl lf)), (aS, .inl (kS, 501, .inl (upd sf nc (nI us)))), (aF, .inl (kF, 17, .inl (upd ff (cl_v lit us dr) (nI nc)))), (aN, .inl (kN, 500, .inl (upd nf nc (ff (cl_v lit us dr)))))] H := hP
          have hD : va_D A [(g0, .inr (2, [.int 0, .int (nI nv), .int (nI (nc + 1)), .ref aL, .int (nI (us + dr)), .ref aS, .int 0, .ref aF, .ref aN, .ref aA, .int (nI as), .ref aO, .ref aV, .int la, .int bl, .ref aT, .int (nI th)])), (aL, .inl (kL, 4000, .inl lf)), (aS, .inl (kS, 501, .inl (upd sf nc (nI us)))), (aF, .inl (kF, 17, .inl (upd ff (cl_v lit us dr) (nI nc)))), (aN, .inl (kN, 500, .inl (upd nf nc (ff (cl_v lit us dr)))))] := hD
          refine lv_aload_n hx hb dM_close_157 rfl (lv_at hl 1 rfl) ?_
          refine va_get (D := (dC, dI)) (ci := 2) (v := .ref aS) (C := RM) (T := TM) (N := 17) hx hb hts lyM hown hK hP 0 rfl rfl 5 (by decide) (hts _ fl_M_13) (fun _ h9 => h9) rfl dM_close_158 ?_
          refine lv_aload_n hx hb dM_close_161 rfl (lv_at hl 1 rfl) ?_
          refine va_get (D := (dC, dI)) (ci := 2) (v := .int (nI (nc + 1))) (C := RM) (T := TM) (N := 17) hx hb hts lyM hown hK hP 0 rfl rfl 2 (by decide) (hts _ fl_M_44) (fun _ h9 => h9) rfl dM_close_162 ?_
          refine lv_aload_n hx hb dM_close_165 rfl (lv_at hl 1 rfl) ?_
          refine va_get (D := (dC, dI)) (ci := 2) (v := .int (nI (us + dr))) (C := RM) (T := TM) (N := 17) hx hb hts lyM hown hK hP 0 rfl rfl 4 (by decide) (hts _ fl_M_47) (fun _ h9 => h9) rfl dM_close_166 ?_
          refine va_iast hx hb hK hP hD hS 2 1 rfl rfl (vp_in_nI (by omega) (by decide)) dM_close_169 (fun H locs hP hD hS => ?_)
          rw [show upd (upd sf nc (nI us)) (nI (nc + 1)).toNatClampNeg (nI (us + dr)) = upd (upd sf nc (nI us)) (nc + 1) (nI (us + dr)) from by rw [nI_clamp (by omega)]] at hP hD
          have hP : va_P (dC, dI) vwCl [(g0, .inr (2, [.int 0, .int (nI nv), .int (nI (nc + 1)), .ref aL, .int (nI (us + dr)), .ref aS, .int 0, .ref aF, .ref aN, .ref aA, .int (nI as), .ref aO, .ref aV, .int la, .int bl, .ref aT, .int (nI th)])), (aL, .inl (kL, 4000, .inl lf)), (aS, .inl (kS, 501, .inl (upd (upd sf nc (nI us)) (nc + 1) (nI (us + dr))))), (aF, .inl (kF, 17, .inl (upd ff (cl_v lit us dr) (nI nc)))), (aN, .inl (kN, 500, .inl (upd nf nc (ff (cl_v lit us dr)))))] H := hP
          have hD : va_D A [(g0, .inr (2, [.int 0, .int (nI nv), .int (nI (nc + 1)), .ref aL, .int (nI (us + dr)), .ref aS, .int 0, .ref aF, .ref aN, .ref aA, .int (nI as), .ref aO, .ref aV, .int la, .int bl, .ref aT, .int (nI th)])), (aL, .inl (kL, 4000, .inl lf)), (aS, .inl (kS, 501, .inl (upd (upd sf nc (nI us)) (nc + 1) (nI (us + dr))))), (aF, .inl (kF, 17, .inl (upd ff (cl_v lit us dr) (nI nc)))), (aN, .inl (kN, 500, .inl (upd nf nc (ff (cl_v lit us dr)))))] := hD
          refine lv_aload_n hx hb dM_close_170 rfl (lv_at hl 1 rfl) ?_
          refine va_get (D := (dC, dI)) (ci := 2) (v := .int (nI (nc + 1))) (C := RM) (T := TM) (N := 17) hx hb hts lyM hown hK hP 0 rfl rfl 2 (by decide) (hts _ fl_M_44) (fun _ h9 => h9) rfl dM_close_171 ?_
          exact (W.iret (v := nI (nc + 1)) hx hb hr (fun t ht hW => ⟨⟨nI (nc + 1), (upd (upd sf nc (nI us)) (nc + 1) (nI (us + dr)), upd ff (cl_v lit us dr) (nI nc), upd nf nc (ff (cl_v lit us dr)), 0, nc + 1, us + dr, 0), rfl, Or.inr ⟨by omega, rfl, rfl, rfl, rfl, rfl, rfl, rfl⟩, by rw [ht]; exact hP, va_K.moved hW.alike hK, hD⟩, hS.F ht⟩) hS.2.2 dM_close_174)
      · have c4 : us + j < us + dr := Nat.lt_of_not_le (fun q => c4 ((nI_leI (a := us + dr) (b := us + j) (by omega) (by omega)).mpr q))
        have hl1 := hlit (us + j) (by omega)
        refine lv_aload_n hx hb dM_close_48 rfl (lv_at hl 0 rfl) ?_
        refine va_get (D := (dC, dI)) (ci := 2) (v := .ref aL) (C := RM) (T := TM) (N := 17) hx hb hts lyM hown hK hP 0 rfl rfl 3 (by decide) (hts _ fl_M_7) (fun _ h9 => h9) rfl dM_close_49 ?_
        refine lv_iload_n hx hb dM_close_52 rfl (lv_at hl 2 rfl) ?_
        refine va_iald hx hb hK hP 1 0 rfl rfl (vp_in_nI (by omega) (by decide)) dM_close_53 ?_
        refine ls_topi (y := nI (lit (us + j))) (by rw [nI_clamp (by omega)]; exact hl1.1) ?_
        refine lv_iconst (v := 2) hx hb dM_close_54 (by decide) ?_
        refine lv_idiv hx hb dM_close_55 (by decide) ?_
        refine ls_topi (y := nI (lit (us + j) / 2)) (pk_div (by omega) (by decide) (by decide)) ?_
        refine lv_iload_n hx hb dM_close_56 rfl (lv_at hl 1 rfl) ?_
        refine lv_icmp_le (tgt := 71) hx hb dM_close_57 (by decide) (fun c6 => ?_) (fun c6 => ?_)
        · have c6 := (cl_le (by omega) (by omega)).mp c6
          refine lv_iload_n hx hb dM_close_71 rfl (lv_at hl 1 rfl) ?_
          refine ls_topi (y := sx (cl_m lit us (j + 1))) (by congr 1; simp only [cl_m]; omega) ?_
          refine lv_istore_n (lv' := [(1, .int (sx (cl_m lit us (j + 1)))), (0, .ref g0), (2, .int (nI (us + j)))]) hx hb dM_close_72 rfl hl (by decide) rfl (fun ls hl => ?_)
          refine lv_iinc (v := nI (us + (j + 1))) (lv' := [(2, .int (nI (us + (j + 1)))), (1, .int (sx (cl_m lit us (j + 1)))), (0, .ref g0)]) hx hb dM_close_73 hl (k := 2) rfl (nI_1 _) (by decide) rfl (fun ls hl => ?_)
          refine lv_goto (tgt := 35) hx hb dM_close_76 (by decide) ?_
          exact ih (j + 1) _ _ _ (by show dr - (j + 1) < dr - j; omega) ⟨by omega, hP, hD, hS, lv_sub hl [2, 1, 0] rfl⟩
        · have c6 : ¬ lit (us + j) / 2 + 1 ≤ cl_m lit us j := fun h => c6 ((cl_le (by omega) (by omega)).mpr h)
          refine lv_aload_n hx hb dM_close_60 rfl (lv_at hl 0 rfl) ?_
          refine va_get (D := (dC, dI)) (ci := 2) (v := .ref aL) (C := RM) (T := TM) (N := 17) hx hb hts lyM hown hK hP 0 rfl rfl 3 (by decide) (hts _ fl_M_7) (fun _ h9 => h9) rfl dM_close_61 ?_
          refine lv_iload_n hx hb dM_close_64 rfl (lv_at hl 2 rfl) ?_
          refine va_iald hx hb hK hP 1 0 rfl rfl (vp_in_nI (by omega) (by decide)) dM_close_65 ?_
          refine ls_topi (y := nI (lit (us + j))) (by rw [nI_clamp (by omega)]; exact hl1.1) ?_
          refine lv_iconst (v := 2) hx hb dM_close_66 (by decide) ?_
          refine lv_idiv hx hb dM_close_67 (by decide) ?_
          refine ls_topi (y := sx (cl_m lit us (j + 1))) (by rw [show cl_m lit us (j + 1) = lit (us + j) / 2 + 1 by simp only [cl_m]; omega]; exact pk_div (by omega) (by decide) (by decide)) ?_
          refine lv_goto (tgt := 72) hx hb dM_close_68 (by decide) ?_
          refine lv_istore_n (lv' := [(1, .int (sx (cl_m lit us (j + 1)))), (0, .ref g0), (2, .int (nI (us + j)))]) hx hb dM_close_72 rfl hl (by decide) rfl (fun ls hl => ?_)
          refine lv_iinc (v := nI (us + (j + 1))) (lv' := [(2, .int (nI (us + (j + 1)))), (1, .int (sx (cl_m lit us (j + 1)))), (0, .ref g0)]) hx hb dM_close_73 hl (k := 2) rfl (nI_1 _) (by decide) rfl (fun ls hl => ?_)
          refine lv_goto (tgt := 35) hx hb dM_close_76 (by decide) ?_
          exact ih (j + 1) _ _ _ (by show dr - (j + 1) < dr - j; omega) ⟨by omega, hP, hD, hS, lv_sub hl [2, 1, 0] rfl⟩
    · exact absurd (by decide) c9
  · have c1 : nc = 500 := (nI_eq (a := nc) (b := 500) (by omega) (by omega)).mp c1
    refine lv_iconst (v := 1) hx hb dM_close_11 (by decide) ?_
    refine lv_goto (tgt := 16) hx hb dM_close_12 (by decide) ?_
    refine va_put (D := (dC, dI)) (ci := 2) (v := .int 1) (ty := .int) (C := RM) (T := TM) (N := 17) hx hb hts lyM tyM tyM_ok nmM hown hK hP hD hS 0 rfl rfl 0 (by decide) (hts _ fl_M_37) (fun _ h9 => h9) rfl (by decide +kernel) rfl rfl (Nat.le_of_ble_eq_true rfl) dM_close_16 (fun H locs hP hD hS => ?_)
    have hP : va_P (dC, dI) vwCl [(g0, .inr (2, [.int 1, .int (nI nv), .int (nI nc), .ref aL, .int (nI us), .ref aS, .int (nI dr), .ref aF, .ref aN, .ref aA, .int (nI as), .ref aO, .ref aV, .int la, .int bl, .ref aT, .int (nI th)])), (aL, .inl (kL, 4000, .inl lf)), (aS, .inl (kS, 501, .inl sf)), (aF, .inl (kF, 17, .inl ff)), (aN, .inl (kN, 500, .inl nf))] H := hP
    have hD : va_D A [(g0, .inr (2, [.int 1, .int (nI nv), .int (nI nc), .ref aL, .int (nI us), .ref aS, .int (nI dr), .ref aF, .ref aN, .ref aA, .int (nI as), .ref aO, .ref aV, .int la, .int bl, .ref aT, .int (nI th)])), (aL, .inl (kL, 4000, .inl lf)), (aS, .inl (kS, 501, .inl sf)), (aF, .inl (kF, 17, .inl ff)), (aN, .inl (kN, 500, .inl nf))] := hD
    refine lv_aload_n hx hb dM_close_19 rfl (lv_at hl 0 rfl) ?_
    refine va_get (D := (dC, dI)) (ci := 2) (v := .int 1) (C := RM) (T := TM) (N := 17) hx hb hts lyM hown hK hP 0 rfl rfl 0 (by decide) (hts _ fl_M_37) (fun _ h9 => h9) rfl dM_close_20 ?_
    refine lv_if_le (tgt := 28) hx hb dM_close_23 (by decide) (fun c9 => ?_) (fun c9 => ?_)
    · exact absurd c9 (by decide)
    · refine lv_iconst (v := 0) hx hb dM_close_26 (by decide) ?_
      exact (W.iret (v := 0) hx hb hr (fun t ht hW => ⟨⟨0, (sf, ff, nf, 1, nc, us, dr), rfl, Or.inl ⟨c1, rfl⟩, by rw [ht]; exact hP, va_K.moved hW.alike hK, hD⟩, hS.F ht⟩) hS.2.2 dM_close_27)
set_option maxHeartbeats 4000000 in
set_option maxRecDepth 100000 in
theorem k_M_init (l : Launch) (dC : Nat → ClassId) (dI : Nat → Nat → Nat) (tI sz : Nat) (g0 : Nat) : Met l yM_init (Cond.code yM_init cM_init 1 none :: GG) (lvr 1 8 5130) (va_Pc [.ref g0] (wPre dC dI [] [(g0, .inr (2, [.int 0, .int 0, .int 0, .null, .int 0, .null, .int 0, .null, .null, .null, .int 0, .null, .null, .int 0, .int 0, .null, .int 0]))] sz tI)) (va_Qv (fun (u : Nat × Nat × Nat × Nat × Nat × Nat × Nat × Nat × ClassId × ClassId × ClassId × ClassId × ClassId × ClassId × ClassId × ClassId × (Nat → Int32)) => ∀ k, k < 17 → u.2.2.2.2.2.2.2.2.2.2.2.2.2.2.2.2 k = -1) (fun u t => wB dC dI [(u.2.2.2.2.2.2.2.2.1, .int), (u.2.2.2.2.2.2.2.2.2.1, .int), (u.2.2.2.2.2.2.2.2.2.2.1, .int), (u.2.2.2.2.2.2.2.2.2.2.2.1, .int), (u.2.2.2.2.2.2.2.2.2.2.2.2.1, .int), (u.2.2.2.2.2.2.2.2.2.2.2.2.2.1, .int), (u.2.2.2.2.2.2.2.2.2.2.2.2.2.2.1, .int), (u.2.2.2.2.2.2.2.2.2.2.2.2.2.2.2.1, .int)] (va_A [(g0, .inr (2, [.int 0, .int 0, .int 0, .null, .int 0, .null, .int 0, .null, .null, .null, .int 0, .null, .null, .int 0, .int 0, .null, .int 0]))] sz) [(g0, .inr (2, [.int 0, .int 0, .int 0, .ref u.1, .int 0, .ref u.2.1, .int 0, .ref u.2.2.1, .ref u.2.2.2.1, .ref u.2.2.2.2.1, .int 0, .ref u.2.2.2.2.2.1, .ref u.2.2.2.2.2.2.1, .int 0, .int 0, .ref u.2.2.2.2.2.2.2.1, .int 0])), (u.1, .inl (u.2.2.2.2.2.2.2.2.1, 4000, .inl (fun _ => 0))), (u.2.1, .inl (u.2.2.2.2.2.2.2.2.2.1, 501, .inl (fun _ => 0))), (u.2.2.1, .inl (u.2.2.2.2.2.2.2.2.2.2.1, 17, .inl u.2.2.2.2.2.2.2.2.2.2.2.2.2.2.2.2)), (u.2.2.2.1, .inl (u.2.2.2.2.2.2.2.2.2.2.2.1, 500, .inl (fun _ => 0))), (u.2.2.2.2.1, .inl (u.2.2.2.2.2.2.2.2.2.2.2.2.1, 64, .inl (fun _ => 0))), (u.2.2.2.2.2.1, .inl (u.2.2.2.2.2.2.2.2.2.2.2.2.2.1, 16, .inl (fun _ => 0))), (u.2.2.2.2.2.2.1, .inl (u.2.2.2.2.2.2.2.2.2.2.2.2.2.2.1, 16, .inl (fun _ => 0))), (u.2.2.2.2.2.2.2.1, .inl (u.2.2.2.2.2.2.2.2.2.2.2.2.2.2.2.1, 16, .inl (fun _ => 0)))] t) (va_A [(g0, .inr (2, [.int 0, .int 0, .int 0, .null, .int 0, .null, .int 0, .null, .null, .null, .int 0, .null, .null, .int 0, .int 0, .null, .int 0]))] sz)) 8 5130 (va_A [(g0, .inr (2, [.int 0, .int 0, .int 0, .null, .int 0, .null, .int 0, .null, .null, .null, .int 0, .null, .null, .int 0, .int 0, .null, .int 0]))] sz) := by
  refine Met.ofW (cc := cM_init) (maxL := 1) (ret := none) (by decide) rfl ?_
  intro p e s m args below meth c s₁ B hml hv
  obtain ⟨rfl, hsz, hP, hK, hD0, hZ, hX⟩ := hv
  have hx := B.exec
  have hb := B.bytes
  have hr := B.returns
  have hts : ∀ w ∈ GG, w.before ([.ref g0] : List Value).toArray s = true := fun w h => atoms_spec (ws := _ :: GG) B.pre w (List.mem_cons_of_mem _ h)
  have hown : s.vm.findClass RM = some m.cls := findClass_of_methodNamed B.named
  have hlocks := B.notSynchronized
  have hin : meth.name = "<init>" := (name_of_methodNamed B.named B.method).1
  subst hsz
  have hD := hD0.self (sz := s.heap.size)
  generalize hAe : va_A [(g0, .inr (2, [.int 0, .int 0, .int 0, .null, .int 0, .null, .int 0, .null, .null, .null, .int 0, .null, .null, .int 0, .int 0, .null, .int 0]))] s.heap.size = A at hD hZ ⊢
  have hA : ∀ q : Nat, s.heap.size ≤ q → A q := fun q h => by rw [← hAe]; exact Or.inr h
  have hS : va_S A s.heap s.heap [] := va_S.rf
  have hl := lv_entry ([.ref g0]) (n := 1) (Nat.le_of_ble_eq_true rfl)
  rw [lg_entry_eq]
  generalize (lg_sl ([.ref g0]) ++ List.replicate (1 - (lg_sl ([.ref g0])).length) Slot.unset).toArray = ls at hl ⊢
  have hl : lv_has ls 1 [(0, .ref g0)] := hl
  have SF : CallFix p m c cM_init 1 s ([.ref g0] : List Value).toArray GG RM := ⟨hx, hb, hml, hown, hts⟩
  skip
  have hP : va_P (dC, dI) vwCl [(g0, .inr (2, [.int 0, .int 0, .int 0, .null, .int 0, .null, .int 0, .null, .null, .null, .int 0, .null, .null, .int 0, .int 0, .null, .int 0]))] s.heap := hP
  refine lv_aload_n hx hb dM_init_0 rfl (lv_at hl 0 rfl) ?_
  refine W.objInit hx hb hown (hts _ ml_M_1) (hts _ im_object) (hts _ co_object) rfl (by rw [hml]; exact hl.1) rfl dM_init_1 (Nat.le_of_ble_eq_true rfl) (Nat.le_of_ble_eq_true rfl) ?_
  refine W.eq (g2 := F0 m 4 ls []) rfl ?_
  refine lv_aload_n hx hb dM_init_4 rfl (lv_at hl 0 rfl) ?_
  refine lv_sipush (v := 4000) hx hb dM_init_5 (by decide) ?_
  refine va_newa (atype := .int) (a0 := (4000, .inl (fun _ => 0))) hx hb (hts _ ac_int) rfl hK hP hD hS hA (fun _ => rfl) (by decide) rfl (by decide) (Nat.le_of_ble_eq_true rfl) (Nat.le_of_ble_eq_true rfl) dM_init_8 (fun aL kL H hK hP hD hS => ?_)
  have hP : va_P (dC, dI) vwCl [(g0, .inr (2, [.int 0, .int 0, .int 0, .null, .int 0, .null, .int 0, .null, .null, .null, .int 0, .null, .null, .int 0, .int 0, .null, .int 0])), (aL, .inl (kL, 4000, .inl (fun _ => 0)))] H := hP
  have hD : va_D A [(g0, .inr (2, [.int 0, .int 0, .int 0, .null, .int 0, .null, .int 0, .null, .null, .null, .int 0, .null, .null, .int 0, .int 0, .null, .int 0])), (aL, .inl (kL, 4000, .inl (fun _ => 0)))] := hD
  have hK : va_K (dC, dI) vwCl [(kL, .int)] s := hK
  refine va_putF (D := (dC, dI)) (ci := 2) (v := .ref aL) (ty := .array .int) (C := RM) (T := TM) (N := 17) hx hb hts lyM tyM tyM_ok nmM hown hK hP hD hS 0 rfl rfl 3 (by decide) (hts _ fl_M_7) (fun _ h9 => h9) rfl hin rfl (by decide +kernel) rfl rfl (Nat.le_of_ble_eq_true rfl) dM_init_10 (fun H locs hP hD hS => ?_)
  have hP : va_P (dC, dI) vwCl [(g0, .inr (2, [.int 0, .int 0, .int 0, .ref aL, .int 0, .null, .int 0, .null, .null, .null, .int 0, .null, .null, .int 0, .int 0, .null, .int 0])), (aL, .inl (kL, 4000, .inl (fun _ => 0)))] H := hP
  have hD : va_D A [(g0, .inr (2, [.int 0, .int 0, .int 0, .ref aL, .int 0, .null, .int 0, .null, .null, .null, .int 0, .null, .null, .int 0, .int 0, .null, .int 0])), (aL, .inl (kL, 4000, .inl (fun _ => 0)))] := hD
  refine lv_aload_n hx hb dM_init_13 rfl (lv_at hl 0 rfl) ?_
  refine lv_sipush (v := 501) hx hb dM_init_14 (by decide) ?_
  refine va_newa (atype := .int) (a0 := (501, .inl (fun _ => 0))) hx hb (hts _ ac_int) rfl hK hP hD hS hA (fun _ => rfl) (by decide) rfl (by decide) (Nat.le_of_ble_eq_true rfl) (Nat.le_of_ble_eq_true rfl) dM_init_17 (fun aS kS H hK hP hD hS => ?_)
  have hP : va_P (dC, dI) vwCl [(g0, .inr (2, [.int 0, .int 0, .int 0, .ref aL, .int 0, .null, .int 0, .null, .null, .null, .int 0, .null, .null, .int 0, .int 0, .null, .int 0])), (aL, .inl (kL, 4000, .inl (fun _ => 0))), (aS, .inl (kS, 501, .inl (fun _ => 0)))] H := hP
  have hD : va_D A [(g0, .inr (2, [.int 0, .int 0, .int 0, .ref aL, .int 0, .null, .int 0, .null, .null, .null, .int 0, .null, .null, .int 0, .int 0, .null, .int 0])), (aL, .inl (kL, 4000, .inl (fun _ => 0))), (aS, .inl (kS, 501, .inl (fun _ => 0)))] := hD
  have hK : va_K (dC, dI) vwCl [(kL, .int), (kS, .int)] s := hK
  refine va_putF (D := (dC, dI)) (ci := 2) (v := .ref aS) (ty := .array .int) (C := RM) (T := TM) (N := 17) hx hb hts lyM tyM tyM_ok nmM hown hK hP hD hS 0 rfl rfl 5 (by decide) (hts _ fl_M_13) (fun _ h9 => h9) rfl hin rfl (by decide +kernel) rfl rfl (Nat.le_of_ble_eq_true rfl) dM_init_19 (fun H locs hP hD hS => ?_)
  have hP : va_P (dC, dI) vwCl [(g0, .inr (2, [.int 0, .int 0, .int 0, .ref aL, .int 0, .ref aS, .int 0, .null, .null, .null, .int 0, .null, .null, .int 0, .int 0, .null, .int 0])), (aL, .inl (kL, 4000, .inl (fun _ => 0))), (aS, .inl (kS, 501, .inl (fun _ => 0)))] H := hP
  have hD : va_D A [(g0, .inr (2, [.int 0, .int 0, .int 0, .ref aL, .int 0, .ref aS, .int 0, .null, .null, .null, .int 0, .null, .null, .int 0, .int 0, .null, .int 0])), (aL, .inl (kL, 4000, .inl (fun _ => 0))), (aS, .inl (kS, 501, .inl (fun _ => 0)))] := hD
  refine lv_aload_n hx hb dM_init_22 rfl (lv_at hl 0 rfl) ?_
  refine lv_bipush (v := 17) hx hb dM_init_23 (by decide) ?_
  refine va_newa (atype := .int) (a0 := (17, .inl (fun _ => 0))) hx hb (hts _ ac_int) rfl hK hP hD hS hA (fun _ => rfl) (by decide) rfl (by decide) (Nat.le_of_ble_eq_true rfl) (Nat.le_of_ble_eq_true rfl) dM_init_25 (fun aF kF H hK hP hD hS => ?_)
  have hP : va_P (dC, dI) vwCl [(g0, .inr (2, [.int 0, .int 0, .int 0, .ref aL, .int 0, .ref aS, .int 0, .null, .null, .null, .int 0, .null, .null, .int 0, .int 0, .null, .int 0])), (aL, .inl (kL, 4000, .inl (fun _ => 0))), (aS, .inl (kS, 501, .inl (fun _ => 0))), (aF, .inl (kF, 17, .inl (fun _ => 0)))] H := hP
  have hD : va_D A [(g0, .inr (2, [.int 0, .int 0, .int 0, .ref aL, .int 0, .ref aS, .int 0, .null, .null, .null, .int 0, .null, .null, .int 0, .int 0, .null, .int 0])), (aL, .inl (kL, 4000, .inl (fun _ => 0))), (aS, .inl (kS, 501, .inl (fun _ => 0))), (aF, .inl (kF, 17, .inl (fun _ => 0)))] := hD
  have hK : va_K (dC, dI) vwCl [(kL, .int), (kS, .int), (kF, .int)] s := hK
  refine va_putF (D := (dC, dI)) (ci := 2) (v := .ref aF) (ty := .array .int) (C := RM) (T := TM) (N := 17) hx hb hts lyM tyM tyM_ok nmM hown hK hP hD hS 0 rfl rfl 7 (by decide) (hts _ fl_M_16) (fun _ h9 => h9) rfl hin rfl (by decide +kernel) rfl rfl (Nat.le_of_ble_eq_true rfl) dM_init_27 (fun H locs hP hD hS => ?_)
  have hP : va_P (dC, dI) vwCl [(g0, .inr (2, [.int 0, .int 0, .int 0, .ref aL, .int 0, .ref aS, .int 0, .ref aF, .null, .null, .int 0, .null, .null, .int 0, .int 0, .null, .int 0])), (aL, .inl (kL, 4000, .inl (fun _ => 0))), (aS, .inl (kS, 501, .inl (fun _ => 0))), (aF, .inl (kF, 17, .inl (fun _ => 0)))] H := hP
  have hD : va_D A [(g0, .inr (2, [.int 0, .int 0, .int 0, .ref aL, .int 0, .ref aS, .int 0, .ref aF, .null, .null, .int 0, .null, .null, .int 0, .int 0, .null, .int 0])), (aL, .inl (kL, 4000, .inl (fun _ => 0))), (aS, .inl (kS, 501, .inl (fun _ => 0))), (aF, .inl (kF, 17, .inl (fun _ => 0)))] := hD
  refine lv_aload_n hx hb dM_init_30 rfl (lv_at hl 0 rfl) ?_
  refine lv_sipush (v := 500) hx hb dM_init_31 (by decide) ?_
  refine va_newa (atype := .int) (a0 := (500, .inl (fun _ => 0))) hx hb (hts _ ac_int) rfl hK hP hD hS hA (fun _ => rfl) (by decide) rfl (by decide) (Nat.le_of_ble_eq_true rfl) (Nat.le_of_ble_eq_true rfl) dM_init_34 (fun aN kN H hK hP hD hS => ?_)
  have hP : va_P (dC, dI) vwCl [(g0, .inr (2, [.int 0, .int 0, .int 0, .ref aL, .int 0, .ref aS, .int 0, .ref aF, .null, .null, .int 0, .null, .null, .int 0, .int 0, .null, .int 0])), (aL, .inl (kL, 4000, .inl (fun _ => 0))), (aS, .inl (kS, 501, .inl (fun _ => 0))), (aF, .inl (kF, 17, .inl (fun _ => 0))), (aN, .inl (kN, 500, .inl (fun _ => 0)))] H := hP
  have hD : va_D A [(g0, .inr (2, [.int 0, .int 0, .int 0, .ref aL, .int 0, .ref aS, .int 0, .ref aF, .null, .null, .int 0, .null, .null, .int 0, .int 0, .null, .int 0])), (aL, .inl (kL, 4000, .inl (fun _ => 0))), (aS, .inl (kS, 501, .inl (fun _ => 0))), (aF, .inl (kF, 17, .inl (fun _ => 0))), (aN, .inl (kN, 500, .inl (fun _ => 0)))] := hD
  have hK : va_K (dC, dI) vwCl [(kL, .int), (kS, .int), (kF, .int), (kN, .int)] s := hK
  refine va_putF (D := (dC, dI)) (ci := 2) (v := .ref aN) (ty := .array .int) (C := RM) (T := TM) (N := 17) hx hb hts lyM tyM tyM_ok nmM hown hK hP hD hS 0 rfl rfl 8 (by decide) (hts _ fl_M_19) (fun _ h9 => h9) rfl hin rfl (by decide +kernel) rfl rfl (Nat.le_of_ble_eq_true rfl) dM_init_36 (fun H locs hP hD hS => ?_)
  have hP : va_P (dC, dI) vwCl [(g0, .inr (2, [.int 0, .int 0, .int 0, .ref aL, .int 0, .ref aS, .int 0, .ref aF, .ref aN, .null, .int 0, .null, .null, .int 0, .int 0, .null, .int 0])), (aL, .inl (kL, 4000, .inl (fun _ => 0))), (aS, .inl (kS, 501, .inl (fun _ => 0))), (aF, .inl (kF, 17, .inl (fun _ => 0))), (aN, .inl (kN, 500, .inl (fun _ => 0)))] H := hP
  have hD : va_D A [(g0, .inr (2, [.int 0, .int 0, .int 0, .ref aL, .int 0, .ref aS, .int 0, .ref aF, .ref aN, .null, .int 0, .null, .null, .int 0, .int 0, .null, .int 0])), (aL, .inl (kL, 4000, .inl (fun _ => 0))), (aS, .inl (kS, 501, .inl (fun _ => 0))), (aF, .inl (kF, 17, .inl (fun _ => 0))), (aN, .inl (kN, 500, .inl (fun _ => 0)))] := hD
  refine lv_aload_n hx hb dM_init_39 rfl (lv_at hl 0 rfl) ?_
  refine lv_bipush (v := 64) hx hb dM_init_40 (by decide) ?_
  refine va_newa (atype := .int) (a0 := (64, .inl (fun _ => 0))) hx hb (hts _ ac_int) rfl hK hP hD hS hA (fun _ => rfl) (by decide) rfl (by decide) (Nat.le_of_ble_eq_true rfl) (Nat.le_of_ble_eq_true rfl) dM_init_42 (fun aA kA H hK hP hD hS => ?_)
  have hP : va_P (dC, dI) vwCl [(g0, .inr (2, [.int 0, .int 0, .int 0, .ref aL, .int 0, .ref aS, .int 0, .ref aF, .ref aN, .null, .int 0, .null, .null, .int 0, .int 0, .null, .int 0])), (aL, .inl (kL, 4000, .inl (fun _ => 0))), (aS, .inl (kS, 501, .inl (fun _ => 0))), (aF, .inl (kF, 17, .inl (fun _ => 0))), (aN, .inl (kN, 500, .inl (fun _ => 0))), (aA, .inl (kA, 64, .inl (fun _ => 0)))] H := hP
  have hD : va_D A [(g0, .inr (2, [.int 0, .int 0, .int 0, .ref aL, .int 0, .ref aS, .int 0, .ref aF, .ref aN, .null, .int 0, .null, .null, .int 0, .int 0, .null, .int 0])), (aL, .inl (kL, 4000, .inl (fun _ => 0))), (aS, .inl (kS, 501, .inl (fun _ => 0))), (aF, .inl (kF, 17, .inl (fun _ => 0))), (aN, .inl (kN, 500, .inl (fun _ => 0))), (aA, .inl (kA, 64, .inl (fun _ => 0)))] := hD
  have hK : va_K (dC, dI) vwCl [(kL, .int), (kS, .int), (kF, .int), (kN, .int), (kA, .int)] s := hK
  refine va_putF (D := (dC, dI)) (ci := 2) (v := .ref aA) (ty := .array .int) (C := RM) (T := TM) (N := 17) hx hb hts lyM tyM tyM_ok nmM hown hK hP hD hS 0 rfl rfl 9 (by decide) (hts _ fl_M_22) (fun _ h9 => h9) rfl hin rfl (by decide +kernel) rfl rfl (Nat.le_of_ble_eq_true rfl) dM_init_44 (fun H locs hP hD hS => ?_)
  have hP : va_P (dC, dI) vwCl [(g0, .inr (2, [.int 0, .int 0, .int 0, .ref aL, .int 0, .ref aS, .int 0, .ref aF, .ref aN, .ref aA, .int 0, .null, .null, .int 0, .int 0, .null, .int 0])), (aL, .inl (kL, 4000, .inl (fun _ => 0))), (aS, .inl (kS, 501, .inl (fun _ => 0))), (aF, .inl (kF, 17, .inl (fun _ => 0))), (aN, .inl (kN, 500, .inl (fun _ => 0))), (aA, .inl (kA, 64, .inl (fun _ => 0)))] H := hP
  have hD : va_D A [(g0, .inr (2, [.int 0, .int 0, .int 0, .ref aL, .int 0, .ref aS, .int 0, .ref aF, .ref aN, .ref aA, .int 0, .null, .null, .int 0, .int 0, .null, .int 0])), (aL, .inl (kL, 4000, .inl (fun _ => 0))), (aS, .inl (kS, 501, .inl (fun _ => 0))), (aF, .inl (kF, 17, .inl (fun _ => 0))), (aN, .inl (kN, 500, .inl (fun _ => 0))), (aA, .inl (kA, 64, .inl (fun _ => 0)))] := hD
  refine lv_aload_n hx hb dM_init_47 rfl (lv_at hl 0 rfl) ?_
  refine lv_bipush (v := 16) hx hb dM_init_48 (by decide) ?_
  refine va_newa (atype := .int) (a0 := (16, .inl (fun _ => 0))) hx hb (hts _ ac_int) rfl hK hP hD hS hA (fun _ => rfl) (by decide) rfl (by decide) (Nat.le_of_ble_eq_true rfl) (Nat.le_of_ble_eq_true rfl) dM_init_50 (fun aO kO H hK hP hD hS => ?_)
  have hP : va_P (dC, dI) vwCl [(g0, .inr (2, [.int 0, .int 0, .int 0, .ref aL, .int 0, .ref aS, .int 0, .ref aF, .ref aN, .ref aA, .int 0, .null, .null, .int 0, .int 0, .null, .int 0])), (aL, .inl (kL, 4000, .inl (fun _ => 0))), (aS, .inl (kS, 501, .inl (fun _ => 0))), (aF, .inl (kF, 17, .inl (fun _ => 0))), (aN, .inl (kN, 500, .inl (fun _ => 0))), (aA, .inl (kA, 64, .inl (fun _ => 0))), (aO, .inl (kO, 16, .inl (fun _ => 0)))] H := hP
  have hD : va_D A [(g0, .inr (2, [.int 0, .int 0, .int 0, .ref aL, .int 0, .ref aS, .int 0, .ref aF, .ref aN, .ref aA, .int 0, .null, .null, .int 0, .int 0, .null, .int 0])), (aL, .inl (kL, 4000, .inl (fun _ => 0))), (aS, .inl (kS, 501, .inl (fun _ => 0))), (aF, .inl (kF, 17, .inl (fun _ => 0))), (aN, .inl (kN, 500, .inl (fun _ => 0))), (aA, .inl (kA, 64, .inl (fun _ => 0))), (aO, .inl (kO, 16, .inl (fun _ => 0)))] := hD
  have hK : va_K (dC, dI) vwCl [(kL, .int), (kS, .int), (kF, .int), (kN, .int), (kA, .int), (kO, .int)] s := hK
  refine va_putF (D := (dC, dI)) (ci := 2) (v := .ref aO) (ty := .array .int) (C := RM) (T := TM) (N := 17) hx hb hts lyM tyM tyM_ok nmM hown hK hP hD hS 0 rfl rfl 11 (by decide) (hts _ fl_M_25) (fun _ h9 => h9) rfl hin rfl (by decide +kernel) rfl rfl (Nat.le_of_ble_eq_true rfl) dM_init_52 (fun H locs hP hD hS => ?_)
  have hP : va_P (dC, dI) vwCl [(g0, .inr (2, [.int 0, .int 0, .int 0, .ref aL, .int 0, .ref aS, .int 0, .ref aF, .ref aN, .ref aA, .int 0, .ref aO, .null, .int 0, .int 0, .null, .int 0])), (aL, .inl (kL, 4000, .inl (fun _ => 0))), (aS, .inl (kS, 501, .inl (fun _ => 0))), (aF, .inl (kF, 17, .inl (fun _ => 0))), (aN, .inl (kN, 500, .inl (fun _ => 0))), (aA, .inl (kA, 64, .inl (fun _ => 0))), (aO, .inl (kO, 16, .inl (fun _ => 0)))] H := hP
  have hD : va_D A [(g0, .inr (2, [.int 0, .int 0, .int 0, .ref aL, .int 0, .ref aS, .int 0, .ref aF, .ref aN, .ref aA, .int 0, .ref aO, .null, .int 0, .int 0, .null, .int 0])), (aL, .inl (kL, 4000, .inl (fun _ => 0))), (aS, .inl (kS, 501, .inl (fun _ => 0))), (aF, .inl (kF, 17, .inl (fun _ => 0))), (aN, .inl (kN, 500, .inl (fun _ => 0))), (aA, .inl (kA, 64, .inl (fun _ => 0))), (aO, .inl (kO, 16, .inl (fun _ => 0)))] := hD
  refine lv_aload_n hx hb dM_init_55 rfl (lv_at hl 0 rfl) ?_
  refine lv_bipush (v := 16) hx hb dM_init_56 (by decide) ?_
  refine va_newa (atype := .int) (a0 := (16, .inl (fun _ => 0))) hx hb (hts _ ac_int) rfl hK hP hD hS hA (fun _ => rfl) (by decide) rfl (by decide) (Nat.le_of_ble_eq_true rfl) (Nat.le_of_ble_eq_true rfl) dM_init_58 (fun aV kV H hK hP hD hS => ?_)
  have hP : va_P (dC, dI) vwCl [(g0, .inr (2, [.int 0, .int 0, .int 0, .ref aL, .int 0, .ref aS, .int 0, .ref aF, .ref aN, .ref aA, .int 0, .ref aO, .null, .int 0, .int 0, .null, .int 0])), (aL, .inl (kL, 4000, .inl (fun _ => 0))), (aS, .inl (kS, 501, .inl (fun _ => 0))), (aF, .inl (kF, 17, .inl (fun _ => 0))), (aN, .inl (kN, 500, .inl (fun _ => 0))), (aA, .inl (kA, 64, .inl (fun _ => 0))), (aO, .inl (kO, 16, .inl (fun _ => 0))), (aV, .inl (kV, 16, .inl (fun _ => 0)))] H := hP
  have hD : va_D A [(g0, .inr (2, [.int 0, .int 0, .int 0, .ref aL, .int 0, .ref aS, .int 0, .ref aF, .ref aN, .ref aA, .int 0, .ref aO, .null, .int 0, .int 0, .null, .int 0])), (aL, .inl (kL, 4000, .inl (fun _ => 0))), (aS, .inl (kS, 501, .inl (fun _ => 0))), (aF, .inl (kF, 17, .inl (fun _ => 0))), (aN, .inl (kN, 500, .inl (fun _ => 0))), (aA, .inl (kA, 64, .inl (fun _ => 0))), (aO, .inl (kO, 16, .inl (fun _ => 0))), (aV, .inl (kV, 16, .inl (fun _ => 0)))] := hD
  have hK : va_K (dC, dI) vwCl [(kL, .int), (kS, .int), (kF, .int), (kN, .int), (kA, .int), (kO, .int), (kV, .int)] s := hK
  refine va_putF (D := (dC, dI)) (ci := 2) (v := .ref aV) (ty := .array .int) (C := RM) (T := TM) (N := 17) hx hb hts lyM tyM tyM_ok nmM hown hK hP hD hS 0 rfl rfl 12 (by decide) (hts _ fl_M_28) (fun _ h9 => h9) rfl hin rfl (by decide +kernel) rfl rfl (Nat.le_of_ble_eq_true rfl) dM_init_60 (fun H locs hP hD hS => ?_)
  have hP : va_P (dC, dI) vwCl [(g0, .inr (2, [.int 0, .int 0, .int 0, .ref aL, .int 0, .ref aS, .int 0, .ref aF, .ref aN, .ref aA, .int 0, .ref aO, .ref aV, .int 0, .int 0, .null, .int 0])), (aL, .inl (kL, 4000, .inl (fun _ => 0))), (aS, .inl (kS, 501, .inl (fun _ => 0))), (aF, .inl (kF, 17, .inl (fun _ => 0))), (aN, .inl (kN, 500, .inl (fun _ => 0))), (aA, .inl (kA, 64, .inl (fun _ => 0))), (aO, .inl (kO, 16, .inl (fun _ => 0))), (aV, .inl (kV, 16, .inl (fun _ => 0)))] H := hP
  have hD : va_D A [(g0, .inr (2, [.int 0, .int 0, .int 0, .ref aL, .int 0, .ref aS, .int 0, .ref aF, .ref aN, .ref aA, .int 0, .ref aO, .ref aV, .int 0, .int 0, .null, .int 0])), (aL, .inl (kL, 4000, .inl (fun _ => 0))), (aS, .inl (kS, 501, .inl (fun _ => 0))), (aF, .inl (kF, 17, .inl (fun _ => 0))), (aN, .inl (kN, 500, .inl (fun _ => 0))), (aA, .inl (kA, 64, .inl (fun _ => 0))), (aO, .inl (kO, 16, .inl (fun _ => 0))), (aV, .inl (kV, 16, .inl (fun _ => 0)))] := hD
  refine lv_aload_n hx hb dM_init_63 rfl (lv_at hl 0 rfl) ?_
  refine lv_bipush (v := 16) hx hb dM_init_64 (by decide) ?_
  refine va_newa (atype := .int) (a0 := (16, .inl (fun _ => 0))) hx hb (hts _ ac_int) rfl hK hP hD hS hA (fun _ => rfl) (by decide) rfl (by decide) (Nat.le_of_ble_eq_true rfl) (Nat.le_of_ble_eq_true rfl) dM_init_66 (fun aT kT H hK hP hD hS => ?_)
  have hP : va_P (dC, dI) vwCl [(g0, .inr (2, [.int 0, .int 0, .int 0, .ref aL, .int 0, .ref aS, .int 0, .ref aF, .ref aN, .ref aA, .int 0, .ref aO, .ref aV, .int 0, .int 0, .null, .int 0])), (aL, .inl (kL, 4000, .inl (fun _ => 0))), (aS, .inl (kS, 501, .inl (fun _ => 0))), (aF, .inl (kF, 17, .inl (fun _ => 0))), (aN, .inl (kN, 500, .inl (fun _ => 0))), (aA, .inl (kA, 64, .inl (fun _ => 0))), (aO, .inl (kO, 16, .inl (fun _ => 0))), (aV, .inl (kV, 16, .inl (fun _ => 0))), (aT, .inl (kT, 16, .inl (fun _ => 0)))] H := hP
  have hD : va_D A [(g0, .inr (2, [.int 0, .int 0, .int 0, .ref aL, .int 0, .ref aS, .int 0, .ref aF, .ref aN, .ref aA, .int 0, .ref aO, .ref aV, .int 0, .int 0, .null, .int 0])), (aL, .inl (kL, 4000, .inl (fun _ => 0))), (aS, .inl (kS, 501, .inl (fun _ => 0))), (aF, .inl (kF, 17, .inl (fun _ => 0))), (aN, .inl (kN, 500, .inl (fun _ => 0))), (aA, .inl (kA, 64, .inl (fun _ => 0))), (aO, .inl (kO, 16, .inl (fun _ => 0))), (aV, .inl (kV, 16, .inl (fun _ => 0))), (aT, .inl (kT, 16, .inl (fun _ => 0)))] := hD
  have hK : va_K (dC, dI) vwCl [(kL, .int), (kS, .int), (kF, .int), (kN, .int), (kA, .int), (kO, .int), (kV, .int), (kT, .int)] s := hK
  refine va_putF (D := (dC, dI)) (ci := 2) (v := .ref aT) (ty := .array .int) (C := RM) (T := TM) (N := 17) hx hb hts lyM tyM tyM_ok nmM hown hK hP hD hS 0 rfl rfl 15 (by decide) (hts _ fl_M_31) (fun _ h9 => h9) rfl hin rfl (by decide +kernel) rfl rfl (Nat.le_of_ble_eq_true rfl) dM_init_68 (fun H locs hP hD hS => ?_)
  have hP : va_P (dC, dI) vwCl [(g0, .inr (2, [.int 0, .int 0, .int 0, .ref aL, .int 0, .ref aS, .int 0, .ref aF, .ref aN, .ref aA, .int 0, .ref aO, .ref aV, .int 0, .int 0, .ref aT, .int 0])), (aL, .inl (kL, 4000, .inl (fun _ => 0))), (aS, .inl (kS, 501, .inl (fun _ => 0))), (aF, .inl (kF, 17, .inl (fun _ => 0))), (aN, .inl (kN, 500, .inl (fun _ => 0))), (aA, .inl (kA, 64, .inl (fun _ => 0))), (aO, .inl (kO, 16, .inl (fun _ => 0))), (aV, .inl (kV, 16, .inl (fun _ => 0))), (aT, .inl (kT, 16, .inl (fun _ => 0)))] H := hP
  have hD : va_D A [(g0, .inr (2, [.int 0, .int 0, .int 0, .ref aL, .int 0, .ref aS, .int 0, .ref aF, .ref aN, .ref aA, .int 0, .ref aO, .ref aV, .int 0, .int 0, .ref aT, .int 0])), (aL, .inl (kL, 4000, .inl (fun _ => 0))), (aS, .inl (kS, 501, .inl (fun _ => 0))), (aF, .inl (kF, 17, .inl (fun _ => 0))), (aN, .inl (kN, 500, .inl (fun _ => 0))), (aA, .inl (kA, 64, .inl (fun _ => 0))), (aO, .inl (kO, 16, .inl (fun _ => 0))), (aV, .inl (kV, 16, .inl (fun _ => 0))), (aT, .inl (kT, 16, .inl (fun _ => 0)))] := hD
  refine lv_aload_n hx hb dM_init_71 rfl (lv_at hl 0 rfl) ?_
  have hFc := va_free (wc := [(g0, .inr (2, [.int 0, .int 0, .int 0, .ref aL, .int 0, .ref aS, .int 0, .ref aF, .ref aN, .ref aA, .int 0, .ref aO, .ref aV, .int 0, .int 0, .ref aT, .int 0])), (aF, .inl (kF, 17, .inl (fun _ => 0)))]) hD hS hA [0, 3] rfl
  refine wc_v (wc_V (As := []) (rest := []) (n := 0) SF (k_M_clearAll l dC dI tI _ g0 aL aS aF aN aA aO aV aT kF (fun _ => 0) 0 0 0 0 0 0 0 0 0) ml_M_34 im_M_clearAll se_M_clearAll in_M co_M_clearAll (by decide +kernel) rfl rfl rfl ⟨Nat.le_of_ble_eq_true rfl, Nat.le_of_ble_eq_true rfl⟩ (va_recv (hK.sub (tys' := []) [] rfl) (hP.sub (ws' := [(g0, .inr (2, [.int 0, .int 0, .int 0, .ref aL, .int 0, .ref aS, .int 0, .ref aF, .ref aN, .ref aA, .int 0, .ref aO, .ref aV, .int 0, .int 0, .ref aT, .int 0])), (aF, .inl (kF, 17, .inl (fun _ => 0)))]) [0, 3] rfl) (ci := 2) (q0 := 0) rfl rfl) (hP.sub [0, 3] rfl) (hD.sub [0, 3] (by decide) rfl) (hK.sub [2] rfl) hZ hX hS hFc rfl hl.1 (Nat.le_of_ble_eq_true rfl) dM_init_72 ⟨Nat.le_of_ble_eq_true rfl, Nat.le_of_ble_eq_true rfl⟩) hP hD hS hFc [0, 3] [1, 2, 4, 5, 6, 7, 8] (wr := [(aL, .inl (kL, 4000, .inl (fun _ => 0))), (aS, .inl (kS, 501, .inl (fun _ => 0))), (aN, .inl (kN, 500, .inl (fun _ => 0))), (aA, .inl (kA, 64, .inl (fun _ => 0))), (aO, .inl (kO, 16, .inl (fun _ => 0))), (aV, .inl (kV, 16, .inl (fun _ => 0))), (aT, .inl (kT, 16, .inl (fun _ => 0)))]) rfl rfl rfl (by decide) (fun uu H locs hw hP hD hS => ?_)
  have hP : va_P (dC, dI) vwCl [(g0, .inr (2, [.int 0, .int 0, .int 0, .ref aL, .int 0, .ref aS, .int 0, .ref aF, .ref aN, .ref aA, .int 0, .ref aO, .ref aV, .int 0, .int 0, .ref aT, .int 0])), (aL, .inl (kL, 4000, .inl (fun _ => 0))), (aS, .inl (kS, 501, .inl (fun _ => 0))), (aF, .inl (kF, 17, .inl uu)), (aN, .inl (kN, 500, .inl (fun _ => 0))), (aA, .inl (kA, 64, .inl (fun _ => 0))), (aO, .inl (kO, 16, .inl (fun _ => 0))), (aV, .inl (kV, 16, .inl (fun _ => 0))), (aT, .inl (kT, 16, .inl (fun _ => 0)))] H := hP.sub [7, 0, 1, 8, 2, 3, 4, 5, 6] rfl
  have hD : va_D A [(g0, .inr (2, [.int 0, .int 0, .int 0, .ref aL, .int 0, .ref aS, .int 0, .ref aF, .ref aN, .ref aA, .int 0, .ref aO, .ref aV, .int 0, .int 0, .ref aT, .int 0])), (aL, .inl (kL, 4000, .inl (fun _ => 0))), (aS, .inl (kS, 501, .inl (fun _ => 0))), (aF, .inl (kF, 17, .inl uu)), (aN, .inl (kN, 500, .inl (fun _ => 0))), (aA, .inl (kA, 64, .inl (fun _ => 0))), (aO, .inl (kO, 16, .inl (fun _ => 0))), (aV, .inl (kV, 16, .inl (fun _ => 0))), (aT, .inl (kT, 16, .inl (fun _ => 0)))] := hD.sub [7, 0, 1, 8, 2, 3, 4, 5, 6] (by decide) rfl
  refine W.widen (k := 8) (n := 5130) (Nat.le_of_ble_eq_true rfl) (Nat.le_of_ble_eq_true rfl) ?_
  exact (W.vret hx hb hr (fun t ht hW => ⟨⟨(aL, aS, aF, aN, aA, aO, aV, aT, kL, kS, kF, kN, kA, kO, kV, kT, uu), rfl, hw, by rw [ht]; exact hP, va_K.moved hW.alike hK, hD⟩, hS.F ht⟩) hS.2.2 dM_init_75)
