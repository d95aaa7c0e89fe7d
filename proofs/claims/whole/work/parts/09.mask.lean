/-! a literal, and a clause, as three masks: the bits of each word, the word numbers with a 1, those with a 0 -/
def mk_bit (v : Nat) : Nat := if 6 ≤ v ∧ v < 16 then 2 ^ (v - 6) else 0
def mk_in (L : Nat) : Int64 := if L / 2 < 6 then (if L % 2 = 0 then ls_ones (L / 2) else ls_ones (L / 2) ^^^ (-1)) else 0
def mk_on (L : Nat) : Nat := if L % 2 = 0 then mk_bit (L / 2) else 0
def mk_ze (L : Nat) : Nat := if L % 2 = 0 then 0 else mk_bit (L / 2)
def mk_no (w z : Nat) : Nat := (2 ^ 32 - (w + 1)) &&& z
def mk_m (w : Nat) (i : Int64) (o z : Nat) : Int64 := if w &&& o = 0 ∧ mk_no w z = 0 then i else -1
theorem mk_am1 (x : Int64) : x &&& (-1) = x := ls_b_ext fun b hb => by rw [ls_b_and, ls_b_m1 b hb, Bool.and_true]
theorem mk_m1l (x : Int64) : (-1) ||| x = -1 := ls_b_ext fun b hb => by rw [ls_b_or, ls_b_m1 b hb, Bool.true_or]
theorem mk_m1r (x : Int64) : x ||| (-1) = -1 := ls_b_ext fun b hb => by rw [ls_b_or, ls_b_m1 b hb, Bool.or_true]
theorem mk_o0 {a b : Nat} : a ||| b = 0 ↔ a = 0 ∧ b = 0 := by
  constructor
  · intro h
    have hb : ∀ i, a.testBit i = false ∧ b.testBit i = false := fun i => by
      have q := congrArg (fun z => z.testBit i) h
      simp only [Nat.testBit_or, Nat.zero_testBit, Bool.or_eq_false_iff] at q
      exact q
    exact ⟨Nat.eq_of_testBit_eq fun i => by rw [(hb i).1, Nat.zero_testBit], Nat.eq_of_testBit_eq fun i => by rw [(hb i).2, Nat.zero_testBit]⟩
  · rintro ⟨rfl, rfl⟩
    rfl
theorem mk_ao (a b c : Nat) : a &&& (b ||| c) = (a &&& b) ||| (a &&& c) := Nat.eq_of_testBit_eq fun i => by
  simp only [Nat.testBit_and, Nat.testBit_or]
  cases a.testBit i <;> cases b.testBit i <;> cases c.testBit i <;> rfl
theorem mk_nx {w z : Nat} (h : w < 2 ^ 32) : (nI w ^^^ (-1)) &&& nI z = nI (mk_no w z) := by
  have e : nI w ^^^ (-1) = nI (2 ^ 32 - (w + 1)) := by
    apply Int32.toBitVec_inj.mp
    rw [Int32.toBitVec_xor, show ((-1 : Int32)).toBitVec = BitVec.allOnes 32 by decide]
    show BitVec.ofNat 32 w ^^^ BitVec.allOnes 32 = BitVec.ofNat 32 (2 ^ 32 - (w + 1))
    apply BitVec.eq_of_getLsbD_eq
    intro i hi
    rw [BitVec.getLsbD_xor, BitVec.getLsbD_allOnes, BitVec.getLsbD_ofNat, BitVec.getLsbD_ofNat, Nat.testBit_two_pow_sub_succ h]
    simp [hi]
  rw [e, nx_and]
  rfl
theorem mk_m0 {w o z : Nat} {i : Int64} (h1 : w &&& o = 0) (h2 : mk_no w z = 0) : mk_m w i o z = i := if_pos ⟨h1, h2⟩
theorem mk_mo {w o z : Nat} {i : Int64} (h : w &&& o ≠ 0) : mk_m w i o z = -1 := if_neg fun q => h q.1
theorem mk_mz {w o z : Nat} {i : Int64} (h : mk_no w z ≠ 0) : mk_m w i o z = -1 := if_neg fun q => h q.2
theorem mk_or (w o o' z z' : Nat) (i i' : Int64) : mk_m w (i ||| i') (o ||| o') (z ||| z') = mk_m w i o z ||| mk_m w i' o' z' := by
  have e1 : (w &&& (o ||| o') = 0) ↔ (w &&& o = 0 ∧ w &&& o' = 0) := by rw [mk_ao, mk_o0]
  have e2 : (mk_no w (z ||| z') = 0) ↔ (mk_no w z = 0 ∧ mk_no w z' = 0) := by unfold mk_no; rw [mk_ao, mk_o0]
  by_cases a : w &&& o = 0 ∧ mk_no w z = 0
  · by_cases b : w &&& o' = 0 ∧ mk_no w z' = 0
    · rw [mk_m0 a.1 a.2, mk_m0 b.1 b.2, mk_m0 (e1.mpr ⟨a.1, b.1⟩) (e2.mpr ⟨a.2, b.2⟩)]
    · have q1 : mk_m w i' o' z' = -1 := if_neg b
      have q2 : mk_m w (i ||| i') (o ||| o') (z ||| z') = -1 := if_neg fun q => b ⟨(e1.mp q.1).2, (e2.mp q.2).2⟩
      rw [q1, q2, mk_m1r]
  · have q1 : mk_m w i o z = -1 := if_neg a
    have q2 : mk_m w (i ||| i') (o ||| o') (z ||| z') = -1 := if_neg fun q => a ⟨(e1.mp q.1).1, (e2.mp q.2).1⟩
    rw [q1, q2, mk_m1l]
theorem mk_tb {w e : Nat} : w &&& 2 ^ e = 0 ↔ w.testBit e = false := by
  constructor
  · intro h
    have q := congrArg (fun z => z.testBit e) h
    simp only [Nat.testBit_and, Nat.testBit_two_pow, Nat.zero_testBit, decide_true, Bool.and_true] at q
    exact q
  · intro h
    rw [dp_and, ls_bit, h, if_neg Bool.false_ne_true, Nat.zero_mul]
theorem mk_nb {w e : Nat} (hw : w < 2 ^ 32) (he : e < 32) : mk_no w (2 ^ e) = 0 ↔ w.testBit e = true := by
  unfold mk_no
  rw [mk_tb, Nat.testBit_two_pow_sub_succ hw, decide_eq_true he]
  cases w.testBit e <;> decide
theorem mk_lit {L w : Nat} (hL : L < 32) (hw : w < 1024) : mk_m w (mk_in L) (mk_on L) (mk_ze L) = ls_rw L w := by
  by_cases h6 : L / 2 < 6
  · have hb : mk_bit (L / 2) = 0 := if_neg (by omega)
    have ho : mk_on L = 0 := by unfold mk_on; rw [hb]; split <;> rfl
    have hz : mk_ze L = 0 := by unfold mk_ze; rw [hb]; split <;> rfl
    rw [ho, hz, mk_m0 (Nat.and_zero _) (Nat.and_zero _)]
    unfold mk_in ls_rw ls_on
    rw [if_pos h6, if_pos h6]
  · have hb : mk_bit (L / 2) = 2 ^ (L / 2 - 6) := if_pos ⟨by omega, by omega⟩
    have hi : mk_in L = 0 := if_neg h6
    have hon : ls_on (L / 2) w = if w.testBit (L / 2 - 6) = true then -1 else 0 := if_neg h6
    rw [hi]
    by_cases h2 : L % 2 = 0
    · have ho : mk_on L = 2 ^ (L / 2 - 6) := by unfold mk_on; rw [if_pos h2, hb]
      have hz : mk_ze L = 0 := if_pos h2
      have hr : ls_rw L w = ls_on (L / 2) w := if_pos h2
      rw [ho, hz, hr, hon]
      by_cases t : w.testBit (L / 2 - 6) = true
      · rw [if_pos t, mk_mo (fun q => by rw [mk_tb.mp q] at t; exact Bool.false_ne_true t)]
      · rw [if_neg t, mk_m0 (mk_tb.mpr (by simpa using t)) (Nat.and_zero _)]
    · have ho : mk_on L = 0 := if_neg h2
      have hz : mk_ze L = 2 ^ (L / 2 - 6) := by unfold mk_ze; rw [if_neg h2, hb]
      have hr : ls_rw L w = ls_on (L / 2) w ^^^ (-1) := if_neg h2
      have hnb := mk_nb (w := w) (e := L / 2 - 6) (by omega) (by omega)
      rw [ho, hz, hr, hon]
      by_cases t : w.testBit (L / 2 - 6) = true
      · rw [if_pos t, mk_m0 (Nat.and_zero _) (hnb.mpr t)]
        all_goals decide
      · rw [if_neg t, mk_mz (fun q => t (hnb.mp q))]
        all_goals decide
theorem mk_bit_lt (v : Nat) : mk_bit v < 1024 := by
  unfold mk_bit
  split
  · show 2 ^ (v - 6) < 2 ^ 10
    exact Nat.pow_lt_pow_right (by decide) (by omega)
  · decide
theorem mk_ze_lt (L : Nat) : mk_ze L < 1024 := by
  unfold mk_ze
  split
  · decide
  · exact mk_bit_lt _
def mk_ci (cn : Nat → Nat) : Nat → Int64
  | 0 => 0
  | j + 1 => mk_ci cn j ||| mk_in (cn j)
def mk_co (cn : Nat → Nat) : Nat → Nat
  | 0 => 0
  | j + 1 => mk_co cn j ||| mk_on (cn j)
def mk_cz (cn : Nat → Nat) : Nat → Nat
  | 0 => 0
  | j + 1 => mk_cz cn j ||| mk_ze (cn j)
theorem mk_cz_lt (cn : Nat → Nat) (j : Nat) : mk_cz cn j < 1024 := by
  induction j with
  | zero => exact (by decide : (0 : Nat) < 1024)
  | succ j ih =>
    show mk_cz cn j ||| mk_ze (cn j) < 2 ^ 10
    exact Nat.or_lt_two_pow ih (mk_ze_lt _)
theorem mk_cl {cn : Nat → Nat} {n w : Nat} (hc : ∀ j, j < n → cn j < 32) (hw : w < 1024) : ls_or cn w n = mk_m w (mk_ci cn n) (mk_co cn n) (mk_cz cn n) := by
  induction n with
  | zero => exact (mk_m0 (Nat.and_zero _) (Nat.and_zero _)).symm
  | succ k ih =>
    show ls_or cn w k ||| ls_rw (cn k) w = mk_m w (mk_ci cn k ||| mk_in (cn k)) (mk_co cn k ||| mk_on (cn k)) (mk_cz cn k ||| mk_ze (cn k))
    rw [mk_or, ih (fun j hj => hc j (by omega)), mk_lit (hc k (by omega)) hw]
def mk_KW (f M : Nat → Int64) (U i : Nat) (g : Nat → Int64) (left : Int64) : Prop := i ≤ U ∧ (∀ k, k < i → g k = M k) ∧ (∀ k, i ≤ k → g k = f k) ∧ ((∀ k, k < i → g k = 0) → left = 0) ∧ (left = 0 → ∀ k, k < i → g k = 0)
theorem mk_kw0 {f M : Nat → Int64} {U : Nat} : mk_KW f M U 0 f 0 := ⟨Nat.zero_le _, fun k hk => absurd hk (Nat.not_lt_zero _), fun _ _ => rfl, fun _ => rfl, fun _ k hk => absurd hk (Nat.not_lt_zero _)⟩
theorem mk_kw {f M g g' : Nat → Int64} {U i : Nat} {left : Int64} (c1 : i < U) (h : mk_KW f M U i g left) (a : ∀ k, k < i → g' k = g k) (b : g' i = M i) (c : ∀ k, i + 1 ≤ k → g' k = f k) : mk_KW f M U (i + 1) g' (left ||| M i) := by
  obtain ⟨_, hg, hge, h1, h2⟩ := h
  refine ⟨c1, fun k hk => ?_, c, fun h => ?_, fun h k hk => ?_⟩
  · rcases Nat.lt_or_ge k i with q | q
    · rw [a k q]; exact hg k q
    · rw [show k = i by omega]; exact b
  · exact ax_or0.mpr ⟨h1 (fun k hk => by rw [← a k hk]; exact h k (by omega)), by rw [← b]; exact h i (by omega)⟩
  · obtain ⟨e1, e2⟩ := ax_or0.mp h
    rcases Nat.lt_or_ge k i with q | q
    · rw [a k q]; exact h2 e1 k q
    · rw [show k = i by omega, b]; exact e2
theorem mk_kwu {f M g : Nat → Int64} {U i : Nat} {left v : Int64} (c1 : i < U) (h : mk_KW f M U i g left) (e : v = M i) : mk_KW f M U (i + 1) (vp_updL g i v) (left ||| v) := by
  subst e
  exact mk_kw c1 h (fun k hk => by unfold vp_updL; rw [if_neg (by omega)]) (by unfold vp_updL; rw [if_pos rfl]) (ax_ge h.2.2.1)
theorem mk_kws {f M g : Nat → Int64} {U i : Nat} {left : Int64} (c1 : i < U) (h : mk_KW f M U i g left) (e : f i = M i) : mk_KW f M U (i + 1) g (left ||| f i) := by
  rw [e]
  exact mk_kw c1 h (fun _ _ => rfl) (by rw [h.2.2.1 i (Nat.le_refl i)]; exact e) (fun k hk => h.2.2.1 k (by omega))
