/-! dropping variables: what happens to a row -/
def wy_d (v x : Nat) : Nat := if v < 6 then (if x.testBit v = true then x - 2 ^ v else x) else x / 2 ^ (v + 1) * 2 ^ v + x % 2 ^ v
def wy_p (F N q : Nat) : Nat → Nat
  | 0 => q
  | t + 1 => if F ≤ 15 - t ∧ 15 - t < F + N then wy_p F N q t else wy_d (15 - t) (wy_p F N q t)
theorem wy_sub {x v : Nat} (h : x.testBit v = true) : 2 ^ v ≤ x := by
  refine Classical.byContradiction fun q => ?_
  rw [Nat.testBit_lt_two_pow (Nat.lt_of_not_le q)] at h
  cases h
theorem wy_clr {x v : Nat} (h : x.testBit v = true) (i : Nat) : (x - 2 ^ v).testBit i = (decide (i ≠ v) && x.testBit i) := by
  have e : x = 2 ^ (v + 1) * (x / 2 ^ (v + 1)) + (x % 2 ^ v + 2 ^ v) := by
    have h1 := Nat.div_add_mod x (2 ^ (v + 1))
    rw [lr_ms, if_pos h] at h1
    omega
  have hm : x % 2 ^ v < 2 ^ v := Nat.mod_lt _ (Nat.pow_pos (by decide))
  have e2 : x - 2 ^ v = 2 ^ (v + 1) * (x / 2 ^ (v + 1)) + x % 2 ^ v := by omega
  rw [e2, Nat.testBit_two_pow_mul_add _ (Nat.lt_of_lt_of_le hm (Nat.pow_le_pow_right (by decide) (by omega)))]
  by_cases hi : i < v + 1
  · rw [if_pos hi, Nat.testBit_mod_two_pow]
    by_cases hv : i = v
    · simp [hv]
    · simp [hv, show i < v by omega]
  · rw [if_neg hi, Nat.testBit_div_two_pow, show i - (v + 1) + (v + 1) = i by omega]
    simp [show i ≠ v by omega]
theorem wy_db (v x i : Nat) : (wy_d v x).testBit i = if v < 6 then (decide (i ≠ v) && x.testBit i) else (if i < v then x.testBit i else x.testBit (i + 1)) := by
  unfold wy_d
  by_cases h : v < 6
  · rw [if_pos h, if_pos h]
    by_cases hb : x.testBit v = true
    · rw [if_pos hb, wy_clr hb]
    · rw [if_neg hb]
      by_cases hi : i = v
      · subst hi; simp at hb; simp [hb]
      · simp [hi]
  · rw [if_neg h, if_neg h, Nat.mul_comm, Nat.testBit_two_pow_mul_add _ (Nat.mod_lt _ (Nat.pow_pos (by decide)))]
    by_cases hi : i < v
    · rw [if_pos hi, if_pos hi, Nat.testBit_mod_two_pow]; simp [hi]
    · rw [if_neg hi, if_neg hi, Nat.testBit_div_two_pow]
      congr 1; omega
/-- above the kept ones -/
theorem wy_hi {F N q : Nat} (hq : q < 2 ^ 16) : ∀ t, t + (F + N) ≤ 16 → ∀ i, (wy_p F N q t).testBit i = (decide (i < 16 - t) && q.testBit i) := by
  intro t
  induction t with
  | zero =>
    intro _ i
    by_cases hi : i < 16
    · simp [wy_p, hi]
    · simp only [wy_p, Nat.sub_zero, hi, decide_false, Bool.false_and]
      exact Nat.testBit_lt_two_pow (Nat.lt_of_lt_of_le hq (Nat.pow_le_pow_right (by decide) (by omega)))
  | succ t ih =>
    intro ht i
    have ih := ih (by omega)
    simp only [wy_p]
    rw [if_neg (by omega), wy_db, show 16 - (t + 1) = 15 - t by omega]
    split
    · rw [ih]
      by_cases h1 : i = 15 - t
      · simp [h1]
      · by_cases h2 : i < 16 - t
        · simp [h1, h2, show i < 15 - t by omega]
        · simp [h1, h2, show ¬ i < 15 - t by omega]
    · split
      · rename_i h2
        rw [ih]; simp [show i < 16 - t by omega, h2]
      · rename_i h2
        rw [ih]; simp [show ¬ i + 1 < 16 - t by omega, h2]
/-- among the kept ones -/
theorem wy_mid {F N q : Nat} (h : F + N ≤ 16) : ∀ s, s ≤ N → wy_p F N q (16 - (F + N) + s) = wy_p F N q (16 - (F + N)) := by
  intro s
  induction s with
  | zero => intro _; rfl
  | succ s ih =>
    intro hs
    rw [← ih (by omega), show 16 - (F + N) + (s + 1) = (16 - (F + N) + s) + 1 by omega]
    simp only [wy_p]
    rw [if_pos (by omega)]
/-- below them -/
theorem wy_lo {F N q : Nat} (hq : q < 2 ^ 16) (h : F + N ≤ 16) : ∀ s, s ≤ F → ∀ i, (wy_p F N q (16 - F + s)).testBit i = if i < max (F - s) (min F 6) then (decide (i < F - s) && q.testBit i) else (decide (i - max (F - s) (min F 6) < N) && q.testBit (F + (i - max (F - s) (min F 6)))) := by
  intro s
  induction s with
  | zero =>
    intro _ i
    have e := wy_mid (q := q) h N (Nat.le_refl _)
    rw [show 16 - F + 0 = 16 - (F + N) + N by omega, e, wy_hi hq _ (by omega), show 16 - (16 - (F + N)) = F + N by omega, show max (F - 0) (min F 6) = F by omega]
    by_cases hi : i < F
    · simp [hi, show i < F + N by omega]
    · rw [if_neg hi, show F + (i - F) = i by omega]
      by_cases h2 : i < F + N
      · simp [h2, show i - F < N by omega]
      · simp [h2, show ¬ i - F < N by omega]
  | succ s ih =>
    intro hs i
    have ih := ih (by omega)
    rw [show 16 - F + (s + 1) = (16 - F + s) + 1 by omega]
    simp only [wy_p]
    rw [if_neg (by omega), wy_db]
    have hv : 15 - (16 - F + s) = F - (s + 1) := by omega
    rw [hv]
    by_cases h6 : F - (s + 1) < 6
    · rw [if_pos h6, ih]
      have m1 : max (F - s) (min F 6) = min F 6 := by omega
      have m2 : max (F - (s + 1)) (min F 6) = min F 6 := by omega
      rw [m1, m2]
      by_cases hi : i < min F 6
      · rw [if_pos hi, if_pos hi]
        by_cases h1 : i = F - (s + 1)
        · simp [h1]
        · by_cases h2 : i < F - s
          · simp [h1, h2, show i < F - (s + 1) by omega]
          · simp [h1, h2, show ¬ i < F - (s + 1) by omega]
      · rw [if_neg hi, if_neg hi]
        simp [show i ≠ F - (s + 1) by omega]
    · rw [if_neg h6]
      have m1 : max (F - s) (min F 6) = F - s := by omega
      have m2 : max (F - (s + 1)) (min F 6) = F - (s + 1) := by omega
      rw [m2]
      by_cases hi : i < F - (s + 1)
      · rw [if_pos hi, if_pos hi, ih, m1, if_pos (by omega)]
        simp [hi, show i < F - s by omega]
      · rw [if_neg hi, if_neg hi, ih, m1, if_neg (by omega), show i + 1 - (F - s) = i - (F - (s + 1)) by omega]
theorem wy_all {F N q : Nat} (hq : q < 2 ^ 16) (h : F + N ≤ 16) : wy_p F N q 16 = q / 2 ^ F % 2 ^ N * 2 ^ min F 6 := by
  apply Nat.eq_of_testBit_eq
  intro i
  have e := wy_lo hq h F (Nat.le_refl _) i
  rw [show 16 - F + F = 16 by omega, show max (F - F) (min F 6) = min F 6 by omega] at e
  rw [e, Nat.mul_comm, Nat.testBit_two_pow_mul]
  by_cases hi : i < min F 6
  · rw [if_pos hi]; simp [show ¬ i ≥ min F 6 by omega]
  · rw [if_neg hi, Nat.testBit_mod_two_pow, Nat.testBit_div_two_pow, Nat.add_comm F]
    simp [show i ≥ min F 6 by omega]

/-! the sets: a step of the loop -/
def wy_I (f : Nat → Int64) (n F N t : Nat) (g : Nat → Int64) (e : Nat) : Prop := (∀ r, r < 64 * 2 ^ e → (ls_mem g r = true ↔ ∃ q, q < 64 * 2 ^ n ∧ ls_mem f q = true ∧ wy_p F N q t = r)) ∧ ∀ q, q < 64 * 2 ^ n → ls_mem f q = true → wy_p F N q t < 64 * 2 ^ e
theorem wy_I0 {f g : Nat → Int64} {n F N : Nat} (h : ∀ k, k < 2 ^ n → g k = f k) : wy_I f n F N 0 g n := by
  refine ⟨fun r hr => ?_, fun q hq _ => hq⟩
  have e : ls_mem g r = ls_mem f r := by unfold ls_mem; rw [h (r / 64) (by omega)]
  rw [e]
  exact ⟨fun h => ⟨r, hr, h, rfl⟩, fun ⟨q, _, h2, h3⟩ => by rw [← h3]; exact h2⟩
theorem wy_keep {f g : Nat → Int64} {n F N t e : Nat} (h : wy_I f n F N t g e) (hk : F ≤ 15 - t ∧ 15 - t < F + N) : wy_I f n F N (t + 1) g e := by
  unfold wy_I
  simp only [wy_p, if_pos hk]
  exact h
/-- a set's image under a drop -/
theorem wy_img {f g g' : Nat → Int64} {n F N t e e' : Nat} (h : wy_I f n F N t g e) (hk : ¬ (F ≤ 15 - t ∧ 15 - t < F + N)) (hi : ∀ r, r < 64 * 2 ^ e' → (ls_mem g' r = true ↔ ∃ x, x < 64 * 2 ^ e ∧ ls_mem g x = true ∧ wy_d (15 - t) x = r)) (hl : ∀ x, x < 64 * 2 ^ e → wy_d (15 - t) x < 64 * 2 ^ e') : wy_I f n F N (t + 1) g' e' := by
  obtain ⟨h1, h2⟩ := h
  unfold wy_I
  simp only [wy_p, if_neg hk]
  refine ⟨fun r hr => ?_, fun q hq hm => hl _ (h2 q hq hm)⟩
  rw [hi r hr]
  constructor
  · rintro ⟨x, x1, x2, x3⟩
    obtain ⟨q, q1, q2, q3⟩ := (h1 x x1).mp x2
    exact ⟨q, q1, q2, by rw [q3]; exact x3⟩
  · rintro ⟨q, q1, q2, q3⟩
    exact ⟨_, h2 q q1 q2, (h1 _ (h2 q q1 q2)).mpr ⟨q, q1, q2, rfl⟩, q3⟩
theorem ls_ush_b (x : Int64) {k : Nat} (hk : k < 64) (b : Nat) : ls_b (ls_ush x k) b = ls_b x (k + b) := ls_b_ushr x hk b
theorem wy_in {g g' : Nat → Int64} {v e : Nat} (hv : v < 6) (h : ∀ k, k < 2 ^ e → g' k = (g k ||| ls_ush (g k) (2 ^ v)) &&& (ls_ones v ^^^ (-1))) : (∀ r, r < 64 * 2 ^ e → (ls_mem g' r = true ↔ ∃ x, x < 64 * 2 ^ e ∧ ls_mem g x = true ∧ wy_d v x = r)) ∧ ∀ x, x < 64 * 2 ^ e → wy_d v x < 64 * 2 ^ e := by
  have hp : 2 ^ v ≤ 32 := Nat.le_trans (Nat.pow_le_pow_right (by decide) (show v ≤ 5 by omega)) (by decide)
  have hd : ∀ x, wy_d v x = if x.testBit v = true then x - 2 ^ v else x := fun x => by unfold wy_d; rw [if_pos hv]
  have t64 : ∀ x : Nat, x.testBit v = (x % 64).testBit v := fun x => by
    rw [show (64 : Nat) = 2 ^ 6 from rfl, Nat.testBit_mod_two_pow]; simp [hv]
  refine ⟨fun r hr => ?_, fun x hx => by rw [hd]; split; exact Nat.lt_of_le_of_lt (Nat.sub_le _ _) hx; exact hx⟩
  have hb : r % 64 < 64 := Nat.mod_lt _ (by decide)
  have e1 : ls_mem g' r = ((ls_mem g r || ls_b (g (r / 64)) (2 ^ v + r % 64)) && !r.testBit v) := by
    unfold ls_mem
    rw [h (r / 64) (by omega), ls_b_and, ls_b_or, ls_ush_b _ (by omega), ls_b_not _ hb, ls_ones_b v hv _ hb, ← t64]
  rw [e1]
  constructor
  · intro q
    simp only [Bool.and_eq_true, Bool.or_eq_true, Bool.not_eq_true'] at q
    obtain ⟨q1, q2⟩ := q
    rcases q1 with q1 | q1
    · exact ⟨r, hr, q1, by rw [hd, if_neg (by rw [q2]; decide)]⟩
    · have hlt : 2 ^ v + r % 64 < 64 := by
        refine Classical.byContradiction fun z => ?_
        rw [ls_b_big (by omega)] at q1; cases q1
      have hx : (r + 2 ^ v) / 64 = r / 64 ∧ (r + 2 ^ v) % 64 = 2 ^ v + r % 64 := by
        clear hr
        generalize 2 ^ v = P at hlt ⊢
        omega
      have hbt : (r + 2 ^ v).testBit v = true := by
        have := Nat.testBit_two_pow_add_eq r v
        rw [Nat.add_comm, this, q2]; rfl
      refine ⟨r + 2 ^ v, by omega, by unfold ls_mem; rw [hx.1, hx.2]; exact q1, ?_⟩
      rw [hd, if_pos hbt]; omega
  · rintro ⟨x, x1, x2, x3⟩
    rw [hd] at x3
    have hbit : ∀ i, r.testBit i = (wy_d v x).testBit i := fun i => by rw [hd, x3]
    have hrv : r.testBit v = false := by rw [hbit, wy_db, if_pos hv]; simp
    by_cases hxv : x.testBit v = true
    · rw [if_pos hxv] at x3
      have hge := wy_sub hxv
      have hlt : (x - 2 ^ v) % 64 + 2 ^ v < 64 + 2 ^ v := by omega
      have hx64 : 2 ^ v ≤ x % 64 := wy_sub (by rw [← t64]; exact hxv)
      have hr2 : r / 64 = x / 64 ∧ 2 ^ v + r % 64 = x % 64 := by
        clear hlt hr x1
        generalize 2 ^ v = P at x3 hge hx64 ⊢
        omega
      have : ls_b (g (r / 64)) (2 ^ v + r % 64) = true := by rw [hr2.1, hr2.2]; exact x2
      rw [this, hrv]; simp
    · rw [if_neg hxv] at x3
      rw [← x3] at hrv ⊢
      rw [x2, hrv]; simp
theorem wy_out {g g' : Nat → Int64} {v e : Nat} (hv : 6 ≤ v) (hve : v - 6 < e) (h : ∀ k, k < 2 ^ (e - 1) → g' k = g (dp_in (v - 6) k) ||| g (dp_in (v - 6) k + 2 ^ (v - 6))) : (∀ r, r < 64 * 2 ^ (e - 1) → (ls_mem g' r = true ↔ ∃ x, x < 64 * 2 ^ e ∧ ls_mem g x = true ∧ wy_d v x = r)) ∧ ∀ x, x < 64 * 2 ^ e → wy_d v x < 64 * 2 ^ (e - 1) := by
  have hd : ∀ x, wy_d v x = x / 2 ^ (v + 1) * 2 ^ v + x % 2 ^ v := fun x => by unfold wy_d; rw [if_neg (by omega)]
  have p6 : ∀ j, 64 * 2 ^ j = 2 ^ (j + 6) := fun j => by rw [Nat.pow_add, Nat.mul_comm]
  have pv : 2 ^ v = 64 * 2 ^ (v - 6) := by rw [p6]; congr 1; omega
  have hpp : 0 < 2 ^ (v - 6) := Nat.pow_pos (by decide)
  have hlt : ∀ x, x < 64 * 2 ^ e → wy_d v x < 64 * 2 ^ (e - 1) := fun x hx => by
    rw [p6] at hx ⊢
    refine Nat.lt_of_not_le fun q => ?_
    obtain ⟨i, hi1, hi2⟩ := Nat.exists_ge_and_testBit_of_ge_two_pow q
    rw [wy_db, if_neg (by omega), if_neg (by omega)] at hi2
    rw [Nat.testBit_lt_two_pow (Nat.lt_of_lt_of_le hx (Nat.pow_le_pow_right (by decide) (by omega)))] at hi2
    cases hi2
  refine ⟨fun r hr => ?_, hlt⟩
  have hk : r / 64 < 2 ^ (e - 1) := by omega
  have hb : r % 64 < 64 := Nat.mod_lt _ (by decide)
  have hins : dp_in (v - 6) (r / 64) * 64 + r % 64 = r / 2 ^ v * 2 ^ (v + 1) + r % 2 ^ v := by
    unfold dp_in
    rw [show 2 ^ (v + 1) = 64 * (2 ^ (v - 6) * 2) by rw [Nat.pow_succ, pv, Nat.mul_assoc], pv, Nat.pow_succ, ← Nat.div_div_eq_div_mul, Nat.mod_mul]
    generalize r / 64 / 2 ^ (v - 6) = A
    generalize 2 ^ (v - 6) = P
    generalize r / 64 % P = B
    rw [Nat.add_mul, Nat.mul_assoc A, Nat.mul_comm (P * 2) 64]
    omega
  have e1 : ls_mem g' r = (ls_mem g (r / 2 ^ v * 2 ^ (v + 1) + r % 2 ^ v) || ls_mem g (r / 2 ^ v * 2 ^ (v + 1) + r % 2 ^ v + 2 ^ v)) := by
    rw [← hins, pv]
    unfold ls_mem
    rw [h (r / 64) hk, ls_b_or]
    congr 2
    · congr 1; omega
    · omega
    · congr 1; omega
    · omega
  have hr : ∀ c, c = 0 ∨ c = 1 → r / 2 ^ v * 2 ^ (v + 1) + r % 2 ^ v + c * 2 ^ v < 64 * 2 ^ e ∧ wy_d v (r / 2 ^ v * 2 ^ (v + 1) + r % 2 ^ v + c * 2 ^ v) = r := by
    intro c hc
    have hm : r % 2 ^ v < 2 ^ v := Nat.mod_lt _ (Nat.pow_pos (by decide))
    have hc2 : r % 2 ^ v + c * 2 ^ v < 2 ^ (v + 1) := by
      rw [Nat.pow_succ]; rcases hc with rfl | rfl <;> omega
    have q1 : (r / 2 ^ v * 2 ^ (v + 1) + r % 2 ^ v + c * 2 ^ v) / 2 ^ (v + 1) = r / 2 ^ v := by
      rw [Nat.add_assoc, Nat.mul_comm, Nat.mul_add_div (Nat.pow_pos (by decide)), Nat.div_eq_of_lt hc2, Nat.add_zero]
    have q2 : (r / 2 ^ v * 2 ^ (v + 1) + r % 2 ^ v + c * 2 ^ v) % 2 ^ v = r % 2 ^ v := by
      rw [Nat.pow_succ, Nat.add_mul_mod_self_right, ← Nat.mul_assoc, Nat.mul_right_comm, Nat.add_comm, Nat.add_mul_mod_self_right, Nat.mod_mod]
    refine ⟨?_, by rw [hd, q1, q2, Nat.mul_comm]; exact Nat.div_add_mod r (2 ^ v)⟩
    have q3 : r / 2 ^ v < 2 ^ (e + 6 - (v + 1)) := by
      rw [Nat.div_lt_iff_lt_mul (Nat.pow_pos (by decide)), ← Nat.pow_add, show e + 6 - (v + 1) + v = e - 1 + 6 by omega, ← p6]
      exact hr
    have q4 : (r / 2 ^ v + 1) * 2 ^ (v + 1) ≤ 2 ^ (e + 6 - (v + 1)) * 2 ^ (v + 1) := Nat.mul_le_mul_right _ q3
    rw [← Nat.pow_add, show e + 6 - (v + 1) + (v + 1) = e + 6 by omega, ← p6, Nat.add_mul, Nat.one_mul] at q4
    omega
  rw [e1, Bool.or_eq_true]
  constructor
  · rintro (q | q)
    · have := hr 0 (Or.inl rfl); rw [Nat.zero_mul, Nat.add_zero] at this
      exact ⟨_, this.1, q, this.2⟩
    · have := hr 1 (Or.inr rfl); rw [Nat.one_mul] at this
      exact ⟨_, this.1, q, this.2⟩
  · rintro ⟨x, x1, x2, x3⟩
    have hx : x = r / 2 ^ v * 2 ^ (v + 1) + r % 2 ^ v + (if x.testBit v = true then 2 ^ v else 0) := by
      rw [hd] at x3
      have hm : x % 2 ^ v < 2 ^ v := Nat.mod_lt _ (Nat.pow_pos (by decide))
      have a1 : r / 2 ^ v = x / 2 ^ (v + 1) := by
        rw [← x3, Nat.mul_comm, Nat.mul_add_div (Nat.pow_pos (by decide)), Nat.div_eq_of_lt hm, Nat.add_zero]
      have a2 : r % 2 ^ v = x % 2 ^ v := by
        rw [← x3, Nat.mul_comm, Nat.mul_add_mod, Nat.mod_mod]
      rw [a1, a2]
      have := Nat.div_add_mod x (2 ^ (v + 1))
      rw [lr_ms] at this
      rw [Nat.mul_comm]
      omega
    split at hx
    · right; rw [← hx]; exact x2
    · left; rw [Nat.add_zero] at hx; rw [← hx]; exact x2
