/-! the least row: what the three loops keep -/
def lr_any (f : Nat → Int64) (U b : Nat) : Prop := ∃ k, k < U ∧ ls_b (f k) b = true
def ls_mem (f : Nat → Int64) (r : Nat) : Bool := ls_b (f (r / 64)) (r % 64)
theorem lr_ms (x i : Nat) : x % 2 ^ (i + 1) = x % 2 ^ i + (if x.testBit i = true then 2 ^ i else 0) := by
  rw [Nat.pow_succ, Nat.mod_mul, ls_bit]
  split <;> simp
theorem lr_or {a i : Nat} (h : a < 2 ^ i) : a ||| 2 ^ i = a + 2 ^ i := by
  have := Nat.two_pow_add_eq_or_of_lt h 1
  rw [Nat.mul_one] at this
  rw [Nat.or_comm, ← this, Nat.add_comm]
theorem lr_tl {a i u : Nat} (h : a < 2 ^ i) (hu : u < i) : (a + 2 ^ i).testBit u = a.testBit u ∧ (a + 2 ^ i) % 2 ^ u = a % 2 ^ u := by
  refine ⟨?_, ?_⟩
  · rw [← lr_or h, Nat.testBit_or, Nat.testBit_two_pow]
    simp; omega
  · obtain ⟨d, rfl⟩ : ∃ d, i = u + d := ⟨i - u, by omega⟩
    rw [Nat.pow_add, Nat.add_mul_mod_self_left]
theorem lr_ti {a i : Nat} (h : a < 2 ^ i) : (a + 2 ^ i).testBit i = true ∧ (a + 2 ^ i) % 2 ^ i = a := by
  refine ⟨?_, ?_⟩
  · rw [← lr_or h, Nat.testBit_or, Nat.testBit_two_pow]
    simp
  · rw [Nat.add_mod_right, Nat.mod_eq_of_lt h]
def lr_2 (f : Nat → Int64) (U v : Nat) (bits : Int64) (inn : Nat) : Prop := v ≤ 6 ∧ inn < 2 ^ v ∧ bits ≠ 0 ∧ (∀ b, b < 64 → (ls_b bits b = true ↔ lr_any f U b ∧ b % 2 ^ v = inn)) ∧ ∀ u, u < v → inn.testBit u = true → ∀ b, b < 64 → lr_any f U b → b % 2 ^ u = inn % 2 ^ u → b.testBit u = true
theorem lr_20 {f : Nat → Int64} {U : Nat} {bits : Int64} (h : ∀ b, b < 64 → (ls_b bits b = true ↔ lr_any f U b)) (hne : ∃ k, k < U ∧ f k ≠ 0) : lr_2 f U 0 bits 0 := by
  refine ⟨by decide, by decide, ?_, fun b hb => ?_, fun u hu => absurd hu (Nat.not_lt_zero _)⟩
  · obtain ⟨k, hk, hn⟩ := hne
    obtain ⟨b, hb, hv⟩ := ls_b_ne hn
    intro q
    have := (h b hb).mpr ⟨k, hk, hv⟩
    rw [q, ls_b_0] at this
    cases this
  · rw [h b hb]
    simp [Nat.mod_one]
theorem lr_zb (bits : Int64) {v b : Nat} (hv : v < 6) (hb : b < 64) : ls_b (bits &&& (ls_ones v ^^^ (-1))) b = (ls_b bits b && !b.testBit v) := by
  rw [ls_b_and, ls_b_not _ hb, ls_ones_b v hv b hb]
theorem lr_2z {f : Nat → Int64} {U v : Nat} {bits : Int64} {inn : Nat} (h : lr_2 f U v bits inn) (hv : v < 6) (hz : bits &&& (ls_ones v ^^^ (-1)) ≠ 0) : lr_2 f U (v + 1) (bits &&& (ls_ones v ^^^ (-1))) inn := by
  obtain ⟨h1, h2, h3, h4, h5⟩ := h
  refine ⟨hv, Nat.lt_of_lt_of_le h2 (Nat.pow_le_pow_right (by decide) (by omega)), hz, fun b hb => ?_, fun u hu => ?_⟩
  · rw [lr_zb bits hv hb, Bool.and_eq_true, h4 b hb, lr_ms]
    cases hbv : b.testBit v with
    | false => simp
    | true =>
      simp
      intro _ q
      omega
  · rcases Nat.lt_or_ge u v with q | q
    · exact h5 u q
    · rw [show u = v by omega, Nat.testBit_lt_two_pow h2]
      intro q; cases q
theorem lr_2o {f : Nat → Int64} {U v : Nat} {bits : Int64} {inn : Nat} (h : lr_2 f U v bits inn) (hv : v < 6) (hz : bits &&& (ls_ones v ^^^ (-1)) = 0) : lr_2 f U (v + 1) bits (inn + 2 ^ v) := by
  obtain ⟨h1, h2, h3, h4, h5⟩ := h
  have hb1 : ∀ b, b < 64 → ls_b bits b = true → b.testBit v = true := fun b hb hv1 => by
    have := congrArg (fun z => ls_b z b) hz
    simp only [ls_b_0] at this
    rw [lr_zb bits hv hb, hv1] at this
    simpa using this
  refine ⟨hv, by rw [Nat.pow_succ]; omega, h3, fun b hb => ?_, fun u hu => ?_⟩
  · rw [lr_ms]
    constructor
    · intro q
      obtain ⟨a1, a2⟩ := (h4 b hb).mp q
      rw [if_pos (hb1 b hb q), a2]
      exact ⟨a1, rfl⟩
    · intro q
      refine (h4 b hb).mpr ⟨q.1, ?_⟩
      have q2 := q.2
      split at q2
      · omega
      · have := Nat.mod_lt b (show 0 < 2 ^ v from Nat.pow_pos (by decide))
        omega
  · rcases Nat.lt_or_ge u v with q | q
    · rw [(lr_tl h2 q).1, (lr_tl h2 q).2]
      exact h5 u q
    · rw [show u = v by omega, (lr_ti h2).2]
      intro _ b hb ha he
      exact hb1 b hb ((h4 b hb).mpr ⟨ha, he⟩)
def lr_3 (f : Nat → Int64) (U inn j wd : Nat) : Prop := wd < 2 ^ j ∧ (∃ k, k < U ∧ k % 2 ^ j = wd ∧ ls_b (f k) inn = true) ∧ ∀ u, u < j → wd.testBit u = true → ∀ k, k < U → ls_b (f k) inn = true → k % 2 ^ u = wd % 2 ^ u → k.testBit u = true
theorem lr_6 {f : Nat → Int64} {U : Nat} {bits : Int64} {inn : Nat} (h : lr_2 f U 6 bits inn) : inn < 64 ∧ (∀ b, b < 64 → (ls_b bits b = true ↔ lr_any f U b ∧ b = inn)) ∧ lr_3 f U inn 0 0 := by
  obtain ⟨h1, h2, h3, h4, h5⟩ := h
  have hb : ∀ b, b < 64 → (ls_b bits b = true ↔ lr_any f U b ∧ b = inn) := fun b hb => by
    rw [h4 b hb, show b % 2 ^ 6 = b from Nat.mod_eq_of_lt hb]
  refine ⟨h2, hb, by decide, ?_, fun u hu => absurd hu (Nat.not_lt_zero _)⟩
  obtain ⟨b, hb9, hv⟩ := ls_b_ne h3
  obtain ⟨⟨k, hk, hv2⟩, rfl⟩ := (hb b hb9).mp hv
  exact ⟨k, hk, by simp [Nat.mod_one], hv2⟩
theorem lr_nz {f : Nat → Int64} {U k : Nat} {bits : Int64} {inn : Nat} (hi : inn < 64) (h : ∀ b, b < 64 → (ls_b bits b = true ↔ lr_any f U b ∧ b = inn)) (hk : k < U) : f k &&& bits ≠ 0 ↔ ls_b (f k) inn = true := by
  constructor
  · intro q
    obtain ⟨b, hb, hv⟩ := ls_b_ne q
    rw [ls_b_and, Bool.and_eq_true] at hv
    rw [← ((h b hb).mp hv.2).2]
    exact hv.1
  · intro q q0
    have := congrArg (fun z => ls_b z inn) q0
    simp only [ls_b_0, ls_b_and, q, (h inn hi).mpr ⟨⟨k, hk, q⟩, rfl⟩] at this
    cases this
theorem lr_3y {f : Nat → Int64} {U inn j wd t : Nat} (h : lr_3 f U inn j wd) (ht : wd + 2 ^ (j + 1) * t < U) (hv : ls_b (f (wd + 2 ^ (j + 1) * t)) inn = true) : lr_3 f U inn (j + 1) wd := by
  obtain ⟨h1, h2, h3⟩ := h
  have h1' : wd < 2 ^ (j + 1) := by rw [Nat.pow_succ]; omega
  refine ⟨h1', ⟨_, ht, by rw [Nat.add_mul_mod_self_left, Nat.mod_eq_of_lt h1'], hv⟩, fun u hu => ?_⟩
  rcases Nat.lt_or_ge u j with q | q
  · exact h3 u q
  · rw [show u = j by omega, Nat.testBit_lt_two_pow h1]
    intro q; cases q
theorem lr_3n {f : Nat → Int64} {U inn j wd : Nat} (h : lr_3 f U inn j wd) (hn : ∀ t, wd + 2 ^ (j + 1) * t < U → ¬ ls_b (f (wd + 2 ^ (j + 1) * t)) inn = true) : lr_3 f U inn (j + 1) (wd + 2 ^ j) := by
  obtain ⟨h1, ⟨k, hk, hm, hv⟩, h3⟩ := h
  have key : ∀ k, k < U → k % 2 ^ j = wd → ls_b (f k) inn = true → k.testBit j = true := fun k hk hm hv => by
    cases hb : k.testBit j with
    | true => rfl
    | false =>
      have e : k % 2 ^ (j + 1) = wd := by rw [lr_ms, hm, hb]; simp
      have e2 : wd + 2 ^ (j + 1) * (k / 2 ^ (j + 1)) = k := by rw [← e]; exact Nat.mod_add_div _ _
      exact absurd (by rw [e2]; exact hv) (hn (k / 2 ^ (j + 1)) (by rw [e2]; exact hk))
  refine ⟨by rw [Nat.pow_succ]; omega, ⟨k, hk, by rw [lr_ms, hm, if_pos (key k hk hm hv)], hv⟩, fun u hu => ?_⟩
  rcases Nat.lt_or_ge u j with q | q
  · rw [(lr_tl h1 q).1, (lr_tl h1 q).2]
    exact h3 u q
  · rw [show u = j by omega, (lr_ti h1).2]
    intro _ k hk hv hm
    exact key k hk hm hv
/-- a row of the set, and each of its ones is forced -/
def lr_L (f : Nat → Int64) (n r : Nat) : Prop := r < 64 * 2 ^ n ∧ ls_mem f r = true ∧ ∀ v, v < n + 6 → r.testBit v = true → ∀ q, q < 64 * 2 ^ n → ls_mem f q = true → q % 2 ^ v = r % 2 ^ v → q.testBit v = true
theorem lr_end {f : Nat → Int64} {n inn wd : Nat} {bits : Int64} (h2 : lr_2 f (2 ^ n) 6 bits inn) (h3 : lr_3 f (2 ^ n) inn n wd) : lr_L f n (64 * wd + inn) := by
  have hi : inn < 64 := h2.2.1
  obtain ⟨a1, ⟨k, hk, hm, hv⟩, a3⟩ := h3
  rw [Nat.mod_eq_of_lt hk] at hm
  subst hm
  have d1 : (64 * k + inn) / 64 = k := by omega
  have d2 : (64 * k + inn) % 64 = inn := by omega
  refine ⟨by omega, by unfold ls_mem; rw [d1, d2]; exact hv, fun v hvn hr q hq hqm he => ?_⟩
  have eq : q = 64 * (q / 64) + q % 64 := by omega
  have hb : q % 64 < 64 := Nat.mod_lt _ (by decide)
  have hqk : q / 64 < 2 ^ n := by omega
  rw [eq, ls_tb hb]
  rw [ls_tb hi] at hr
  unfold ls_mem at hqm
  by_cases h6 : v < 6
  · rw [if_pos h6] at hr ⊢
    refine h2.2.2.2.2 v h6 hr (q % 64) hb ⟨q / 64, hqk, hqm⟩ ?_
    have e64 : ∀ x : Nat, x % 64 % 2 ^ v = x % 2 ^ v := fun x => by
      obtain ⟨d, hd⟩ : ∃ d, 6 = v + d := ⟨6 - v, by omega⟩
      rw [show (64 : Nat) = 2 ^ 6 from rfl, hd, Nat.pow_add, Nat.mod_mul_right_mod]
    rw [e64, he, ← e64, d2]
  · rw [if_neg h6] at hr ⊢
    have ev : ∀ x : Nat, x % 2 ^ v = x % 64 + 64 * (x / 64 % 2 ^ (v - 6)) := fun x => by
      have : 2 ^ v = 64 * 2 ^ (v - 6) := by
        rw [show (64 : Nat) = 2 ^ 6 from rfl, ← Nat.pow_add]; congr 1; omega
      rw [this, Nat.mod_mul]
    rw [ev, ev, d1, d2] at he
    have e1 : q % 64 = inn := by omega
    have e2 : q / 64 % 2 ^ (v - 6) = k % 2 ^ (v - 6) := by omega
    rw [e1] at hqm
    exact a3 (v - 6) (by omega) hr (q / 64) hqk hqm e2
