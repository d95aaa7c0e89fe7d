/-! counting bits: Long.bitCount's sum, on lists of bytes -/
def ls_cnt (p : Nat → Bool) : Nat → Nat
  | 0 => 0
  | n + 1 => ls_cnt p n + (if p n = true then 1 else 0)
theorem ls_cnt_add (p : Nat → Bool) (a b : Nat) : ls_cnt p (a + b) = ls_cnt p a + ls_cnt (fun i => p (a + i)) b := by
  induction b with
  | zero => rfl
  | succ b ih =>
    show ls_cnt p (a + b) + (if p (a + b) = true then 1 else 0) = ls_cnt p a + (ls_cnt (fun i => p (a + i)) b + (if p (a + b) = true then 1 else 0))
    rw [ih, Nat.add_assoc]
theorem ls_cnt_congr {p q : Nat → Bool} {n : Nat} (h : ∀ i, i < n → p i = q i) : ls_cnt p n = ls_cnt q n := by
  induction n with
  | zero => rfl
  | succ n ih =>
    show ls_cnt p n + _ = ls_cnt q n + _
    rw [ih (fun i hi => h i (Nat.lt_succ_of_lt hi)), h n (Nat.lt_succ_self n)]
theorem ls_cnt_le (p : Nat → Bool) (n : Nat) : ls_cnt p n ≤ n := by
  induction n with
  | zero => exact Nat.le_refl 0
  | succ n ih =>
    show ls_cnt p n + _ ≤ n + 1
    split <;> omega
def bc_N : List Nat → Nat
  | [] => 0
  | a :: t => a + 256 * bc_N t
def bc_K (m : Nat) : Nat → Nat
  | 0 => 0
  | k + 1 => m + 256 * bc_K m k
def bc_by : Nat → Nat → List Nat
  | 0, _ => []
  | k + 1, n => n % 256 :: bc_by k (n / 256)
theorem bc_by_len (k n : Nat) : (bc_by k n).length = k := by
  induction k generalizing n with
  | zero => rfl
  | succ k ih => simp [bc_by, ih]
theorem bc_by_lt (k n : Nat) : ∀ a ∈ bc_by k n, a < 256 := by
  induction k generalizing n with
  | zero => intro a h; cases h
  | succ k ih =>
    intro a h
    rcases List.mem_cons.mp h with h | h
    · rw [h]; exact Nat.mod_lt _ (by decide)
    · exact ih _ a h
theorem bc_N_by (k n : Nat) (h : n < 256 ^ k) : bc_N (bc_by k n) = n := by
  induction k generalizing n with
  | zero => simp at h; subst h; rfl
  | succ k ih =>
    show n % 256 + 256 * bc_N (bc_by k (n / 256)) = n
    rw [ih (n / 256) (by rw [Nat.pow_succ] at h; omega)]
    omega
theorem bc_and (a m T M : Nat) (ha : a < 256) (hm : m < 256) : (a + 256 * T) &&& (m + 256 * M) = (a &&& m) + 256 * (T &&& M) := by
  have h1 : (a &&& m) < 2 ^ 8 := Nat.and_lt_two_pow a (by omega)
  rw [Nat.add_comm a, Nat.add_comm m, Nat.add_comm (a &&& m)]
  apply Nat.eq_of_testBit_eq
  intro i
  rw [Nat.testBit_and, show (256 : Nat) = 2 ^ 8 from rfl, Nat.testBit_two_pow_mul_add T (by omega), Nat.testBit_two_pow_mul_add M (by omega), Nat.testBit_two_pow_mul_add _ h1]
  split <;> simp
theorem bc_andK (m : Nat) (hm : m < 256) : ∀ l : List Nat, (∀ a ∈ l, a < 256) → bc_N l &&& bc_K m l.length = bc_N (l.map (fun a => a &&& m)) := by
  intro l
  induction l with
  | nil => intro _; exact Nat.zero_and _
  | cons a t ih =>
    intro h
    show (a + 256 * bc_N t) &&& (m + 256 * bc_K m t.length) = (a &&& m) + 256 * bc_N (t.map _)
    rw [bc_and _ _ _ _ (h a (by simp)) hm, ih (fun x hx => h x (by simp [hx]))]
theorem bc_8 : ∀ c, c < 2 → ∀ a, a < 256 → ((a / 2 + 128 * c) &&& 85) = (a / 2 &&& 85) := by decide +kernel
theorem bc_4 : ∀ c, c < 4 → ∀ a, a < 256 → ((a / 4 + 64 * c) &&& 51) = (a / 4 &&& 51) := by decide +kernel
theorem bc_sh1 : ∀ l : List Nat, (∀ a ∈ l, a < 256) → (bc_N l / 2) &&& bc_K 85 l.length = bc_N (l.map (fun a => a / 2 &&& 85)) := by
  intro l
  induction l with
  | nil => intro _; rfl
  | cons a t ih =>
    intro h
    have ha := h a (by simp)
    show ((a + 256 * bc_N t) / 2) &&& (85 + 256 * bc_K 85 t.length) = (a / 2 &&& 85) + 256 * bc_N (t.map _)
    rw [show (a + 256 * bc_N t) / 2 = (a / 2 + 128 * (bc_N t % 2)) + 256 * (bc_N t / 2) by omega, bc_and _ _ _ _ (by omega) (by decide), bc_8 _ (by omega) a ha, ih (fun x hx => h x (by simp [hx]))]
theorem bc_sh2 : ∀ l : List Nat, (∀ a ∈ l, a < 256) → (bc_N l / 4) &&& bc_K 51 l.length = bc_N (l.map (fun a => a / 4 &&& 51)) := by
  intro l
  induction l with
  | nil => intro _; rfl
  | cons a t ih =>
    intro h
    have ha := h a (by simp)
    show ((a + 256 * bc_N t) / 4) &&& (51 + 256 * bc_K 51 t.length) = (a / 4 &&& 51) + 256 * bc_N (t.map _)
    rw [show (a + 256 * bc_N t) / 4 = (a / 4 + 64 * (bc_N t % 4)) + 256 * (bc_N t / 4) by omega, bc_and _ _ _ _ (by omega) (by decide), bc_4 _ (by omega) a ha, ih (fun x hx => h x (by simp [hx]))]
theorem bc_sub (f g : Nat → Nat) : ∀ l : List Nat, (∀ a ∈ l, g a ≤ f a) → bc_N (l.map g) ≤ bc_N (l.map f) ∧ bc_N (l.map f) - bc_N (l.map g) = bc_N (l.map (fun a => f a - g a)) := by
  intro l
  induction l with
  | nil => intro _; exact ⟨Nat.le_refl _, rfl⟩
  | cons a t ih =>
    intro h
    have ha := h a (by simp)
    obtain ⟨h1, h2⟩ := ih (fun x hx => h x (by simp [hx]))
    simp only [List.map_cons, bc_N]
    rw [← h2]
    omega
theorem bc_sum (f g : Nat → Nat) : ∀ l : List Nat, bc_N (l.map f) + bc_N (l.map g) = bc_N (l.map (fun a => f a + g a)) := by
  intro l
  induction l with
  | nil => rfl
  | cons a t ih =>
    simp only [List.map_cons, bc_N]
    rw [← ih]
    omega
theorem bc_16 : ∀ c, c < 5 → ∀ a, a < 69 → a % 16 < 5 → ((a + a / 16 + 16 * c) &&& 15) = (a + a / 16) % 16 := by decide +kernel
theorem bc_sh4 : ∀ l : List Nat, (∀ a ∈ l, a < 69 ∧ a % 16 < 5) → (bc_N l % 16 < 5) ∧ (bc_N l + bc_N l / 16) &&& bc_K 15 l.length = bc_N (l.map (fun a => (a + a / 16) % 16)) := by
  intro l
  induction l with
  | nil => intro _; exact ⟨by decide, rfl⟩
  | cons a t ih =>
    intro h
    obtain ⟨ha, hb⟩ := h a (by simp)
    obtain ⟨h1, h2⟩ := ih (fun x hx => h x (by simp [hx]))
    refine ⟨by show (a + 256 * bc_N t) % 16 < 5; omega, ?_⟩
    show ((a + 256 * bc_N t) + (a + 256 * bc_N t) / 16) &&& (15 + 256 * bc_K 15 t.length) = (a + a / 16) % 16 + 256 * bc_N (t.map _)
    rw [show (a + 256 * bc_N t) + (a + 256 * bc_N t) / 16 = (a + a / 16 + 16 * (bc_N t % 16)) + 256 * (bc_N t + bc_N t / 16) by omega, bc_and _ _ _ _ (by omega) (by decide), bc_16 _ h1 a ha hb, h2]
def bc_1 (a : Nat) : Nat := a - (a / 2 &&& 85)
def bc_2 (a : Nat) : Nat := (bc_1 a &&& 51) + (bc_1 a / 4 &&& 51)
def bc_3 (a : Nat) : Nat := (bc_2 a + bc_2 a / 16) % 16
theorem bc_f1 : ∀ a, a < 256 → (a / 2 &&& 85) ≤ a ∧ bc_1 a < 256 := by decide +kernel
theorem bc_f2 : ∀ a, a < 256 → bc_2 a < 69 ∧ bc_2 a % 16 < 5 := by decide +kernel
theorem bc_f3 : ∀ a, a < 256 → bc_3 a = ls_cnt (fun i => a.testBit i) 8 := by decide +kernel
theorem bc_cnt : ∀ l : List Nat, (∀ a ∈ l, a < 256) → ls_cnt (fun i => (bc_N l).testBit i) (8 * l.length) = (l.map bc_3).sum := by
  intro l
  induction l with
  | nil => intro _; rfl
  | cons a t ih =>
    intro h
    have ha := h a (by simp)
    rw [show 8 * (a :: t).length = 8 + 8 * t.length by simp; omega, ls_cnt_add, List.map_cons, List.sum_cons, bc_f3 a ha, ← ih (fun x hx => h x (by simp [hx]))]
    have e : ∀ j, (bc_N (a :: t)).testBit j = if j < 8 then a.testBit j else (bc_N t).testBit (j - 8) := fun j => by
      show (a + 256 * bc_N t).testBit j = _
      rw [Nat.add_comm, show (256 : Nat) = 2 ^ 8 from rfl, Nat.testBit_two_pow_mul_add _ (by omega)]
    congr 1
    · exact ls_cnt_congr (fun i hi => by rw [e, if_pos hi])
    · exact ls_cnt_congr (fun i _ => by rw [e, if_neg (by omega), Nat.add_sub_cancel_left])
theorem bc_N_lt : ∀ l : List Nat, (∀ a ∈ l, a < 256) → bc_N l < 256 ^ l.length := by
  intro l
  induction l with
  | nil => intro _; exact Nat.one_pos
  | cons a t ih =>
    intro h
    have h1 := h a (by simp)
    have h2 := ih (fun x hx => h x (by simp [hx]))
    show a + 256 * bc_N t < 256 ^ (t.length + 1)
    rw [Nat.pow_succ]
    omega
theorem bc_div (a : Nat) (t : List Nat) (h : a < 256) : bc_N (a :: t) / 256 = bc_N t := by
  show (a + 256 * bc_N t) / 256 = bc_N t
  generalize bc_N t = T
  omega
theorem bc_lt8 {l : List Nat} (h : ∀ a ∈ l, a < 256) (hl : l.length = 8) : bc_N l < 2 ^ 64 := by
  have h1 := bc_N_lt l h
  rw [hl] at h1
  exact h1
theorem bc_end (a0 a1 a2 a3 a4 a5 a6 a7 : Nat) (h0 : a0 ≤ 8) (h1 : a1 ≤ 8) (h2 : a2 ≤ 8) (h3 : a3 ≤ 8) (h4 : a4 ≤ 8) (h5 : a5 ≤ 8) (h6 : a6 ≤ 8) (h7 : a7 ≤ 8) : ∃ x4 x5 x6 : Nat, x4 = bc_N [a0, a1, a2, a3, a4, a5, a6, a7] + bc_N [a0, a1, a2, a3, a4, a5, a6, a7] / 256 ∧ x5 = x4 + x4 / 65536 ∧ x6 = x5 + x5 / 4294967296 ∧ bc_N [a0, a1, a2, a3, a4, a5, a6, a7] < 2 ^ 64 ∧ x4 < 2 ^ 64 ∧ x5 < 2 ^ 64 ∧ x6 % 128 = [a0, a1, a2, a3, a4, a5, a6, a7].sum := by
  have e4 : bc_N [a0, a1, a2, a3, a4, a5, a6, a7] + bc_N [a0, a1, a2, a3, a4, a5, a6, a7] / 256 = bc_N [a0 + a1, a1 + a2, a2 + a3, a3 + a4, a4 + a5, a5 + a6, a6 + a7, a7] := by
    rw [bc_div _ _ (by omega)]
    simp only [bc_N]; omega
  have e5 : bc_N [a0 + a1, a1 + a2, a2 + a3, a3 + a4, a4 + a5, a5 + a6, a6 + a7, a7] + bc_N [a0 + a1, a1 + a2, a2 + a3, a3 + a4, a4 + a5, a5 + a6, a6 + a7, a7] / 65536 = bc_N [a0 + a1 + (a2 + a3), a1 + a2 + (a3 + a4), a2 + a3 + (a4 + a5), a3 + a4 + (a5 + a6), a4 + a5 + (a6 + a7), a5 + a6 + a7, a6 + a7, a7] := by
    rw [show (65536 : Nat) = 256 * 256 from rfl, ← Nat.div_div_eq_div_mul, bc_div _ _ (by omega), bc_div _ _ (by omega)]
    simp only [bc_N]; omega
  have e6 : bc_N [a0 + a1 + (a2 + a3), a1 + a2 + (a3 + a4), a2 + a3 + (a4 + a5), a3 + a4 + (a5 + a6), a4 + a5 + (a6 + a7), a5 + a6 + a7, a6 + a7, a7] + bc_N [a0 + a1 + (a2 + a3), a1 + a2 + (a3 + a4), a2 + a3 + (a4 + a5), a3 + a4 + (a5 + a6), a4 + a5 + (a6 + a7), a5 + a6 + a7, a6 + a7, a7] / 4294967296 = bc_N [a0 + a1 + (a2 + a3) + (a4 + a5 + (a6 + a7)), a1 + a2 + (a3 + a4) + (a5 + a6 + a7), a2 + a3 + (a4 + a5) + (a6 + a7), a3 + a4 + (a5 + a6) + a7, a4 + a5 + (a6 + a7), a5 + a6 + a7, a6 + a7, a7] := by
    rw [show (4294967296 : Nat) = 256 * 256 * 256 * 256 from rfl, ← Nat.div_div_eq_div_mul, ← Nat.div_div_eq_div_mul, ← Nat.div_div_eq_div_mul, bc_div _ _ (by omega), bc_div _ _ (by omega), bc_div _ _ (by omega), bc_div _ _ (by omega)]
    simp only [bc_N]; omega
  refine ⟨_, _, _, e4.symm, e5.symm, e6.symm, bc_lt8 ?_ rfl, bc_lt8 ?_ rfl, bc_lt8 ?_ rfl, ?_⟩
  · simp only [List.mem_cons, List.not_mem_nil, or_false, forall_eq_or_imp, forall_eq]; omega
  · simp only [List.mem_cons, List.not_mem_nil, or_false, forall_eq_or_imp, forall_eq]; omega
  · simp only [List.mem_cons, List.not_mem_nil, or_false, forall_eq_or_imp, forall_eq]; omega
  · rw [bc_N]
    generalize bc_N _ = T
    simp only [List.sum_cons, List.sum_nil]
    omega
/-- the sum that Long.bitCount makes, on a number below 2^64 -/
theorem bc_main {n : Nat} (hn : n < 2 ^ 64) : ∃ x1 x2 x3 x4 x5 x6 : Nat,
    (n / 2 &&& 6148914691236517205) ≤ n ∧ x1 = n - (n / 2 &&& 6148914691236517205) ∧
    x2 = (x1 &&& 3689348814741910323) + (x1 / 4 &&& 3689348814741910323) ∧ x2 < 2 ^ 64 ∧
    x3 = (x2 + x2 / 16 &&& 1085102592571150095) ∧
    x4 = x3 + x3 / 256 ∧ x4 < 2 ^ 64 ∧ x5 = x4 + x4 / 65536 ∧ x5 < 2 ^ 64 ∧ x6 = x5 + x5 / 4294967296 ∧ x3 < 2 ^ 64 ∧ x1 < 2 ^ 64 ∧
    x6 % 128 = ls_cnt (fun i => n.testBit i) 64 := by
  have hl : ∀ a ∈ bc_by 8 n, a < 256 := bc_by_lt 8 n
  have hL : (bc_by 8 n).length = 8 := bc_by_len 8 n
  have hN : bc_N (bc_by 8 n) = n := bc_N_by 8 n hn
  generalize bc_by 8 n = l at hl hL hN
  subst hN
  have k1 : bc_K 85 l.length = 6148914691236517205 := by rw [hL]; rfl
  have k2 : bc_K 51 l.length = 3689348814741910323 := by rw [hL]; rfl
  have k3 : bc_K 15 l.length = 1085102592571150095 := by rw [hL]; rfl
  have s1 := bc_sh1 l hl
  rw [k1] at s1
  obtain ⟨le1, e1⟩ := bc_sub (fun a => a) (fun a => a / 2 &&& 85) l (fun a ha => (bc_f1 a (hl a ha)).1)
  have hid : l.map (fun a => a) = l := by simp
  rw [hid] at le1 e1
  have e1' : bc_N l - bc_N (l.map fun a => a / 2 &&& 85) = bc_N (l.map bc_1) := e1
  have hl1 : ∀ a ∈ l.map bc_1, a < 256 := fun a ha => by
    obtain ⟨b, hb, rfl⟩ := List.mem_map.mp ha
    exact (bc_f1 b (hl b hb)).2
  have s2a := bc_andK 51 (by decide) (l.map bc_1) hl1
  have s2b := bc_sh2 (l.map bc_1) hl1
  rw [List.length_map, k2] at s2a s2b
  rw [List.map_map] at s2a s2b
  have e2 : (bc_N (l.map bc_1) &&& 3689348814741910323) + (bc_N (l.map bc_1) / 4 &&& 3689348814741910323) = bc_N (l.map bc_2) := by
    rw [s2a, s2b, bc_sum]
    rfl
  have hl2 : ∀ a ∈ l.map bc_2, a < 69 ∧ a % 16 < 5 := fun a ha => by
    obtain ⟨b, hb, rfl⟩ := List.mem_map.mp ha
    exact bc_f2 b (hl b hb)
  have s3 := (bc_sh4 (l.map bc_2) hl2).2
  rw [List.length_map, k3, List.map_map] at s3
  have e3 : (bc_N (l.map bc_2) + bc_N (l.map bc_2) / 16 &&& 1085102592571150095) = bc_N (l.map bc_3) := s3
  have hc := bc_cnt l hl
  rw [hL] at hc
  have hl3 : ∀ a ∈ l.map bc_3, a ≤ 8 := fun a ha => by
    obtain ⟨b, hb, rfl⟩ := List.mem_map.mp ha
    rw [bc_f3 b (hl b hb)]
    exact ls_cnt_le _ 8
  have hL3 : (l.map bc_3).length = 8 := by rw [List.length_map, hL]
  have hL2 : (l.map bc_2).length = 8 := by rw [List.length_map, hL]
  have q2 : bc_N (l.map bc_2) < 2 ^ 64 := bc_lt8 (fun a ha => by have := hl2 a ha; omega) hL2
  have q1 : bc_N (l.map bc_1) < 2 ^ 64 := bc_lt8 hl1 (by rw [List.length_map, hL])
  have q3 : ∃ x4 x5 x6 : Nat, x4 = bc_N (l.map bc_3) + bc_N (l.map bc_3) / 256 ∧ x5 = x4 + x4 / 65536 ∧ x6 = x5 + x5 / 4294967296 ∧ bc_N (l.map bc_3) < 2 ^ 64 ∧ x4 < 2 ^ 64 ∧ x5 < 2 ^ 64 ∧ x6 % 128 = (l.map bc_3).sum := by
    match h : l.map bc_3, hL3 with
    | [a0, a1, a2, a3, a4, a5, a6, a7], _ =>
      rw [h] at hl3
      simp only [List.mem_cons, List.not_mem_nil, or_false, forall_eq_or_imp, forall_eq] at hl3
      exact bc_end a0 a1 a2 a3 a4 a5 a6 a7 hl3.1 hl3.2.1 hl3.2.2.1 hl3.2.2.2.1 hl3.2.2.2.2.1 hl3.2.2.2.2.2.1 hl3.2.2.2.2.2.2.1 hl3.2.2.2.2.2.2.2
  obtain ⟨x4, x5, x6, f4, f5, f6, g3, g4, g5, hs⟩ := q3
  exact ⟨_, _, _, x4, x5, x6, by rw [s1]; exact le1, by rw [s1]; exact e1'.symm, e2.symm, q2, e3.symm, f4, g4, f5, g5, f6, g3, q1, by rw [hs]; exact hc.symm⟩
