/-! dropping a variable above the words -/
def dp_kp (e i : Nat) : Nat := i / 2 ^ (e + 1) * 2 ^ e + min (i % 2 ^ (e + 1)) (2 ^ e)
def dp_in (e k : Nat) : Nat := k / 2 ^ e * 2 ^ (e + 1) + k % 2 ^ e
theorem dp_e {e : Nat} (h : e < 10) : e = 0 ∨ e = 1 ∨ e = 2 ∨ e = 3 ∨ e = 4 ∨ e = 5 ∨ e = 6 ∨ e = 7 ∨ e = 8 ∨ e = 9 := by omega
theorem dp_0 (e : Nat) : dp_kp e 0 = 0 := by simp [dp_kp]
theorem dp_z {e i : Nat} (he : e < 10) (h : i / 2 ^ e % 2 = 0) : dp_kp e (i + 1) = dp_kp e i + 1 ∧ dp_in e (dp_kp e i) = i := by
  rcases dp_e he with rfl | rfl | rfl | rfl | rfl | rfl | rfl | rfl | rfl | rfl <;> simp only [dp_kp, dp_in, Nat.reducePow, Nat.reduceAdd] at h ⊢ <;> omega
theorem dp_o {e i : Nat} (he : e < 10) (h : i / 2 ^ e % 2 = 1) : dp_kp e (i + 1) = dp_kp e i := by
  rcases dp_e he with rfl | rfl | rfl | rfl | rfl | rfl | rfl | rfl | rfl | rfl <;> simp only [dp_kp, Nat.reducePow, Nat.reduceAdd] at h ⊢ <;> omega
theorem dp_le {e i : Nat} (he : e < 10) : dp_kp e i ≤ i := by
  rcases dp_e he with rfl | rfl | rfl | rfl | rfl | rfl | rfl | rfl | rfl | rfl <;> simp only [dp_kp, Nat.reducePow, Nat.reduceAdd] <;> omega
theorem dp_u {n : Nat} (h : n < 11) : n = 0 ∨ n = 1 ∨ n = 2 ∨ n = 3 ∨ n = 4 ∨ n = 5 ∨ n = 6 ∨ n = 7 ∨ n = 8 ∨ n = 9 ∨ n = 10 := by omega
theorem dp_end {e n i : Nat} (hn : n < 11) (h : 2 ^ e < 2 ^ n) (h1 : 2 ^ n ≤ i + 2 ^ e) (h2 : i + 2 ^ e ≤ 2 ^ n) : dp_kp e i = 2 ^ n / 2 ∧ e < n := by
  have hen : e < n := (Nat.pow_lt_pow_iff_right (by decide)).mp h
  refine ⟨?_, hen⟩
  have he : e < 10 := by omega
  rcases dp_u hn with rfl | rfl | rfl | rfl | rfl | rfl | rfl | rfl | rfl | rfl | rfl <;> rcases dp_e he with rfl | rfl | rfl | rfl | rfl | rfl | rfl | rfl | rfl | rfl <;> simp only [dp_kp, Nat.reducePow, Nat.reduceAdd] at h h1 h2 ⊢ <;> omega
theorem dp_and {i e : Nat} : i &&& 2 ^ e = i / 2 ^ e % 2 * 2 ^ e := by
  rw [ls_bit]
  apply Nat.eq_of_testBit_eq
  intro j
  rw [Nat.testBit_and, Nat.testBit_two_pow]
  by_cases hj : e = j
  · subst hj
    cases h : i.testBit e <;> simp
  · split <;> simp [hj, Nat.testBit_two_pow]
theorem nx_and (a b : Nat) : nI a &&& nI b = nI (a &&& b) := by
  apply Int32.toBitVec_inj.mp
  rw [Int32.toBitVec_and]
  show BitVec.ofNat 32 a &&& BitVec.ofNat 32 b = BitVec.ofNat 32 (a &&& b)
  apply BitVec.eq_of_getLsbD_eq
  intro i hi
  simp [hi]
theorem nx_or (a b : Nat) : nI a ||| nI b = nI (a ||| b) := by
  apply Int32.toBitVec_inj.mp
  rw [Int32.toBitVec_or]
  show BitVec.ofNat 32 a ||| BitVec.ofNat 32 b = BitVec.ofNat 32 (a ||| b)
  apply BitVec.eq_of_getLsbD_eq
  intro i hi
  simp [hi]
def ls_ush (x : Int64) (k : Nat) : Int64 := (x.toUInt64 >>> ((nI k).toInt64.toUInt64 &&& Int64.toUInt64 63)).toInt64
/-- what the loop of dropOuter keeps -/
def dp_I (f : Nat → Int64) (U e i : Nat) (g : Nat → Int64) : Prop := i + 2 ^ e ≤ U ∧ (∀ k, k < dp_kp e i → g k = f (dp_in e k) ||| f (dp_in e k + 2 ^ e)) ∧ ∀ k, dp_kp e i ≤ k → g k = f k
theorem dp_I0 {f : Nat → Int64} {U e : Nat} (h : 2 ^ e < U) : dp_I f U e 0 f := ⟨by omega, fun k hk => absurd hk (by rw [dp_0]; exact Nat.not_lt_zero _), fun _ _ => rfl⟩
theorem dp_Iz {f : Nat → Int64} {U e i : Nat} {g : Nat → Int64} (he : e < 10) (h : dp_I f U e i g) (hU : i + 2 ^ e < U) (hz : i / 2 ^ e % 2 = 0) : dp_I f U e (i + 1) (vp_updL g (dp_kp e i) (f i ||| f (i + 2 ^ e))) := by
  obtain ⟨h1, h2, h3⟩ := h
  obtain ⟨e1, e2⟩ := dp_z he hz
  refine ⟨by omega, ?_, ?_⟩
  · rw [e1]
    exact ax_lt (f := fun k => f (dp_in e k) ||| f (dp_in e k + 2 ^ e)) h2 (by rw [e2])
  · rw [e1]
    exact ax_ge h3
theorem dp_Io {f : Nat → Int64} {U e i : Nat} {g : Nat → Int64} (he : e < 10) (h : dp_I f U e i g) (hU : i + 2 ^ e < U) (hz : i / 2 ^ e % 2 = 1) : dp_I f U e (i + 1) g := by
  obtain ⟨h1, h2, h3⟩ := h
  unfold dp_I
  rw [dp_o he hz]
  exact ⟨by omega, h2, h3⟩
