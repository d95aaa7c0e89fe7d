theorem ax_in0 : vp_in 0 1024 := vp_in_nI (n := 0) (N := 1024) (by decide) (by decide)
theorem ax_lt {g f : Nat → Int64} {i : Nat} {v : Int64} (hg : ∀ k, k < i → g k = f k) (hv : v = f i) : ∀ k, k < i + 1 → vp_updL g i v k = f k := by
  intro k hk
  unfold vp_updL
  by_cases h : k = i
  · rw [if_pos h, hv, h]
  · rw [if_neg h]; exact hg k (by omega)
theorem ax_ge {g f : Nat → Int64} {i : Nat} {v : Int64} (hg : ∀ k, i ≤ k → g k = f k) : ∀ k, i + 1 ≤ k → vp_updL g i v k = f k := by
  intro k hk
  unfold vp_updL
  rw [if_neg (by omega)]; exact hg k (by omega)
theorem ax_b01 {r : Int32} (h : r = 1 ∨ r = 0) : narrow .boolean (.int r) = .int r ∧ fits .boolean (.int r) = true := by
  rcases h with rfl | rfl <;> exact ⟨rfl, rfl⟩
def ls_or (cf : Nat → Nat) (w : Nat) : Nat → Int64
  | 0 => 0
  | j + 1 => ls_or cf w j ||| ls_rw (cf j) w
def ls_sum (f : Nat → Int64) : Nat → Nat
  | 0 => 0
  | k + 1 => ls_sum f k + ls_cnt (ls_b (f k)) 64
theorem ls_sum_le (f : Nat → Int64) (k : Nat) : ls_sum f k ≤ 64 * k := by
  induction k with
  | zero => exact Nat.le_refl _
  | succ k ih =>
    have := ls_cnt_le (ls_b (f k)) 64
    show ls_sum f k + ls_cnt (ls_b (f k)) 64 ≤ 64 * (k + 1)
    omega
