theorem ax_in0 : vp_in 0 1024 := vp_in_nI (n := 0) (N := 1024) (by decide) (by decide)
theorem ax_lt {g f : Nat → Int64} {i : Nat} {v : Int64} (hg : ∀ k, k < i → g k = f k) (hv : v = f i) : ∀ k, k < i + 1 → vp_updL g i v k = f k := by
  intro k hk
  unfold vp_updL
  by_cases h : k = i
  · rw [if_pos h, hv, h]
  · rw [if_neg h]; exact hg k (by omega)
theorem ax_ge {g f : Nat → Int64} {i : Nat} {v : Int64} (hg : ∀ k, i ≤ k → g k = f k) : ∀ k, i + 1 ≤ k → vp_updL g i v k = f k := by
  intro k hk
  unfold vp_updL
  rw [if_neg (by omega)]; exact hg k (by omega)
theorem ax_b01 {r : Int32} (h : r = 1 ∨ r = 0) : narrow .boolean (.int r) = .int r ∧ fits .boolean (.int r) = true := by
  rcases h with rfl | rfl <;> exact ⟨rfl, rfl⟩
def ls_or (cf : Nat → Nat) (w : Nat) : Nat → Int64
  | 0 => 0
  | j + 1 => ls_or cf w j ||| ls_rw (cf j) w
def ls_sum (f : Nat → Int64) : Nat → Nat
  | 0 => 0
  | k + 1 => ls_sum f k + ls_cnt (ls_b (f k)) 64
theorem ls_sum_le (f : Nat → Int64) (k : Nat) : ls_sum f k ≤ 64 * k := by
  induction k with
  | zero => exact Nat.le_refl _
  | succ k ih =>
    have := ls_cnt_le (ls_b (f k)) 64
    show ls_sum f k + ls_cnt (ls_b (f k)) 64 ≤ 64 * (k + 1)
    omega
def ax_KW (f : Nat → Int64) (L U i : Nat) (g : Nat → Int64) (left : Int64) : Prop := i ≤ U ∧ (∀ k, k < i → g k = f k &&& ls_rw L k) ∧ (∀ k, i ≤ k → g k = f k) ∧ ((∀ k, k < i → g k = 0) → left = 0) ∧ (left = 0 → ∀ k, k < i → g k = 0)
theorem ax_kw0 {f : Nat → Int64} {L U : Nat} : ax_KW f L U 0 f 0 := ⟨Nat.zero_le _, fun k hk => absurd hk (Nat.not_lt_zero _), fun _ _ => rfl, fun _ => rfl, fun _ k hk => absurd hk (Nat.not_lt_zero _)⟩
theorem ax_or0 {x y : Int64} : x ||| y = 0 ↔ x = 0 ∧ y = 0 := by
  constructor
  · intro h
    have hb : ∀ b, ls_b x b = false ∧ ls_b y b = false := fun b => by
      have := congrArg (fun z => ls_b z b) h
      simp only [ls_b_or, ls_b_0, Bool.or_eq_false_iff] at this
      exact this
    exact ⟨ls_b_ext fun b _ => by rw [ls_b_0]; exact (hb b).1, ls_b_ext fun b _ => by rw [ls_b_0]; exact (hb b).2⟩
  · rintro ⟨rfl, rfl⟩
    rfl
theorem ax_kw {f : Nat → Int64} {L U i : Nat} {g : Nat → Int64} {left : Int64} (c1 : i < U) (hg : ∀ k, k < i → g k = f k &&& ls_rw L k) (hge : ∀ k, i ≤ k → g k = f k) (h1 : (∀ k, k < i → g k = 0) → left = 0) (h2 : left = 0 → ∀ k, k < i → g k = 0) : ax_KW f L U (i + 1) (vp_updL g i (f i &&& ls_rw L i)) (left ||| (f i &&& ls_rw L i)) := by
  have hu : ∀ k, k < i → vp_updL g i (f i &&& ls_rw L i) k = g k := fun k hk => by unfold vp_updL; rw [if_neg (by omega)]
  have hi : vp_updL g i (f i &&& ls_rw L i) i = f i &&& ls_rw L i := by unfold vp_updL; rw [if_pos rfl]
  refine ⟨c1, ax_lt (f := fun k => f k &&& ls_rw L k) hg rfl, ax_ge hge, fun h => ?_, fun h k hk => ?_⟩
  · exact ax_or0.mpr ⟨h1 (fun k hk => by rw [← hu k hk]; exact h k (by omega)), by rw [← hi]; exact h i (by omega)⟩
  · obtain ⟨e1, e2⟩ := ax_or0.mp h
    rcases Nat.lt_or_ge k i with q | q
    · rw [hu k q]; exact h2 e1 k q
    · rw [show k = i by omega, hi]; exact e2
theorem ax_m7 (n : Nat) : nI n &&& 127 = nI (n % 128) := by
  have h : nI n = nI (n % 2 ^ 32) := Int32.toBitVec_inj.mp (by show BitVec.ofNat 32 n = BitVec.ofNat 32 _; apply BitVec.eq_of_toNat_eq; simp)
  rw [h, pk_andN (Nat.mod_lt _ (by decide)) 7 rfl]
  congr 1
  omega
