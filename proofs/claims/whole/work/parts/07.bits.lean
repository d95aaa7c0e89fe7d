theorem wb_tb (n : Nat) : (lN n).toBitVec = BitVec.ofNat 64 n := rfl
theorem wb_inj {a b : Int64} (h : a.toBitVec = b.toBitVec) : a = b := Int64.toBitVec_inj.mp h
theorem wb_tn {n : Nat} (h : n < 2 ^ 64) : (lN n).toBitVec.toNat = n := by rw [wb_tb, BitVec.toNat_ofNat, Nat.mod_eq_of_lt h]
theorem wb_of (x : Int64) : ∃ n, n < 2 ^ 64 ∧ x = lN n := ⟨x.toBitVec.toNat, x.toBitVec.isLt, wb_inj (by rw [wb_tb]; simp)⟩
theorem wb_of32 (x : Int32) : ∃ n, n < 2 ^ 32 ∧ x = nI n := ⟨x.toBitVec.toNat, x.toBitVec.isLt, Int32.toBitVec_inj.mp (by show _ = BitVec.ofNat 32 _; simp)⟩
theorem wb_c : ∀ k, k < 64 → ((nI k).toInt64 &&& 63) = lN k := by decide +kernel
theorem wb_cu : ∀ k, k < 64 → ((nI k).toInt64.toUInt64 &&& Int64.toUInt64 63) = UInt64.ofNat k := by decide +kernel
theorem wb_sm : ∀ k, k < 64 → (BitVec.ofNat 64 k).smod 64 = BitVec.ofNat 64 k := by decide +kernel
theorem wb_pw {a b : Nat} (h : a ≤ b) : 2 ^ b = 2 ^ a * 2 ^ (b - a) := by rw [← Nat.pow_add]; congr 1; omega
theorem wb_lt2 {a b : Nat} (h : a < b) : 2 ^ a < 2 ^ b := Nat.pow_lt_pow_right (by decide) h
theorem wb_mod (n : Nat) : lN n = lN (n % 2 ^ 64) := wb_inj (by rw [wb_tb, wb_tb]; apply BitVec.eq_of_toNat_eq; rw [BitVec.toNat_ofNat, BitVec.toNat_ofNat, Nat.mod_mod])
theorem wb_shr {n k : Nat} (hn : n < 2 ^ 64) (hk : k < 64) : ((lN n).toUInt64 >>> ((nI k).toInt64.toUInt64 &&& Int64.toUInt64 63)).toInt64 = lN (n / 2 ^ k) := by
  rw [wb_cu k hk]
  apply wb_inj
  apply BitVec.eq_of_toNat_eq
  show ((lN n).toUInt64 >>> UInt64.ofNat k).toNat = (BitVec.ofNat 64 _).toNat
  have h1 : (UInt64.ofNat k).toNat = k := by
    show (BitVec.ofNat 64 k).toNat = k
    rw [BitVec.toNat_ofNat, Nat.mod_eq_of_lt (by omega)]
  have h2 : (lN n).toUInt64.toNat = n := wb_tn hn
  rw [UInt64.toNat_shiftRight, h1, h2, Nat.mod_eq_of_lt hk, Nat.shiftRight_eq_div_pow, BitVec.toNat_ofNat, Nat.mod_eq_of_lt (Nat.lt_of_le_of_lt (Nat.div_le_self _ _) hn)]

/-! bits of a word -/
def ls_b (x : Int64) (b : Nat) : Bool := x.toBitVec.getLsbD b
theorem ls_b_lN {n b : Nat} (h : n < 2 ^ 64) : ls_b (lN n) b = n.testBit b := by
  show (BitVec.ofNat 64 n).getLsbD b = n.testBit b
  rw [BitVec.getLsbD_ofNat]
  by_cases hb : b < 64
  · simp [hb]
  · rw [Nat.testBit_lt_two_pow (Nat.lt_of_lt_of_le h (Nat.pow_le_pow_right (by decide) (by omega)))]
    simp
theorem ls_b_and (x y : Int64) (b : Nat) : ls_b (x &&& y) b = (ls_b x b && ls_b y b) := by simp [ls_b]
theorem ls_b_or (x y : Int64) (b : Nat) : ls_b (x ||| y) b = (ls_b x b || ls_b y b) := by simp [ls_b]
theorem ls_b_m1 : ∀ b, b < 64 → ls_b (-1) b = true := by decide +kernel
theorem ls_b_0 (b : Nat) : ls_b 0 b = false := by simp [ls_b]
theorem ls_b_not (x : Int64) {b : Nat} (hb : b < 64) : ls_b (x ^^^ (-1)) b = !ls_b x b := by
  have h := ls_b_m1 b hb
  simp only [ls_b] at h ⊢
  rw [Int64.toBitVec_xor, BitVec.getLsbD_xor, h]
  simp
theorem ls_b_big {x : Int64} {b : Nat} (h : 64 ≤ b) : ls_b x b = false := by
  simp only [ls_b]
  exact BitVec.getLsbD_of_ge _ _ h
theorem ls_b_ext {x y : Int64} (h : ∀ b, b < 64 → ls_b x b = ls_b y b) : x = y := by
  apply wb_inj
  exact BitVec.eq_of_getLsbD_eq (fun i hi => h i hi)
theorem ls_b_ne {x : Int64} (h : ¬ x = 0) : ∃ b, b < 64 ∧ ls_b x b = true := by
  refine Classical.byContradiction fun q => h (ls_b_ext fun b hb => ?_)
  rw [ls_b_0]
  cases hv : ls_b x b with
  | false => rfl
  | true => exact absurd ⟨b, hb, hv⟩ q
theorem ls_b_ushr (x : Int64) {k : Nat} (hk : k < 64) (b : Nat) : ls_b ((x.toUInt64 >>> ((nI k).toInt64.toUInt64 &&& Int64.toUInt64 63)).toInt64) b = ls_b x (k + b) := by
  obtain ⟨n, hn, rfl⟩ := wb_of x
  rw [wb_shr hn hk, ls_b_lN (Nat.lt_of_le_of_lt (Nat.div_le_self _ _) hn), ls_b_lN hn, Nat.testBit_div_two_pow, Nat.add_comm]
theorem lN_and (a b : Nat) : lN a &&& lN b = lN (a &&& b) := by
  apply wb_inj
  rw [Int64.toBitVec_and, wb_tb, wb_tb, wb_tb]
  apply BitVec.eq_of_getLsbD_eq
  intro i hi
  simp [hi]
theorem ls_cmp0 (x : Int64) : lg_cmp x 0 = 0 ↔ x = 0 := by
  unfold lg_cmp
  constructor
  · intro h
    by_cases h1 : x > 0
    · rw [if_pos h1] at h; exact absurd h (by decide)
    · by_cases h2 : x = 0
      · exact h2
      · rw [if_neg h1, if_neg h2] at h; exact absurd h (by decide)
  · intro h
    subst h
    simp
/-- Long.bitCount's sum -/
theorem bc_java (n : Nat) (hn : n < 2 ^ 64) : ∃ x1 x2 x3 x4 x5 x6 : Nat, lN n - (lN (n / 2) &&& 6148914691236517205) = lN x1 ∧ x1 < 2 ^ 64 ∧ (lN x1 &&& 3689348814741910323) + (lN (x1 / 4) &&& 3689348814741910323) = lN x2 ∧ x2 < 2 ^ 64 ∧ (lN x2 + lN (x2 / 16)) &&& 1085102592571150095 = lN x3 ∧ x3 < 2 ^ 64 ∧ lN x3 + lN (x3 / 256) = lN x4 ∧ x4 < 2 ^ 64 ∧ lN x4 + lN (x4 / 65536) = lN x5 ∧ x5 < 2 ^ 64 ∧ lN x5 + lN (x5 / 4294967296) = lN x6 ∧ x6 % 128 = ls_cnt (fun i => n.testBit i) 64 := by
  obtain ⟨x1, x2, x3, x4, x5, x6, hle, e1, e2, l2, e3, e4, l4, e5, l5, e6, l3, l1, hc⟩ := bc_main hn
  refine ⟨x1, x2, x3, x4, x5, x6, ?_, l1, ?_, l2, ?_, l3, ?_, l4, ?_, l5, ?_, hc⟩
  · rw [show (6148914691236517205 : Int64) = lN 6148914691236517205 from rfl, lN_and, lN_sub hle, e1]
  · rw [show (3689348814741910323 : Int64) = lN 3689348814741910323 from rfl, lN_and, lN_and, lN_add, e2]
  · rw [show (1085102592571150095 : Int64) = lN 1085102592571150095 from rfl, lN_add, lN_and, e3]
  · rw [lN_add, e4]
  · rw [lN_add, e5]
  · rw [lN_add, e6]
def ls_lit (L r : Nat) : Bool := if L % 2 = 0 then r.testBit (L / 2) else !r.testBit (L / 2)
def ls_on (v w : Nat) : Int64 := if v < 6 then ls_ones v else if w.testBit (v - 6) = true then -1 else 0
def ls_rw (L w : Nat) : Int64 := if L % 2 = 0 then ls_on (L / 2) w else ls_on (L / 2) w ^^^ (-1)
theorem ls_ones_b : ∀ v, v < 6 → ∀ b, b < 64 → ls_b (ls_ones v) b = b.testBit v := by decide +kernel
theorem ls_tb {w b : Nat} (hb : b < 64) (v : Nat) : (64 * w + b).testBit v = if v < 6 then b.testBit v else w.testBit (v - 6) := by
  rw [show (64 : Nat) = 2 ^ 6 from rfl, Nat.testBit_two_pow_mul_add _ (by simpa using hb)]
theorem ls_on_b (v w : Nat) {b : Nat} (hb : b < 64) : ls_b (ls_on v w) b = (64 * w + b).testBit v := by
  rw [ls_tb hb]
  unfold ls_on
  by_cases h : v < 6
  · rw [if_pos h, if_pos h, ls_ones_b v h b hb]
  · rw [if_neg h, if_neg h]
    by_cases h2 : w.testBit (v - 6) = true
    · rw [if_pos h2, h2, ls_b_m1 b hb]
    · rw [if_neg h2, ls_b_0]; simp at h2; exact h2.symm
theorem ls_rw_b (L w : Nat) {b : Nat} (hb : b < 64) : ls_b (ls_rw L w) b = ls_lit L (64 * w + b) := by
  unfold ls_rw ls_lit
  by_cases h : L % 2 = 0
  · rw [if_pos h, if_pos h, ls_on_b _ _ hb]
  · rw [if_neg h, if_neg h, ls_b_not _ hb, ls_on_b _ _ hb]
/-- w >> k & 1, of small numbers -/
theorem ls_shr {n : Nat} (h : n < 2 ^ 31) {k : Nat} (hk : k < 32) : nI n >>> (nI k &&& 31) = nI (n / 2 ^ k) := pk_shrN h _ k (by
  have : ∀ k, k < 32 → ((nI k &&& 31).toBitVec.smod 32).toNat = k := by decide +kernel
  exact this k hk)
theorem ls_shl {n : Nat} {k : Nat} (hk : k < 32) (h : n * 2 ^ k < 2 ^ 32) : nI n <<< (nI k &&& 31) = nI (n * 2 ^ k) := pk_shlN _ k (by
  have : ∀ k, k < 32 → ((nI k &&& 31).toBitVec.smod 32).toNat = k := by decide +kernel
  exact this k hk) h
theorem ls_and1 {n : Nat} (h : n < 2 ^ 32) : nI n &&& 1 = nI (n % 2) := pk_andN h 1 rfl
theorem ls_bit {n k : Nat} : n / 2 ^ k % 2 = if n.testBit k = true then 1 else 0 := by
  rw [Nat.testBit_eq_decide_div_mod_eq]
  by_cases h : n / 2 ^ k % 2 = 1
  · simp [h]
  · simp [h]; omega
section LPM
variable {p : Program} {l : Launch} {e : Env} {R : Room} {s : State} {m : MethodId} {args : Array Value} {below : List Frame} {meth : Method} {c : Code} {cells slots : Nat} {Q : State → Prop} {pc : Nat}
theorem lp_mu {α : Type} (μ : α → Nat) (J : α → Heap → List Loc → Array Slot → Prop) (step : ∀ (a : α) (H : Heap) (locs : List Loc) (ls : Array Slot), J a H locs ls → (∀ (a' : α) (H' : Heap) (locs' : List Loc) (ls' : Array Slot), μ a' < μ a → J a' H' locs' ls' → W p l e R s m args below meth c H' locs' cells slots Q (F0 m pc ls' [])) → W p l e R s m args below meth c H locs cells slots Q (F0 m pc ls [])) (a : α) {H : Heap} {locs : List Loc} {ls : Array Slot} (h : J a H locs ls) : W p l e R s m args below meth c H locs cells slots Q (F0 m pc ls []) := by
  have key : ∀ (n : Nat) (a : α) (H : Heap) (locs : List Loc) (ls : Array Slot), μ a < n → J a H locs ls → W p l e R s m args below meth c H locs cells slots Q (F0 m pc ls []) := by
    intro n
    induction n with
    | zero => intro a H locs ls h; exact absurd h (Nat.not_lt_zero _)
    | succ n ih =>
      intro a H locs ls h hj
      exact step a H locs ls hj (fun a' H' locs' ls' h' hj' => ih a' H' locs' ls' (by omega) hj')
  exact key (μ a + 1) a H locs ls (Nat.lt_succ_self _) h
end LPM
