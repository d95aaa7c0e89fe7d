/-! rows and assignments -/
def bOf (r : Nat) : Nat → Nat := fun v => if r.testBit v = true then 1 else 0
def rowOf (b : Nat → Nat) : Nat → Nat
  | 0 => 0
  | v + 1 => 2 ^ v * (if b v = 1 then 1 else 0) + rowOf b v
theorem rowOf_lt (b : Nat → Nat) (n : Nat) : rowOf b n < 2 ^ n := by
  induction n with
  | zero => exact Nat.one_pos
  | succ n ih => simp only [rowOf]; rw [Nat.pow_succ]; split <;> omega
theorem rowOf_tb (b : Nat → Nat) {n i : Nat} (h : i < n) : (rowOf b n).testBit i = decide (b i = 1) := by
  induction n with
  | zero => omega
  | succ n ih =>
    simp only [rowOf]
    rw [Nat.testBit_two_pow_mul_add _ (rowOf_lt b n)]
    by_cases hi : i < n
    · rw [if_pos hi]; exact ih hi
    · rw [if_neg hi, show i = n by omega, Nat.sub_self]
      by_cases hb : b n = 1
      · simp [hb]
      · simp [hb]
theorem bOf_row {b : Nat → Nat} {n i : Nat} (h : i < n) (hb : b i ≤ 1) : bOf (rowOf b n) i = b i := by
  unfold bOf
  rw [rowOf_tb b h]
  by_cases q : b i = 1
  · simp [q]
  · simp [q]; omega
theorem bOf_le (r v : Nat) : bOf r v ≤ 1 := by unfold bOf; split <;> omega
theorem bOf_1 {r v : Nat} : bOf r v = 1 ↔ r.testBit v = true := by
  unfold bOf; split <;> simp_all
theorem lit_iff (L r : Nat) : ls_lit L r = true ↔ litT L (bOf r) := by
  unfold ls_lit litT bOf
  rcases Nat.mod_two_eq_zero_or_one L with e | e
  · rw [if_pos e, e]; cases r.testBit (L / 2) <;> simp
  · rw [if_neg (by omega), e]; cases r.testBit (L / 2) <;> simp
theorem lm_Tc {lit st a b : Nat → Nat} {c : Nat} (h : ∀ k, st c ≤ k → k < st (c + 1) → a (lit k / 2) = b (lit k / 2)) : lm_T lit st a c ↔ lm_T lit st b c := by
  constructor
  · rintro ⟨k, h1, h2, h3⟩; exact ⟨k, h1, h2, by rw [← h k h1 h2]; exact h3⟩
  · rintro ⟨k, h1, h2, h3⟩; exact ⟨k, h1, h2, by rw [h k h1 h2]; exact h3⟩
/-! the reference's clauses in its arrays -/
def cpM (nv nc us dr : Nat) (lf sf ff nf : Nat → Int32) (lit st : Nat → Nat) (ch : Nat → List Nat) : Prop :=
  (nv ≤ 16 ∧ nc ≤ 500 ∧ dr ≤ 40 ∧ us + dr ≤ 4000) ∧ (∀ k, k < us + dr → lf k = nI (lit k) ∧ lit k < 2 * nv) ∧
  (∀ c, c < nc → sf c = nI (st c) ∧ sf (c + 1) = nI (st (c + 1)) ∧ st c ≤ st (c + 1) ∧ st (c + 1) ≤ us) ∧ st nc = us ∧
  (∀ v, v ≤ 16 → lm_ch nf (ff v) (ch v)) ∧
  (∀ v, v ≤ 16 → ∀ c ∈ ch v, c < nc ∧ (v < 16 → ∀ k, st c ≤ k → k < st (c + 1) → lit k / 2 ≤ v) ∧ (v = 16 → st (c + 1) = st c)) ∧
  ∀ c, c < nc → (∃ v, v < nv ∧ c ∈ ch v) ∨ c ∈ ch 16
section CPM
variable {nv nc us dr : Nat} {lf sf ff nf : Nat → Int32} {lit st : Nat → Nat} {ch : Nat → List Nat}
theorem cp_ch (h : cpM nv nc us dr lf sf ff nf lit st ch) : ∀ v, v < nv → lm_ch nf (ff v) (ch v) ∧ lm_C lf sf lit st (ch v) := by
  obtain ⟨⟨a1, a2, a3, a4⟩, b1, b2, b3, b4, b5, b6⟩ := h
  intro v hv
  refine ⟨b4 v (by omega), fun c hc => ?_⟩
  have q := (b5 v (by omega) c hc).1
  obtain ⟨s1, s2, s3, s4⟩ := b2 c q
  exact ⟨by omega, s1, s2, s3, by omega, fun k k1 k2 => ⟨(b1 k (by omega)).1, by have := (b1 k (by omega)).2; omega⟩⟩
theorem cp_16 (h : cpM nv nc us dr lf sf ff nf lit st ch) : ff 16 = -1 ↔ ch 16 = [] := by
  obtain ⟨⟨a1, a2, a3, a4⟩, b1, b2, b3, b4, b5, b6⟩ := h
  constructor
  · intro q
    exact lm_nil (b4 16 (Nat.le_refl _)) q (fun c hc => by have := (b5 16 (Nat.le_refl _) c hc).1; omega)
  · intro q
    have := b4 16 (Nat.le_refl _)
    rw [q] at this
    exact this
theorem cp_D (h : cpM nv nc us dr lf sf ff nf lit st ch) : se_D nv lit st ch := by
  obtain ⟨⟨a1, a2, a3, a4⟩, b1, b2, b3, b4, b5, b6⟩ := h
  intro v hv c hc k k1 k2
  exact (b5 v (by omega) c hc).2.1 (by omega) k k1 k2
theorem cp_all (h : cpM nv nc us dr lf sf ff nf lit st ch) (b : Nat → Nat) : se_0 nv lit st ch b ↔ (∀ c, c < nc → lm_T lit st b c) ∧ ∀ v, v < nv → b v ≤ 1 := by
  obtain ⟨⟨a1, a2, a3, a4⟩, b1, b2, b3, b4, b5, b6⟩ := h
  constructor
  · rintro ⟨h1, h2⟩
    refine ⟨fun c hc => ?_, fun v hv => (h2 v hv).2⟩
    rcases b6 c hc with ⟨v, hv, hm⟩ | hm
    · exact (h2 v hv).1 c hm
    · rw [h1] at hm; cases hm
  · rintro ⟨h1, h2⟩
    refine ⟨?_, fun v hv => ⟨fun c hc => h1 c (b5 v (by omega) c hc).1, h2 v hv⟩⟩
    cases hch : ch 16 with
    | nil => rfl
    | cons c t =>
      have hm : c ∈ ch 16 := by rw [hch]; simp
      obtain ⟨q1, _, q2⟩ := b5 16 (Nat.le_refl _) c hm
      obtain ⟨k, k1, k2, _⟩ := h1 c q1
      rw [q2 rfl] at k2
      omega
end CPM
/-- the class's set holds the rows that make all clauses true -/
def cpF (f : Nat → Int64) (nv nc : Nat) (lit st : Nat → Nat) : Prop := ∀ r, r < 64 * 2 ^ (nv - 6) → (ls_mem f r = true ↔ ∀ c, c < nc → lm_T lit st (bOf r) c)
def cpQ (nv : Nat) (Q : (Nat → Nat) → Prop) : Prop := ∀ a b : Nat → Nat, (∀ v, v < nv → a v = b v) → (Q a ↔ Q b)
theorem cp_pw (nv : Nat) : 2 ^ nv ≤ 64 * 2 ^ (nv - 6) := by
  rw [show (64 : Nat) = 2 ^ 6 from rfl, ← Nat.pow_add]
  exact Nat.pow_le_pow_right (by decide) (by omega)
section CPS
variable {nv nc us dr : Nat} {lf sf ff nf : Nat → Int32} {lit st : Nat → Nat} {ch : Nat → List Nat} {f : Nat → Int64}
theorem cp_lt (h : cpM nv nc us dr lf sf ff nf lit st ch) {c k : Nat} (hc : c < nc) (h2 : k < st (c + 1)) : lit k / 2 < nv := by
  obtain ⟨⟨a1, a2, a3, a4⟩, b1, b2, b3, b4, b5, b6⟩ := h
  have := (b2 c hc).2.2.2
  have := (b1 k (by omega)).2
  omega
theorem cp_row (h : cpM nv nc us dr lf sf ff nf lit st ch) (hf : cpF f nv nc lit st) {r : Nat} (hr : r < 64 * 2 ^ (nv - 6)) : ls_mem f r = true ↔ se_0 nv lit st ch (bOf r) := by
  rw [hf r hr, cp_all h]
  exact ⟨fun q => ⟨q, fun v _ => bOf_le r v⟩, fun q => q.1⟩
theorem cp_rw (h : cpM nv nc us dr lf sf ff nf lit st ch) (hf : cpF f nv nc lit st) {b : Nat → Nat} (hb : se_0 nv lit st ch b) : rowOf b nv < 64 * 2 ^ (nv - 6) ∧ ls_mem f (rowOf b nv) = true ∧ ∀ v, v < nv → bOf (rowOf b nv) v = b v := by
  have hlt : rowOf b nv < 64 * 2 ^ (nv - 6) := Nat.lt_of_lt_of_le (rowOf_lt b nv) (cp_pw nv)
  have hv : ∀ v, v < nv → bOf (rowOf b nv) v = b v := fun v hv => bOf_row hv (hb.2 v hv).2
  refine ⟨hlt, ?_, hv⟩
  rw [hf _ hlt]
  intro c hc
  exact (lm_Tc (fun k k1 k2 => hv _ (cp_lt h hc k2))).mpr (((cp_all h b).mp hb).1 c hc)
theorem cp_sat (h : cpM nv nc us dr lf sf ff nf lit st ch) (hf : cpF f nv nc lit st) {Q : (Nat → Nat) → Prop} (hQ : cpQ nv Q) : sv_sat nv lit st ch Q ↔ ∃ r, r < 64 * 2 ^ (nv - 6) ∧ ls_mem f r = true ∧ Q (bOf r) := by
  constructor
  · rintro ⟨b, hb, hq⟩
    obtain ⟨r1, r2, r3⟩ := cp_rw h hf hb
    exact ⟨_, r1, r2, (hQ _ _ r3).mpr hq⟩
  · rintro ⟨r, r1, r2, r3⟩
    exact ⟨bOf r, (cp_row h hf r1).mp r2, r3⟩
end CPS
theorem cpQ_lit {nv L : Nat} (h : L < 2 * nv) : cpQ nv (litT L) := fun a b e => by unfold litT; rw [e (L / 2) (by omega)]
theorem cpQ_A {nv : Nat} {an : Nat → Nat} {k : Nat} (h : ∀ j, j < k → an j < 2 * nv) : cpQ nv (sv_A an k) := fun a b e =>
  ⟨fun q i hi => (cpQ_lit (h i hi) a b e).mp (q i hi), fun q i hi => (cpQ_lit (h i hi) a b e).mpr (q i hi)⟩
theorem cpQ_w {nv F N X : Nat} (h : F + N ≤ nv) : cpQ nv (wyQ F N X) := fun a b e =>
  ⟨fun q k hk => by rw [← e (F + k) (by omega)]; exact q k hk, fun q k hk => by rw [e (F + k) (by omega)]; exact q k hk⟩
theorem wd_ex {x : Nat → Int64} {U : Nat} : (∃ k, k < U ∧ x k ≠ 0) ↔ ∃ r, r < 64 * U ∧ ls_mem x r = true := by
  constructor
  · rintro ⟨k, hk, hv⟩
    obtain ⟨b, hb, hb2⟩ := ls_b_ne hv
    refine ⟨64 * k + b, by omega, ?_⟩
    unfold ls_mem
    rw [show (64 * k + b) / 64 = k by omega, show (64 * k + b) % 64 = b by omega]
    exact hb2
  · rintro ⟨r, hr, hv⟩
    refine ⟨r / 64, by omega, fun q => ?_⟩
    unfold ls_mem at hv
    rw [q, ls_b_0] at hv
    cases hv
theorem wd_r (r : Nat) : 64 * (r / 64) + r % 64 = r := by omega
theorem mu_row {f : Nat → Int64} {U L : Nat} : mu_P f U L ↔ ∃ r, r < 64 * U ∧ ls_mem f r = true ∧ litT L (bOf r) := by
  have e : ∀ r, ls_mem (fun k => f k &&& ls_rw L k) r = (ls_mem f r && ls_lit L r) := fun r => by
    unfold ls_mem
    rw [ls_b_and, ls_rw_b _ _ (Nat.mod_lt _ (by decide)), wd_r]
  unfold mu_P
  rw [wd_ex (x := fun k => f k &&& ls_rw L k)]
  constructor
  · rintro ⟨r, hr, hv⟩
    rw [e, Bool.and_eq_true] at hv
    exact ⟨r, hr, hv.1, (lit_iff L r).mp hv.2⟩
  · rintro ⟨r, hr, hv, hl⟩
    exact ⟨r, hr, by rw [e, hv, (lit_iff L r).mpr hl]; rfl⟩
theorem na_row {f : Nat → Int64} {an : Nat → Nat} (i r : Nat) : ls_mem (fun k => na_F f an k i) r = true ↔ ls_mem f r = true ∧ sv_A an i (bOf r) := by
  induction i with
  | zero => exact ⟨fun h => ⟨h, fun j hj => absurd hj (Nat.not_lt_zero _)⟩, fun h => h.1⟩
  | succ i ih =>
    have e : ls_mem (fun k => na_F f an k (i + 1)) r = (ls_mem (fun k => na_F f an k i) r && ls_lit (an i) r) := by
      show ls_b (na_F f an (r / 64) i &&& ls_rw (an i) (r / 64)) (r % 64) = _
      rw [ls_b_and, ls_rw_b _ _ (Nat.mod_lt _ (by decide)), wd_r]
      rfl
    rw [e, Bool.and_eq_true, ih, lit_iff, and_assoc]
    unfold sv_A
    rw [is_lt (P := fun i => litT (an i) (bOf r))]
/-! solve -/
section TIE
variable {nv nc us dr : Nat} {lf sf ff nf : Nat → Int32} {lit st : Nat → Nat} {ch : Nat → List Nat} {f : Nat → Int64} {an : Nat → Nat} {as : Nat}
theorem na_sat (h : cpM nv nc us dr lf sf ff nf lit st ch) (hf : cpF f nv nc lit st) (ha : ∀ j, j < as → an j < 2 * nv) {i : Nat} (hi : i ≤ as) : (∃ k, k < 2 ^ (nv - 6) ∧ na_F f an k i ≠ 0) ↔ sv_sat nv lit st ch (sv_A an i) := by
  rw [wd_ex (x := fun k => na_F f an k i), cp_sat h hf (cpQ_A (fun j hj => ha j (by omega)))]
  constructor
  · rintro ⟨r, r1, r2⟩; exact ⟨r, r1, ((na_row i r).mp r2).1, ((na_row i r).mp r2).2⟩
  · rintro ⟨r, r1, r2, r3⟩; exact ⟨r, r1, (na_row i r).mpr ⟨r2, r3⟩⟩
theorem sat_mono {i j : Nat} (hij : i ≤ j) (h : sv_sat nv lit st ch (sv_A an j)) : sv_sat nv lit st ch (sv_A an i) := by
  obtain ⟨b, hb, hq⟩ := h
  exact ⟨b, hb, fun k hk => hq k (by omega)⟩
theorem tie_b (h : cpM nv nc us dr lf sf ff nf lit st ch) (hf : cpF f nv nc lit st) (ha : ∀ j, j < as → an j < 2 * nv) {b : Int32} (hp : na_P f an as (2 ^ (nv - 6)) b) : (b = 0 ∧ ¬ sv_sat nv lit st ch (sv_A an 0)) ∨ (∃ i, i < as ∧ b = nI (i + 1) ∧ sv_sat nv lit st ch (sv_A an i) ∧ ¬ sv_sat nv lit st ch (sv_A an (i + 1))) ∨ (b = -1 ∧ sv_sat nv lit st ch (sv_A an as)) := by
  have none : ∀ i, i ≤ as → (∀ k, k < 2 ^ (nv - 6) → na_F f an k i = 0) → ¬ sv_sat nv lit st ch (sv_A an i) := fun i hi hz hs => by
    obtain ⟨k, hk, hv⟩ := (na_sat h hf ha hi).mpr hs
    exact hv (hz k hk)
  rcases hp with ⟨h1, h2⟩ | ⟨i, h1, h2, h3, h4⟩ | ⟨h1, h2⟩
  · exact Or.inl ⟨h1, none 0 (Nat.zero_le _) h2⟩
  · exact Or.inr (Or.inl ⟨i, h1, h2, (na_sat h hf ha (by omega)).mp h3, none (i + 1) h1 h4⟩)
  · exact Or.inr (Or.inr ⟨h1, (na_sat h hf ha (Nat.le_refl _)).mp h2⟩)
theorem tie_yes (h : cpM nv nc us dr lf sf ff nf lit st ch) (hf : cpF f nv nc lit st) (ha : ∀ j, j < as → an j < 2 * nv) {b : Int32} (hp : na_P f an as (2 ^ (nv - 6)) b) (hs : sv_sat nv lit st ch (sv_A an as)) : b = -1 := by
  rcases tie_b h hf ha hp with ⟨_, q⟩ | ⟨i, h1, _, _, q⟩ | ⟨q, _⟩
  · exact absurd (sat_mono (Nat.zero_le _) hs) q
  · exact absurd (sat_mono h1 hs) q
  · exact q
theorem tie_no (h : cpM nv nc us dr lf sf ff nf lit st ch) (hf : cpF f nv nc lit st) (ha : ∀ j, j < as → an j < 2 * nv) (has : as ≤ 64) {b : Int32} (hp : na_P f an as (2 ^ (nv - 6)) b) {kb : Nat} (hkb : kb ≤ as) (h1 : ¬ sv_sat nv lit st ch (sv_A an kb)) (h2 : kb = 0 ∨ sv_sat nv lit st ch (sv_A an (kb - 1))) : b = nI kb ∧ ¬ b = -1 := by
  have hne : ¬ nI kb = -1 := fun q => absurd (nI_pos (n := kb) (by omega)) (by rw [q]; decide)
  have hb : b = nI kb := by
    rcases tie_b h hf ha hp with ⟨e, q⟩ | ⟨i, i1, e, q1, q2⟩ | ⟨_, q⟩
    · rcases h2 with h2 | h2
      · rw [e, h2]; rfl
      · exact absurd (sat_mono (Nat.zero_le _) h2) q
    · rw [e]
      congr 1
      rcases Nat.lt_or_ge i kb with z | z
      · rcases h2 with h2 | h2
        · omega
        · rcases Nat.lt_or_ge (i + 1) kb with z2 | z2
          · exact absurd (sat_mono (by omega) h2) q2
          · omega
      · exact absurd (sat_mono z q1) h1
    · exact absurd (sat_mono hkb q) h1
  exact ⟨hb, by rw [hb]; exact hne⟩
theorem tie_least (h : cpM nv nc us dr lf sf ff nf lit st ch) (hf : cpF f nv nc lit st) {vv : Nat → Nat} {q : Nat} (hq : lr_L (fun k => na_F f an k as) (nv - 6) q) (ha : ∀ j, j < as → an j < 2 * nv) (hs : sv_P nv lit st ch (sv_A an as) 1 vv) : ∀ v, v < nv → vv v = bOf q v := by
  obtain ⟨h0, hA, hL⟩ : se_0 nv lit st ch vv ∧ sv_A an as vv ∧ ∀ v, v < nv → vv v = 1 → ∀ b, se_0 nv lit st ch b → sv_A an as b → (∀ i, i < v → b i = vv i) → b v = 1 := by
    rcases hs with ⟨_, a1, a2, a3⟩ | ⟨q, _⟩
    · exact ⟨a1, a2, a3⟩
    · exact absurd q (by decide)
  obtain ⟨q1, q2, q3⟩ := hq
  obtain ⟨m1, m2⟩ := (na_row as q).mp q2
  have hq0 := (cp_row h hf q1).mp m1
  obtain ⟨r1, r2, r3⟩ := cp_rw h hf h0
  have hrm : ls_mem (fun k => na_F f an k as) (rowOf vv nv) = true := (na_row as _).mpr ⟨r2, (cpQ_A ha _ _ r3).mpr hA⟩
  have key : ∀ n v, v < n → v < nv → vv v = bOf q v := by
    intro n
    induction n with
    | zero => intro v hv; omega
    | succ n ih =>
      intro v hv hvn
      have ihv : ∀ i, i < v → vv i = bOf q i := fun i hi => ih i (by omega) (by omega)
      have hle := (h0.2 v hvn).2
      by_cases h1 : vv v = 1
      · rw [h1, hL v hvn h1 (bOf q) hq0 m2 (fun i hi => (ihv i hi).symm)]
      · have hz : vv v = 0 := by omega
        rw [hz]
        unfold bOf
        by_cases hb : q.testBit v = true
        · exfalso
          have hmod : rowOf vv nv % 2 ^ v = q % 2 ^ v := by
            apply Nat.eq_of_testBit_eq
            intro i
            rw [Nat.testBit_mod_two_pow, Nat.testBit_mod_two_pow]
            by_cases hi : i < v
            · have e := ihv i hi
              have e2 : (rowOf vv nv).testBit i = q.testBit i := by
                rw [rowOf_tb vv (by omega), e]
                unfold bOf
                cases q.testBit i <;> simp
              rw [e2]
            · simp [hi]
          have := q3 v (by omega) hb (rowOf vv nv) r1 hrm hmod
          rw [rowOf_tb vv hvn] at this
          simp at this
          omega
        · rw [if_neg hb]
  exact fun v hv => key (v + 1) v (Nat.lt_succ_self _) hv
end TIE
