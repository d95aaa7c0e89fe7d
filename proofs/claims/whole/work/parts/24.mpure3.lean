def litT (L : Nat) (b : Nat → Nat) : Prop := b (L / 2) = 1 - L % 2
def is_I (nv : Nat) (an : Nat → Nat) (k : Nat) (of : Nat → Int32) (rt : Nat) : Prop := (∀ v, v < nv → of v = -1 ∨ of v = 0 ∨ of v = 1) ∧ ((rt = 1 ∧ ∀ b : Nat → Nat, (∀ v, v < nv → b v ≤ 1) → (sv_Q nv of b ↔ ∀ i, i < k → litT (an i) b)) ∨ (rt = 0 ∧ ∀ b : Nat → Nat, (∀ v, v < nv → b v ≤ 1) → ¬ ∀ i, i < k → litT (an i) b))
theorem is_v {nv L : Nat} {of : Nat → Int32} (h : ∀ v, v < nv → of v = -1 ∨ of v = 0 ∨ of v = 1) : ∀ v, v < nv → upd of (L / 2) (nI (1 - L % 2)) v = -1 ∨ upd of (L / 2) (nI (1 - L % 2)) v = 0 ∨ upd of (L / 2) (nI (1 - L % 2)) v = 1 := by
  intro v hv
  unfold upd
  by_cases q : v = L / 2
  · rw [if_pos q]
    rcases Nat.mod_two_eq_zero_or_one L with e | e
    · rw [e]; exact Or.inr (Or.inr rfl)
    · rw [e]; exact Or.inr (Or.inl rfl)
  · rw [if_neg q]; exact h v hv
theorem is_u {nv L : Nat} {of : Nat → Int32} (hL : L / 2 < nv) (h : of (L / 2) = -1 ∨ of (L / 2) = nI (1 - L % 2)) {b : Nat → Nat} (hb : ∀ v, v < nv → b v ≤ 1) : sv_Q nv (upd of (L / 2) (nI (1 - L % 2))) b ↔ sv_Q nv of b ∧ litT L b := by
  have hne : ¬ nI (1 - L % 2) = -1 := fun q => absurd (nI_pos (n := 1 - L % 2) (by omega)) (by rw [q]; decide)
  have hbl := hb (L / 2) hL
  constructor
  · intro q
    have hT : litT L b := by
      have q1 := q (L / 2) hL
      unfold upd at q1
      rw [if_pos rfl] at q1
      exact ((nI_eq (by omega) (by omega)).mp (q1.resolve_left hne)).symm
    refine ⟨fun v hv => ?_, hT⟩
    by_cases e : v = L / 2
    · rw [e]
      rcases h with h | h
      · exact Or.inl h
      · exact Or.inr (by rw [h, show b (L / 2) = 1 - L % 2 from hT])
    · have q1 := q v hv
      unfold upd at q1
      rw [if_neg e] at q1
      exact q1
  · rintro ⟨q, hT⟩ v hv
    unfold upd
    by_cases e : v = L / 2
    · rw [if_pos e, e]; exact Or.inr (by rw [show b (L / 2) = 1 - L % 2 from hT])
    · rw [if_neg e]; exact q v hv
theorem is_lt {k : Nat} {P : Nat → Prop} : (∀ i, i < k + 1 → P i) ↔ (∀ i, i < k → P i) ∧ P k := by
  constructor
  · intro h; exact ⟨fun i hi => h i (by omega), h k (by omega)⟩
  · rintro ⟨h1, h2⟩ i hi
    rcases Nat.lt_or_ge i k with q | q
    · exact h1 i q
    · rw [show i = k by omega]; exact h2
theorem is_0 {nv : Nat} {an : Nat → Nat} {of : Nat → Int32} (h : ∀ v, v < nv → of v = -1) : is_I nv an 0 of 1 := ⟨fun v hv => Or.inl (h v hv), Or.inl ⟨rfl, fun b _ => ⟨fun _ i hi => absurd hi (Nat.not_lt_zero _), fun _ v hv => Or.inl (h v hv)⟩⟩⟩
theorem is_ok {nv : Nat} {an : Nat → Nat} {k : Nat} {of : Nat → Int32} (hI : is_I nv an k of 1) (hL : an k / 2 < nv) (h : of (an k / 2) = -1 ∨ of (an k / 2) = nI (1 - an k % 2)) : is_I nv an (k + 1) (upd of (an k / 2) (nI (1 - an k % 2))) 1 := by
  obtain ⟨h1, h2⟩ := hI
  have h2' := (h2.resolve_right (fun q => absurd q.1 (by decide))).2
  refine ⟨is_v h1, Or.inl ⟨rfl, fun b hb => ?_⟩⟩
  rw [is_u hL h hb, h2' b hb, is_lt (P := fun i => litT (an i) b)]
theorem is_bad {nv : Nat} {an : Nat → Nat} {k : Nat} {of : Nat → Int32} (hI : is_I nv an k of 1) (hL : an k / 2 < nv) (h : ¬ of (an k / 2) = -1) (h' : ¬ of (an k / 2) = nI (1 - an k % 2)) : is_I nv an (k + 1) (upd of (an k / 2) (nI (1 - an k % 2))) 0 := by
  obtain ⟨h1, h2⟩ := hI
  have h2' := (h2.resolve_right (fun q => absurd q.1 (by decide))).2
  refine ⟨is_v h1, Or.inr ⟨rfl, fun b hb q => ?_⟩⟩
  obtain ⟨q1, q2⟩ := is_lt.mp q
  have q3 := ((h2' b hb).mpr q1 (an k / 2) hL).resolve_left h
  exact h' (by rw [q3, show b (an k / 2) = 1 - an k % 2 from q2])
theorem is_keep {nv : Nat} {an : Nat → Nat} {k : Nat} {of : Nat → Int32} (hI : is_I nv an k of 0) : is_I nv an (k + 1) (upd of (an k / 2) (nI (1 - an k % 2))) 0 := by
  obtain ⟨h1, h2⟩ := hI
  have h2' := (h2.resolve_left (fun q => absurd q.1 (by decide))).2
  exact ⟨is_v h1, Or.inr ⟨rfl, fun b hb q => h2' b hb (is_lt.mp q).1⟩⟩
theorem sv_Pc {N : Nat} {lit st : Nat → Nat} {ch : Nat → List Nat} {Q Q' : (Nat → Nat) → Prop} {r : Int32} {a : Nat → Nat} (h : ∀ b, se_0 N lit st ch b → (Q b ↔ Q' b)) (hp : sv_P N lit st ch Q r a) : sv_P N lit st ch Q' r a := by
  rcases hp with ⟨h1, h2, h3, h4⟩ | ⟨h1, h2⟩
  · exact Or.inl ⟨h1, h2, (h a h2).mp h3, fun v hv e b hb hQ => h4 v hv e b hb ((h b hb).mpr hQ)⟩
  · exact Or.inr ⟨h1, fun b hb hQ => h2 b hb ((h b hb).mpr hQ)⟩
def sv_A (an : Nat → Nat) (k : Nat) (b : Nat → Nat) : Prop := ∀ i, i < k → litT (an i) b
theorem is_end {nv : Nat} {an : Nat → Nat} {k : Nat} {of : Nat → Int32} {lit st : Nat → Nat} {ch : Nat → List Nat} {r : Int32} {a : Nat → Nat} (hI : is_I nv an k of 1) (hp : sv_P nv lit st ch (sv_Q nv of) r a) : sv_P nv lit st ch (sv_A an k) r a :=
  sv_Pc (fun b hb => (hI.2.resolve_right (fun q => absurd q.1 (by decide))).2 b (fun v hv => (hb.2 v hv).2)) hp
theorem is_none {nv : Nat} {an : Nat → Nat} {k : Nat} {of : Nat → Int32} {lit st : Nat → Nat} {ch : Nat → List Nat} {a : Nat → Nat} (hI : is_I nv an k of 0) : sv_P nv lit st ch (sv_A an k) 0 a :=
  Or.inr ⟨rfl, fun b hb => (hI.2.resolve_left (fun q => absurd q.1 (by decide))).2 b (fun v hv => (hb.2 v hv).2)⟩
def sv_sat (N : Nat) (lit st : Nat → Nat) (ch : Nat → List Nat) (Q : (Nat → Nat) → Prop) : Prop := ∃ b, se_0 N lit st ch b ∧ Q b
theorem sv_P1 {N : Nat} {lit st : Nat → Nat} {ch : Nat → List Nat} {Q : (Nat → Nat) → Prop} {r : Int32} {a : Nat → Nat} (h : sv_P N lit st ch Q r a) (hr : ¬ r = 0) : r = 1 ∧ sv_sat N lit st ch Q := by
  rcases h with ⟨h1, h2, h3, _⟩ | ⟨h1, _⟩
  · exact ⟨h1, a, h2, h3⟩
  · exact absurd h1 hr
theorem sv_P0 {N : Nat} {lit st : Nat → Nat} {ch : Nat → List Nat} {Q : (Nat → Nat) → Prop} {r : Int32} {a : Nat → Nat} (h : sv_P N lit st ch Q r a) (hr : r = 0) : ¬ sv_sat N lit st ch Q := by
  rcases h with ⟨h1, _⟩ | ⟨_, h2⟩
  · rw [h1] at hr; exact absurd hr (by decide)
  · rintro ⟨b, hb, hq⟩; exact h2 b hb hq
theorem sv_P01 {N : Nat} {lit st : Nat → Nat} {ch : Nat → List Nat} {Q : (Nat → Nat) → Prop} {r : Int32} {a : Nat → Nat} (h : sv_P N lit st ch Q r a) : r = 1 ∨ r = 0 := by
  rcases h with ⟨h1, _⟩ | ⟨h1, _⟩
  · exact Or.inl h1
  · exact Or.inr h1
def sx : Nat → Int32
  | 0 => -1
  | m + 1 => nI m
/-- one forced literal -/
theorem fq_1 {nv L : Nat} {of : Nat → Int32} (hL : L / 2 < nv) (h : ∀ v, v < nv → of v = -1) {lit st : Nat → Nat} {ch : Nat → List Nat} {r : Int32} {a : Nat → Nat} (hp : sv_P nv lit st ch (sv_Q nv (upd of (L / 2) (nI (1 - L % 2)))) r a) : sv_P nv lit st ch (litT L) r a :=
  sv_Pc (fun b hb => by
    rw [is_u hL (Or.inl (h _ hL)) (fun v hv => (hb.2 v hv).2)]
    exact ⟨fun q => q.2, fun q => ⟨fun v hv => Or.inl (h v hv), q⟩⟩) hp
