/-- base solutions: every clause, every variable 0 or 1 -/
def se_0 (N : Nat) (lit st : Nat → Nat) (ch : Nat → List Nat) (b : Nat → Nat) : Prop := ch 16 = [] ∧ ∀ v, v < N → se_R lit st ch v b ∧ b v ≤ 1
def sv_Q (N : Nat) (ff : Nat → Int32) (b : Nat → Nat) : Prop := ∀ v, v < N → ff v = -1 ∨ ff v = nI (b v)
theorem se_S0 {N : Nat} {lit st : Nat → Nat} {ch : Nat → List Nat} {ff : Nat → Int32} {b : Nat → Nat} : se_S N lit st ch ff b ↔ se_0 N lit st ch b ∧ sv_Q N ff b := by
  constructor
  · intro h
    exact ⟨⟨h.1, fun v hv => ⟨(h.2 v hv).1, (h.2 v hv).2.1⟩⟩, fun v hv => (h.2 v hv).2.2⟩
  · intro h
    exact ⟨h.1.1, fun v hv => ⟨(h.1.2 v hv).1, (h.1.2 v hv).2, h.2 v hv⟩⟩
/-- what a search answers: the least base solution with Q, or none -/
def sv_P (N : Nat) (lit st : Nat → Nat) (ch : Nat → List Nat) (Q : (Nat → Nat) → Prop) (r : Int32) (a : Nat → Nat) : Prop := (r = 1 ∧ se_0 N lit st ch a ∧ Q a ∧ ∀ v, v < N → a v = 1 → ∀ b, se_0 N lit st ch b → Q b → (∀ i, i < v → b i = a i) → b v = 1) ∨ (r = 0 ∧ ∀ b, se_0 N lit st ch b → ¬ Q b)
theorem sv_yes {N : Nat} {lit st : Nat → Nat} {ch : Nat → List Nat} {ff : Nat → Int32} {a : Nat → Nat} (h16 : ch 16 = []) (h : se_P N lit st ch ff N a) : sv_P N lit st ch (sv_Q N ff) 1 a := by
  have hs : se_S N lit st ch ff a := ⟨h16, fun v hv => h.1 v hv⟩
  obtain ⟨h0, hq⟩ := se_S0.mp hs
  exact Or.inl ⟨rfl, h0, hq, fun v hv h1 b hb hQ he => h.2 v hv h1 b (se_S0.mpr ⟨hb, hQ⟩) he⟩
theorem sv_no {N : Nat} {lit st : Nat → Nat} {ch : Nat → List Nat} {ff : Nat → Int32} {a : Nat → Nat} (h : ∀ b, ¬ se_S N lit st ch ff b) : sv_P N lit st ch (sv_Q N ff) 0 a := Or.inr ⟨rfl, fun b hb hQ => h b (se_S0.mpr ⟨hb, hQ⟩)⟩
def sv_V (g : Nat → Int32) (a : Nat → Nat) : Prop := ∀ j, j < 16 → g j = nI (a j) ∧ a j ≤ 1
theorem sv_Vu {g : Nat → Int32} {a : Nat → Nat} {v x : Nat} (h : sv_V g a) (hx : x ≤ 1) : sv_V (upd g v (nI x)) (se_u a v x) := by
  intro j hj
  unfold upd se_u
  by_cases q : j = v
  · rw [if_pos q, if_pos q]; exact ⟨rfl, hx⟩
  · rw [if_neg q, if_neg q]; exact h j hj
