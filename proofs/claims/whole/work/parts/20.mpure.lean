/-! the reference's clauses: chains, what a clause asks, what its search keeps -/
def lm_ch (nf : Nat → Int32) : Int32 → List Nat → Prop
  | x, [] => x = -1
  | x, c :: t => x = nI c ∧ lm_ch nf (nf c) t
def lm_C (lf sf : Nat → Int32) (lit st : Nat → Nat) (cs : List Nat) : Prop := ∀ c ∈ cs, c < 500 ∧ sf c = nI (st c) ∧ sf (c + 1) = nI (st (c + 1)) ∧ st c ≤ st (c + 1) ∧ st (c + 1) ≤ 4000 ∧ ∀ k, st c ≤ k → k < st (c + 1) → lf k = nI (lit k) ∧ lit k < 32
def lm_T (lit st a : Nat → Nat) (c : Nat) : Prop := ∃ k, st c ≤ k ∧ k < st (c + 1) ∧ a (lit k / 2) = 1 - lit k % 2
/-- the chain's loop: t is left, rt is the flag -/
def lm_I (nf : Nat → Int32) (lit st a : Nat → Nat) (cs : List Nat) (x : Int32) (t : List Nat) (rt : Nat) : Prop := lm_ch nf x t ∧ (∀ c ∈ t, c ∈ cs) ∧ ((rt = 1 ∧ ((∀ c ∈ t, lm_T lit st a c) → ∀ c ∈ cs, lm_T lit st a c)) ∨ (rt = 0 ∧ ∃ c ∈ cs, ¬ lm_T lit st a c))
theorem lm_I0 {nf : Nat → Int32} {lit st a : Nat → Nat} {cs : List Nat} {x : Int32} (h : lm_ch nf x cs) : lm_I nf lit st a cs x cs 1 := ⟨h, fun _ h => h, Or.inl ⟨rfl, fun h => h⟩⟩
theorem lm_cons {nf : Nat → Int32} {x : Int32} {t : List Nat} (h : lm_ch nf x t) (hx : ¬ x = -1) : ∃ c t', t = c :: t' ∧ x = nI c ∧ lm_ch nf (nf c) t' := by
  cases t with
  | nil => exact absurd h hx
  | cons c t' => exact ⟨c, t', rfl, h.1, h.2⟩
theorem lm_nil {nf : Nat → Int32} {x : Int32} {t : List Nat} (h : lm_ch nf x t) (hx : x = -1) (hc : ∀ c ∈ t, c < 500) : t = [] := by
  cases t with
  | nil => rfl
  | cons c t' =>
    have h1 := h.1
    have h2 := hc c (by simp)
    rw [hx] at h1
    exact absurd (nI_pos (n := c) (by omega)) (by rw [← h1]; decide)
theorem lm_It {nf : Nat → Int32} {lit st a : Nat → Nat} {cs : List Nat} {c : Nat} {t : List Nat} (h : lm_I nf lit st a cs (nI c) (c :: t) 1) (hT : lm_T lit st a c) : lm_I nf lit st a cs (nf c) t 1 := by
  obtain ⟨h1, h2, h3⟩ := h
  refine ⟨h1.2, fun c hc => h2 c (by simp [hc]), Or.inl ⟨rfl, fun h => ?_⟩⟩
  rcases h3 with ⟨_, h3⟩ | ⟨h3, _⟩
  · exact h3 (fun c' hc' => by rcases List.mem_cons.mp hc' with e | e; rw [e]; exact hT; exact h c' e)
  · cases h3
theorem lm_If {nf : Nat → Int32} {lit st a : Nat → Nat} {cs : List Nat} {c : Nat} {t : List Nat} (h : lm_I nf lit st a cs (nI c) (c :: t) 1) (hT : ¬ lm_T lit st a c) : lm_I nf lit st a cs (nf c) t 0 := by
  obtain ⟨h1, h2, h3⟩ := h
  exact ⟨h1.2, fun c hc => h2 c (by simp [hc]), Or.inr ⟨rfl, c, h2 c (by simp), hT⟩⟩
/-! the search -/
section SE
variable (N : Nat) (lit st : Nat → Nat) (ch : Nat → List Nat) (ff : Nat → Int32)
def se_R (v : Nat) (a : Nat → Nat) : Prop := ∀ c ∈ ch v, lm_T lit st a c
def se_F (v : Nat) (a : Nat → Nat) : Prop := a v ≤ 1 ∧ (ff v = -1 ∨ ff v = nI (a v))
def se_S (a : Nat → Nat) : Prop := ch 16 = [] ∧ ∀ v, v < N → se_R lit st ch v a ∧ se_F ff v a
/-- a clause of the chain v speaks of variables up to v -/
def se_D : Prop := ∀ v, v < N → ∀ c ∈ ch v, ∀ k, st c ≤ k → k < st (c + 1) → lit k / 2 ≤ v
/-- a prefix of length v is right, and each of its ones is forced -/
def se_P (v : Nat) (a : Nat → Nat) : Prop := (∀ j, j < v → se_R lit st ch j a ∧ se_F ff j a) ∧ ∀ j, j < v → a j = 1 → ∀ b, se_S N lit st ch ff b → (∀ i, i < j → b i = a i) → b j = 1
def se_B (v : Nat) (a : Nat → Nat) : Prop := se_P N lit st ch ff v a ∧ se_F ff v a ∧ (∀ b, se_S N lit st ch ff b → (∀ i, i < v + 1 → b i = a i) → False) ∧ (a v = 1 → ∀ b, se_S N lit st ch ff b → (∀ i, i < v → b i = a i) → b v = 1)
end SE
def se_u (a : Nat → Nat) (v x : Nat) : Nat → Nat := fun j => if j = v then x else a j
theorem se_us (a : Nat → Nat) (v x : Nat) : se_u a v x v = x := by unfold se_u; rw [if_pos rfl]
theorem se_un {a : Nat → Nat} {v x j : Nat} (h : j ≠ v) : se_u a v x j = a j := by unfold se_u; rw [if_neg h]
section SE2
variable {N : Nat} {lit st : Nat → Nat} {ch : Nat → List Nat} {ff : Nat → Int32} {v : Nat} {a b : Nat → Nat}
theorem se_Rc (hd : se_D N lit st ch) (hv : v < N) (h : ∀ j, j ≤ v → a j = b j) (hr : se_R lit st ch v a) : se_R lit st ch v b := fun c hc => by
  obtain ⟨k, h1, h2, h3⟩ := hr c hc
  exact ⟨k, h1, h2, by rw [← h _ (hd v hv c hc k h1 h2)]; exact h3⟩
theorem se_Pc (hd : se_D N lit st ch) (hv : v ≤ N) (h : ∀ j, j < v → a j = b j) (hp : se_P N lit st ch ff v a) : se_P N lit st ch ff v b := by
  refine ⟨fun j hj => ⟨se_Rc hd (by omega) (fun i hi => h i (by omega)) (hp.1 j hj).1, ?_⟩, fun j hj h1 s hs he => hp.2 j hj (by rw [h j hj]; exact h1) s hs (fun i hi => by rw [he i hi, h i (by omega)])⟩
  have := (hp.1 j hj).2
  unfold se_F at this ⊢
  rw [← h j hj]
  exact this
/-- the value that is tried first -/
theorem se_first (hd : se_D N lit st ch) (hv : v < N) (hp : se_P N lit st ch ff v a) {x : Nat} (hx : (ff v = 1 ∧ x = 1) ∨ (¬ ff v = 1 ∧ x = 0)) (hff : ff v = -1 ∨ ff v = 0 ∨ ff v = 1) : se_P N lit st ch ff v (se_u a v x) ∧ se_F ff v (se_u a v x) ∧ (se_u a v x v = 1 → ∀ b, se_S N lit st ch ff b → (∀ i, i < v → b i = se_u a v x i) → b v = 1) := by
  refine ⟨se_Pc hd (by omega) (fun j hj => (se_un (by omega)).symm) hp, ?_, ?_⟩
  · unfold se_F
    rw [se_us]
    rcases hx with ⟨h1, rfl⟩ | ⟨h1, rfl⟩
    · exact ⟨by decide, Or.inr h1⟩
    · rcases hff with h | h | h
      · exact ⟨by decide, Or.inl h⟩
      · exact ⟨by decide, Or.inr h⟩
      · exact absurd h h1
  · rw [se_us]
    intro h1 b hb _
    rcases hx with ⟨h2, rfl⟩ | ⟨_, rfl⟩
    · obtain ⟨q1, q2⟩ := (hb.2 v hv).2
      rcases q2 with q | q
      · rw [h2] at q; exact absurd q (by decide)
      · rw [h2] at q
        exact ((nI_eq (a := 1) (b := b v) (by decide) (by omega)).mp q).symm
    · cases h1
theorem se_up (hp : se_P N lit st ch ff v a) (hf : se_F ff v a) (hr : se_R lit st ch v a) (h1 : a v = 1 → ∀ b, se_S N lit st ch ff b → (∀ i, i < v → b i = a i) → b v = 1) : se_P N lit st ch ff (v + 1) a := by
  refine ⟨fun j hj => ?_, fun j hj => ?_⟩
  · rcases Nat.lt_or_ge j v with q | q
    · exact hp.1 j q
    · rw [show j = v by omega]; exact ⟨hr, hf⟩
  · rcases Nat.lt_or_ge j v with q | q
    · exact hp.2 j q
    · rw [show j = v by omega]; exact h1
theorem se_no (hd : se_D N lit st ch) (hv : v < N) (hp : se_P N lit st ch ff v a) (hf : se_F ff v a) (hr : ¬ se_R lit st ch v a) (h1 : a v = 1 → ∀ b, se_S N lit st ch ff b → (∀ i, i < v → b i = a i) → b v = 1) : se_B N lit st ch ff v a :=
  ⟨hp, hf, fun b hb he => hr (se_Rc hd hv (fun j hj => he j (by omega)) (hb.2 v hv).1), h1⟩
/-- the second value -/
theorem se_second (hd : se_D N lit st ch) (hv : v < N) (hb : se_B N lit st ch ff v a) (h0 : ¬ a v = 1) (hff : ff v = -1) : se_P N lit st ch ff v (se_u a v 1) ∧ se_F ff v (se_u a v 1) ∧ (se_u a v 1 v = 1 → ∀ b, se_S N lit st ch ff b → (∀ i, i < v → b i = se_u a v 1 i) → b v = 1) := by
  obtain ⟨hp, hf, hn, _⟩ := hb
  refine ⟨se_Pc hd (by omega) (fun j hj => (se_un (by omega)).symm) hp, ?_, ?_⟩
  · unfold se_F
    rw [se_us]
    exact ⟨by decide, Or.inl hff⟩
  · intro _ b hb he
    have hbv := (hb.2 v hv).2.1
    have hav := hf.1
    refine Classical.byContradiction fun q => hn b hb (fun i hi => ?_)
    rcases Nat.lt_or_ge i v with q2 | q2
    · rw [he i q2, se_un (by omega)]
    · rw [show i = v by omega]; omega
theorem se_none (hv : v < N) (hb : se_B N lit st ch ff v a) (h : a v = 1 ∨ ¬ ff v = -1) : ∀ b, se_S N lit st ch ff b → (∀ i, i < v → b i = a i) → False := by
  obtain ⟨hp, hf, hn, h1⟩ := hb
  intro b hb he
  refine hn b hb (fun i hi => ?_)
  rcases Nat.lt_or_ge i v with q | q
  · exact he i q
  · rw [show i = v by omega]
    rcases h with h | h
    · rw [h]; exact h1 h b hb he
    · have q1 := hf.2.resolve_left h
      have q2 := (hb.2 v hv).2.2.resolve_left h
      have := (hb.2 v hv).2.1
      have := hf.1
      exact (nI_eq (by omega) (by omega)).mp (q2.symm.trans q1)
theorem se_down (hv : v + 1 < N) (hb : se_B N lit st ch ff (v + 1) a) (h : a (v + 1) = 1 ∨ ¬ ff (v + 1) = -1) : se_B N lit st ch ff v a := by
  have hn := se_none hv hb h
  obtain ⟨hp, hf, _, _⟩ := hb
  exact ⟨⟨fun j hj => hp.1 j (by omega), fun j hj => hp.2 j (by omega)⟩, (hp.1 v (by omega)).2, fun b hb he => hn b hb he, hp.2 v (by omega)⟩
end SE2
/-- the search's measure -/
def se_f : Nat → Nat
  | 0 => 1
  | d + 1 => 2 * se_f d + 4
def se_G (N : Nat) (a : Nat → Nat) : Nat → Nat
  | 0 => 0
  | v + 1 => se_G N a v + (if a v = 0 then se_f (N - 1 - v) + 1 else 0) + 1
theorem se_Gu {N : Nat} {a b : Nat → Nat} {v : Nat} (h : ∀ j, j < v → a j = b j) : se_G N a v = se_G N b v := by
  induction v with
  | zero => rfl
  | succ v ih => simp only [se_G]; rw [ih (fun j hj => h j (by omega)), h v (by omega)]
def se_mu (N v bk : Nat) (a : Nat → Nat) : Nat := if bk = 0 then se_f (N - v) + se_G N a v else se_G N a (v + 1)
theorem se_mf {N v : Nat} (hv : v < N) : se_f (N - v) = 2 * se_f (N - 1 - v) + 4 := by
  obtain ⟨d, hd⟩ : ∃ d, N - v = d + 1 := ⟨N - v - 1, by omega⟩
  rw [hd, show N - 1 - v = d by omega]; rfl
theorem se_m1 {N v x : Nat} {a : Nat → Nat} (hv : v < N) : se_mu N (v + 1) 0 (se_u a v x) < se_mu N v 0 a ∧ se_mu N v 1 (se_u a v x) < se_mu N v 0 a := by
  have h1 : se_G N (se_u a v x) v = se_G N a v := se_Gu (fun j hj => se_un (by omega))
  have h2 := se_mf hv
  have h3 : N - (v + 1) = N - 1 - v := by omega
  simp only [se_mu, se_G, h1, se_us, if_true, h3, if_neg (show ¬ (1 : Nat) = 0 by decide)]
  split <;> omega
theorem se_m2 {N v : Nat} {a : Nat → Nat} (hv : v < N) (h0 : a v = 0) : se_mu N (v + 1) 0 (se_u a v 1) < se_mu N v 1 a ∧ se_mu N v 1 (se_u a v 1) < se_mu N v 1 a := by
  have h1 : se_G N (se_u a v 1) v = se_G N a v := se_Gu (fun j hj => se_un (by omega))
  have h3 : N - (v + 1) = N - 1 - v := by omega
  simp only [se_mu, se_G, h1, se_us, if_true, h3, h0, if_neg (show ¬ (1 : Nat) = 0 by decide)]
  omega
theorem se_m3 {N v : Nat} {a : Nat → Nat} : se_mu N v 1 a < se_mu N (v + 1) 1 a := by
  unfold se_mu
  rw [if_neg (by decide), if_neg (by decide)]
  show _ < se_G N a (v + 1) + _ + 1
  omega
