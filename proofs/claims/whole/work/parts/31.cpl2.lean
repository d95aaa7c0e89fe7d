/-! how the coupled state moves -/
section MOV
variable {nv nc us dr : Nat} {lf sf ff nf : Nat → Int32} {lit st : Nat → Nat} {ch : Nat → List Nat} {f : Nat → Int64}
/-- a new variable -/
theorem mv_var (h : cpM nv nc us dr lf sf ff nf lit st ch) (hv : nv < 16) : cpM (nv + 1) nc us dr lf sf ff nf lit st ch := by
  obtain ⟨⟨a1, a2, a3, a4⟩, b1, b2, b3, b4, b5, b6⟩ := h
  refine ⟨⟨by omega, a2, a3, a4⟩, fun k hk => ⟨(b1 k hk).1, by have := (b1 k hk).2; omega⟩, b2, b3, b4, b5, fun c hc => ?_⟩
  rcases b6 c hc with ⟨v, q1, q2⟩ | q
  · exact Or.inl ⟨v, by omega, q2⟩
  · exact Or.inr q
theorem mv_varF (h : cpM nv nc us dr lf sf ff nf lit st ch) (hf : cpF f nv nc lit st) {g : Nat → Int64} {U : Nat} (hg : (nv < 6 ∧ (g, U) = (f, 2 ^ (nv - 6))) ∨ (6 ≤ nv ∧ U = 2 * 2 ^ (nv - 6) ∧ ∀ k, k < 2 ^ (nv - 6) → g k = f k ∧ g (2 ^ (nv - 6) + k) = f k)) : U = 2 ^ (nv + 1 - 6) ∧ cpF g (nv + 1) nc lit st := by
  rcases hg with ⟨h6, he⟩ | ⟨h6, he, hg⟩
  · cases he
    have e : nv + 1 - 6 = nv - 6 := by omega
    unfold cpF
    rw [e]
    exact ⟨rfl, hf⟩
  · have e : nv + 1 - 6 = nv - 6 + 1 := by omega
    have p6 : 64 * 2 ^ (nv - 6) = 2 ^ nv := by rw [show (64 : Nat) = 2 ^ 6 from rfl, ← Nat.pow_add]; congr 1; omega
    refine ⟨by rw [he, e, Nat.pow_succ, Nat.mul_comm], ?_⟩
    intro r hr
    rw [e, Nat.pow_succ] at hr
    have hm : r % 2 ^ nv < 64 * 2 ^ (nv - 6) := by rw [p6]; exact Nat.mod_lt _ (Nat.pow_pos (by decide))
    have hmem : ls_mem g r = ls_mem f (r % 2 ^ nv) := by
      rw [← p6]
      generalize 2 ^ (nv - 6) = P at hg hr ⊢
      unfold ls_mem
      rcases Nat.lt_or_ge r (64 * P) with q | q
      · rw [Nat.mod_eq_of_lt q, (hg (r / 64) (by omega)).1]
      · have e1 : r % (64 * P) = r - 64 * P := by rw [Nat.mod_eq_sub_mod q, Nat.mod_eq_of_lt (by omega)]
        rw [e1, show r / 64 = P + (r - 64 * P) / 64 by omega, (hg ((r - 64 * P) / 64) (by omega)).2, show (r - 64 * P) % 64 = r % 64 by omega]
    rw [hmem, hf _ hm]
    have hT : ∀ c, c < nc → (lm_T lit st (bOf (r % 2 ^ nv)) c ↔ lm_T lit st (bOf r) c) := fun c hc => lm_Tc (fun k k1 k2 => by
      unfold bOf
      rw [Nat.testBit_mod_two_pow]
      simp [cp_lt h hc k2])
    exact ⟨fun q c hc => (hT c hc).mp (q c hc), fun q c hc => (hT c hc).mpr (q c hc)⟩
/-- one more literal -/
theorem mv_litT {L c : Nat} {b : Nat → Nat} (h : cpM nv nc us dr lf sf ff nf lit st ch) (hc : c < nc) : lm_T (se_u lit (us + dr) L) st b c ↔ lm_T lit st b c := by
  obtain ⟨⟨a1, a2, a3, a4⟩, b1, b2, b3, b4, b5, b6⟩ := h
  have := (b2 c hc).2.2.2
  constructor
  · rintro ⟨k, k1, k2, k3⟩; rw [se_un (by omega)] at k3; exact ⟨k, k1, k2, k3⟩
  · rintro ⟨k, k1, k2, k3⟩; exact ⟨k, k1, k2, by rw [se_un (by omega)]; exact k3⟩
theorem mv_lit (h : cpM nv nc us dr lf sf ff nf lit st ch) {L : Nat} (hL : L < 2 * nv) (h1 : dr < 40) (h2 : us + dr < 4000) : cpM nv nc us (dr + 1) (upd lf (us + dr) (nI L)) sf ff nf (se_u lit (us + dr) L) st ch := by
  obtain ⟨⟨a1, a2, a3, a4⟩, b1, b2, b3, b4, b5, b6⟩ := h
  refine ⟨⟨a1, a2, by omega, by omega⟩, fun k hk => ?_, b2, b3, b4, fun v hv c hc => ?_, b6⟩
  · unfold upd se_u
    by_cases q : k = us + dr
    · rw [if_pos q, if_pos q]; exact ⟨rfl, hL⟩
    · rw [if_neg q, if_neg q]; exact b1 k (by omega)
  · obtain ⟨q1, q2, q3⟩ := b5 v hv c hc
    have := (b2 c q1).2.2.2
    exact ⟨q1, fun hv k k1 k2 => by rw [se_un (by omega)]; exact q2 hv k k1 k2, q3⟩
theorem mv_litF (h : cpM nv nc us dr lf sf ff nf lit st ch) (hf : cpF f nv nc lit st) (L : Nat) : cpF f nv nc (se_u lit (us + dr) L) st := fun r hr => by
  rw [hf r hr]
  exact ⟨fun q c hc => (mv_litT h hc).mpr (q c hc), fun q c hc => (mv_litT h hc).mp (q c hc)⟩
/-- a clause is closed -/
theorem lm_chc {nf ng : Nat → Int32} {x : Int32} {t : List Nat} (h : lm_ch nf x t) (he : ∀ c ∈ t, ng c = nf c) : lm_ch ng x t := by
  induction t generalizing x with
  | nil => exact h
  | cons c t ih => exact ⟨h.1, by rw [he c (by simp)]; exact ih h.2 (fun c hc => he c (by simp [hc]))⟩
theorem cl_max (lit : Nat → Nat) (us : Nat) : ∀ j i, i < j → lit (us + i) / 2 + 1 ≤ cl_m lit us j := by
  intro j
  induction j with
  | zero => intro i hi; omega
  | succ j ih =>
    intro i hi
    simp only [cl_m]
    rcases Nat.lt_or_ge i j with q | q
    · have := ih i q; omega
    · rw [show i = j by omega]; omega
theorem cl_ub {lit : Nat → Nat} {us n : Nat} : ∀ j, (∀ i, i < j → lit (us + i) / 2 < n) → cl_m lit us j ≤ n := by
  intro j
  induction j with
  | zero => intro _; simp [cl_m]
  | succ j ih =>
    intro h
    have := ih (fun i hi => h i (by omega))
    have := h j (by omega)
    simp only [cl_m]
    omega
theorem mv_close (h : cpM nv nc us dr lf sf ff nf lit st ch) (hc : nc < 500) : cpM nv (nc + 1) (us + dr) 0 lf (upd (upd sf nc (nI us)) (nc + 1) (nI (us + dr))) (upd ff (cl_v lit us dr) (nI nc)) (upd nf nc (ff (cl_v lit us dr))) lit (se_u st (nc + 1) (us + dr)) (fun v => if v = cl_v lit us dr then nc :: ch v else ch v) := by
  have hh := h
  obtain ⟨⟨a1, a2, a3, a4⟩, b1, b2, b3, b4, b5, b6⟩ := h
  have hub : cl_m lit us dr ≤ nv := cl_ub dr (fun i hi => by have := (b1 (us + i) (by omega)).2; omega)
  have hcv : cl_v lit us dr ≤ 16 := by unfold cl_v; split <;> omega
  have hst : ∀ c, c ≤ nc → se_u st (nc + 1) (us + dr) c = st c := fun c hc => se_un (by omega)
  have hst1 : se_u st (nc + 1) (us + dr) (nc + 1) = us + dr := se_us _ _ _
  refine ⟨⟨a1, by omega, by omega, by omega⟩, fun k hk => b1 k (by omega), fun c hcc => ?_, hst1, fun v hv => ?_, fun v hv c hm => ?_, fun c hcc => ?_⟩
  · rcases Nat.lt_or_ge c nc with q | q
    · obtain ⟨s1, s2, s3, s4⟩ := b2 c q
      rw [hst c (by omega), hst (c + 1) (by omega)]
      refine ⟨?_, ?_, s3, by omega⟩
      · unfold upd; rw [if_neg (by omega), if_neg (by omega)]; exact s1
      · unfold upd
        rw [if_neg (by omega)]
        by_cases e : c + 1 = nc
        · rw [if_pos e, e, b3]
        · rw [if_neg e]; exact s2
    · have e : c = nc := by omega
      subst e
      rw [hst c (Nat.le_refl _), hst1, b3]
      refine ⟨?_, ?_, by omega, by omega⟩
      · unfold upd; rw [if_neg (by omega), if_pos rfl]
      · unfold upd; rw [if_pos rfl]
  · have keep : ∀ c ∈ ch v, upd nf nc (ff (cl_v lit us dr)) c = nf c := fun c hc => by
      have := (b5 v hv c hc).1
      unfold upd; rw [if_neg (by omega)]
    by_cases e : v = cl_v lit us dr
    · show lm_ch _ _ (if v = cl_v lit us dr then nc :: ch v else ch v)
      rw [if_pos e]
      refine ⟨by unfold upd; rw [if_pos e], ?_⟩
      rw [show upd nf nc (ff (cl_v lit us dr)) nc = ff v by unfold upd; rw [if_pos rfl, e]]
      exact lm_chc (b4 v hv) keep
    · show lm_ch _ _ (if v = cl_v lit us dr then nc :: ch v else ch v)
      rw [if_neg e, show upd ff (cl_v lit us dr) (nI nc) v = ff v by unfold upd; rw [if_neg e]]
      exact lm_chc (b4 v hv) keep
  · have old : c ∈ ch v → c < nc + 1 ∧ (v < 16 → ∀ k, se_u st (nc + 1) (us + dr) c ≤ k → k < se_u st (nc + 1) (us + dr) (c + 1) → lit k / 2 ≤ v) ∧ (v = 16 → se_u st (nc + 1) (us + dr) (c + 1) = se_u st (nc + 1) (us + dr) c) := fun hm => by
      obtain ⟨q1, q2, q3⟩ := b5 v hv c hm
      rw [hst c (by omega), hst (c + 1) (by omega)]
      exact ⟨by omega, q2, q3⟩
    by_cases e : v = cl_v lit us dr
    · have hm : c ∈ nc :: ch v := by
        have : c ∈ (if v = cl_v lit us dr then nc :: ch v else ch v) := hm
        rw [if_pos e] at this; exact this
      rcases List.mem_cons.mp hm with hm | hm
      · subst hm
        rw [hst c (Nat.le_refl _), hst1, b3]
        refine ⟨by omega, fun hv k k1 k2 => ?_, fun hv => ?_⟩
        · have := cl_max lit us dr (k - us) (by omega)
          rw [show us + (k - us) = k by omega] at this
          rw [e]; unfold cl_v; rw [if_neg (by omega)]; omega
        · rw [e] at hv
          unfold cl_v at hv
          have h0 : cl_m lit us dr = 0 := by
            split at hv
            · assumption
            · omega
          rcases Nat.eq_zero_or_pos dr with q | q
          · omega
          · have := cl_max lit us dr 0 q; omega
      · exact old hm
    · have hm : c ∈ ch v := by
        have : c ∈ (if v = cl_v lit us dr then nc :: ch v else ch v) := hm
        rw [if_neg e] at this; exact this
      exact old hm
  · have up : ∀ v, c ∈ ch v → c ∈ (if v = cl_v lit us dr then nc :: ch v else ch v) := fun v hm => by
      split
      · exact List.mem_cons_of_mem _ hm
      · exact hm
    rcases Nat.lt_or_ge c nc with q | q
    · rcases b6 c q with ⟨v, v1, v2⟩ | v2
      · exact Or.inl ⟨v, v1, up v v2⟩
      · exact Or.inr (up 16 v2)
    · have e : c = nc := by omega
      subst e
      have hin : c ∈ (if cl_v lit us dr = cl_v lit us dr then c :: ch (cl_v lit us dr) else ch (cl_v lit us dr)) := by rw [if_pos rfl]; simp
      by_cases h0 : cl_m lit us dr = 0
      · right
        have e16 : cl_v lit us dr = 16 := by unfold cl_v; rw [if_pos h0]
        rw [e16] at hin ⊢
        exact hin
      · left
        exact ⟨cl_v lit us dr, by unfold cl_v; rw [if_neg h0]; omega, hin⟩
theorem or_b (cn : Nat → Nat) (k : Nat) {b : Nat} (hb : b < 64) (n : Nat) : ls_b (ls_or cn k n) b = true ↔ ∃ j, j < n ∧ ls_lit (cn j) (64 * k + b) = true := by
  induction n with
  | zero => simp [ls_or, ls_b_0]
  | succ n ih =>
    simp only [ls_or]
    rw [ls_b_or, Bool.or_eq_true, ih, ls_rw_b _ _ hb]
    constructor
    · rintro (⟨j, j1, j2⟩ | q)
      · exact ⟨j, by omega, j2⟩
      · exact ⟨n, by omega, q⟩
    · rintro ⟨j, j1, j2⟩
      rcases Nat.lt_or_ge j n with q | q
      · exact Or.inl ⟨j, q, j2⟩
      · rw [show j = n by omega] at j2; exact Or.inr j2
theorem mv_closeF (h : cpM nv nc us dr lf sf ff nf lit st ch) (hf : cpF f nv nc lit st) {g : Nat → Int64} (hg : ∀ k, k < 2 ^ (nv - 6) → g k = f k &&& ls_or (fun j => lit (us + j)) k dr) : cpF g nv (nc + 1) lit (se_u st (nc + 1) (us + dr)) := by
  obtain ⟨⟨a1, a2, a3, a4⟩, b1, b2, b3, b4, b5, b6⟩ := h
  intro r hr
  have hb : r % 64 < 64 := Nat.mod_lt _ (by decide)
  have hm : ls_mem g r = true ↔ ls_mem f r = true ∧ ∃ j, j < dr ∧ litT (lit (us + j)) (bOf r) := by
    unfold ls_mem
    rw [hg (r / 64) (by omega), ls_b_and, Bool.and_eq_true, or_b _ _ hb, wd_r]
    constructor
    · rintro ⟨q, j, j1, j2⟩; exact ⟨q, j, j1, (lit_iff _ _).mp j2⟩
    · rintro ⟨q, j, j1, j2⟩; exact ⟨q, j, j1, (lit_iff _ _).mpr j2⟩
  have hold : ∀ c, c < nc → (lm_T lit (se_u st (nc + 1) (us + dr)) (bOf r) c ↔ lm_T lit st (bOf r) c) := fun c hc => by
    unfold lm_T
    rw [se_un (by omega), se_un (by omega)]
  have hnew : lm_T lit (se_u st (nc + 1) (us + dr)) (bOf r) nc ↔ ∃ j, j < dr ∧ litT (lit (us + j)) (bOf r) := by
    unfold lm_T
    rw [se_un (by omega), se_us, b3]
    constructor
    · rintro ⟨k, k1, k2, k3⟩; exact ⟨k - us, by omega, by unfold litT; rw [show us + (k - us) = k by omega]; exact k3⟩
    · rintro ⟨j, j1, j2⟩; exact ⟨us + j, by omega, by omega, j2⟩
  rw [hm, hf r hr, ← hnew, is_lt (P := fun c => lm_T lit (se_u st (nc + 1) (us + dr)) (bOf r) c)]
  exact ⟨fun q => ⟨fun c hc => (hold c hc).mpr (q.1 c hc), q.2⟩, fun q => ⟨fun c hc => (hold c hc).mp (q.1 c hc), q.2⟩⟩
end MOV
/-! counting -/
theorem ct_sum (g : Nat → Int64) (M : Nat) : ls_sum g M = ls_cnt (ls_mem g) (64 * M) := by
  induction M with
  | zero => rfl
  | succ M ih =>
    rw [show 64 * (M + 1) = 64 * M + 64 by omega, ls_cnt_add, ← ih]
    show ls_sum g M + _ = _
    congr 1
    exact ls_cnt_congr (fun i hi => by unfold ls_mem; rw [show (64 * M + i) / 64 = M by omega, show (64 * M + i) % 64 = i by omega])
theorem ct_0 {p : Nat → Bool} {n : Nat} (h : ∀ i, i < n → p i = false) : ls_cnt p n = 0 := by
  induction n with
  | zero => rfl
  | succ n ih =>
    show ls_cnt p n + _ = 0
    rw [ih (fun i hi => h i (by omega)), h n (by omega)]; rfl
theorem ct_mul {S : Nat → Bool} {K : Nat} (hK : 0 < K) : ∀ m, (∀ r, r < K * m → S r = true → r % K = 0) → ls_cnt S (K * m) = ls_cnt (fun x => S (K * x)) m := by
  intro m
  induction m with
  | zero => intro _; rfl
  | succ m ih =>
    intro h
    have h2 := ih (fun r hr => h r (by rw [Nat.mul_add]; omega))
    rw [Nat.mul_add, Nat.mul_one, ls_cnt_add, h2]
    show _ = ls_cnt (fun x => S (K * x)) m + (if S (K * m) = true then 1 else 0)
    congr 1
    obtain ⟨K', rfl⟩ : ∃ K', K = K' + 1 := ⟨K - 1, by omega⟩
    rw [show K' + 1 = 1 + K' by omega, ls_cnt_add]
    have hz : ls_cnt (fun i => S ((1 + K') * m + (1 + i))) K' = 0 := ct_0 (fun i hi => by
      cases hs : S ((1 + K') * m + (1 + i)) with
      | false => rfl
      | true =>
        have e9 : (K' + 1) * m = (1 + K') * m := by rw [Nat.add_comm]
        have := h ((1 + K') * m + (1 + i)) (by rw [Nat.mul_add]; omega) hs
        rw [show K' + 1 = 1 + K' by omega, Nat.mul_add_mod, Nat.mod_eq_of_lt (by omega)] at this
        omega)
    rw [hz]
    simp [ls_cnt]
theorem ct_ext {p : Nat → Bool} {a b : Nat} (hab : a ≤ b) (h : ∀ i, a ≤ i → i < b → p i = false) : ls_cnt p b = ls_cnt p a := by
  obtain ⟨d, rfl⟩ : ∃ d, b = a + d := ⟨b - a, by omega⟩
  rw [ls_cnt_add, ct_0 (fun i hi => h (a + i) (by omega) (by omega))]
  rfl
theorem wyQ_iff {F N X q : Nat} (hX : X < 2 ^ N) : wyQ F N X (bOf q) ↔ q / 2 ^ F % 2 ^ N = X := by
  have hb : ∀ k, (bOf q (F + k) = X / 2 ^ k % 2) ↔ q.testBit (F + k) = X.testBit k := fun k => by
    unfold bOf
    rw [ls_bit]
    cases q.testBit (F + k) <;> cases X.testBit k <;> simp
  constructor
  · intro h
    apply Nat.eq_of_testBit_eq
    intro k
    rw [Nat.testBit_mod_two_pow, Nat.testBit_div_two_pow]
    by_cases hk : k < N
    · rw [Nat.add_comm k F, (hb k).mp (h k hk)]; simp [hk]
    · rw [Nat.testBit_lt_two_pow (Nat.lt_of_lt_of_le hX (Nat.pow_le_pow_right (by decide) (by omega)))]; simp [hk]
  · intro h k hk
    rw [hb, ← h, Nat.testBit_mod_two_pow, Nat.testBit_div_two_pow, Nat.add_comm k F]
    simp [hk]
theorem tie_ways {nv nc us dr : Nat} {lf sf ff nf : Nat → Int32} {lit st : Nat → Nat} {ch : Nat → List Nat} {f g : Nat → Int64} {F N ee : Nat} (h : cpM nv nc us dr lf sf ff nf lit st ch) (hf : cpF f nv nc lit st) (hF : F + N ≤ nv) (hw : wy_I f (nv - 6) F N 16 g ee) : ls_sum g (2 ^ ee) = ls_cnt (wyB nv lit st ch F N) (2 ^ N) := by
  have hnv : nv ≤ 16 := h.1.1
  have hq16 : ∀ q, q < 64 * 2 ^ (nv - 6) → q < 2 ^ 16 := fun q hq => by
    have : 64 * 2 ^ (nv - 6) ≤ 2 ^ 16 := by
      rw [show (64 : Nat) = 2 ^ 6 from rfl, ← Nat.pow_add]
      exact Nat.pow_le_pow_right (by decide) (by omega)
    omega
  have hW : ∀ X, X < 2 ^ N → (wyB nv lit st ch F N X = true ↔ ∃ q, q < 64 * 2 ^ (nv - 6) ∧ ls_mem f q = true ∧ q / 2 ^ F % 2 ^ N = X) := fun X hX => by
    rw [wyB_t, cp_sat h hf (cpQ_w hF)]
    constructor
    · rintro ⟨q, q1, q2, q3⟩; exact ⟨q, q1, q2, (wyQ_iff hX).mp q3⟩
    · rintro ⟨q, q1, q2, q3⟩; exact ⟨q, q1, q2, (wyQ_iff hX).mpr q3⟩
  have hp6 : min F 6 ≤ 6 := by omega
  have hK : 0 < 2 ^ min F 6 := Nat.pow_pos (by decide)
  obtain ⟨w1, w2⟩ := hw
  have hp : ∀ q, q < 64 * 2 ^ (nv - 6) → wy_p F N q 16 = q / 2 ^ F % 2 ^ N * 2 ^ min F 6 := fun q hq => wy_all (hq16 q hq) (by omega)
  obtain ⟨m, hm⟩ : ∃ m, 64 * 2 ^ ee = 2 ^ min F 6 * m := ⟨2 ^ (6 - min F 6) * 2 ^ ee, by
    rw [← Nat.mul_assoc, ← Nat.pow_add, show min F 6 + (6 - min F 6) = 6 by omega]⟩
  have hdiv : ∀ r, r < 2 ^ min F 6 * m → ls_mem g r = true → r % 2 ^ min F 6 = 0 := fun r hr hs => by
    rw [← hm] at hr
    obtain ⟨q, q1, q2, q3⟩ := (w1 r hr).mp hs
    rw [← q3, hp q q1, Nat.mul_mod_left]
  rw [ct_sum, hm, ct_mul hK m hdiv]
  have hS : ∀ X, X < m → (ls_mem g (2 ^ min F 6 * X) = true ↔ X < 2 ^ N ∧ wyB nv lit st ch F N X = true) := fun X hX => by
    have hr : 2 ^ min F 6 * X < 64 * 2 ^ ee := by rw [hm]; exact Nat.mul_lt_mul_of_pos_left hX hK
    rw [w1 _ hr]
    constructor
    · rintro ⟨q, q1, q2, q3⟩
      rw [hp q q1, Nat.mul_comm] at q3
      have e := Nat.eq_of_mul_eq_mul_left hK q3
      have hX2 : X < 2 ^ N := by rw [← e]; exact Nat.mod_lt _ (Nat.pow_pos (by decide))
      exact ⟨hX2, (hW X hX2).mpr ⟨q, q1, q2, e⟩⟩
    · rintro ⟨hX2, hB⟩
      obtain ⟨q, q1, q2, q3⟩ := (hW X hX2).mp hB
      exact ⟨q, q1, q2, by rw [hp q q1, q3, Nat.mul_comm]⟩
  have hbig : ∀ X, X < 2 ^ N → wyB nv lit st ch F N X = true → X < m := fun X hX hB => by
    obtain ⟨q, q1, q2, q3⟩ := (hW X hX).mp hB
    have := w2 q q1 q2
    rw [hp q q1, q3, hm, Nat.mul_comm] at this
    exact Nat.lt_of_mul_lt_mul_left this
  rcases Nat.le_total m (2 ^ N) with q | q
  · rw [ct_ext q (fun X x1 x2 => by
      cases hB : wyB nv lit st ch F N X with
      | false => rfl
      | true => exact absurd (hbig X x2 hB) (by omega))]
    refine ls_cnt_congr (fun X hX => ?_)
    rw [Bool.eq_iff_iff, hS X hX]
    exact ⟨fun z => z.2, fun z => ⟨by omega, z⟩⟩
  · rw [ct_ext q (fun X x1 x2 => by
      cases hB : ls_mem g (2 ^ min F 6 * X) with
      | false => rfl
      | true => exact absurd ((hS X x2).mp hB).1 (by omega))]
    refine ls_cnt_congr (fun X hX => ?_)
    rw [Bool.eq_iff_iff, hS X (by omega)]
    exact ⟨fun z => z.2, fun z => ⟨hX, z⟩⟩
