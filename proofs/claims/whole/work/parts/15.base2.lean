section WB2
variable {p : Program} {l : Launch} {e : Env} {R : Room} {s : State} {m : MethodId} {args : Array Value} {below : List Frame} {meth : Method} {c : Code} {H : Heap} {locs : List Loc} {cells slots : Nat} {Q : State → Prop} {pc : Nat} {ls : Array Slot} {rest st0 : List Value}
variable {dC : Nat → ClassId} {dI : Nat → Nat → Nat} {tysC : List (ClassId × FieldType)} {tI mc ms : Nat} {A : Nat → Prop} {ws wc wr : va_W} {a : Array Value} {H0 : Heap}
theorem wc_vK {S : Type} {post : S → Prop} {wsf : S → va_W} {tyf : S → List (ClassId × FieldType)} (hr : va_Run p l e R s m args below meth c H locs cells slots mc ms (F0 m pc ls st0) rest (va_Qv post (fun u t => wB dC dI (tyf u) (va_A wc H.size) (wsf u) t) (va_A wc H.size) a) (va_A wc H.size)) (hP : va_P (dC, dI) vwCl ws H) (hD : va_D A ws) (hS : va_S A H0 H locs) (hF : ∀ q, va_A wc H.size q → A q) (isC isR : List Nat) (hC : isC.map (fun i => ws[i]?) = wc.map some) (hR : isR.map (fun i => ws[i]?) = wr.map some) (hn : va_nd isR = true) (hdis : ∀ i ∈ isR, i ∉ isC)
    (kk : ∀ (u : S) (H1 : Heap) (locs1 : List Loc), post u → va_P (dC, dI) vwCl (wr ++ wsf u) H1 → va_D A (wr ++ wsf u) → va_S A H0 H1 locs1 → va_K (dC, dI) vwCl (tyf u) s → W p l e R s m args below meth c H1 locs1 (cells + mc) (slots + ms) Q (F0 m (pc + 3) ls rest)) : W p l e R s m args below meth c H locs cells slots Q (F0 m pc ls st0) := by
  refine va_callv hr hS (fun q _ h => hF q h) hF (fun u t H1 locs1 ht hvm hw hB hz hk hS1 => ?_)
  obtain ⟨hP1, hK1, hD1⟩ := hB
  rw [ht] at hP1
  obtain ⟨hP2, hD2⟩ := va_join (wr := wr) (w1 := wsf u) hP hD isC isR hC hR hn hdis hk hF hP1 hD1
  exact kk u H1 locs1 hw hP2 hD2 hS1 (va_K.moved hvm.symm hK1)
end WB2
/-- the words k under the first i assumptions -/
def na_F (f : Nat → Int64) (an : Nat → Nat) (k : Nat) : Nat → Int64
  | 0 => f k
  | i + 1 => na_F f an k i &&& ls_rw (an i) k
theorem na_F_congr {f g : Nat → Int64} {an : Nat → Nat} {k : Nat} (h : f k = g k) (i : Nat) : na_F f an k i = na_F g an k i := by
  induction i with
  | zero => exact h
  | succ i ih => show _ &&& _ = _ &&& _; rw [ih]
def na_P (f : Nat → Int64) (an : Nat → Nat) (ac U : Nat) (b : Int32) : Prop := (b = 0 ∧ ∀ k, k < U → f k = 0) ∨ (∃ i, i < ac ∧ b = nI (i + 1) ∧ (∃ k, k < U ∧ na_F f an k i ≠ 0) ∧ ∀ k, k < U → na_F f an k (i + 1) = 0) ∨ (b = -1 ∧ ∃ k, k < U ∧ na_F f an k ac ≠ 0)
theorem na_P_congr {f g : Nat → Int64} {an : Nat → Nat} {ac U : Nat} {b : Int32} (h : ∀ k, k < U → f k = g k) (hp : na_P f an ac U b) : na_P g an ac U b := by
  rcases hp with ⟨h1, h2⟩ | ⟨i, h1, h2, ⟨k, h3, h4⟩, h5⟩ | ⟨h1, k, h3, h4⟩
  · exact Or.inl ⟨h1, fun k hk => by rw [← h k hk]; exact h2 k hk⟩
  · exact Or.inr (Or.inl ⟨i, h1, h2, ⟨k, h3, by rw [← na_F_congr (h k h3)]; exact h4⟩, fun k hk => by rw [← na_F_congr (h k hk)]; exact h5 k hk⟩)
  · exact Or.inr (Or.inr ⟨h1, k, h3, by rw [← na_F_congr (h k h3)]; exact h4⟩)
theorem lr_L_congr {f g : Nat → Int64} {n q : Nat} (h : ∀ k, k < 2 ^ n → f k = g k) (hp : lr_L f n q) : lr_L g n q := by
  have hm : ∀ r, r < 64 * 2 ^ n → ls_mem g r = ls_mem f r := fun r hr => by
    unfold ls_mem
    rw [h (r / 64) (by omega)]
  obtain ⟨h1, h2, h3⟩ := hp
  exact ⟨h1, by rw [hm q h1]; exact h2, fun v hv hb r hr hrm => h3 v hv hb r hr (by rw [← hm r hr]; exact hrm)⟩
theorem ax_am1 (x : Int64) : x &&& (-1) = x := ls_b_ext fun b hb => by rw [ls_b_and, ls_b_m1 b hb, Bool.and_true]
theorem ax_nm1 {i : Nat} (h : i + 1 < 2 ^ 31) : ¬ nI (i + 1) = -1 := fun q => absurd (nI_pos h) (by rw [q]; decide)
