/-! the law: both programs' readings -/
section LW
variable {n : Nat} {tx : Nat → Nat} {nm : Nat → Int32} {s s' s'' : rT} {E E' : List Int32} {W W' : List Nat} {o a : Nat}
def stp (n : Nat) (tx : Nat → Nat) (a : Nat) (s : rT) : rT × Nat := if s.2 6 = 0 then siP s (tx a) else opP n tx a s
theorem rdF_u {m : Nat} : rdF n tx (m + 1) a s = if a < n then (if (stp n tx a s).2 < 1 then (some a, (stp n tx a s).1) else rdF n tx m (a + (stp n tx a s).2) (stp n tx a s).1) else if s.2 6 = 0 ∧ s.2 5 = 0 then (none, elP (rlP 1 (s.2 4) s)) else (some n, s) := rfl
theorem rdF_fuel : ∀ {m1 m2 a : Nat} {s : rT}, n - a < m1 → n - a < m2 → rdF n tx m1 a s = rdF n tx m2 a s
  | 0, _, _, _, h, _ => absurd h (Nat.not_lt_zero _)
  | _ + 1, 0, _, _, _, h => absurd h (Nat.not_lt_zero _)
  | m1 + 1, m2 + 1, a, s, h1, h2 => by
    rw [rdF_u, rdF_u]
    by_cases ha : a < n
    · rw [if_pos ha, if_pos ha]
      by_cases hc : (stp n tx a s).2 < 1
      · rw [if_pos hc, if_pos hc]
      · rw [if_neg hc, if_neg hc]
        exact rdF_fuel (by omega) (by omega)
    · rw [if_neg ha, if_neg ha]
/-- the reading from a place on -/
def Rd (n : Nat) (tx : Nat → Nat) (a : Nat) (s : rT) : Option Nat × rT := rdF n tx (n - a + 1) a s
theorem Rd_go (ha : a < n) (h : ¬ (stp n tx a s).2 < 1) : Rd n tx a s = Rd n tx (a + (stp n tx a s).2) (stp n tx a s).1 := by
  unfold Rd
  rw [rdF_u, if_pos ha, if_neg h]
  exact rdF_fuel (by omega) (by omega)
theorem Rd_st (ha : a < n) (h : (stp n tx a s).2 < 1) : (Rd n tx a s).1 = some a := by
  unfold Rd
  rw [rdF_u, if_pos ha, if_pos h]
theorem Rd_end (ha : ¬ a < n) : Rd n tx a s = if s.2 6 = 0 ∧ s.2 5 = 0 then (none, elP (rlP 1 (s.2 4) s)) else (some n, s) := by
  unfold Rd
  rw [rdF_u, if_neg ha]
/-- what waits, the last first -/
def wl (f : Nat → Nat) : Nat → List Nat
  | 0 => []
  | k + 1 => f k :: wl f k
theorem wl_len (f : Nat → Nat) : ∀ k, (wl f k).length = k
  | 0 => rfl
  | k + 1 => by show (wl f k).length + 1 = k + 1; rw [wl_len f k]
theorem wl_cg {f g : Nat → Nat} : ∀ {k : Nat}, (∀ i, i < k → f i = g i) → wl f k = wl g k
  | 0, _ => rfl
  | k + 1, h => by unfold wl; rw [wl_cg (fun i hi => h i (by omega)), h k (by omega)]
theorem evN_cg {cd cd' vl vl' : Nat → Nat} {fr : Nat} : ∀ {k : Nat}, (∀ j, fr ≤ j → j < fr + k → cd j = cd' j ∧ vl j = vl' j) → evN cd vl nm fr k = evN cd' vl' nm fr k
  | 0, _ => rfl
  | k + 1, h => by
    unfold evN
    rw [evN_cg (fun j h1 h2 => h j h1 (by omega)), (h (fr + k) (by omega) (by omega)).1, (h (fr + k) (by omega) (by omega)).2]
def Ab (nm : Nat → Int32) (s : rT) (E : List Int32) (W : List Nat) (o : Nat) : Prop := s.2 3 ≤ s.2 0 ∧ evN (s.1 1) (s.1 2) nm (s.2 3) (s.2 0 - s.2 3) = E ∧ wl (s.1 0) (s.2 4) = W ∧ s.2 5 = o
theorem Ab_len (h : Ab nm s E W o) : s.2 4 = W.length := by rw [← h.2.2.1, wl_len]
/-- what stays -/
def fr (s s' : rT) : Prop := s'.2 1 = s.2 1 ∧ s'.2 2 = s.2 2 ∧ s'.2 3 = s.2 3 ∧ s'.2 7 = s.2 7 ∧ s'.1 3 = s.1 3 ∧ s'.1 4 = s.1 4 ∧ s'.1 5 = s.1 5 ∧ s.2 0 ≤ s'.2 0 ∧ ∀ i, i < s.2 0 → s'.1 1 i = s.1 1 i ∧ s'.1 2 i = s.1 2 i
theorem fr_r (s : rT) : fr s s := ⟨rfl, rfl, rfl, rfl, rfl, rfl, rfl, Nat.le_refl _, fun _ _ => ⟨rfl, rfl⟩⟩
theorem fr_t (h : fr s s') (h2 : fr s' s'') : fr s s'' := by
  obtain ⟨a1, a2, a3, a4, a5, a6, a7, a8, a9⟩ := h
  obtain ⟨b1, b2, b3, b4, b5, b6, b7, b8, b9⟩ := h2
  exact ⟨b1.trans a1, b2.trans a2, b3.trans a3, b4.trans a4, b5.trans a5, b6.trans a6, b7.trans a7, Nat.le_trans a8 b8, fun i hi => ⟨(b9 i (by omega)).1.trans (a9 i hi).1, (b9 i (by omega)).2.trans (a9 i hi).2⟩⟩
theorem updN_at {f : Nat → Nat} {i x j : Nat} : updN f i x j = if j = i then x else f j := rfl
theorem add_Ab (h : Ab nm s E W o) {c v : Nat} : Ab nm (addP s c v) (stepL nm c v E) W o ∧ fr s (addP s c v) ∧ (addP s c v).2 6 = s.2 6 := by
  obtain ⟨h1, h2, h3, h4⟩ := h
  have e1 : (addP s c v).1 1 = updN (s.1 1) (s.2 0) c := rfl
  have e2 : (addP s c v).1 2 = updN (s.1 2) (s.2 0) v := rfl
  have k0 : (addP s c v).2 0 = s.2 0 + 1 := rfl
  have k3 : (addP s c v).2 3 = s.2 3 := rfl
  refine ⟨⟨by rw [k0, k3]; omega, ?_, h3, h4⟩, ⟨rfl, rfl, rfl, rfl, rfl, rfl, rfl, by rw [k0]; omega, fun i hi => ?_⟩, rfl⟩
  · rw [k0, k3, e1, e2, show s.2 0 + 1 - s.2 3 = (s.2 0 - s.2 3) + 1 by omega]
    show stepL nm (updN (s.1 1) (s.2 0) c (s.2 3 + (s.2 0 - s.2 3))) (updN (s.1 2) (s.2 0) v (s.2 3 + (s.2 0 - s.2 3))) (evN (updN (s.1 1) (s.2 0) c) (updN (s.1 2) (s.2 0) v) nm (s.2 3) (s.2 0 - s.2 3)) = stepL nm c v E
    rw [show s.2 3 + (s.2 0 - s.2 3) = s.2 0 by omega, updN_at, if_pos rfl, updN_at, if_pos rfl, ← h2]
    refine congrArg (stepL nm c v) (evN_cg fun j q1 q2 => ?_)
    rw [updN_at, if_neg (by omega), updN_at, if_neg (by omega)]
    exact ⟨rfl, rfl⟩
  · rw [e1, e2, updN_at, if_neg (by omega), updN_at, if_neg (by omega)]
    exact ⟨rfl, rfl⟩
theorem pop_Ab {c : Nat} (h : Ab nm s E (c :: W) o) : Ab nm (popP s) E W o ∧ topP s = c ∧ ¬ s.2 4 = 0 := by
  have hl := Ab_len h
  obtain ⟨h1, h2, h3, h4⟩ := h
  have hl2 : s.2 4 = W.length + 1 := hl
  rw [hl2] at h3
  have q : s.1 0 W.length = c ∧ wl (s.1 0) W.length = W := List.cons.inj h3
  refine ⟨⟨h1, h2, ?_, h4⟩, ?_, by omega⟩
  · show wl (s.1 0) (s.2 4 - 1) = W
    rw [hl2]; exact q.2
  · unfold topP
    rw [hl2]; exact q.1
theorem ps_Ab (h : Ab nm s E W o) {c : Nat} : Ab nm (psP s c) E (c :: W) o ∧ fr s (psP s c) ∧ (psP s c).2 6 = s.2 6 := by
  obtain ⟨h1, h2, h3, h4⟩ := h
  refine ⟨⟨h1, h2, ?_, h4⟩, ⟨rfl, rfl, rfl, rfl, rfl, rfl, rfl, Nat.le_refl _, fun _ _ => ⟨rfl, rfl⟩⟩, rfl⟩
  show wl (updN (s.1 0) (s.2 4) c) (s.2 4 + 1) = c :: W
  show updN (s.1 0) (s.2 4) c (s.2 4) :: wl (updN (s.1 0) (s.2 4) c) (s.2 4) = c :: W
  rw [updN_at, if_pos rfl, ← h3]
  exact congrArg (c :: ·) (wl_cg fun i hi => by rw [updN_at, if_neg (by omega)])
theorem st5_Ab (h : Ab nm s E W o) {x : Nat} : Ab nm (stK s 5 x) E W x ∧ fr s (stK s 5 x) ∧ (stK s 5 x).2 6 = s.2 6 := ⟨⟨h.1, h.2.1, h.2.2.1, rfl⟩, ⟨rfl, rfl, rfl, rfl, rfl, rfl, rfl, Nat.le_refl _, fun _ _ => ⟨rfl, rfl⟩⟩, rfl⟩
theorem st6_Ab (h : Ab nm s E W o) {x : Nat} : Ab nm (stK s 6 x) E W o ∧ fr s (stK s 6 x) ∧ (stK s 6 x).2 6 = x := ⟨⟨h.1, h.2.1, h.2.2.1, h.2.2.2⟩, ⟨rfl, rfl, rfl, rfl, rfl, rfl, rfl, Nat.le_refl _, fun _ _ => ⟨rfl, rfl⟩⟩, rfl⟩
/-- what waits comes out, over lists -/
def relL (nm : Nat → Int32) (wk : Nat) : List Int32 → List Nat → List Int32 × List Nat
  | E, [] => (E, [])
  | E, c :: W => if sgN c < wk then (E, c :: W) else relL nm wk (stepL nm c 0 E) W
def eoLL (nm : Nat → Int32) : List Int32 → List Nat → Nat → List Int32 × List Nat × Nat
  | E, [], o => (E, [], o)
  | E, c :: W, o => if c = 33 ∨ c = 3 then eoLL nm (stepL nm c 0 E) W (o - 1) else (E, c :: W, o)
theorem rl_Ab {wk : Nat} : ∀ {W : List Nat} {m : Nat} {s : rT} {E : List Int32}, Ab nm s E W o → W.length ≤ m → Ab nm (rlP wk m s) (relL nm wk E W).1 (relL nm wk E W).2 o ∧ fr s (rlP wk m s) ∧ (rlP wk m s).2 6 = s.2 6
  | [], m, s, E, h, _ => by
    rw [rlP_0 (Ab_len h)]
    exact ⟨h, fr_r s, rfl⟩
  | c :: W, m, s, E, h, hm => by
    obtain ⟨p1, p2, p3⟩ := pop_Ab h
    obtain ⟨m', rfl⟩ : ∃ m', m = m' + 1 := ⟨m - 1, by have : W.length + 1 ≤ m := hm; omega⟩
    unfold relL
    by_cases q : sgN c < wk
    · rw [rlP_n p3 (by rw [p2]; exact q), if_pos q]
      exact ⟨h, fr_r s, rfl⟩
    · rw [rlP_s p3 (by rw [p2]; exact q), if_neg q, p2]
      obtain ⟨a1, a2, a3⟩ := add_Ab p1 (c := c) (v := 0)
      obtain ⟨r1, r2, r3⟩ := rl_Ab (wk := wk) (m := m') a1 (by have : W.length + 1 ≤ m' + 1 := hm; omega)
      exact ⟨r1, fr_t a2 r2, r3.trans a3⟩
theorem eo_Ab : ∀ {W : List Nat} {m : Nat} {s : rT} {E : List Int32} {o : Nat}, Ab nm s E W o → W.length ≤ m → Ab nm (eoL m s) (eoLL nm E W o).1 (eoLL nm E W o).2.1 (eoLL nm E W o).2.2 ∧ fr s (eoL m s) ∧ (eoL m s).2 6 = s.2 6
  | [], m, s, E, o, h, _ => by
    rw [eoL_0 (Ab_len h)]
    exact ⟨h, fr_r s, rfl⟩
  | c :: W, m, s, E, o, h, hm => by
    obtain ⟨p1, p2, p3⟩ := pop_Ab h
    obtain ⟨m', rfl⟩ : ∃ m', m = m' + 1 := ⟨m - 1, by have : W.length + 1 ≤ m := hm; omega⟩
    unfold eoLL
    by_cases q : c = 33 ∨ c = 3
    · rw [eoL_s p3 (by rw [p2]; exact q), if_pos q, p2]
      obtain ⟨a1, a2, a3⟩ := add_Ab p1 (c := c) (v := 0)
      obtain ⟨b1, b2, b3⟩ := st5_Ab a1 (x := s.2 5 - 1)
      rw [h.2.2.2] at b1 b2 b3 ⊢
      obtain ⟨r1, r2, r3⟩ := eo_Ab (m := m') b1 (by have : W.length + 1 ≤ m' + 1 := hm; omega)
      exact ⟨r1, fr_t a2 (fr_t b2 r2), r3.trans (b3.trans a3)⟩
    · rw [eoL_n p3 (by rw [p2]; exact q), if_neg q]
      exact ⟨h, fr_r s, rfl⟩
theorem eoP_Ab (h : Ab nm s E W o) : Ab nm (eoP s) (eoLL nm E W o).1 (eoLL nm E W o).2.1 (eoLL nm E W o).2.2 ∧ fr s (eoP s) ∧ (eoP s).2 6 = 0 := by
  obtain ⟨a1, a2, a3⟩ := st6_Ab h (x := 0)
  obtain ⟨r1, r2, r3⟩ := eo_Ab (m := s.2 4) a1 (by rw [Ab_len h]; exact Nat.le_refl _)
  exact ⟨r1, fr_t a2 r2, r3.trans a3⟩
end LW
