section LW8
variable {n : Nat} {tx : Nat → Nat} {s : rT} {a : Nat}
/-- numbers that an int holds -/
def bnd (s : rT) : Prop := (∀ i, s.1 0 i < 2 ^ 31) ∧ (∀ i, s.1 1 i < 2 ^ 31) ∧ ∀ i, s.1 2 i < 2 ^ 31
theorem up_lt {f : Nat → Nat} (h : ∀ i, f i < 2 ^ 31) {j x : Nat} (hx : x < 2 ^ 31) : ∀ i, updN f j x i < 2 ^ 31 := fun i => by
  rw [updN_at]
  split
  · exact hx
  · exact h i
theorem b_add (h : bnd s) {c v : Nat} (hc : c < 2 ^ 31) (hv : v < 2 ^ 31) : bnd (addP s c v) := ⟨h.1, up_lt h.2.1 hc, up_lt h.2.2 hv⟩
theorem b_ps (h : bnd s) {c : Nat} (hc : c < 2 ^ 31) : bnd (psP s c) := ⟨up_lt h.1 hc, h.2.1, h.2.2⟩
theorem b_top (h : bnd s) : topP s < 2 ^ 31 := h.1 _
theorem b_rl {wk : Nat} : ∀ {m : Nat} {s : rT}, bnd s → bnd (rlP wk m s)
  | 0, _, h => h
  | m + 1, s, h => by
    unfold rlP
    split
    · exact h
    · split
      · exact h
      · exact b_rl (b_add (s := popP s) h (b_top h) (by decide))
theorem b_eo : ∀ {m : Nat} {s : rT}, bnd s → bnd (eoL m s)
  | 0, _, h => h
  | m + 1, s, h => by
    unfold eoL
    split
    · exact h
    · split
      · exact b_eo (b_add (s := popP s) h (b_top h) (by decide))
      · exact h
theorem b_eoP (h : bnd s) : bnd (eoP s) := b_eo (s := stK s 6 0) h
theorem nuL_b (ht : ∀ i, tx i < 256) : ∀ {m j x : Nat}, x + 300 < 10 ^ (9 - m) → m ≤ 4 → (nuL n tx a m j x).2 < 2 ^ 31
  | 0, j, x, h, _ => by
    show x < 2 ^ 31
    have : (10 : Nat) ^ (9 - 0) < 2 ^ 31 := by decide
    omega
  | m + 1, j, x, h, hm => by
    have e : (10 : Nat) ^ (9 - m) = 10 ^ (9 - (m + 1)) * 10 := by rw [show 9 - m = (9 - (m + 1)) + 1 by omega, Nat.pow_succ]
    have hx : x < 2 ^ 31 := by
      have h1 : (10 : Nat) ^ (9 - (m + 1)) ≤ 10 ^ 9 := Nat.pow_le_pow_right (by decide) (by omega)
      have h2 : (10 : Nat) ^ 9 < 2 ^ 31 := by decide
      omega
    unfold nuL
    split
    · split
      · have := ht (a + j)
        exact nuL_b ht (by omega) (by omega)
      · exact hx
    · exact hx
theorem b_op (ht : ∀ i, tx i < 256) (h : bnd s) : bnd (opP n tx a s).1 := by
  unfold opP
  have hta := ht a
  split
  · exact b_eoP (b_add h (by decide) (nuL_b ht (by decide) (by decide)))
  · split
    · exact b_eoP (b_add h (by decide) (by omega))
    · split
      · exact b_ps (s := stK s 5 (s.2 5 + 1)) h (by split <;> omega)
      · exact h
theorem b_jo {c : Nat} (hc : c < 256) (h : bnd s) : bnd (joP s c).1 := by
  unfold joP
  generalize (if sgN c = 3 then 4 else sgN c) = wk
  split
  · exact b_rl (wk := wk) (m := s.2 4) h
  · exact b_ps (s := rlP wk (s.2 4) s) (c := c) (b_rl h) (by omega)
theorem b_si {c : Nat} (hc : c < 256) (h : bnd s) : bnd (siP s c).1 := by
  unfold siP
  split
  · exact b_jo hc h
  · split
    · exact b_eoP (s := stK (popP (rlP 1 (s.2 4) s)) 5 (s.2 5 - 1)) (b_rl (m := s.2 4) (wk := 1) h)
    · split
      · exact b_rl (m := s.2 4) (wk := 1) h
      · split
        · exact b_rl (m := s.2 4) (wk := 1) h
        · exact h
theorem rd_ok (ht : ∀ i, tx i < 256) : ∀ (m a : Nat) (s : rT), n - a < m → a ≤ n → rok s a → lnk s a → s.2 6 < 2 → bnd s → (rdF n tx m a s).1 = none → bnd (rdF n tx m a s).2 ∧ (rdF n tx m a s).2.2 0 ≤ n ∧ 2 * (rdF n tx m a s).2.2 1 ≤ n + 2 := by
  intro m
  induction m with
  | zero => intro a s h1; omega
  | succ m ih =>
    intro a s hm hal hok hln hw2 hb h
    have hop := op_4 (tl := n) (tp := tx) (a := a) (s := s)
    have hsi := si_1 (s := s) (c := tx a)
    by_cases ha : a < n
    · by_cases hw : s.2 6 = 0
      · rw [rd_s ha hw] at h ⊢
        by_cases h1 : (siP s (tx a)).2 < 1
        · rw [if_pos h1] at h; cases h
        · rw [if_neg h1] at h ⊢
          have e1 : (siP s (tx a)).2 = 1 := by omega
          rw [e1] at h ⊢
          exact ih (a + 1) (siP s (tx a)).1 (by omega) (by omega) (rok_si hok hln hw).1 ((rok_si hok hln hw).2 (by omega)) (wt_si hw2) (b_si (ht a) hb) h
      · rw [rd_o ha hw] at h ⊢
        by_cases h1 : (opP n tx a s).2 < 1
        · rw [if_pos h1] at h; cases h
        · rw [if_neg h1] at h ⊢
          have q := rok_opP (tp := tx) hok hln ha (by omega)
          exact ih (a + (opP n tx a s).2) (opP n tx a s).1 (by omega) q.2.2 q.1 q.2.1 (wt_op hw2) (b_op ht hb) h
    · by_cases he : s.2 6 = 0 ∧ s.2 5 = 0
      · rw [rd_e ha he]
        obtain ⟨g1, g2, g3, g4, g5⟩ := rl_ok (Nat.le_refl 1) (s.2 4) s hok
        refine ⟨b_rl (m := s.2 4) (wk := 1) hb, ?_, ?_⟩
        · show (rlP 1 (s.2 4) s).2 0 ≤ n
          have := g1.1
          omega
        · show 2 * ((rlP 1 (s.2 4) s).2 1 + 1) ≤ n + 2
          rw [g4 1 (by decide) (by decide)]
          have := hln.1
          omega
      · rw [rd_f ha he] at h; cases h
/-- what has been read is a law in order -/
theorem rd_lwf {f : Nat → Nat → Nat} {k : Nat → Nat} (hn : n ≤ 120) (ht : ∀ i, tx i < 256) (hb : (∀ i, f 0 i < 2 ^ 31) ∧ (∀ i, f 1 i < 2 ^ 31) ∧ ∀ i, f 2 i < 2 ^ 31) (h : (rdF n tx (n + 1) 0 (f, rs0 k)).1 = none) : bnd (rdF n tx (n + 1) 0 (f, rs0 k)).2 ∧ lwf ((rdF n tx (n + 1) 0 (f, rs0 k)).2.1 1) ((rdF n tx (n + 1) 0 (f, rs0 k)).2.1 2) ((rdF n tx (n + 1) 0 (f, rs0 k)).2.1 3) ((rdF n tx (n + 1) 0 (f, rs0 k)).2.1 4) ((rdF n tx (n + 1) 0 (f, rs0 k)).2.1 5) ((rdF n tx (n + 1) 0 (f, rs0 k)).2.2 1) := by
  obtain ⟨q1, q2, q3⟩ := rd_ok (n := n) ht (n + 1) 0 (f, rs0 k) (by omega) (Nat.zero_le n) ⟨(show 0 + 0 ≤ 0 from Nat.le_refl _), hb.1, rfl, fun i hi => absurd hi (Nat.not_lt_zero i)⟩ ⟨(show 2 * 0 ≤ 0 from Nat.le_refl _), fun q => absurd (show (1 : Nat) = 0 from q) (by decide), (show 0 < 2 from by decide)⟩ (show 1 < 2 from by decide) hb h
  have q4 := (law_eq (n := n) (tx := tx) (nm := fun _ => 0) (f := f) (k := k)).2 h
  refine ⟨q1, q1.2.1, q1.2.2, by omega, fun i hi => ?_⟩
  have := q4.2 i hi
  exact ⟨this.1, this.2.1, by omega⟩
end LW8
