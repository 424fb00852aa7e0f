/-- the dances of a byte row -/
theorem lcmp_le {a b : Nat} (ha : a < 2 ^ 63) (hb : b < 2 ^ 63) : lg_cmp (lI a) (lI b) ≤ 0 ↔ a ≤ b := by
  unfold lg_cmp
  by_cases h : lI a > lI b
  · have h' := (lI_lt hb ha).mp h
    simp only [h, if_true]
    exact ⟨fun q => absurd q (by decide), fun q => by omega⟩
  · have h' : ¬ b < a := fun q => h ((lI_lt hb ha).mpr q)
    constructor
    · intro _; omega
    · intro _
      simp only [h, if_false]
      split <;> decide
theorem rw_nat {fl ln : Nat} {E : Nat → Int32} {s : Nat} (hf : fl < 7) (hs : s < 8) : ∀ {m i a : Nat}, ∃ n, rwF fl ln E s m i (lI a) = lI n ∧ n ≤ a * 1728 ^ m
  | 0, _, a => ⟨a, rfl, by rw [Nat.pow_zero, Nat.mul_one]; exact Nat.le_refl _⟩
  | m + 1, i, a => by
    have hp : 0 < 1728 ^ m := Nat.pow_pos (by decide)
    have hle : a ≤ a * 1728 ^ (m + 1) := Nat.le_mul_of_pos_right _ (Nat.pow_pos (by decide))
    show ∃ n, (if i < ln then (if isA 8 (E i) = nI 0 then lI a else rwF fl ln E s m (i + 1) (lI a * hwJ fl (E i).toNatClampNeg s)) else lI a) = lI n ∧ n ≤ a * 1728 ^ (m + 1)
    by_cases h1 : i < ln
    · rw [if_pos h1]
      by_cases h2 : isA 8 (E i) = nI 0
      · rw [if_pos h2]; exact ⟨a, rfl, hle⟩
      · rw [if_neg h2]
        have hh : (E i).toNatClampNeg < 8 := by
          rcases isA_cases (n := 8) (by decide) (E i) with q | ⟨j, hj, e⟩
          · exact absurd q h2
          · rw [e, nI_clamp (by omega)]; exact hj
        have hw := hw_nat hf hh hs
        rw [hw.1, lI_mul]
        obtain ⟨n, e, hn⟩ := rw_nat (fl := fl) (ln := ln) (E := E) hf hs (m := m) (i := i + 1) (a := a * hwN fl (E i).toNatClampNeg s)
        refine ⟨n, e, Nat.le_trans hn ?_⟩
        rw [Nat.pow_succ, Nat.mul_assoc]
        refine Nat.mul_le_mul_left a ?_
        rw [Nat.mul_comm (1728 ^ m)]
        exact Nat.mul_le_mul_right _ hw.2
    · rw [if_neg h1]; exact ⟨a, rfl, hle⟩
/-- weights that are naturals, not too great -/
def wgt (W : Nat → Int64) (v : Nat → Nat) : Prop := ∀ s, 1 ≤ s → s ≤ 6 → W s = lI (v s) ∧ v s < 2 ^ 45
theorem wgt_rw {fl ln : Nat} {E : Nat → Int32} (hf : fl < 7) : ∃ v, wgt (fun s => rwF fl ln E s 4 0 1) v := by
  refine ⟨fun s => if h : s < 8 then Classical.choose (rw_nat (fl := fl) (ln := ln) (E := E) (s := s) hf h (m := 4) (i := 0) (a := 1)) else 0, fun s h1 h2 => ?_⟩
  have h8 : s < 8 := by omega
  have q := Classical.choose_spec (rw_nat (fl := fl) (ln := ln) (E := E) (s := s) hf h8 (m := 4) (i := 0) (a := 1))
  simp only [h8, dite_true]
  refine ⟨q.1, Nat.lt_of_le_of_lt q.2 (by decide)⟩
def suN (v : Nat → Nat) : Nat → Nat
  | 0 => 0
  | s + 1 => suN v s + v (s + 1)
theorem su_nat {W : Nat → Int64} {v : Nat → Nat} (h : wgt W v) : ∀ s, s ≤ 6 → suW W s = lI (suN v s) ∧ suN v s ≤ s * 2 ^ 45
  | 0, _ => ⟨rfl, Nat.zero_le _⟩
  | s + 1, hs => by
    have ih := su_nat h s (by omega)
    have q := h (s + 1) (by omega) hs
    show suW W s + W (s + 1) = lI (suN v s + v (s + 1)) ∧ suN v s + v (s + 1) ≤ (s + 1) * 2 ^ 45
    rw [ih.1, q.1, lI_add]
    refine ⟨rfl, ?_⟩
    have e : (s + 1) * 2 ^ 45 = s * 2 ^ 45 + 2 ^ 45 := Nat.succ_mul s _
    omega
theorem dw_su {W : Nat → Int64} : ∀ s, (dwS W s).1 = suW W s
  | 0 => rfl
  | s + 1 => by
    have ih := dw_su (W := W) s
    show (if lg_cmp (W (s + 1)) (dwS W s).2.2 ≤ 0 then _ else _ : Int64 × Int32 × Int64).1 = suW W s + W (s + 1)
    rw [← ih]
    split <;> rfl
theorem dw_bs {W : Nat → Int64} {v : Nat → Nat} (h : wgt W v) : ∀ s, 1 ≤ s → s ≤ 6 → (bsM W s = 1 ∧ suN v s = 0 ∧ v 1 = 0 ∧ (dwS W s).2 = (-2, 0)) ∨ (1 ≤ bsM W s ∧ bsM W s ≤ 6 ∧ 0 < v (bsM W s) ∧ 0 < suN v s ∧ (dwS W s).2 = (nI (bsM W s), W (bsM W s)))
  | 0, h1, _ => by omega
  | 1, _, _ => by
    have q := h 1 (by omega) (by omega)
    have e1 : bsM W 1 = 1 := by
      show (if lg_cmp (W (0 + 1)) (W (bsM W 0)) ≤ 0 then bsM W 0 else 0 + 1) = 1
      split <;> rfl
    have e2 : suN v 1 = v 1 := by show 0 + v 1 = v 1; omega
    have e3 : (dwS W 1).2 = if lg_cmp (W 1) 0 ≤ 0 then (-2, 0) else (nI 1, W 1) := by
      show (if lg_cmp (W (0 + 1)) 0 ≤ 0 then _ else _ : Int64 × Int32 × Int64).2 = _
      split <;> rfl
    rw [e1, e2, e3, q.1]
    by_cases hz : v 1 = 0
    · have e0 : lg_cmp (lI (v 1)) 0 ≤ 0 := (lcmp_le (a := v 1) (b := 0) (by omega) (by decide)).mpr (by omega)
      rw [if_pos e0]
      exact Or.inl ⟨rfl, hz, hz, rfl⟩
    · have e0 : ¬ lg_cmp (lI (v 1)) 0 ≤ 0 := fun w => by have := (lcmp_le (a := v 1) (b := 0) (by omega) (by decide)).mp w; omega
      rw [if_neg e0]
      exact Or.inr ⟨by omega, by omega, by omega, by omega, rfl⟩
  | s + 2, _, hs => by
    have q := h (s + 2) (by omega) hs
    have eb : bsM W (s + 2) = if lg_cmp (W (s + 2)) (W (bsM W (s + 1))) ≤ 0 then bsM W (s + 1) else s + 2 := rfl
    have ed : (dwS W (s + 2)).2 = if lg_cmp (W (s + 2)) (dwS W (s + 1)).2.2 ≤ 0 then (dwS W (s + 1)).2 else (nI (s + 2), W (s + 2)) := by
      show (if lg_cmp (W (s + 1 + 1)) (dwS W (s + 1)).2.2 ≤ 0 then _ else _ : Int64 × Int32 × Int64).2 = _
      split <;> rfl
    have es : suN v (s + 2) = suN v (s + 1) + v (s + 2) := rfl
    rw [eb, ed, es]
    rcases dw_bs h (s + 1) (by omega) (by omega) with ⟨h1, h2, h3, h4⟩ | ⟨h1, h2, h3, h4, h5⟩
    · have q1 := h 1 (by omega) (by omega)
      rw [h1, h4, q1.1, h3]
      by_cases hz : v (s + 2) = 0
      · have e0 : lg_cmp (W (s + 2)) 0 ≤ 0 := by rw [q.1]; exact (lcmp_le (a := v (s + 2)) (b := 0) (by omega) (by decide)).mpr (by omega)
        refine Or.inl ⟨if_pos e0, by omega, rfl, if_pos e0⟩
      · have e0 : ¬ lg_cmp (W (s + 2)) 0 ≤ 0 := fun w => by rw [q.1] at w; have := (lcmp_le (a := v (s + 2)) (b := 0) (by omega) (by decide)).mp w; omega
        have eif : (if lg_cmp (W (s + 2)) (lI 0) ≤ 0 then 1 else s + 2) = s + 2 := if_neg e0
        refine Or.inr ?_
        rw [eif]
        exact ⟨by omega, hs, by omega, by omega, if_neg e0⟩
    · have q1 := h (bsM W (s + 1)) h1 h2
      rw [h5]
      by_cases e0 : lg_cmp (W (s + 2)) (W (bsM W (s + 1))) ≤ 0
      · refine Or.inr ?_
        rw [if_pos e0, if_pos e0]
        exact ⟨h1, h2, h3, by omega, rfl⟩
      · have hlt : v (bsM W (s + 1)) < v (s + 2) := by
          rw [q.1, q1.1] at e0
          by_cases l : v (s + 2) ≤ v (bsM W (s + 1))
          · exact absurd ((lcmp_le (by omega) (by omega)).mpr l) e0
          · omega
        refine Or.inr ?_
        rw [if_neg e0, if_neg e0]
        exact ⟨by omega, hs, by omega, by omega, rfl⟩
theorem dances_2 {fl ln : Nat} {E : Nat → Int32} (hf : fl < 7) : (if (suW (fun s => rwF fl ln E s 4 0 1) 6) = 0 then (-2 : Int64) else (nI (bsM (fun s => rwF fl ln E s 4 0 1) 6)).toInt64) = if (dwS (fun s => rwF fl ln E s 4 0 1) 6).1 = 0 then (-2) else (dwS (fun s => rwF fl ln E s 4 0 1) 6).2.1.toInt64 := by
  obtain ⟨v, hv⟩ := wgt_rw (ln := ln) (E := E) hf
  rw [dw_su]
  by_cases h0 : suW (fun s => rwF fl ln E s 4 0 1) 6 = 0
  · rw [if_pos h0, if_pos h0]
  · rw [if_neg h0, if_neg h0]
    rcases dw_bs hv 6 (by omega) (by omega) with ⟨_, h2, _, _⟩ | ⟨_, _, _, _, h5⟩
    · exact absurd (by rw [(su_nat hv 6 (by omega)).1, h2]; rfl) h0
    · rw [h5]
theorem dances_p {fl ln : Nat} {E : Nat → Int32} (hf : fl < 7) {s : Nat} (hs1 : 1 ≤ s) (hs6 : s ≤ 6) {p : Int32} (hp : is01 p = nI 1) : (if (suW (fun s => rwF fl ln E s 4 0 1) 6) = 0 then (-2 : Int64) else frM ((fun s => rwF fl ln E s 4 0 1) s) (suW (fun s => rwF fl ln E s 4 0 1) 6) p) = if (dwS (fun s => rwF fl ln E s 4 0 1) 6).1 = 0 then (-2) else frJ ((fun s => rwF fl ln E s 4 0 1) s) (dwS (fun s => rwF fl ln E s 4 0 1) 6).1 p := by
  obtain ⟨v, hv⟩ := wgt_rw (ln := ln) (E := E) hf
  rw [dw_su]
  by_cases h0 : suW (fun s => rwF fl ln E s 4 0 1) 6 = 0
  · rw [if_pos h0, if_pos h0]
  · rw [if_neg h0, if_neg h0]
    have q1 := hv s hs1 hs6
    have q2 := su_nat hv 6 (by omega)
    rw [q2.1] at h0 ⊢
    rw [q1.1]
    exact (fr_eq (by omega) (by omega) (Nat.pos_of_ne_zero fun q => h0 (by rw [q]; rfl)) hp).symm
theorem dances_g {fl ln : Nat} {E : Nat → Int32} (hf : fl < 7) {s : Nat} (hs1 : 1 ≤ s) (hs6 : s ≤ 6) : (fun s => rwF fl ln E s 4 0 1) s ≠ 0 → ∃ g, gcO 200 (suW (fun s => rwF fl ln E s 4 0 1) 6) ((fun s => rwF fl ln E s 4 0 1) s) = some g ∧ g ≠ 0 := by
  obtain ⟨v, hv⟩ := wgt_rw (ln := ln) (E := E) hf
  intro h0
  have q1 := hv s hs1 hs6
  have q2 := su_nat hv 6 (by omega)
  rw [q2.1, q1.1]
  rw [q1.1] at h0
  have hpos : ∀ n, n ≤ 6 → s ≤ n → v s ≤ suN v n := by
    intro n
    induction n with
    | zero => intro _ h; omega
    | succ n ih =>
      intro hn hsn
      show v s ≤ suN v n + v (n + 1)
      by_cases e : s = n + 1
      · subst e; omega
      · have := ih (by omega) (by omega); omega
  have := hpos 6 (by omega) hs6
  exact gcO_ok (by omega) (by omega) (by
    have : v s ≠ 0 := fun q => h0 (by rw [q]; rfl)
    omega)
