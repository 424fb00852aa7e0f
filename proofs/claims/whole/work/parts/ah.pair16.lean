section PR16
variable {X A X' A' : Nat → Nat → Int32} {L : Nat → Nat → Int64}
/-- one call of both whose answers are longs -/
def pairL (D : Nat) (m1 : MethodName) (c1 : ByteArray) (n1 : Nat) (m2 : MethodName) (c2 : ByteArray) (n2 : Nat) (As : List Value) (X A : Nat → Nat → Int32) (L : Nat → Nat → Int64) : Prop :=
  ∃ (z : Int64) (Mid : jW → Prop), jMet D m1 c1 n1 (some .long) 0 0 (.ref 4 :: As) (tw X A L) (fun r w => r = some (.long z) ∧ Mid w) ∧ ∀ w, Mid w → (∃ X' A' L', w = tw X' A' L') ∧ ∃ Fin : jW → Prop, jMet D m2 c2 n2 (some .long) 0 0 (.ref 76 :: As) w (fun r w' => r = some (.long z) ∧ Fin w') ∧ ∀ w', Fin w' → ∃ X' A' L', w' = tw X' A' L' ∧ inv X' A' L'
theorem pairL_fn {D : Nat} {m1 : MethodName} {c1 : ByteArray} {n1 : Nat} {m2 : MethodName} {c2 : ByteArray} {n2 : Nat} {As : List Value} {z : Int64} {X1 A1 X2 A2 : Nat → Nat → Int32} {L1 L2 : Nat → Nat → Int64} (h1 : jMet D m1 c1 n1 (some .long) 0 0 (.ref 4 :: As) (tw X A L) (jRl z (tw X1 A1 L1))) (h2 : jMet D m2 c2 n2 (some .long) 0 0 (.ref 76 :: As) (tw X1 A1 L1) (jRl z (tw X2 A2 L2))) (hi : inv X2 A2 L2) : pairL D m1 c1 n1 m2 c2 n2 As X A L :=
  ⟨z, (fun w => w = tw X1 A1 L1), h1, fun w hw => by subst hw; exact ⟨⟨_, _, _, rfl⟩, (fun w' => w' = tw X2 A2 L2), h2, fun w' hw' => ⟨X2, A2, L2, hw', hi⟩⟩⟩
theorem is01_ne {p : Int32} (h : ¬ is01 p = nI 0) : is01 p = nI 1 := by
  unfold is01 at h ⊢
  by_cases e : p = 0
  · rw [if_pos e]
  · rw [if_neg e] at h ⊢
    by_cases e1 : p = nI 1
    · rw [if_pos e1]
    · rw [if_neg e1] at h
      exact absurd rfl h
theorem is16_cases (c : Int32) : is16 c = nI 0 ∨ ∃ x, 1 ≤ x ∧ x ≤ 6 ∧ c = nI x := by
  by_cases h1 : c < nI 1
  · left; unfold is16; rw [if_pos h1]
  · by_cases h2 : nI 6 < c
    · left; unfold is16; rw [if_neg h1, if_pos h2]
    · right
      obtain ⟨x, hx31, rfl⟩ := nI_nn (c := c) (fun q => h1 (Int32.lt_of_lt_of_le q (by decide)))
      exact ⟨x, Nat.le_of_not_lt fun q => h1 ((nI_ltI hx31 (by decide)).mpr q), Nat.le_of_not_lt fun q => h2 ((nI_ltI (by decide) hx31).mpr q), rfl⟩
theorem p_right (hi : inv X A L) (s p : Int32) : pairL 80 yX10_right cX10_right 3 yX11_right cX11_right 3 [.int s, .int p] X A L := by
  obtain ⟨B, cd, vl, st, an, en, n, na, v, td, tm, tx, hr, hm, hk, v6, v7, vi⟩ := inv_rul hi
  by_cases h : is16 s = nI 0 ∨ is01 p = nI 0
  · exact pairL_fn (c_right_no (d := 75) h) (m_right_no (d := 78) h) hi
  · rcases is16_cases s with q | ⟨x, hx1, hx6, rfl⟩
    · exact absurd (Or.inl q) h
    · have hp := is01_ne (fun q => h (Or.inr q))
      have hw := hw_nat (fl := v 7) (h := x) (s := x) (by omega) (by omega) (by omega)
      have q := m_right (d := 78) (X := X) (L := L) hm.1 (show v 7 < 7 by omega) hx1 hx6 hp (fun _ => by
        rw [hw.1]
        exact gcO_ok (a := hwN (v 7) x x) (b := 1728) (by omega) (by decide) (by decide))
      rw [hw.1, show (1728 : Int64) = lI 1728 from rfl, ← fr_eq (by omega) (by decide) (by decide) hp, ← hw.1] at q
      exact pairL_fn (c_right (d := 75) hr v7 hx1 hx6 hp) q hi
theorem hwS_su {fl h : Nat} : ∀ n, hwS fl h n = suW (hwJ fl h) n
  | 0 => rfl
  | n + 1 => by
    show hwS fl h n + hwJ fl h (n + 1) = suW (hwJ fl h) n + hwJ fl h (n + 1)
    rw [hwS_su n]
theorem su_ge {v : Nat → Nat} {s : Nat} (hs1 : 1 ≤ s) : ∀ n, s ≤ n → v s ≤ suN v n := by
  intro n
  induction n with
  | zero => intro h; omega
  | succ n ih =>
    intro hsn
    show v s ≤ suN v n + v (n + 1)
    by_cases e : s = n + 1
    · subst e; omega
    · have := ih (by omega); omega
theorem p_dance (hi : inv X A L) (h s p : Int32) : pairL 80 yX10_dance cX10_dance 7 yX11_dance cX11_dance 7 [.int h, .int s, .int p] X A L := by
  obtain ⟨B, cd, vl, st, an, en, n, na, v, td, tm, tx, hr, hm, hk, v6, v7, vi⟩ := inv_rul hi
  by_cases hn : isA 8 h = nI 0 ∨ is16 s = nI 0 ∨ is01 p = nI 0
  · exact pairL_fn (c_dance_no (d := 75) hn) (m_dance_no (d := 78) hn) hi
  · rcases isA_cases (n := 8) (by decide) h with q | ⟨k, hk8, rfl⟩
    · exact absurd (Or.inl q) hn
    · rcases is16_cases s with q | ⟨x, hx1, hx6, rfl⟩
      · exact absurd (Or.inr (Or.inl q)) hn
      · have hp := is01_ne (fun q => hn (Or.inr (Or.inr q)))
        have hg : wgt (hwJ (v 7) k) (hwN (v 7) k) := fun s h1 h2 => by
          have q := hw_nat (fl := v 7) (h := k) (s := s) (by omega) hk8 (by omega)
          exact ⟨q.1, by omega⟩
        have q2 := su_nat hg 6 (Nat.le_refl _)
        have q1 := hg x hx1 hx6
        have q3 := su_ge (v := hwN (v 7) k) hx1 6 hx6
        have e6 : hwS (v 7) k 6 = lI (suN (hwN (v 7) k) 6) := by rw [hwS_su, q2.1]
        have q := m_dance (d := 78) (X := X) (L := L) hm.1 (show v 7 < 7 by omega) hk8 hx1 hx6 hp (fun h0 => by
          rw [e6]
          rw [q1.1] at h0 ⊢
          exact gcO_ok (by omega) (by omega) (by
            have : hwN (v 7) k x ≠ 0 := fun q => h0 (by rw [q]; rfl)
            omega))
        have e : (if hwS (v 7) k 6 = 0 then (-2 : Int64) else frM (hwJ (v 7) k x) (hwS (v 7) k 6) p) = if hwS (v 7) k 6 = 0 then (-2) else frJ (hwJ (v 7) k x) (hwS (v 7) k 6) p := by
          by_cases h0 : hwS (v 7) k 6 = 0
          · rw [if_pos h0, if_pos h0]
          · rw [if_neg h0, if_neg h0]
            rw [e6] at h0 ⊢
            rw [q1.1]
            exact (fr_eq (by omega) (by omega) (Nat.pos_of_ne_zero fun q => h0 (by rw [q]; rfl)) hp).symm
        rw [e] at q
        exact pairL_fn (c_dance (d := 75) hr v7 hk8 hx1 hx6 hp) q hi
theorem p_pass (hi : inv X A L) (c q p : Int32) : pairL 80 yX10_pass cX10_pass 5 yX11_pass cX11_pass 10 [.int c, .int q, .int p] X A L := by
  obtain ⟨B, cd, vl, st, an, en, n, na, v, td, tm, tx, hr, hm, hk, v6, v7, vi⟩ := inv_rul hi
  by_cases hn : isA 9 c = nI 0 ∨ isA 2 q = nI 0 ∨ is01 p = nI 0
  · exact pairL_fn (c_pass_no (d := 75) hn) (m_pass_no (d := 78) hn) hi
  · rcases isA_cases (n := 9) (by decide) c with e | ⟨m, hm9, rfl⟩
    · exact absurd (Or.inl e) hn
    · have hm8 : m ≤ 8 := by omega
      rcases isA_cases (n := 2) (by decide) q with e | ⟨t, ht, rfl⟩
      · exact absurd (Or.inr (Or.inl e)) hn
      · have hp := is01_ne (fun q => hn (Or.inr (Or.inr q)))
        rcases (show t = 0 ∨ t = 1 by omega) with rfl | rfl
        · have b1 := pw_nat (b := 12 - v 6) (m := m) (by omega) hm8
          have b2 := pw_nat (b := 12) (m := m) (by omega) hm8
          have c1 := pow_lt12 (b := 12 - v 6) (m := m) (by omega) hm8
          have c2 := pow_lt12 (b := 12) (m := m) (by omega) hm8
          have c3 : 0 < 12 ^ m := Nat.pow_pos (by decide)
          have q := m_pass_0 (d := 78) (X := X) (L := L) hm.1 v6 hm8 hp (fun _ => by
            rw [pw12_eq hm8, b1, b2]
            exact gcO_ok c1 c2 c3)
          rw [pw12_eq hm8, b1, b2, ← fr_eq c1 c2 c3 hp, ← b1, ← b2] at q
          exact pairL_fn (c_pass_0 (d := 75) hr v6 hm8 hp) q hi
        · have hle : m * (12 - v 6) ≤ 8 * 12 := Nat.mul_le_mul hm8 (by omega)
          have b1 := lI_i (n := m * (12 - v 6)) (by omega)
          have q := m_pass_1 (d := 78) (X := X) (L := L) hm.1 v6 hm8 hp (fun _ => by
            rw [b1]
            exact gcO_ok (b := 12) (by omega) (by decide) (by decide))
          rw [b1, show (12 : Int64) = lI 12 from rfl, ← fr_eq (by omega) (by decide) (by decide) hp, ← b1] at q
          exact pairL_fn (c_pass_1 (d := 75) hr v6 hm8 hp) q hi
end PR16
