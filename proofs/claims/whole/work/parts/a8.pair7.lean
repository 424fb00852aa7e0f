section PR7
variable {X A X' A' : Nat → Nat → Int32} {L : Nat → Nat → Int64}
theorem p_mostFalse (hi : inv X A L) (a : Int32) : pairI 80 yX10_mostFalse cX10_mostFalse 4 yX11_mostFalse cX11_mostFalse 8 [.int a] X A L := by
  obtain ⟨B, cd, vl, st, an, en, n, na, v, td, tm, tx, hr, hm, hk, v6, v7, vi⟩ := inv_rul hi
  rcases isA_cases (n := 13) (by decide) a with q | ⟨x, hx, rfl⟩
  · exact pair_fn (c_mostFalse_no (d := 75) q) (m_mostFalse_no (d := 79) q) hi
  · have q := m_mostFalse (d := 79) (X := X) (L := L) hm.1 v6 (show x ≤ 12 by omega)
    rw [mf_eq v6 (by omega)] at q
    exact pair_fn (c_mostFalse (d := 75) hr v6 (by omega)) q hi
theorem p_trace (hi : inv X A L) (a : Int32) : pairI 80 yX10_trace cX10_trace 2 yX11_trace cX11_trace 2 [.int a] X A L := by
  obtain ⟨_, _, _, _, _, ⟨nb, r, kd, hH⟩, _⟩ := id hi
  obtain ⟨t1, t2, t3, t4, t5, t6, t7, t8, t9, t10⟩ := hH
  rcases isA_cases (n := min 24 r) (by omega) a with q | ⟨j, hj, rfl⟩
  · by_cases h0 : a < 0
    · exact pair_fn (c_trace_no (d := 79) t6 t2 q) (m_trace_neg (d := 79) h0) hi
    · obtain ⟨k, hk, rfl⟩ := nI_nn h0
      refine pair_fn (c_trace_no (d := 79) t6 t2 q) (m_trace_ge (d := 79) t9 t2 hk ?_) hi
      by_cases l : k < min 24 r
      · rw [isA_in l (by omega)] at q; exact absurd q (by decide)
      · omega
  · have q := m_trace (d := 79) (L := L) (A := A) t9 t2 (show j < r by omega) (show j < 24 by omega)
    rw [t10] at q
    exact pair_fn (c_trace (d := 79) t6 t2 (by omega) (by omega)) q hi
theorem p_least (hi : inv X A L) (a x y : Int32) : pairI 80 yX10_least cX10_least 10 yX11_least cX11_least 11 [.int a, .int x, .int y] X A L := by
  obtain ⟨B, cd, vl, st, an, en, n, na, v, td, tm, tx, hr, hm, hk, v6, v7, vi⟩ := inv_rul hi
  have hn := hm.2.2.2.2.2.1
  have h6 := hm.2.2.2.2.2.2.1
  obtain ⟨h1, h2, h3, h4, h5, h5b, h7, h8, h9, h10, h11, h12⟩ := id hi.1
  by_cases h : isA na a = nI 0 ∨ x < nI 1 ∨ nI 37 < x ∨ isA 3 y = nI 0
  · exact pair_fn (c_least_no (d := 77) hr h) (m_least_no (d := 77) hn h6 h) hi
  · rcases isA_cases (n := na) (by omega) a with q | ⟨k, hkn, rfl⟩
    · exact absurd (Or.inl q) h
    · obtain ⟨x', hx31, rfl⟩ := nI_nn (c := x) (fun q => h (Or.inr (Or.inl (Int32.lt_of_lt_of_le q (by decide)))))
      have hx1 : 1 ≤ x' := Nat.le_of_not_lt fun q => h (Or.inr (Or.inl ((nI_ltI hx31 (by decide)).mpr q)))
      have hx2 : x' ≤ 37 := Nat.le_of_not_lt fun q => h (Or.inr (Or.inr (Or.inl ((nI_ltI (by decide) hx31).mpr q))))
      have hy : isA 3 y ≠ nI 0 := fun q => h (Or.inr (Or.inr (Or.inr q)))
      have q := m_least (d := 77) (L := L) hn h6 (by rw [h5]; exact h1.1) (by rw [h5b]; exact h1.2.1) h7 h8 (by rw [h5]; exact h9) hkn hx1 hx2 hy
      rw [least_eq (nI_n1 (by omega)) (by rw [h5b]; exact h10), h5, h5b] at q
      refine ⟨_, _, c_least (d := 77) hr hkn hx1 hx2 hy, fun w hw => ?_⟩
      subst hw
      refine ⟨⟨_, _, _, rfl⟩, _, q, fun w' hw' => ?_⟩
      obtain ⟨P, Q, ⟨z1, z2⟩, rfl⟩ := hw'
      exact ⟨_, _, _, rfl, inv_m hi z1 z2⟩
theorem p_outlasts (hi : inv X A L) (a x : Int32) : pairI 80 yX10_outlasts cX10_outlasts 5 yX11_outlasts cX11_outlasts 5 [.int a, .int x] X A L := by
  obtain ⟨B, cd, vl, st, an, en, n, na, v, td, tm, tx, hr, hm, hk, v6, v7, vi⟩ := inv_rul hi
  have hn := hm.2.2.2.2.2.1
  have h6 := hm.2.2.2.2.2.2.1
  obtain ⟨h1, h2, h3, h4, h5, h5b, h7, h8, h9, h10, h11, h12⟩ := id hi.1
  by_cases h : isA na a = nI 0 ∨ x < nI 1 ∨ nI 99 < x
  · exact pair_fn (c_outlasts_no (d := 75) hr h) (m_outlasts_no (d := 76) hn h6 h) hi
  · rcases isA_cases (n := na) (by omega) a with q | ⟨k, hkn, rfl⟩
    · exact absurd (Or.inl q) h
    · obtain ⟨x', hx31, rfl⟩ := nI_nn (c := x) (fun q => h (Or.inr (Or.inl (Int32.lt_of_lt_of_le q (by decide)))))
      have hx1 : 1 ≤ x' := Nat.le_of_not_lt fun q => h (Or.inr (Or.inl ((nI_ltI hx31 (by decide)).mpr q)))
      have hx2 : x' ≤ 99 := Nat.le_of_not_lt fun q => h (Or.inr (Or.inr ((nI_ltI (by decide) hx31).mpr q)))
      refine ⟨_, _, c_outlasts (d := 75) hr h1 h3 hkn hx1 hx2, fun w hw => ?_⟩
      obtain ⟨c, hz, rfl⟩ := hw
      have hK := inv_K hi (K := 47) (Or.inr rfl) hz.1 hz.2
      have e44 : cA A 47 c.1 c.2 44 = A 44 := cA_n _ _ _ (by decide) (by decide) (by decide)
      have e45 : cA A 47 c.1 c.2 45 = A 45 := cA_n _ _ _ (by decide) (by decide) (by decide)
      obtain ⟨g1, g2, g3, g4, g5, g5b, g7, g8, g9, g10, g11, g12⟩ := id hK.1
      have q := m_outlasts (d := 76) (L := L) (na := na) (X := cX X 47 c.1) (A := cA A 47 c.1 c.2) (by rw [cX_n _ _ (by decide)]; exact hn) h6 (by rw [g5]; exact g1.1) (by rw [g5b]; exact g1.2.1) g7 g8 (by rw [g5]; exact g9) hkn hx1 hx2
      rw [om_ol (nI_n1 (by omega)) hx31 (show s6 (cA A 47 c.1 c.2 83) by rw [g5b, e45]; exact h10), g5, g5b, e44, e45] at q
      refine ⟨⟨_, _, _, rfl⟩, _, q, fun w' hw' => ?_⟩
      obtain ⟨c', Z, hz', rfl⟩ := hw'
      refine ⟨_, _, _, rfl, ?_⟩
      unfold eA
      exact inv_88 (inv_m hK hz'.1 hz'.2) (Or.inr (Or.inl rfl))
end PR7
