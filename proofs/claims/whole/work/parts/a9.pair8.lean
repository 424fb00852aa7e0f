section PR8
variable {X A X' A' : Nat → Nat → Int32} {L : Nat → Nat → Int64}
theorem p_heat (hi : inv X A L) (a : Int32) : pairI 80 yX10_heat cX10_heat 3 yX11_heat cX11_heat 3 [.int a] X A L := by
  obtain ⟨B, cd, vl, st, an, en, n, na, v, td, tm, tx, hr, hm, hk, v6, v7, vi⟩ := inv_rul hi
  have hn := hm.2.2.2.2.2.1
  have h6 := hm.2.2.2.2.2.2.1
  obtain ⟨h1, h2, h3, h4, h5, h5b, h7, h8, h9, h10, h11, h12⟩ := id hi.1
  have hz : zb 49 (htC (A 44) (A 45) 49).1 := htC_z h1.1 49 (Nat.le_refl _)
  have hK := inv_K hi (K := 47) (Or.inr rfl) hz h1.2.1
  have e44 : cA A 47 (htC (A 44) (A 45) 49).1 (A 45) 44 = A 44 := cA_n _ _ _ (by decide) (by decide) (by decide)
  have e45 : cA A 47 (htC (A 44) (A 45) 49).1 (A 45) 45 = A 45 := cA_n _ _ _ (by decide) (by decide) (by decide)
  obtain ⟨g1, g2, g3, g4, g5, g5b, g7, g8, g9, g10, g11, g12⟩ := id hK.1
  by_cases hm1 : a = -1
  · subst hm1
    have q := m_heat_all (d := 77) (L := L) (X := cX X 47 (htC (A 44) (A 45) 49).1) (A := cA A 47 (htC (A 44) (A 45) 49).1 (A 45)) (by rw [g5]; exact g1.1) (by rw [g5b]; exact g1.2.1) g7 g8 (by rw [g5]; exact g9)
    rw [g5, g5b, e44, e45, hmC_eq _ _ 49 (Nat.le_refl _)] at q
    refine ⟨_, _, c_heat_all (d := 76) hr h1 h3, fun w hw => ?_⟩
    subst hw
    refine ⟨⟨_, _, _, rfl⟩, _, q, fun w' hw' => ?_⟩
    obtain ⟨Z, rfl⟩ := hw'
    refine ⟨_, _, _, rfl, ?_⟩
    unfold eA
    exact inv_88 (inv_m hK hz h1.2.1) (Or.inr (Or.inl rfl))
  · rcases isA_cases (n := na) (by omega) a with q | ⟨k, hkn, rfl⟩
    · exact pair_fn (c_heat_no (d := 76) hr hm1 q) (m_heat_no (d := 77) hn h6 hm1 q) hi
    · have q := m_heat (d := 77) (L := L) (na := na) (X := cX X 47 (htC (A 44) (A 45) 49).1) (A := cA A 47 (htC (A 44) (A 45) 49).1 (A 45)) (by rw [cX_n _ _ (by decide)]; exact hn) h6 (by rw [g5]; exact g1.1) (by rw [g5b]; exact g1.2.1) g7 g8 (by rw [g5]; exact g9) hkn
      rw [g5, g5b, e44, e45, hmC_eq _ _ 49 (Nat.le_refl _)] at q
      refine ⟨_, _, c_heat (d := 76) hr h1 h3 hkn, fun w hw => ?_⟩
      subst hw
      refine ⟨⟨_, _, _, rfl⟩, _, q, fun w' hw' => ?_⟩
      obtain ⟨Z, rfl⟩ := hw'
      refine ⟨_, _, _, rfl, ?_⟩
      unfold eA
      exact inv_88 (inv_m hK hz h1.2.1) (Or.inr (Or.inl rfl))
end PR8
