section PR3
variable {X A X' A' : Nat → Nat → Int32} {L : Nat → Nat → Int64}
theorem p_winter (hi : inv X A L) (a b : Int32) : pairI 80 yX10_winter cX10_winter 3 yX11_winter cX11_winter 3 [.int a, .int b] X A L := by
  obtain ⟨B, cd, vl, st, an, en, n, na, v, td, tm, tx, hr, hm, hk, v6, v7, vi⟩ := inv_rul hi
  have hn := hm.2.2.2.2.2.1
  have h6 := hm.2.2.2.2.2.2.1
  by_cases h : isA 50 a = nI 0 ∨ isA na b = nI 0
  · exact pair_fn (c_winter_no (d := 75) hr h) (m_winter_no (d := 76) hn h6 h) hi
  · rcases isA_cases (n := 50) (by decide) a with q | ⟨m, hm50, rfl⟩
    · exact absurd (Or.inl q) h
    · rcases isA_cases (n := na) (by omega) b with q | ⟨k, hkn, rfl⟩
      · exact absurd (Or.inr q) h
      · obtain ⟨h1, h2, h3, h4, h5, h5b, h7, h8, h9, h10, h11, h12⟩ := id hi.1
        have hz := winS_z (c := (A 44, A 45)) h1.1 h1.2.1 (min m (hN (A 44)))
        generalize hW : winS (min m (hN (A 44))) (A 44, A 45) = W at *
        have e82 : cA A 47 W.1 W.2 82 = A 44 := by rw [cA_n _ _ _ (by decide) (by decide) (by decide)]; exact h5
        have e83 : cA A 47 W.1 W.2 83 = A 45 := by rw [cA_n _ _ _ (by decide) (by decide) (by decide)]; exact h5b
        have q := m_winter (d := 76) (X := cX X 47 W.1) (A := cA A 47 W.1 W.2) (L := L) (na := na) (by rw [cX_n _ _ (by decide)]; exact hn) h6 (by rw [e82]; exact h1.1) (by rw [e83]; exact h1.2.1) (by rw [cA_n _ _ _ (by decide) (by decide) (by decide)]; exact h7) (by rw [cA_n _ _ _ (by decide) (by decide) (by decide)]; exact h8) (by rw [e82]; exact h9) hm50 hkn
        rw [e82, e83] at q
        simp only [hW] at q
        have c := c_winter (d := 75) (L := L) hr h1 h3 hm50 hkn
        rw [hW] at c
        refine ⟨_, _, c, fun w hw => ?_⟩
        subst hw
        refine ⟨⟨_, _, _, rfl⟩, _, q, fun w' hw' => ?_⟩
        obtain ⟨Z, rfl⟩ := hw'
        refine ⟨_, _, _, rfl, inv_s hi (fun c hc => cX_n _ _ (by unfold gX1 at hc; omega)) ?_ ?_ (fun q hq => by rw [cX_n _ _ (by decide)]) (fun c hc => by unfold gA1 at hc; rw [eA_n _ _ _ _ (by omega) (by omega) (by omega), cA_n _ _ _ (by omega) (by omega) (by omega)]) (by rw [eA_84]; exact hz.1) (by rw [eA_85]; exact hz.2) ?_⟩
        · exact cok_i h2 (cX_n _ _ (by decide)) (by rw [eA_n _ _ _ _ (by decide) (by decide) (by decide), cA_n _ _ _ (by decide) (by decide) (by decide)]) (by rw [eA_n _ _ _ _ (by decide) (by decide) (by decide), cA_n _ _ _ (by decide) (by decide) (by decide)]) (by rw [eA_n _ _ _ _ (by decide) (by decide) (by decide), cA_n _ _ _ (by decide) (by decide) (by decide)])
        · exact cok_i (cok_c (X := X) (A := A) (K := 47) hz.1 hz.2) rfl (eA_n _ _ _ _ (by decide) (by decide) (by decide)) (eA_n _ _ _ _ (by decide) (by decide) (by decide)) (eA_n _ _ _ _ (by decide) (by decide) (by decide))
        · exact iO_c hi.2.2.2.2.2.2.2.1 (by rw [eA_n _ _ _ _ (by decide) (by decide) (by decide), cA_n _ _ _ (by decide) (by decide) (by decide)]) (by rw [eA_n _ _ _ _ (by decide) (by decide) (by decide), cA_n _ _ _ (by decide) (by decide) (by decide)])
end PR3
