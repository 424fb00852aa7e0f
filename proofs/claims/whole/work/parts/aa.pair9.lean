section PR9
variable {X A X' A' : Nat → Nat → Int32} {L : Nat → Nat → Int64}
theorem p_swarm (hi : inv X A L) (e a : Int32) : pairI 80 yX10_swarm cX10_swarm 4 yX11_swarm cX11_swarm 4 [.int e, .int a] X A L := by
  obtain ⟨B, cd, vl, st, an, en, n, na, v, td, tm, tx, hr, hm, hk, v6, v7, vi⟩ := inv_rul hi
  have hn := hm.2.2.2.2.2.1
  have h6 := hm.2.2.2.2.2.2.1
  obtain ⟨h1, h2, h3, h4, h5, h5b, h7, h8, h9, h10, h11, h12⟩ := id hi.1
  by_cases h0 : e < 0
  · exact pair_fn (c_swarm_neg (d := 75) h0) (m_swarm_neg (d := 77) h0) hi
  · obtain ⟨k, hk31, rfl⟩ := nI_nn h0
    cases hs : swB k with
    | false => exact pair_fn (c_swarm_no (d := 75) hk31 hs) (m_swarm_no (d := 77) hk31 hs) hi
    | true =>
      have hz : zb 49 (abS (k / 10) (k % 10) (A 44, A 45) 49).1.1 ∧ zb 49 (abS (k / 10) (k % 10) (A 44, A 45) 49).1.2 := by
        refine ⟨fun c hc => ?_, fun c hc => ?_⟩
        · rw [(abS_at 49 c).1, if_neg (fun q => by omega)]; exact h1.1 c hc
        · rw [(abS_at 49 c).2, if_neg (fun q => by omega)]; exact h1.2.1 c hc
      have hK := inv_K hi (K := 47) (Or.inr rfl) hz.1 hz.2
      have e44 : cA A 47 (abS (k / 10) (k % 10) (A 44, A 45) 49).1.1 (abS (k / 10) (k % 10) (A 44, A 45) 49).1.2 44 = A 44 := cA_n _ _ _ (by decide) (by decide) (by decide)
      have e45 : cA A 47 (abS (k / 10) (k % 10) (A 44, A 45) 49).1.1 (abS (k / 10) (k % 10) (A 44, A 45) 49).1.2 45 = A 45 := cA_n _ _ _ (by decide) (by decide) (by decide)
      obtain ⟨g1, g2, g3, g4, g5, g5b, g7, g8, g9, g10, g11, g12⟩ := id hK.1
      by_cases hm1 : a = -1
      · subst hm1
        have q := m_swarm_all (d := 77) (L := L) (X := cX X 47 (abS (k / 10) (k % 10) (A 44, A 45) 49).1.1) (A := cA A 47 (abS (k / 10) (k % 10) (A 44, A 45) 49).1.1 (abS (k / 10) (k % 10) (A 44, A 45) 49).1.2) (by rw [g5]; exact g1.1) (by rw [g5b]; exact g1.2.1) g7 g8 (by rw [g5]; exact g9) hk31 hs
        rw [g5, g5b, e44, e45] at q
        exact pair_fn (c_swarm_all (d := 75) hr h1 h3 hk31 hs) q (inv_m hK hz.1 hz.2)
      · rcases isA_cases (n := na) (by omega) a with q | ⟨b, hb, rfl⟩
        · exact pair_fn (c_swarm_no2 (d := 75) hr hk31 hs hm1 q) (m_swarm_no2 (d := 77) hn h6 hk31 hs hm1 q) hi
        · have q := m_swarm (d := 77) (L := L) (na := na) (X := cX X 47 (abS (k / 10) (k % 10) (A 44, A 45) 49).1.1) (A := cA A 47 (abS (k / 10) (k % 10) (A 44, A 45) 49).1.1 (abS (k / 10) (k % 10) (A 44, A 45) 49).1.2) (by rw [cX_n _ _ (by decide)]; exact hn) h6 (by rw [g5]; exact g1.1) (by rw [g5b]; exact g1.2.1) g7 g8 (by rw [g5]; exact g9) hk31 hs hb
          rw [g5, g5b, e44, e45] at q
          exact pair_fn (c_swarm (d := 75) hr h1 h3 hk31 hs hb) q (inv_m hK hz.1 hz.2)
end PR9
