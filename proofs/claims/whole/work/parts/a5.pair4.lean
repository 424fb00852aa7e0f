section PR4
variable {X A X' A' : Nat → Nat → Int32} {L : Nat → Nat → Int64}
theorem inv_m (hi : inv X A L) {P Q : Nat → Int32} (hP : zb 49 P) (hQ : zb 49 Q) : inv X (mA A P Q) L := by
  obtain ⟨h1, h2, h3, h4, h5, h5b, h7, h8, h9, h10, h11, h12⟩ := id hi.1
  exact inv_s hi (fun _ _ => rfl) (cok_i h2 rfl (mA_n _ _ _ (by decide) (by decide)) (mA_n _ _ _ (by decide) (by decide)) (mA_n _ _ _ (by decide) (by decide))) (cok_i h3 rfl (mA_n _ _ _ (by decide) (by decide)) (mA_n _ _ _ (by decide) (by decide)) (mA_n _ _ _ (by decide) (by decide))) (fun _ _ => rfl) (fun c hc => mA_n _ _ _ (by unfold gA1 at hc; omega) (by unfold gA1 at hc; omega)) (by rw [mA_84]; exact hP) (by rw [mA_85]; exact hQ) (iO_c hi.2.2.2.2.2.2.2.1 (mA_n _ _ _ (by decide) (by decide)) (mA_n _ _ _ (by decide) (by decide)))
theorem inv_m0 (hi : inv X A L) : inv X (mA A (A 82) (A 83)) L := by
  obtain ⟨h1, h2, h3, h4, h5, h5b, _⟩ := id hi.1
  exact inv_m hi (by rw [h5]; exact h1.1) (by rw [h5b]; exact h1.2.1)
theorem p_cell (hi : inv X A L) (a b : Int32) : pairI 80 yX10_cell cX10_cell 3 yX11_cell cX11_cell 6 [.int a, .int b] X A L := by
  by_cases h : isc a = nI 0 ∨ isA 10 b = nI 0
  · exact pair_fn (c_cell_no (d := 78) h) (m_cell_no (d := 78) h) hi
  · rcases isc_cases a with q | ⟨j, hj, rfl⟩
    · exact absurd (Or.inl q) h
    · rcases isA_cases (n := 10) (by decide) b with q | ⟨t, ht, rfl⟩
      · exact absurd (Or.inr q) h
      · obtain ⟨h1, h2, h3, h4, h5, h5b, h7, h8, h9, h10, h11, h12⟩ := id hi.1
        have z1 : zb 49 (A 82) := by rw [h5]; exact h1.1
        have z2 : zb 49 (A 83) := by rw [h5b]; exact h1.2.1
        have hw : ow (A 82) := by rw [h5]; exact h9
        rcases (show t = 0 ∨ t = 1 ∨ t = 2 ∨ t = 3 ∨ ∃ u, t = u + 4 ∧ u < 6 by
          by_cases q : t < 4
          · omega
          · exact Or.inr (Or.inr (Or.inr (Or.inr ⟨t - 4, by omega, by omega⟩)))) with rfl | rfl | rfl | rfl | ⟨u, rfl, hu⟩
        · have q := m_cell_0 (d := 78) (X := X) (L := L) z1 z2 h7 h8 hw hj
          rw [show (if heldB (A 82) j = true then A 82 j else (-2)) = if heldB (A 44) j = true then A 44 j else (-2) from by rw [h5]] at q
          exact pair_fn (c_cell_0 (d := 78) h1 hj) q (inv_m0 hi)
        · have q := m_cell_1 (d := 78) (X := X) (L := L) z1 z2 h7 h8 hw hj
          rw [show A 83 j = A 45 j from by rw [h5b]] at q
          exact pair_fn (c_cell_1 (d := 78) h1 hj) q (inv_m0 hi)
        · have q := m_cell_2 (d := 78) (X := X) (L := L) z1 z2 h7 h8 hw hj
          rw [show slB (A 82) j = slB (A 44) j from by rw [h5]] at q
          exact pair_fn (c_cell_2 (d := 78) h1 hj) q (inv_m0 hi)
        · exact pair_fn (c_cell_3 (d := 78) h1 hj) (m_cell_3 (d := 78) z1 z2 h7 h8 hw hj) (inv_m0 hi)
        · have q := m_cell_4 (d := 78) (X := X) (L := L) z1 z2 h7 h8 hw hj hu
          by_cases hd : u < dg j
          · rw [if_pos hd] at q
            exact pair_fn (c_cell_4 (d := 78) h1 hj hd) q (inv_m0 hi)
          · rw [if_neg hd] at q
            exact pair_fn (c_cell_4o (d := 78) h1 hj (by omega) hu) q (inv_m0 hi)
theorem p_count (hi : inv X A L) (a : Int32) : pairI 80 yX10_count cX10_count 2 yX11_count cX11_count 2 [.int a] X A L := by
  rcases isA_cases (n := 7) (by decide) a with q | ⟨t, ht, rfl⟩
  · exact pair_fn (c_count_no (d := 77) q) (m_count_no (d := 77) q) hi
  · obtain ⟨B, cd, vl, st, an, en, n, na, v, td, tm, tx, hr, hm, hk, v6, v7, vi⟩ := inv_rul hi
    obtain ⟨h1, h2, h3, h4, h5, h5b, h7, h8, h9, h10, h11, h12⟩ := id hi.1
    have z1 : zb 49 (A 82) := by rw [h5]; exact h1.1
    have z2 : zb 49 (A 83) := by rw [h5b]; exact h1.2.1
    have hw : ow (A 82) := by rw [h5]; exact h9
    rcases (show t = 0 ∨ t = 1 ∨ t = 2 ∨ t = 3 ∨ t = 4 ∨ t = 5 ∨ t = 6 by omega) with rfl | rfl | rfl | rfl | rfl | rfl | rfl
    · have q := m_count_0 (d := 77) (X := X) (A := A) (L := L)
      rw [hm.2.2.2.2.2.1] at q
      exact pair_fn (c_count_0 (d := 77) hr) q hi
    · have q := m_count_1 (d := 77) (X := X) (L := L) z1 z2 h7 h8 hw
      rw [show cnt (heldB (A 82)) 49 = hN (A 44) from by rw [h5]; rfl] at q
      exact pair_fn (c_count_1 (d := 77) h1) q (inv_m0 hi)
    · have q := m_count_2 (d := 77) (X := X) (L := L) z1 z2 h7 h8 hw
      rw [show cnt (slB (A 82)) 49 = cnt (slB (A 44)) 49 from by rw [h5]] at q
      exact pair_fn (c_count_2 (d := 77) h1) q (inv_m0 hi)
    · obtain ⟨_, _, _, _, ⟨tl, tp, hT⟩, _⟩ := id hi
      have q := m_count_3 (d := 77) (X := X) (A := A) (L := L)
      rw [hT.2.2.2.2.1, ← hT.2.2.1] at q
      exact pair_fn (c_count_3 (d := 77)) q hi
    · obtain ⟨_, _, ⟨dn, kp, pl, bf, af, hD⟩, _⟩ := id hi
      have q := m_count_4 (d := 77) (X := X) (A := A) (L := L)
      rw [hD.2.2.2.2.1] at q
      exact pair_fn (c_count_4 (d := 77) hD.2.2.1) q hi
    · obtain ⟨_, _, _, _, _, ⟨nb, r, kd, hH⟩, _⟩ := id hi
      have q := m_count_5 (d := 77) (X := X) (A := A) (L := L)
      rw [hH.2.2.2.2.2.2.1, ← hH.2.2.2.1] at q
      exact pair_fn (c_count_5 (d := 77)) q hi
    · obtain ⟨_, _, _, _, _, ⟨nb, r, kd, hH⟩, _⟩ := id hi
      have q := m_count_6 (d := 77) (X := X) (A := A) (L := L)
      rw [hH.2.2.2.2.2.2.2.2.1, ← hH.2.2.2.2.2.1] at q
      exact pair_fn (c_count_6 (d := 77)) q hi
end PR4
