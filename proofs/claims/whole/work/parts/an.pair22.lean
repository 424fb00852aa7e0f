section PR22
variable {X A X' A' : Nat → Nat → Int32} {L : Nat → Nat → Int64}
theorem jMet_z {D : Nat} {m : MethodName} {c : ByteArray} {n : Nat} {As : List Value} {w : jW} {z z' : Int32} {P : jW → Prop} (e : z' = z) (h : jMet D m c n (some .int) 0 0 As w (fun r w' => r = some (.int z') ∧ P w')) : jMet D m c n (some .int) 0 0 As w (fun r w' => r = some (.int z) ∧ P w') := e ▸ h
theorem inv_orX (hi : inv X A L) {y : Nat → Int32} {b : Int32} : inv (orX X y b) A L := by
  obtain ⟨h1, h2, h3, h4, h5, h5b, h7, h8, h9, h10, h11, h12⟩ := id hi.1
  have e : ∀ c, c ≠ 76 → orX X y b c = X c := fun c hc => by unfold orX; rw [up_ne hc, zX_o hc]
  exact inv_s hi (fun c hc => e c (by unfold gX1 at hc; omega)) (cok_i h2 (e _ (by decide)) rfl rfl rfl) (cok_i h3 (e _ (by decide)) rfl rfl rfl) (fun q hq => orX_n (by unfold g76 at hq; omega) (by unfold g76 at hq; omega)) (fun _ _ => rfl) h7 h8 hi.2.2.2.2.2.2.2.1
theorem inv_orA (hi : inv X A L) {p : Nat → Nat} {q N Z : Nat → Int32} {c : cS} (hz : zb 49 c.1 ∧ zb 49 c.2) : inv X (orA A p q N Z c) L := by
  unfold orA tE eA
  exact inv_88 (inv_37 (inv_88 (inv_m (inv_88 hi (Or.inl rfl)) hz.1 hz.2) (Or.inr (Or.inl rfl))) (Or.inr rfl)) (by omega)
theorem p_order (hi : inv X A L) (a e k : Int32) : pairI 80 yX10_order cX10_order 6 yX11_order cX11_order 5 [.int a, .int e, .int k] X A L := by
  obtain ⟨B, cd, vl, st, an, en, n, na, v, td, tm, tx, hr, hm, hk, v6, v7, vi⟩ := inv_rul hi
  have hn := hm.2.2.2.2.2.1
  have h6 := hm.2.2.2.2.2.2.1
  have hB := hr.1
  have hB2 := hB
  unfold isB at hB2
  have iS := hi.2.2.2.2.2.2.2.2
  obtain ⟨h1, h2, h3, h4, h5, h5b, h7, h8, h9, h10, h11, h12⟩ := id hi.1
  rcases isA_cases (n := 6) (by decide) a with q | ⟨j, hj, rfl⟩
  · by_cases h0 : e < 0
    · exact pair_fn (c_order_neg (d := 73) h0) (m_order_no (d := 19) q) hi
    · obtain ⟨e, he, rfl⟩ := nI_nn h0
      exact pair_fn (c_order_no (d := 73) hr he (Or.inl q)) (m_order_no (d := 19) q) hi
  · obtain ⟨h', b', so, ln, a1, a2, a3, a4, a5, a6, a7, a8, a9, a10, a11, a12⟩ := iS j hj
    by_cases h0 : e < 0
    · rcases bf_cases h' so with hf | ⟨rfl, rfl⟩
      · exact pair_fn (c_order_neg (d := 73) h0) (m_order_neg0 (d := 19) hj a9 a1 (fun _ => a2) a3 hf h0) hi
      · exact pair_fn (c_order_neg (d := 73) h0) (m_order_neg1 (d := 19) hj a9 h0) hi
    · obtain ⟨e, he, rfl⟩ := nI_nn h0
      by_cases hx : isA na (nI (e / 100)) = nI 0 ∨ 49 < e % 100 ∨ k < -1
      · rcases bf_cases h' so with hf | ⟨rfl, rfl⟩
        · exact pair_fn (c_order_no (d := 73) hr he (Or.inr hx)) (m_order_x0 (d := 19) hn h6 hj a9 a1 (fun _ => a2) a3 hf he hx) hi
        · exact pair_fn (c_order_no (d := 73) hr he (Or.inr hx)) (m_order_x1 (d := 19) hn h6 hj a9 he hx) hi
      · have hea : e / 100 < na := by
          rcases isA_cases (n := na) (by omega) (nI (e / 100)) with q | ⟨z, hz, q⟩
          · exact absurd (Or.inl q) hx
          · have := (nI_eq (by omega) (by omega)).mp q
            omega
        have hew : e % 100 < 50 := Nat.lt_of_not_le fun q => hx (Or.inr (Or.inl (by omega)))
        have hkm : ¬ k < -1 := fun q => hx (Or.inr (Or.inr q))
        rcases bf_cases h' so with hf | ⟨rfl, rfl⟩
        · exact pair_fn (c_order_f (d := 73) hr hj a5 a1 a7 a3 hf he hea hew hkm) (m_order_f (d := 19) hn h6 hj a9 a1 (fun _ => a2) a3 hf he hea hew hkm) hi
        · obtain ⟨b1, b2⟩ := a10 rfl
          have hE := row_E b2
          obtain ⟨⟨p0, hp0⟩, ⟨p1, hp1⟩⟩ := hi.2.2.2.2.2.2.2.1
          have hall : ∀ i, i < saC (saB na ln (rE L (64 + 2 * j))) 30 0 → saB na ln (rE L (64 + 2 * j)) i = true := fun i hi => saC_all (Nat.zero_le _) hi
          have oe := fun (q' : Nat → Int32) => order_eq h6 hk (E := rE L (64 + 2 * j)) hall (wn := e % 100) (c := (A 44, A 45)) h10 (a := nI (e / 100)) (p0 := p0) (r0 := p1) (q := A 38) (q' := q')
          have fin : ∀ (f g : Nat → Int32) (p : Nat → Nat) (q : Nat → Int32) (c : cS), (zb 49 c.1 ∧ zb 49 c.2) → ∃ X1 A1, tw (cX (sX X (saC (saB na ln (rE L (64 + 2 * j))) 30 0)) 39 c.1) (scr (cA (sA A p q) 39 c.1 c.2) B f g) L = tw X1 A1 L ∧ inv X1 A1 L ∧ mrul td tm tx na v X1 A1 ∧ A1 82 = A 44 ∧ A1 83 = A 45 ∧ zb 49 (A1 84) ∧ zb 49 (A1 85) ∧ A1 100 j = nI 50 ∧ A1 101 j = nI ln ∧ A1 90 = nIf p1 := by
            intro f g p q c hz
            have nX : ∀ c', c' ≠ 35 → c' ≠ 39 → cX (sX X (saC (saB na ln (rE L (64 + 2 * j))) 30 0)) 39 c.1 c' = X c' := fun c' q1 q2 => by rw [cX_n _ _ q2, sX, up_ne q1]
            have nA : ∀ c', 47 < c' → scr (cA (sA A p q) 39 c.1 c.2) B f g c' = A c' := fun c' q' => by rw [scr_n _ _ _ _ (by omega) (by omega), cA_n _ _ _ (by omega) (by omega) (by omega), sA_n _ _ _ (by omega) (by omega)]
            refine ⟨_, _, rfl, inv_z (inv_K (inv_88 (inv_37 (inv_X hi (Or.inl rfl)) (Or.inl rfl)) (by omega)) (K := 39) (Or.inl rfl) hz.1 hz.2) hB, mrul_c hm (by rw [nX _ (by decide) (by decide)]) (by rw [nX _ (by decide) (by decide)]) (nA _ (by decide)) (nA _ (by decide)), ?_, ?_, ?_, ?_, ?_, ?_, ?_⟩
            · rw [nA _ (by decide)]; exact h5
            · rw [nA _ (by decide)]; exact h5b
            · rw [nA _ (by decide)]; exact h7
            · rw [nA _ (by decide)]; exact h8
            · rw [nA _ (by decide)]; exact a9
            · rw [nA _ (by decide)]; exact b1
            · rw [nA _ (by decide)]; exact hp1
          by_cases e1 : k = -1
          · subst e1
            refine ⟨_, _, c_order_all (d := 73) hr h1 h2 hj a5 a7 a8 a4 he hea hew rfl hp0, fun w hw => ?_⟩
            obtain ⟨f, g, p, c, hz, hw⟩ := hw
            obtain ⟨X1, A1, ew, i1, r1, e82, e83, z84, z85, e100, e101, e90⟩ := fin f g p _ c hz
            rw [ew] at hw
            subst hw
            have q := m_order_all (d := 19) (L := L) r1 (by rw [e82]; exact h1.1) (by rw [e83]; exact h1.2.1) z84 z85 (by rw [e82]; exact h9) hj e100 e101 a4 hE rfl he hea hew e90
            rw [e82, e83] at q
            refine ⟨⟨_, _, _, rfl⟩, _, jMet_z ?_ q, fun w' hw' => ?_⟩
            · exact (oe (A1 91)).1.symm
            · obtain ⟨y, N, Z, c2, hz2, rfl⟩ := hw'
              exact ⟨_, _, _, rfl, inv_orA (inv_orX i1) hz2⟩
          · have hk0 : ¬ k < 0 := by
              intro q
              rw [Int32.lt_iff_toInt_lt] at q hkm
              apply e1
              apply Int32.toInt_inj.mp
              have q1 : (0 : Int32).toInt = 0 := rfl
              have q2 : (-1 : Int32).toInt = -1 := rfl
              omega
            obtain ⟨k', hk31, rfl⟩ := nI_nn hk0
            refine ⟨_, _, c_order (d := 73) hr h1 h2 hj a5 a7 a8 a4 he hea hew rfl hp0 hk31, fun w hw => ?_⟩
            obtain ⟨f, g, p, c, hz, hw⟩ := hw
            obtain ⟨X1, A1, ew, i1, r1, e82, e83, z84, z85, e100, e101, e90⟩ := fin f g p _ c hz
            rw [ew] at hw
            subst hw
            have q := m_order_k (d := 19) (L := L) r1 (by rw [e82]; exact h1.1) (by rw [e83]; exact h1.2.1) z84 z85 (by rw [e82]; exact h9) hj e100 e101 a4 hE rfl he hea hew e90 hk31
            rw [e82, e83] at q
            refine ⟨⟨_, _, _, rfl⟩, _, jMet_z ?_ q, fun w' hw' => ?_⟩
            · by_cases hlt : k' < min (saC (saB na ln (rE L (64 + 2 * j))) 30 0) 5
              · rw [if_pos hlt, if_pos hlt]
                exact ((oe (A1 91)).2 k' hlt).symm
              · rw [if_neg hlt, if_neg hlt]
            · obtain ⟨y, N, Z, c2, hz2, rfl⟩ := hw'
              exact ⟨_, _, _, rfl, inv_orA (inv_orX i1) hz2⟩
end PR22
