section PR24
variable {X A X' A' : Nat → Nat → Int32} {L : Nat → Nat → Int64}
theorem drF_z {Rk : (Nat → Int32) → Int32 → Int32 → Nat → Int32} {na : Nat} : ∀ (m : Nat) (c : cS) (z : Int32) (l : Nat), (zb 49 c.1 ∧ zb 49 c.2) → zb 49 (drF Rk na m c z l).1.1 ∧ zb 49 (drF Rk na m c z l).1.2
  | 0, _, _, _, h => h
  | m + 1, c, z, l, h => drF_z m _ _ _ (seS_z h)
theorem p_drawn (hi : inv X A L) (e c y : Int32) : pairI 80 yX10_drawn cX10_drawn 10 yX11_drawn cX11_drawn 8 [.int e, .int c, .int y] X A L := by
  obtain ⟨B, cd, vl, st, an, en, n, na, v, td, tm, tx, hr, hm, hk, v6, v7, vi⟩ := inv_rul hi
  have hn := hm.2.2.2.2.2.1
  have h6 := hm.2.2.2.2.2.2.1
  have hB := hr.1
  have hB2 := hB
  unfold isB at hB2
  obtain ⟨h1, h2, h3, h4, h5, h5b, h7, h8, h9, h10, h11, h12⟩ := id hi.1
  by_cases h0 : c < 0
  · exact pair_fn (c_drawn_neg (d := 75) (Int32.lt_trans h0 (by decide))) (m_drawn_neg (d := 25) h0) hi
  · obtain ⟨k, hk31, rfl⟩ := nI_nn h0
    by_cases hx : k < 100 ∨ 60 < k / 100 ∨ 49 < k % 100 ∨ isA 2 y = nI 0
    · exact pair_fn (c_drawn_no (d := 75) hk31 hx) (m_drawn_no (d := 25) hk31 hx) hi
    · have k1 : 100 ≤ k := Nat.le_of_not_lt fun q => hx (Or.inl q)
      have k2 : k / 100 ≤ 60 := Nat.le_of_not_lt fun q => hx (Or.inr (Or.inl q))
      have k3 : k % 100 ≤ 49 := Nat.le_of_not_lt fun q => hx (Or.inr (Or.inr (Or.inl q)))
      have hy : isA 2 y ≠ nI 0 := fun q => hx (Or.inr (Or.inr (Or.inr q)))
      by_cases hna : na = 0
      · exact pair_fn (c_drawn_0 (d := 75) hr hna hk31 k1 k2 k3 hy) (m_drawn_0 (d := 25) hn h6 hna hk31 k1 k2 k3 hy) hi
      · have hpos : 0 < na := Nat.pos_of_ne_zero hna
        have c0 := c_drawn (d := 75) (L := L) hr h1 h3 hpos (e := e) hk31 k1 k2 k3 hy
        have ed := drF_cg hpos hk (m := k / 100) (c := (A 44, A 45)) (z := e) (l := 0)
        have hz0 := drF_z (Rk := RkC cd vl st an en n v) (na := na) (k / 100) (A 44, A 45) e 0 ⟨h1.1, h1.2.1⟩
        generalize hD : drF (RkC cd vl st an en n v) na (k / 100) (A 44, A 45) e 0 = D at *
        have hz := winS_z (c := D.1) hz0.1 hz0.2 (min (k % 100) (hN D.1.1))
        generalize hW : winS (min (k % 100) (hN D.1.1)) D.1 = W at *
        refine ⟨_, _, c0, fun w hw => ?_⟩
        obtain ⟨f, g, rfl⟩ := hw
        have hK := inv_z (inv_K hi (K := 47) (Or.inr rfl) hz.1 hz.2) hB (f := f) (g := g)
        have nX : ∀ c, c ≠ 47 → cX X 47 W.1 c = X c := fun c q => cX_n _ _ q
        have nA : ∀ c, 50 < c → scr (cA A 47 W.1 W.2) B f g c = A c := fun c q => by rw [scr_n _ _ _ _ (by omega) (by omega), cA_n _ _ _ (by omega) (by omega) (by omega)]
        generalize scr (cA A 47 W.1 W.2) B f g = A1 at *
        have e82 : A1 82 = A 44 := by rw [nA _ (by decide), h5]
        have e83 : A1 83 = A 45 := by rw [nA _ (by decide), h5b]
        have q := m_drawn (d := 25) (L := L) (X := cX X 47 W.1) (A := A1) (mrul_c hm (by rw [nX _ (by decide)]) (by rw [nX _ (by decide)]) (nA _ (by decide)) (nA _ (by decide))) (by rw [e82]; exact h1.1) (by rw [e83]; exact h1.2.1) (by rw [nA _ (by decide)]; exact h7) (by rw [nA _ (by decide)]; exact h8) (by rw [e82]; exact h9) hpos (e := e) hk31 k1 k2 k3 hy
        rw [e82, e83, ← ed, hW] at q
        refine ⟨⟨_, _, _, rfl⟩, _, q, fun w' hw' => ?_⟩
        obtain ⟨u, N, Z, rfl⟩ := hw'
        refine ⟨_, _, _, rfl, inv_zX ?_⟩
        unfold tE eA
        exact inv_88 (inv_m (inv_88 hK (Or.inl rfl)) hz.1 hz.2) (Or.inr (Or.inl rfl))
theorem pairL_fz {D : Nat} {m1 : MethodName} {c1 : ByteArray} {n1 : Nat} {m2 : MethodName} {c2 : ByteArray} {n2 : Nat} {As : List Value} {z z' : Int64} {X1 A1 X2 A2 : Nat → Nat → Int32} {L1 L2 : Nat → Nat → Int64} (h1 : jMet D m1 c1 n1 (some .long) 0 0 (.ref 4 :: As) (tw X A L) (jRl z (tw X1 A1 L1))) (h2 : jMet D m2 c2 n2 (some .long) 0 0 (.ref 76 :: As) (tw X1 A1 L1) (jRl z' (tw X2 A2 L2))) (e : z' = z) (hi : inv X2 A2 L2) : pairL D m1 c1 n1 m2 c2 n2 As X A L := by
  subst e
  exact pairL_fn h1 h2 hi
theorem p_dances (hi : inv X A L) (c s p : Int32) : pairL 80 yX10_dances cX10_dances 13 yX11_dances cX11_dances 8 [.int c, .int s, .int p] X A L := by
  obtain ⟨B, cd, vl, st, an, en, n, na, v, td, tm, tx, hr, hm, hk, v6, v7, vi⟩ := inv_rul hi
  have iS := hi.2.2.2.2.2.2.2.2
  rcases isA_cases (n := 6) (by decide) c with e | ⟨j, hj, rfl⟩
  · exact pairL_fn (c_dances_no (d := 74) (Or.inl e)) (m_dancesC_no (d := 77) e) hi
  · obtain ⟨h', b', so, ln, a1, a2, a3, a4, a5, a6, a7, a8, a9, a10, a11, a12⟩ := iS j hj
    rcases bf_cases h' so with hf | ⟨rfl, rfl⟩
    · exact pairL_fn (c_dances_f (d := 74) hj a5 a1 a7 a3 hf) (m_dancesC_f (d := 77) hj a9 a1 (fun _ => a2) a3 hf) hi
    · obtain ⟨b1, b2⟩ := a10 rfl
      have hE := row_E b2
      by_cases hx : p ≠ nI 2 ∧ (is16 s = nI 0 ∨ is01 p = nI 0)
      · exact pairL_fn (c_dances_no (d := 74) (Or.inr hx)) (m_dancesC_x (d := 77) hj a9 hx) hi
      · by_cases hp2 : p = nI 2
        · subst hp2
          exact pairL_fz (c_dances_2 (d := 74) hr v7 hj a5 a7 a8 a4) (m_dancesC_2 (d := 77) hm.1 (show v 7 < 7 by omega) hj a9 b1 a4 hE) (dances_2 (by omega)) hi
        · rcases is16_cases s with e | ⟨x, hx1, hx6, rfl⟩
          · exact absurd ⟨hp2, Or.inl e⟩ hx
          · have hp := is01_ne (fun e => hx ⟨hp2, Or.inr e⟩)
            exact pairL_fz (c_dances (d := 74) hr v7 hj a5 a7 a8 a4 hx1 hx6 hp) (m_dancesC (d := 77) hm.1 (show v 7 < 7 by omega) hj a9 b1 a4 hE hx1 hx6 hp (dances_g (by omega) hx1 hx6)) (dances_p (by omega) hx1 hx6 hp) hi
end PR24
