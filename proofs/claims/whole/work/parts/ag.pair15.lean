section PR15
variable {X A X' A' : Nat → Nat → Int32} {L : Nat → Nat → Int64}
theorem cpy_all {f g : Nat → Int32} (hf : zb 6 f) (hg : zb 6 g) : va_cpy f g 0 0 6 = f := by
  funext k
  unfold va_cpy
  by_cases h : k < 6
  · rw [if_pos ⟨Nat.zero_le _, by omega⟩]
    congr 1
    omega
  · rw [if_neg (by omega), hg k (by omega), hf k (by omega)]
theorem p_image (hi : inv X A L) : pairI 80 yX10_image cX10_image 1 yX11_image cX11_image 2 [] X A L := by
  obtain ⟨iC1, ⟨na, v, hV⟩, ⟨dn, kp, pl, bf, af, hD⟩, iI1, ⟨tl, tp, hT⟩, ⟨nb, r, kd, hH⟩, ⟨B, G, cd, vl, st, an, en, n, td, tm, tx, f, k, hL⟩, iO1, iS⟩ := id hi
  obtain ⟨h1, h2, h3, h4, h5, h5b, h7, h8, h9, h10, h11, h12⟩ := id iC1
  obtain ⟨i1, i2, i3, i4, i5, i6, i7⟩ := id iI1
  have ec := cpy_all h12 i6
  have c := c_image (d := 78) (L := L) h1 h4
  rw [ec] at c
  generalize hA1 : va_up (cA A 51 (A 44) (A 45)) 56 (A 55) = A1 at *
  generalize hX1 : va_up (cX X 51 (A 44)) 4 (upd (X 4) 9 (nI 1)) = X1 at *
  have n : ∀ c, c ≠ 56 → ¬ (51 < c ∧ c < 55) → A1 c = A c := fun c a1 a2 => by rw [← hA1, up_ne a1, cA_n _ _ _ (by omega) (by omega) (by omega)]
  have nX : ∀ c, c ≠ 4 → c ≠ 51 → X1 c = X c := fun c a1 a2 => by rw [← hX1, up_ne a1, cX_n _ _ a2]
  have e82 : A1 82 = A 44 := by rw [n _ (by decide) (by decide), h5]
  have e83 : A1 83 = A 45 := by rw [n _ (by decide) (by decide), h5b]
  have e94 : A1 94 = A 55 := by rw [n _ (by decide) (by decide), h11]
  have e52 : A1 52 = A 44 := by rw [← hA1, up_ne (by decide)]; exact cA_1 _ _ _ _
  have e53 : A1 53 = A 45 := by rw [← hA1, up_ne (by decide)]; exact cA_2 _ _ _ _
  have e56 : A1 56 = A 55 := by rw [← hA1, vu_s]
  have q := m_image (d := 80) (X := X1) (L := L) (A := A1) (by rw [e82]; exact h1.1) (by rw [e83]; exact h1.2.1) (by rw [n _ (by decide) (by decide)]; exact i3) (by rw [n _ (by decide) (by decide)]; exact i4) (by rw [e94]; exact h12) (by rw [n _ (by decide) (by decide)]; exact i5)
  rw [e82, e83, e94] at q
  refine pair_fn c q ?_
  have hc := cok_c (X := X) (A := A) (K := 51) h1.1 h1.2.1
  have nA : ∀ c, ¬ (94 < c ∧ c < 98) → c ≠ 56 → ¬ (51 < c ∧ c < 55) → iA A1 (A 44) (A 45) (A 55) c = A c := fun c a1 a2 a3 => by rw [iA_n _ _ _ _ (by omega) (by omega) (by omega), n c a2 a3]
  have nA1 : ∀ c, ¬ (94 < c ∧ c < 98) → iA A1 (A 44) (A 45) (A 55) c = A1 c := fun c a1 => iA_n _ _ _ _ (by omega) (by omega) (by omega)
  have nX2 : ∀ c, c ≠ 4 → c ≠ 51 → c ≠ 76 → va_up X1 76 (upd (X1 76) 32 (nI 1)) c = X c := fun c a1 a2 a3 => by rw [up_ne a3, nX c a1 a2]
  have n76 : ∀ q, q ≠ 32 → va_up X1 76 (upd (X1 76) 32 (nI 1)) 76 q = X 76 q := fun q hq => by rw [vu_s, ud_n _ _ _ hq, nX 76 (by decide) (by decide)]
  refine ⟨⟨cok_i h1 (nX2 _ (by decide) (by decide) (by decide)) (nA _ (by decide) (by decide) (by decide)) (nA _ (by decide) (by decide) (by decide)) (nA _ (by decide) (by decide) (by decide)), cok_i h2 (nX2 _ (by decide) (by decide) (by decide)) (nA _ (by decide) (by decide) (by decide)) (nA _ (by decide) (by decide) (by decide)) (nA _ (by decide) (by decide) (by decide)), cok_i h3 (nX2 _ (by decide) (by decide) (by decide)) (nA _ (by decide) (by decide) (by decide)) (nA _ (by decide) (by decide) (by decide)) (nA _ (by decide) (by decide) (by decide)),
      cok_i hc (by rw [up_ne (by decide), ← hX1, up_ne (by decide)]) (by rw [nA1 _ (by decide), ← hA1, up_ne (by decide)]) (by rw [nA1 _ (by decide), ← hA1, up_ne (by decide)]) (by rw [nA1 _ (by decide), ← hA1, up_ne (by decide)]), ?_, ?_, ?_, ?_, ?_, ?_, ?_, ?_⟩,
    ⟨na, v, iV_c hV (by rw [nX2 _ (by decide) (by decide) (by decide)]) (nA _ (by decide) (by decide) (by decide)) (n76 _ (by decide)) (nA _ (by decide) (by decide) (by decide))⟩,
    ⟨dn, kp, pl, bf, af, iD_c hD (by rw [nX2 _ (by decide) (by decide) (by decide)]) (by rw [nX2 _ (by decide) (by decide) (by decide)]) (n76 _ (by decide)) (n76 _ (by decide)) (fun c hc => nA c (by omega) (by omega) (by omega))⟩,
    ⟨Or.inr ?_, ?_, ?_, ?_, ?_, ?_, fun _ => ⟨?_, ?_, ?_, ?_, ?_⟩⟩,
    ⟨tl, tp, iT_c hT (by rw [nX2 _ (by decide) (by decide) (by decide)]) (n76 _ (by decide)) (nA _ (by decide) (by decide) (by decide)) (nA _ (by decide) (by decide) (by decide))⟩,
    ⟨nb, r, kd, iH_c hH (nX2 _ (by decide) (by decide) (by decide)) (n76 _ (by decide)) (n76 _ (by decide)) (fun c hc => nA c (by omega) (by omega) (by omega))⟩,
    ⟨B, G, cd, vl, st, an, en, _, td, tm, tx, f, k, iL_c hL (fun c hc => nX2 c (by omega) (by omega) (by omega)) (fun q _ _ => by rw [nX2 _ (by decide) (by decide) (by decide)]) (n76 _ (by decide)) (fun c hc => nA c (by omega) (by omega) (by omega))⟩,
    iO_c iO1 (nA _ (by decide) (by decide) (by decide)) (nA _ (by decide) (by decide) (by decide)),
    iS_c iS (fun c a b => nX2 c (by omega) (by omega) (by omega)) (nA _ (by decide) (by decide) (by decide)) (nA _ (by decide) (by decide) (by decide)) rfl (by rw [nX2 _ (by decide) (by decide) (by decide)])⟩
  · rw [nA _ (by decide) (by decide) (by decide), nA _ (by decide) (by decide) (by decide)]; exact h5
  · rw [nA _ (by decide) (by decide) (by decide), nA _ (by decide) (by decide) (by decide)]; exact h5b
  · rw [nA _ (by decide) (by decide) (by decide)]; exact h7
  · rw [nA _ (by decide) (by decide) (by decide)]; exact h8
  · rw [nA _ (by decide) (by decide) (by decide)]; exact h9
  · rw [nA _ (by decide) (by decide) (by decide)]; exact h10
  · rw [nA _ (by decide) (by decide) (by decide), nA _ (by decide) (by decide) (by decide)]; exact h11
  · rw [nA _ (by decide) (by decide) (by decide)]; exact h12
  · rw [up_ne (by decide), ← hX1, vu_s, ud_s]
  · rw [vu_s, ud_s, up_ne (by decide), ← hX1, vu_s, ud_s]
  · rw [iA_95]; exact h1.1
  · rw [iA_96]; exact h1.2.1
  · rw [iA_97]; exact h12
  · rw [nA1 _ (by decide), e56]; exact h12
  · rw [iA_95, nA1 _ (by decide), e52]
  · rw [iA_96, nA1 _ (by decide), e53]
  · rw [iA_97, nA1 _ (by decide), e56]
  · rw [nA1 _ (by decide), e52]; exact h9
  · rw [nA1 _ (by decide), e53]; exact h10
theorem p_back (hi : inv X A L) : pairI 80 yX10_back cX10_back 1 yX11_back cX11_back 2 [] X A L := by
  obtain ⟨h1, h2, h3, h4, h5, h5b, h7, h8, h9, h10, h11, h12⟩ := id hi.1
  obtain ⟨i1, i2, _, _, _, i6, i9⟩ := id hi.2.2.2.1
  rcases i1 with i1 | i1
  · exact pair_fn (c_back_no (d := 78) i1) (m_back_no (d := 80) (by rw [i2]; exact i1)) hi
  · obtain ⟨i3, i4, i5, i7, i8⟩ := i9 i1
    have c := c_back (d := 78) (L := L) h1 h4 i1
    rw [cpy_all i6 h12] at c
    generalize hA1 : va_up (cA A 43 (A 52) (A 53)) 55 (A 56) = A1 at *
    have n : ∀ c, c ≠ 55 → ¬ (43 < c ∧ c < 47) → A1 c = A c := fun c a1 a2 => by rw [← hA1, up_ne a1, cA_n _ _ _ (by omega) (by omega) (by omega)]
    have e95 : A1 95 = A 52 := by rw [n _ (by decide) (by decide), i3]
    have e96 : A1 96 = A 53 := by rw [n _ (by decide) (by decide), i4]
    have e97 : A1 97 = A 56 := by rw [n _ (by decide) (by decide), i5]
    have q := m_back (d := 80) (X := cX X 43 (A 52)) (L := L) (A := A1) (by rw [n _ (by decide) (by decide), h5]; exact h1.1) (by rw [n _ (by decide) (by decide), h5b]; exact h1.2.1) (by rw [e95]; exact h4.1) (by rw [e96]; exact h4.2.1) (by rw [n _ (by decide) (by decide), h11]; exact h12) (by rw [e97]; exact i6) (by rw [cX_n _ _ (by decide), i2]; exact i1)
    rw [e95, e96, e97] at q
    refine pair_fn c q ?_
    have hc := cok_c (X := X) (A := A) (K := 43) h4.1 h4.2.1
    have nk : ∀ c, c ≠ 82 → c ≠ 83 → c ≠ 94 → kA A1 (A 52) (A 53) (A 56) c = A1 c := fun c a1 a2 a3 => kA_n _ _ _ _ a1 a2 a3
    have e44 : A1 44 = A 52 := by rw [← hA1, up_ne (by decide)]; exact cA_1 _ _ _ _
    have e45 : A1 45 = A 53 := by rw [← hA1, up_ne (by decide)]; exact cA_2 _ _ _ _
    have e55 : A1 55 = A 56 := by rw [← hA1, vu_s]
    exact inv_w hi (cok_i hc rfl (by rw [nk _ (by decide) (by decide) (by decide), ← hA1, up_ne (by decide)]) (by rw [nk _ (by decide) (by decide) (by decide), ← hA1, up_ne (by decide)]) (by rw [nk _ (by decide) (by decide) (by decide), ← hA1, up_ne (by decide)])) (by rw [kA_82, nk _ (by decide) (by decide) (by decide), e44]) (by rw [kA_83, nk _ (by decide) (by decide) (by decide), e45]) (by rw [nk _ (by decide) (by decide) (by decide), n _ (by decide) (by decide)]; exact h7) (by rw [nk _ (by decide) (by decide) (by decide), n _ (by decide) (by decide)]; exact h8) (by rw [nk _ (by decide) (by decide) (by decide), e44]; exact i7) (by rw [nk _ (by decide) (by decide) (by decide), e45]; exact i8) (by rw [kA_94, nk _ (by decide) (by decide) (by decide), e55]) (by rw [nk _ (by decide) (by decide) (by decide), e55]; exact i6) (fun c a1 _ => cX_n _ _ a1) (fun q _ => by rw [cX_n _ _ (by decide)]) (fun c hc => by unfold gW at hc; rw [nk c (by omega) (by omega) (by omega), n c (by omega) (by omega)])
end PR15
