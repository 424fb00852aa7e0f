section PR17
variable {X A X' A' : Nat → Nat → Int32} {L L' : Nat → Nat → Int64}
/-- one shelf has changed -/
theorem inv_S (hi : inv X A L) {j : Nat} (hj : j < 6) (hX : ∀ c, c ≠ 64 + 2 * j → X' c = X c) (hA : ∀ c, c ≠ 100 → c ≠ 101 → A' c = A c) (h100 : ∀ i, i ≠ j → A' 100 i = A 100 i) (h101 : ∀ i, i ≠ j → A' 101 i = A 101 i) (hL : ∀ i, i < 6 → i ≠ j → L' (64 + 2 * i + 1) = L (64 + 2 * i + 1) ∧ ∀ q, q < 60 → L' 102 (60 * i + q) = L 102 (60 * i + q)) (hs : iS1 X' A' L' j) : inv X' A' L' := by
  obtain ⟨iC1, ⟨na, v, hV⟩, ⟨dn, kp, pl, bf, af, hD⟩, iI1, ⟨tl, tp, hT⟩, ⟨nb, r, kd, hH⟩, ⟨B, G, cd, vl, st, an, en, n, td, tm, tx, f, k, hL'⟩, iO1, iS⟩ := hi
  have hX2 : ∀ c, c ≠ 64 + 2 * j → ∀ q, X' c q = X c q := fun c h1 q => by rw [hX c h1]
  exact ⟨iC_c iC1 (fun c hc => hX c (by omega)) (fun c hc => by unfold cC at hc; exact hA c (by omega) (by omega)),
    ⟨na, v, iV_c hV (hX2 _ (by omega) _) (hA _ (by decide) (by decide)) (hX2 _ (by omega) _) (hA _ (by decide) (by decide))⟩,
    ⟨dn, kp, pl, bf, af, iD_c hD (hX2 _ (by omega) _) (hX2 _ (by omega) _) (hX2 _ (by omega) _) (hX2 _ (by omega) _) (fun c hc => hA c (by omega) (by omega))⟩,
    iI_c iI1 (hX2 _ (by omega) _) (hX2 _ (by omega) _) (fun c hc => hA c (by omega) (by omega)),
    ⟨tl, tp, iT_c hT (hX2 _ (by omega) _) (hX2 _ (by omega) _) (hA _ (by decide) (by decide)) (hA _ (by decide) (by decide))⟩,
    ⟨nb, r, kd, iH_c hH (hX _ (by omega)) (hX2 _ (by omega) _) (hX2 _ (by omega) _) (fun c hc => hA c (by omega) (by omega))⟩,
    ⟨B, G, cd, vl, st, an, en, n, td, tm, tx, f, k, iL_c hL' (fun c hc => hX c (by omega)) (fun q _ _ => hX2 _ (by omega) _) (hX2 _ (by omega) _) (fun c hc => hA c (by omega) (by omega))⟩,
    iO_c iO1 (hA _ (by decide) (by decide)) (hA _ (by decide) (by decide)),
    fun i hi6 => by
      by_cases e : i = j
      · subst e; exact hs
      · exact iS1_c (iS i hi6) (hX _ (by omega)) (h100 i e) (h101 i e) (hL i hi6 e).2 (hL i hi6 e).1 (fun nb q1 q2 => ⟨nb, by rw [hX2 _ (by omega)]; exact q1, q2, Nat.le_refl _⟩)⟩
theorem p_keep (hi : inv X A L) (c b : Int32) : pairI 80 yX10_keep cX10_keep 3 yX11_keep cX11_keep 3 [.int c, .int b] X A L := by
  obtain ⟨_, _, _, _, _, ⟨nb, r, kd, hH⟩, _, _, iS⟩ := id hi
  obtain ⟨t1, t2, t3, t4, t5, t6, t7, t8, t9, t10⟩ := hH
  by_cases h : isA 6 c = nI 0 ∨ (b ≠ -1 ∧ isA nb b = nI 0)
  · exact pair_fn (c_keep_no (d := 79) t4 t1 h) (m_keep_no (d := 78) t7 t1 h) hi
  · rcases isA_cases (n := 6) (by decide) c with q | ⟨j, hj, rfl⟩
    · exact absurd (Or.inl q) h
    · obtain ⟨h', b', so, ln, a1, a2, a3, a4, a5, a6, a7, a8, a9, a10, a11, a12⟩ := iS j hj
      by_cases hb : b = -1
      · subst hb
        refine pair_fn (c_keep_0 (d := 79) hj) (m_keep_0 (d := 78) hj) (inv_S hi hj (fun c hc => up_ne hc) (fun c h1 h2 => by rw [up_ne h2, up_ne h1]) (fun i e => by rw [up_ne (by decide), vu_s, ud_n _ _ _ e]) (fun i e => by rw [vu_s, ud_n _ _ _ e]) (fun i _ _ => ⟨rfl, fun _ _ => rfl⟩) ⟨0, b', so, ln, by decide, a2, a3, a4, ?_, ?_, ?_, ?_, ?_, fun e => absurd e (by decide), a11, fun e => absurd e (by decide)⟩)
        · rw [vu_s, ud_s]
        · exact fun e => absurd e (by decide)
        · rw [vu_s, ud_n _ _ _ (by decide)]; exact a7
        · rw [vu_s, ud_n _ _ _ (by decide)]; exact a8
        · rw [up_ne (by decide), vu_s, ud_s]; rfl
      · rcases isA_cases (n := nb) (by omega) b with q | ⟨k, hkn, rfl⟩
        · exact absurd (Or.inr ⟨hb, q⟩) h
        · refine pair_fn (c_keep (d := 79) hj t4 t1 hkn) (m_keep (d := 78) (by rw [up_ne (by omega)]; exact t7) t1 hj hkn) (inv_S hi hj (fun c hc => up_ne hc) (fun c h1 h2 => by rw [up_ne h2, up_ne h1]) (fun i e => by rw [up_ne (by decide), vu_s, ud_n _ _ _ e]) (fun i e => by rw [vu_s, ud_n _ _ _ e]) (fun i _ _ => ⟨rfl, fun _ _ => rfl⟩) ⟨1, k, so, ln, by decide, by omega, a3, a4, ?_, ?_, ?_, ?_, ?_, fun e => absurd e (by decide), a11, fun _ => ⟨nb, ?_, t1, hkn⟩⟩)
          · rw [vu_s, ud_n _ _ _ (by decide), ud_s]
          · intro _; rw [vu_s, ud_s]
          · rw [vu_s, ud_n _ _ _ (by decide), ud_n _ _ _ (by decide)]; exact a7
          · rw [vu_s, ud_n _ _ _ (by decide), ud_n _ _ _ (by decide)]; exact a8
          · rw [up_ne (by decide), vu_s, ud_s]; rfl
          · rw [up_ne (by omega)]; exact t4
theorem so04_ne {c : Int32} (h : so04 c ≠ nI 0) : ∃ x, x ≤ 4 ∧ c = nI x := by
  have h0 : ¬ c < 0 := fun q => h (by unfold so04; rw [if_pos q])
  have h4 : ¬ nI 4 < c := fun q => h (by unfold so04; rw [if_neg h0, if_pos q])
  obtain ⟨x, hx31, rfl⟩ := nI_nn h0
  exact ⟨x, Nat.le_of_not_lt fun q => h4 ((nI_ltI (by decide) hx31).mpr q), rfl⟩
theorem p_row (hi : inv X A L) (c s m : Int32) : pairI 80 yX10_row cX10_row 4 yX11_row cX11_row 5 [.int c, .int s, .int m] X A L := by
  have iS := hi.2.2.2.2.2.2.2.2
  by_cases h : isA 6 c = nI 0 ∨ so04 s = nI 0 ∨ nI 60 < m
  · exact pair_fn (c_row_no (d := 78) h) (m_row_no (d := 78) h) hi
  · rcases isA_cases (n := 6) (by decide) c with q | ⟨j, hj, rfl⟩
    · exact absurd (Or.inl q) h
    · have hs : so04 s ≠ nI 0 := fun q => h (Or.inr (Or.inl q))
      by_cases h0 : m < 0
      · exact pair_fn (c_row_neg (d := 78) hj hs h0) (m_row_neg (d := 78) hj hs h0) hi
      · obtain ⟨x, hx4, rfl⟩ := so04_ne hs
        obtain ⟨y, hy31, rfl⟩ := nI_nn h0
        have hy : y ≤ 60 := Nat.le_of_not_lt fun q => h (Or.inr (Or.inr ((nI_ltI (by decide) hy31).mpr q)))
        obtain ⟨h', b', so, ln, a1, a2, a3, a4, a5, a6, a7, a8, a9, a10, a11, a12⟩ := iS j hj
        refine pair_fn (c_row (d := 78) hj a11 hx4 hy) (m_row (d := 78) hj hx4 hy) (inv_S hi hj (fun c hc => up_ne hc) (fun c h1 h2 => by rw [up_ne h2, up_ne h1]) (fun i e => by rw [up_ne (by decide), vu_s, ud_n _ _ _ e]) (fun i e => by rw [vu_s, ud_n _ _ _ e]) (fun i hi6 e => ⟨?_, fun q hq => ?_⟩) ⟨2, b', x, y, by decide, a2, hx4, hy, ?_, ?_, ?_, ?_, ?_, fun _ => ⟨?_, fun i hi => ?_⟩, ?_, fun e => absurd e (by decide)⟩)
        · rw [up_ne (by omega), up_ne (by omega)]
        · rw [vu_s, izF, if_neg (by omega), up_ne (by omega)]
        · rw [vu_s, ud_n _ _ _ (by decide), ud_n _ _ _ (by decide), ud_s]
        · exact fun e => absurd e (by decide)
        · rw [vu_s, ud_n _ _ _ (by decide), ud_s]
        · rw [vu_s, ud_s]
        · rw [up_ne (by decide), vu_s, ud_s]; rfl
        · rw [vu_s, ud_s]
        · rw [vu_s, izF, if_pos (by omega), up_ne (by omega), vu_s]
          exact ⟨rfl, fun _ => rfl⟩
        · rw [up_ne (by omega), vu_s]
          exact fun _ _ => rfl
theorem pfI_cases {h ln : Nat} (hl : ln ≤ 60) (i : Int32) : pfI h ln i ≠ 0 ∨ (h = 2 ∧ ∃ k, k < ln ∧ i = nI k) := by
  unfold pfI
  by_cases h0 : h = 0
  · left; rw [if_pos h0]; decide
  · rw [if_neg h0]
    by_cases h2 : h = 2
    · rw [if_pos h2]
      rcases isA_cases (n := ln) hl i with q | q
      · left; rw [if_pos (show isA ln i = 0 from q)]; decide
      · exact Or.inr ⟨h2, q⟩
    · left; rw [if_neg h2]; decide
theorem lb0 {y : Int64} {so : Nat} (h : so = 0) : lbJ so y = (lbJ so y).toInt32.toInt64 := by
  subst h
  unfold lbJ
  show y.toInt32.toInt8.toInt32.toInt64 = y.toInt32.toInt8.toInt32.toInt64.toInt32.toInt64
  rw [Int32.toInt32_toInt64]
theorem p_put (hi : inv X A L) (c i : Int32) (y : Int64) : pairI 80 yX10_put cX10_put 6 yX11_put cX11_put 6 [.int c, .int i, .long y] X A L := by
  have iS := hi.2.2.2.2.2.2.2.2
  rcases isA_cases (n := 6) (by decide) c with q | ⟨j, hj, rfl⟩
  · exact pair_fn (c_put_no (d := 78) q) (m_put_no (d := 77) q) hi
  · obtain ⟨h', b', so, ln, a1, a2, a3, a4, a5, a6, a7, a8, a9, a10, a11, a12⟩ := iS j hj
    rcases pfI_cases (h := h') a4 i with hf | ⟨rfl, k, hkl, rfl⟩
    · exact pair_fn (c_put_f (d := 78) hj a5 a1 a7 a3 a8 a4 hf) (m_put_f (d := 77) hj a9 a1 (fun _ => a2) a3 (fun e => (a10 e).1) a4 hf) hi
    · obtain ⟨b1, b2⟩ := a10 rfl
      refine pair_fn (c_put (d := 78) hj a5 a7 a3 a8 a4 hkl) (m_put (d := 77) hj a9 a3 b1 a4 hkl) (inv_S hi hj (fun _ _ => rfl) (fun _ _ _ => rfl) (fun _ _ => rfl) (fun _ _ => rfl) (fun i hi6 e => ⟨?_, fun q hq => ?_⟩) ⟨2, b', so, ln, by decide, a2, a3, a4, a5, a6, a7, a8, a9, fun _ => ⟨b1, fun i hi => ?_⟩, ?_, fun e => absurd e (by decide)⟩)
      · rw [up_ne (by omega), up_ne (by omega)]
      · rw [vu_s, vp_updL, if_neg (by omega), up_ne (by omega)]
      · rw [vu_s, up_ne (by omega), up_ne (by omega), vu_s]
        unfold vp_updL
        by_cases e : i = k
        · subst e
          rw [if_pos rfl, if_pos rfl]
          exact ⟨rfl, fun q => lb0 q⟩
        · rw [if_neg (by omega), if_neg e]
          exact b2 i hi
      · rw [up_ne (by omega), vu_s]
        intro c hc
        rw [vp_updL, if_neg (by omega)]
        exact a11 c hc
theorem p_element (hi : inv X A L) (c i : Int32) : pairL 80 yX10_element cX10_element 3 yX11_element cX11_element 3 [.int c, .int i] X A L := by
  have iS := hi.2.2.2.2.2.2.2.2
  rcases isA_cases (n := 6) (by decide) c with q | ⟨j, hj, rfl⟩
  · exact pairL_fn (c_element_no (d := 78) q) (m_element_no (d := 77) q) hi
  · obtain ⟨h', b', so, ln, a1, a2, a3, a4, a5, a6, a7, a8, a9, a10, a11, a12⟩ := iS j hj
    rcases pfI_cases (h := h') a4 i with hf | ⟨rfl, k, hkl, rfl⟩
    · exact pairL_fn (c_element_f (d := 78) hj a5 a1 a7 a3 a8 a4 hf) (m_element_f (d := 77) hj a9 a1 (fun _ => a2) a3 (fun e => (a10 e).1) a4 hf) hi
    · obtain ⟨b1, b2⟩ := a10 rfl
      have q := m_element (d := 77) (X := X) (L := L) hj a9 a3 b1 a4 hkl
      rw [(b2 k hkl).1] at q
      exact pairL_fn (c_element (d := 78) hj a5 a7 a3 a8 a4 hkl) q hi
theorem p_taken (hi : inv X A L) (c k : Int32) : pairI 80 yX10_taken cX10_taken 4 yX11_taken cX11_taken 4 [.int c, .int k] X A L := by
  obtain ⟨_, _, _, _, _, ⟨nb, r, kd, hH⟩, _, _, iS⟩ := id hi
  obtain ⟨t1, t2, t3, t4, t5, t6, t7, t8, t9, t10⟩ := hH
  by_cases h : isA 6 c = nI 0 ∨ isA 8 k = nI 0
  · exact pair_fn (c_taken_no (d := 78) h) (m_taken_no (d := 78) h) hi
  · rcases isA_cases (n := 6) (by decide) c with q | ⟨j, hj, rfl⟩
    · exact absurd (Or.inl q) h
    · rcases isA_cases (n := 8) (by decide) k with q | ⟨k', hk8, rfl⟩
      · exact absurd (Or.inr q) h
      · obtain ⟨h', b', so, ln, a1, a2, a3, a4, a5, a6, a7, a8, a9, a10, a11, a12⟩ := iS j hj
        rcases (show h' = 0 ∨ h' = 1 ∨ h' = 2 by omega) with rfl | rfl | rfl
        · exact pair_fn (c_taken_0 (d := 78) hj a5 hk8) (m_taken_0 (d := 78) hj hk8 a9) hi
        · obtain ⟨nb', n1, n2, n3⟩ := a12 rfl
          exact pair_fn (c_taken_1 (d := 78) hj a5 n1 n2 t5 (a6 rfl) n3 (t3 _) hk8) (m_taken_1 (d := 78) hj hk8 a9 a2 t8 (t3 _)) hi
        · exact pair_fn (c_taken_2 (d := 78) hj a5 t4 t1 hk8) (m_taken_2 (d := 78) hj hk8 a9 a3) hi
end PR17
