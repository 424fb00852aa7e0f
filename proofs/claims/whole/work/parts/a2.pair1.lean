section PR1
variable {X A : Nat → Nat → Int32} {L : Nat → Nat → Int64}
theorem p_far (hi : inv X A L) (a b : Int32) : pairI 80 yX10_far cX10_far 3 yX11_far cX11_far 3 [.int a, .int b] X A L := by
  by_cases h : isc a = nI 0 ∨ isc b = nI 0
  · exact pair_fn (c_far_no (d := 78) h) (m_far_no (d := 78) h) hi
  · rcases isc_cases a with q | ⟨j, hj, rfl⟩
    · exact absurd (Or.inl q) h
    · rcases isc_cases b with q | ⟨k, hk, rfl⟩
      · exact absurd (Or.inr q) h
      · exact pair_fn (c_far (d := 78) hj hk) (m_far (d := 78) hj hk) hi
theorem p_led (hi : inv X A L) (a : Int32) : pairI 80 yX10_led cX10_led 2 yX11_led cX11_led 2 [.int a] X A L := by
  rcases isA_cases (n := 6) (by decide) a with q | ⟨j, hj, rfl⟩
  · exact pair_fn (c_led_no (d := 80) q) (m_led_no (d := 79) q) hi
  · have e : A 94 j = A 55 j := by rw [hi.1.2.2.2.2.2.2.2.2.2.2.1]
    refine pair_fn (c_led (d := 80) hj) ?_ hi
    rw [← e]
    exact m_led (d := 79) hj
/-- two cells of ints, one of rows each, changed: the other groups stay -/
theorem iS_c {X' A' : Nat → Nat → Int32} {L' : Nat → Nat → Int64} (h : ∀ j, j < 6 → iS1 X A L j) (hX : ∀ c, 63 < c → c < 76 → X' c = X c) (h1 : A' 100 = A 100) (h2 : A' 101 = A 101) (hL : L' = L) (h6 : X' 60 1 = X 60 1) : ∀ j, j < 6 → iS1 X' A' L' j := fun j hj => iS1_c (h j hj) (hX _ (by omega) (by omega)) (by rw [h1]) (by rw [h2]) (fun i _ => by rw [hL]) (by rw [hL]) (fun nb q1 q2 => ⟨nb, by rw [h6]; exact q1, q2, Nat.le_refl _⟩)
theorem p_feed (hi : inv X A L) (a : Int32) : pairI 80 yX10_feed cX10_feed 2 yX11_feed cX11_feed 2 [.int a] X A L := by
  by_cases h : a < 0 ∨ nI 255 < a
  · exact pair_fn (c_feed_no (d := 78) h) (m_feed_no (d := 79) h) hi
  · obtain ⟨c, hc31, rfl⟩ := nI_nn (c := a) (fun q => h (Or.inl q))
    have hc : c ≤ 255 := Nat.le_of_not_lt fun q => h (Or.inr ((nI_ltI (by decide) hc31).mpr q))
    obtain ⟨iC1, ⟨na, v, hV⟩, ⟨dn, kp, pl, bf, af, hD⟩, iI1, ⟨tl, tp, hT⟩, ⟨nb, r, kd, hH⟩, ⟨B, G, cd, vl, st, an, en, n, td, tm, tx, f, k, hL⟩, iO1, iS⟩ := hi
    obtain ⟨t1, t2, t3, t4, t5, t6⟩ := id hT
    by_cases h120 : tl = 120
    · subst h120
      exact pair_fn (c_feed_full (d := 78) hc t3) (m_feed_full (d := 79) hc t5) ⟨iC1, ⟨na, v, hV⟩, ⟨dn, kp, pl, bf, af, hD⟩, iI1, ⟨_, tp, hT⟩, ⟨nb, r, kd, hH⟩, ⟨B, G, cd, vl, st, an, en, n, td, tm, tx, f, k, hL⟩, iO1, iS⟩
    · have g5 : va_up X 16 (upd (X 16) 1 (nI (tl + 1))) 76 13 = nI tl := by rw [up_ne (by decide)]; exact t5
      refine pair_fn (c_feed (d := 78) hc t3 (by omega)) (m_feed (d := 79) hc g5 (by omega)) ?_
      have eX : ∀ c, c ≠ 16 → c ≠ 76 → (va_up (va_up X 16 (upd (X 16) 1 (nI (tl + 1)))) 76 (upd (va_up X 16 (upd (X 16) 1 (nI (tl + 1))) 76) 13 (nI (tl + 1)))) c = X c := fun c h1 h2 => by rw [up_ne h2, up_ne h1]
      have e76 : ∀ q, q ≠ 13 → (va_up (va_up X 16 (upd (X 16) 1 (nI (tl + 1)))) 76 (upd (va_up X 16 (upd (X 16) 1 (nI (tl + 1))) 76) 13 (nI (tl + 1)))) 76 q = X 76 q := fun q hq => by rw [vu_s, ud_n _ _ _ hq, up_ne (by decide)]
      have e16 : ∀ q, q ≠ 1 → (va_up (va_up X 16 (upd (X 16) 1 (nI (tl + 1)))) 76 (upd (va_up X 16 (upd (X 16) 1 (nI (tl + 1))) 76) 13 (nI (tl + 1)))) 16 q = X 16 q := fun q hq => by rw [up_ne (by decide), vu_s, ud_n _ _ _ hq]
      have eA : ∀ q, q ≠ 17 → q ≠ 86 → (va_up (va_up A 17 (upd (A 17) tl (nI c))) 86 (upd (va_up A 17 (upd (A 17) tl (nI c)) 86) tl (nI c))) q = A q := fun q h1 h2 => by rw [up_ne h2, up_ne h1]
      refine ⟨iC_c iC1 (fun c hc => eX c (by omega) (by omega)) (fun c hc => by unfold cC at hc; exact eA c (by omega) (by omega)), ⟨na, v, iV_c hV (by rw [eX 10 (by decide) (by decide)]) (eA _ (by decide) (by decide)) (e76 _ (by decide)) (eA _ (by decide) (by decide))⟩, ⟨dn, kp, pl, bf, af, iD_c hD (by rw [eX 10 (by decide) (by decide)]) (by rw [eX 10 (by decide) (by decide)]) (e76 _ (by decide)) (e76 _ (by decide)) (fun c hc => eA c (by omega) (by omega))⟩,
        iI_c iI1 (by rw [eX 4 (by decide) (by decide)]) (e76 _ (by decide)) (fun c hc => eA c (by omega) (by omega)), ⟨tl + 1, updN tp tl c, by omega, fun i => ?_, ?_, ?_, ?_, ?_⟩, ⟨nb, r, kd, iH_c hH (eX _ (by decide) (by decide)) (e76 _ (by decide)) (e76 _ (by decide)) (fun c hc => eA c (by omega) (by omega))⟩,
        ⟨B, G, cd, vl, st, an, en, n, td, tm, tx, f, k, iL_c hL (fun c hc => eX c (by omega) (by omega)) (fun q h1 h2 => e16 q (by omega)) (e76 _ (by decide)) (fun c hc => eA c (by omega) (by omega))⟩, iO_c iO1 (eA _ (by decide) (by decide)) (eA _ (by decide) (by decide)), iS_c iS (fun c h1 h2 => eX c (by omega) (by omega)) (eA _ (by decide) (by decide)) (eA _ (by decide) (by decide)) rfl (by rw [eX 60 (by decide) (by decide)])⟩
      · rw [updN_at]
        split
        · omega
        · exact t2 i
      · rw [up_ne (by decide), vu_s, ud_s]
      · rw [up_ne (by decide), vu_s, t4, upd_nIf]
      · rw [vu_s, ud_s]
      · rw [vu_s, up_ne (by decide), t6, upd_nIf]
end PR1
