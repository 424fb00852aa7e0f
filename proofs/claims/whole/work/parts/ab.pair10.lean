section PR10
variable {X A X' A' : Nat → Nat → Int32} {L : Nat → Nat → Int64}
/-- only settings have changed -/
theorem inv_VD (hi : inv X A L) (hV : ∃ na v, iV X' A' na v) (hD : ∃ dn kp pl bf af, iD X' A' dn kp pl bf af) (hX : ∀ c, c ≠ 10 → c ≠ 76 → X' c = X c) (h76 : ∀ q, q ≠ 4 → q ≠ 5 → q ≠ 7 → X' 76 q = X 76 q) (hA : ∀ c, ¬ (10 < c ∧ c < 15) → ¬ (76 < c ∧ c < 81) → A' c = A c) : inv X' A' L := by
  obtain ⟨iC1, _, _, iI1, ⟨tl, tp, hT⟩, ⟨nb, r, kd, hH⟩, ⟨B, G, cd, vl, st, an, en, n, td, tm, tx, f, k, hL⟩, iO1, iS⟩ := hi
  have hX2 : ∀ c, c ≠ 10 → c ≠ 76 → ∀ q, X' c q = X c q := fun c h1 h2 q => by rw [hX c h1 h2]
  exact ⟨iC_c iC1 (fun c hc => hX c (by omega) (by omega)) (fun c hc => by unfold cC at hc; exact hA c (by omega) (by omega)), hV, hD,
    iI_c iI1 (hX2 _ (by decide) (by decide) _) (h76 _ (by decide) (by decide) (by decide)) (fun c hc => hA c (by omega) (by omega)),
    ⟨tl, tp, iT_c hT (hX2 _ (by decide) (by decide) _) (h76 _ (by decide) (by decide) (by decide)) (hA _ (by decide) (by decide)) (hA _ (by decide) (by decide))⟩,
    ⟨nb, r, kd, iH_c hH (hX _ (by decide) (by decide)) (h76 _ (by decide) (by decide) (by decide)) (h76 _ (by decide) (by decide) (by decide)) (fun c hc => hA c (by omega) (by omega))⟩,
    ⟨B, G, cd, vl, st, an, en, n, td, tm, tx, f, k, iL_c hL (fun c hc => hX c (by omega) (by omega)) (fun q _ _ => hX2 _ (by decide) (by decide) _) (h76 _ (by decide) (by decide) (by decide)) (fun c hc => hA c (by omega) (by omega))⟩,
    iO_c iO1 (hA _ (by decide) (by decide)) (hA _ (by decide) (by decide)), iS_c iS (fun c a b => hX c (by omega) (by omega)) (hA _ (by decide) (by decide)) (hA _ (by decide) (by decide)) rfl (hX2 _ (by decide) (by decide) _)⟩
theorem p_account (hi : inv X A L) (a : Int32) : pairI 80 yX10_account cX10_account 2 yX11_account cX11_account 2 [.int a] X A L := by
  rcases isc_cases a with q | ⟨j, hj, rfl⟩
  · exact pair_fn (c_account_no (d := 79) q) (m_account_no (d := 78) q) hi
  · obtain ⟨B, cd, vl, st, an, en, n, na0, v0, td, tm, tx, hr, hm, hk, v6, v7, vi⟩ := inv_rul hi
    have hn := hm.2.2.2.2.2.1
    have h6 := hm.2.2.2.2.2.2.1
    by_cases h : na0 = 6
    · exact pair_fn (c_account_full (d := 79) hr h hj) (m_account_full (d := 78) hn h6 h hj) hi
    · have hlt : na0 < 6 := by omega
      obtain ⟨_, _, ⟨dn, kp, pl, bf, af, hD⟩, _⟩ := id hi
      have e10 : X 10 1 = nI na0 := hr.2.2.2.2.2.2.2.2.2.1
      refine pair_fn (c_account (d := 79) hr hlt hj) (m_account (d := 78) (v := v0) (by rw [up_ne (by decide)]; exact hn) h6 (by rw [up_ne (by decide)]; exact hm.1) hlt hj) (inv_VD hi ⟨na0 + 1, updN v0 na0 j, by omega, ?_, ?_, ?_, ?_, fun i hi6 => ?_, ?_, ?_⟩ ⟨dn, kp, pl, bf, af, iD_c hD ?_ ?_ ?_ ?_ (fun c hc => ?_)⟩ (fun c h1 h2 => ?_) (fun q h4 h5 h7 => ?_) (fun c h1 h2 => ?_))
      · rw [up_ne (by decide), vu_s, ud_s]
      · rw [up_ne (by decide), vu_s]
      · rw [vu_s, ud_s]
      · rw [vu_s]
      · rw [updN_at]
        split
        · exact hj
        · exact vi i hi6
      · rw [updN_at, if_neg (by omega)]; exact v6
      · rw [updN_at, if_neg (by omega)]; exact v7
      · rw [up_ne (by decide), vu_s, ud_n _ _ _ (by decide)]
      · rw [up_ne (by decide), vu_s, ud_n _ _ _ (by decide)]
      · rw [vu_s, ud_n _ _ _ (by decide), up_ne (by decide)]
      · rw [vu_s, ud_n _ _ _ (by decide), up_ne (by decide)]
      · rw [up_ne (by omega), up_ne (by omega)]
      · rw [up_ne h2, up_ne h1]
      · rw [vu_s, ud_n _ _ _ h7, up_ne (by decide)]
      · rw [up_ne (by omega), up_ne (by omega)]
end PR10
