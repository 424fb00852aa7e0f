section PR12
variable {X A X' A' : Nat → Nat → Int32} {L : Nat → Nat → Int64}
theorem p_body (hi : inv X A L) (a : Int32) : pairI 80 yX10_body cX10_body 2 yX11_body cX11_body 2 [.int a] X A L := by
  rcases isA_cases (n := 8) (by decide) a with q | ⟨k, hk, rfl⟩
  · exact pair_fn (c_body_no (d := 79) q) (m_body_no (d := 79) q) hi
  · obtain ⟨iC1, ⟨na, v, hV⟩, ⟨dn, kp, pl, bf, af, hD⟩, iI1, ⟨tl, tp, hT⟩, ⟨nb, r, kd, hH⟩, ⟨B, G, cd, vl, st, an, en, n, td, tm, tx, f, k', hL⟩, iO1, iS⟩ := id hi
    obtain ⟨t1, t2, t3, t4, t5, t6, t7, t8, t9, t10⟩ := id hH
    by_cases h50 : nb = 50
    · subst h50
      exact pair_fn (c_body_full (d := 79) t4 hk) (m_body_full (d := 79) t7 hk) hi
    · have hlt : nb < 50 := by omega
      refine pair_fn (c_body (d := 79) t4 t1 t5 hlt hk) (m_body (d := 79) (kd := kd) (by rw [up_ne (by decide)]; exact t7) t1 (by rw [up_ne (by decide)]; exact t8) hlt hk) ?_
      have eX : ∀ c, c ≠ 60 → c ≠ 76 → (va_up (va_up X 60 (upd (X 60) 1 (nI (nb + 1)))) 76 (upd (va_up X 60 (upd (X 60) 1 (nI (nb + 1))) 76) 36 (nI (nb + 1)))) c = X c := fun c h1 h2 => by rw [up_ne h2, up_ne h1]
      have e76 : ∀ q, q ≠ 36 → (va_up (va_up X 60 (upd (X 60) 1 (nI (nb + 1)))) 76 (upd (va_up X 60 (upd (X 60) 1 (nI (nb + 1))) 76) 36 (nI (nb + 1)))) 76 q = X 76 q := fun q hq => by rw [vu_s, ud_n _ _ _ hq, up_ne (by decide)]
      have eA : ∀ q, q ≠ 61 → q ≠ 98 → (va_up (va_up A 61 (nIf (updN kd nb k))) 98 (nIf (updN kd nb k))) q = A q := fun q h1 h2 => by rw [up_ne h2, up_ne h1]
      refine ⟨iC_c iC1 (fun c hc => eX c (by omega) (by omega)) (fun c hc => by unfold cC at hc; exact eA c (by omega) (by omega)), ⟨na, v, iV_c hV (by rw [eX 10 (by decide) (by decide)]) (eA _ (by decide) (by decide)) (e76 _ (by decide)) (eA _ (by decide) (by decide))⟩, ⟨dn, kp, pl, bf, af, iD_c hD (by rw [eX 10 (by decide) (by decide)]) (by rw [eX 10 (by decide) (by decide)]) (e76 _ (by decide)) (e76 _ (by decide)) (fun c hc => eA c (by omega) (by omega))⟩,
        iI_c iI1 (by rw [eX 4 (by decide) (by decide)]) (e76 _ (by decide)) (fun c hc => eA c (by omega) (by omega)), ⟨tl, tp, iT_c hT (by rw [eX 16 (by decide) (by decide)]) (e76 _ (by decide)) (eA _ (by decide) (by decide)) (eA _ (by decide) (by decide))⟩, ⟨nb + 1, r, updN kd nb k, by omega, t2, fun i => ?_, ?_, ?_, ?_, ?_, ?_, ?_, ?_⟩,
        ⟨B, G, cd, vl, st, an, en, n, td, tm, tx, f, k', iL_c hL (fun c hc => eX c (by omega) (by omega)) (fun q h1 h2 => by rw [eX 16 (by decide) (by decide)]) (e76 _ (by decide)) (fun c hc => eA c (by omega) (by omega))⟩, iO_c iO1 (eA _ (by decide) (by decide)) (eA _ (by decide) (by decide)), fun j hj => iS1_c (iS j hj) (eX _ (by omega) (by omega)) (by rw [eA _ (by decide) (by decide)]) (by rw [eA _ (by decide) (by decide)]) (fun _ _ => rfl) rfl (fun nb' q1 q2 => ⟨nb + 1, by rw [up_ne (by decide), vu_s, ud_s], by omega, ?_⟩)⟩
      · rw [updN_at]
        split
        · exact hk
        · exact t3 i
      · rw [up_ne (by decide), vu_s, ud_s]
      · rw [up_ne (by decide), vu_s]
      · rw [up_ne (by decide), vu_s, ud_n _ _ _ (by decide)]; exact t6
      · rw [vu_s, ud_s]
      · rw [vu_s]
      · rw [e76 _ (by decide)]; exact t9
      · rw [eA _ (by decide) (by decide), eA _ (by decide) (by decide)]; exact t10
      · have q : nb' = nb := (nI_eq (by omega) (by omega)).mp (q1.symm.trans t4)
        omega
end PR12
