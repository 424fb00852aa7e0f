section PR5
variable {X A X' A' : Nat → Nat → Int32} {L : Nat → Nat → Int64}
theorem p_of (hi : inv X A L) (a t : Int32) : pairI 80 yX10_of cX10_of 3 yX11_of cX11_of 4 [.int a, .int t] X A L := by
  obtain ⟨B, cd, vl, st, an, en, n, na, v, td, tm, tx, hr, hm, hk, v6, v7, vi⟩ := inv_rul hi
  have hn := hm.2.2.2.2.2.1
  have h6 := hm.2.2.2.2.2.2.1
  obtain ⟨h1, h2, h3, h4, h5, h5b, h7, h8, h9, h10, h11, h12⟩ := id hi.1
  have z1 : zb 49 (A 82) := by rw [h5]; exact h1.1
  have z2 : zb 49 (A 83) := by rw [h5b]; exact h1.2.1
  by_cases e3 : t = nI 3
  · subst e3
    rcases isA_cases (n := na) (by omega) a with q | ⟨k, hkn, rfl⟩
    · exact pair_fn (c_of_bal_no (d := 76) hr q) (m_of_bal_no (d := 77) hn h6 z1 z2 h7 h8 q) (inv_m0 hi)
    · have q := m_of_bal (d := 77) (L := L) hn h6 z1 z2 h7 h8 hkn
      rw [show balS (A 82) (A 83) (nI k) 49 = balS (A 44) (A 45) (nI k) 49 from by rw [h5, h5b]] at q
      exact pair_fn (c_of_bal (d := 76) hr hkn) q (inv_m0 hi)
  · rcases isT_cases (n := na) (by omega) a t with h | ⟨j, u, rfl, rfl, hju⟩
    · exact pair_fn (c_of_no (d := 76) hr e3 h) (m_of_no (d := 77) hn h6 z1 z2 h7 h8 e3 h) (inv_m0 hi)
    · exact pair_fn (c_of (d := 76) hr hju) (m_of (d := 77) hn h6 hm.1 hju) hi
/-- the class's law leaves its names and its stack; the reference's its reading -/
theorem inv_z (hi : inv X A L) {B : Nat} (hB : isB B) {f g : Nat → Int32} : inv X (scr A B f g) L := by
  obtain ⟨h1, h2, h3, h4, h5, h5b, h7, h8, h9, h10, h11, h12⟩ := id hi.1
  have hB2 := hB
  unfold isB at hB2
  refine inv_s hi (fun _ _ => rfl) (cok_scr hB (by unfold isK; omega) h2) (cok_scr hB (by unfold isK; omega) h3) (fun _ _ => rfl) (fun c hc => scr_n _ _ _ _ (by unfold gA1 at hc; omega) (by unfold gA1 at hc; omega)) (by rw [scr_n _ _ _ _ (by omega) (by omega)]; exact h7) (by rw [scr_n _ _ _ _ (by omega) (by omega)]; exact h8) (iO_c hi.2.2.2.2.2.2.2.1 (scr_n _ _ _ _ (by omega) (by omega)) (scr_n _ _ _ _ (by omega) (by omega)))
theorem inv_zX (hi : inv X A L) {y : Nat → Int32} : inv (zX X y) A L := by
  obtain ⟨h1, h2, h3, h4, h5, h5b, h7, h8, h9, h10, h11, h12⟩ := id hi.1
  have e : ∀ c, c ≠ 76 → zX X y c = X c := fun c hc => by unfold zX; exact vu_n _ _ _ hc
  exact inv_s hi (fun c hc => e c (by unfold gX1 at hc; omega)) (cok_i h2 (e _ (by decide)) rfl rfl rfl) (cok_i h3 (e _ (by decide)) rfl rfl rfl) (fun q hq => zX_n (by unfold g76 at hq; omega)) (fun _ _ => rfl) h7 h8 hi.2.2.2.2.2.2.2.1
theorem inv_88 (hi : inv X A L) {N : Nat → Int32} {c : Nat} (hc : c = 88 ∨ c = 89 ∨ c = 91 ∨ c = 92 ∨ c = 93 ∨ c = 36 ∨ c = 38 ∨ c = 58 ∨ c = 59) : inv X (va_up A c N) L := by
  obtain ⟨h1, h2, h3, h4, h5, h5b, h7, h8, h9, h10, h11, h12⟩ := id hi.1
  have e : ∀ q, q ≠ c → va_up A c N q = A q := fun q hq => vu_n _ _ _ hq
  exact inv_s hi (fun _ _ => rfl) (cok_i h2 rfl (e _ (by omega)) (e _ (by omega)) (e _ (by omega))) (cok_i h3 rfl (e _ (by omega)) (e _ (by omega)) (e _ (by omega))) (fun _ _ => rfl) (fun q hq => e q (by unfold gA1 at hq; omega)) (by rw [e _ (by omega)]; exact h7) (by rw [e _ (by omega)]; exact h8) (iO_c hi.2.2.2.2.2.2.2.1 (e _ (by omega)) (e _ (by omega)))
end PR5
