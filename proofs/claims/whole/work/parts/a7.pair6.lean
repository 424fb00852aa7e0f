section PR6
variable {X A X' A' : Nat → Nat → Int32} {L : Nat → Nat → Int64}
theorem inv_K (hi : inv X A L) {K : Nat} (hK : K = 39 ∨ K = 47) {O S : Nat → Int32} (hO : zb 49 O) (hS : zb 49 S) : inv (cX X K O) (cA A K O S) L := by
  obtain ⟨h1, h2, h3, h4, h5, h5b, h7, h8, h9, h10, h11, h12⟩ := id hi.1
  have eX : ∀ c, c ≠ K → cX X K O c = X c := fun c hc => cX_n _ _ hc
  have eA : ∀ c, ¬ (K < c ∧ c ≤ K + 3) → cA A K O S c = A c := fun c hc => cA_n _ _ _ (by omega) (by omega) (by omega)
  have hc := cok_c (X := X) (A := A) (K := K) hO hS
  have h39 : cok (cX X K O) (cA A K O S) 39 := by
    rcases hK with rfl | rfl
    · exact hc
    · exact cok_i h2 (eX _ (by decide)) (eA _ (by decide)) (eA _ (by decide)) (eA _ (by decide))
  have h47 : cok (cX X K O) (cA A K O S) 47 := by
    rcases hK with rfl | rfl
    · exact cok_i h3 (eX _ (by decide)) (eA _ (by decide)) (eA _ (by decide)) (eA _ (by decide))
    · exact hc
  exact inv_s hi (fun c hc => eX c (by unfold gX1 at hc; omega)) h39 h47 (fun q _ => by rw [eX 76 (by omega)]) (fun c hc => eA c (by unfold gA1 at hc; omega)) (by rw [eA _ (by omega)]; exact h7) (by rw [eA _ (by omega)]; exact h8) (iO_c hi.2.2.2.2.2.2.2.1 (eA _ (by omega)) (eA _ (by omega)))
theorem inv_X (hi : inv X A L) {c : Nat} {u : Nat → Int32} (hc : c = 35 ∨ c = 57) : inv (va_up X c u) A L := by
  obtain ⟨h1, h2, h3, h4, h5, h5b, h7, h8, h9, h10, h11, h12⟩ := id hi.1
  have e : ∀ q, q ≠ c → va_up X c u q = X q := fun q hq => vu_n _ _ _ hq
  exact inv_s hi (fun q hq => e q (by unfold gX1 at hq; omega)) (cok_i h2 (e _ (by omega)) rfl rfl rfl) (cok_i h3 (e _ (by omega)) rfl rfl rfl) (fun q _ => by rw [e 76 (by omega)]) (fun _ _ => rfl) h7 h8 hi.2.2.2.2.2.2.2.1
theorem inv_37 (hi : inv X A L) {p : Nat → Nat} {c : Nat} (hc : c = 37 ∨ c = 90) : inv X (va_up A c (nIf p)) L := by
  obtain ⟨h1, h2, h3, h4, h5, h5b, h7, h8, h9, h10, h11, h12⟩ := id hi.1
  have e : ∀ q, q ≠ c → va_up A c (nIf p) q = A q := fun q hq => vu_n _ _ _ hq
  obtain ⟨⟨p1, q1⟩, ⟨p2, q2⟩⟩ := hi.2.2.2.2.2.2.2.1
  refine inv_s hi (fun _ _ => rfl) (cok_i h2 rfl (e _ (by omega)) (e _ (by omega)) (e _ (by omega))) (cok_i h3 rfl (e _ (by omega)) (e _ (by omega)) (e _ (by omega))) (fun _ _ => rfl) (fun q hq => e q (by unfold gA1 at hq; omega)) (by rw [e _ (by omega)]; exact h7) (by rw [e _ (by omega)]; exact h8) ?_
  rcases hc with rfl | rfl
  · exact ⟨⟨p, vu_s _ _ _⟩, ⟨p2, by rw [e _ (by decide)]; exact q2⟩⟩
  · exact ⟨⟨p1, by rw [e _ (by decide)]; exact q1⟩, ⟨p, vu_s _ _ _⟩⟩
theorem p_where (hi : inv X A L) (a : Int32) : pairI 80 yX10_where cX10_where 2 yX11_where cX11_where 2 [.int a] X A L := by
  obtain ⟨B, cd, vl, st, an, en, n, na, v, td, tm, tx, hr, hm, hk, v6, v7, vi⟩ := inv_rul hi
  by_cases h0 : a < 0
  · exact pair_fn (c_where_neg (d := 76) h0) (m_where_neg (d := 27) h0) hi
  · obtain ⟨k, hk31, rfl⟩ := nI_nn h0
    cases hs : slA na (nI (k / 10)) (nI (k % 10)) with
    | false => exact pair_fn (c_where_no (d := 76) hr hk31 hs) (m_where_no (d := 27) hm hk31 hs) hi
    | true =>
      obtain ⟨⟨k', hk', e'⟩, _⟩ := slA_in hm.2.2.2.2.2.2.1 hs
      have hB := hr.1
      have hB2 := hB
      unfold isB at hB2
      obtain ⟨h1, h2, h3, h4, h5, h5b, h7, h8, h9, h10, h11, h12⟩ := id hi.1
      refine ⟨_, _, c_where (d := 76) hr h1 hk31 hs, fun w hw => ?_⟩
      obtain ⟨f, g, rfl⟩ := hw
      have hz := inv_z hi hB (f := f) (g := g)
      have e82 : scr A B f g 82 = A 44 := by rw [scr_n _ _ _ _ (by omega) (by omega)]; exact h5
      have e83 : scr A B f g 83 = A 45 := by rw [scr_n _ _ _ _ (by omega) (by omega)]; exact h5b
      have q := m_where (d := 27) (L := L) (mrul_c hm rfl rfl (scr_n A B f g (by omega) (by omega)) (scr_n A B f g (by omega) (by omega))) (by rw [e82]; exact h1.1) (by rw [e83]; exact h1.2.1) (by rw [scr_n _ _ _ _ (by omega) (by omega)]; exact h7) (by rw [scr_n _ _ _ _ (by omega) (by omega)]; exact h8) (by rw [e82]; exact h9) hk31 hs
      have ep : seP (RkM td tm tx v) (scr A B f g 82, scr A B f g 83) (nI (k / 10)) (nI (k % 10)) = seP (RkC cd vl st an en n v) (A 44, A 45) (nI (k / 10)) (nI (k % 10)) := by
        rw [e82, e83, e', seP_cg hk hk']
      rw [ep] at q
      refine ⟨⟨_, _, _, rfl⟩, _, q, fun w' hw' => ?_⟩
      obtain ⟨y, N, rfl⟩ := hw'
      exact ⟨_, _, _, rfl, inv_zX (inv_m (inv_88 hz (Or.inl rfl)) (by rw [e82]; exact h1.1) (by rw [e83]; exact h1.2.1))⟩
end PR6
