section PR23
variable {X A X' A' : Nat → Nat → Int32} {L : Nat → Nat → Int64}
theorem pair_fz {D : Nat} {m1 : MethodName} {c1 : ByteArray} {n1 : Nat} {m2 : MethodName} {c2 : ByteArray} {n2 : Nat} {As : List Value} {z z' : Int32} {X1 A1 X2 A2 : Nat → Nat → Int32} {L1 L2 : Nat → Nat → Int64} (h1 : jMet D m1 c1 n1 (some .int) 0 0 (.ref 4 :: As) (tw X A L) (jRi z (tw X1 A1 L1))) (h2 : jMet D m2 c2 n2 (some .int) 0 0 (.ref 76 :: As) (tw X1 A1 L1) (jRi z' (tw X2 A2 L2))) (e : z' = z) (hi : inv X2 A2 L2) : pairI D m1 c1 n1 m2 c2 n2 As X A L := by
  subst e
  exact pair_fn h1 h2 hi
theorem isA_cases3 {n : Nat} (hn : n < 2 ^ 31) (c : Int32) : isA n c = nI 0 ∨ ∃ j, j < n ∧ c = nI j := by
  by_cases h0 : c < 0
  · exact Or.inl (by unfold isA; rw [if_pos h0])
  · obtain ⟨k, hk31, rfl⟩ := nI_nn h0
    by_cases h : k < n
    · exact Or.inr ⟨k, h, rfl⟩
    · left
      unfold isA
      rw [if_neg h0, if_pos ((nI_leI hn hk31).mpr (by omega))]
theorem inv_gX (hi : inv X A L) {g t : Nat} {e : Int32} : inv (gX X g e t) A L := by
  obtain ⟨h1, h2, h3, h4, h5, h5b, h7, h8, h9, h10, h11, h12⟩ := id hi.1
  have n : ∀ c, c ≠ 76 → gX X g e t c = X c := fun c hc => by unfold gX; rw [up_ne hc]
  exact inv_s hi (fun c hc => n c (by unfold gX1 at hc; omega)) (cok_i h2 (n _ (by decide)) rfl rfl rfl) (cok_i h3 (n _ (by decide)) rfl rfl rfl) (fun q hq => by unfold g76 at hq; unfold gX; rw [vu_s, ud_n _ _ _ (by omega), ud_n _ _ _ (by omega), ud_n _ _ _ (by omega)]) (fun _ _ => rfl) h7 h8 hi.2.2.2.2.2.2.2.1
theorem tk_ok {na : Nat} {v : Nat → Nat} {j ln g : Nat} {E : Nat → Int32} {a bal : Int32} (hi : inv X A L) (hn : X 76 7 = nI na) (a9 : A 100 j = nI 50) (b1 : A 101 j = nI ln) : ∃ X1 A1, tkX X (A 44) (A 45) E a bal g = X1 ∧ tkA A (A 45) E g = A1 ∧ inv X1 A1 L ∧ X1 76 7 = nI na ∧ A1 82 = A 44 ∧ A1 83 = A 45 ∧ zb 49 (A1 84) ∧ zb 49 (A1 85) ∧ A1 100 j = nI 50 ∧ A1 101 j = nI ln := by
  obtain ⟨h1, h2, h3, h4, h5, h5b, h7, h8, h9, h10, h11, h12⟩ := id hi.1
  have nA : ∀ c, c ≠ 58 → c ≠ 59 → tkA A (A 45) E g c = A c := fun c q1 q2 => by unfold tkA; rw [up_ne q1, up_ne q2]
  refine ⟨_, _, rfl, rfl, inv_88 (inv_88 (inv_X hi (Or.inr rfl)) (by omega)) (by omega), ?_, ?_, ?_, ?_, ?_, ?_, ?_⟩
  · unfold tkX; rw [up_ne (by decide)]; exact hn
  · rw [nA _ (by decide) (by decide)]; exact h5
  · rw [nA _ (by decide) (by decide)]; exact h5b
  · rw [nA _ (by decide) (by decide)]; exact h7
  · rw [nA _ (by decide) (by decide)]; exact h8
  · rw [nA _ (by decide) (by decide)]; exact a9
  · rw [nA _ (by decide) (by decide)]; exact b1
theorem p_read (hi : inv X A L) (c a x q : Int32) : pairI 80 yX10_read cX10_read 6 yX11_read cX11_read 9 [.int c, .int a, .int x, .int q] X A L := by
  obtain ⟨B, cd, vl, st, an, en, n, na, v, td, tm, tx, hr, hm, hk, v6, v7, vi⟩ := inv_rul hi
  have hn := hm.2.2.2.2.2.1
  have h6 := hm.2.2.2.2.2.2.1
  have iS := hi.2.2.2.2.2.2.2.2
  obtain ⟨h1, h2, h3, h4, h5, h5b, h7, h8, h9, h10, h11, h12⟩ := id hi.1
  rcases isA_cases (n := 6) (by decide) c with e | ⟨j, hj, rfl⟩
  · exact pair_fn (c_read_no (d := 76) hr (Or.inl e)) (m_read_no (d := 77) e) hi
  · obtain ⟨h', b', so, ln, a1, a2, a3, a4, a5, a6, a7, a8, a9, a10, a11, a12⟩ := iS j hj
    by_cases hx : isA na a = nI 0 ∨ isA 300 x = nI 0 ∨ isA 3 q = nI 0
    · rcases bf_cases h' so with hf | ⟨rfl, rfl⟩
      · exact pair_fn (c_read_no (d := 76) hr (Or.inr hx)) (m_read_x0 (d := 77) hn h6 hj a9 a1 (fun _ => a2) a3 hf hx) hi
      · exact pair_fn (c_read_no (d := 76) hr (Or.inr hx)) (m_read_x1 (d := 77) hn h6 hj a9 hx) hi
    · rcases isA_cases (n := na) (by omega) a with e | ⟨k, hkn, rfl⟩
      · exact absurd (Or.inl e) hx
      · rcases isA_cases3 (n := 300) (by decide) x with e | ⟨x, hx300, rfl⟩
        · exact absurd (Or.inr (Or.inl e)) hx
        · have hy : isA 3 q ≠ nI 0 := fun e => hx (Or.inr (Or.inr e))
          rcases isA_cases (n := 3) (by decide) q with e | ⟨t, ht, rfl⟩
          · exact absurd e hy
          · rcases bf_cases h' so with hf | ⟨rfl, rfl⟩
            · exact pair_fn (c_read_f (d := 76) hr hj a5 a1 a7 a3 hf hkn hx300 ht) (m_read_f (d := 77) hn h6 hj a9 a1 (fun _ => a2) a3 hf hkn hx300 ht) hi
            · obtain ⟨b1, b2⟩ := a10 rfl
              have hE := row_E b2
              have c0 := c_read_0 (d := 76) (L := L) hr h1 hj a5 a7 a8 a4 hkn hx300
              have c1 := c_read_1 (d := 76) (L := L) hr h1 hj a5 a7 a8 a4 hkn hx300
              have c2 := c_read_2 (d := 76) (L := L) hr h1 hj a5 a7 a8 a4 hkn hx300
              obtain ⟨X1, A1, eX, eA, i1, e7, e82, e83, z84, z85, e100, e101⟩ := tk_ok (v := v) (g := gC (A 44) (rE L (64 + 2 * j)) ln) (E := rE L (64 + 2 * j)) (a := nI k) (bal := balS (A 44) (A 45) (nI k) 49) hi hn a9 b1
              rw [eX, eA] at c0 c1 c2
              have q := m_read (d := 77) (X := X1) (A := A1) (L := L) e7 h6 (by rw [e82]; exact h1.1) (by rw [e83]; exact h1.2.1) z84 z85 (by rw [e82]; exact h9) hj e100 e101 a4 hE hkn hx300 hy
              rw [e82, e83] at q
              generalize rE L (64 + 2 * j) = E at *
              generalize gC (A 44) E ln = g at *
              generalize rsS (A 44) (A 45) E (nI k) (balS (A 44) (A 45) (nI k) 49) g = r at *
              have hp : ∀ s, s < 2 ^ g → (fun s => decide (r + (ssF (A 59) (A 45) E g) s = nI x)) s = (fun s => decide (r + ssum (A 45) E s g = nI x)) s := fun s hs => by
                show decide (r + ssF (A 59) (A 45) E g s = nI x) = decide (r + ssum (A 45) E s g = nI x)
                rw [ssF_at hs]
              have hfin : inv (gX X1 g r (trS (A 44) E (nI k) g)) (va_up (mA A1 (A 44) (A 45)) 92 (csF (A1 92) E g)) L := inv_gX (inv_88 (inv_m i1 h1.1 h1.2.1) (by omega))
              rcases (show t = 0 ∨ t = 1 ∨ t = 2 by omega) with rfl | rfl | rfl
              · refine pair_fz c0 q ?_ hfin
                rw [if_pos (show nI 0 = 0 from rfl)]
                exact congrArg nI (cnt_cg _ hp).symm
              · refine pair_fz c1 q ?_ hfin
                rw [if_neg (by decide), if_pos rfl, sure_eq, cnt_cg _ hp, sureS_cg _ hp]
              · refine pair_fz c2 q ?_ hfin
                rw [if_neg (by decide), if_neg (by decide), fiS_eq]
                exact congrArg oN (fsF_cg (fun s _ h => (hp s (by omega)).symm))
theorem p_open (hi : inv X A L) (c a : Int32) : pairI 80 yX10_open cX10_open 4 yX11_open cX11_open 8 [.int c, .int a] X A L := by
  obtain ⟨B, cd, vl, st, an, en, n, na, v, td, tm, tx, hr, hm, hk, v6, v7, vi⟩ := inv_rul hi
  have hn := hm.2.2.2.2.2.1
  have h6 := hm.2.2.2.2.2.2.1
  have iS := hi.2.2.2.2.2.2.2.2
  obtain ⟨h1, h2, h3, h4, h5, h5b, h7, h8, h9, h10, h11, h12⟩ := id hi.1
  rcases isA_cases (n := 6) (by decide) c with e | ⟨j, hj, rfl⟩
  · exact pair_fn (c_open_no (d := 76) hr (Or.inl e)) (m_open_no (d := 77) e) hi
  · obtain ⟨h', b', so, ln, a1, a2, a3, a4, a5, a6, a7, a8, a9, a10, a11, a12⟩ := iS j hj
    rcases isA_cases (n := na) (by omega) a with e | ⟨k, hkn, rfl⟩
    · rcases bf_cases h' so with hf | ⟨rfl, rfl⟩
      · exact pair_fn (c_open_no (d := 76) hr (Or.inr e)) (m_open_x0 (d := 77) hn h6 hj a9 a1 (fun _ => a2) a3 hf e) hi
      · exact pair_fn (c_open_no (d := 76) hr (Or.inr e)) (m_open_x1 (d := 77) hn h6 hj a9 e) hi
    · rcases bf_cases h' so with hf | ⟨rfl, rfl⟩
      · exact pair_fn (c_open_f (d := 76) hr hj a5 a1 a7 a3 hf hkn) (m_open_f (d := 77) hn h6 hj a9 a1 (fun _ => a2) a3 hf hkn) hi
      · obtain ⟨b1, b2⟩ := a10 rfl
        have hE := row_E b2
        have c0 := c_open (d := 76) (L := L) hr h1 hj a5 a7 a8 a4 hkn
        obtain ⟨X1, A1, eX, eA, i1, e7, e82, e83, z84, z85, e100, e101⟩ := tk_ok (v := v) (g := gC (A 44) (rE L (64 + 2 * j)) ln) (E := rE L (64 + 2 * j)) (a := nI k) (bal := balS (A 44) (A 45) (nI k) 49) hi hn a9 b1
        rw [eX, eA] at c0
        have q := m_open (d := 77) (X := X1) (A := A1) (L := L) e7 h6 (by rw [e82]; exact h1.1) (by rw [e83]; exact h1.2.1) z84 z85 (by rw [e82]; exact h9) hj e100 e101 a4 hE hkn
        rw [e82, e83] at q
        generalize rE L (64 + 2 * j) = E at *
        generalize gC (A 44) E ln = g at *
        generalize rsS (A 44) (A 45) E (nI k) (balS (A 44) (A 45) (nI k) 49) g = r at *
        have htl : trS (A 44) E (nI k) g < 2 ^ g := trS_lt g
        generalize trS (A 44) E (nI k) g = t at *
        have hp : ∀ s, s < 2 ^ g → (fun s => decide (r + (ssF (A 59) (A 45) E g) s = r + (ssF (A 59) (A 45) E g) t)) s = (fun s => decide (r + ssum (A 45) E s g = r + ssum (A 45) E t g)) s := fun s hs => by
          show decide (r + ssF (A 59) (A 45) E g s = r + ssF (A 59) (A 45) E g t) = decide (r + ssum (A 45) E s g = r + ssum (A 45) E t g)
          rw [ssF_at hs, ssF_at htl]
        refine pair_fz c0 q ?_ (inv_gX (inv_88 (inv_88 (inv_m i1 h1.1 h1.2.1) (by omega)) (by omega)))
        rw [boM_eq (decide_eq_true rfl) htl]
        exact congrArg nI (fwS_cg (fun op => by rw [badB_cg hp]) _)
end PR23
