section PR18
variable {X A X' A' : Nat → Nat → Int32} {L L' : Nat → Nat → Int64}
theorem str_no {ln : Nat} {i m : Int32} (hl : ln ≤ 60) (h : m < 0 ∨ i < 0) : strI 2 ln i m = nI 0 := by
  unfold strI
  rw [if_pos rfl]
  by_cases h0 : i < 0
  · rw [if_pos h0]
  · rw [if_neg h0]
    rcases h with h | h
    · rw [if_pos h]
    · exact absurd h h0
theorem str_out {ln i m : Nat} (hl : ln ≤ 60) (hi : i < 2 ^ 31) (hm : m < 2 ^ 31) (h : ln < i + m) : strI 2 ln (nI i) (nI m) = nI 0 ∧ nI ln - nI m < nI i := by
  have e1 : (nI ln - nI m).toInt = (ln : Int) - m := by
    rw [Int32.toInt_sub, nI_toInt (by omega), nI_toInt hm]
    exact Int.bmod_eq_of_le (by omega) (by omega)
  constructor
  · unfold strI
    rw [if_pos rfl, if_neg (nI_pos hi), if_neg (nI_pos hm)]
    by_cases h1 : nI ln < nI i
    · rw [if_pos h1]
    · rw [if_neg h1]
      have h2 : i ≤ ln := Nat.le_of_not_lt fun q => h1 ((nI_ltI (by omega) hi).mpr q)
      rw [pk_sub h2, if_pos ((nI_ltI (by omega) hm).mpr (by omega))]
  · apply Int32.lt_iff_toInt_lt.mpr
    rw [e1, nI_toInt hi]
    omega
theorem msh_neg {h b so : Nat} (hb : b < 50) (hs : so ≤ 4) : (mshI h b so < 0) = (h = 0) := by
  unfold mshI
  by_cases h0 : h = 0
  · rw [if_pos h0]; exact propext ⟨fun _ => h0, fun _ => by decide⟩
  · rw [if_neg h0]
    by_cases h1 : h = 1
    · rw [if_pos h1]; exact propext ⟨fun q => absurd q (nI_pos (by omega)), fun q => absurd q h0⟩
    · rw [if_neg h1]; exact propext ⟨fun q => absurd q (nI_pos (by omega)), fun q => absurd q h0⟩
theorem p_shift (hi : inv X A L) (c i e j m : Int32) : pairI 80 yX10_shift cX10_shift 8 yX11_shift cX11_shift 7 [.int c, .int i, .int e, .int j, .int m] X A L := by
  have iS := hi.2.2.2.2.2.2.2.2
  by_cases h : isA 6 c = nI 0 ∨ isA 6 e = nI 0
  · exact pair_fn (c_shift_no (d := 78) h) (m_shift_no (d := 78) h) hi
  · rcases isA_cases (n := 6) (by decide) c with q | ⟨a, ha, rfl⟩
    · exact absurd (Or.inl q) h
    · rcases isA_cases (n := 6) (by decide) e with q | ⟨b, hb, rfl⟩
      · exact absurd (Or.inr q) h
      · obtain ⟨h', b', so, ln, a1, a2, a3, a4, a5, a6, a7, a8, a9, a10, a11, a12⟩ := iS a ha
        obtain ⟨g', b'', sp, lt, s1, s2, s3, s4, s5, s6', s7, s8, s9, s10, s11, s12⟩ := iS b hb
        by_cases h0 : h' = 0 ∨ g' = 0
        · refine pair_fn (c_shift_0 (d := 78) ha hb a5 a1 a7 a3 a8 a4 s5 s1 s7 s3 s8 s4 h0) (m_shift_0 (d := 78) ha hb ?_) hi
          rw [a9, s9, msh_neg a2 a3, msh_neg s2 s3]
          exact h0
        · have nh : h' ≠ 0 := fun q => h0 (Or.inl q)
          have ng : g' ≠ 0 := fun q => h0 (Or.inr q)
          by_cases hn : h' = 2 ∧ g' = 2 ∧ so = sp
          · obtain ⟨rfl, rfl, rfl⟩ := hn
            obtain ⟨a13, a14⟩ := a10 rfl
            obtain ⟨s13, s14⟩ := s10 rfl
            have no (hc : strI 2 ln i m = nI 0 ∨ strI 2 lt j m = nI 0) (hr : m < 0 ∨ i < 0 ∨ j < 0 ∨ nI ln - m < i ∨ nI lt - m < j) : pairI 80 yX10_shift cX10_shift 8 yX11_shift cX11_shift 7 [.int (nI a), .int i, .int (nI b), .int j, .int m] X A L :=
              pair_fn (c_shift_13 (d := 78) ha hb a5 a1 a7 a3 a8 a4 s5 s1 s7 s3 s8 s4 rfl rfl rfl hc) (m_shift_13 (d := 78) ha hb a9 s9 a3 a13 a4 s13 s4 hr) hi
            by_cases hm : m < 0
            · exact no (Or.inl (str_no a4 (Or.inl hm))) (Or.inl hm)
            · by_cases hi0 : i < 0
              · exact no (Or.inl (str_no a4 (Or.inr hi0))) (Or.inr (Or.inl hi0))
              · by_cases hj0 : j < 0
                · exact no (Or.inr (str_no s4 (Or.inr hj0))) (Or.inr (Or.inr (Or.inl hj0)))
                · obtain ⟨m, hm31, rfl⟩ := nI_nn hm
                  obtain ⟨i, hi31, rfl⟩ := nI_nn hi0
                  obtain ⟨j, hj31, rfl⟩ := nI_nn hj0
                  by_cases o1 : ln < i + m
                  · have q := str_out a4 hi31 hm31 o1
                    exact no (Or.inl q.1) (Or.inr (Or.inr (Or.inr (Or.inl q.2))))
                  · by_cases o2 : lt < j + m
                    · have q := str_out s4 hj31 hm31 o2
                      exact no (Or.inr q.1) (Or.inr (Or.inr (Or.inr (Or.inr q.2))))
                    · have L1 : ∀ c, c ≠ 64 + 2 * b + 1 → va_up L (64 + 2 * b + 1) (va_cpy (L (64 + 2 * a + 1)) (L (64 + 2 * b + 1)) i j m) c = L c := fun c hc => up_ne hc
                      have q := m_shift (d := 78) (X := X) (L := va_up L (64 + 2 * b + 1) (va_cpy (L (64 + 2 * a + 1)) (L (64 + 2 * b + 1)) i j m)) ha hb a9 s9 a3 a13 a4 s13 s4 (show i + m ≤ ln by omega) (show j + m ≤ lt by omega)
                      rw [L1 102 (by omega), L1 103 (by omega)] at q
                      refine pair_fn (c_shift (d := 78) ha hb a5 a1 a7 a3 a8 a4 s5 s1 s7 s3 s8 s4 rfl rfl rfl (by omega) (by omega)) q (inv_S hi hb (fun _ _ => rfl) (fun _ _ _ => rfl) (fun _ _ => rfl) (fun _ _ => rfl) (fun i' hi6 e => ⟨?_, fun q hq => ?_⟩) ⟨2, b'', so, lt, by decide, s2, s3, s4, s5, s6', s7, s8, s9, fun _ => ⟨s13, fun k hk => ?_⟩, ?_, fun e => absurd e (by decide)⟩)
                      · rw [up_ne (by omega), up_ne (by omega), up_ne (by omega)]
                      · rw [vu_s, cbF, if_neg (by omega)]
                      · rw [vu_s, up_ne (by omega), up_ne (by omega), vu_s]
                        unfold cbF va_cpy
                        by_cases e : j ≤ k ∧ k < j + m
                        · rw [if_pos (by omega), if_pos e]
                          unfold caF
                          rw [if_pos (by omega)]
                          have q := a14 (i + (k - j)) (by omega)
                          have e3 : 60 * a + i + (60 * b + k - (60 * b + j)) = 60 * a + (i + (k - j)) := by omega
                          show L 102 (60 * a + i + (60 * b + k - (60 * b + j))) = _ ∧ _
                          rw [e3]
                          exact q
                        · rw [if_neg (by omega), if_neg e]
                          exact s14 k hk
                      · rw [up_ne (by omega), up_ne (by omega), vu_s]
                        intro c hc
                        unfold va_cpy
                        rw [if_neg (by omega)]
                        exact s11 c hc
          · refine pair_fn (c_shift_12 (d := 78) ha hb a5 a1 a7 a3 a8 a4 s5 s1 s7 s3 s8 s4 nh ng hn) (m_shift_12 (d := 78) ha hb (by rw [a9, msh_neg a2 a3]; exact nh) (by rw [s9, msh_neg s2 s3]; exact ng) ?_) hi
            rw [a9, s9]
            unfold mshI
            rw [if_neg nh, if_neg ng]
            by_cases h1 : h' = 1
            · left; rw [if_pos h1]; exact (nI_ltI (by omega) (by decide)).mpr a2
            · rw [if_neg h1]
              right
              by_cases g1 : g' = 1
              · rw [if_pos g1]
                intro q
                have := (nI_eq (by omega) (by omega)).mp q
                omega
              · rw [if_neg g1]
                intro q
                have := (nI_eq (by omega) (by omega)).mp q
                exact hn (by omega)
end PR18
