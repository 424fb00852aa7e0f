section PR11
variable {X A X' A' : Nat → Nat → Int32} {L : Nat → Nat → Int64}
/-- a place's value mended within its bounds -/
theorem bnd_v {v : Nat → Nat} {p x : Nat} (vi : ∀ i, i < 6 → v i < 49) (v6 : v 6 ≤ 12) (v7 : v 7 ≤ 6) (hx : x ≤ mx (if p < 6 then 0 else p - 5)) (hp : p < 8) : (∀ i, i < 6 → updN v p x i < 49) ∧ updN v p x 6 ≤ 12 ∧ updN v p x 7 ≤ 6 := by
  unfold mx at hx
  refine ⟨fun i hi => ?_, ?_, ?_⟩
  · rw [updN_at]
    split
    · rename_i e
      rw [if_pos (by rw [if_pos (by omega)])] at hx
      omega
    · exact vi i hi
  · rw [updN_at]
    split
    · rename_i e
      subst e
      rw [if_neg (by decide), if_pos (by decide)] at hx
      exact hx
    · exact v6
  · rw [updN_at]
    split
    · rename_i e
      subst e
      rw [if_neg (by decide), if_neg (by decide)] at hx
      exact hx
    · exact v7
theorem p_undo (hi : inv X A L) : pairI 80 yX10_undo cX10_undo 1 yX11_undo cX11_undo 1 [] X A L := by
  obtain ⟨B, cd, vl, st, an, en, n, na, v, td, tm, tx, hr, hm, hk, v6, v7, vi⟩ := inv_rul hi
  have hn := hm.2.2.2.2.2.1
  have h6 := hm.2.2.2.2.2.2.1
  have e10 : X 10 1 = nI na := hr.2.2.2.2.2.2.2.2.2.1
  obtain ⟨_, _, ⟨dn, kp, pl, bf, af, hD⟩, _⟩ := id hi
  obtain ⟨d1, d2, d3, d4, d5, d6, d7, d8, d9, d10, d11, d12, d13⟩ := id hD
  by_cases h0 : dn = 0
  · subst h0
    exact pair_fn (c_undo_no (d := 79) d3) (m_undo_no (d := 80) d5) hi
  · have hb := d13 (dn - 1) (by omega)
    obtain ⟨w1, w2, w3⟩ := bnd_v vi v6 v7 hb.2.1 hb.1
    refine pair_fn (c_undo (d := 79) hr d3 (by omega) d7 d8 d9 (by omega) hb.1) (m_undo (d := 80) (v := v) (dn := dn) (pl := pl) (bf := bf) (af := af) (by rw [up_ne (by decide)]; exact hm.1) (by rw [up_ne (by decide)]; exact d5) (by omega) (by rw [up_ne (by decide)]; exact d10) (by rw [up_ne (by decide)]; exact d11) (by rw [up_ne (by decide)]; exact d12) (by omega) hb.1)
      (inv_VD hi ⟨na, updN v (pl (dn - 1)) (bf (dn - 1)), h6, ?_, ?_, ?_, ?_, w1, w2, w3⟩ ⟨dn - 1, kp, pl, bf, af, by omega, d2, ?_, ?_, ?_, ?_, ?_, ?_, ?_, ?_, ?_, ?_, d13⟩ (fun c h1 h2 => ?_) (fun q h4 h5 h7 => ?_) (fun c h1 h2 => ?_))
    · rw [up_ne (by decide), vu_s, ud_n _ _ _ (by decide)]; exact e10
    · rw [up_ne (by decide), vu_s]
    · rw [vu_s, ud_n _ _ _ (by decide), up_ne (by decide)]; exact hn
    · rw [vu_s]
    · rw [up_ne (by decide), vu_s, ud_s]
    · rw [up_ne (by decide), vu_s, ud_n _ _ _ (by decide)]; exact d4
    · rw [vu_s, ud_s]
    · rw [vu_s, ud_n _ _ _ (by decide), up_ne (by decide)]; exact d6
    · rw [up_ne (by decide), up_ne (by decide)]; exact d7
    · rw [up_ne (by decide), up_ne (by decide)]; exact d8
    · rw [up_ne (by decide), up_ne (by decide)]; exact d9
    · rw [up_ne (by decide), up_ne (by decide)]; exact d10
    · rw [up_ne (by decide), up_ne (by decide)]; exact d11
    · rw [up_ne (by decide), up_ne (by decide)]; exact d12
    · rw [up_ne h2, up_ne h1]
    · rw [vu_s, ud_n _ _ _ h5, up_ne (by decide)]
    · rw [up_ne (by omega), up_ne (by omega)]
theorem p_redo (hi : inv X A L) : pairI 80 yX10_redo cX10_redo 1 yX11_redo cX11_redo 1 [] X A L := by
  obtain ⟨B, cd, vl, st, an, en, n, na, v, td, tm, tx, hr, hm, hk, v6, v7, vi⟩ := inv_rul hi
  have hn := hm.2.2.2.2.2.1
  have h6 := hm.2.2.2.2.2.2.1
  have e10 : X 10 1 = nI na := hr.2.2.2.2.2.2.2.2.2.1
  obtain ⟨_, _, ⟨dn, kp, pl, bf, af, hD⟩, _⟩ := id hi
  obtain ⟨d1, d2, d3, d4, d5, d6, d7, d8, d9, d10, d11, d12, d13⟩ := id hD
  by_cases h0 : dn = kp
  · subst h0
    exact pair_fn (c_redo_no (d := 79) d3 d4 d2) (m_redo_no (d := 80) d5 d6 d2) hi
  · have hb := d13 dn (by omega)
    obtain ⟨w1, w2, w3⟩ := bnd_v vi v6 v7 hb.2.2 hb.1
    refine pair_fn (c_redo (d := 79) hr d3 (by omega) d7 d8 d9 d4 d2 (by omega) hb.1) (m_redo (d := 80) (v := v) (dn := dn) (pl := pl) (bf := bf) (af := af) (kp := kp) (by rw [up_ne (by decide)]; exact hm.1) (by rw [up_ne (by decide)]; exact d5) (by omega) (by rw [up_ne (by decide)]; exact d10) (by rw [up_ne (by decide)]; exact d11) (by rw [up_ne (by decide)]; exact d12) (by rw [up_ne (by decide)]; exact d6) d2 (by omega) hb.1)
      (inv_VD hi ⟨na, updN v (pl dn) (af dn), h6, ?_, ?_, ?_, ?_, w1, w2, w3⟩ ⟨dn + 1, kp, pl, bf, af, by omega, d2, ?_, ?_, ?_, ?_, ?_, ?_, ?_, ?_, ?_, ?_, d13⟩ (fun c h1 h2 => ?_) (fun q h4 h5 h7 => ?_) (fun c h1 h2 => ?_))
    · rw [up_ne (by decide), vu_s, ud_n _ _ _ (by decide)]; exact e10
    · rw [up_ne (by decide), vu_s]
    · rw [vu_s, ud_n _ _ _ (by decide), up_ne (by decide)]; exact hn
    · rw [vu_s]
    · rw [up_ne (by decide), vu_s, ud_s]
    · rw [up_ne (by decide), vu_s, ud_n _ _ _ (by decide)]; exact d4
    · rw [vu_s, ud_s]
    · rw [vu_s, ud_n _ _ _ (by decide), up_ne (by decide)]; exact d6
    · rw [up_ne (by decide), up_ne (by decide)]; exact d7
    · rw [up_ne (by decide), up_ne (by decide)]; exact d8
    · rw [up_ne (by decide), up_ne (by decide)]; exact d9
    · rw [up_ne (by decide), up_ne (by decide)]; exact d10
    · rw [up_ne (by decide), up_ne (by decide)]; exact d11
    · rw [up_ne (by decide), up_ne (by decide)]; exact d12
    · rw [up_ne h2, up_ne h1]
    · rw [vu_s, ud_n _ _ _ h5, up_ne (by decide)]
    · rw [up_ne (by omega), up_ne (by omega)]
end PR11
