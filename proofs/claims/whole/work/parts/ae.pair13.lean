section PR13
variable {X A X' A' : Nat → Nat → Int32} {L : Nat → Nat → Int64}
theorem v_mx {v : Nat → Nat} {p : Nat} (vi : ∀ i, i < 6 → v i < 49) (v6 : v 6 ≤ 12) (v7 : v 7 ≤ 6) (hp : p < 8) : v p ≤ mx (if p < 6 then 0 else p - 5) := by
  unfold mx
  by_cases h : p < 6
  · rw [if_pos h, if_pos rfl]
    have := vi p h
    omega
  · rw [if_neg h]
    rcases (show p = 6 ∨ p = 7 by omega) with rfl | rfl
    · exact v6
    · exact v7
theorem rm1_all {P : Nat → Nat → Nat → Prop} {pl bf af : Nat → Nat} {dn kp p b x : Nat} (hd : dn ≤ kp) (hk : kp ≤ 40) (h : ∀ i, i < kp → P (pl i) (bf i) (af i)) (h1 : P p b x) : ∀ i, i < rmd dn → P (rm1 pl dn p i) (rm1 bf dn b i) (rm1 af dn x i) := by
  intro i hi
  unfold rmd at hi
  unfold rm1
  by_cases e : dn = 40
  · rw [if_pos e] at hi
    rw [if_pos e, if_pos e, if_pos e, updN_at, updN_at, updN_at]
    by_cases e2 : i = 39
    · rw [if_pos e2, if_pos e2, if_pos e2]; exact h1
    · rw [if_neg e2, if_neg e2, if_neg e2]
      show P (shN pl i) (shN bf i) (shN af i)
      unfold shN
      rw [if_pos (by omega), if_pos (by omega), if_pos (by omega)]
      exact h (i + 1) (by omega)
  · rw [if_neg e] at hi
    rw [if_neg e, if_neg e, if_neg e, updN_at, updN_at, updN_at]
    by_cases e2 : i = dn
    · rw [if_pos e2, if_pos e2, if_pos e2]; exact h1
    · rw [if_neg e2, if_neg e2, if_neg e2]
      exact h i (by omega)
theorem p_mend (hi : inv X A L) (a t x : Int32) : pairI 80 yX10_mend cX10_mend 4 yX11_mend cX11_mend 6 [.int a, .int t, .int x] X A L := by
  obtain ⟨B, cd, vl, st, an, en, n, na, v, td, tm, tx, hr, hm, hk, v6, v7, vi⟩ := inv_rul hi
  have hn := hm.2.2.2.2.2.1
  have h6 := hm.2.2.2.2.2.2.1
  have e10 : X 10 1 = nI na := hr.2.2.2.2.2.2.2.2.2.1
  rcases isT_cases (n := na) (by omega) a t with h | ⟨j, u, rfl, rfl, hju⟩
  · exact pair_fn (c_mend_no (d := 76) hr h) (m_mend_no (d := 77) hn h6 h) hi
  · by_cases hb : mb u x = nI 0
    · exact pair_fn (c_mend_no2 (d := 76) hr hju hb) (m_mend_no2 (d := 77) hn h6 hju hb) hi
    · have h0 : ¬ x < 0 := fun q => hb (by unfold mb; rw [if_pos q])
      obtain ⟨y, hy31, rfl⟩ := nI_nn h0
      have hm48 : mx u < 2 ^ 31 := by
        unfold mx
        split
        · decide
        · split <;> decide
      have hle : y ≤ mx u := Nat.le_of_not_lt fun q => hb (by unfold mb; rw [if_neg h0, if_pos ((nI_ltI hm48 hy31).mpr q)])
      have hp8 : pOf j u < 8 := by unfold pOf; unfold thr at hju; split <;> omega
      have eu : (if pOf j u < 6 then 0 else pOf j u - 5) = u := by unfold pOf; unfold thr at hju; split <;> split <;> omega
      have hvb := v_mx vi v6 v7 hp8
      rw [eu] at hvb
      have hb31 : v (pOf j u) < 2 ^ 31 := by omega
      by_cases e : v (pOf j u) = y
      · subst e
        exact pair_fn (c_mend_same (d := 76) hr hju hle hb31) (m_mend_same (d := 77) hn h6 hm.1 hju hle hb31) hi
      · obtain ⟨_, _, ⟨dn, kp, pl, bf, af, hD⟩, _⟩ := id hi
        obtain ⟨d1, d2, d3, d4, d5, d6, d7, d8, d9, d10, d11, d12, d13⟩ := id hD
        obtain ⟨w1, w2, w3⟩ := bnd_v (p := pOf j u) (x := y) vi v6 v7 (by rw [eu]; exact hle) hp8
        refine pair_fn (c_mend (d := 76) hr d3 (by omega) d7 d8 d9 hju hle hb31 e) (m_mend (d := 77) (v := v) (dn := dn) (pl := pl) (bf := bf) (af := af) (by rw [up_ne (by decide)]; exact hn) h6 (by rw [up_ne (by decide), up_ne (by decide), up_ne (by decide), up_ne (by decide)]; exact hm.1) (by rw [up_ne (by decide)]; exact d5) (by omega) (by rw [up_ne (by decide), up_ne (by decide), up_ne (by decide), up_ne (by decide)]; exact d10) (by rw [up_ne (by decide), up_ne (by decide), up_ne (by decide), up_ne (by decide)]; exact d11) (by rw [up_ne (by decide), up_ne (by decide), up_ne (by decide), up_ne (by decide)]; exact d12) hju hle hb31 e)
          (inv_VD hi ⟨na, updN v (pOf j u) y, h6, ?_, ?_, ?_, ?_, w1, w2, w3⟩ ⟨rmd dn, rmd dn, rm1 pl dn (pOf j u), rm1 bf dn (v (pOf j u)), rm1 af dn y, Nat.le_refl _, by unfold rmd; split <;> omega, ?_, ?_, ?_, ?_, ?_, ?_, ?_, ?_, ?_, ?_, rm1_all d1 d2 (P := fun p b x => p < 8 ∧ b ≤ mx (if p < 6 then 0 else p - 5) ∧ x ≤ mx (if p < 6 then 0 else p - 5)) d13 ⟨hp8, by rw [eu]; exact hvb, by rw [eu]; exact hle⟩⟩ (fun c h1 h2 => ?_) (fun q h4 h5 h7 => ?_) (fun c h1 h2 => ?_))
        · rw [up_ne (by decide), vu_s, ud_n _ _ _ (by decide), ud_n _ _ _ (by decide)]; exact e10
        · rw [up_ne (by decide), bA, up_ne (by decide), up_ne (by decide), up_ne (by decide), vu_s]
        · rw [vu_s, ud_n _ _ _ (by decide), ud_n _ _ _ (by decide), up_ne (by decide)]; exact hn
        · rw [vu_s]
        · rw [up_ne (by decide), vu_s, ud_n _ _ _ (by decide), ud_s]
        · rw [up_ne (by decide), vu_s, ud_s]
        · rw [vu_s, ud_n _ _ _ (by decide), ud_s]
        · rw [vu_s, ud_s]
        · rw [up_ne (by decide), bA, up_ne (by decide), up_ne (by decide), up_ne (by decide), up_ne (by decide), up_ne (by decide), up_ne (by decide), vu_s]
        · rw [up_ne (by decide), bA, up_ne (by decide), up_ne (by decide), up_ne (by decide), up_ne (by decide), up_ne (by decide), vu_s]
        · rw [up_ne (by decide), bA, up_ne (by decide), up_ne (by decide), up_ne (by decide), up_ne (by decide), vu_s]
        · rw [up_ne (by decide), bA, up_ne (by decide), up_ne (by decide), vu_s]
        · rw [up_ne (by decide), bA, up_ne (by decide), vu_s]
        · rw [up_ne (by decide), bA, vu_s]
        · rw [up_ne h2, up_ne h1]
        · rw [vu_s, ud_n _ _ _ h4, ud_n _ _ _ h5, up_ne (by decide)]
        · rw [up_ne (by omega), bA, up_ne (by omega), up_ne (by omega), up_ne (by omega), up_ne (by omega), up_ne (by omega), up_ne (by omega), up_ne (by omega)]
end PR13
