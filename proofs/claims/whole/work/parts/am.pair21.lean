section PR21
variable {X A X' A' : Nat → Nat → Int32} {L : Nat → Nat → Int64}
theorem inv_tM (hi : inv X A L) {N y : Nat → Int32} {c : cS} (hz : zb 49 c.1 ∧ zb 49 c.2) : inv (zX X y) (tM A N c) L := inv_zX (inv_m (inv_88 hi (Or.inl rfl)) hz.1 hz.2)
theorem p_judge (hi : inv X A L) (a : Int32) : pairI 80 yX10_judge cX10_judge 3 yX11_judge cX11_judge 3 [.int a] X A L := by
  obtain ⟨B, cd, vl, st, an, en, n, na, v, td, tm, tx, hr, hm, hk, v6, v7, vi⟩ := inv_rul hi
  have h6 := hm.2.2.2.2.2.2.1
  have hB := hr.1
  have hB2 := hB
  unfold isB at hB2
  have iS := hi.2.2.2.2.2.2.2.2
  obtain ⟨h1, h2, h3, h4, h5, h5b, h7, h8, h9, h10, h11, h12⟩ := id hi.1
  rcases isA_cases (n := 6) (by decide) a with q | ⟨j, hj, rfl⟩
  · exact pair_fn (c_judge_no (d := 74) q) (m_judge_no (d := 25) q) hi
  · obtain ⟨h', b', so, ln, a1, a2, a3, a4, a5, a6, a7, a8, a9, a10, a11, a12⟩ := iS j hj
    rcases bf_cases h' so with hf | ⟨rfl, rfl⟩
    · exact pair_fn (c_judge_f (d := 74) hj a5 a1 a7 a3 hf) (m_judge_f (d := 25) hj a9 a1 (fun _ => a2) a3 hf) hi
    · obtain ⟨b1, b2⟩ := a10 rfl
      have hE := row_E b2
      refine ⟨_, _, c_judge (d := 74) hr h1 h2 hj a5 a7 a8 a4, fun w hw => ?_⟩
      obtain ⟨f, g, c', hz, rfl⟩ := hw
      have hK := inv_z (inv_K hi (K := 39) (Or.inl rfl) hz.1 hz.2) hB (f := f) (g := g)
      generalize hX1 : cX X 39 c'.1 = X1 at *
      generalize hA1 : scr (cA A 39 c'.1 c'.2) B f g = A1 at *
      have nX : ∀ c, c ≠ 39 → X1 c = X c := fun c q => by rw [← hX1, cX_n _ _ q]
      have nA : ∀ c, ¬ (39 < c ∧ c < 43) → c ≠ B + 6 → c ≠ B + 7 → A1 c = A c := fun c q1 q2 q3 => by rw [← hA1, scr_n _ _ _ _ q2 q3, cA_n _ _ _ (by omega) (by omega) (by omega)]
      have e82 : A1 82 = A 44 := by rw [nA _ (by omega) (by omega) (by omega), h5]
      have e83 : A1 83 = A 45 := by rw [nA _ (by omega) (by omega) (by omega), h5b]
      have q := m_judge (d := 25) (L := L) (X := X1) (A := A1) (E := rE L (64 + 2 * j)) (mrul_c hm (by rw [nX _ (by decide)]) (by rw [nX _ (by decide)]) (nA _ (by omega) (by omega) (by omega)) (nA _ (by omega) (by omega) (by omega))) (by rw [e82]; exact h1.1) (by rw [e83]; exact h1.2.1) (by rw [nA _ (by omega) (by omega) (by omega)]; exact h7) (by rw [nA _ (by omega) (by omega) (by omega)]; exact h8) (by rw [e82]; exact h9) hj (by rw [nA _ (by omega) (by omega) (by omega)]; exact a9) (by rw [nA _ (by omega) (by omega) (by omega)]; exact b1) a4 hE
      rw [e82, e83, ← jgF_cg h6 hk] at q
      refine ⟨⟨_, _, _, rfl⟩, _, q, fun w' hw' => ?_⟩
      obtain ⟨y, N, c2, hz2, rfl⟩ := hw'
      exact ⟨_, _, _, rfl, inv_tM hK hz2⟩
theorem sales_ok {B : Nat} {cd vl st an en : Nat → Nat} {n na : Nat} {v : Nat → Nat} {td : Bool} {tm : Nat} {tx : Nat → Nat} {j ln T W : Nat} {R : cS} {h f g : Nat → Int32} (hi : inv X A L) (hr : rul B cd vl st an en n na v X A) (hm : mrul td tm tx na v X A) (hz : zb 49 R.1 ∧ zb 49 R.2) :
    inv (cX (tX X W) 39 R.1) (scr (cA (va_up A 36 h) 39 R.1 R.2) B f g) L ∧ mrul td tm tx na v (cX (tX X W) 39 R.1) (scr (cA (va_up A 36 h) 39 R.1 R.2) B f g) ∧ (∀ c, c ≠ 35 → c ≠ 39 → cX (tX X W) 39 R.1 c = X c) ∧ ∀ c, 47 < c → scr (cA (va_up A 36 h) 39 R.1 R.2) B f g c = A c := by
  have hB := hr.1
  have hB2 := hB
  unfold isB at hB2
  have nX : ∀ c, c ≠ 35 → c ≠ 39 → cX (tX X W) 39 R.1 c = X c := fun c q1 q2 => by rw [cX_n _ _ q2, tX, up_ne q1]
  have nA : ∀ c, 47 < c → scr (cA (va_up A 36 h) 39 R.1 R.2) B f g c = A c := fun c q => by rw [scr_n _ _ _ _ (by omega) (by omega), cA_n _ _ _ (by omega) (by omega) (by omega), up_ne (by omega)]
  exact ⟨inv_z (inv_K (inv_88 (inv_X hi (Or.inl rfl)) (by omega)) (K := 39) (Or.inl rfl) hz.1 hz.2) hB, mrul_c hm (by rw [nX _ (by decide) (by decide)]) (by rw [nX _ (by decide) (by decide)]) (nA _ (by decide)) (nA _ (by decide)), nX, nA⟩
theorem p_sales (hi : inv X A L) (a k : Int32) : pairI 80 yX10_sales cX10_sales 5 yX11_sales cX11_sales 9 [.int a, .int k] X A L := by
  obtain ⟨B, cd, vl, st, an, en, n, na, v, td, tm, tx, hr, hm, hk, v6, v7, vi⟩ := inv_rul hi
  have h6 := hm.2.2.2.2.2.2.1
  have iS := hi.2.2.2.2.2.2.2.2
  obtain ⟨h1, h2, h3, h4, h5, h5b, h7, h8, h9, h10, h11, h12⟩ := id hi.1
  rcases isA_cases (n := 6) (by decide) a with q | ⟨j, hj, rfl⟩
  · exact pair_fn (c_sales_no (d := 74) (Or.inl q)) (m_sales_no (d := 25) q) hi
  · obtain ⟨h', b', so, ln, a1, a2, a3, a4, a5, a6, a7, a8, a9, a10, a11, a12⟩ := iS j hj
    by_cases hkm : k < -1
    · rcases bf_cases h' so with hf | ⟨rfl, rfl⟩
      · exact pair_fn (c_sales_no (d := 74) (Or.inr hkm)) (m_sales_kf (d := 25) hj a9 a1 (fun _ => a2) a3 hf hkm) hi
      · exact pair_fn (c_sales_no (d := 74) (Or.inr hkm)) (m_sales_kt (d := 25) hj a9 hkm) hi
    · rcases bf_cases h' so with hf | ⟨rfl, rfl⟩
      · exact pair_fn (c_sales_f (d := 74) hj a5 a1 a7 a3 hf hkm) (m_sales_f (d := 25) hj a9 a1 (fun _ => a2) a3 hf hkm) hi
      · obtain ⟨b1, b2⟩ := a10 rfl
        have hE := row_E b2
        have hv := vls_E h6 (N := saC (saB na ln (rE L (64 + 2 * j))) 30 0) (E := rE L (64 + 2 * j)) (ln := ln) (fun i hi => saC_all (Nat.zero_le _) hi)
        have hT30 : saC (saB na ln (rE L (64 + 2 * j))) 30 0 ≤ 30 := by have := saC_le (p := saB na ln (rE L (64 + 2 * j))) 30 0; omega
        have hz := ruS_z (Rk := RkC cd vl st an en n v) (a := ev (rE L (64 + 2 * j))) (s := od (rE L (64 + 2 * j))) (c := (A 44, A 45)) ⟨h1.1, h1.2.1⟩ (saC (saB na ln (rE L (64 + 2 * j))) 30 0)
        have c0 := c_sales_all (d := 74) (L := L) hr h1 h2 hj a5 a7 a8 a4
        have cK := fun k' (hk' : k' < 2 ^ 31) => c_sales (d := 74) (L := L) hr h1 h2 hj a5 a7 a8 a4 (k := k') hk'
        have ew := wnS_cg hk (c := (A 44, A 45)) hv _ (Nat.le_refl _)
        have er := ruS_cg hk (c := (A 44, A 45)) hv _ (Nat.le_refl _)
        have ec := fun k' (hk' : k' < _) => clS_cg hk (c := (A 44, A 45)) hv (k := k') hk'
        have mS := fun (X1 A1 : Nat → Nat → Int32) (g1 : mrul td tm tx na v X1 A1) (z1 : zb 49 (A1 82)) (z2 : zb 49 (A1 83)) (z3 : zb 49 (A1 84)) (z4 : zb 49 (A1 85)) (z5 : ow (A1 82)) (z6 : A1 100 j = nI 50) (z7 : A1 101 j = nI ln) => m_sales (d := 25) (L := L) (X := X1) (A := A1) g1 z1 z2 z3 z4 z5 hj z6 z7 a4 hE rfl hkm
        generalize hT : saC (saB na ln (rE L (64 + 2 * j))) 30 0 = T at *
        generalize hR : ruS (RkC cd vl st an en n v) (ev (rE L (64 + 2 * j))) (od (rE L (64 + 2 * j))) (A 44, A 45) T = R at *
        generalize hW : wnS (RkC cd vl st an en n v) (ev (rE L (64 + 2 * j))) (od (rE L (64 + 2 * j))) (A 44, A 45) T = W at *
        have hWT : W ≤ T := by rw [← hW]; exact wnS_le T
        have fin : ∀ (h f g : Nat → Int32) (z : Int32), (if k < 0 then nI W else owI (RkM td tm tx v) (ev (rE L (64 + 2 * j))) (od (rE L (64 + 2 * j))) (A 44, A 45) k T) = z → ∃ Fin : jW → Prop, jMet 80 yX11_sales cX11_sales 9 (some .int) 0 0 [.ref 76, .int (nI j), .int k] (tw (cX (tX X W) 39 R.1.1) (scr (cA (va_up A 36 h) 39 R.1.1 R.1.2) B f g) L) (fun r w' => r = some (.int z) ∧ Fin w') ∧ ∀ w', Fin w' → ∃ X' A' L', w' = tw X' A' L' ∧ inv X' A' L' := by
          intro h f g z ez
          obtain ⟨s1, s2, s3, s4⟩ := sales_ok (j := j) (ln := ln) (T := T) (W := W) (h := h) (f := f) (g := g) hi hr hm hz
          generalize cX (tX X W) 39 R.1.1 = X1 at *
          generalize scr (cA (va_up A 36 h) 39 R.1.1 R.1.2) B f g = A1 at *
          have e82 : A1 82 = A 44 := by rw [s4 _ (by decide), h5]
          have e83 : A1 83 = A 45 := by rw [s4 _ (by decide), h5b]
          have q := mS X1 A1 s2 (by rw [e82]; exact h1.1) (by rw [e83]; exact h1.2.1) (by rw [s4 _ (by decide)]; exact h7) (by rw [s4 _ (by decide)]; exact h8) (by rw [e82]; exact h9) (by rw [s4 _ (by decide)]; exact a9) (by rw [s4 _ (by decide)]; exact b1)
          rw [e82, e83, ← ew, ← er, ez] at q
          refine ⟨_, q, fun w' hw' => ?_⟩
          obtain ⟨y, N, rfl⟩ := hw'
          exact ⟨_, _, _, rfl, inv_tM s1 hz⟩
        by_cases e1 : k = -1
        · subst e1
          refine ⟨_, _, c0, fun w hw => ?_⟩
          obtain ⟨h, f, g, rfl⟩ := hw
          exact ⟨⟨_, _, _, rfl⟩, fin h f g _ (if_pos (by decide))⟩
        · have h0 : ¬ k < 0 := by
            intro q
            rw [Int32.lt_iff_toInt_lt] at q hkm
            apply e1
            apply Int32.toInt_inj.mp
            have q1 : (0 : Int32).toInt = 0 := rfl
            have q2 : (-1 : Int32).toInt = -1 := rfl
            omega
          obtain ⟨k', hk31, rfl⟩ := nI_nn h0
          refine ⟨_, _, cK k' hk31, fun w hw => ?_⟩
          obtain ⟨h, f, g, rfl⟩ := hw
          refine ⟨⟨_, _, _, rfl⟩, fin h f g _ ?_⟩
          rw [if_neg h0, owI_eq hk31 T hT30, ← ew]
          by_cases q : k' < W
          · rw [if_pos q, if_pos q, ec k' (by omega)]
          · rw [if_neg q, if_neg q]
theorem p_balance (hi : inv X A L) (a k : Int32) : pairI 80 yX10_balance cX10_balance 4 yX11_balance cX11_balance 3 [.int a, .int k] X A L := by
  obtain ⟨B, cd, vl, st, an, en, n, na, v, td, tm, tx, hr, hm, hk, v6, v7, vi⟩ := inv_rul hi
  have hn := hm.2.2.2.2.2.1
  have h6 := hm.2.2.2.2.2.2.1
  have iS := hi.2.2.2.2.2.2.2.2
  obtain ⟨h1, h2, h3, h4, h5, h5b, h7, h8, h9, h10, h11, h12⟩ := id hi.1
  rcases isA_cases (n := 6) (by decide) a with q | ⟨j, hj, rfl⟩
  · exact pair_fn (c_balance_no (d := 74) hr (Or.inl q)) (m_balance_no (d := 24) q) hi
  · obtain ⟨h', b', so, ln, a1, a2, a3, a4, a5, a6, a7, a8, a9, a10, a11, a12⟩ := iS j hj
    rcases isA_cases (n := na) (by omega) k with q | ⟨k, hkn, rfl⟩
    · rcases bf_cases h' so with hf | ⟨rfl, rfl⟩
      · exact pair_fn (c_balance_no (d := 74) hr (Or.inr q)) (m_balance_af (d := 24) hn h6 hj a9 a1 (fun _ => a2) a3 hf q) hi
      · exact pair_fn (c_balance_no (d := 74) hr (Or.inr q)) (m_balance_at (d := 24) hn h6 hj a9 q) hi
    · rcases bf_cases h' so with hf | ⟨rfl, rfl⟩
      · exact pair_fn (c_balance_f (d := 74) hr hj a5 a1 a7 a3 hf hkn) (m_balance_f (d := 24) hn h6 hj a9 a1 (fun _ => a2) a3 hf hkn) hi
      · obtain ⟨b1, b2⟩ := a10 rfl
        have hE := row_E b2
        have hv := vls_E h6 (N := saC (saB na ln (rE L (64 + 2 * j))) 30 0) (E := rE L (64 + 2 * j)) (ln := ln) (fun i hi => saC_all (Nat.zero_le _) hi)
        have hz := ruS_z (Rk := RkC cd vl st an en n v) (a := ev (rE L (64 + 2 * j))) (s := od (rE L (64 + 2 * j))) (c := (A 44, A 45)) ⟨h1.1, h1.2.1⟩ (saC (saB na ln (rE L (64 + 2 * j))) 30 0)
        have c0 := c_balance (d := 74) (L := L) hr h1 h2 hj a5 a7 a8 a4 hkn
        have er := ruS_cg hk (c := (A 44, A 45)) hv _ (Nat.le_refl _)
        have mS := fun (X1 A1 : Nat → Nat → Int32) (g1 : mrul td tm tx na v X1 A1) (z1 : zb 49 (A1 82)) (z2 : zb 49 (A1 83)) (z3 : zb 49 (A1 84)) (z4 : zb 49 (A1 85)) (z5 : ow (A1 82)) (z6 : A1 100 j = nI 50) (z7 : A1 101 j = nI ln) => m_balance (d := 24) (L := L) (X := X1) (A := A1) g1 z1 z2 z3 z4 z5 hj z6 z7 a4 hE rfl hkn
        generalize hT : saC (saB na ln (rE L (64 + 2 * j))) 30 0 = T at *
        generalize hR : ruS (RkC cd vl st an en n v) (ev (rE L (64 + 2 * j))) (od (rE L (64 + 2 * j))) (A 44, A 45) T = R at *
        generalize hW : wnS (RkC cd vl st an en n v) (ev (rE L (64 + 2 * j))) (od (rE L (64 + 2 * j))) (A 44, A 45) T = W at *
        refine ⟨_, _, c0, fun w hw => ?_⟩
        obtain ⟨h, f, g, rfl⟩ := hw
        obtain ⟨s1, s2, s3, s4⟩ := sales_ok (j := j) (ln := ln) (T := T) (W := W) (h := h) (f := f) (g := g) hi hr hm hz
        generalize cX (tX X W) 39 R.1.1 = X1 at *
        generalize scr (cA (va_up A 36 h) 39 R.1.1 R.1.2) B f g = A1 at *
        have e82 : A1 82 = A 44 := by rw [s4 _ (by decide), h5]
        have e83 : A1 83 = A 45 := by rw [s4 _ (by decide), h5b]
        have q := mS X1 A1 s2 (by rw [e82]; exact h1.1) (by rw [e83]; exact h1.2.1) (by rw [s4 _ (by decide)]; exact h7) (by rw [s4 _ (by decide)]; exact h8) (by rw [e82]; exact h9) (by rw [s4 _ (by decide)]; exact a9) (by rw [s4 _ (by decide)]; exact b1)
        rw [e82, e83, ← er] at q
        refine ⟨⟨_, _, _, rfl⟩, _, q, fun w' hw' => ?_⟩
        obtain ⟨y, N, rfl⟩ := hw'
        exact ⟨_, _, _, rfl, inv_tM s1 hz⟩
end PR21
