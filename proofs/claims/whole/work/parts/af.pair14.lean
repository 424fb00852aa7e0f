section PR14
variable {X A X' A' : Nat → Nat → Int32} {L : Nat → Nat → Int64}
def gW (c : Nat) : Prop := (43 < c ∧ c < 47) ∨ c = 55 ∨ (81 < c ∧ c < 86) ∨ c = 88 ∨ c = 89 ∨ c = 94 ∨ c = 25 ∨ c = 26 ∨ c = 33 ∨ c = 34
/-- the hive itself has changed, and what is led -/
theorem inv_w (hi : inv X A L) (h43 : cok X' A' 43) (e82 : A' 82 = A' 44) (e83 : A' 83 = A' 45) (z84 : zb 49 (A' 84)) (z85 : zb 49 (A' 85)) (hw : ow (A' 44)) (h6 : s6 (A' 45)) (e94 : A' 94 = A' 55) (z55 : zb 6 (A' 55)) (hX : ∀ c, c ≠ 43 → c ≠ 76 → X' c = X c) (h76 : ∀ q, g76 q → X' 76 q = X 76 q) (hA : ∀ c, ¬ gW c → A' c = A c) : inv X' A' L := by
  obtain ⟨iC1, ⟨na, v, hV⟩, ⟨dn, kp, pl, bf, af, hD⟩, iI1, ⟨tl, tp, hT⟩, ⟨nb, r, kd, hH⟩, ⟨B, G, cd, vl, st, an, en, n, td, tm, tx, f, k, hL⟩, iO1, iS⟩ := hi
  have hX2 : ∀ c, c ≠ 43 → c ≠ 76 → ∀ q, X' c q = X c q := fun c h1 h2 q => by rw [hX c h1 h2]
  obtain ⟨h1, h2, h3, h4, _⟩ := iC1
  exact ⟨⟨h43, cok_i h2 (hX _ (by decide) (by decide)) (hA _ (by unfold gW; omega)) (hA _ (by unfold gW; omega)) (hA _ (by unfold gW; omega)), cok_i h3 (hX _ (by decide) (by decide)) (hA _ (by unfold gW; omega)) (hA _ (by unfold gW; omega)) (hA _ (by unfold gW; omega)), cok_i h4 (hX _ (by decide) (by decide)) (hA _ (by unfold gW; omega)) (hA _ (by unfold gW; omega)) (hA _ (by unfold gW; omega)), e82, e83, z84, z85, hw, h6, e94, z55⟩,
    ⟨na, v, iV_c hV (hX2 _ (by decide) (by decide) _) (hA _ (by unfold gW; omega)) (h76 _ (by unfold g76; omega)) (hA _ (by unfold gW; omega))⟩,
    ⟨dn, kp, pl, bf, af, iD_c hD (hX2 _ (by decide) (by decide) _) (hX2 _ (by decide) (by decide) _) (h76 _ (by unfold g76; omega)) (h76 _ (by unfold g76; omega)) (fun c hc => hA c (by unfold gW; omega))⟩,
    iI_c iI1 (hX2 _ (by decide) (by decide) _) (h76 _ (by unfold g76; omega)) (fun c hc => hA c (by unfold gW; omega)),
    ⟨tl, tp, iT_c hT (hX2 _ (by decide) (by decide) _) (h76 _ (by unfold g76; omega)) (hA _ (by unfold gW; omega)) (hA _ (by unfold gW; omega))⟩,
    ⟨nb, r, kd, iH_c hH (hX _ (by decide) (by decide)) (h76 _ (by unfold g76; omega)) (h76 _ (by unfold g76; omega)) (fun c hc => hA c (by unfold gW; omega))⟩,
    ⟨B, G, cd, vl, st, an, en, n, td, tm, tx, f, k, iL_c hL (fun c hc => hX c (by omega) (by omega)) (fun q _ _ => hX2 _ (by decide) (by decide) _) (h76 _ (by unfold g76; omega)) (fun c hc => hA c (by unfold gW; omega))⟩,
    iO_c iO1 (hA _ (by unfold gW; omega)) (hA _ (by unfold gW; omega)),
    iS_c iS (fun c a b => hX c (by omega) (by omega)) (hA _ (by unfold gW; omega)) (hA _ (by unfold gW; omega)) rfl (hX2 _ (by decide) (by decide) _)⟩
theorem inv_dA (hi : inv X A L) {X1 A1 : Nat → Nat → Int32} {O S E Z : Nat → Int32} (h43 : cok X1 A1 43) (e44 : A1 44 = O) (e45 : A1 45 = S) (e55 : A1 55 = E) (zO : zb 49 O) (zS : zb 49 S) (hw : ow O) (h6 : s6 S) (zE : zb 6 E) (hX : ∀ c, c ≠ 43 → c ≠ 76 → X1 c = X c) (h76 : ∀ q, g76 q → X1 76 q = X 76 q) (hA : ∀ c, ¬ gW c → A1 c = A c) : inv X1 (dA A1 O S Z E) L := by
  have n : ∀ c, c ≠ 82 → c ≠ 83 → c ≠ 84 → c ≠ 85 → c ≠ 89 → c ≠ 94 → dA A1 O S Z E c = A1 c := fun c a1 a2 a3 a4 a5 a6 => by
    unfold dA
    rw [up_ne a6, lA_n _ _ _ a1 a2, eA_n _ _ _ _ a3 a4 a5]
  have n44 := n 44 (by decide) (by decide) (by decide) (by decide) (by decide) (by decide)
  have n45 := n 45 (by decide) (by decide) (by decide) (by decide) (by decide) (by decide)
  have n55 := n 55 (by decide) (by decide) (by decide) (by decide) (by decide) (by decide)
  have e82 : dA A1 O S Z E 82 = O := by unfold dA; rw [up_ne (by decide), lA_82]
  have e83 : dA A1 O S Z E 83 = S := by unfold dA; rw [up_ne (by decide), lA_83]
  have e84 : dA A1 O S Z E 84 = O := by unfold dA; rw [up_ne (by decide), lA_n _ _ _ (by decide) (by decide), eA_84]
  have e85 : dA A1 O S Z E 85 = S := by unfold dA; rw [up_ne (by decide), lA_n _ _ _ (by decide) (by decide), eA_85]
  have e94 : dA A1 O S Z E 94 = E := by unfold dA; rw [vu_s]
  refine inv_w hi (cok_i h43 rfl n44 n45 (n 46 (by decide) (by decide) (by decide) (by decide) (by decide) (by decide))) (by rw [e82, n44, e44]) (by rw [e83, n45, e45]) (by rw [e84]; exact zO) (by rw [e85]; exact zS) (by rw [n44, e44]; exact hw) (by rw [n45, e45]; exact h6) (by rw [e94, n55, e55]) (by rw [n55, e55]; exact zE) hX h76 (fun c hc => ?_)
  rw [n c (by unfold gW at hc; omega) (by unfold gW at hc; omega) (by unfold gW at hc; omega) (by unfold gW at hc; omega) (by unfold gW at hc; omega) (by unfold gW at hc; omega)]
  exact hA c hc
/-- a change in deed: the class's world, its rows -/
theorem inv_dc (hi : inv X A L) {O S E Z : Nat → Int32} (zO : zb 49 O) (zS : zb 49 S) (hw : ow O) (h6 : s6 S) (zE : zb 6 E) : inv (cX X 43 O) (dA (cA (va_up A 55 E) 43 O S) O S Z E) L :=
  inv_dA hi (cok_c zO zS) (cA_1 _ _ _ _) (cA_2 _ _ _ _) (by rw [cA_n _ _ _ (by decide) (by decide) (by decide), vu_s]) zO zS hw h6 zE (fun c h1 _ => cX_n _ _ h1) (fun q _ => by rw [cX_n _ _ (by decide)]) (fun c hc => by unfold gW at hc; rw [cA_n _ _ _ (by omega) (by omega) (by omega), up_ne (by omega)])
theorem p_eat (hi : inv X A L) (a : Int32) : pairI 80 yX10_eat cX10_eat 3 yX11_eat cX11_eat 3 [.int a] X A L := by
  obtain ⟨h1, h2, h3, h4, h5, h5b, h7, h8, h9, h10, h11, h12⟩ := id hi.1
  rcases isA_cases (n := 50) (by decide) a with q | ⟨k, hk, rfl⟩
  · exact pair_fn (c_eat_no (d := 75) q) (m_eat_no (d := 76) q) hi
  · refine ⟨_, _, c_eat (d := 75) h1 hk, fun w hw => ?_⟩
    subst hw
    have hz := winS_z (c := (A 44, A 45)) h1.1 h1.2.1 (min k (hN (A 44)))
    have ho := ow_win (c := (A 44, A 45)) h9 (min k (hN (A 44)))
    have hs := s6_win (c := (A 44, A 45)) h10 (min k (hN (A 44)))
    generalize hW : winS (min k (hN (A 44))) (A 44, A 45) = W at *
    generalize hE : upd (upd (A 55) 2 (A 55 2 + nI (min k (hN (A 44))))) 5 (A 55 5 + nI 1) = E at *
    have zE : zb 6 E := by rw [← hE]; exact zb_upd (zb_upd h12 (by decide)) (by decide)
    have n : ∀ c, c ≠ 55 → ¬ (43 < c ∧ c < 47) → cA (va_up A 55 E) 43 W.1 W.2 c = A c := fun c a1 a2 => by rw [cA_n _ _ _ (by omega) (by omega) (by omega), up_ne a1]
    have e82 : cA (va_up A 55 E) 43 W.1 W.2 82 = A 44 := by rw [n _ (by decide) (by decide), h5]
    have e83 : cA (va_up A 55 E) 43 W.1 W.2 83 = A 45 := by rw [n _ (by decide) (by decide), h5b]
    have e94 : cA (va_up A 55 E) 43 W.1 W.2 94 = A 55 := by rw [n _ (by decide) (by decide), h11]
    have q := m_eat (d := 76) (L := L) (X := cX X 43 W.1) (A := cA (va_up A 55 E) 43 W.1 W.2) (by rw [e82]; exact h1.1) (by rw [e83]; exact h1.2.1) (by rw [n _ (by decide) (by decide)]; exact h7) (by rw [n _ (by decide) (by decide)]; exact h8) (by rw [e82]; exact h9) hk
    rw [e82, e83, e94] at q
    simp only [hW, hE] at q
    refine ⟨⟨_, _, _, rfl⟩, _, q, fun w' hw' => ?_⟩
    obtain ⟨Z, rfl⟩ := hw'
    exact ⟨_, _, _, rfl, inv_dc hi hz.1 hz.2 ho hs zE⟩
theorem p_run (hi : inv X A L) : pairI 80 yX10_run cX10_run 2 yX11_run cX11_run 2 [] X A L := by
  obtain ⟨h1, h2, h3, h4, h5, h5b, h7, h8, h9, h10, h11, h12⟩ := id hi.1
  refine ⟨_, _, c_run (d := 76) h1, fun w hw => ?_⟩
  subst hw
  have hz : zb 49 (htC (A 44) (A 45) 49).1 := htC_z h1.1 49 (Nat.le_refl _)
  have ho : ow (htC (A 44) (A 45) 49).1 := by rw [← hmC_eq _ _ 49 (Nat.le_refl _)]; exact (hmC_ok h9 49 (Nat.le_refl _)).2
  generalize hE : upd (A 55) 3 (A 55 3 + nI (htC (A 44) (A 45) 49).2) = E at *
  have zE : zb 6 E := by rw [← hE]; exact zb_upd h12 (by decide)
  generalize hW : (htC (A 44) (A 45) 49).1 = W at *
  have n : ∀ c, c ≠ 55 → ¬ (43 < c ∧ c < 47) → cA (va_up A 55 E) 43 W (A 45) c = A c := fun c a1 a2 => by rw [cA_n _ _ _ (by omega) (by omega) (by omega), up_ne a1]
  have e82 : cA (va_up A 55 E) 43 W (A 45) 82 = A 44 := by rw [n _ (by decide) (by decide), h5]
  have e83 : cA (va_up A 55 E) 43 W (A 45) 83 = A 45 := by rw [n _ (by decide) (by decide), h5b]
  have e94 : cA (va_up A 55 E) 43 W (A 45) 94 = A 55 := by rw [n _ (by decide) (by decide), h11]
  have q := m_run (d := 77) (L := L) (X := cX X 43 W) (A := cA (va_up A 55 E) 43 W (A 45)) (by rw [e82]; exact h1.1) (by rw [e83]; exact h1.2.1) (by rw [n _ (by decide) (by decide)]; exact h7) (by rw [n _ (by decide) (by decide)]; exact h8) (by rw [e82]; exact h9)
  rw [e82, e83, e94, hmC_eq _ _ 49 (Nat.le_refl _), hW, hE] at q
  refine ⟨⟨_, _, _, rfl⟩, _, q, fun w' hw' => ?_⟩
  obtain ⟨Z, rfl⟩ := hw'
  exact ⟨_, _, _, rfl, inv_dc hi hz h1.2.1 ho h10 zE⟩
theorem p_fly (hi : inv X A L) (a : Int32) : pairI 80 yX10_fly cX10_fly 3 yX11_fly cX11_fly 3 [.int a] X A L := by
  obtain ⟨h1, h2, h3, h4, h5, h5b, h7, h8, h9, h10, h11, h12⟩ := id hi.1
  by_cases h0 : a < 0
  · exact pair_fn (c_fly_neg (d := 75) h0) (m_fly_neg (d := 77) h0) hi
  · obtain ⟨k, hk31, rfl⟩ := nI_nn h0
    cases hs : swB k with
    | false => exact pair_fn (c_fly_no (d := 75) hk31 hs) (m_fly_no (d := 77) hk31 hs) hi
    | true =>
      refine ⟨_, _, c_fly (d := 75) h1 hk31 hs, fun w hw => ?_⟩
      subst hw
      have hz := abS_z (z := k / 10) (m := k % 10) (c := (A 44, A 45)) h1.1 h1.2.1 49 (Nat.le_refl _)
      have ho := abS_ow (z := k / 10) (m := k % 10) (c := (A 44, A 45)) h9 49
      have hs6 := s6_ab (z := k / 10) (m := k % 10) (c := (A 44, A 45)) h10
      generalize hW : abS (k / 10) (k % 10) (A 44, A 45) 49 = W at *
      generalize hE : upd (A 55) 4 (A 55 4 + nI W.2) = E at *
      have zE : zb 6 E := by rw [← hE]; exact zb_upd h12 (by decide)
      have n : ∀ c, c ≠ 55 → ¬ (43 < c ∧ c < 47) → cA (va_up A 55 E) 43 W.1.1 W.1.2 c = A c := fun c a1 a2 => by rw [cA_n _ _ _ (by omega) (by omega) (by omega), up_ne a1]
      have e82 : cA (va_up A 55 E) 43 W.1.1 W.1.2 82 = A 44 := by rw [n _ (by decide) (by decide), h5]
      have e83 : cA (va_up A 55 E) 43 W.1.1 W.1.2 83 = A 45 := by rw [n _ (by decide) (by decide), h5b]
      have e94 : cA (va_up A 55 E) 43 W.1.1 W.1.2 94 = A 55 := by rw [n _ (by decide) (by decide), h11]
      have q := m_fly (d := 77) (L := L) (X := cX X 43 W.1.1) (A := cA (va_up A 55 E) 43 W.1.1 W.1.2) (by rw [e82]; exact h1.1) (by rw [e83]; exact h1.2.1) (by rw [n _ (by decide) (by decide)]; exact h7) (by rw [n _ (by decide) (by decide)]; exact h8) (by rw [e82]; exact h9) hk31 hs
      rw [e82, e83, e94, hW, hE] at q
      refine ⟨⟨_, _, _, rfl⟩, _, q, fun w' hw' => ?_⟩
      subst hw'
      exact ⟨_, _, _, rfl, inv_dc hi hz.1 hz.2 ho hs6 zE⟩
theorem p_sale (hi : inv X A L) (a : Int32) : pairI 80 yX10_sale cX10_sale 3 yX11_sale cX11_sale 3 [.int a] X A L := by
  obtain ⟨B, cd, vl, st, an, en, n, na, v, td, tm, tx, hr, hm, hk, v6, v7, vi⟩ := inv_rul hi
  obtain ⟨h1, h2, h3, h4, h5, h5b, h7, h8, h9, h10, h11, h12⟩ := id hi.1
  by_cases h0 : a < 0
  · exact pair_fn (c_sale_neg (d := 75) h0) (m_sale_neg (d := 26) h0) hi
  · obtain ⟨k, hk31, rfl⟩ := nI_nn h0
    cases hs : slA na (nI (k / 10)) (nI (k % 10)) with
    | false => exact pair_fn (c_sale_no (d := 75) hr hk31 hs) (m_sale_no (d := 26) hm hk31 hs) hi
    | true =>
      obtain ⟨⟨k', hk', e'⟩, ⟨x', hx1, hx6, ex'⟩⟩ := slA_in hm.2.2.2.2.2.2.1 hs
      have hB := hr.1
      have hB2 := hB
      unfold isB at hB2
      cases hP : seP (RkC cd vl st an en n v) (A 44, A 45) (nI (k / 10)) (nI (k % 10)) with
      | none =>
        refine ⟨_, _, c_sale_full (d := 75) hr h1 hk31 hs hP, fun w hw => ?_⟩
        obtain ⟨f, g, rfl⟩ := hw
        have hz := inv_z hi hB (f := f) (g := g)
        have e82 : scr A B f g 82 = A 44 := by rw [scr_n _ _ _ _ (by omega) (by omega)]; exact h5
        have e83 : scr A B f g 83 = A 45 := by rw [scr_n _ _ _ _ (by omega) (by omega)]; exact h5b
        have ep : seP (RkM td tm tx v) (scr A B f g 82, scr A B f g 83) (nI (k / 10)) (nI (k % 10)) = none := by
          rw [e82, e83, ← hP, e', seP_cg hk hk']
        have q := m_sale_full (d := 26) (L := L) (mrul_c hm rfl rfl (scr_n A B f g (by omega) (by omega)) (scr_n A B f g (by omega) (by omega))) (by rw [e82]; exact h1.1) (by rw [e83]; exact h1.2.1) (by rw [scr_n _ _ _ _ (by omega) (by omega)]; exact h7) (by rw [scr_n _ _ _ _ (by omega) (by omega)]; exact h8) (by rw [e82]; exact h9) hk31 hs ep
        refine ⟨⟨_, _, _, rfl⟩, _, q, fun w' hw' => ?_⟩
        obtain ⟨y, N, rfl⟩ := hw'
        exact ⟨_, _, _, rfl, inv_zX (inv_m (inv_88 hz (Or.inl rfl)) (by rw [e82]; exact h1.1) (by rw [e83]; exact h1.2.1))⟩
      | some p =>
        refine ⟨_, _, c_sale (d := 75) hr h1 hk31 hs hP, fun w hw => ?_⟩
        obtain ⟨f, g, rfl⟩ := hw
        have hz : zb 49 (seS (RkC cd vl st an en n v) (A 44, A 45) (nI (k / 10)) (nI (k % 10))).1 ∧ zb 49 (seS (RkC cd vl st an en n v) (A 44, A 45) (nI (k / 10)) (nI (k % 10))).2 := seS_z ⟨h1.1, h1.2.1⟩
        have ho : ow (seS (RkC cd vl st an en n v) (A 44, A 45) (nI (k / 10)) (nI (k % 10))).1 := seS_ow h9 (Int32.not_lt.mp (nI_pos (by omega)))
        have hs6 : s6 (seS (RkC cd vl st an en n v) (A 44, A 45) (nI (k / 10)) (nI (k % 10))).2 := by rw [ex']; exact s6_seS h10 hx6
        have eS : seS (RkM td tm tx v) (A 44, A 45) (nI (k / 10)) (nI (k % 10)) = seS (RkC cd vl st an en n v) (A 44, A 45) (nI (k / 10)) (nI (k % 10)) := by rw [e', seS_cg hk hk']
        have eP : seP (RkM td tm tx v) (A 44, A 45) (nI (k / 10)) (nI (k % 10)) = some p := by rw [← hP, e', seP_cg hk hk']
        unfold twd
        generalize hW : seS (RkC cd vl st an en n v) (A 44, A 45) (nI (k / 10)) (nI (k % 10)) = W at *
        generalize hE : upd (upd (A 55) 0 (A 55 0 + nI 1)) 1 (A 55 1 + nI (k % 10)) = E at *
        have zE : zb 6 E := by rw [← hE]; exact zb_upd (zb_upd h12 (by decide)) (by decide)
        generalize hA1 : scr (cA (va_up A 55 E) 43 W.1 W.2) B f g = A1 at *
        have n : ∀ c, c ≠ 55 → ¬ (43 < c ∧ c < 47) → c ≠ B + 6 → c ≠ B + 7 → A1 c = A c := fun c a1 a2 a3 a4 => by rw [← hA1, scr_n _ _ _ _ a3 a4, cA_n _ _ _ (by omega) (by omega) (by omega), up_ne a1]
        have e82 : A1 82 = A 44 := by rw [n _ (by decide) (by decide) (by omega) (by omega), h5]
        have e83 : A1 83 = A 45 := by rw [n _ (by decide) (by decide) (by omega) (by omega), h5b]
        have e94 : A1 94 = A 55 := by rw [n _ (by decide) (by decide) (by omega) (by omega), h11]
        have q := m_sale (d := 26) (L := L) (X := cX X 43 W.1) (A := A1) (q := p) (mrul_c hm (by rw [cX_n _ _ (by decide)]) (by rw [cX_n _ _ (by decide)]) (n _ (by decide) (by decide) (by omega) (by omega)) (n _ (by decide) (by decide) (by omega) (by omega))) (by rw [e82]; exact h1.1) (by rw [e83]; exact h1.2.1) (by rw [n _ (by decide) (by decide) (by omega) (by omega)]; exact h7) (by rw [n _ (by decide) (by decide) (by omega) (by omega)]; exact h8) (by rw [e82]; exact h9) hk31 hs (by rw [e82, e83]; exact eP)
        rw [e82, e83, e94, eS, hE] at q
        refine ⟨⟨_, _, _, rfl⟩, _, q, fun w' hw' => ?_⟩
        obtain ⟨y, N, rfl⟩ := hw'
        refine ⟨_, _, _, rfl, inv_zX ?_⟩
        rw [mA_eA]
        show inv (cX X 43 W.1) (dA (va_up A1 88 N) W.1 W.2 (va_up A1 88 N 89) E) L
        have hc := cok_scr (f := f) (g := g) hB (show isK 43 by unfold isK; omega) (cok_c (X := X) (A := va_up A 55 E) (K := 43) hz.1 hz.2)
        rw [hA1] at hc
        have e44 : A1 44 = W.1 := by rw [← hA1, scr_n _ _ _ _ (by omega) (by omega)]; exact cA_1 _ _ _ _
        have e45 : A1 45 = W.2 := by rw [← hA1, scr_n _ _ _ _ (by omega) (by omega)]; exact cA_2 _ _ _ _
        have e55 : A1 55 = E := by rw [← hA1, scr_n _ _ _ _ (by omega) (by omega), cA_n _ _ _ (by decide) (by decide) (by decide), vu_s]
        exact inv_dA hi (cok_i hc rfl (up_ne (by decide)) (up_ne (by decide)) (up_ne (by decide))) (by rw [up_ne (by decide)]; exact e44) (by rw [up_ne (by decide)]; exact e45) (by rw [up_ne (by decide)]; exact e55) hz.1 hz.2 ho hs6 zE (fun c h1 _ => cX_n _ _ h1) (fun q _ => by rw [cX_n _ _ (by decide)]) (fun c hc => by unfold gW at hc; rw [up_ne (by omega), n c (by omega) (by omega) (by omega) (by omega)])
end PR14
