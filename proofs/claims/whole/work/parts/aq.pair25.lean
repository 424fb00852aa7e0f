section PR25a
variable {n : Nat} {tx tp : Nat → Nat}
theorem rd_bnd (ht : ∀ i, tx i < 256) : ∀ (m a : Nat) (s : rT), bnd s → bnd (rdF n tx m a s).2
  | 0, _, _, h => h
  | m + 1, a, s, h => by
    by_cases ha : a < n
    · by_cases hw : s.2 6 = 0
      · rw [rd_s ha hw]
        by_cases h1 : (siP s (tx a)).2 < 1
        · rw [if_pos h1]; exact b_si (ht a) h
        · rw [if_neg h1]; exact rd_bnd ht m _ _ (b_si (ht a) h)
      · rw [rd_o ha hw]
        by_cases h1 : (opP n tx a s).2 < 1
        · rw [if_pos h1]; exact b_op ht h
        · rw [if_neg h1]; exact rd_bnd ht m _ _ (b_op ht h)
    · by_cases he : s.2 6 = 0 ∧ s.2 5 = 0
      · rw [rd_e ha he]
        exact b_rl (m := s.2 4) (wk := 1) h
      · rw [rd_f ha he]; exact h
theorem nuL_cg (h : ∀ i, i < n → tx i = tp i) {a : Nat} : ∀ (m j x : Nat), nuL n tx a m j x = nuL n tp a m j x
  | 0, _, _ => rfl
  | m + 1, j, x => by
    unfold nuL
    by_cases e : a + j < n
    · rw [if_pos e, if_pos e, h _ e]
      by_cases e2 : dgB (tp (a + j)) = true
      · rw [if_pos e2, if_pos e2]; exact nuL_cg h m _ _
      · rw [if_neg e2, if_neg e2]
    · rw [if_neg e, if_neg e]
theorem opP_cg (h : ∀ i, i < n → tx i = tp i) {a : Nat} (ha : a < n) {s : rT} : opP n tx a s = opP n tp a s := by
  unfold opP
  rw [h a ha, nuL_cg h]
theorem rdF_cg (h : ∀ i, i < n → tx i = tp i) : ∀ (m a : Nat) (s : rT), rdF n tx m a s = rdF n tp m a s
  | 0, _, _ => rfl
  | m + 1, a, s => by
    by_cases ha : a < n
    · by_cases hw : s.2 6 = 0
      · rw [rd_s ha hw, rd_s ha hw, h a ha]
        by_cases h1 : (siP s (tp a)).2 < 1
        · rw [if_pos h1, if_pos h1]
        · rw [if_neg h1, if_neg h1]; exact rdF_cg h m _ _
      · rw [rd_o ha hw, rd_o ha hw, opP_cg h ha]
        by_cases h1 : (opP n tp a s).2 < 1
        · rw [if_pos h1, if_pos h1]
        · rw [if_neg h1, if_neg h1]; exact rdF_cg h m _ _
    · by_cases he : s.2 6 = 0 ∧ s.2 5 = 0
      · rw [rd_e ha he, rd_e ha he]
      · rw [rd_f ha he, rd_f ha he]
end PR25a
section PR25
variable {X A X' A' : Nat → Nat → Int32} {L : Nat → Nat → Int64}
theorem r16_at {x : Nat → Int32} {k : Nat → Nat} (h3 : x 3 = nI (k 4)) (h4 : x 4 = nI (k 5)) (h5 : x 5 = nI (k 6)) (h6 : x 6 = nI (k 7)) : r16 x k = x := by
  funext q
  unfold r16
  by_cases e3 : q = 3
  · subst e3; rw [if_pos rfl, h3]
  · rw [if_neg e3]
    by_cases e4 : q = 4
    · subst e4; rw [if_pos rfl, h4]
    · rw [if_neg e4]
      by_cases e5 : q = 5
      · subst e5; rw [if_pos rfl, h5]
      · rw [if_neg e5]
        by_cases e6 : q = 6
        · subst e6; rw [if_pos rfl, h6]
        · rw [if_neg e6]
theorem rG_at {x : Nat → Int32} {k : Nat → Nat} (h3 : x 2 = nI (k 0)) (h4 : x 6 = nI (k 1)) (h5 : x 7 = nI (k 2)) (h6 : x 8 = nI (k 3)) : rG x k = x := by
  funext q
  unfold rG
  by_cases e3 : q = 2
  · subst e3; rw [if_pos rfl, h3]
  · rw [if_neg e3]
    by_cases e4 : q = 6
    · subst e4; rw [if_pos rfl, h4]
    · rw [if_neg e4]
      by_cases e5 : q = 7
      · subst e5; rw [if_pos rfl, h5]
      · rw [if_neg e5]
        by_cases e6 : q = 8
        · subst e6; rw [if_pos rfl, h6]
        · rw [if_neg e6]
theorem rX_at {G : Nat} {k : Nat → Nat} (hG : G ≠ 16) (h1 : r16 (X 16) k = X 16) (h2 : rG (X G) k = X G) : rX X G k = X := by
  unfold rX
  rw [h1, vu_self, h2, vu_self]
theorem rA_at {G : Nat} {f : Nat → Nat → Nat} (h0 : A 18 = nIf (f 0)) (h1 : A (G + 1) = nIf (f 1)) (h2 : A (G + 2) = nIf (f 2)) (h3 : A (G + 3) = nIf (f 3)) (h4 : A (G + 4) = nIf (f 4)) (h5 : A (G + 5) = nIf (f 5)) : rA A G f = A := by
  funext c
  unfold rA
  by_cases e0 : c = 18
  · subst e0; rw [if_pos rfl, h0]
  · rw [if_neg e0]
    by_cases e1 : c = G + 1
    · subst e1; rw [if_pos rfl, h1]
    · rw [if_neg e1]
      by_cases e2 : c = G + 2
      · subst e2; rw [if_pos rfl, h2]
      · rw [if_neg e2]
        by_cases e3 : c = G + 3
        · subst e3; rw [if_pos rfl, h3]
        · rw [if_neg e3]
          by_cases e4 : c = G + 4
          · subst e4; rw [if_pos rfl, h4]
          · rw [if_neg e4]
            by_cases e5 : c = G + 5
            · subst e5; rw [if_pos rfl, h5]
            · rw [if_neg e5]
theorem rA_o {G : Nat} {f : Nat → Nat → Nat} {c : Nat} (h0 : c ≠ 18) (h1 : ¬ (G < c ∧ c ≤ G + 5)) : rA A G f c = A c := by
  unfold rA
  rw [if_neg h0, if_neg (by omega), if_neg (by omega), if_neg (by omega), if_neg (by omega), if_neg (by omega)]
/-- a law was called: the tape is cut off -/
theorem inv_law (hi : inv X A L) (hX : ∀ c, c ≠ 15 → c ≠ 16 → c ≠ 19 → c ≠ 27 → c ≠ 76 → X' c = X c) (h16 : X' 16 1 = nI 0) (h76 : ∀ q, q ≠ 13 → q ≠ 15 → (q < 16 ∨ 20 < q) → X' 76 q = X 76 q) (h13 : X' 76 13 = nI 0) (hA : ∀ c, c ≠ 87 → ¬ (17 < c ∧ c < 25) → ¬ (27 < c ∧ c < 33) → A' c = A c) (hL : ∃ B G cd vl st an en n td tm tx f k, iL X' A' B G cd vl st an en n td tm tx f k) : inv X' A' L := by
  obtain ⟨iC1, ⟨na, v, hV⟩, ⟨dn, kp, pl, bf, af, hD⟩, iI1, ⟨tl, tp, hT⟩, ⟨nb, r, kd, hH⟩, _, iO1, iS⟩ := hi
  have hX2 : ∀ c, c ≠ 15 → c ≠ 16 → c ≠ 19 → c ≠ 27 → c ≠ 76 → ∀ q, X' c q = X c q := fun c h1 h2 h3 h4 h5 q => by rw [hX c h1 h2 h3 h4 h5]
  obtain ⟨t1, t2, t3, t4, t5, t6⟩ := hT
  exact ⟨iC_c iC1 (fun c hc => hX c (by omega) (by omega) (by omega) (by omega) (by omega)) (fun c hc => by unfold cC at hc; exact hA c (by omega) (by omega) (by omega)),
    ⟨na, v, iV_c hV (hX2 _ (by decide) (by decide) (by decide) (by decide) (by decide) _) (hA _ (by decide) (by decide) (by decide)) (h76 _ (by decide) (by decide) (by decide)) (hA _ (by decide) (by decide) (by decide))⟩,
    ⟨dn, kp, pl, bf, af, iD_c hD (hX2 _ (by decide) (by decide) (by decide) (by decide) (by decide) _) (hX2 _ (by decide) (by decide) (by decide) (by decide) (by decide) _) (h76 _ (by decide) (by decide) (by decide)) (h76 _ (by decide) (by decide) (by decide)) (fun c hc => hA c (by omega) (by omega) (by omega))⟩,
    iI_c iI1 (hX2 _ (by decide) (by decide) (by decide) (by decide) (by decide) _) (h76 _ (by decide) (by decide) (by decide)) (fun c hc => hA c (by omega) (by omega) (by omega)),
    ⟨0, tp, by decide, t2, h16, by rw [hA _ (by decide) (by decide) (by decide)]; exact t4, h13, by rw [hA _ (by decide) (by decide) (by decide)]; exact t6⟩,
    ⟨nb, r, kd, iH_c hH (hX _ (by decide) (by decide) (by decide) (by decide) (by decide)) (h76 _ (by decide) (by decide) (by decide)) (h76 _ (by decide) (by decide) (by decide)) (fun c hc => hA c (by omega) (by omega) (by omega))⟩, hL,
    iO_c iO1 (hA _ (by decide) (by decide) (by decide)) (hA _ (by decide) (by decide) (by decide)),
    iS_c iS (fun c a b => hX c (by omega) (by omega) (by omega) (by omega) (by omega)) (hA _ (by decide) (by decide) (by decide)) (hA _ (by decide) (by decide) (by decide)) rfl (hX2 _ (by decide) (by decide) (by decide) (by decide) (by decide) _)⟩
theorem p_law (hix : ∀ {d : Nat} {X A : Nat → Nat → Int32} {L : Nat → Nat → Int64} {c : Nat}, c < 256 → jMet (d + 3) yJ0_indexOf_0f7a4 cJ0_indexOf_0f7a4 2 (some .int) 0 0 [.ref 3, .int (nI c)] (tw X A L) (jRi (ixN c) (tw X A L))) (hi : inv X A L) : pairI 80 yX10_law cX10_law 2 yX11_law cX11_law 4 [] X A L := by
  obtain ⟨iC1, ⟨na, v, hV⟩, ⟨dn, kp, pl, bf, af, hD⟩, iI1, ⟨tl, tp, hT⟩, ⟨nb, r, kd, hH⟩, ⟨B, G, cd, vl, st, an, en, n, td, tm, tx, f, k, hL⟩, iO1, iS⟩ := id hi
  obtain ⟨a1, a2, a3, a4, a5, a6, a7, a8, a9, a10, a11, a12, a13, a14, a15, a16, a17, a18, a19, a20, a21⟩ := id hL
  obtain ⟨t1, t2, t3, t4, t5, t6⟩ := id hT
  have hB : isB B := by unfold isB; omega
  have hG : isB G := by unfold isB; omega
  have c := c_law (d := 73) (L := L) hix hB a2 a3 hG t3 t1 t4 t2 (k := k) a19
  rw [a17, a18] at c
  have hle : ∀ nm : Nat → Int32, (wkF tl tp nm).2.2.1 = (rdF tl tp (tl + 1) 0 (f, rs0 k)).1 := fun nm => (law_eq (n := tl) (tx := tp) (nm := nm) (f := f) (k := k)).1
  have hlt : ∀ b, (rdF tl tp (tl + 1) 0 (f, rs0 k)).1 = some b → b ≤ tl := fun b hb => rd_lt0 a19 hb
  have hbd : bnd (rdF tl tp (tl + 1) 0 (f, rs0 k)).2 := rd_bnd t2 _ _ _ ⟨a19, a20, a21⟩
  cases hR : (rdF tl tp (tl + 1) 0 (f, rs0 k)).1 with
  | some b =>
    rw [hR] at c
    generalize hF : (rdF tl tp (tl + 1) 0 (f, rs0 k)).2.1 = f' at *
    generalize hKK : (rdF tl tp (tl + 1) 0 (f, rs0 k)).2.2 = k' at *
    refine ⟨_, _, c, fun w hw => ?_⟩
    rw [if_neg (by intro q; cases q)] at hw
    subst hw
    have nX : ∀ c, c ≠ 16 → c ≠ G → tlX X G k' c = X c := fun c q1 q2 => by unfold tlX rX; rw [up_ne q1, up_ne q2, up_ne q1]
    have nA : ∀ c, c ≠ 18 → ¬ (G < c ∧ c ≤ G + 5) → rA A G f' c = A c := fun c q1 q2 => rA_o q1 q2
    have x16 : ∀ q, q ≠ 1 → tlX X G k' 16 q = rX X G k' 16 q := fun q hq => by unfold tlX; rw [vu_s, ud_n _ _ _ hq]
    have xG : tlX X G k' G = rX X G k' G := by unfold tlX; rw [up_ne (by omega)]
    have hL1 : iL (tlX X G k') (rA A G f') B G cd vl st an en n td tm tx f' k' := by
      refine ⟨a1, ?_, ?_, ?_, ?_, ?_, ?_, ?_, ?_, a10, ?_, a12, a13, ?_, ?_, a16, rX_at (by omega) (r16_at ?_ ?_ ?_ ?_) (rG_at ?_ ?_ ?_ ?_), rA_at (rA_r (r := 0) (by decide) hG) (rA_r (r := 1) (by decide) hG) (rA_r (r := 2) (by decide) hG) (rA_r (r := 3) (by decide) hG) (rA_r (r := 4) (by decide) hG) (rA_r (r := 5) (by decide) hG), ?_, ?_, ?_⟩
      · rw [nX _ (by omega) (by omega)]; exact a2
      · rw [nX _ (by omega) (by omega)]; exact a3
      · rw [nA _ (by omega) (by omega)]; exact a4
      · rw [nA _ (by omega) (by omega)]; exact a5
      · rw [nA _ (by omega) (by omega)]; exact a6
      · rw [nA _ (by omega) (by omega)]; exact a7
      · rw [nA _ (by omega) (by omega)]; exact a8
      · rw [nX _ (by omega) (by omega)]; exact a9
      · rw [nX _ (by omega) (by omega)]; exact a11
      · rw [nX _ (by omega) (by omega)]; exact a14
      · rw [nA _ (by omega) (by omega)]; exact a15
      · rw [x16 _ (by decide)]; exact rX_3 hG
      · rw [x16 _ (by decide)]; exact rX_4 hG
      · rw [x16 _ (by decide)]; exact rX_5 hG
      · rw [x16 _ (by decide)]; exact rX_6 hG
      · rw [xG]; exact rX_G2
      · rw [xG]; exact rX_G6
      · rw [xG]; exact rX_G7
      · rw [xG]; exact rX_G8
      · rw [← hF]; exact hbd.1
      · rw [← hF]; exact hbd.2.1
      · rw [← hF]; exact hbd.2.2
    have x161 : tlX X G k' 16 1 = nI 0 := by unfold tlX; rw [vu_s, ud_s]
    generalize tlX X G k' = X1 at *
    generalize rA A G f' = A1 at *
    have q := m_law (d := 29) (L := L) (X := X1) (A := A1) (n := tl) (tx := tp) t1 t2 (by rw [nX _ (by decide) (by omega)]; exact t5) (by rw [nA _ (by decide) (by omega)]; exact t6) (fun b hb => by rw [hle] at hb; have := hlt b hb; omega)
    rw [hle, hR] at q
    refine ⟨⟨_, _, _, rfl⟩, _, q, fun w' hw' => ?_⟩
    rw [if_neg (by intro q; cases q)] at hw'
    subst hw'
    generalize (wkF tl tp (A1 88)).2 = ps
    have n76 : ∀ c, c ≠ 76 → va_up (pX (bX X1 (-1) tl) ps) 76 (upd (pX (bX X1 (-1) tl) ps 76) 13 (nI 0)) c = X1 c := fun c hc => by unfold pX bX; rw [up_ne hc, up_ne hc, up_ne hc]
    have m76 : ∀ q, q ≠ 13 → (q < 16 ∨ 20 < q) → va_up (pX (bX X1 (-1) tl) ps) 76 (upd (pX (bX X1 (-1) tl) ps 76) 13 (nI 0)) 76 q = X1 76 q := fun q h1 h2 => by rw [vu_s, ud_n _ _ _ h1, pX_n (by omega) (by omega) (by omega), bX_n (by omega) (by omega)]
    exact ⟨_, _, _, rfl, inv_law hi (fun c g1 g2 g3 g4 g5 => by rw [n76 c g5, nX c g2 (by omega)]) (by rw [n76 _ (by decide)]; exact x161) (fun q g1 g2 g3 => by rw [m76 q g1 g3, nX _ (by decide) (by omega)]) (by rw [vu_s, ud_s]) (fun c g1 g2 g3 => nA c (by omega) (by omega)) ⟨B, G, cd, vl, st, an, en, n, td, tm, tx, f', k', iL_c hL1 (fun c hc => n76 c (by omega)) (fun q _ _ => by rw [n76 _ (by decide)]) (m76 _ (by decide) (by decide)) (fun _ _ => rfl)⟩⟩
  | none =>
    rw [hR] at c
    obtain ⟨_, hlw⟩ := rd_lwf t1 t2 ⟨a19, a20, a21⟩ hR
    have hnew := fun (tx' : Nat → Nat) (h : ∀ i, i < tl → tx' i = tp i) => lwR_new (n := tl) (tx := tx') (f := f) (k := k) (by rw [rdF_cg h]; exact hR)
    have hcg := fun (tx' : Nat → Nat) (h : ∀ i, i < tl → tx' i = tp i) => rdF_cg h (tl + 1) 0 (f, rs0 k)
    generalize hRR : rdF tl tp (tl + 1) 0 (f, rs0 k) = R at *
    obtain ⟨R1, f', k'⟩ := R
    have hR1 : R1 = none := hR
    subst hR1
    refine ⟨_, _, c, fun w hw => ?_⟩
    rw [if_pos rfl] at hw
    subst hw
    have n15 : ∀ c, c ≠ 15 → swX (tlX X G k') B G c = tlX X G k' c := fun c q => by unfold swX; rw [up_ne q]
    have nX : ∀ c, c ≠ 15 → c ≠ 16 → c ≠ G → swX (tlX X G k') B G c = X c := fun c q0 q1 q2 => by rw [n15 c q0]; unfold tlX rX; rw [up_ne q1, up_ne q2, up_ne q1]
    have nA : ∀ c, c ≠ 18 → ¬ (G < c ∧ c ≤ G + 5) → rA A G f' c = A c := fun c q1 q2 => rA_o q1 q2
    have x16 : ∀ q, q ≠ 1 → swX (tlX X G k') B G 16 q = rX X G k' 16 q := fun q hq => by rw [n15 _ (by decide)]; unfold tlX; rw [vu_s, ud_n _ _ _ hq]
    have xG : swX (tlX X G k') B G G = rX X G k' G := by rw [n15 _ (by omega)]; unfold tlX; rw [up_ne (by omega)]
    have x161 : swX (tlX X G k') B G 16 1 = nI 0 := by rw [n15 _ (by decide)]; unfold tlX; rw [vu_s, ud_s]
    have x153 : swX (tlX X G k') B G 15 3 = nI G := by unfold swX; rw [vu_s, ud_n _ _ _ (by decide), ud_s]
    have x154 : swX (tlX X G k') B G 15 4 = nI B := by unfold swX; rw [vu_s, ud_s]
    have e163 : swX (tlX X G k') B G 16 3 = nI (k' 4) := by rw [x16 _ (by decide)]; exact rX_3 hG
    have e164 : swX (tlX X G k') B G 16 4 = nI (k' 5) := by rw [x16 _ (by decide)]; exact rX_4 hG
    have e165 : swX (tlX X G k') B G 16 5 = nI (k' 6) := by rw [x16 _ (by decide)]; exact rX_5 hG
    have e166 : swX (tlX X G k') B G 16 6 = nI (k' 7) := by rw [x16 _ (by decide)]; exact rX_6 hG
    have eG2 : swX (tlX X G k') B G G 2 = nI (k' 0) := by rw [xG]; exact rX_G2
    have eG6 : swX (tlX X G k') B G G 6 = nI (k' 1) := by rw [xG]; exact rX_G6
    have eG7 : swX (tlX X G k') B G G 7 = nI (k' 2) := by rw [xG]; exact rX_G7
    have eG8 : swX (tlX X G k') B G G 8 = nI (k' 3) := by rw [xG]; exact rX_G8
    have f0 : rA A G f' 18 = nIf (f' 0) := rA_r (r := 0) (by decide) hG
    have f1 : rA A G f' (G + 1) = nIf (f' 1) := rA_r (r := 1) (by decide) hG
    have f2 : rA A G f' (G + 2) = nIf (f' 2) := rA_r (r := 2) (by decide) hG
    have f3 : rA A G f' (G + 3) = nIf (f' 3) := rA_r (r := 3) (by decide) hG
    have f4 : rA A G f' (G + 4) = nIf (f' 4) := rA_r (r := 4) (by decide) hG
    have f5 : rA A G f' (G + 5) = nIf (f' 5) := rA_r (r := 5) (by decide) hG
    generalize swX (tlX X G k') B G = X1 at *
    generalize rA A G f' = A1 at *
    have q := m_law (d := 29) (L := L) (X := X1) (A := A1) (n := tl) (tx := tp) t1 t2 (by rw [nX _ (by decide) (by decide) (by omega)]; exact t5) (by rw [nA _ (by decide) (by omega)]; exact t6) (fun b hb => by rw [hle] at hb; have := hlt b hb; omega)
    rw [hle] at q
    refine ⟨⟨_, _, _, rfl⟩, _, q, fun w' hw' => ?_⟩
    rw [if_pos rfl] at hw'
    subst hw'
    generalize (wkF tl tp (A1 88)).2 = ps
    have n76 : ∀ c, c ≠ 76 → va_up (va_up (pX (bX X1 (-1) tl) ps) 76 (upd (pX (bX X1 (-1) tl) ps 76) 13 (nI 0))) 76 (upd ((va_up (pX (bX X1 (-1) tl) ps) 76 (upd (pX (bX X1 (-1) tl) ps 76) 13 (nI 0))) 76) 15 (nI tl)) c = X1 c := fun c hc => by unfold pX bX; rw [up_ne hc, up_ne hc, up_ne hc, up_ne hc]
    have m76 : ∀ q, q ≠ 13 → q ≠ 15 → (q < 16 ∨ 20 < q) → va_up (va_up (pX (bX X1 (-1) tl) ps) 76 (upd (pX (bX X1 (-1) tl) ps 76) 13 (nI 0))) 76 (upd ((va_up (pX (bX X1 (-1) tl) ps) 76 (upd (pX (bX X1 (-1) tl) ps 76) 13 (nI 0))) 76) 15 (nI tl)) 76 q = X1 76 q := fun q h1 h15 h2 => by rw [vu_s, ud_n _ _ _ h15, vu_s, ud_n _ _ _ h1, pX_n (by omega) (by omega) (by omega), bX_n (by omega) (by omega)]
    have p13 : va_up (va_up (pX (bX X1 (-1) tl) ps) 76 (upd (pX (bX X1 (-1) tl) ps 76) 13 (nI 0))) 76 (upd ((va_up (pX (bX X1 (-1) tl) ps) 76 (upd (pX (bX X1 (-1) tl) ps 76) 13 (nI 0))) 76) 15 (nI tl)) 76 13 = nI 0 := by rw [vu_s, ud_n _ _ _ (by decide), vu_s, ud_s]
    have p15 : va_up (va_up (pX (bX X1 (-1) tl) ps) 76 (upd (pX (bX X1 (-1) tl) ps 76) 13 (nI 0))) 76 (upd ((va_up (pX (bX X1 (-1) tl) ps) 76 (upd (pX (bX X1 (-1) tl) ps 76) 13 (nI 0))) 76) 15 (nI tl)) 76 15 = nI tl := by rw [vu_s, ud_s]
    generalize va_up (va_up (pX (bX X1 (-1) tl) ps) 76 (upd (pX (bX X1 (-1) tl) ps 76) 13 (nI 0))) 76 (upd ((va_up (pX (bX X1 (-1) tl) ps) 76 (upd (pX (bX X1 (-1) tl) ps 76) 13 (nI 0))) 76) 15 (nI tl)) = X2 at *
    have e87 : cpN (A1 86) (A1 87) tl = nIf (fun i => if i < tl then tp i else tx i) := by
      rw [nA 86 (by decide) (by omega), nA 87 (by decide) (by omega), t6, a15]
      funext i
      unfold cpN nIf
      by_cases h : i < tl
      · rw [if_pos h]
        show nI (tp i) = nI (if i < tl then tp i else tx i)
        rw [if_pos h]
      · rw [if_neg h]
        show nI (tx i) = nI (if i < tl then tp i else tx i)
        rw [if_neg h]
    rw [e87]
    have hagr : ∀ i, i < tl → (fun i => if i < tl then tp i else tx i) i = tp i := fun i h => if_pos h
    have hlr := hnew _ hagr
    rw [hcg _ hagr] at hlr
    have m87 : ∀ c, c ≠ 87 → va_up A1 87 (nIf (fun i => if i < tl then tp i else tx i)) c = A1 c := fun c hc => up_ne hc
    have s87 : va_up A1 87 (nIf (fun i => if i < tl then tp i else tx i)) 87 = nIf (fun i => if i < tl then tp i else tx i) := vu_s _ _ _
    generalize hA2 : va_up A1 87 (nIf (fun i => if i < tl then tp i else tx i)) = A2 at *
    obtain ⟨k0, k2, k3, ek0, ek2, ek3⟩ := a11
    refine ⟨_, _, _, rfl, inv_law hi (fun c g1 g2 g3 g4 g5 => by rw [n76 c g5, nX c g1 g2 (by omega)]) (by rw [n76 _ (by decide)]; exact x161) (fun q g1 g2 g3 => by rw [m76 q g1 g2 g3, nX _ (by decide) (by decide) (by omega)]) p13 (fun c g1 g2 g3 => by rw [m87 c g1]; exact nA c (by omega) (by omega)) ⟨G, B, f' 1, f' 2, f' 3, f' 4, f' 5, k' 1, true, tl, (fun i => if i < tl then tp i else tx i), (fun r => if r = 0 then f' 0 else if r = 1 then cd else if r = 2 then vl else if r = 3 then st else if r = 4 then an else en), (fun q => if q = 0 then k0 else if q = 1 then n else if q = 2 then k2 else if q = 3 then k3 else k' q), ?_⟩⟩
    refine ⟨by omega, ?_, ?_, ?_, ?_, ?_, ?_, ?_, ?_, hlw, ⟨k' 0, k' 2, k' 3, ?_, ?_, ?_⟩, t1, ?_, ?_, s87, hlr, rX_at (by omega) (r16_at ?_ ?_ ?_ ?_) (rG_at ?_ ?_ ?_ ?_), rA_at ?_ ?_ ?_ ?_ ?_ ?_, ?_, ?_, ?_⟩
    · rw [n76 _ (by decide)]; exact x153
    · rw [n76 _ (by decide)]; exact x154
    · rw [m87 _ (by omega)]; exact f1
    · rw [m87 _ (by omega)]; exact f2
    · rw [m87 _ (by omega)]; exact f3
    · rw [m87 _ (by omega)]; exact f4
    · rw [m87 _ (by omega)]; exact f5
    · rw [n76 _ (by omega)]; exact eG6
    · rw [n76 _ (by omega)]; exact eG2
    · rw [n76 _ (by omega)]; exact eG7
    · rw [n76 _ (by omega)]; exact eG8
    · intro i
      show (if i < tl then tp i else tx i) < 256
      split
      · exact t2 i
      · exact a13 i
    · rw [p15, if_pos rfl]
    · rw [n76 _ (by decide)]; exact e163
    · rw [n76 _ (by decide)]; exact e164
    · rw [n76 _ (by decide)]; exact e165
    · rw [n76 _ (by decide)]; exact e166
    · rw [n76 _ (by omega), nX _ (by omega) (by omega) (by omega)]; exact ek0
    · rw [n76 _ (by omega), nX _ (by omega) (by omega) (by omega)]; exact a9
    · rw [n76 _ (by omega), nX _ (by omega) (by omega) (by omega)]; exact ek2
    · rw [n76 _ (by omega), nX _ (by omega) (by omega) (by omega)]; exact ek3
    · rw [m87 _ (by decide)]; exact f0
    · rw [m87 _ (by omega), nA _ (by omega) (by omega)]; exact a4
    · rw [m87 _ (by omega), nA _ (by omega) (by omega)]; exact a5
    · rw [m87 _ (by omega), nA _ (by omega) (by omega)]; exact a6
    · rw [m87 _ (by omega), nA _ (by omega) (by omega)]; exact a7
    · rw [m87 _ (by omega), nA _ (by omega) (by omega)]; exact a8
    · exact hbd.1
    · exact a10.1
    · exact a10.2.1
end PR25
