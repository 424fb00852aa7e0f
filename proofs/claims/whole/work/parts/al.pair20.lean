section PR20
variable {X A X' A' : Nat → Nat → Int32} {L : Nat → Nat → Int64}
/-- an act was called -/
theorem inv_H (hi : inv X A L) {r' : Nat} (hr : r' < 2 ^ 30) (hX : ∀ c, c ≠ 60 → c ≠ 76 → X' c = X c) (h60 : X' 60 1 = X 60 1) (h63 : X' 60 3 = nI r') (h76 : ∀ q, q ≠ 39 → q ≠ 40 → q ≠ 41 → X' 76 q = X 76 q) (h39 : X' 76 39 = nI r') (hA : ∀ c, c ≠ 62 → c ≠ 99 → A' c = A c) (h99 : A' 99 = A' 62) : inv X' A' L := by
  obtain ⟨iC1, ⟨na, v, hV⟩, ⟨dn, kp, pl, bf, af, hD⟩, iI1, ⟨tl, tp, hT⟩, ⟨nb, r, kd, hH⟩, ⟨B, G, cd, vl, st, an, en, n, td, tm, tx, f, k, hL'⟩, iO1, iS⟩ := hi
  have hX2 : ∀ c, c ≠ 60 → c ≠ 76 → ∀ q, X' c q = X c q := fun c h1 h2 q => by rw [hX c h1 h2]
  obtain ⟨t1, t2, t3, t4, t5, t6, t7, t8, t9, t10⟩ := hH
  exact ⟨iC_c iC1 (fun c hc => hX c (by omega) (by omega)) (fun c hc => by unfold cC at hc; exact hA c (by omega) (by omega)),
    ⟨na, v, iV_c hV (hX2 _ (by decide) (by decide) _) (hA _ (by decide) (by decide)) (h76 _ (by decide) (by decide) (by decide)) (hA _ (by decide) (by decide))⟩,
    ⟨dn, kp, pl, bf, af, iD_c hD (hX2 _ (by decide) (by decide) _) (hX2 _ (by decide) (by decide) _) (h76 _ (by decide) (by decide) (by decide)) (h76 _ (by decide) (by decide) (by decide)) (fun c hc => hA c (by omega) (by omega))⟩,
    iI_c iI1 (hX2 _ (by decide) (by decide) _) (h76 _ (by decide) (by decide) (by decide)) (fun c hc => hA c (by omega) (by omega)),
    ⟨tl, tp, iT_c hT (hX2 _ (by decide) (by decide) _) (h76 _ (by decide) (by decide) (by decide)) (hA _ (by decide) (by decide)) (hA _ (by decide) (by decide))⟩,
    ⟨nb, r', kd, t1, hr, t3, by rw [h60]; exact t4, by rw [hA _ (by decide) (by decide)]; exact t5, h63, by rw [h76 _ (by decide) (by decide) (by decide)]; exact t7, by rw [hA _ (by decide) (by decide)]; exact t8, h39, h99⟩,
    ⟨B, G, cd, vl, st, an, en, n, td, tm, tx, f, k, iL_c hL' (fun c hc => hX c (by omega) (by omega)) (fun q _ _ => hX2 _ (by decide) (by decide) _) (h76 _ (by decide) (by decide) (by decide)) (fun c hc => hA c (by omega) (by omega))⟩,
    iO_c iO1 (hA _ (by decide) (by decide)) (hA _ (by decide) (by decide)),
    iS_c iS (fun c a b => hX c (by omega) (by omega)) (hA _ (by decide) (by decide)) (hA _ (by decide) (by decide)) rfl h60⟩
theorem tlV_len (ks : Nat) (n x : Int32) (k : Nat) : (tlV ks n x k).2.length ≤ 14 := by
  have h1 := seV_len ks n x ks
  have h2 := dnV_len ks n (nI 1) ks
  have h3 : (tlB ks n x).2.length ≤ 13 := by
    unfold tlB
    rw [List.length_cons, List.length_append]
    omega
  unfold tlV
  split
  · rw [List.length_cons]; omega
  · split
    · rw [List.length_cons]; omega
    · omega
theorem acV_len (ks : Nat) (n x : Int32) (t : Nat) : (acV ks n x t).2.length ≤ 14 := by
  have h1 := wrV_len n x ks
  have h2 := seV_len ks n x ks
  have h3 := dnV_len ks n x ks
  have h4 := tlV_len ks n x ks
  unfold acV
  split
  · omega
  · split
    · omega
    · split <;> omega
theorem p_act (hi : inv X A L) (c a x : Int32) : pairI 80 yX10_act cX10_act 4 yX11_act cX11_act 4 [.int c, .int a, .int x] X A L := by
  obtain ⟨_, _, _, _, _, ⟨nb, r, kd, hH⟩, _, _, iS⟩ := id hi
  obtain ⟨t1, t2, t3, t4, t5, t6, t7, t8, t9, t10⟩ := hH
  rcases isA_cases (n := nb) (by omega) c with q | ⟨b, hb, rfl⟩
  · refine pair_fn (c_act_no (d := 78) t4 t1 (Or.inl q)) (m_act_no (d := 72) (by rw [hX, up_ne (by decide)]; exact t7) t1 q) (inv_H hi (r' := 0) (by decide) (fun c h1 h2 => ?_) ?_ ?_ (fun q h1 h2 h3 => ?_) ?_ (fun _ _ _ => rfl) t10)
    · rw [mX, up_ne h2, hX, up_ne h1]
    · rw [mX, up_ne (by decide), hX_n _ _ (by decide)]
    · rw [mX, up_ne (by decide), hX_3]
    · rw [mX_n _ _ h1, hX, up_ne (by decide)]
    · rw [mX_39]
  · rcases isA_cases (n := 4) (by decide) a with q | ⟨t, ht, rfl⟩
    · refine pair_fn (c_act_no (d := 78) t4 t1 (Or.inr q)) (m_act_no2 (d := 72) (by rw [hX, up_ne (by decide)]; exact t7) t1 t8 hb q) (inv_H hi (r' := 0) (by decide) (fun c h1 h2 => ?_) ?_ ?_ (fun q h1 h2 h3 => ?_) ?_ (fun _ _ _ => rfl) t10)
      · rw [mX, up_ne h2, up_ne h2, hX, up_ne h1]
      · rw [mX, up_ne (by decide), up_ne (by decide), hX_n _ _ (by decide)]
      · rw [mX, up_ne (by decide), up_ne (by decide), hX_3]
      · rw [mX_n _ _ h1, vu_s, ud_n _ _ _ h3, ud_n _ _ _ h2, hX, up_ne (by decide)]
      · rw [mX_39]
    · have hl := acV_len (kd b) (nI b) x t
      have c := c_act (d := 68) (L := L) t4 t1 t5 hb (t3 b) ht (acV_eq (nI b) x (t3 b) ht)
      have q : jMet 80 yX11_act cX11_act 4 (some .int) 0 0 [.ref 76, .int (nI b), .int (nI t), .int x] (tw (va_up X 60 (upd (upd (X 60) 4 (nI b)) 3 (nI (acV (kd b) (nI b) x t).2.length))) (va_up A 62 (noteT 0 (A 62) (acV (kd b) (nI b) x t).2)) L) (jRi (acV (kd b) (nI b) x t).1 (tw (mX (va_up (va_up X 60 (upd (upd (X 60) 4 (nI b)) 3 (nI (acV (kd b) (nI b) x t).2.length))) 76 (upd (upd (X 76) 40 (nI (kd b))) 41 (nI b))) (acV (kd b) (nI b) x t).2.length) (va_up (va_up A 62 (noteT 0 (A 62) (acV (kd b) (nI b) x t).2)) 99 (noteT 0 (A 62) (acV (kd b) (nI b) x t).2)) L)) := by
        generalize hX1 : va_up X 60 (upd (upd (X 60) 4 (nI b)) 3 (nI (acV (kd b) (nI b) x t).2.length)) = X1
        generalize hA1 : va_up A 62 (noteT 0 (A 62) (acV (kd b) (nI b) x t).2) = A1
        have e7 : X1 76 36 = nI nb := by rw [← hX1, up_ne (by decide)]; exact t7
        have e8 : A1 98 = nIf kd := by rw [← hA1, up_ne (by decide)]; exact t8
        have e9 : A 62 = A1 99 := by rw [← hA1, up_ne (by decide)]; exact t10.symm
        have e6 : X 76 = X1 76 := by rw [← hX1, up_ne (by decide)]
        rw [e9, e6]
        rcases (show t = 0 ∨ t = 1 ∨ t = 2 ∨ t = 3 by omega) with rfl | rfl | rfl | rfl
        · exact m_act_0 (d := 72) e7 t1 e8 hb (t3 b)
        · exact m_act_1 (d := 72) e7 t1 e8 hb (t3 b)
        · exact m_act_2 (d := 72) e7 t1 e8 hb (t3 b)
        · exact m_act_3 (d := 72) e7 t1 e8 hb (t3 b)
      refine pair_fn c q (inv_H hi (r' := (acV (kd b) (nI b) x t).2.length) (by omega) (fun c h1 h2 => ?_) ?_ ?_ (fun q h1 h2 h3 => ?_) ?_ (fun c h1 h2 => ?_) ?_)
      · rw [mX, up_ne h2, up_ne h2, up_ne h1]
      · rw [mX, up_ne (by decide), up_ne (by decide), vu_s, ud_n _ _ _ (by decide), ud_n _ _ _ (by decide)]
      · rw [mX, up_ne (by decide), up_ne (by decide), vu_s, ud_s]
      · rw [mX_n _ _ h1, vu_s, ud_n _ _ _ h3, ud_n _ _ _ h2]
      · rw [mX_39]
      · rw [up_ne h2, up_ne h1]
      · rw [vu_s, up_ne (by decide), vu_s]
end PR20
