section PR19
variable {d : Nat} {X A X' A' : Nat → Nat → Int32} {L L' : Nat → Nat → Int64}
theorem lim_big {ln i : Nat} (h1 : ln ≤ 60) (hi : i < 2 ^ 31) (h : ln ≤ i) : nI ln - nI 1 - nI 0 < nI i := by
  have q := lim_tab (c := 0) h1 (by decide)
  by_cases e : 0 + 1 ≤ ln
  · rw [if_pos e] at q
    rw [q, nI_ltI (by omega) hi]
    omega
  · rw [if_neg e] at q
    exact Int32.lt_of_lt_of_le q (Int32.not_lt.mp (nI_pos hi))
set_option maxHeartbeats 4000000 in
set_option maxRecDepth 100000 in
theorem m_accounts_big {j ln : Nat} (hj : j < 6) (hs : A 100 j = nI 50) (hm : A 101 j = nI ln) (l60 : ln ≤ 60) {i k : Nat} (hi : i < 2 ^ 31) (hli : ln ≤ i) (hk1 : 1 ≤ k) (hk6 : k ≤ 6) : jMet (d + 2) yX11_accounts cX11_accounts 6 (some .int) 0 0 [.ref 76, .int (nI j), .int (nI i), .int (nI k)] (tw X A L) (jRi (nI 0) (tw X A L)) := by
  refine jMet_of (by decide) (Nat.le_of_ble_eq_true rfl) none (Or.inl rfl) ?_
  show jWP none RX11 cX11_accounts 6 (some .int) (d + 2) 0 0 0 [some (.ref 76), some (.int (nI j)), some (.int (nI i)), some (.int (nI k)), none, none] [] (tw X A L) (jRi (nI 0) (tw X A L))
  refine j_iload_n dX11_accounts_0 rfl rfl ?_
  refine j_callSi [.int _] [] dX11_accounts_1 jlk_X11_124 rfl rfl (Nat.le_of_ble_eq_true rfl) (jMet_i m_isSh (isA_in hj (by decide)) rfl) ?_
  refine j_if_eq (tgt := 19) dX11_accounts_4 (by decide) (fun h => absurd h (by decide)) (fun _ => ?_)
  refine j_iload_n dX11_accounts_7 rfl rfl ?_
  refine j_i2l dX11_accounts_8 ?_
  refine j_lconst (v := 1) dX11_accounts_9 rfl ?_
  refine j_ldc2 dX11_accounts_10 jw_k_X11_115 ?_
  refine j_callSi [.long _, .long _, .long _] [] dX11_accounts_13 jlk_X11_111 rfl rfl (Nat.le_of_ble_eq_true rfl) (jMet_i m_within (wi_1 hk1 hk6 (by decide) (by decide) (by decide)) rfl) ?_
  refine j_if_ne (tgt := 21) dX11_accounts_16 (by decide) (fun _ => ?_) (fun h => absurd h (by decide))
  refine j_aload_n dX11_accounts_21 rfl rfl ?_
  refine t_getR (b := 100) dX11_accounts_22 jfl_X11_82 (fun _ _ _ => rfl) rfl ?_
  refine j_iload_n dX11_accounts_25 rfl rfl ?_
  refine t_iaload dX11_accounts_26 (fun _ _ _ => rfl) (by omega) (by decide) ?_
  refine j_topE (e' := nI 50) hs ?_
  refine jn_if_lt (tgt := 44) dX11_accounts_27 (by decide) (by omega) ?_
  refine j_aload_n dX11_accounts_30 rfl rfl ?_
  refine t_getR (b := 100) dX11_accounts_31 jfl_X11_82 (fun _ _ _ => rfl) rfl ?_
  refine j_iload_n dX11_accounts_34 rfl rfl ?_
  refine t_iaload dX11_accounts_35 (fun _ _ _ => rfl) (by omega) (by decide) ?_
  refine j_topE (e' := nI 50) hs ?_
  refine j_bipush (v := nI 50) dX11_accounts_36 rfl ?_
  refine jn_icmp_eq (tgt := 44) dX11_accounts_38 (by decide) (by omega) (by omega) (fun h38 => ?_) (fun h38 => absurd rfl h38)
  refine j_iconst (v := nI 0) dX11_accounts_44 rfl ?_
  refine j_istore (lv' := [some (.ref 76), some (.int _), some (.int _), some (.int _), some (.int _), none]) dX11_accounts_45 (by decide) rfl ?_
  refine j_aload_n dX11_accounts_47 rfl rfl ?_
  refine t_getR (b := 100) dX11_accounts_48 jfl_X11_82 (fun _ _ _ => rfl) rfl ?_
  refine j_iload_n dX11_accounts_51 rfl rfl ?_
  refine t_iaload dX11_accounts_52 (fun _ _ _ => rfl) (by omega) (by decide) ?_
  refine j_topE (e' := nI 50) hs ?_
  refine j_bipush (v := nI 50) dX11_accounts_53 rfl ?_
  refine jn_icmp_ne (tgt := 66) dX11_accounts_55 (by decide) (by omega) (by omega) (fun h55 => absurd rfl h55) (fun h55 => ?_)
  refine j_iload_n dX11_accounts_58 rfl rfl ?_
  refine jn_if_lt (tgt := 66) dX11_accounts_59 (by decide) (by omega) ?_
  refine j_iconst (v := nI 1) dX11_accounts_62 rfl ?_
  refine j_goto (tgt := 67) dX11_accounts_63 (by decide) ?_
  refine j_istore (lv' := [some (.ref 76), some (.int _), some (.int _), some (.int _), some (.int _), some (.int _)]) dX11_accounts_67 (by decide) rfl ?_
  refine j_iload dX11_accounts_69 rfl ?_
  refine j_if_eq (tgt := 176) dX11_accounts_71 (by decide) (fun h => absurd h (by decide)) (fun _ => ?_)
  refine j_iload dX11_accounts_74 rfl ?_
  refine j_iload_n dX11_accounts_76 rfl rfl ?_
  refine jn_icmp_ge (tgt := 176) dX11_accounts_77 (by decide) (by omega) (by omega) (fun h77 => absurd h77 (by omega)) (fun h77 => ?_)
  refine j_iload_n dX11_accounts_80 rfl rfl ?_
  refine j_aload_n dX11_accounts_81 rfl rfl ?_
  refine t_getR (b := 101) dX11_accounts_82 jfl_X11_85 (fun _ _ _ => rfl) rfl ?_
  refine j_iload_n dX11_accounts_85 rfl rfl ?_
  refine t_iaload dX11_accounts_86 (fun _ _ _ => rfl) (by omega) (by decide) ?_
  refine j_topE (e' := nI ln) hm ?_
  refine j_iconst (v := nI 1) dX11_accounts_87 rfl ?_
  refine j_isub dX11_accounts_88 ?_
  refine j_iload dX11_accounts_89 rfl ?_
  refine j_isub dX11_accounts_91 ?_
  refine j_icmp_gt (tgt := 128) dX11_accounts_92 (by decide) (fun h92 => ?_) (fun h92 => absurd (lim_big l60 hi hli) h92)
  refine j_iconst (v := nI 0) dX11_accounts_128 rfl ?_
  refine j_istore (lv' := [some (.ref 76), some (.int _), some (.int _), some (.int _), some (.int _), some (.int _)]) dX11_accounts_129 (by decide) rfl ?_
  refine j_iload dX11_accounts_131 rfl ?_
  refine j_if_eq (tgt := 69) dX11_accounts_133 (by decide) (fun _ => ?_) (fun h => absurd (by decide) h)
  refine j_iload dX11_accounts_69 rfl ?_
  refine j_if_eq (tgt := 176) dX11_accounts_71 (by decide) (fun _ => ?_) (fun h => absurd (by decide) h)
  refine j_iload dX11_accounts_176 rfl ?_
  refine j_ireturn dX11_accounts_178 rfl ?_
  exact ⟨rfl, rfl⟩
theorem acF_ok {ln : Nat} {E : Nat → Int32} : ∀ (m i na : Nat) (v : Nat → Nat), na ≤ 6 → (∀ i, i < 6 → v i < 49) → v 6 ≤ 12 → v 7 ≤ 6 → (acF ln E m i na v).1 ≤ 6 ∧ (∀ q, q < 6 → (acF ln E m i na v).2 q < 49) ∧ (acF ln E m i na v).2 6 ≤ 12 ∧ (acF ln E m i na v).2 7 ≤ 6
  | 0, _, _, _, h1, h2, h3, h4 => ⟨h1, h2, h3, h4⟩
  | m + 1, i, na, v, h1, h2, h3, h4 => by
    unfold acF
    by_cases e1 : i < ln
    · rw [if_pos e1]
      by_cases e2 : isc (E i) = nI 0
      · rw [if_pos e2]; exact ⟨h1, h2, h3, h4⟩
      · rw [if_neg e2]
        by_cases e3 : na = 6
        · rw [if_pos e3]; exact ⟨h1, h2, h3, h4⟩
        · rw [if_neg e3]
          have hc : (E i).toNatClampNeg < 49 := by
            rcases isc_cases (E i) with q | ⟨j, hj, e⟩
            · exact absurd q e2
            · rw [e, nI_clamp (by omega)]; exact hj
          refine acF_ok m (i + 1) (na + 1) _ (by omega) (fun q hq => ?_) ?_ ?_
          · rw [updN_at]
            split
            · exact hc
            · exact h2 q hq
          · rw [updN_at, if_neg (by omega)]; exact h3
          · rw [updN_at, if_neg (by omega)]; exact h4
    · rw [if_neg e1]; exact ⟨h1, h2, h3, h4⟩
theorem bf_cases (h so : Nat) : bfI h so ≠ 0 ∨ (h = 2 ∧ so = 0) := by
  unfold bfI
  by_cases h0 : h = 0
  · left; rw [if_pos h0]; decide
  · rw [if_neg h0]
    by_cases h2 : h = 2
    · rw [if_pos h2]
      by_cases e : so = 0
      · exact Or.inr ⟨h2, e⟩
      · left; rw [if_neg e]; decide
    · left; rw [if_neg h2]; decide
/-- a shelf that holds a row of bytes, as both say it -/
theorem row_E {j ln : Nat} (h : ∀ i, i < ln → L 102 (60 * j + i) = L (64 + 2 * j + 1) i ∧ ((0 : Nat) = 0 → L (64 + 2 * j + 1) i = (L (64 + 2 * j + 1) i).toInt32.toInt64)) : ∀ i, i < ln → L 102 (60 * j + i) = (rE L (64 + 2 * j) i).toInt64 := fun i hi => by
  rw [(h i hi).1]
  exact (h i hi).2 rfl
theorem p_accounts (hi : inv X A L) (c i m : Int32) : pairI 80 yX10_accounts cX10_accounts 6 yX11_accounts cX11_accounts 6 [.int c, .int i, .int m] X A L := by
  obtain ⟨B, cd, vl, st, an, en, n, na, v, td, tm, tx, hr, hm, hk, v6, v7, vi⟩ := inv_rul hi
  have hn := hm.2.2.2.2.2.1
  have h6 := hm.2.2.2.2.2.2.1
  have iS := hi.2.2.2.2.2.2.2.2
  by_cases h : isA 6 c = nI 0 ∨ m < nI 1 ∨ nI 6 < m
  · exact pair_fn (c_accounts_no (d := 77) h) (m_accounts_no (d := 78) h) hi
  · rcases isA_cases (n := 6) (by decide) c with q | ⟨j, hj, rfl⟩
    · exact absurd (Or.inl q) h
    · obtain ⟨m, hm31, rfl⟩ := nI_nn (c := m) (fun q => h (Or.inr (Or.inl (Int32.lt_of_lt_of_le q (by decide)))))
      have hm1 : 1 ≤ m := Nat.le_of_not_lt fun q => h (Or.inr (Or.inl ((nI_ltI hm31 (by decide)).mpr q)))
      have hm6 : m ≤ 6 := Nat.le_of_not_lt fun q => h (Or.inr (Or.inr ((nI_ltI (by decide) hm31).mpr q)))
      obtain ⟨h', b', so, ln, a1, a2, a3, a4, a5, a6, a7, a8, a9, a10, a11, a12⟩ := iS j hj
      by_cases e0 : h' = 0
      · subst e0
        exact pair_fn (c_accounts_0 (d := 77) hj a5 hm1 hm6) (m_accounts_0 (d := 78) hj a9 hm1 hm6) hi
      · rcases bf_cases h' so with hf | ⟨rfl, rfl⟩
        · have q : ∃ b, A 100 j = nI b ∧ b < 60 ∧ b ≠ 50 := by
            rcases (show h' = 1 ∨ h' = 2 by omega) with rfl | rfl
            · exact ⟨b', a9, by omega, by omega⟩
            · refine ⟨50 + so, a9, by omega, fun q => hf ?_⟩
              have : so = 0 := by omega
              subst this
              rfl
          obtain ⟨b, q1, q2, q3⟩ := q
          exact pair_fn (c_accounts_f (d := 77) hj a5 a1 a7 a3 hf e0 hm1 hm6) (m_accounts_12 (d := 78) hj q1 q2 q3 hm1 hm6) hi
        · obtain ⟨b1, b2⟩ := a10 rfl
          have hE := row_E b2
          by_cases i0 : i < 0
          · refine pair_fn (c_accounts_e (d := 77) hj a5 a7 a8 a4 ?_ hm1 hm6) (m_accounts_neg (d := 78) hj a9 b1 a4 hE i0 hm1 hm6) hi
            rcases isA_cases (n := ln) a4 i with q | ⟨k, hk, rfl⟩
            · exact q
            · exact absurd i0 (nI_pos (by omega))
          · obtain ⟨i, hi31, rfl⟩ := nI_nn i0
            by_cases o : ln ≤ i
            · refine pair_fn (c_accounts_e (d := 77) hj a5 a7 a8 a4 ?_ hm1 hm6) (m_accounts_big (d := 78) hj a9 b1 a4 hi31 o hm1 hm6) hi
              rcases isA_cases (n := ln) a4 (nI i) with q | ⟨k, hk, e⟩
              · exact q
              · have := (nI_eq (by omega) (by omega)).mp e
                omega
            · have hi29 : i < 2 ^ 29 := by omega
              have ok := acF_ok (ln := ln) (E := rE L (64 + 2 * j)) m i na v h6 vi v6 v7
              have c := c_accounts (d := 77) (L := L) hr hj a5 a7 a8 a4 hi29 hm1 hm6
              generalize hR : acF ln (rE L (64 + 2 * j)) m i na v = R at *
              obtain ⟨_, _, ⟨dn, kp, pl, bf, af, hD⟩, _⟩ := id hi
              have nX : ∀ c, c ≠ 10 → acX X R.1 c = X c := fun c hc => up_ne hc
              have nA : ∀ c, c ≠ 11 → acA A R.2 c = A c := fun c hc => up_ne hc
              have q := m_accounts (d := 78) (X := acX X R.1) (A := acA A R.2) (by rw [nX _ (by decide)]; exact hn) h6 (by rw [nA _ (by decide)]; exact hm.1) hj (by rw [nA _ (by decide)]; exact a9) (by rw [nA _ (by decide)]; exact b1) a4 hE hi29 hm1 hm6
              rw [hR] at q
              refine pair_fn c q (inv_VD hi ⟨R.1, R.2, ok.1, ?_, ?_, ?_, ?_, ok.2.1, ok.2.2.1, ok.2.2.2⟩ ⟨dn, kp, pl, bf, af, iD_c hD ?_ ?_ ?_ ?_ (fun c hc => ?_)⟩ (fun c h1 h2 => ?_) (fun q h4 h5 h7 => ?_) (fun c h1 h2 => ?_))
              · rw [amX, up_ne (by decide), acX, vu_s, ud_s]
              · rw [amA, up_ne (by decide), acA, vu_s]
              · rw [amX, vu_s, ud_s]
              · rw [amA, vu_s]
              · rw [amX, up_ne (by decide), acX, vu_s, ud_n _ _ _ (by decide)]
              · rw [amX, up_ne (by decide), acX, vu_s, ud_n _ _ _ (by decide)]
              · rw [amX, vu_s, ud_n _ _ _ (by decide), nX _ (by decide)]
              · rw [amX, vu_s, ud_n _ _ _ (by decide), nX _ (by decide)]
              · rw [amA, up_ne (by omega), nA _ (by omega)]
              · rw [amX, up_ne h2, nX _ h1]
              · rw [amX, vu_s, ud_n _ _ _ h7, nX _ (by decide)]
              · rw [amA, up_ne (by omega), nA _ (by omega)]
end PR19
