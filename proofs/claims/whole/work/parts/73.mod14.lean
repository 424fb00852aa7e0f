theorem sg5 {c : Nat} : sgN c = 5 ↔ c = 42 ∨ c = 47 ∨ c = 37 := by
  unfold sgN
  constructor
  · intro h
    by_cases h1 : c = 124
    · rw [if_pos h1] at h; omega
    · rw [if_neg h1] at h
      by_cases h2 : c = 38
      · rw [if_pos h2] at h; omega
      · rw [if_neg h2] at h
        by_cases h3 : c = 60 ∨ c = 61 ∨ c = 62
        · rw [if_pos h3] at h; omega
        · rw [if_neg h3] at h
          by_cases h4 : c = 43 ∨ c = 45
          · rw [if_pos h4] at h; omega
          · rw [if_neg h4] at h
            by_cases h5 : c = 42 ∨ c = 47 ∨ c = 37
            · exact h5
            · rw [if_neg h5] at h; omega
  · rintro (rfl | rfl | rfl) <;> rfl
theorem sg_le3 {c : Nat} : (sgN c = 4 ↔ c = 43 ∨ c = 45) ∧ (sgN c = 3 ↔ c = 60 ∨ c = 61 ∨ c = 62) ∧ (sgN c = 2 ↔ c = 38) ∧ (sgN c = 1 ↔ c = 124) := by
  unfold sgN
  by_cases h1 : c = 124
  · subst h1; decide
  · by_cases h2 : c = 38
    · subst h2; decide
    · by_cases h3 : c = 60 ∨ c = 61 ∨ c = 62
      · rcases h3 with rfl | rfl | rfl <;> decide
      · by_cases h4 : c = 43 ∨ c = 45
        · rcases h4 with rfl | rfl <;> decide
        · rw [if_neg h1, if_neg h2, if_neg h3, if_neg h4]
          by_cases h5 : c = 42 ∨ c = 47 ∨ c = 37
          · rw [if_pos h5]; exact ⟨⟨fun q => by omega, fun q => absurd q h4⟩, ⟨fun q => by omega, fun q => absurd q h3⟩, ⟨fun q => by omega, fun q => absurd q h2⟩, ⟨fun q => by omega, fun q => absurd q h1⟩⟩
          · rw [if_neg h5]; exact ⟨⟨fun q => by omega, fun q => absurd q h4⟩, ⟨fun q => by omega, fun q => absurd q h3⟩, ⟨fun q => by omega, fun q => absurd q h2⟩, ⟨fun q => by omega, fun q => absurd q h1⟩⟩
section CT53
variable {d : Nat} {X A : Nat → Nat → Int32} {L : Nat → Nat → Int64} {w : jW} {n : Nat} {tx : Nat → Nat} {s : pS} {nxt : pS → Int32 × pS} {o : Nat}

set_option maxHeartbeats 200000 in
set_option maxRecDepth 100000 in
theorem m_nameOf {c : Nat} (hc : c < 256) : jMet (d) yX11_nameOf cX11_nameOf 1 (some .int) 0 0 [.int (nI c)] (w) (jRi (ixN c) w) := by
  refine jMet_of (by decide) (Nat.le_of_ble_eq_true rfl) none (Or.inl rfl) ?_
  show jWP none RX11 cX11_nameOf 1 (some .int) (d) 0 0 0 [some (.int (nI c))] [] (w) (jRi (ixN c) w)
  refine j_iload_n dX11_nameOf_0 rfl rfl ?_
  by_cases hr : 100 ≤ c ∧ c ≤ 115
  · rcases (show c = 100 ∨ c = 101 ∨ c = 102 ∨ c = 103 ∨ c = 104 ∨ c = 105 ∨ c = 106 ∨ c = 107 ∨ c = 108 ∨ c = 109 ∨ c = 110 ∨ c = 111 ∨ c = 112 ∨ c = 113 ∨ c = 114 ∨ c = 115 by omega) with rfl | rfl | rfl | rfl | rfl | rfl | rfl | rfl | rfl | rfl | rfl | rfl | rfl | rfl | rfl | rfl
    · refine j_tableIn (off := 79) (tgt := 80) dX11_nameOf_1 (by decide) (by decide) (by decide) (by decide) ?_
      refine j_iconst (v := nI 0) dX11_nameOf_80 rfl ?_
      refine j_ireturn dX11_nameOf_81 rfl ?_
      exact ⟨rfl, rfl⟩
    · refine j_tableIn (off := 91) (tgt := 92) dX11_nameOf_1 (by decide) (by decide) (by decide) (by decide) ?_
      refine j_iconst (v := (-1)) dX11_nameOf_92 rfl ?_
      refine j_ireturn dX11_nameOf_93 rfl ?_
      exact ⟨rfl, rfl⟩
    · refine j_tableIn (off := 91) (tgt := 92) dX11_nameOf_1 (by decide) (by decide) (by decide) (by decide) ?_
      refine j_iconst (v := (-1)) dX11_nameOf_92 rfl ?_
      refine j_ireturn dX11_nameOf_93 rfl ?_
      exact ⟨rfl, rfl⟩
    · refine j_tableIn (off := 91) (tgt := 92) dX11_nameOf_1 (by decide) (by decide) (by decide) (by decide) ?_
      refine j_iconst (v := (-1)) dX11_nameOf_92 rfl ?_
      refine j_ireturn dX11_nameOf_93 rfl ?_
      exact ⟨rfl, rfl⟩
    · refine j_tableIn (off := 91) (tgt := 92) dX11_nameOf_1 (by decide) (by decide) (by decide) (by decide) ?_
      refine j_iconst (v := (-1)) dX11_nameOf_92 rfl ?_
      refine j_ireturn dX11_nameOf_93 rfl ?_
      exact ⟨rfl, rfl⟩
    · refine j_tableIn (off := 91) (tgt := 92) dX11_nameOf_1 (by decide) (by decide) (by decide) (by decide) ?_
      refine j_iconst (v := (-1)) dX11_nameOf_92 rfl ?_
      refine j_ireturn dX11_nameOf_93 rfl ?_
      exact ⟨rfl, rfl⟩
    · refine j_tableIn (off := 91) (tgt := 92) dX11_nameOf_1 (by decide) (by decide) (by decide) (by decide) ?_
      refine j_iconst (v := (-1)) dX11_nameOf_92 rfl ?_
      refine j_ireturn dX11_nameOf_93 rfl ?_
      exact ⟨rfl, rfl⟩
    · refine j_tableIn (off := 87) (tgt := 88) dX11_nameOf_1 (by decide) (by decide) (by decide) (by decide) ?_
      refine j_iconst (v := nI 4) dX11_nameOf_88 rfl ?_
      refine j_ireturn dX11_nameOf_89 rfl ?_
      exact ⟨rfl, rfl⟩
    · refine j_tableIn (off := 91) (tgt := 92) dX11_nameOf_1 (by decide) (by decide) (by decide) (by decide) ?_
      refine j_iconst (v := (-1)) dX11_nameOf_92 rfl ?_
      refine j_ireturn dX11_nameOf_93 rfl ?_
      exact ⟨rfl, rfl⟩
    · refine j_tableIn (off := 91) (tgt := 92) dX11_nameOf_1 (by decide) (by decide) (by decide) (by decide) ?_
      refine j_iconst (v := (-1)) dX11_nameOf_92 rfl ?_
      refine j_ireturn dX11_nameOf_93 rfl ?_
      exact ⟨rfl, rfl⟩
    · refine j_tableIn (off := 81) (tgt := 82) dX11_nameOf_1 (by decide) (by decide) (by decide) (by decide) ?_
      refine j_iconst (v := nI 1) dX11_nameOf_82 rfl ?_
      refine j_ireturn dX11_nameOf_83 rfl ?_
      exact ⟨rfl, rfl⟩
    · refine j_tableIn (off := 83) (tgt := 84) dX11_nameOf_1 (by decide) (by decide) (by decide) (by decide) ?_
      refine j_iconst (v := nI 2) dX11_nameOf_84 rfl ?_
      refine j_ireturn dX11_nameOf_85 rfl ?_
      exact ⟨rfl, rfl⟩
    · refine j_tableIn (off := 91) (tgt := 92) dX11_nameOf_1 (by decide) (by decide) (by decide) (by decide) ?_
      refine j_iconst (v := (-1)) dX11_nameOf_92 rfl ?_
      refine j_ireturn dX11_nameOf_93 rfl ?_
      exact ⟨rfl, rfl⟩
    · refine j_tableIn (off := 91) (tgt := 92) dX11_nameOf_1 (by decide) (by decide) (by decide) (by decide) ?_
      refine j_iconst (v := (-1)) dX11_nameOf_92 rfl ?_
      refine j_ireturn dX11_nameOf_93 rfl ?_
      exact ⟨rfl, rfl⟩
    · refine j_tableIn (off := 89) (tgt := 90) dX11_nameOf_1 (by decide) (by decide) (by decide) (by decide) ?_
      refine j_iconst (v := nI 5) dX11_nameOf_90 rfl ?_
      refine j_ireturn dX11_nameOf_91 rfl ?_
      exact ⟨rfl, rfl⟩
    · refine j_tableIn (off := 85) (tgt := 86) dX11_nameOf_1 (by decide) (by decide) (by decide) (by decide) ?_
      refine j_iconst (v := nI 3) dX11_nameOf_86 rfl ?_
      refine j_ireturn dX11_nameOf_87 rfl ?_
      exact ⟨rfl, rfl⟩
  · refine j_tableOut (tgt := 92) dX11_nameOf_1 ?_ (by decide) ?_
    · rw [nI_toInt (by omega)]; omega
    refine j_iconst (v := (-1)) dX11_nameOf_92 rfl ?_
    refine j_ireturn dX11_nameOf_93 rfl ?_
    have hx : nmN c = 6 := by unfold nmN; rw [if_neg (by omega), if_neg (by omega), if_neg (by omega), if_neg (by omega), if_neg (by omega), if_neg (by omega)]
    exact ⟨by unfold ixN; rw [hx]; rfl, rfl⟩

set_option maxHeartbeats 200000 in
set_option maxRecDepth 100000 in
theorem l_product (hw : pwO X A n tx) (hg : gP n nxt o) (h1 : ∀ s, pok n s → (s.2.1 = none → s.2.2 = o) → jMet (d + 2) yX11_one cX11_one 5 (some .int) 0 0 [.ref 76] (tw (pX X s) A L) (jRi (nxt s).1 (tw (pX X (nxt s).2) A L))) : ∀ (m : Nat) (v : Int32) (s : pS) (r : Int32 × pS), pok n s → (s.2.1 = none → s.2.2 = o) → n - s.1 < m → (lvL n tx 5 nxt m v s) = r → jWP none RX11 cX11_product 4 (some .int) (d + 3) 0 0 10 [some (.ref 76), some (.int v), some (.int (nI (byN n tx s.1))), none] [] (tw (pX X s) A L) (jRi r.1 (tw (pX X r.2) A L)) := by
  intro m
  induction m with
  | zero => intro v s r hs ho hm; omega
  | succ m ih =>
    intro v s r hs ho hm hr
    have hn120 := hw.1
    have hs1 := hs.1
    have hby := byN_lt (n := n) hw.2.1 s.1
    refine j_aload_n dX11_product_10 rfl rfl ?_
    refine t_getI dX11_product_11 jfl_X11_169 (fun _ _ _ => rfl) (fun _ => rfl) ?_
    refine j_topE pX_19 ?_
    refine j_if_ge (tgt := 94) dX11_product_14 (by decide) (fun h14 => ?_) (fun h14 => ?_)
    · refine j_iload_n dX11_product_94 rfl rfl ?_
      refine j_ireturn dX11_product_95 rfl ?_
      have hl := lvL_f (nxt := nxt) (m := m) (v := v) (l := 5) (n := n) (tx := tx) (s := s) (fun q => absurd q.1 (flt_ge (Int32.not_lt.mpr h14)))
      rw [← hr, hl]
      exact ⟨rfl, rfl⟩
    · refine j_iload_n dX11_product_17 rfl rfl ?_
      refine j_bipush (v := nI 42) dX11_product_18 rfl ?_
      refine jn_icmp_eq (tgt := 35) dX11_product_20 (by decide) (by omega) (by omega) (fun h20 => ?_) (fun h20 => ?_)
      · refine j_aload_n dX11_product_35 rfl rfl ?_
        refine j_dup dX11_product_36 rfl ?_
        refine t_getI dX11_product_37 jfl_X11_160 (fun _ _ _ => rfl) (fun _ => rfl) ?_
        refine j_topE pX_17 ?_
        refine j_iconst (v := nI 1) dX11_product_40 rfl ?_
        refine jn_iadd dX11_product_41 ?_
        refine t_putI dX11_product_42 jfl_X11_160 (fun _ _ _ => rfl) (fun _ _ => rfl) (Nat.le_of_ble_eq_true rfl) rfl rfl ?_
        rw [pX_p17]
        refine j_aload_n dX11_product_45 rfl rfl ?_
        have hne : byN n tx s.1 ≠ 0 := by omega
        refine j_atw (w' := tw (pX X (adP s)) A L) rfl ?_
        refine j_callVi [] [] dX11_product_46 jlk_X11_190 rfl rfl rfl rfl (Nat.le_of_ble_eq_true rfl) (h1 (adP s) (pok_ad hs hne) ho) ?_
        obtain ⟨g1, g2, g3, g4⟩ := hg (adP s) (pok_ad hs hne) ho
        have g2 : s.1 + 1 ≤ (nxt (adP s)).2.1 := g2
        have hsn := byN_in hne
        refine j_istore_n (lv' := [some (.ref 76), some (.int _), some (.int _), some (.int _)]) dX11_product_49 rfl (by decide) rfl ?_
        refine j_iload_n dX11_product_50 rfl rfl ?_
        refine j_bipush (v := nI 42) dX11_product_51 rfl ?_
        refine jn_icmp_ne (tgt := 62) dX11_product_53 (by decide) (by omega) (by omega) (fun h53 => absurd h53 (by omega)) (fun h53 => ?_)
        refine j_iload_n dX11_product_56 rfl rfl ?_
        refine j_iload_n dX11_product_57 rfl rfl ?_
        refine j_imul dX11_product_58 ?_
        refine j_goto (tgt := 85) dX11_product_59 (by decide) ?_
        refine j_istore_n (lv' := [some (.ref 76), some (.int _), some (.int _), some (.int _)]) dX11_product_85 rfl (by decide) rfl ?_
        refine j_aload_n dX11_product_86 rfl rfl ?_
        refine j_callVi [] [] dX11_product_87 jlk_X11_172 rfl rfl rfl rfl (Nat.le_of_ble_eq_true rfl) (m_byteAt hw g1) ?_
        refine j_istore_n (lv' := [some (.ref 76), some (.int _), some (.int _), some (.int _)]) dX11_product_90 rfl (by decide) rfl ?_
        refine j_goto (tgt := 10) dX11_product_91 (by decide) ?_
        have hno : s.2.1 = none := flt_lt hn120 hs (Int32.not_le.mp h14)
        have hsg : sgN (byN n tx s.1) = 5 := sg5.mpr (Or.inl h20)
        have hj : joinI (byN n tx s.1) v (nxt (adP s)).1 = v * (nxt (adP s)).1 := by rw [h20]; rfl
        rw [← hj]
        refine j_sub ?_ (ih (joinI (byN n tx s.1) v (nxt (adP s)).1) (nxt (adP s)).2 r g1 (fun q => (g3 q).1) (by omega) ?_)
        · exact ⟨rfl, rfl, rfl, trivial⟩
        · rw [← hr]; exact (lvL_t hno hsg).symm
      · refine j_iload_n dX11_product_23 rfl rfl ?_
        refine j_bipush (v := nI 47) dX11_product_24 rfl ?_
        refine jn_icmp_eq (tgt := 35) dX11_product_26 (by decide) (by omega) (by omega) (fun h26 => ?_) (fun h26 => ?_)
        · refine j_aload_n dX11_product_35 rfl rfl ?_
          refine j_dup dX11_product_36 rfl ?_
          refine t_getI dX11_product_37 jfl_X11_160 (fun _ _ _ => rfl) (fun _ => rfl) ?_
          refine j_topE pX_17 ?_
          refine j_iconst (v := nI 1) dX11_product_40 rfl ?_
          refine jn_iadd dX11_product_41 ?_
          refine t_putI dX11_product_42 jfl_X11_160 (fun _ _ _ => rfl) (fun _ _ => rfl) (Nat.le_of_ble_eq_true rfl) rfl rfl ?_
          rw [pX_p17]
          refine j_aload_n dX11_product_45 rfl rfl ?_
          have hne : byN n tx s.1 ≠ 0 := by omega
          refine j_atw (w' := tw (pX X (adP s)) A L) rfl ?_
          refine j_callVi [] [] dX11_product_46 jlk_X11_190 rfl rfl rfl rfl (Nat.le_of_ble_eq_true rfl) (h1 (adP s) (pok_ad hs hne) ho) ?_
          obtain ⟨g1, g2, g3, g4⟩ := hg (adP s) (pok_ad hs hne) ho
          have g2 : s.1 + 1 ≤ (nxt (adP s)).2.1 := g2
          have hsn := byN_in hne
          refine j_istore_n (lv' := [some (.ref 76), some (.int _), some (.int _), some (.int _)]) dX11_product_49 rfl (by decide) rfl ?_
          refine j_iload_n dX11_product_50 rfl rfl ?_
          refine j_bipush (v := nI 42) dX11_product_51 rfl ?_
          refine jn_icmp_ne (tgt := 62) dX11_product_53 (by decide) (by omega) (by omega) (fun h53 => ?_) (fun h53 => absurd h53 (by omega))
          refine j_iload_n dX11_product_62 rfl rfl ?_
          refine j_if_ne (tgt := 70) dX11_product_63 (by decide) (fun h63 => ?_) (fun h63 => ?_)
          · refine j_iload_n dX11_product_70 rfl rfl ?_
            refine j_bipush (v := nI 47) dX11_product_71 rfl ?_
            refine jn_icmp_ne (tgt := 82) dX11_product_73 (by decide) (by omega) (by omega) (fun h73 => absurd h73 (by omega)) (fun h73 => ?_)
            refine j_iload_n dX11_product_76 rfl rfl ?_
            refine j_iload_n dX11_product_77 rfl rfl ?_
            refine j_idiv dX11_product_78 h63 ?_
            refine j_goto (tgt := 85) dX11_product_79 (by decide) ?_
            refine j_istore_n (lv' := [some (.ref 76), some (.int _), some (.int _), some (.int _)]) dX11_product_85 rfl (by decide) rfl ?_
            refine j_aload_n dX11_product_86 rfl rfl ?_
            refine j_callVi [] [] dX11_product_87 jlk_X11_172 rfl rfl rfl rfl (Nat.le_of_ble_eq_true rfl) (m_byteAt hw g1) ?_
            refine j_istore_n (lv' := [some (.ref 76), some (.int _), some (.int _), some (.int _)]) dX11_product_90 rfl (by decide) rfl ?_
            refine j_goto (tgt := 10) dX11_product_91 (by decide) ?_
            have hno : s.2.1 = none := flt_lt hn120 hs (Int32.not_le.mp h14)
            have hsg : sgN (byN n tx s.1) = 5 := sg5.mpr (Or.inr (Or.inl h26))
            have hj : joinI (byN n tx s.1) v (nxt (adP s)).1 = v / (nxt (adP s)).1 := by rw [h26]; exact if_neg h63
            rw [← hj]
            refine j_sub ?_ (ih (joinI (byN n tx s.1) v (nxt (adP s)).1) (nxt (adP s)).2 r g1 (fun q => (g3 q).1) (by omega) ?_)
            · exact ⟨rfl, rfl, rfl, trivial⟩
            · rw [← hr]; exact (lvL_t hno hsg).symm
          · refine j_iconst (v := nI 0) dX11_product_66 rfl ?_
            refine j_goto (tgt := 85) dX11_product_67 (by decide) ?_
            refine j_istore_n (lv' := [some (.ref 76), some (.int _), some (.int _), some (.int _)]) dX11_product_85 rfl (by decide) rfl ?_
            refine j_aload_n dX11_product_86 rfl rfl ?_
            refine j_callVi [] [] dX11_product_87 jlk_X11_172 rfl rfl rfl rfl (Nat.le_of_ble_eq_true rfl) (m_byteAt hw g1) ?_
            refine j_istore_n (lv' := [some (.ref 76), some (.int _), some (.int _), some (.int _)]) dX11_product_90 rfl (by decide) rfl ?_
            refine j_goto (tgt := 10) dX11_product_91 (by decide) ?_
            have hno : s.2.1 = none := flt_lt hn120 hs (Int32.not_le.mp h14)
            have hsg : sgN (byN n tx s.1) = 5 := sg5.mpr (Or.inr (Or.inl h26))
            have hj : joinI (byN n tx s.1) v (nxt (adP s)).1 = nI 0 := by rw [h26]; exact if_pos (by first | exact h63 | simpa using h63)
            rw [← hj]
            refine j_sub ?_ (ih (joinI (byN n tx s.1) v (nxt (adP s)).1) (nxt (adP s)).2 r g1 (fun q => (g3 q).1) (by omega) ?_)
            · exact ⟨rfl, rfl, rfl, trivial⟩
            · rw [← hr]; exact (lvL_t hno hsg).symm
        · refine j_iload_n dX11_product_29 rfl rfl ?_
          refine j_bipush (v := nI 37) dX11_product_30 rfl ?_
          refine jn_icmp_ne (tgt := 94) dX11_product_32 (by decide) (by omega) (by omega) (fun h32 => ?_) (fun h32 => ?_)
          · refine j_iload_n dX11_product_94 rfl rfl ?_
            refine j_ireturn dX11_product_95 rfl ?_
            have hl := lvL_f (nxt := nxt) (m := m) (v := v) (l := 5) (n := n) (tx := tx) (s := s) (fun q => by have q2 := sg5.mp q.2; omega)
            rw [← hr, hl]
            exact ⟨rfl, rfl⟩
          · refine j_aload_n dX11_product_35 rfl rfl ?_
            refine j_dup dX11_product_36 rfl ?_
            refine t_getI dX11_product_37 jfl_X11_160 (fun _ _ _ => rfl) (fun _ => rfl) ?_
            refine j_topE pX_17 ?_
            refine j_iconst (v := nI 1) dX11_product_40 rfl ?_
            refine jn_iadd dX11_product_41 ?_
            refine t_putI dX11_product_42 jfl_X11_160 (fun _ _ _ => rfl) (fun _ _ => rfl) (Nat.le_of_ble_eq_true rfl) rfl rfl ?_
            rw [pX_p17]
            refine j_aload_n dX11_product_45 rfl rfl ?_
            have hne : byN n tx s.1 ≠ 0 := by omega
            refine j_atw (w' := tw (pX X (adP s)) A L) rfl ?_
            refine j_callVi [] [] dX11_product_46 jlk_X11_190 rfl rfl rfl rfl (Nat.le_of_ble_eq_true rfl) (h1 (adP s) (pok_ad hs hne) ho) ?_
            obtain ⟨g1, g2, g3, g4⟩ := hg (adP s) (pok_ad hs hne) ho
            have g2 : s.1 + 1 ≤ (nxt (adP s)).2.1 := g2
            have hsn := byN_in hne
            refine j_istore_n (lv' := [some (.ref 76), some (.int _), some (.int _), some (.int _)]) dX11_product_49 rfl (by decide) rfl ?_
            refine j_iload_n dX11_product_50 rfl rfl ?_
            refine j_bipush (v := nI 42) dX11_product_51 rfl ?_
            refine jn_icmp_ne (tgt := 62) dX11_product_53 (by decide) (by omega) (by omega) (fun h53 => ?_) (fun h53 => absurd h53 (by omega))
            refine j_iload_n dX11_product_62 rfl rfl ?_
            refine j_if_ne (tgt := 70) dX11_product_63 (by decide) (fun h63 => ?_) (fun h63 => ?_)
            · refine j_iload_n dX11_product_70 rfl rfl ?_
              refine j_bipush (v := nI 47) dX11_product_71 rfl ?_
              refine jn_icmp_ne (tgt := 82) dX11_product_73 (by decide) (by omega) (by omega) (fun h73 => ?_) (fun h73 => absurd h73 (by omega))
              refine j_iload_n dX11_product_82 rfl rfl ?_
              refine j_iload_n dX11_product_83 rfl rfl ?_
              refine j_irem dX11_product_84 h63 ?_
              refine j_istore_n (lv' := [some (.ref 76), some (.int _), some (.int _), some (.int _)]) dX11_product_85 rfl (by decide) rfl ?_
              refine j_aload_n dX11_product_86 rfl rfl ?_
              refine j_callVi [] [] dX11_product_87 jlk_X11_172 rfl rfl rfl rfl (Nat.le_of_ble_eq_true rfl) (m_byteAt hw g1) ?_
              refine j_istore_n (lv' := [some (.ref 76), some (.int _), some (.int _), some (.int _)]) dX11_product_90 rfl (by decide) rfl ?_
              refine j_goto (tgt := 10) dX11_product_91 (by decide) ?_
              have hno : s.2.1 = none := flt_lt hn120 hs (Int32.not_le.mp h14)
              have hsg : sgN (byN n tx s.1) = 5 := sg5.mpr (Or.inr (Or.inr h32))
              have hj : joinI (byN n tx s.1) v (nxt (adP s)).1 = v - v / (nxt (adP s)).1 * (nxt (adP s)).1 := by rw [h32]; exact if_neg h63
              rw [← hj]
              refine j_sub ?_ (ih (joinI (byN n tx s.1) v (nxt (adP s)).1) (nxt (adP s)).2 r g1 (fun q => (g3 q).1) (by omega) ?_)
              · exact ⟨rfl, rfl, rfl, trivial⟩
              · rw [← hr]; exact (lvL_t hno hsg).symm
            · refine j_iconst (v := nI 0) dX11_product_66 rfl ?_
              refine j_goto (tgt := 85) dX11_product_67 (by decide) ?_
              refine j_istore_n (lv' := [some (.ref 76), some (.int _), some (.int _), some (.int _)]) dX11_product_85 rfl (by decide) rfl ?_
              refine j_aload_n dX11_product_86 rfl rfl ?_
              refine j_callVi [] [] dX11_product_87 jlk_X11_172 rfl rfl rfl rfl (Nat.le_of_ble_eq_true rfl) (m_byteAt hw g1) ?_
              refine j_istore_n (lv' := [some (.ref 76), some (.int _), some (.int _), some (.int _)]) dX11_product_90 rfl (by decide) rfl ?_
              refine j_goto (tgt := 10) dX11_product_91 (by decide) ?_
              have hno : s.2.1 = none := flt_lt hn120 hs (Int32.not_le.mp h14)
              have hsg : sgN (byN n tx s.1) = 5 := sg5.mpr (Or.inr (Or.inr h32))
              have hj : joinI (byN n tx s.1) v (nxt (adP s)).1 = nI 0 := by rw [h32]; exact if_pos (by first | exact h63 | simpa using h63)
              rw [← hj]
              refine j_sub ?_ (ih (joinI (byN n tx s.1) v (nxt (adP s)).1) (nxt (adP s)).2 r g1 (fun q => (g3 q).1) (by omega) ?_)
              · exact ⟨rfl, rfl, rfl, trivial⟩
              · rw [← hr]; exact (lvL_t hno hsg).symm

set_option maxHeartbeats 200000 in
set_option maxRecDepth 100000 in
theorem m_product (hw : pwO X A n tx) (hg : gP n nxt o) (h1 : ∀ s, pok n s → (s.2.1 = none → s.2.2 = o) → jMet (d + 2) yX11_one cX11_one 5 (some .int) 0 0 [.ref 76] (tw (pX X s) A L) (jRi (nxt s).1 (tw (pX X (nxt s).2) A L))) (hs : pok n s) (ho : s.2.1 = none → s.2.2 = o) : jMet (d + 3) yX11_product cX11_product 4 (some .int) 0 0 [.ref 76] (tw (pX X s) A L) (jRi (lvF n tx 5 nxt s).1 (tw (pX X (lvF n tx 5 nxt s).2) A L)) := by
  refine jMet_of (by decide) (Nat.le_of_ble_eq_true rfl) none (Or.inl rfl) ?_
  show jWP none RX11 cX11_product 4 (some .int) (d + 3) 0 0 0 [some (.ref 76), none, none, none] [] (tw (pX X s) A L) (jRi (lvF n tx 5 nxt s).1 (tw (pX X (lvF n tx 5 nxt s).2) A L))
  obtain ⟨g1, g2, g3, g4⟩ := hg s hs ho
  have hn120 := hw.1
  refine j_aload_n dX11_product_0 rfl rfl ?_
  refine j_callVi [] [] dX11_product_1 jlk_X11_190 rfl rfl rfl rfl (Nat.le_of_ble_eq_true rfl) (h1 s hs ho) ?_
  refine j_istore_n (lv' := [some (.ref 76), some (.int _), none, none]) dX11_product_4 rfl (by decide) rfl ?_
  refine j_aload_n dX11_product_5 rfl rfl ?_
  refine j_callVi [] [] dX11_product_6 jlk_X11_172 rfl rfl rfl rfl (Nat.le_of_ble_eq_true rfl) (m_byteAt hw g1) ?_
  refine j_istore_n (lv' := [some (.ref 76), some (.int _), some (.int _), none]) dX11_product_9 rfl (by decide) rfl ?_
  exact  l_product hw hg h1 (n + 1) (nxt s).1 (nxt s).2 _ g1 (fun q => (g3 q).1) (by omega) rfl

set_option maxHeartbeats 200000 in
set_option maxRecDepth 100000 in
theorem l_sums (hw : pwO X A n tx) (hg : gP n nxt o) (h1 : ∀ s, pok n s → (s.2.1 = none → s.2.2 = o) → jMet (d + 3) yX11_product cX11_product 4 (some .int) 0 0 [.ref 76] (tw (pX X s) A L) (jRi (nxt s).1 (tw (pX X (nxt s).2) A L))) : ∀ (m : Nat) (v : Int32) (s : pS) (r : Int32 × pS), pok n s → (s.2.1 = none → s.2.2 = o) → n - s.1 < m → (lvL n tx 4 nxt m v s) = r → jWP none RX11 cX11_sums 4 (some .int) (d + 4) 0 0 5 [some (.ref 76), some (.int v), none, none] [] (tw (pX X s) A L) (jRi r.1 (tw (pX X r.2) A L)) := by
  intro m
  induction m with
  | zero => intro v s r hs ho hm; omega
  | succ m ih =>
    intro v s r hs ho hm hr
    have hn120 := hw.1
    have hs1 := hs.1
    have hby := byN_lt (n := n) hw.2.1 s.1
    refine j_aload_n dX11_sums_5 rfl rfl ?_
    refine t_getI dX11_sums_6 jfl_X11_169 (fun _ _ _ => rfl) (fun _ => rfl) ?_
    refine j_topE pX_19 ?_
    refine j_if_ge (tgt := 77) dX11_sums_9 (by decide) (fun h9 => ?_) (fun h9 => ?_)
    · refine j_iload_n dX11_sums_77 rfl rfl ?_
      refine j_ireturn dX11_sums_78 rfl ?_
      have hl := lvL_f (nxt := nxt) (m := m) (v := v) (l := 4) (n := n) (tx := tx) (s := s) (fun q => absurd q.1 (flt_ge (Int32.not_lt.mpr h9)))
      rw [← hr, hl]
      exact ⟨rfl, rfl⟩
    · refine j_aload_n dX11_sums_12 rfl rfl ?_
      refine j_callVi [] [] dX11_sums_13 jlk_X11_172 rfl rfl rfl rfl (Nat.le_of_ble_eq_true rfl) (m_byteAt hw hs) ?_
      refine j_bipush (v := nI 43) dX11_sums_16 rfl ?_
      refine jn_icmp_eq (tgt := 30) dX11_sums_18 (by decide) (by omega) (by omega) (fun h18 => ?_) (fun h18 => ?_)
      · refine j_aload_n dX11_sums_30 rfl rfl ?_
        refine j_callVi [] [] dX11_sums_31 jlk_X11_172 rfl rfl rfl rfl (Nat.le_of_ble_eq_true rfl) (m_byteAt hw hs) ?_
        refine j_bipush (v := nI 43) dX11_sums_34 rfl ?_
        refine jn_icmp_ne (tgt := 43) dX11_sums_36 (by decide) (by omega) (by omega) (fun h36 => absurd h36 (by omega)) (fun h36 => ?_)
        refine j_iconst (v := nI 1) dX11_sums_39 rfl ?_
        refine j_goto (tgt := 44) dX11_sums_40 (by decide) ?_
        refine j_istore_n (lv' := [some (.ref 76), some (.int _), some (.int _), none]) dX11_sums_44 rfl (by decide) rfl ?_
        refine j_aload_n dX11_sums_45 rfl rfl ?_
        refine j_dup dX11_sums_46 rfl ?_
        refine t_getI dX11_sums_47 jfl_X11_160 (fun _ _ _ => rfl) (fun _ => rfl) ?_
        refine j_topE pX_17 ?_
        refine j_iconst (v := nI 1) dX11_sums_50 rfl ?_
        refine jn_iadd dX11_sums_51 ?_
        refine t_putI dX11_sums_52 jfl_X11_160 (fun _ _ _ => rfl) (fun _ _ => rfl) (Nat.le_of_ble_eq_true rfl) rfl rfl ?_
        rw [pX_p17]
        refine j_aload_n dX11_sums_55 rfl rfl ?_
        have hne : byN n tx s.1 ≠ 0 := by omega
        refine j_atw (w' := tw (pX X (adP s)) A L) rfl ?_
        refine j_callVi [] [] dX11_sums_56 jlk_X11_187 rfl rfl rfl rfl (Nat.le_of_ble_eq_true rfl) (h1 (adP s) (pok_ad hs hne) ho) ?_
        obtain ⟨g1, g2, g3, g4⟩ := hg (adP s) (pok_ad hs hne) ho
        have g2 : s.1 + 1 ≤ (nxt (adP s)).2.1 := g2
        have hsn := byN_in hne
        refine j_istore_n (lv' := [some (.ref 76), some (.int _), some (.int _), some (.int _)]) dX11_sums_59 rfl (by decide) rfl ?_
        refine j_iload_n dX11_sums_60 rfl rfl ?_
        refine j_if_eq (tgt := 70) dX11_sums_61 (by decide) (fun h => absurd h (by decide)) (fun _ => ?_)
        refine j_iload_n dX11_sums_64 rfl rfl ?_
        refine j_iload_n dX11_sums_65 rfl rfl ?_
        refine j_iadd dX11_sums_66 ?_
        refine j_goto (tgt := 73) dX11_sums_67 (by decide) ?_
        refine j_istore_n (lv' := [some (.ref 76), some (.int _), some (.int _), some (.int _)]) dX11_sums_73 rfl (by decide) rfl ?_
        refine j_goto (tgt := 5) dX11_sums_74 (by decide) ?_
        have hno : s.2.1 = none := flt_lt hn120 hs (Int32.not_le.mp h9)
        have hsg : sgN (byN n tx s.1) = 4 := sg_le3.1.mpr (Or.inl h18)
        have hj : joinI (byN n tx s.1) v (nxt (adP s)).1 = v + (nxt (adP s)).1 := by rw [h18]; rfl
        rw [← hj]
        refine j_sub ?_ (ih (joinI (byN n tx s.1) v (nxt (adP s)).1) (nxt (adP s)).2 r g1 (fun q => (g3 q).1) (by omega) ?_)
        · exact ⟨rfl, rfl, trivial⟩
        · rw [← hr]; exact (lvL_t hno hsg).symm
      · refine j_aload_n dX11_sums_21 rfl rfl ?_
        refine j_callVi [] [] dX11_sums_22 jlk_X11_172 rfl rfl rfl rfl (Nat.le_of_ble_eq_true rfl) (m_byteAt hw hs) ?_
        refine j_bipush (v := nI 45) dX11_sums_25 rfl ?_
        refine jn_icmp_ne (tgt := 77) dX11_sums_27 (by decide) (by omega) (by omega) (fun h27 => ?_) (fun h27 => ?_)
        · refine j_iload_n dX11_sums_77 rfl rfl ?_
          refine j_ireturn dX11_sums_78 rfl ?_
          have hl := lvL_f (nxt := nxt) (m := m) (v := v) (l := 4) (n := n) (tx := tx) (s := s) (fun q => by have q2 := sg_le3.1.mp q.2; omega)
          rw [← hr, hl]
          exact ⟨rfl, rfl⟩
        · refine j_aload_n dX11_sums_30 rfl rfl ?_
          refine j_callVi [] [] dX11_sums_31 jlk_X11_172 rfl rfl rfl rfl (Nat.le_of_ble_eq_true rfl) (m_byteAt hw hs) ?_
          refine j_bipush (v := nI 43) dX11_sums_34 rfl ?_
          refine jn_icmp_ne (tgt := 43) dX11_sums_36 (by decide) (by omega) (by omega) (fun h36 => ?_) (fun h36 => absurd h36 (by omega))
          refine j_iconst (v := nI 0) dX11_sums_43 rfl ?_
          refine j_istore_n (lv' := [some (.ref 76), some (.int _), some (.int _), none]) dX11_sums_44 rfl (by decide) rfl ?_
          refine j_aload_n dX11_sums_45 rfl rfl ?_
          refine j_dup dX11_sums_46 rfl ?_
          refine t_getI dX11_sums_47 jfl_X11_160 (fun _ _ _ => rfl) (fun _ => rfl) ?_
          refine j_topE pX_17 ?_
          refine j_iconst (v := nI 1) dX11_sums_50 rfl ?_
          refine jn_iadd dX11_sums_51 ?_
          refine t_putI dX11_sums_52 jfl_X11_160 (fun _ _ _ => rfl) (fun _ _ => rfl) (Nat.le_of_ble_eq_true rfl) rfl rfl ?_
          rw [pX_p17]
          refine j_aload_n dX11_sums_55 rfl rfl ?_
          have hne : byN n tx s.1 ≠ 0 := by omega
          refine j_atw (w' := tw (pX X (adP s)) A L) rfl ?_
          refine j_callVi [] [] dX11_sums_56 jlk_X11_187 rfl rfl rfl rfl (Nat.le_of_ble_eq_true rfl) (h1 (adP s) (pok_ad hs hne) ho) ?_
          obtain ⟨g1, g2, g3, g4⟩ := hg (adP s) (pok_ad hs hne) ho
          have g2 : s.1 + 1 ≤ (nxt (adP s)).2.1 := g2
          have hsn := byN_in hne
          refine j_istore_n (lv' := [some (.ref 76), some (.int _), some (.int _), some (.int _)]) dX11_sums_59 rfl (by decide) rfl ?_
          refine j_iload_n dX11_sums_60 rfl rfl ?_
          refine j_if_eq (tgt := 70) dX11_sums_61 (by decide) (fun _ => ?_) (fun h => absurd (by decide) h)
          refine j_iload_n dX11_sums_70 rfl rfl ?_
          refine j_iload_n dX11_sums_71 rfl rfl ?_
          refine j_isub dX11_sums_72 ?_
          refine j_istore_n (lv' := [some (.ref 76), some (.int _), some (.int _), some (.int _)]) dX11_sums_73 rfl (by decide) rfl ?_
          refine j_goto (tgt := 5) dX11_sums_74 (by decide) ?_
          have hno : s.2.1 = none := flt_lt hn120 hs (Int32.not_le.mp h9)
          have hsg : sgN (byN n tx s.1) = 4 := sg_le3.1.mpr (Or.inr h27)
          have hj : joinI (byN n tx s.1) v (nxt (adP s)).1 = v - (nxt (adP s)).1 := by rw [h27]; rfl
          rw [← hj]
          refine j_sub ?_ (ih (joinI (byN n tx s.1) v (nxt (adP s)).1) (nxt (adP s)).2 r g1 (fun q => (g3 q).1) (by omega) ?_)
          · exact ⟨rfl, rfl, trivial⟩
          · rw [← hr]; exact (lvL_t hno hsg).symm

set_option maxHeartbeats 200000 in
set_option maxRecDepth 100000 in
theorem m_sums (hw : pwO X A n tx) (hg : gP n nxt o) (h1 : ∀ s, pok n s → (s.2.1 = none → s.2.2 = o) → jMet (d + 3) yX11_product cX11_product 4 (some .int) 0 0 [.ref 76] (tw (pX X s) A L) (jRi (nxt s).1 (tw (pX X (nxt s).2) A L))) (hs : pok n s) (ho : s.2.1 = none → s.2.2 = o) : jMet (d + 4) yX11_sums cX11_sums 4 (some .int) 0 0 [.ref 76] (tw (pX X s) A L) (jRi (lvF n tx 4 nxt s).1 (tw (pX X (lvF n tx 4 nxt s).2) A L)) := by
  refine jMet_of (by decide) (Nat.le_of_ble_eq_true rfl) none (Or.inl rfl) ?_
  show jWP none RX11 cX11_sums 4 (some .int) (d + 4) 0 0 0 [some (.ref 76), none, none, none] [] (tw (pX X s) A L) (jRi (lvF n tx 4 nxt s).1 (tw (pX X (lvF n tx 4 nxt s).2) A L))
  obtain ⟨g1, g2, g3, g4⟩ := hg s hs ho
  have hn120 := hw.1
  refine j_aload_n dX11_sums_0 rfl rfl ?_
  refine j_callVi [] [] dX11_sums_1 jlk_X11_187 rfl rfl rfl rfl (Nat.le_of_ble_eq_true rfl) (h1 s hs ho) ?_
  refine j_istore_n (lv' := [some (.ref 76), some (.int _), none, none]) dX11_sums_4 rfl (by decide) rfl ?_
  exact  l_sums hw hg h1 (n + 1) (nxt s).1 (nxt s).2 _ g1 (fun q => (g3 q).1) (by omega) rfl

set_option maxHeartbeats 200000 in
set_option maxRecDepth 100000 in
theorem l_both (hw : pwO X A n tx) (hg : gP n nxt o) (h1 : ∀ s, pok n s → (s.2.1 = none → s.2.2 = o) → jMet (d + 5) yX11_compared cX11_compared 4 (some .int) 0 0 [.ref 76] (tw (pX X s) A L) (jRi (nxt s).1 (tw (pX X (nxt s).2) A L))) : ∀ (m : Nat) (v : Int32) (s : pS) (r : Int32 × pS), pok n s → (s.2.1 = none → s.2.2 = o) → n - s.1 < m → (lvL n tx 2 nxt m v s) = r → jWP none RX11 cX11_both 3 (some .int) (d + 6) 0 0 5 [some (.ref 76), some (.int v), none] [] (tw (pX X s) A L) (jRi r.1 (tw (pX X r.2) A L)) := by
  intro m
  induction m with
  | zero => intro v s r hs ho hm; omega
  | succ m ih =>
    intro v s r hs ho hm hr
    have hn120 := hw.1
    have hs1 := hs.1
    have hby := byN_lt (n := n) hw.2.1 s.1
    refine j_aload_n dX11_both_5 rfl rfl ?_
    refine j_bipush (v := nI 38) dX11_both_6 rfl ?_
    refine j_callVi [.int _] [] dX11_both_8 jlk_X11_179 rfl rfl rfl rfl (Nat.le_of_ble_eq_true rfl) (m_takes hw hs (by decide)) ?_
    refine j_if_eq (tgt := 36) dX11_both_11 (by decide) (fun h11 => ?_) (fun h11 => ?_)
    · have ht := bz_f h11
      rw [ht, if_neg (by decide)]
      refine j_iload_n dX11_both_36 rfl rfl ?_
      refine j_ireturn dX11_both_37 rfl ?_
      have hl := lvL_f (nxt := nxt) (m := m) (v := v) (l := 2) (n := n) (tx := tx) (s := s) (fun q => by unfold tkB at ht; rw [q.1, sg_le3.2.2.1.mp q.2] at ht; exact Bool.noConfusion ht)
      rw [← hr, hl]
      exact ⟨rfl, rfl⟩
    · have ht := bz_t h11
      rw [ht, if_pos rfl]
      have ht2 := ht
      unfold tkB at ht2
      simp only [Bool.and_eq_true, decide_eq_true_eq] at ht2
      have hno : s.2.1 = none := by simpa using ht2.1
      have hne : byN n tx s.1 ≠ 0 := by omega
      refine j_aload_n dX11_both_14 rfl rfl ?_
      refine j_callVi [] [] dX11_both_15 jlk_X11_182 rfl rfl rfl rfl (Nat.le_of_ble_eq_true rfl) (h1 (adP s) (pok_ad hs hne) ho) ?_
      obtain ⟨g1, g2, g3, g4⟩ := hg (adP s) (pok_ad hs hne) ho
      have g2 : s.1 + 1 ≤ (nxt (adP s)).2.1 := g2
      have hsn := byN_in hne
      refine j_istore_n (lv' := [some (.ref 76), some (.int _), some (.int _)]) dX11_both_18 rfl (by decide) rfl ?_
      refine j_iload_n dX11_both_19 rfl rfl ?_
      refine j_if_eq (tgt := 31) dX11_both_20 (by decide) (fun h20 => ?_) (fun h20 => ?_)
      · refine j_iconst (v := nI 0) dX11_both_31 rfl ?_
        refine j_istore_n (lv' := [some (.ref 76), some (.int _), some (.int _)]) dX11_both_32 rfl (by decide) rfl ?_
        refine j_goto (tgt := 5) dX11_both_33 (by decide) ?_
        have hno : s.2.1 = none := hno
        have hsg : sgN (byN n tx s.1) = 2 := sg_le3.2.2.1.mpr ht2.2
        have hj : joinI (byN n tx s.1) v (nxt (adP s)).1 = nI 0 := by rw [ht2.2]; show (if v = 0 then nI 0 else if (nxt (adP s)).1 = 0 then nI 0 else nI 1) = _; rw [if_pos (by first | exact h20 | simpa using h20)]
        rw [← hj]
        refine j_sub ?_ (ih (joinI (byN n tx s.1) v (nxt (adP s)).1) (nxt (adP s)).2 r g1 (fun q => (g3 q).1) (by omega) ?_)
        · exact ⟨rfl, rfl, trivial⟩
        · rw [← hr]; exact (lvL_t hno hsg).symm
      · refine j_iload_n dX11_both_23 rfl rfl ?_
        refine j_if_eq (tgt := 31) dX11_both_24 (by decide) (fun h24 => ?_) (fun h24 => ?_)
        · refine j_iconst (v := nI 0) dX11_both_31 rfl ?_
          refine j_istore_n (lv' := [some (.ref 76), some (.int _), some (.int _)]) dX11_both_32 rfl (by decide) rfl ?_
          refine j_goto (tgt := 5) dX11_both_33 (by decide) ?_
          have hno : s.2.1 = none := hno
          have hsg : sgN (byN n tx s.1) = 2 := sg_le3.2.2.1.mpr ht2.2
          have hj : joinI (byN n tx s.1) v (nxt (adP s)).1 = nI 0 := by rw [ht2.2]; show (if v = 0 then nI 0 else if (nxt (adP s)).1 = 0 then nI 0 else nI 1) = _; rw [if_neg h20, if_pos (by first | exact h24 | simpa using h24)]
          rw [← hj]
          refine j_sub ?_ (ih (joinI (byN n tx s.1) v (nxt (adP s)).1) (nxt (adP s)).2 r g1 (fun q => (g3 q).1) (by omega) ?_)
          · exact ⟨rfl, rfl, trivial⟩
          · rw [← hr]; exact (lvL_t hno hsg).symm
        · refine j_iconst (v := nI 1) dX11_both_27 rfl ?_
          refine j_goto (tgt := 32) dX11_both_28 (by decide) ?_
          refine j_istore_n (lv' := [some (.ref 76), some (.int _), some (.int _)]) dX11_both_32 rfl (by decide) rfl ?_
          refine j_goto (tgt := 5) dX11_both_33 (by decide) ?_
          have hno : s.2.1 = none := hno
          have hsg : sgN (byN n tx s.1) = 2 := sg_le3.2.2.1.mpr ht2.2
          have hj : joinI (byN n tx s.1) v (nxt (adP s)).1 = nI 1 := by rw [ht2.2]; show (if v = 0 then nI 0 else if (nxt (adP s)).1 = 0 then nI 0 else nI 1) = _; rw [if_neg h20, if_neg h24]
          rw [← hj]
          refine j_sub ?_ (ih (joinI (byN n tx s.1) v (nxt (adP s)).1) (nxt (adP s)).2 r g1 (fun q => (g3 q).1) (by omega) ?_)
          · exact ⟨rfl, rfl, trivial⟩
          · rw [← hr]; exact (lvL_t hno hsg).symm

set_option maxHeartbeats 200000 in
set_option maxRecDepth 100000 in
theorem m_both (hw : pwO X A n tx) (hg : gP n nxt o) (h1 : ∀ s, pok n s → (s.2.1 = none → s.2.2 = o) → jMet (d + 5) yX11_compared cX11_compared 4 (some .int) 0 0 [.ref 76] (tw (pX X s) A L) (jRi (nxt s).1 (tw (pX X (nxt s).2) A L))) (hs : pok n s) (ho : s.2.1 = none → s.2.2 = o) : jMet (d + 6) yX11_both cX11_both 3 (some .int) 0 0 [.ref 76] (tw (pX X s) A L) (jRi (lvF n tx 2 nxt s).1 (tw (pX X (lvF n tx 2 nxt s).2) A L)) := by
  refine jMet_of (by decide) (Nat.le_of_ble_eq_true rfl) none (Or.inl rfl) ?_
  show jWP none RX11 cX11_both 3 (some .int) (d + 6) 0 0 0 [some (.ref 76), none, none] [] (tw (pX X s) A L) (jRi (lvF n tx 2 nxt s).1 (tw (pX X (lvF n tx 2 nxt s).2) A L))
  obtain ⟨g1, g2, g3, g4⟩ := hg s hs ho
  have hn120 := hw.1
  refine j_aload_n dX11_both_0 rfl rfl ?_
  refine j_callVi [] [] dX11_both_1 jlk_X11_182 rfl rfl rfl rfl (Nat.le_of_ble_eq_true rfl) (h1 s hs ho) ?_
  refine j_istore_n (lv' := [some (.ref 76), some (.int _), none]) dX11_both_4 rfl (by decide) rfl ?_
  exact  l_both hw hg h1 (n + 1) (nxt s).1 (nxt s).2 _ g1 (fun q => (g3 q).1) (by omega) rfl

set_option maxHeartbeats 200000 in
set_option maxRecDepth 100000 in
theorem l_either (hw : pwO X A n tx) (hg : gP n nxt o) (h1 : ∀ s, pok n s → (s.2.1 = none → s.2.2 = o) → jMet (d + 6) yX11_both cX11_both 3 (some .int) 0 0 [.ref 76] (tw (pX X s) A L) (jRi (nxt s).1 (tw (pX X (nxt s).2) A L))) : ∀ (m : Nat) (v : Int32) (s : pS) (r : Int32 × pS), pok n s → (s.2.1 = none → s.2.2 = o) → n - s.1 < m → (lvL n tx 1 nxt m v s) = r → jWP none RX11 cX11_either 3 (some .int) (d + 7) 0 0 5 [some (.ref 76), some (.int v), none] [] (tw (pX X s) A L) (jRi r.1 (tw (pX X r.2) A L)) := by
  intro m
  induction m with
  | zero => intro v s r hs ho hm; omega
  | succ m ih =>
    intro v s r hs ho hm hr
    have hn120 := hw.1
    have hs1 := hs.1
    have hby := byN_lt (n := n) hw.2.1 s.1
    refine j_aload_n dX11_either_5 rfl rfl ?_
    refine j_bipush (v := nI 124) dX11_either_6 rfl ?_
    refine j_callVi [.int _] [] dX11_either_8 jlk_X11_179 rfl rfl rfl rfl (Nat.le_of_ble_eq_true rfl) (m_takes hw hs (by decide)) ?_
    refine j_if_eq (tgt := 36) dX11_either_11 (by decide) (fun h11 => ?_) (fun h11 => ?_)
    · have ht := bz_f h11
      rw [ht, if_neg (by decide)]
      refine j_iload_n dX11_either_36 rfl rfl ?_
      refine j_ireturn dX11_either_37 rfl ?_
      have hl := lvL_f (nxt := nxt) (m := m) (v := v) (l := 1) (n := n) (tx := tx) (s := s) (fun q => by unfold tkB at ht; rw [q.1, sg_le3.2.2.2.mp q.2] at ht; exact Bool.noConfusion ht)
      rw [← hr, hl]
      exact ⟨rfl, rfl⟩
    · have ht := bz_t h11
      rw [ht, if_pos rfl]
      have ht2 := ht
      unfold tkB at ht2
      simp only [Bool.and_eq_true, decide_eq_true_eq] at ht2
      have hno : s.2.1 = none := by simpa using ht2.1
      have hne : byN n tx s.1 ≠ 0 := by omega
      refine j_aload_n dX11_either_14 rfl rfl ?_
      refine j_callVi [] [] dX11_either_15 jlk_X11_176 rfl rfl rfl rfl (Nat.le_of_ble_eq_true rfl) (h1 (adP s) (pok_ad hs hne) ho) ?_
      obtain ⟨g1, g2, g3, g4⟩ := hg (adP s) (pok_ad hs hne) ho
      have g2 : s.1 + 1 ≤ (nxt (adP s)).2.1 := g2
      have hsn := byN_in hne
      refine j_istore_n (lv' := [some (.ref 76), some (.int _), some (.int _)]) dX11_either_18 rfl (by decide) rfl ?_
      refine j_iload_n dX11_either_19 rfl rfl ?_
      refine j_if_ne (tgt := 27) dX11_either_20 (by decide) (fun h20 => ?_) (fun h20 => ?_)
      · refine j_iconst (v := nI 1) dX11_either_27 rfl ?_
        refine j_goto (tgt := 32) dX11_either_28 (by decide) ?_
        refine j_istore_n (lv' := [some (.ref 76), some (.int _), some (.int _)]) dX11_either_32 rfl (by decide) rfl ?_
        refine j_goto (tgt := 5) dX11_either_33 (by decide) ?_
        have hno : s.2.1 = none := hno
        have hsg : sgN (byN n tx s.1) = 1 := sg_le3.2.2.2.mpr ht2.2
        have hj : joinI (byN n tx s.1) v (nxt (adP s)).1 = nI 1 := by rw [ht2.2]; show (if v = 0 then (if (nxt (adP s)).1 = 0 then nI 0 else nI 1) else nI 1) = _; rw [if_neg h20]
        rw [← hj]
        refine j_sub ?_ (ih (joinI (byN n tx s.1) v (nxt (adP s)).1) (nxt (adP s)).2 r g1 (fun q => (g3 q).1) (by omega) ?_)
        · exact ⟨rfl, rfl, trivial⟩
        · rw [← hr]; exact (lvL_t hno hsg).symm
      · refine j_iload_n dX11_either_23 rfl rfl ?_
        refine j_if_eq (tgt := 31) dX11_either_24 (by decide) (fun h24 => ?_) (fun h24 => ?_)
        · refine j_iconst (v := nI 0) dX11_either_31 rfl ?_
          refine j_istore_n (lv' := [some (.ref 76), some (.int _), some (.int _)]) dX11_either_32 rfl (by decide) rfl ?_
          refine j_goto (tgt := 5) dX11_either_33 (by decide) ?_
          have hno : s.2.1 = none := hno
          have hsg : sgN (byN n tx s.1) = 1 := sg_le3.2.2.2.mpr ht2.2
          have hj : joinI (byN n tx s.1) v (nxt (adP s)).1 = nI 0 := by rw [ht2.2]; show (if v = 0 then (if (nxt (adP s)).1 = 0 then nI 0 else nI 1) else nI 1) = _; rw [if_pos (by first | exact h20 | simpa using h20), if_pos (by first | exact h24 | simpa using h24)]
          rw [← hj]
          refine j_sub ?_ (ih (joinI (byN n tx s.1) v (nxt (adP s)).1) (nxt (adP s)).2 r g1 (fun q => (g3 q).1) (by omega) ?_)
          · exact ⟨rfl, rfl, trivial⟩
          · rw [← hr]; exact (lvL_t hno hsg).symm
        · refine j_iconst (v := nI 1) dX11_either_27 rfl ?_
          refine j_goto (tgt := 32) dX11_either_28 (by decide) ?_
          refine j_istore_n (lv' := [some (.ref 76), some (.int _), some (.int _)]) dX11_either_32 rfl (by decide) rfl ?_
          refine j_goto (tgt := 5) dX11_either_33 (by decide) ?_
          have hno : s.2.1 = none := hno
          have hsg : sgN (byN n tx s.1) = 1 := sg_le3.2.2.2.mpr ht2.2
          have hj : joinI (byN n tx s.1) v (nxt (adP s)).1 = nI 1 := by rw [ht2.2]; show (if v = 0 then (if (nxt (adP s)).1 = 0 then nI 0 else nI 1) else nI 1) = _; rw [if_pos (by first | exact h20 | simpa using h20), if_neg h24]
          rw [← hj]
          refine j_sub ?_ (ih (joinI (byN n tx s.1) v (nxt (adP s)).1) (nxt (adP s)).2 r g1 (fun q => (g3 q).1) (by omega) ?_)
          · exact ⟨rfl, rfl, trivial⟩
          · rw [← hr]; exact (lvL_t hno hsg).symm

set_option maxHeartbeats 200000 in
set_option maxRecDepth 100000 in
theorem m_either (hw : pwO X A n tx) (hg : gP n nxt o) (h1 : ∀ s, pok n s → (s.2.1 = none → s.2.2 = o) → jMet (d + 6) yX11_both cX11_both 3 (some .int) 0 0 [.ref 76] (tw (pX X s) A L) (jRi (nxt s).1 (tw (pX X (nxt s).2) A L))) (hs : pok n s) (ho : s.2.1 = none → s.2.2 = o) : jMet (d + 7) yX11_either cX11_either 3 (some .int) 0 0 [.ref 76] (tw (pX X s) A L) (jRi (lvF n tx 1 nxt s).1 (tw (pX X (lvF n tx 1 nxt s).2) A L)) := by
  refine jMet_of (by decide) (Nat.le_of_ble_eq_true rfl) none (Or.inl rfl) ?_
  show jWP none RX11 cX11_either 3 (some .int) (d + 7) 0 0 0 [some (.ref 76), none, none] [] (tw (pX X s) A L) (jRi (lvF n tx 1 nxt s).1 (tw (pX X (lvF n tx 1 nxt s).2) A L))
  obtain ⟨g1, g2, g3, g4⟩ := hg s hs ho
  have hn120 := hw.1
  refine j_aload_n dX11_either_0 rfl rfl ?_
  refine j_callVi [] [] dX11_either_1 jlk_X11_176 rfl rfl rfl rfl (Nat.le_of_ble_eq_true rfl) (h1 s hs ho) ?_
  refine j_istore_n (lv' := [some (.ref 76), some (.int _), none]) dX11_either_4 rfl (by decide) rfl ?_
  exact  l_either hw hg h1 (n + 1) (nxt s).1 (nxt s).2 _ g1 (fun q => (g3 q).1) (by omega) rfl

set_option maxHeartbeats 200000 in
set_option maxRecDepth 100000 in
theorem m_compared (hw : pwO X A n tx) (hg : gP n nxt o) (h1 : ∀ s, pok n s → (s.2.1 = none → s.2.2 = o) → jMet (d + 4) yX11_sums cX11_sums 4 (some .int) 0 0 [.ref 76] (tw (pX X s) A L) (jRi (nxt s).1 (tw (pX X (nxt s).2) A L))) (hs : pok n s) (ho : s.2.1 = none → s.2.2 = o) : jMet (d + 5) yX11_compared cX11_compared 4 (some .int) 0 0 [.ref 76] (tw (pX X s) A L) (jRi (cmF n tx nxt s).1 (tw (pX X (cmF n tx nxt s).2) A L)) := by
  refine jMet_of (by decide) (Nat.le_of_ble_eq_true rfl) none (Or.inl rfl) ?_
  show jWP none RX11 cX11_compared 4 (some .int) (d + 5) 0 0 0 [some (.ref 76), none, none, none] [] (tw (pX X s) A L) (jRi (cmF n tx nxt s).1 (tw (pX X (cmF n tx nxt s).2) A L))
  obtain ⟨g1, g2, g3, g4⟩ := hg s hs ho
  have hn120 := hw.1
  have hby := byN_lt (n := n) hw.2.1 (nxt s).2.1
  refine j_aload_n dX11_compared_0 rfl rfl ?_
  refine j_callVi [] [] dX11_compared_1 jlk_X11_185 rfl rfl rfl rfl (Nat.le_of_ble_eq_true rfl) (h1 s hs ho) ?_
  refine j_istore_n (lv' := [some (.ref 76), some (.int _), none, none]) dX11_compared_4 rfl (by decide) rfl ?_
  refine j_aload_n dX11_compared_5 rfl rfl ?_
  refine j_callVi [] [] dX11_compared_6 jlk_X11_172 rfl rfl rfl rfl (Nat.le_of_ble_eq_true rfl) (m_byteAt hw g1) ?_
  refine j_istore_n (lv' := [some (.ref 76), some (.int _), some (.int _), none]) dX11_compared_9 rfl (by decide) rfl ?_
  refine j_aload_n dX11_compared_10 rfl rfl ?_
  refine t_getI dX11_compared_11 jfl_X11_169 (fun _ _ _ => rfl) (fun _ => rfl) ?_
  refine j_topE pX_19 ?_
  refine j_if_ge (tgt := 35) dX11_compared_14 (by decide) (fun h14 => ?_) (fun h14 => ?_)
  · refine j_iload_n dX11_compared_35 rfl rfl ?_
    refine j_ireturn dX11_compared_36 rfl ?_
    have hc : cmF n tx nxt s = nxt s := if_neg (fun q => absurd q.1 (flt_ge (Int32.not_lt.mpr h14)))
    rw [hc]
    exact ⟨rfl, rfl⟩
  · refine j_iload_n dX11_compared_17 rfl rfl ?_
    refine j_bipush (v := nI 60) dX11_compared_18 rfl ?_
    refine jn_icmp_eq (tgt := 37) dX11_compared_20 (by decide) (by omega) (by omega) (fun h20 => ?_) (fun h20 => ?_)
    · refine j_aload_n dX11_compared_37 rfl rfl ?_
      refine j_dup dX11_compared_38 rfl ?_
      refine t_getI dX11_compared_39 jfl_X11_160 (fun _ _ _ => rfl) (fun _ => rfl) ?_
      refine j_topE pX_17 ?_
      refine j_iconst (v := nI 1) dX11_compared_42 rfl ?_
      refine jn_iadd dX11_compared_43 ?_
      refine t_putI dX11_compared_44 jfl_X11_160 (fun _ _ _ => rfl) (fun _ _ => rfl) (Nat.le_of_ble_eq_true rfl) rfl rfl ?_
      rw [pX_p17]
      refine j_aload_n dX11_compared_47 rfl rfl ?_
      refine j_atw (w' := tw (pX X (adP (nxt s).2)) A L) rfl ?_
      refine j_callVi [] [] dX11_compared_48 jlk_X11_185 rfl rfl rfl rfl (Nat.le_of_ble_eq_true rfl) (h1 (adP (nxt s).2) (pok_ad g1 (show byN n tx (nxt s).2.1 ≠ 0 by omega)) (fun q => (g3 q).1)) ?_
      refine j_istore_n (lv' := [some (.ref 76), some (.int _), some (.int _), some (.int _)]) dX11_compared_51 rfl (by decide) rfl ?_
      refine j_iload_n dX11_compared_52 rfl rfl ?_
      refine j_bipush (v := nI 60) dX11_compared_53 rfl ?_
      refine jn_icmp_ne (tgt := 66) dX11_compared_55 (by decide) (by omega) (by omega) (fun h55 => absurd h55 (by omega)) (fun h55 => ?_)
      refine j_iload_n dX11_compared_58 rfl rfl ?_
      refine j_iload_n dX11_compared_59 rfl rfl ?_
      refine j_icmp_ge (tgt := 89) dX11_compared_60 (by decide) (fun h60 => ?_) (fun h60 => ?_)
      · refine j_iconst (v := nI 0) dX11_compared_89 rfl ?_
        refine j_ireturn dX11_compared_90 rfl ?_
        have hc : cmF n tx nxt s = (joinI (byN n tx (nxt s).2.1) (nxt s).1 (nxt (adP (nxt s).2)).1, (nxt (adP (nxt s).2)).2) := if_pos ⟨flt_lt hn120 g1 (Int32.not_le.mp h14), sg_le3.2.1.mpr (Or.inl h20)⟩
        rw [hc, h20]
        exact ⟨congrArg (fun z => some (Value.int z)) (if_neg (Int32.not_lt.mpr h60)).symm, rfl⟩
      · refine j_goto (tgt := 85) dX11_compared_63 (by decide) ?_
        refine j_iconst (v := nI 1) dX11_compared_85 rfl ?_
        refine j_goto (tgt := 90) dX11_compared_86 (by decide) ?_
        refine j_ireturn dX11_compared_90 rfl ?_
        have hc : cmF n tx nxt s = (joinI (byN n tx (nxt s).2.1) (nxt s).1 (nxt (adP (nxt s).2)).1, (nxt (adP (nxt s).2)).2) := if_pos ⟨flt_lt hn120 g1 (Int32.not_le.mp h14), sg_le3.2.1.mpr (Or.inl h20)⟩
        rw [hc, h20]
        exact ⟨congrArg (fun z => some (Value.int z)) (if_pos (Int32.not_le.mp h60)).symm, rfl⟩
    · refine j_iload_n dX11_compared_23 rfl rfl ?_
      refine j_bipush (v := nI 61) dX11_compared_24 rfl ?_
      refine jn_icmp_eq (tgt := 37) dX11_compared_26 (by decide) (by omega) (by omega) (fun h26 => ?_) (fun h26 => ?_)
      · refine j_aload_n dX11_compared_37 rfl rfl ?_
        refine j_dup dX11_compared_38 rfl ?_
        refine t_getI dX11_compared_39 jfl_X11_160 (fun _ _ _ => rfl) (fun _ => rfl) ?_
        refine j_topE pX_17 ?_
        refine j_iconst (v := nI 1) dX11_compared_42 rfl ?_
        refine jn_iadd dX11_compared_43 ?_
        refine t_putI dX11_compared_44 jfl_X11_160 (fun _ _ _ => rfl) (fun _ _ => rfl) (Nat.le_of_ble_eq_true rfl) rfl rfl ?_
        rw [pX_p17]
        refine j_aload_n dX11_compared_47 rfl rfl ?_
        refine j_atw (w' := tw (pX X (adP (nxt s).2)) A L) rfl ?_
        refine j_callVi [] [] dX11_compared_48 jlk_X11_185 rfl rfl rfl rfl (Nat.le_of_ble_eq_true rfl) (h1 (adP (nxt s).2) (pok_ad g1 (show byN n tx (nxt s).2.1 ≠ 0 by omega)) (fun q => (g3 q).1)) ?_
        refine j_istore_n (lv' := [some (.ref 76), some (.int _), some (.int _), some (.int _)]) dX11_compared_51 rfl (by decide) rfl ?_
        refine j_iload_n dX11_compared_52 rfl rfl ?_
        refine j_bipush (v := nI 60) dX11_compared_53 rfl ?_
        refine jn_icmp_ne (tgt := 66) dX11_compared_55 (by decide) (by omega) (by omega) (fun h55 => ?_) (fun h55 => absurd h55 (by omega))
        refine j_iload_n dX11_compared_66 rfl rfl ?_
        refine j_bipush (v := nI 61) dX11_compared_67 rfl ?_
        refine jn_icmp_ne (tgt := 80) dX11_compared_69 (by decide) (by omega) (by omega) (fun h69 => absurd h69 (by omega)) (fun h69 => ?_)
        refine j_iload_n dX11_compared_72 rfl rfl ?_
        refine j_iload_n dX11_compared_73 rfl rfl ?_
        refine j_icmp_ne (tgt := 89) dX11_compared_74 (by decide) (fun h74 => ?_) (fun h74 => ?_)
        · refine j_iconst (v := nI 0) dX11_compared_89 rfl ?_
          refine j_ireturn dX11_compared_90 rfl ?_
          have hc : cmF n tx nxt s = (joinI (byN n tx (nxt s).2.1) (nxt s).1 (nxt (adP (nxt s).2)).1, (nxt (adP (nxt s).2)).2) := if_pos ⟨flt_lt hn120 g1 (Int32.not_le.mp h14), sg_le3.2.1.mpr (Or.inr (Or.inl h26))⟩
          rw [hc, h26]
          exact ⟨congrArg (fun z => some (Value.int z)) (if_neg h74).symm, rfl⟩
        · refine j_goto (tgt := 85) dX11_compared_77 (by decide) ?_
          refine j_iconst (v := nI 1) dX11_compared_85 rfl ?_
          refine j_goto (tgt := 90) dX11_compared_86 (by decide) ?_
          refine j_ireturn dX11_compared_90 rfl ?_
          have hc : cmF n tx nxt s = (joinI (byN n tx (nxt s).2.1) (nxt s).1 (nxt (adP (nxt s).2)).1, (nxt (adP (nxt s).2)).2) := if_pos ⟨flt_lt hn120 g1 (Int32.not_le.mp h14), sg_le3.2.1.mpr (Or.inr (Or.inl h26))⟩
          rw [hc, h26]
          exact ⟨congrArg (fun z => some (Value.int z)) (if_pos (by first | exact h74 | simpa using h74)).symm, rfl⟩
      · refine j_iload_n dX11_compared_29 rfl rfl ?_
        refine j_bipush (v := nI 62) dX11_compared_30 rfl ?_
        refine jn_icmp_eq (tgt := 37) dX11_compared_32 (by decide) (by omega) (by omega) (fun h32 => ?_) (fun h32 => ?_)
        · refine j_aload_n dX11_compared_37 rfl rfl ?_
          refine j_dup dX11_compared_38 rfl ?_
          refine t_getI dX11_compared_39 jfl_X11_160 (fun _ _ _ => rfl) (fun _ => rfl) ?_
          refine j_topE pX_17 ?_
          refine j_iconst (v := nI 1) dX11_compared_42 rfl ?_
          refine jn_iadd dX11_compared_43 ?_
          refine t_putI dX11_compared_44 jfl_X11_160 (fun _ _ _ => rfl) (fun _ _ => rfl) (Nat.le_of_ble_eq_true rfl) rfl rfl ?_
          rw [pX_p17]
          refine j_aload_n dX11_compared_47 rfl rfl ?_
          refine j_atw (w' := tw (pX X (adP (nxt s).2)) A L) rfl ?_
          refine j_callVi [] [] dX11_compared_48 jlk_X11_185 rfl rfl rfl rfl (Nat.le_of_ble_eq_true rfl) (h1 (adP (nxt s).2) (pok_ad g1 (show byN n tx (nxt s).2.1 ≠ 0 by omega)) (fun q => (g3 q).1)) ?_
          refine j_istore_n (lv' := [some (.ref 76), some (.int _), some (.int _), some (.int _)]) dX11_compared_51 rfl (by decide) rfl ?_
          refine j_iload_n dX11_compared_52 rfl rfl ?_
          refine j_bipush (v := nI 60) dX11_compared_53 rfl ?_
          refine jn_icmp_ne (tgt := 66) dX11_compared_55 (by decide) (by omega) (by omega) (fun h55 => ?_) (fun h55 => absurd h55 (by omega))
          refine j_iload_n dX11_compared_66 rfl rfl ?_
          refine j_bipush (v := nI 61) dX11_compared_67 rfl ?_
          refine jn_icmp_ne (tgt := 80) dX11_compared_69 (by decide) (by omega) (by omega) (fun h69 => ?_) (fun h69 => absurd h69 (by omega))
          refine j_iload_n dX11_compared_80 rfl rfl ?_
          refine j_iload_n dX11_compared_81 rfl rfl ?_
          refine j_icmp_le (tgt := 89) dX11_compared_82 (by decide) (fun h82 => ?_) (fun h82 => ?_)
          · refine j_iconst (v := nI 0) dX11_compared_89 rfl ?_
            refine j_ireturn dX11_compared_90 rfl ?_
            have hc : cmF n tx nxt s = (joinI (byN n tx (nxt s).2.1) (nxt s).1 (nxt (adP (nxt s).2)).1, (nxt (adP (nxt s).2)).2) := if_pos ⟨flt_lt hn120 g1 (Int32.not_le.mp h14), sg_le3.2.1.mpr (Or.inr (Or.inr h32))⟩
            rw [hc, h32]
            exact ⟨congrArg (fun z => some (Value.int z)) (if_neg (Int32.not_lt.mpr h82)).symm, rfl⟩
          · refine j_iconst (v := nI 1) dX11_compared_85 rfl ?_
            refine j_goto (tgt := 90) dX11_compared_86 (by decide) ?_
            refine j_ireturn dX11_compared_90 rfl ?_
            have hc : cmF n tx nxt s = (joinI (byN n tx (nxt s).2.1) (nxt s).1 (nxt (adP (nxt s).2)).1, (nxt (adP (nxt s).2)).2) := if_pos ⟨flt_lt hn120 g1 (Int32.not_le.mp h14), sg_le3.2.1.mpr (Or.inr (Or.inr h32))⟩
            rw [hc, h32]
            exact ⟨congrArg (fun z => some (Value.int z)) (if_pos (Int32.not_le.mp h82)).symm, rfl⟩
        · refine j_iload_n dX11_compared_35 rfl rfl ?_
          refine j_ireturn dX11_compared_36 rfl ?_
          have hc : cmF n tx nxt s = nxt s := if_neg (fun q => by have q2 := sg_le3.2.1.mp q.2; omega)
          rw [hc]
          exact ⟨rfl, rfl⟩

end CT53