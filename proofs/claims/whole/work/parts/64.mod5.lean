theorem wi_04 {e : Int32} : wiJ e.toInt64 0 4 = so04 e := by
  unfold wiJ so04
  rw [show (0 : Int64) = (0 : Int32).toInt64 from by decide, show (4 : Int64) = (nI 4).toInt64 from by decide]
  have h1 := @l_lt e 0
  have h2 := @l_lt (nI 4) e
  simp only [h1, h2]
section CT44
variable {d : Nat} {X A : Nat → Nat → Int32} {L : Nat → Nat → Int64} {w : jW} {na nb : Nat} {v kd : Nat → Nat}

set_option maxHeartbeats 200000 in
set_option maxRecDepth 100000 in
theorem m_keep_no (hb : X 76 36 = nI nb) (hb50 : nb ≤ 50) {c b : Int32} (h : isA 6 c = nI 0 ∨ (b ≠ -1 ∧ isA nb b = nI 0)) : jMet (d + 2) yX11_keep cX11_keep 3 (some .int) 0 0 [.ref 76, .int c, .int b] (tw X A L) (jRi (-1) (tw X A L)) := by
  refine jMet_of (by decide) (Nat.le_of_ble_eq_true rfl) none (Or.inl rfl) ?_
  show jWP none RX11 cX11_keep 3 (some .int) (d + 2) 0 0 0 [some (.ref 76), some (.int c), some (.int b)] [] (tw X A L) (jRi (-1) (tw X A L))
  refine j_iload_n dX11_keep_0 rfl rfl ?_
  refine j_callSi [.int _] [] dX11_keep_1 jlk_X11_124 rfl rfl (Nat.le_of_ble_eq_true rfl) (m_isSh) ?_
  refine j_if_eq (tgt := 20) dX11_keep_4 (by decide) (fun h4 => ?_) (fun h4 => ?_)
  · refine j_iconst (v := (-1)) dX11_keep_20 rfl ?_
    refine j_ireturn dX11_keep_21 rfl ?_
    exact ⟨rfl, rfl⟩
  · refine j_iload_n dX11_keep_7 rfl rfl ?_
    refine j_iconst (v := (-1)) dX11_keep_8 rfl ?_
    refine j_icmp_eq (tgt := 22) dX11_keep_9 (by decide) (fun h9 => ?_) (fun h9 => ?_)
    · exfalso
      rcases h with h | h
      · exact h4 h
      · exact h.1 (by first | exact h9 | simpa using h9)
    · refine j_aload_n dX11_keep_12 rfl rfl ?_
      refine j_iload_n dX11_keep_13 rfl rfl ?_
      refine j_callVi [.int _] [] dX11_keep_14 jlk_X11_363 rfl rfl rfl rfl (Nat.le_of_ble_eq_true rfl) (m_isBd hb hb50) ?_
      refine j_if_ne (tgt := 22) dX11_keep_17 (by decide) (fun h17 => ?_) (fun h17 => ?_)
      · exfalso
        rcases h with h | h
        · exact h4 h
        · exact h17 h.2
      · refine j_iconst (v := (-1)) dX11_keep_20 rfl ?_
        refine j_ireturn dX11_keep_21 rfl ?_
        exact ⟨rfl, rfl⟩

set_option maxHeartbeats 200000 in
set_option maxRecDepth 100000 in
theorem m_keep_0 {j : Nat} (hj : j < 6) : jMet (d + 2) yX11_keep cX11_keep 3 (some .int) 0 0 [.ref 76, .int (nI j), .int (-1)] (tw X A L) (jRi (nI 1) (tw X (va_up (va_up A 100 (upd (A 100) j (-1))) 101 (upd (A 101) j (nI 0))) L)) := by
  refine jMet_of (by decide) (Nat.le_of_ble_eq_true rfl) none (Or.inl rfl) ?_
  show jWP none RX11 cX11_keep 3 (some .int) (d + 2) 0 0 0 [some (.ref 76), some (.int (nI j)), some (.int (-1))] [] (tw X A L) (jRi (nI 1) (tw X (va_up (va_up A 100 (upd (A 100) j (-1))) 101 (upd (A 101) j (nI 0))) L))
  refine j_iload_n dX11_keep_0 rfl rfl ?_
  refine j_callSi [.int _] [] dX11_keep_1 jlk_X11_124 rfl rfl (Nat.le_of_ble_eq_true rfl) (jMet_i m_isSh (isA_in hj (by decide)) rfl) ?_
  refine j_if_eq (tgt := 20) dX11_keep_4 (by decide) (fun h => absurd h (by decide)) (fun _ => ?_)
  refine j_iload_n dX11_keep_7 rfl rfl ?_
  refine j_iconst (v := (-1)) dX11_keep_8 rfl ?_
  refine j_icmp_eq (tgt := 22) dX11_keep_9 (by decide) (fun _ => ?_) (fun h => absurd (by decide) h)
  refine j_aload_n dX11_keep_22 rfl rfl ?_
  refine t_getR (b := 100) dX11_keep_23 jfl_X11_82 (fun _ _ _ => rfl) rfl ?_
  refine j_iload_n dX11_keep_26 rfl rfl ?_
  refine j_iload_n dX11_keep_27 rfl rfl ?_
  refine t_iastore dX11_keep_28 (fun _ _ _ => rfl) (by omega) (by decide) ?_
  refine j_aload_n dX11_keep_29 rfl rfl ?_
  refine t_getR (b := 101) dX11_keep_30 jfl_X11_85 (fun _ _ _ => rfl) rfl ?_
  refine j_iload_n dX11_keep_33 rfl rfl ?_
  refine j_iconst (v := nI 0) dX11_keep_34 rfl ?_
  refine t_iastore dX11_keep_35 (fun _ _ _ => rfl) (by omega) (by decide) ?_
  refine j_iconst (v := nI 1) dX11_keep_36 rfl ?_
  refine j_ireturn dX11_keep_37 rfl ?_
  exact ⟨rfl, rfl⟩

set_option maxHeartbeats 200000 in
set_option maxRecDepth 100000 in
theorem m_keep (hb : X 76 36 = nI nb) (hb50 : nb ≤ 50) {j : Nat} (hj : j < 6) {b : Nat} (hbn : b < nb) : jMet (d + 2) yX11_keep cX11_keep 3 (some .int) 0 0 [.ref 76, .int (nI j), .int (nI b)] (tw X A L) (jRi (nI 1) (tw X (va_up (va_up A 100 (upd (A 100) j (nI b))) 101 (upd (A 101) j (nI 0))) L)) := by
  refine jMet_of (by decide) (Nat.le_of_ble_eq_true rfl) none (Or.inl rfl) ?_
  show jWP none RX11 cX11_keep 3 (some .int) (d + 2) 0 0 0 [some (.ref 76), some (.int (nI j)), some (.int (nI b))] [] (tw X A L) (jRi (nI 1) (tw X (va_up (va_up A 100 (upd (A 100) j (nI b))) 101 (upd (A 101) j (nI 0))) L))
  refine j_iload_n dX11_keep_0 rfl rfl ?_
  refine j_callSi [.int _] [] dX11_keep_1 jlk_X11_124 rfl rfl (Nat.le_of_ble_eq_true rfl) (jMet_i m_isSh (isA_in hj (by decide)) rfl) ?_
  refine j_if_eq (tgt := 20) dX11_keep_4 (by decide) (fun h => absurd h (by decide)) (fun _ => ?_)
  refine j_iload_n dX11_keep_7 rfl rfl ?_
  refine j_iconst (v := (-1)) dX11_keep_8 rfl ?_
  refine j_icmp_eq (tgt := 22) dX11_keep_9 (by decide) (fun h9 => absurd h9 (nI_nm1 (by omega))) (fun h9 => ?_)
  refine j_aload_n dX11_keep_12 rfl rfl ?_
  refine j_iload_n dX11_keep_13 rfl rfl ?_
  refine j_callVi [.int _] [] dX11_keep_14 jlk_X11_363 rfl rfl rfl rfl (Nat.le_of_ble_eq_true rfl) (jMet_i (m_isBd hb hb50) (isA_in hbn (by omega)) rfl) ?_
  refine j_if_ne (tgt := 22) dX11_keep_17 (by decide) (fun _ => ?_) (fun h => absurd h (by decide))
  refine j_aload_n dX11_keep_22 rfl rfl ?_
  refine t_getR (b := 100) dX11_keep_23 jfl_X11_82 (fun _ _ _ => rfl) rfl ?_
  refine j_iload_n dX11_keep_26 rfl rfl ?_
  refine j_iload_n dX11_keep_27 rfl rfl ?_
  refine t_iastore dX11_keep_28 (fun _ _ _ => rfl) (by omega) (by decide) ?_
  refine j_aload_n dX11_keep_29 rfl rfl ?_
  refine t_getR (b := 101) dX11_keep_30 jfl_X11_85 (fun _ _ _ => rfl) rfl ?_
  refine j_iload_n dX11_keep_33 rfl rfl ?_
  refine j_iconst (v := nI 0) dX11_keep_34 rfl ?_
  refine t_iastore dX11_keep_35 (fun _ _ _ => rfl) (by omega) (by decide) ?_
  refine j_iconst (v := nI 1) dX11_keep_36 rfl ?_
  refine j_ireturn dX11_keep_37 rfl ?_
  exact ⟨rfl, rfl⟩

set_option maxHeartbeats 200000 in
set_option maxRecDepth 100000 in
theorem m_row_no {c s m : Int32} (h : isA 6 c = nI 0 ∨ so04 s = nI 0 ∨ nI 60 < m) : jMet (d + 2) yX11_row cX11_row 5 (some .int) 0 0 [.ref 76, .int c, .int s, .int m] (tw X A L) (jRi (-1) (tw X A L)) := by
  refine jMet_of (by decide) (Nat.le_of_ble_eq_true rfl) none (Or.inl rfl) ?_
  show jWP none RX11 cX11_row 5 (some .int) (d + 2) 0 0 0 [some (.ref 76), some (.int c), some (.int s), some (.int m), none] [] (tw X A L) (jRi (-1) (tw X A L))
  refine j_iload_n dX11_row_0 rfl rfl ?_
  refine j_callSi [.int _] [] dX11_row_1 jlk_X11_124 rfl rfl (Nat.le_of_ble_eq_true rfl) (m_isSh) ?_
  refine j_if_eq (tgt := 25) dX11_row_4 (by decide) (fun h4 => ?_) (fun h4 => ?_)
  · refine j_iconst (v := (-1)) dX11_row_25 rfl ?_
    refine j_ireturn dX11_row_26 rfl ?_
    exact ⟨rfl, rfl⟩
  · refine j_iload_n dX11_row_7 rfl rfl ?_
    refine j_i2l dX11_row_8 ?_
    refine j_lconst (v := 0) dX11_row_9 rfl ?_
    refine j_ldc2 dX11_row_10 jw_k_X11_366 ?_
    refine j_callSi [.long _, .long _, .long _] [] dX11_row_13 jlk_X11_111 rfl rfl (Nat.le_of_ble_eq_true rfl) (jMet_i m_within wi_04 rfl) ?_
    refine j_if_eq (tgt := 25) dX11_row_16 (by decide) (fun h16 => ?_) (fun h16 => ?_)
    · refine j_iconst (v := (-1)) dX11_row_25 rfl ?_
      refine j_ireturn dX11_row_26 rfl ?_
      exact ⟨rfl, rfl⟩
    · refine j_iload_n dX11_row_19 rfl rfl ?_
      refine j_bipush (v := nI 60) dX11_row_20 rfl ?_
      refine j_icmp_le (tgt := 27) dX11_row_22 (by decide) (fun h22 => ?_) (fun h22 => ?_)
      · exfalso
        rcases h with h | h | h
        · exact h4 h
        · exact h16 h
        · exact Int32.not_lt.mpr h22 h
      · refine j_iconst (v := (-1)) dX11_row_25 rfl ?_
        refine j_ireturn dX11_row_26 rfl ?_
        exact ⟨rfl, rfl⟩

set_option maxHeartbeats 200000 in
set_option maxRecDepth 100000 in
theorem m_row_neg {j : Nat} (hj : j < 6) {s m : Int32} (hs : so04 s ≠ nI 0) (hm : m < 0) : jMet (d + 2) yX11_row cX11_row 5 (some .int) 0 0 [.ref 76, .int (nI j), .int s, .int m] (tw X A L) (jRi (-14) (tw X A L)) := by
  refine jMet_of (by decide) (Nat.le_of_ble_eq_true rfl) none (Or.inl rfl) ?_
  show jWP none RX11 cX11_row 5 (some .int) (d + 2) 0 0 0 [some (.ref 76), some (.int (nI j)), some (.int s), some (.int m), none] [] (tw X A L) (jRi (-14) (tw X A L))
  refine j_iload_n dX11_row_0 rfl rfl ?_
  refine j_callSi [.int _] [] dX11_row_1 jlk_X11_124 rfl rfl (Nat.le_of_ble_eq_true rfl) (jMet_i m_isSh (isA_in hj (by decide)) rfl) ?_
  refine j_if_eq (tgt := 25) dX11_row_4 (by decide) (fun h => absurd h (by decide)) (fun _ => ?_)
  refine j_iload_n dX11_row_7 rfl rfl ?_
  refine j_i2l dX11_row_8 ?_
  refine j_lconst (v := 0) dX11_row_9 rfl ?_
  refine j_ldc2 dX11_row_10 jw_k_X11_366 ?_
  refine j_callSi [.long _, .long _, .long _] [] dX11_row_13 jlk_X11_111 rfl rfl (Nat.le_of_ble_eq_true rfl) (jMet_i m_within wi_04 rfl) ?_
  refine j_if_eq (tgt := 25) dX11_row_16 (by decide) (fun h16 => absurd h16 hs) (fun h16 => ?_)
  refine j_iload_n dX11_row_19 rfl rfl ?_
  refine j_bipush (v := nI 60) dX11_row_20 rfl ?_
  refine j_icmp_le (tgt := 27) dX11_row_22 (by decide) (fun h22 => ?_) (fun h22 => absurd (Int32.le_of_lt (Int32.lt_trans hm (by decide))) h22)
  refine j_iload_n dX11_row_27 rfl rfl ?_
  refine j_if_ge (tgt := 34) dX11_row_28 (by decide) (fun h28 => absurd hm (Int32.not_lt.mpr h28)) (fun h28 => ?_)
  refine j_bipush (v := (-14)) dX11_row_31 rfl ?_
  refine j_ireturn dX11_row_33 rfl ?_
  exact ⟨rfl, rfl⟩

set_option maxHeartbeats 200000 in
set_option maxRecDepth 100000 in
theorem l_row {j : Nat} (hj : j < 6) {s y : Int32} : ∀ (m i : Nat), 60 * j ≤ i → i ≤ 60 * j + 60 → 60 * j + 60 - i < m → jWP none RX11 cX11_row 5 (some .int) (d + 2) 0 0 57 [some (.ref 76), some (.int (nI j)), some (.int s), some (.int y), some (.int (nI i))] [] (tw X A (va_up L 102 (izF (L 102) (60 * j) i))) (jRi (nI 1) (tw X A (va_up L 102 (izF (L 102) (60 * j) (60 * j + 60))))) := by
  intro m
  induction m with
  | zero => intro i h1 h2 h3; omega
  | succ m ih =>
    intro i h1 h2 h3
    refine j_iload dX11_row_57 rfl ?_
    refine j_bipush (v := nI 60) dX11_row_59 rfl ?_
    refine j_iload_n dX11_row_61 rfl rfl ?_
    refine jn_imul dX11_row_62 ?_
    refine j_bipush (v := nI 60) dX11_row_63 rfl ?_
    refine jn_iadd dX11_row_65 ?_
    refine jn_icmp_ge (tgt := 83) dX11_row_66 (by decide) (by omega) (by omega) (fun h66 => ?_) (fun h66 => ?_)
    · refine j_iconst (v := nI 1) dX11_row_83 rfl ?_
      refine j_ireturn dX11_row_84 rfl ?_
      obtain rfl : i = 60 * j + 60 := by omega
      exact ⟨rfl, rfl⟩
    · refine j_aload_n dX11_row_69 rfl rfl ?_
      refine t_getR (b := 102) dX11_row_70 jfl_X11_88 (fun _ _ _ => rfl) rfl ?_
      refine j_iload dX11_row_73 rfl ?_
      refine j_lconst (v := 0) dX11_row_75 rfl ?_
      refine t_lastore dX11_row_76 (fun _ _ _ => rfl) (by omega) (by decide) ?_
      refine jn_iinc (lv' := [some (.ref 76), some (.int _), some (.int _), some (.int _), some (.int _)]) dX11_row_77 rfl (by decide) rfl ?_
      refine j_goto (tgt := 57) dX11_row_80 (by decide) ?_
      rw [vu_s, izF_s _ h1, vu_up]
      exact ih (i + 1) (by omega) (by omega) (by omega)

set_option maxHeartbeats 200000 in
set_option maxRecDepth 100000 in
theorem m_row {j : Nat} (hj : j < 6) {s m : Nat} (hs : s ≤ 4) (hm : m ≤ 60) : jMet (d + 2) yX11_row cX11_row 5 (some .int) 0 0 [.ref 76, .int (nI j), .int (nI s), .int (nI m)] (tw X A L) (jRi (nI 1) (tw X (va_up (va_up A 100 (upd (A 100) j (nI (50 + s)))) 101 (upd (A 101) j (nI m))) (va_up L 102 (izF (L 102) (60 * j) (60 * j + 60))))) := by
  refine jMet_of (by decide) (Nat.le_of_ble_eq_true rfl) none (Or.inl rfl) ?_
  show jWP none RX11 cX11_row 5 (some .int) (d + 2) 0 0 0 [some (.ref 76), some (.int (nI j)), some (.int (nI s)), some (.int (nI m)), none] [] (tw X A L) (jRi (nI 1) (tw X (va_up (va_up A 100 (upd (A 100) j (nI (50 + s)))) 101 (upd (A 101) j (nI m))) (va_up L 102 (izF (L 102) (60 * j) (60 * j + 60)))))
  refine j_iload_n dX11_row_0 rfl rfl ?_
  refine j_callSi [.int _] [] dX11_row_1 jlk_X11_124 rfl rfl (Nat.le_of_ble_eq_true rfl) (jMet_i m_isSh (isA_in hj (by decide)) rfl) ?_
  refine j_if_eq (tgt := 25) dX11_row_4 (by decide) (fun h => absurd h (by decide)) (fun _ => ?_)
  refine j_iload_n dX11_row_7 rfl rfl ?_
  refine j_i2l dX11_row_8 ?_
  refine j_lconst (v := 0) dX11_row_9 rfl ?_
  refine j_ldc2 dX11_row_10 jw_k_X11_366 ?_
  refine j_callSi [.long _, .long _, .long _] [] dX11_row_13 jlk_X11_111 rfl rfl (Nat.le_of_ble_eq_true rfl) (jMet_i m_within (wi_in hs (by decide) (by decide)) rfl) ?_
  refine j_if_eq (tgt := 25) dX11_row_16 (by decide) (fun h => absurd h (by decide)) (fun _ => ?_)
  refine j_iload_n dX11_row_19 rfl rfl ?_
  refine j_bipush (v := nI 60) dX11_row_20 rfl ?_
  refine jn_icmp_le (tgt := 27) dX11_row_22 (by decide) (by omega) (by omega) (fun h22 => ?_) (fun h22 => absurd h22 (by omega))
  refine j_iload_n dX11_row_27 rfl rfl ?_
  refine jn_if_ge (tgt := 34) dX11_row_28 (by decide) (by omega) ?_
  refine j_aload_n dX11_row_34 rfl rfl ?_
  refine t_getR (b := 100) dX11_row_35 jfl_X11_82 (fun _ _ _ => rfl) rfl ?_
  refine j_iload_n dX11_row_38 rfl rfl ?_
  refine j_bipush (v := nI 50) dX11_row_39 rfl ?_
  refine j_iload_n dX11_row_41 rfl rfl ?_
  refine jn_iadd dX11_row_42 ?_
  refine t_iastore dX11_row_43 (fun _ _ _ => rfl) (by omega) (by decide) ?_
  refine j_aload_n dX11_row_44 rfl rfl ?_
  refine t_getR (b := 101) dX11_row_45 jfl_X11_85 (fun _ _ _ => rfl) rfl ?_
  refine j_iload_n dX11_row_48 rfl rfl ?_
  refine j_iload_n dX11_row_49 rfl rfl ?_
  refine t_iastore dX11_row_50 (fun _ _ _ => rfl) (by omega) (by decide) ?_
  refine j_bipush (v := nI 60) dX11_row_51 rfl ?_
  refine j_iload_n dX11_row_53 rfl rfl ?_
  refine jn_imul dX11_row_54 ?_
  refine j_istore (lv' := [some (.ref 76), some (.int _), some (.int _), some (.int _), some (.int _)]) dX11_row_55 (by decide) rfl ?_
  have q := l_row (d := d) (X := X) (A := (va_up (va_up A 100 (upd (A 100) j (nI (50 + s)))) 101 (upd (A 101) j (nI m)))) (L := L) hj (s := nI s) (y := nI m) 61 (60 * j) (by omega) (by omega) (by omega)
  rw [izF_0, show va_up L 102 (L 102) = L from vu_self _ _] at q
  exact q

set_option maxHeartbeats 200000 in
set_option maxRecDepth 100000 in
theorem m_refusal_no {c i : Int32} (h : isA 6 c = nI 0) : jMet (d + 2) yX11_refusal cX11_refusal 3 (some .int) 0 0 [.ref 76, .int c, .int i] (tw X A L) (jRi (-1) (tw X A L)) := by
  refine jMet_of (by decide) (Nat.le_of_ble_eq_true rfl) none (Or.inl rfl) ?_
  show jWP none RX11 cX11_refusal 3 (some .int) (d + 2) 0 0 0 [some (.ref 76), some (.int c), some (.int i)] [] (tw X A L) (jRi (-1) (tw X A L))
  refine j_iload_n dX11_refusal_0 rfl rfl ?_
  refine j_callSi [.int _] [] dX11_refusal_1 jlk_X11_124 rfl rfl (Nat.le_of_ble_eq_true rfl) (m_isSh) ?_
  refine j_if_ne (tgt := 9) dX11_refusal_4 (by decide) (fun h4 => absurd h h4) (fun h4 => ?_)
  refine j_iconst (v := (-1)) dX11_refusal_7 rfl ?_
  refine j_ireturn dX11_refusal_8 rfl ?_
  exact ⟨rfl, rfl⟩

set_option maxHeartbeats 200000 in
set_option maxRecDepth 100000 in
theorem m_refusal_0 {j : Nat} (hj : j < 6) (hs : A 100 j = -1) {i : Int32} : jMet (d + 2) yX11_refusal cX11_refusal 3 (some .int) 0 0 [.ref 76, .int (nI j), .int i] (tw X A L) (jRi (-11) (tw X A L)) := by
  refine jMet_of (by decide) (Nat.le_of_ble_eq_true rfl) none (Or.inl rfl) ?_
  show jWP none RX11 cX11_refusal 3 (some .int) (d + 2) 0 0 0 [some (.ref 76), some (.int (nI j)), some (.int i)] [] (tw X A L) (jRi (-11) (tw X A L))
  refine j_iload_n dX11_refusal_0 rfl rfl ?_
  refine j_callSi [.int _] [] dX11_refusal_1 jlk_X11_124 rfl rfl (Nat.le_of_ble_eq_true rfl) (jMet_i m_isSh (isA_in hj (by decide)) rfl) ?_
  refine j_if_ne (tgt := 9) dX11_refusal_4 (by decide) (fun _ => ?_) (fun h => absurd h (by decide))
  refine j_aload_n dX11_refusal_9 rfl rfl ?_
  refine t_getR (b := 100) dX11_refusal_10 jfl_X11_82 (fun _ _ _ => rfl) rfl ?_
  refine j_iload_n dX11_refusal_13 rfl rfl ?_
  refine t_iaload dX11_refusal_14 (fun _ _ _ => rfl) (by omega) (by decide) ?_
  refine j_if_ge (tgt := 21) dX11_refusal_15 (by decide) (fun h15 => absurd h15 (by rw [hs]; decide)) (fun h15 => ?_)
  refine j_bipush (v := (-11)) dX11_refusal_18 rfl ?_
  refine j_ireturn dX11_refusal_20 rfl ?_
  exact ⟨rfl, rfl⟩

set_option maxHeartbeats 200000 in
set_option maxRecDepth 100000 in
theorem m_refusal_1 {j : Nat} (hj : j < 6) {b : Nat} (hs : A 100 j = nI b) (hb : b < 50) {i : Int32} : jMet (d + 2) yX11_refusal cX11_refusal 3 (some .int) 0 0 [.ref 76, .int (nI j), .int i] (tw X A L) (jRi (-12) (tw X A L)) := by
  refine jMet_of (by decide) (Nat.le_of_ble_eq_true rfl) none (Or.inl rfl) ?_
  show jWP none RX11 cX11_refusal 3 (some .int) (d + 2) 0 0 0 [some (.ref 76), some (.int (nI j)), some (.int i)] [] (tw X A L) (jRi (-12) (tw X A L))
  refine j_iload_n dX11_refusal_0 rfl rfl ?_
  refine j_callSi [.int _] [] dX11_refusal_1 jlk_X11_124 rfl rfl (Nat.le_of_ble_eq_true rfl) (jMet_i m_isSh (isA_in hj (by decide)) rfl) ?_
  refine j_if_ne (tgt := 9) dX11_refusal_4 (by decide) (fun _ => ?_) (fun h => absurd h (by decide))
  refine j_aload_n dX11_refusal_9 rfl rfl ?_
  refine t_getR (b := 100) dX11_refusal_10 jfl_X11_82 (fun _ _ _ => rfl) rfl ?_
  refine j_iload_n dX11_refusal_13 rfl rfl ?_
  refine t_iaload dX11_refusal_14 (fun _ _ _ => rfl) (by omega) (by decide) ?_
  refine j_topE (e' := nI b) hs ?_
  refine jn_if_ge (tgt := 21) dX11_refusal_15 (by decide) (by omega) ?_
  refine j_aload_n dX11_refusal_21 rfl rfl ?_
  refine t_getR (b := 100) dX11_refusal_22 jfl_X11_82 (fun _ _ _ => rfl) rfl ?_
  refine j_iload_n dX11_refusal_25 rfl rfl ?_
  refine t_iaload dX11_refusal_26 (fun _ _ _ => rfl) (by omega) (by decide) ?_
  refine j_topE (e' := nI b) hs ?_
  refine j_bipush (v := nI 50) dX11_refusal_27 rfl ?_
  refine jn_icmp_ge (tgt := 35) dX11_refusal_29 (by decide) (by omega) (by omega) (fun h29 => absurd h29 (by omega)) (fun h29 => ?_)
  refine j_bipush (v := (-12)) dX11_refusal_32 rfl ?_
  refine j_ireturn dX11_refusal_34 rfl ?_
  exact ⟨rfl, rfl⟩

set_option maxHeartbeats 200000 in
set_option maxRecDepth 100000 in
theorem m_refusal_2 {j : Nat} (hj : j < 6) {so ln : Nat} (hs : A 100 j = nI (50 + so)) (so4 : so ≤ 4) (hln : A 101 j = nI ln) (l60 : ln ≤ 60) {i : Int32} : jMet (d + 2) yX11_refusal cX11_refusal 3 (some .int) 0 0 [.ref 76, .int (nI j), .int i] (tw X A L) (jRi (if isA ln i = 0 then (-13) else nI 0) (tw X A L)) := by
  refine jMet_of (by decide) (Nat.le_of_ble_eq_true rfl) none (Or.inl rfl) ?_
  show jWP none RX11 cX11_refusal 3 (some .int) (d + 2) 0 0 0 [some (.ref 76), some (.int (nI j)), some (.int i)] [] (tw X A L) (jRi (if isA ln i = 0 then (-13) else nI 0) (tw X A L))
  refine j_iload_n dX11_refusal_0 rfl rfl ?_
  refine j_callSi [.int _] [] dX11_refusal_1 jlk_X11_124 rfl rfl (Nat.le_of_ble_eq_true rfl) (jMet_i m_isSh (isA_in hj (by decide)) rfl) ?_
  refine j_if_ne (tgt := 9) dX11_refusal_4 (by decide) (fun _ => ?_) (fun h => absurd h (by decide))
  refine j_aload_n dX11_refusal_9 rfl rfl ?_
  refine t_getR (b := 100) dX11_refusal_10 jfl_X11_82 (fun _ _ _ => rfl) rfl ?_
  refine j_iload_n dX11_refusal_13 rfl rfl ?_
  refine t_iaload dX11_refusal_14 (fun _ _ _ => rfl) (by omega) (by decide) ?_
  refine j_topE (e' := nI (50 + so)) hs ?_
  refine jn_if_ge (tgt := 21) dX11_refusal_15 (by decide) (by omega) ?_
  refine j_aload_n dX11_refusal_21 rfl rfl ?_
  refine t_getR (b := 100) dX11_refusal_22 jfl_X11_82 (fun _ _ _ => rfl) rfl ?_
  refine j_iload_n dX11_refusal_25 rfl rfl ?_
  refine t_iaload dX11_refusal_26 (fun _ _ _ => rfl) (by omega) (by decide) ?_
  refine j_topE (e' := nI (50 + so)) hs ?_
  refine j_bipush (v := nI 50) dX11_refusal_27 rfl ?_
  refine jn_icmp_ge (tgt := 35) dX11_refusal_29 (by decide) (by omega) (by omega) (fun h29 => ?_) (fun h29 => absurd h29 (by omega))
  refine j_iload_n dX11_refusal_35 rfl rfl ?_
  refine j_if_lt (tgt := 53) dX11_refusal_36 (by decide) (fun h36 => ?_) (fun h36 => ?_)
  · refine j_bipush (v := (-13)) dX11_refusal_53 rfl ?_
    refine j_ireturn dX11_refusal_55 rfl ?_
    refine ⟨congrArg (fun z => some (Value.int z)) ?_, rfl⟩
    unfold isA
    rw [if_pos h36, if_pos (by decide)]
  · refine j_iload_n dX11_refusal_39 rfl rfl ?_
    refine j_aload_n dX11_refusal_40 rfl rfl ?_
    refine t_getR (b := 101) dX11_refusal_41 jfl_X11_85 (fun _ _ _ => rfl) rfl ?_
    refine j_iload_n dX11_refusal_44 rfl rfl ?_
    refine t_iaload dX11_refusal_45 (fun _ _ _ => rfl) (by omega) (by decide) ?_
    refine j_topE (e' := nI ln) hln ?_
    refine j_icmp_ge (tgt := 53) dX11_refusal_46 (by decide) (fun h46 => ?_) (fun h46 => ?_)
    · refine j_bipush (v := (-13)) dX11_refusal_53 rfl ?_
      refine j_ireturn dX11_refusal_55 rfl ?_
      refine ⟨congrArg (fun z => some (Value.int z)) ?_, rfl⟩
      unfold isA
      rw [if_neg h36, if_pos h46, if_pos (by decide)]
    · refine j_iconst (v := nI 0) dX11_refusal_49 rfl ?_
      refine j_goto (tgt := 55) dX11_refusal_50 (by decide) ?_
      refine j_ireturn dX11_refusal_55 rfl ?_
      refine ⟨congrArg (fun z => some (Value.int z)) ?_, rfl⟩
      unfold isA
      rw [if_neg h36, if_neg h46, if_neg (by decide)]

theorem msh_0 {b so : Nat} : mshI 0 b so = -1 := rfl
theorem m_refusal {j : Nat} (hj : j < 6) {h b so ln : Nat} (hs : A 100 j = mshI h b so) (h2 : h ≤ 2) (hb50 : h = 1 → b < 50) (so4 : so ≤ 4) (hln : h = 2 → A 101 j = nI ln) (l60 : ln ≤ 60) {i : Int32} : jMet (d + 2) yX11_refusal cX11_refusal 3 (some .int) 0 0 [.ref 76, .int (nI j), .int i] (tw X A L) (jRi (pfI h ln i) (tw X A L)) := by
  rcases (show h = 0 ∨ h = 1 ∨ h = 2 by omega) with rfl | rfl | rfl
  · exact m_refusal_0 hj hs
  · exact m_refusal_1 hj hs (hb50 rfl)
  · exact m_refusal_2 hj hs so4 (hln rfl) l60

set_option maxHeartbeats 200000 in
set_option maxRecDepth 100000 in
theorem m_asSort {s : Nat} (hs : s ≤ 4) {y : Int64} : jMet (d) yX11_asSort cX11_asSort 3 (some .long) 0 0 [.int (nI s), .long y] (w) (jRl (lbJ s y) w) := by
  refine jMet_of (by decide) (Nat.le_of_ble_eq_true rfl) none (Or.inl rfl) ?_
  show jWP none RX11 cX11_asSort 3 (some .long) (d) 0 0 0 [some (.int (nI s)), some (.long y), none] [] (w) (jRl (lbJ s y) w)
  refine j_iload_n dX11_asSort_0 rfl rfl ?_
  refine jn_if_ne (tgt := 11) dX11_asSort_1 (by decide) (by omega) (fun h1 => ?_) (fun h1 => ?_)
  · refine j_iload_n dX11_asSort_11 rfl rfl ?_
    refine j_iconst (v := nI 1) dX11_asSort_12 rfl ?_
    refine jn_icmp_ne (tgt := 23) dX11_asSort_13 (by decide) (by omega) (by omega) (fun h13 => ?_) (fun h13 => ?_)
    · refine j_iload_n dX11_asSort_23 rfl rfl ?_
      refine j_iconst (v := nI 2) dX11_asSort_24 rfl ?_
      refine jn_icmp_ne (tgt := 34) dX11_asSort_25 (by decide) (by omega) (by omega) (fun h25 => ?_) (fun h25 => ?_)
      · refine j_iload_n dX11_asSort_34 rfl rfl ?_
        refine j_iconst (v := nI 4) dX11_asSort_35 rfl ?_
        refine jn_icmp_ne (tgt := 53) dX11_asSort_36 (by decide) (by omega) (by omega) (fun h36 => ?_) (fun h36 => ?_)
        · refine j_lload_n dX11_asSort_53 rfl rfl ?_
          refine j_lreturn dX11_asSort_54 rfl ?_
          obtain rfl : s = 3 := by omega
          exact ⟨rfl, rfl⟩
        · refine j_lload_n dX11_asSort_39 rfl rfl ?_
          refine j_lconst (v := 0) dX11_asSort_40 rfl ?_
          refine j_lcmp dX11_asSort_41 ?_
          refine j_if_eq (tgt := 49) dX11_asSort_42 (by decide) (fun h42 => ?_) (fun h42 => ?_)
          · refine j_lconst (v := 0) dX11_asSort_49 rfl ?_
            refine j_goto (tgt := 54) dX11_asSort_50 (by decide) ?_
            refine j_lreturn dX11_asSort_54 rfl ?_
            obtain rfl : s = 4 := by omega
            refine ⟨congrArg (fun z => some (Value.long z)) ?_, rfl⟩
            show _ = if y = 0 then (0 : Int64) else 1
            rw [if_pos (lcmp0.mp (by first | exact h42 | simpa using h42))]
          · refine j_lconst (v := 1) dX11_asSort_45 rfl ?_
            refine j_goto (tgt := 54) dX11_asSort_46 (by decide) ?_
            refine j_lreturn dX11_asSort_54 rfl ?_
            obtain rfl : s = 4 := by omega
            refine ⟨congrArg (fun z => some (Value.long z)) ?_, rfl⟩
            show _ = if y = 0 then (0 : Int64) else 1
            rw [if_neg (fun q => h42 (lcmp0.mpr q))]
      · refine j_lload_n dX11_asSort_28 rfl rfl ?_
        refine j_l2i dX11_asSort_29 ?_
        refine j_i2l dX11_asSort_30 ?_
        refine j_goto (tgt := 54) dX11_asSort_31 (by decide) ?_
        refine j_lreturn dX11_asSort_54 rfl ?_
        obtain rfl : s = 2 := by omega
        exact ⟨rfl, rfl⟩
    · refine j_lload_n dX11_asSort_16 rfl rfl ?_
      refine j_l2i dX11_asSort_17 ?_
      refine j_i2s dX11_asSort_18 ?_
      refine j_i2l dX11_asSort_19 ?_
      refine j_goto (tgt := 54) dX11_asSort_20 (by decide) ?_
      refine j_lreturn dX11_asSort_54 rfl ?_
      obtain rfl : s = 1 := by omega
      exact ⟨rfl, rfl⟩
  · refine j_lload_n dX11_asSort_4 rfl rfl ?_
    refine j_l2i dX11_asSort_5 ?_
    refine j_i2b dX11_asSort_6 ?_
    refine j_i2l dX11_asSort_7 ?_
    refine j_goto (tgt := 54) dX11_asSort_8 (by decide) ?_
    refine j_lreturn dX11_asSort_54 rfl ?_
    obtain rfl : s = 0 := by omega
    exact ⟨rfl, rfl⟩

set_option maxHeartbeats 200000 in
set_option maxRecDepth 100000 in
theorem m_put_no {c i : Int32} {y : Int64} (h : isA 6 c = nI 0) : jMet (d + 3) yX11_put cX11_put 6 (some .int) 0 0 [.ref 76, .int c, .int i, .long y] (tw X A L) (jRi (-1) (tw X A L)) := by
  refine jMet_of (by decide) (Nat.le_of_ble_eq_true rfl) none (Or.inl rfl) ?_
  show jWP none RX11 cX11_put 6 (some .int) (d + 3) 0 0 0 [some (.ref 76), some (.int c), some (.int i), some (.long y), none, none] [] (tw X A L) (jRi (-1) (tw X A L))
  refine j_aload_n dX11_put_0 rfl rfl ?_
  refine j_iload_n dX11_put_1 rfl rfl ?_
  refine j_iload_n dX11_put_2 rfl rfl ?_
  refine j_callVi [.int _, .int _] [] dX11_put_3 jlk_X11_368 rfl rfl rfl rfl (Nat.le_of_ble_eq_true rfl) (m_refusal_no h) ?_
  refine j_istore (lv' := [some (.ref 76), some (.int _), some (.int _), some (.long _), none, some (.int _)]) dX11_put_6 (by decide) rfl ?_
  refine j_iload dX11_put_8 rfl ?_
  refine j_if_ne (tgt := 37) dX11_put_10 (by decide) (fun h10 => ?_) (fun h10 => absurd (show (-1 : Int32) = 0 from by first | exact h10 | simpa using h10) (by decide))
  refine j_iload dX11_put_37 rfl ?_
  refine j_if_ne (tgt := 46) dX11_put_39 (by decide) (fun h39 => ?_) (fun h39 => absurd (show (-1 : Int32) = 0 from by first | exact h39 | simpa using h39) (by decide))
  refine j_iload dX11_put_46 rfl ?_
  refine j_ireturn dX11_put_48 rfl ?_
  exact ⟨rfl, rfl⟩

set_option maxHeartbeats 200000 in
set_option maxRecDepth 100000 in
theorem m_put_f {j : Nat} (hj : j < 6) {h b so ln : Nat} (hs : A 100 j = mshI h b so) (h2 : h ≤ 2) (hb50 : h = 1 → b < 50) (so4 : so ≤ 4) (hln : h = 2 → A 101 j = nI ln) (l60 : ln ≤ 60) {i : Int32} {y : Int64} (hf : pfI h ln i ≠ 0) : jMet (d + 3) yX11_put cX11_put 6 (some .int) 0 0 [.ref 76, .int (nI j), .int i, .long y] (tw X A L) (jRi (pfI h ln i) (tw X A L)) := by
  refine jMet_of (by decide) (Nat.le_of_ble_eq_true rfl) none (Or.inl rfl) ?_
  show jWP none RX11 cX11_put 6 (some .int) (d + 3) 0 0 0 [some (.ref 76), some (.int (nI j)), some (.int i), some (.long y), none, none] [] (tw X A L) (jRi (pfI h ln i) (tw X A L))
  refine j_aload_n dX11_put_0 rfl rfl ?_
  refine j_iload_n dX11_put_1 rfl rfl ?_
  refine j_iload_n dX11_put_2 rfl rfl ?_
  refine j_callVi [.int _, .int _] [] dX11_put_3 jlk_X11_368 rfl rfl rfl rfl (Nat.le_of_ble_eq_true rfl) (m_refusal hj hs h2 hb50 so4 hln l60) ?_
  refine j_istore (lv' := [some (.ref 76), some (.int _), some (.int _), some (.long _), none, some (.int _)]) dX11_put_6 (by decide) rfl ?_
  refine j_iload dX11_put_8 rfl ?_
  refine j_if_ne (tgt := 37) dX11_put_10 (by decide) (fun h10 => ?_) (fun h10 => absurd (by first | exact h10 | simpa using h10) hf)
  refine j_iload dX11_put_37 rfl ?_
  refine j_if_ne (tgt := 46) dX11_put_39 (by decide) (fun h39 => ?_) (fun h39 => absurd (by first | exact h39 | simpa using h39) hf)
  refine j_iload dX11_put_46 rfl ?_
  refine j_ireturn dX11_put_48 rfl ?_
  exact ⟨rfl, rfl⟩

set_option maxHeartbeats 200000 in
set_option maxRecDepth 100000 in
theorem m_put {j : Nat} (hj : j < 6) {so ln : Nat} (hs : A 100 j = nI (50 + so)) (so4 : so ≤ 4) (hln : A 101 j = nI ln) (l60 : ln ≤ 60) {i : Nat} (hi : i < ln) {y : Int64} : jMet (d + 3) yX11_put cX11_put 6 (some .int) 0 0 [.ref 76, .int (nI j), .int (nI i), .long y] (tw X A L) (jRi (nI 1) (tw X A (va_up L 102 (vp_updL (L 102) (60 * j + i) (lbJ so y))))) := by
  refine jMet_of (by decide) (Nat.le_of_ble_eq_true rfl) none (Or.inl rfl) ?_
  show jWP none RX11 cX11_put 6 (some .int) (d + 3) 0 0 0 [some (.ref 76), some (.int (nI j)), some (.int (nI i)), some (.long y), none, none] [] (tw X A L) (jRi (nI 1) (tw X A (va_up L 102 (vp_updL (L 102) (60 * j + i) (lbJ so y)))))
  refine j_aload_n dX11_put_0 rfl rfl ?_
  refine j_iload_n dX11_put_1 rfl rfl ?_
  refine j_iload_n dX11_put_2 rfl rfl ?_
  refine j_callVi [.int _, .int _] [] dX11_put_3 jlk_X11_368 rfl rfl rfl rfl (Nat.le_of_ble_eq_true rfl) (jMet_i (m_refusal_2 hj hs so4 hln l60) (by rw [isA_in hi l60]) rfl) ?_
  refine j_istore (lv' := [some (.ref 76), some (.int _), some (.int _), some (.long _), none, some (.int _)]) dX11_put_6 (by decide) rfl ?_
  refine j_iload dX11_put_8 rfl ?_
  refine j_if_ne (tgt := 37) dX11_put_10 (by decide) (fun h => absurd (by decide) h) (fun _ => ?_)
  refine j_aload_n dX11_put_13 rfl rfl ?_
  refine t_getR (b := 102) dX11_put_14 jfl_X11_88 (fun _ _ _ => rfl) rfl ?_
  refine j_bipush (v := nI 60) dX11_put_17 rfl ?_
  refine j_iload_n dX11_put_19 rfl rfl ?_
  refine jn_imul dX11_put_20 ?_
  refine j_iload_n dX11_put_21 rfl rfl ?_
  refine jn_iadd dX11_put_22 ?_
  refine j_aload_n dX11_put_23 rfl rfl ?_
  refine t_getR (b := 100) dX11_put_24 jfl_X11_82 (fun _ _ _ => rfl) rfl ?_
  refine j_iload_n dX11_put_27 rfl rfl ?_
  refine t_iaload dX11_put_28 (fun _ _ _ => rfl) (by omega) (by decide) ?_
  refine j_topE (e' := nI (50 + so)) hs ?_
  refine j_bipush (v := nI 50) dX11_put_29 rfl ?_
  refine jn_isub dX11_put_31 (by omega) ?_
  refine j_lload_n dX11_put_32 rfl rfl ?_
  refine j_ats (st' := [.long y, .int (nI so), .int (nI (60 * j + i)), .ref 102]) (by rw [Nat.add_sub_cancel_left]) ?_
  refine j_callSl [.int _, .long _] [.int _, .ref 102] dX11_put_33 jlk_X11_371 rfl rfl (Nat.le_of_ble_eq_true rfl) (m_asSort (s := so) so4) ?_
  refine t_lastore dX11_put_36 (fun _ _ _ => rfl) (by omega) (by decide) ?_
  refine j_iload dX11_put_37 rfl ?_
  refine j_if_ne (tgt := 46) dX11_put_39 (by decide) (fun h => absurd (by decide) h) (fun _ => ?_)
  refine j_iconst (v := nI 1) dX11_put_42 rfl ?_
  refine j_goto (tgt := 48) dX11_put_43 (by decide) ?_
  refine j_ireturn dX11_put_48 rfl ?_
  exact ⟨rfl, rfl⟩

set_option maxHeartbeats 200000 in
set_option maxRecDepth 100000 in
theorem m_element_no {c i : Int32} (h : isA 6 c = nI 0) : jMet (d + 3) yX11_element cX11_element 3 (some .long) 0 0 [.ref 76, .int c, .int i] (tw X A L) (jRl (-9223372036854775808) (tw X A L)) := by
  refine jMet_of (by decide) (Nat.le_of_ble_eq_true rfl) none (Or.inl rfl) ?_
  show jWP none RX11 cX11_element 3 (some .long) (d + 3) 0 0 0 [some (.ref 76), some (.int c), some (.int i)] [] (tw X A L) (jRl (-9223372036854775808) (tw X A L))
  refine j_aload_n dX11_element_0 rfl rfl ?_
  refine j_iload_n dX11_element_1 rfl rfl ?_
  refine j_iload_n dX11_element_2 rfl rfl ?_
  refine j_callVi [.int _, .int _] [] dX11_element_3 jlk_X11_368 rfl rfl rfl rfl (Nat.le_of_ble_eq_true rfl) (m_refusal_no h) ?_
  refine j_if_eq (tgt := 15) dX11_element_6 (by decide) (fun h6 => absurd h6 (by decide)) (fun h6 => ?_)
  refine j_ldc2 dX11_element_9 jw_k_X11_278 ?_
  refine j_goto (tgt := 26) dX11_element_12 (by decide) ?_
  refine j_lreturn dX11_element_26 rfl ?_
  exact ⟨rfl, rfl⟩

set_option maxHeartbeats 200000 in
set_option maxRecDepth 100000 in
theorem m_element_f {j : Nat} (hj : j < 6) {h b so ln : Nat} (hs : A 100 j = mshI h b so) (h2 : h ≤ 2) (hb50 : h = 1 → b < 50) (so4 : so ≤ 4) (hln : h = 2 → A 101 j = nI ln) (l60 : ln ≤ 60) {i : Int32} (hf : pfI h ln i ≠ 0) : jMet (d + 3) yX11_element cX11_element 3 (some .long) 0 0 [.ref 76, .int (nI j), .int i] (tw X A L) (jRl (-9223372036854775808) (tw X A L)) := by
  refine jMet_of (by decide) (Nat.le_of_ble_eq_true rfl) none (Or.inl rfl) ?_
  show jWP none RX11 cX11_element 3 (some .long) (d + 3) 0 0 0 [some (.ref 76), some (.int (nI j)), some (.int i)] [] (tw X A L) (jRl (-9223372036854775808) (tw X A L))
  refine j_aload_n dX11_element_0 rfl rfl ?_
  refine j_iload_n dX11_element_1 rfl rfl ?_
  refine j_iload_n dX11_element_2 rfl rfl ?_
  refine j_callVi [.int _, .int _] [] dX11_element_3 jlk_X11_368 rfl rfl rfl rfl (Nat.le_of_ble_eq_true rfl) (m_refusal hj hs h2 hb50 so4 hln l60) ?_
  refine j_if_eq (tgt := 15) dX11_element_6 (by decide) (fun h6 => absurd h6 hf) (fun h6 => ?_)
  refine j_ldc2 dX11_element_9 jw_k_X11_278 ?_
  refine j_goto (tgt := 26) dX11_element_12 (by decide) ?_
  refine j_lreturn dX11_element_26 rfl ?_
  exact ⟨rfl, rfl⟩

set_option maxHeartbeats 200000 in
set_option maxRecDepth 100000 in
theorem m_element {j : Nat} (hj : j < 6) {so ln : Nat} (hs : A 100 j = nI (50 + so)) (so4 : so ≤ 4) (hln : A 101 j = nI ln) (l60 : ln ≤ 60) {i : Nat} (hi : i < ln) : jMet (d + 3) yX11_element cX11_element 3 (some .long) 0 0 [.ref 76, .int (nI j), .int (nI i)] (tw X A L) (jRl (L 102 (60 * j + i)) (tw X A L)) := by
  refine jMet_of (by decide) (Nat.le_of_ble_eq_true rfl) none (Or.inl rfl) ?_
  show jWP none RX11 cX11_element 3 (some .long) (d + 3) 0 0 0 [some (.ref 76), some (.int (nI j)), some (.int (nI i))] [] (tw X A L) (jRl (L 102 (60 * j + i)) (tw X A L))
  refine j_aload_n dX11_element_0 rfl rfl ?_
  refine j_iload_n dX11_element_1 rfl rfl ?_
  refine j_iload_n dX11_element_2 rfl rfl ?_
  refine j_callVi [.int _, .int _] [] dX11_element_3 jlk_X11_368 rfl rfl rfl rfl (Nat.le_of_ble_eq_true rfl) (jMet_i (m_refusal_2 hj hs so4 hln l60) (by rw [isA_in hi l60]) rfl) ?_
  refine j_if_eq (tgt := 15) dX11_element_6 (by decide) (fun _ => ?_) (fun h => absurd (by decide) h)
  refine j_aload_n dX11_element_15 rfl rfl ?_
  refine t_getR (b := 102) dX11_element_16 jfl_X11_88 (fun _ _ _ => rfl) rfl ?_
  refine j_bipush (v := nI 60) dX11_element_19 rfl ?_
  refine j_iload_n dX11_element_21 rfl rfl ?_
  refine jn_imul dX11_element_22 ?_
  refine j_iload_n dX11_element_23 rfl rfl ?_
  refine jn_iadd dX11_element_24 ?_
  refine t_laload dX11_element_25 (fun _ _ _ => rfl) (by omega) (by decide) ?_
  refine j_lreturn dX11_element_26 rfl ?_
  exact ⟨rfl, rfl⟩

end CT44