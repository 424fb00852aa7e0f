section CT45
variable {d : Nat} {X A : Nat → Nat → Int32} {L : Nat → Nat → Int64} {w : jW} {na nb : Nat} {v kd : Nat → Nat}

set_option maxHeartbeats 200000 in
set_option maxRecDepth 100000 in
theorem m_shift_no {c e i j m : Int32} (h : isA 6 c = nI 0 ∨ isA 6 e = nI 0) : jMet (d + 2) yX11_shift cX11_shift 7 (some .int) 0 0 [.ref 76, .int c, .int i, .int e, .int j, .int m] (tw X A L) (jRi (-1) (tw X A L)) := by
  refine jMet_of (by decide) (Nat.le_of_ble_eq_true rfl) none (Or.inl rfl) ?_
  show jWP none RX11 cX11_shift 7 (some .int) (d + 2) 0 0 0 [some (.ref 76), some (.int c), some (.int i), some (.int e), some (.int j), some (.int m), none] [] (tw X A L) (jRi (-1) (tw X A L))
  refine j_iload_n dX11_shift_0 rfl rfl ?_
  refine j_callSi [.int _] [] dX11_shift_1 jlk_X11_124 rfl rfl (Nat.le_of_ble_eq_true rfl) (m_isSh) ?_
  refine j_if_eq (tgt := 14) dX11_shift_4 (by decide) (fun h4 => ?_) (fun h4 => ?_)
  · refine j_iconst (v := (-1)) dX11_shift_14 rfl ?_
    refine j_ireturn dX11_shift_15 rfl ?_
    exact ⟨rfl, rfl⟩
  · refine j_iload_n dX11_shift_7 rfl rfl ?_
    refine j_callSi [.int _] [] dX11_shift_8 jlk_X11_124 rfl rfl (Nat.le_of_ble_eq_true rfl) (m_isSh) ?_
    refine j_if_ne (tgt := 16) dX11_shift_11 (by decide) (fun h11 => ?_) (fun h11 => ?_)
    · exact absurd h (fun q => q.elim h4 h11)
    · refine j_iconst (v := (-1)) dX11_shift_14 rfl ?_
      refine j_ireturn dX11_shift_15 rfl ?_
      exact ⟨rfl, rfl⟩

set_option maxHeartbeats 200000 in
set_option maxRecDepth 100000 in
theorem m_shift_0 {a e : Nat} (ha : a < 6) (he : e < 6) {i j m : Int32} (h : A 100 a < 0 ∨ A 100 e < 0) : jMet (d + 2) yX11_shift cX11_shift 7 (some .int) 0 0 [.ref 76, .int (nI a), .int i, .int (nI e), .int j, .int m] (tw X A L) (jRi (-11) (tw X A L)) := by
  refine jMet_of (by decide) (Nat.le_of_ble_eq_true rfl) none (Or.inl rfl) ?_
  show jWP none RX11 cX11_shift 7 (some .int) (d + 2) 0 0 0 [some (.ref 76), some (.int (nI a)), some (.int i), some (.int (nI e)), some (.int j), some (.int m), none] [] (tw X A L) (jRi (-11) (tw X A L))
  refine j_iload_n dX11_shift_0 rfl rfl ?_
  refine j_callSi [.int _] [] dX11_shift_1 jlk_X11_124 rfl rfl (Nat.le_of_ble_eq_true rfl) (jMet_i m_isSh (isA_in ha (by decide)) rfl) ?_
  refine j_if_eq (tgt := 14) dX11_shift_4 (by decide) (fun h => absurd h (by decide)) (fun _ => ?_)
  refine j_iload_n dX11_shift_7 rfl rfl ?_
  refine j_callSi [.int _] [] dX11_shift_8 jlk_X11_124 rfl rfl (Nat.le_of_ble_eq_true rfl) (jMet_i m_isSh (isA_in he (by decide)) rfl) ?_
  refine j_if_ne (tgt := 16) dX11_shift_11 (by decide) (fun _ => ?_) (fun h => absurd h (by decide))
  refine j_aload_n dX11_shift_16 rfl rfl ?_
  refine t_getR (b := 100) dX11_shift_17 jfl_X11_82 (fun _ _ _ => rfl) rfl ?_
  refine j_iload_n dX11_shift_20 rfl rfl ?_
  refine t_iaload dX11_shift_21 (fun _ _ _ => rfl) (by omega) (by decide) ?_
  refine j_if_lt (tgt := 34) dX11_shift_22 (by decide) (fun h22 => ?_) (fun h22 => ?_)
  · refine j_bipush (v := (-11)) dX11_shift_34 rfl ?_
    refine j_ireturn dX11_shift_36 rfl ?_
    exact ⟨rfl, rfl⟩
  · refine j_aload_n dX11_shift_25 rfl rfl ?_
    refine t_getR (b := 100) dX11_shift_26 jfl_X11_82 (fun _ _ _ => rfl) rfl ?_
    refine j_iload_n dX11_shift_29 rfl rfl ?_
    refine t_iaload dX11_shift_30 (fun _ _ _ => rfl) (by omega) (by decide) ?_
    refine j_if_ge (tgt := 37) dX11_shift_31 (by decide) (fun h31 => ?_) (fun h31 => ?_)
    · exact absurd h (fun q => q.elim h22 (Int32.not_lt.mpr h31))
    · refine j_bipush (v := (-11)) dX11_shift_34 rfl ?_
      refine j_ireturn dX11_shift_36 rfl ?_
      exact ⟨rfl, rfl⟩

set_option maxHeartbeats 200000 in
set_option maxRecDepth 100000 in
theorem m_shift_12 {a e : Nat} (ha : a < 6) (he : e < 6) {i j m : Int32} (h1 : ¬ A 100 a < 0) (h2 : ¬ A 100 e < 0) (h : A 100 a < nI 50 ∨ A 100 a ≠ A 100 e) : jMet (d + 2) yX11_shift cX11_shift 7 (some .int) 0 0 [.ref 76, .int (nI a), .int i, .int (nI e), .int j, .int m] (tw X A L) (jRi (-12) (tw X A L)) := by
  refine jMet_of (by decide) (Nat.le_of_ble_eq_true rfl) none (Or.inl rfl) ?_
  show jWP none RX11 cX11_shift 7 (some .int) (d + 2) 0 0 0 [some (.ref 76), some (.int (nI a)), some (.int i), some (.int (nI e)), some (.int j), some (.int m), none] [] (tw X A L) (jRi (-12) (tw X A L))
  refine j_iload_n dX11_shift_0 rfl rfl ?_
  refine j_callSi [.int _] [] dX11_shift_1 jlk_X11_124 rfl rfl (Nat.le_of_ble_eq_true rfl) (jMet_i m_isSh (isA_in ha (by decide)) rfl) ?_
  refine j_if_eq (tgt := 14) dX11_shift_4 (by decide) (fun h => absurd h (by decide)) (fun _ => ?_)
  refine j_iload_n dX11_shift_7 rfl rfl ?_
  refine j_callSi [.int _] [] dX11_shift_8 jlk_X11_124 rfl rfl (Nat.le_of_ble_eq_true rfl) (jMet_i m_isSh (isA_in he (by decide)) rfl) ?_
  refine j_if_ne (tgt := 16) dX11_shift_11 (by decide) (fun _ => ?_) (fun h => absurd h (by decide))
  refine j_aload_n dX11_shift_16 rfl rfl ?_
  refine t_getR (b := 100) dX11_shift_17 jfl_X11_82 (fun _ _ _ => rfl) rfl ?_
  refine j_iload_n dX11_shift_20 rfl rfl ?_
  refine t_iaload dX11_shift_21 (fun _ _ _ => rfl) (by omega) (by decide) ?_
  refine j_if_lt (tgt := 34) dX11_shift_22 (by decide) (fun h22 => absurd h22 h1) (fun h22 => ?_)
  refine j_aload_n dX11_shift_25 rfl rfl ?_
  refine t_getR (b := 100) dX11_shift_26 jfl_X11_82 (fun _ _ _ => rfl) rfl ?_
  refine j_iload_n dX11_shift_29 rfl rfl ?_
  refine t_iaload dX11_shift_30 (fun _ _ _ => rfl) (by omega) (by decide) ?_
  refine j_if_ge (tgt := 37) dX11_shift_31 (by decide) (fun h31 => ?_) (fun h31 => absurd (Int32.not_le.mp h31) h2)
  refine j_aload_n dX11_shift_37 rfl rfl ?_
  refine t_getR (b := 100) dX11_shift_38 jfl_X11_82 (fun _ _ _ => rfl) rfl ?_
  refine j_iload_n dX11_shift_41 rfl rfl ?_
  refine t_iaload dX11_shift_42 (fun _ _ _ => rfl) (by omega) (by decide) ?_
  refine j_bipush (v := nI 50) dX11_shift_43 rfl ?_
  refine j_icmp_lt (tgt := 63) dX11_shift_45 (by decide) (fun h45 => ?_) (fun h45 => ?_)
  · refine j_bipush (v := (-12)) dX11_shift_63 rfl ?_
    refine j_ireturn dX11_shift_65 rfl ?_
    exact ⟨rfl, rfl⟩
  · refine j_aload_n dX11_shift_48 rfl rfl ?_
    refine t_getR (b := 100) dX11_shift_49 jfl_X11_82 (fun _ _ _ => rfl) rfl ?_
    refine j_iload_n dX11_shift_52 rfl rfl ?_
    refine t_iaload dX11_shift_53 (fun _ _ _ => rfl) (by omega) (by decide) ?_
    refine j_aload_n dX11_shift_54 rfl rfl ?_
    refine t_getR (b := 100) dX11_shift_55 jfl_X11_82 (fun _ _ _ => rfl) rfl ?_
    refine j_iload_n dX11_shift_58 rfl rfl ?_
    refine t_iaload dX11_shift_59 (fun _ _ _ => rfl) (by omega) (by decide) ?_
    refine j_icmp_eq (tgt := 66) dX11_shift_60 (by decide) (fun h60 => ?_) (fun h60 => ?_)
    · exact absurd h (fun q => q.elim h45 (fun q => q (by first | exact h60 | simpa using h60)))
    · refine j_bipush (v := (-12)) dX11_shift_63 rfl ?_
      refine j_ireturn dX11_shift_65 rfl ?_
      exact ⟨rfl, rfl⟩

set_option maxHeartbeats 200000 in
set_option maxRecDepth 100000 in
theorem m_shift_13 {a e : Nat} (ha : a < 6) (he : e < 6) {so la le : Nat} (hsa : A 100 a = nI (50 + so)) (hse : A 100 e = nI (50 + so)) (so4 : so ≤ 4) (hla : A 101 a = nI la) (la60 : la ≤ 60) (hle : A 101 e = nI le) (le60 : le ≤ 60) {i j m : Int32} (h : m < 0 ∨ i < 0 ∨ j < 0 ∨ nI la - m < i ∨ nI le - m < j) : jMet (d + 2) yX11_shift cX11_shift 7 (some .int) 0 0 [.ref 76, .int (nI a), .int i, .int (nI e), .int j, .int m] (tw X A L) (jRi (-13) (tw X A L)) := by
  refine jMet_of (by decide) (Nat.le_of_ble_eq_true rfl) none (Or.inl rfl) ?_
  show jWP none RX11 cX11_shift 7 (some .int) (d + 2) 0 0 0 [some (.ref 76), some (.int (nI a)), some (.int i), some (.int (nI e)), some (.int j), some (.int m), none] [] (tw X A L) (jRi (-13) (tw X A L))
  refine j_iload_n dX11_shift_0 rfl rfl ?_
  refine j_callSi [.int _] [] dX11_shift_1 jlk_X11_124 rfl rfl (Nat.le_of_ble_eq_true rfl) (jMet_i m_isSh (isA_in ha (by decide)) rfl) ?_
  refine j_if_eq (tgt := 14) dX11_shift_4 (by decide) (fun h => absurd h (by decide)) (fun _ => ?_)
  refine j_iload_n dX11_shift_7 rfl rfl ?_
  refine j_callSi [.int _] [] dX11_shift_8 jlk_X11_124 rfl rfl (Nat.le_of_ble_eq_true rfl) (jMet_i m_isSh (isA_in he (by decide)) rfl) ?_
  refine j_if_ne (tgt := 16) dX11_shift_11 (by decide) (fun _ => ?_) (fun h => absurd h (by decide))
  refine j_aload_n dX11_shift_16 rfl rfl ?_
  refine t_getR (b := 100) dX11_shift_17 jfl_X11_82 (fun _ _ _ => rfl) rfl ?_
  refine j_iload_n dX11_shift_20 rfl rfl ?_
  refine t_iaload dX11_shift_21 (fun _ _ _ => rfl) (by omega) (by decide) ?_
  refine j_topE (e' := nI (50 + so)) hsa ?_
  refine jn_if_lt (tgt := 34) dX11_shift_22 (by decide) (by omega) ?_
  refine j_aload_n dX11_shift_25 rfl rfl ?_
  refine t_getR (b := 100) dX11_shift_26 jfl_X11_82 (fun _ _ _ => rfl) rfl ?_
  refine j_iload_n dX11_shift_29 rfl rfl ?_
  refine t_iaload dX11_shift_30 (fun _ _ _ => rfl) (by omega) (by decide) ?_
  refine j_topE (e' := nI (50 + so)) hse ?_
  refine jn_if_ge (tgt := 37) dX11_shift_31 (by decide) (by omega) ?_
  refine j_aload_n dX11_shift_37 rfl rfl ?_
  refine t_getR (b := 100) dX11_shift_38 jfl_X11_82 (fun _ _ _ => rfl) rfl ?_
  refine j_iload_n dX11_shift_41 rfl rfl ?_
  refine t_iaload dX11_shift_42 (fun _ _ _ => rfl) (by omega) (by decide) ?_
  refine j_topE (e' := nI (50 + so)) hsa ?_
  refine j_bipush (v := nI 50) dX11_shift_43 rfl ?_
  refine jn_icmp_lt (tgt := 63) dX11_shift_45 (by decide) (by omega) (by omega) (fun h45 => absurd h45 (by omega)) (fun h45 => ?_)
  refine j_aload_n dX11_shift_48 rfl rfl ?_
  refine t_getR (b := 100) dX11_shift_49 jfl_X11_82 (fun _ _ _ => rfl) rfl ?_
  refine j_iload_n dX11_shift_52 rfl rfl ?_
  refine t_iaload dX11_shift_53 (fun _ _ _ => rfl) (by omega) (by decide) ?_
  refine j_topE (e' := nI (50 + so)) hsa ?_
  refine j_aload_n dX11_shift_54 rfl rfl ?_
  refine t_getR (b := 100) dX11_shift_55 jfl_X11_82 (fun _ _ _ => rfl) rfl ?_
  refine j_iload_n dX11_shift_58 rfl rfl ?_
  refine t_iaload dX11_shift_59 (fun _ _ _ => rfl) (by omega) (by decide) ?_
  refine j_topE (e' := nI (50 + so)) hse ?_
  refine jn_icmp_eq (tgt := 66) dX11_shift_60 (by decide) (by omega) (by omega) (fun h60 => ?_) (fun h60 => absurd rfl h60)
  refine j_iload dX11_shift_66 rfl ?_
  refine j_if_lt (tgt := 107) dX11_shift_68 (by decide) (fun h68 => ?_) (fun h68 => ?_)
  · refine j_bipush (v := (-13)) dX11_shift_107 rfl ?_
    refine j_ireturn dX11_shift_109 rfl ?_
    exact ⟨rfl, rfl⟩
  · refine j_iload_n dX11_shift_71 rfl rfl ?_
    refine j_if_lt (tgt := 107) dX11_shift_72 (by decide) (fun h72 => ?_) (fun h72 => ?_)
    · refine j_bipush (v := (-13)) dX11_shift_107 rfl ?_
      refine j_ireturn dX11_shift_109 rfl ?_
      exact ⟨rfl, rfl⟩
    · refine j_iload dX11_shift_75 rfl ?_
      refine j_if_lt (tgt := 107) dX11_shift_77 (by decide) (fun h77 => ?_) (fun h77 => ?_)
      · refine j_bipush (v := (-13)) dX11_shift_107 rfl ?_
        refine j_ireturn dX11_shift_109 rfl ?_
        exact ⟨rfl, rfl⟩
      · refine j_iload_n dX11_shift_80 rfl rfl ?_
        refine j_aload_n dX11_shift_81 rfl rfl ?_
        refine t_getR (b := 101) dX11_shift_82 jfl_X11_85 (fun _ _ _ => rfl) rfl ?_
        refine j_iload_n dX11_shift_85 rfl rfl ?_
        refine t_iaload dX11_shift_86 (fun _ _ _ => rfl) (by omega) (by decide) ?_
        refine j_topE (e' := nI la) hla ?_
        refine j_iload dX11_shift_87 rfl ?_
        refine j_isub dX11_shift_89 ?_
        refine j_icmp_gt (tgt := 107) dX11_shift_90 (by decide) (fun h90 => ?_) (fun h90 => ?_)
        · refine j_bipush (v := (-13)) dX11_shift_107 rfl ?_
          refine j_ireturn dX11_shift_109 rfl ?_
          exact ⟨rfl, rfl⟩
        · refine j_iload dX11_shift_93 rfl ?_
          refine j_aload_n dX11_shift_95 rfl rfl ?_
          refine t_getR (b := 101) dX11_shift_96 jfl_X11_85 (fun _ _ _ => rfl) rfl ?_
          refine j_iload_n dX11_shift_99 rfl rfl ?_
          refine t_iaload dX11_shift_100 (fun _ _ _ => rfl) (by omega) (by decide) ?_
          refine j_topE (e' := nI le) hle ?_
          refine j_iload dX11_shift_101 rfl ?_
          refine j_isub dX11_shift_103 ?_
          refine j_icmp_le (tgt := 110) dX11_shift_104 (by decide) (fun h104 => ?_) (fun h104 => ?_)
          · exfalso
            rcases h with q | q | q | q | q
            · exact h68 q
            · exact h72 q
            · exact h77 q
            · exact h90 q
            · exact Int32.not_lt.mpr h104 q
          · refine j_bipush (v := (-13)) dX11_shift_107 rfl ?_
            refine j_ireturn dX11_shift_109 rfl ?_
            exact ⟨rfl, rfl⟩

set_option maxHeartbeats 200000 in
set_option maxRecDepth 100000 in
theorem l_shift2 {a e : Nat} (ha : a < 6) (he : e < 6) {i j m : Nat} (hm : m ≤ 60) (hj : j + m ≤ 60) : ∀ (q k : Nat), k ≤ m → m - k < q → jWP none RX11 cX11_shift 7 (some .int) (d + 2) 0 0 150 [some (.ref 76), some (.int (nI a)), some (.int (nI i)), some (.int (nI e)), some (.int (nI j)), some (.int (nI m)), some (.int (nI k))] [] (tw X A (va_up L 102 (cbF (L 103) (L 102) (60 * e + j) k))) (jRi (nI m) (tw X A (va_up L 102 (cbF (L 103) (L 102) (60 * e + j) m)))) := by
  intro q
  induction q with
  | zero => intro k h1 h2; omega
  | succ q ih =>
    intro k hk hq
    refine j_iload dX11_shift_150 rfl ?_
    refine j_iload dX11_shift_152 rfl ?_
    refine jn_icmp_ge (tgt := 185) dX11_shift_154 (by decide) (by omega) (by omega) (fun h154 => ?_) (fun h154 => ?_)
    · refine j_iload dX11_shift_185 rfl ?_
      refine j_ireturn dX11_shift_187 rfl ?_
      obtain rfl : k = m := by omega
      exact ⟨rfl, rfl⟩
    · refine j_aload_n dX11_shift_157 rfl rfl ?_
      refine t_getR (b := 102) dX11_shift_158 jfl_X11_88 (fun _ _ _ => rfl) rfl ?_
      refine j_bipush (v := nI 60) dX11_shift_161 rfl ?_
      refine j_iload_n dX11_shift_163 rfl rfl ?_
      refine jn_imul dX11_shift_164 ?_
      refine j_iload dX11_shift_165 rfl ?_
      refine jn_iadd dX11_shift_167 ?_
      refine j_iload dX11_shift_168 rfl ?_
      refine jn_iadd dX11_shift_170 ?_
      refine j_aload_n dX11_shift_171 rfl rfl ?_
      refine t_getR (b := 103) dX11_shift_172 jfl_X11_92 (fun _ _ _ => rfl) rfl ?_
      refine j_iload dX11_shift_175 rfl ?_
      refine t_laload dX11_shift_177 (fun _ _ _ => rfl) (by omega) (by decide) ?_
      refine t_lastore dX11_shift_178 (fun _ _ _ => rfl) (by omega) (by decide) ?_
      refine jn_iinc (lv' := [some (.ref 76), some (.int _), some (.int _), some (.int _), some (.int _), some (.int _), some (.int _)]) dX11_shift_179 rfl (by decide) rfl ?_
      refine j_goto (tgt := 150) dX11_shift_182 (by decide) ?_
      rw [vu_n _ _ _ (show (103 : Nat) ≠ 102 by decide), vu_s, cbF_s, vu_up]
      exact ih (k + 1) (by omega) (by omega)

set_option maxHeartbeats 200000 in
set_option maxRecDepth 100000 in
theorem l_shift1 {a e : Nat} (ha : a < 6) (he : e < 6) {i j m : Nat} (hm : m ≤ 60) (hi : i + m ≤ 60) {post : Option Value → jW → Prop} (kk : jWP none RX11 cX11_shift 7 (some .int) (d + 2) 0 0 147 [some (.ref 76), some (.int (nI a)), some (.int (nI i)), some (.int (nI e)), some (.int (nI j)), some (.int (nI m)), some (.int (nI m))] [] (tw X A (va_up L 103 (caF (fun k => L 102 (60 * a + i + k)) (L 103) m))) post) : ∀ (q k : Nat), k ≤ m → m - k < q → jWP none RX11 cX11_shift 7 (some .int) (d + 2) 0 0 113 [some (.ref 76), some (.int (nI a)), some (.int (nI i)), some (.int (nI e)), some (.int (nI j)), some (.int (nI m)), some (.int (nI k))] [] (tw X A (va_up L 103 (caF (fun k => L 102 (60 * a + i + k)) (L 103) k))) (post) := by
  intro q
  induction q with
  | zero => intro k h1 h2; omega
  | succ q ih =>
    intro k hk hq
    refine j_iload dX11_shift_113 rfl ?_
    refine j_iload dX11_shift_115 rfl ?_
    refine jn_icmp_ge (tgt := 147) dX11_shift_117 (by decide) (by omega) (by omega) (fun h117 => ?_) (fun h117 => ?_)
    · obtain rfl : k = m := by omega
      exact kk
    · refine j_aload_n dX11_shift_120 rfl rfl ?_
      refine t_getR (b := 103) dX11_shift_121 jfl_X11_92 (fun _ _ _ => rfl) rfl ?_
      refine j_iload dX11_shift_124 rfl ?_
      refine j_aload_n dX11_shift_126 rfl rfl ?_
      refine t_getR (b := 102) dX11_shift_127 jfl_X11_88 (fun _ _ _ => rfl) rfl ?_
      refine j_bipush (v := nI 60) dX11_shift_130 rfl ?_
      refine j_iload_n dX11_shift_132 rfl rfl ?_
      refine jn_imul dX11_shift_133 ?_
      refine j_iload_n dX11_shift_134 rfl rfl ?_
      refine jn_iadd dX11_shift_135 ?_
      refine j_iload dX11_shift_136 rfl ?_
      refine jn_iadd dX11_shift_138 ?_
      refine t_laload dX11_shift_139 (fun _ _ _ => rfl) (by omega) (by decide) ?_
      refine t_lastore dX11_shift_140 (fun _ _ _ => rfl) (by omega) (by decide) ?_
      refine jn_iinc (lv' := [some (.ref 76), some (.int _), some (.int _), some (.int _), some (.int _), some (.int _), some (.int _)]) dX11_shift_141 rfl (by decide) rfl ?_
      refine j_goto (tgt := 113) dX11_shift_144 (by decide) ?_
      rw [vu_n _ _ _ (show (102 : Nat) ≠ 103 by decide), vu_s, show vp_updL (caF (fun k => L 102 (60 * a + i + k)) (L 103) k) k (L 102 (60 * a + i + k)) = _ from caF_s _ _ _, vu_up]
      exact ih (k + 1) (by omega) (by omega)

set_option maxHeartbeats 200000 in
set_option maxRecDepth 100000 in
theorem m_shift {a e : Nat} (ha : a < 6) (he : e < 6) {so la le : Nat} (hsa : A 100 a = nI (50 + so)) (hse : A 100 e = nI (50 + so)) (so4 : so ≤ 4) (hla : A 101 a = nI la) (la60 : la ≤ 60) (hle : A 101 e = nI le) (le60 : le ≤ 60) {i j m : Nat} (h1 : i + m ≤ la) (h3 : j + m ≤ le) : jMet (d + 2) yX11_shift cX11_shift 7 (some .int) 0 0 [.ref 76, .int (nI a), .int (nI i), .int (nI e), .int (nI j), .int (nI m)] (tw X A L) (jRi (nI m) (tw X A (va_up (va_up L 103 (caF (fun k => L 102 (60 * a + i + k)) (L 103) m)) 102 (cbF (caF (fun k => L 102 (60 * a + i + k)) (L 103) m) (L 102) (60 * e + j) m)))) := by
  refine jMet_of (by decide) (Nat.le_of_ble_eq_true rfl) none (Or.inl rfl) ?_
  show jWP none RX11 cX11_shift 7 (some .int) (d + 2) 0 0 0 [some (.ref 76), some (.int (nI a)), some (.int (nI i)), some (.int (nI e)), some (.int (nI j)), some (.int (nI m)), none] [] (tw X A L) (jRi (nI m) (tw X A (va_up (va_up L 103 (caF (fun k => L 102 (60 * a + i + k)) (L 103) m)) 102 (cbF (caF (fun k => L 102 (60 * a + i + k)) (L 103) m) (L 102) (60 * e + j) m))))
  refine j_iload_n dX11_shift_0 rfl rfl ?_
  refine j_callSi [.int _] [] dX11_shift_1 jlk_X11_124 rfl rfl (Nat.le_of_ble_eq_true rfl) (jMet_i m_isSh (isA_in ha (by decide)) rfl) ?_
  refine j_if_eq (tgt := 14) dX11_shift_4 (by decide) (fun h => absurd h (by decide)) (fun _ => ?_)
  refine j_iload_n dX11_shift_7 rfl rfl ?_
  refine j_callSi [.int _] [] dX11_shift_8 jlk_X11_124 rfl rfl (Nat.le_of_ble_eq_true rfl) (jMet_i m_isSh (isA_in he (by decide)) rfl) ?_
  refine j_if_ne (tgt := 16) dX11_shift_11 (by decide) (fun _ => ?_) (fun h => absurd h (by decide))
  refine j_aload_n dX11_shift_16 rfl rfl ?_
  refine t_getR (b := 100) dX11_shift_17 jfl_X11_82 (fun _ _ _ => rfl) rfl ?_
  refine j_iload_n dX11_shift_20 rfl rfl ?_
  refine t_iaload dX11_shift_21 (fun _ _ _ => rfl) (by omega) (by decide) ?_
  refine j_topE (e' := nI (50 + so)) hsa ?_
  refine jn_if_lt (tgt := 34) dX11_shift_22 (by decide) (by omega) ?_
  refine j_aload_n dX11_shift_25 rfl rfl ?_
  refine t_getR (b := 100) dX11_shift_26 jfl_X11_82 (fun _ _ _ => rfl) rfl ?_
  refine j_iload_n dX11_shift_29 rfl rfl ?_
  refine t_iaload dX11_shift_30 (fun _ _ _ => rfl) (by omega) (by decide) ?_
  refine j_topE (e' := nI (50 + so)) hse ?_
  refine jn_if_ge (tgt := 37) dX11_shift_31 (by decide) (by omega) ?_
  refine j_aload_n dX11_shift_37 rfl rfl ?_
  refine t_getR (b := 100) dX11_shift_38 jfl_X11_82 (fun _ _ _ => rfl) rfl ?_
  refine j_iload_n dX11_shift_41 rfl rfl ?_
  refine t_iaload dX11_shift_42 (fun _ _ _ => rfl) (by omega) (by decide) ?_
  refine j_topE (e' := nI (50 + so)) hsa ?_
  refine j_bipush (v := nI 50) dX11_shift_43 rfl ?_
  refine jn_icmp_lt (tgt := 63) dX11_shift_45 (by decide) (by omega) (by omega) (fun h45 => absurd h45 (by omega)) (fun h45 => ?_)
  refine j_aload_n dX11_shift_48 rfl rfl ?_
  refine t_getR (b := 100) dX11_shift_49 jfl_X11_82 (fun _ _ _ => rfl) rfl ?_
  refine j_iload_n dX11_shift_52 rfl rfl ?_
  refine t_iaload dX11_shift_53 (fun _ _ _ => rfl) (by omega) (by decide) ?_
  refine j_topE (e' := nI (50 + so)) hsa ?_
  refine j_aload_n dX11_shift_54 rfl rfl ?_
  refine t_getR (b := 100) dX11_shift_55 jfl_X11_82 (fun _ _ _ => rfl) rfl ?_
  refine j_iload_n dX11_shift_58 rfl rfl ?_
  refine t_iaload dX11_shift_59 (fun _ _ _ => rfl) (by omega) (by decide) ?_
  refine j_topE (e' := nI (50 + so)) hse ?_
  refine jn_icmp_eq (tgt := 66) dX11_shift_60 (by decide) (by omega) (by omega) (fun h60 => ?_) (fun h60 => absurd rfl h60)
  refine j_iload dX11_shift_66 rfl ?_
  refine jn_if_lt (tgt := 107) dX11_shift_68 (by decide) (by omega) ?_
  refine j_iload_n dX11_shift_71 rfl rfl ?_
  refine jn_if_lt (tgt := 107) dX11_shift_72 (by decide) (by omega) ?_
  refine j_iload dX11_shift_75 rfl ?_
  refine jn_if_lt (tgt := 107) dX11_shift_77 (by decide) (by omega) ?_
  refine j_iload_n dX11_shift_80 rfl rfl ?_
  refine j_aload_n dX11_shift_81 rfl rfl ?_
  refine t_getR (b := 101) dX11_shift_82 jfl_X11_85 (fun _ _ _ => rfl) rfl ?_
  refine j_iload_n dX11_shift_85 rfl rfl ?_
  refine t_iaload dX11_shift_86 (fun _ _ _ => rfl) (by omega) (by decide) ?_
  refine j_topE (e' := nI la) hla ?_
  refine j_iload dX11_shift_87 rfl ?_
  refine jn_isub dX11_shift_89 (by omega) ?_
  refine jn_icmp_gt (tgt := 107) dX11_shift_90 (by decide) (by omega) (by omega) (fun h90 => absurd h90 (by omega)) (fun h90 => ?_)
  refine j_iload dX11_shift_93 rfl ?_
  refine j_aload_n dX11_shift_95 rfl rfl ?_
  refine t_getR (b := 101) dX11_shift_96 jfl_X11_85 (fun _ _ _ => rfl) rfl ?_
  refine j_iload_n dX11_shift_99 rfl rfl ?_
  refine t_iaload dX11_shift_100 (fun _ _ _ => rfl) (by omega) (by decide) ?_
  refine j_topE (e' := nI le) hle ?_
  refine j_iload dX11_shift_101 rfl ?_
  refine jn_isub dX11_shift_103 (by omega) ?_
  refine jn_icmp_le (tgt := 110) dX11_shift_104 (by decide) (by omega) (by omega) (fun h104 => ?_) (fun h104 => absurd h104 (by omega))
  refine j_iconst (v := nI 0) dX11_shift_110 rfl ?_
  refine j_istore (lv' := [some (.ref 76), some (.int _), some (.int _), some (.int _), some (.int _), some (.int _), some (.int _)]) dX11_shift_111 (by decide) rfl ?_
  refine j_atw (congrArg (fun z => tw X A z) (show L = va_up L 103 (caF (fun k => L 102 (60 * a + i + k)) (L 103) 0) from by rw [caF_0, vu_self])) (l_shift1 ha he (by omega) (by omega) ?_ (m + 1) 0 (by omega) (by omega))
  refine j_iconst (v := nI 0) dX11_shift_147 rfl ?_
  refine j_istore (lv' := [some (.ref 76), some (.int _), some (.int _), some (.int _), some (.int _), some (.int _), some (.int _)]) dX11_shift_148 (by decide) rfl ?_
  have q := l_shift2 (d := d) (X := X) (A := A) (L := va_up L 103 (caF (fun k => L 102 (60 * a + i + k)) (L 103) m)) (i := i) (j := j) (m := m) ha he (by omega) (by omega) (m + 1) 0 (by omega) (by omega)
  rw [vu_s, vu_n _ _ _ (show (102 : Nat) ≠ 103 by decide), cbF_0, show va_up (va_up L 103 (caF (fun k => L 102 (60 * a + i + k)) (L 103) m)) 102 (L 102) = va_up L 103 (caF (fun k => L 102 (60 * a + i + k)) (L 103) m) from by have q2 := vu_self (va_up L 103 (caF (fun k => L 102 (60 * a + i + k)) (L 103) m)) 102; rw [vu_n _ _ _ (by decide)] at q2; exact q2] at q
  exact q

set_option maxHeartbeats 200000 in
set_option maxRecDepth 100000 in
theorem m_above {a : Nat} (ha : a < 8) : jMet (d) yX11_above cX11_above 1 (some .int) 0 0 [.int (nI a)] (w) (jRi (nI (abM a)) w) := by
  refine jMet_of (by decide) (Nat.le_of_ble_eq_true rfl) none (Or.inl rfl) ?_
  show jWP none RX11 cX11_above 1 (some .int) (d) 0 0 0 [some (.int (nI a))] [] (w) (jRi (nI (abM a)) w)
  refine j_iload_n dX11_above_0 rfl rfl ?_
  refine j_iconst (v := nI 3) dX11_above_1 rfl ?_
  refine jn_icmp_ne (tgt := 9) dX11_above_2 (by decide) (by omega) (by omega) (fun h2 => ?_) (fun h2 => ?_)
  · refine j_iload_n dX11_above_9 rfl rfl ?_
    refine j_iconst (v := nI 4) dX11_above_10 rfl ?_
    refine jn_icmp_ne (tgt := 18) dX11_above_11 (by decide) (by omega) (by omega) (fun h11 => ?_) (fun h11 => ?_)
    · refine j_iload_n dX11_above_18 rfl rfl ?_
      refine j_iconst (v := nI 5) dX11_above_19 rfl ?_
      refine jn_icmp_ne (tgt := 27) dX11_above_20 (by decide) (by omega) (by omega) (fun h20 => ?_) (fun h20 => ?_)
      · refine j_iload_n dX11_above_27 rfl rfl ?_
        refine j_bipush (v := nI 7) dX11_above_28 rfl ?_
        refine jn_icmp_ne (tgt := 37) dX11_above_30 (by decide) (by omega) (by omega) (fun h30 => ?_) (fun h30 => ?_)
        · refine j_iconst (v := nI 0) dX11_above_37 rfl ?_
          refine j_ireturn dX11_above_38 rfl ?_
          exact ⟨by unfold abM; rw [if_neg (by omega), if_neg (by omega), if_neg (by omega), if_neg (by omega)], rfl⟩
        · refine j_iconst (v := nI 4) dX11_above_33 rfl ?_
          refine j_goto (tgt := 38) dX11_above_34 (by decide) ?_
          refine j_ireturn dX11_above_38 rfl ?_
          exact ⟨by unfold abM; rw [if_neg (by omega), if_neg (by omega), if_neg (by omega), if_pos h30], rfl⟩
      · refine j_iconst (v := nI 3) dX11_above_23 rfl ?_
        refine j_goto (tgt := 38) dX11_above_24 (by decide) ?_
        refine j_ireturn dX11_above_38 rfl ?_
        exact ⟨by unfold abM; rw [if_neg (by omega), if_neg (by omega), if_pos h20], rfl⟩
    · refine j_iconst (v := nI 1) dX11_above_14 rfl ?_
      refine j_goto (tgt := 38) dX11_above_15 (by decide) ?_
      refine j_ireturn dX11_above_38 rfl ?_
      exact ⟨by unfold abM; rw [if_neg (by omega), if_pos h11], rfl⟩
  · refine j_iconst (v := nI 2) dX11_above_5 rfl ?_
    refine j_goto (tgt := 38) dX11_above_6 (by decide) ?_
    refine j_ireturn dX11_above_38 rfl ?_
    exact ⟨by unfold abM; rw [if_pos h2], rfl⟩

set_option maxHeartbeats 200000 in
set_option maxRecDepth 100000 in
theorem m_kindOf {b : Nat} (hb : b < 50) (hk : A 98 = nIf kd) : jMet (d) yX11_kindOf cX11_kindOf 2 (some .int) 0 0 [.ref 76, .int (nI b)] (tw X A L) (jRi (nI (kd b)) (tw X A L)) := by
  refine jMet_of (by decide) (Nat.le_of_ble_eq_true rfl) none (Or.inl rfl) ?_
  show jWP none RX11 cX11_kindOf 2 (some .int) (d) 0 0 0 [some (.ref 76), some (.int (nI b))] [] (tw X A L) (jRi (nI (kd b)) (tw X A L))
  refine j_aload_n dX11_kindOf_0 rfl rfl ?_
  refine t_getR (b := 98) dX11_kindOf_1 jfl_X11_76 (fun _ _ _ => rfl) rfl ?_
  refine j_iload_n dX11_kindOf_4 rfl rfl ?_
  refine t_iaload dX11_kindOf_5 (fun _ _ _ => rfl) (by omega) (by decide) ?_
  refine j_topE (e' := nI (kd b)) (by rw [hk]; rfl) ?_
  refine j_ireturn dX11_kindOf_6 rfl ?_
  exact ⟨rfl, rfl⟩

set_option maxHeartbeats 200000 in
set_option maxRecDepth 100000 in
theorem m_taken_no {c k : Int32} (h : isA 6 c = nI 0 ∨ isA 8 k = nI 0) : jMet (d + 2) yX11_taken cX11_taken 4 (some .int) 0 0 [.ref 76, .int c, .int k] (tw X A L) (jRi (-1) (tw X A L)) := by
  refine jMet_of (by decide) (Nat.le_of_ble_eq_true rfl) none (Or.inl rfl) ?_
  show jWP none RX11 cX11_taken 4 (some .int) (d + 2) 0 0 0 [some (.ref 76), some (.int c), some (.int k), none] [] (tw X A L) (jRi (-1) (tw X A L))
  refine j_iload_n dX11_taken_0 rfl rfl ?_
  refine j_callSi [.int _] [] dX11_taken_1 jlk_X11_124 rfl rfl (Nat.le_of_ble_eq_true rfl) (m_isSh) ?_
  refine j_if_eq (tgt := 19) dX11_taken_4 (by decide) (fun h4 => ?_) (fun h4 => ?_)
  · refine j_iconst (v := (-1)) dX11_taken_19 rfl ?_
    refine j_ireturn dX11_taken_20 rfl ?_
    exact ⟨rfl, rfl⟩
  · refine j_iload_n dX11_taken_7 rfl rfl ?_
    refine j_i2l dX11_taken_8 ?_
    refine j_lconst (v := 0) dX11_taken_9 rfl ?_
    refine j_ldc2 dX11_taken_10 jw_k_X11_276 ?_
    refine j_callSi [.long _, .long _, .long _] [] dX11_taken_13 jlk_X11_111 rfl rfl (Nat.le_of_ble_eq_true rfl) (jMet_i m_within (wi_A (k := 7) (by decide) (by decide)) rfl) ?_
    refine j_if_ne (tgt := 21) dX11_taken_16 (by decide) (fun h16 => ?_) (fun h16 => ?_)
    · exact absurd h (fun q => q.elim h4 h16)
    · refine j_iconst (v := (-1)) dX11_taken_19 rfl ?_
      refine j_ireturn dX11_taken_20 rfl ?_
      exact ⟨rfl, rfl⟩

set_option maxHeartbeats 200000 in
set_option maxRecDepth 100000 in
theorem m_taken_0 {j : Nat} (hj : j < 6) {k : Nat} (hk8 : k < 8) (hs : A 100 j = -1) : jMet (d + 2) yX11_taken cX11_taken 4 (some .int) 0 0 [.ref 76, .int (nI j), .int (nI k)] (tw X A L) (jRi (-11) (tw X A L)) := by
  refine jMet_of (by decide) (Nat.le_of_ble_eq_true rfl) none (Or.inl rfl) ?_
  show jWP none RX11 cX11_taken 4 (some .int) (d + 2) 0 0 0 [some (.ref 76), some (.int (nI j)), some (.int (nI k)), none] [] (tw X A L) (jRi (-11) (tw X A L))
  refine j_iload_n dX11_taken_0 rfl rfl ?_
  refine j_callSi [.int _] [] dX11_taken_1 jlk_X11_124 rfl rfl (Nat.le_of_ble_eq_true rfl) (jMet_i m_isSh (isA_in hj (by decide)) rfl) ?_
  refine j_if_eq (tgt := 19) dX11_taken_4 (by decide) (fun h => absurd h (by decide)) (fun _ => ?_)
  refine j_iload_n dX11_taken_7 rfl rfl ?_
  refine j_i2l dX11_taken_8 ?_
  refine j_lconst (v := 0) dX11_taken_9 rfl ?_
  refine j_ldc2 dX11_taken_10 jw_k_X11_276 ?_
  refine j_callSi [.long _, .long _, .long _] [] dX11_taken_13 jlk_X11_111 rfl rfl (Nat.le_of_ble_eq_true rfl) (jMet_i m_within (wi_in (k := 7) (by omega) (by decide) (by decide)) rfl) ?_
  refine j_if_ne (tgt := 21) dX11_taken_16 (by decide) (fun _ => ?_) (fun h => absurd h (by decide))
  refine j_aload_n dX11_taken_21 rfl rfl ?_
  refine t_getR (b := 100) dX11_taken_22 jfl_X11_82 (fun _ _ _ => rfl) rfl ?_
  refine j_iload_n dX11_taken_25 rfl rfl ?_
  refine t_iaload dX11_taken_26 (fun _ _ _ => rfl) (by omega) (by decide) ?_
  refine j_if_ge (tgt := 33) dX11_taken_27 (by decide) (fun h27 => absurd h27 (by rw [hs]; decide)) (fun h27 => ?_)
  refine j_bipush (v := (-11)) dX11_taken_30 rfl ?_
  refine j_ireturn dX11_taken_32 rfl ?_
  exact ⟨rfl, rfl⟩

set_option maxHeartbeats 200000 in
set_option maxRecDepth 100000 in
theorem m_taken_2 {j : Nat} (hj : j < 6) {k : Nat} (hk8 : k < 8) {so : Nat} (hs : A 100 j = nI (50 + so)) (so4 : so ≤ 4) : jMet (d + 2) yX11_taken cX11_taken 4 (some .int) 0 0 [.ref 76, .int (nI j), .int (nI k)] (tw X A L) (jRi (-12) (tw X A L)) := by
  refine jMet_of (by decide) (Nat.le_of_ble_eq_true rfl) none (Or.inl rfl) ?_
  show jWP none RX11 cX11_taken 4 (some .int) (d + 2) 0 0 0 [some (.ref 76), some (.int (nI j)), some (.int (nI k)), none] [] (tw X A L) (jRi (-12) (tw X A L))
  refine j_iload_n dX11_taken_0 rfl rfl ?_
  refine j_callSi [.int _] [] dX11_taken_1 jlk_X11_124 rfl rfl (Nat.le_of_ble_eq_true rfl) (jMet_i m_isSh (isA_in hj (by decide)) rfl) ?_
  refine j_if_eq (tgt := 19) dX11_taken_4 (by decide) (fun h => absurd h (by decide)) (fun _ => ?_)
  refine j_iload_n dX11_taken_7 rfl rfl ?_
  refine j_i2l dX11_taken_8 ?_
  refine j_lconst (v := 0) dX11_taken_9 rfl ?_
  refine j_ldc2 dX11_taken_10 jw_k_X11_276 ?_
  refine j_callSi [.long _, .long _, .long _] [] dX11_taken_13 jlk_X11_111 rfl rfl (Nat.le_of_ble_eq_true rfl) (jMet_i m_within (wi_in (k := 7) (by omega) (by decide) (by decide)) rfl) ?_
  refine j_if_ne (tgt := 21) dX11_taken_16 (by decide) (fun _ => ?_) (fun h => absurd h (by decide))
  refine j_aload_n dX11_taken_21 rfl rfl ?_
  refine t_getR (b := 100) dX11_taken_22 jfl_X11_82 (fun _ _ _ => rfl) rfl ?_
  refine j_iload_n dX11_taken_25 rfl rfl ?_
  refine t_iaload dX11_taken_26 (fun _ _ _ => rfl) (by omega) (by decide) ?_
  refine j_topE (e' := nI (50 + so)) hs ?_
  refine jn_if_ge (tgt := 33) dX11_taken_27 (by decide) (by omega) ?_
  refine j_aload_n dX11_taken_33 rfl rfl ?_
  refine t_getR (b := 100) dX11_taken_34 jfl_X11_82 (fun _ _ _ => rfl) rfl ?_
  refine j_iload_n dX11_taken_37 rfl rfl ?_
  refine t_iaload dX11_taken_38 (fun _ _ _ => rfl) (by omega) (by decide) ?_
  refine j_topE (e' := nI (50 + so)) hs ?_
  refine j_bipush (v := nI 50) dX11_taken_39 rfl ?_
  refine jn_icmp_lt (tgt := 47) dX11_taken_41 (by decide) (by omega) (by omega) (fun h41 => absurd h41 (by omega)) (fun h41 => ?_)
  refine j_bipush (v := (-12)) dX11_taken_44 rfl ?_
  refine j_ireturn dX11_taken_46 rfl ?_
  exact ⟨rfl, rfl⟩

set_option maxHeartbeats 200000 in
set_option maxRecDepth 100000 in
theorem l_taken {j : Nat} (hj : j < 6) {k : Nat} (hk8 : k < 8) {b : Nat} (hs : A 100 j = nI b) (hb : b < 50) (hk : A 98 = nIf kd) : ∀ (f a : Nat), a < 8 → hgt a ≤ f → jWP none RX11 cX11_taken 4 (some .int) (d + 2) 0 0 58 [some (.ref 76), some (.int (nI j)), some (.int (nI k)), some (.int (nI a))] [] (tw X A L) (jRi (if utM k f a = k then nI (kd b) else (-12)) (tw X A L)) := by
  intro f
  induction f with
  | zero =>
    intro a h1 hh
    have h0 : a = 0 := by
      rcases (show a = 0 ∨ a = 1 ∨ a = 2 ∨ a = 3 ∨ a = 4 ∨ a = 5 ∨ a = 6 ∨ a = 7 by omega) with rfl | rfl | rfl | rfl | rfl | rfl | rfl | rfl <;> first | rfl | exact absurd hh (by decide)
    subst h0
    have hu : utM k 0 0 = 0 := rfl
    refine j_iload_n dX11_taken_58 rfl rfl ?_
    refine j_iload_n dX11_taken_59 rfl rfl ?_
    refine jn_icmp_eq (tgt := 75) dX11_taken_60 (by decide) (by omega) (by omega) (fun h60 => ?_) (fun h60 => ?_)
    · refine j_iload_n dX11_taken_75 rfl rfl ?_
      refine j_iload_n dX11_taken_76 rfl rfl ?_
      refine jn_icmp_ne (tgt := 93) dX11_taken_77 (by decide) (by omega) (by omega) (fun h77 => ?_) (fun h77 => ?_)
      · refine j_bipush (v := (-12)) dX11_taken_93 rfl ?_
        refine j_ireturn dX11_taken_95 rfl ?_
        exact ⟨by rw [hu, if_neg (by omega)], rfl⟩
      · refine j_aload_n dX11_taken_80 rfl rfl ?_
        refine j_aload_n dX11_taken_81 rfl rfl ?_
        refine t_getR (b := 100) dX11_taken_82 jfl_X11_82 (fun _ _ _ => rfl) rfl ?_
        refine j_iload_n dX11_taken_85 rfl rfl ?_
        refine t_iaload dX11_taken_86 (fun _ _ _ => rfl) (by omega) (by decide) ?_
        refine j_topE (e' := nI b) hs ?_
        refine j_callVi [.int _] [] dX11_taken_87 jlk_X11_374 rfl rfl rfl rfl (Nat.le_of_ble_eq_true rfl) (m_kindOf hb hk) ?_
        refine j_goto (tgt := 95) dX11_taken_90 (by decide) ?_
        refine j_ireturn dX11_taken_95 rfl ?_
        exact ⟨by rw [hu, if_pos (by omega)], rfl⟩
    · refine j_iload_n dX11_taken_63 rfl rfl ?_
      refine jn_if_le (tgt := 75) dX11_taken_64 (by decide) (by omega) (fun h64 => ?_) (fun h64 => absurd h64 (by omega))
      refine j_iload_n dX11_taken_75 rfl rfl ?_
      refine j_iload_n dX11_taken_76 rfl rfl ?_
      refine jn_icmp_ne (tgt := 93) dX11_taken_77 (by decide) (by omega) (by omega) (fun h77 => ?_) (fun h77 => ?_)
      · refine j_bipush (v := (-12)) dX11_taken_93 rfl ?_
        refine j_ireturn dX11_taken_95 rfl ?_
        exact ⟨by rw [hu, if_neg (by omega)], rfl⟩
      · refine j_aload_n dX11_taken_80 rfl rfl ?_
        refine j_aload_n dX11_taken_81 rfl rfl ?_
        refine t_getR (b := 100) dX11_taken_82 jfl_X11_82 (fun _ _ _ => rfl) rfl ?_
        refine j_iload_n dX11_taken_85 rfl rfl ?_
        refine t_iaload dX11_taken_86 (fun _ _ _ => rfl) (by omega) (by decide) ?_
        refine j_topE (e' := nI b) hs ?_
        refine j_callVi [.int _] [] dX11_taken_87 jlk_X11_374 rfl rfl rfl rfl (Nat.le_of_ble_eq_true rfl) (m_kindOf hb hk) ?_
        refine j_goto (tgt := 95) dX11_taken_90 (by decide) ?_
        refine j_ireturn dX11_taken_95 rfl ?_
        exact ⟨by rw [hu, if_pos (by omega)], rfl⟩
  | succ f ih =>
    intro a h1 hh
    have hu : utM k (f + 1) a = if a = k then a else if a = 0 then a else utM k f (abM a) := rfl
    refine j_iload_n dX11_taken_58 rfl rfl ?_
    refine j_iload_n dX11_taken_59 rfl rfl ?_
    refine jn_icmp_eq (tgt := 75) dX11_taken_60 (by decide) (by omega) (by omega) (fun h60 => ?_) (fun h60 => ?_)
    · rw [if_pos h60] at hu
      refine j_iload_n dX11_taken_75 rfl rfl ?_
      refine j_iload_n dX11_taken_76 rfl rfl ?_
      refine jn_icmp_ne (tgt := 93) dX11_taken_77 (by decide) (by omega) (by omega) (fun h77 => ?_) (fun h77 => ?_)
      · refine j_bipush (v := (-12)) dX11_taken_93 rfl ?_
        refine j_ireturn dX11_taken_95 rfl ?_
        exact ⟨by rw [hu, if_neg (by omega)], rfl⟩
      · refine j_aload_n dX11_taken_80 rfl rfl ?_
        refine j_aload_n dX11_taken_81 rfl rfl ?_
        refine t_getR (b := 100) dX11_taken_82 jfl_X11_82 (fun _ _ _ => rfl) rfl ?_
        refine j_iload_n dX11_taken_85 rfl rfl ?_
        refine t_iaload dX11_taken_86 (fun _ _ _ => rfl) (by omega) (by decide) ?_
        refine j_topE (e' := nI b) hs ?_
        refine j_callVi [.int _] [] dX11_taken_87 jlk_X11_374 rfl rfl rfl rfl (Nat.le_of_ble_eq_true rfl) (m_kindOf hb hk) ?_
        refine j_goto (tgt := 95) dX11_taken_90 (by decide) ?_
        refine j_ireturn dX11_taken_95 rfl ?_
        exact ⟨by rw [hu, if_pos (by omega)], rfl⟩
    · rw [if_neg h60] at hu
      refine j_iload_n dX11_taken_63 rfl rfl ?_
      refine jn_if_le (tgt := 75) dX11_taken_64 (by decide) (by omega) (fun h64 => ?_) (fun h64 => ?_)
      · rw [if_pos (show a = 0 by omega)] at hu
        refine j_iload_n dX11_taken_75 rfl rfl ?_
        refine j_iload_n dX11_taken_76 rfl rfl ?_
        refine jn_icmp_ne (tgt := 93) dX11_taken_77 (by decide) (by omega) (by omega) (fun h77 => ?_) (fun h77 => ?_)
        · refine j_bipush (v := (-12)) dX11_taken_93 rfl ?_
          refine j_ireturn dX11_taken_95 rfl ?_
          exact ⟨by rw [hu, if_neg (by omega)], rfl⟩
        · refine j_aload_n dX11_taken_80 rfl rfl ?_
          refine j_aload_n dX11_taken_81 rfl rfl ?_
          refine t_getR (b := 100) dX11_taken_82 jfl_X11_82 (fun _ _ _ => rfl) rfl ?_
          refine j_iload_n dX11_taken_85 rfl rfl ?_
          refine t_iaload dX11_taken_86 (fun _ _ _ => rfl) (by omega) (by decide) ?_
          refine j_topE (e' := nI b) hs ?_
          refine j_callVi [.int _] [] dX11_taken_87 jlk_X11_374 rfl rfl rfl rfl (Nat.le_of_ble_eq_true rfl) (m_kindOf hb hk) ?_
          refine j_goto (tgt := 95) dX11_taken_90 (by decide) ?_
          refine j_ireturn dX11_taken_95 rfl ?_
          exact ⟨by rw [hu, if_pos (by omega)], rfl⟩
      · rw [if_neg (show ¬ a = 0 by omega)] at hu
        refine j_iload_n dX11_taken_67 rfl rfl ?_
        refine j_callSi [.int _] [] dX11_taken_68 jlk_X11_377 rfl rfl (Nat.le_of_ble_eq_true rfl) (m_above h1) ?_
        refine j_istore_n (lv' := [some (.ref 76), some (.int _), some (.int _), some (.int _)]) dX11_taken_71 rfl (by decide) rfl ?_
        refine j_goto (tgt := 58) dX11_taken_72 (by decide) ?_
        rw [hu]
        have q := ab_h h1 (by omega)
        exact ih (abM a) q.2 (by omega)

set_option maxHeartbeats 200000 in
set_option maxRecDepth 100000 in
theorem m_taken_1 {j : Nat} (hj : j < 6) {k : Nat} (hk8 : k < 8) {b : Nat} (hs : A 100 j = nI b) (hb : b < 50) (hk : A 98 = nIf kd) (hkd : kd b < 8) : jMet (d + 2) yX11_taken cX11_taken 4 (some .int) 0 0 [.ref 76, .int (nI j), .int (nI k)] (tw X A L) (jRi (if undB (some (kd b)) k = true then nI (kd b) else (-12)) (tw X A L)) := by
  refine jMet_of (by decide) (Nat.le_of_ble_eq_true rfl) none (Or.inl rfl) ?_
  show jWP none RX11 cX11_taken 4 (some .int) (d + 2) 0 0 0 [some (.ref 76), some (.int (nI j)), some (.int (nI k)), none] [] (tw X A L) (jRi (if undB (some (kd b)) k = true then nI (kd b) else (-12)) (tw X A L))
  refine j_iload_n dX11_taken_0 rfl rfl ?_
  refine j_callSi [.int _] [] dX11_taken_1 jlk_X11_124 rfl rfl (Nat.le_of_ble_eq_true rfl) (jMet_i m_isSh (isA_in hj (by decide)) rfl) ?_
  refine j_if_eq (tgt := 19) dX11_taken_4 (by decide) (fun h => absurd h (by decide)) (fun _ => ?_)
  refine j_iload_n dX11_taken_7 rfl rfl ?_
  refine j_i2l dX11_taken_8 ?_
  refine j_lconst (v := 0) dX11_taken_9 rfl ?_
  refine j_ldc2 dX11_taken_10 jw_k_X11_276 ?_
  refine j_callSi [.long _, .long _, .long _] [] dX11_taken_13 jlk_X11_111 rfl rfl (Nat.le_of_ble_eq_true rfl) (jMet_i m_within (wi_in (k := 7) (by omega) (by decide) (by decide)) rfl) ?_
  refine j_if_ne (tgt := 21) dX11_taken_16 (by decide) (fun _ => ?_) (fun h => absurd h (by decide))
  refine j_aload_n dX11_taken_21 rfl rfl ?_
  refine t_getR (b := 100) dX11_taken_22 jfl_X11_82 (fun _ _ _ => rfl) rfl ?_
  refine j_iload_n dX11_taken_25 rfl rfl ?_
  refine t_iaload dX11_taken_26 (fun _ _ _ => rfl) (by omega) (by decide) ?_
  refine j_topE (e' := nI b) hs ?_
  refine jn_if_ge (tgt := 33) dX11_taken_27 (by decide) (by omega) ?_
  refine j_aload_n dX11_taken_33 rfl rfl ?_
  refine t_getR (b := 100) dX11_taken_34 jfl_X11_82 (fun _ _ _ => rfl) rfl ?_
  refine j_iload_n dX11_taken_37 rfl rfl ?_
  refine t_iaload dX11_taken_38 (fun _ _ _ => rfl) (by omega) (by decide) ?_
  refine j_topE (e' := nI b) hs ?_
  refine j_bipush (v := nI 50) dX11_taken_39 rfl ?_
  refine jn_icmp_lt (tgt := 47) dX11_taken_41 (by decide) (by omega) (by omega) (fun h41 => ?_) (fun h41 => absurd h41 (by omega))
  refine j_aload_n dX11_taken_47 rfl rfl ?_
  refine j_aload_n dX11_taken_48 rfl rfl ?_
  refine t_getR (b := 100) dX11_taken_49 jfl_X11_82 (fun _ _ _ => rfl) rfl ?_
  refine j_iload_n dX11_taken_52 rfl rfl ?_
  refine t_iaload dX11_taken_53 (fun _ _ _ => rfl) (by omega) (by decide) ?_
  refine j_topE (e' := nI b) hs ?_
  refine j_callVi [.int _] [] dX11_taken_54 jlk_X11_374 rfl rfl rfl rfl (Nat.le_of_ble_eq_true rfl) (m_kindOf hb hk) ?_
  refine j_istore_n (lv' := [some (.ref 76), some (.int _), some (.int _), some (.int _)]) dX11_taken_57 rfl (by decide) rfl ?_
  have q := l_taken (d := d) (X := X) (A := A) (L := L) hj hk8 hs hb hk 4 (kd b) hkd (by rcases (show kd b = 0 ∨ kd b = 1 ∨ kd b = 2 ∨ kd b = 3 ∨ kd b = 4 ∨ kd b = 5 ∨ kd b = 6 ∨ kd b = 7 by omega) with q | q | q | q | q | q | q | q <;> rw [q] <;> decide)
  simp only [ut_tab hkd hk8] at q
  exact q

end CT45