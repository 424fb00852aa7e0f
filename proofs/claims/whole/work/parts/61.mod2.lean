theorem wi_in {j k : Nat} {K : Int64} (h : j ≤ k) (hk : k < 2 ^ 30) (hK : K = (nI k).toInt64) : wiJ (nI j).toInt64 0 K = nI 1 := by
  unfold wiJ
  rw [hK, show (0 : Int64) = (nI 0).toInt64 from by decide, if_neg (fun q => nI_nlt (Nat.zero_le j) (by omega) (l_lt.mp q)), if_neg (fun q => nI_nlt h (by omega) (l_lt.mp q))]
theorem wi_no {e : Int32} {k : Nat} {K : Int64} (h : e < 0 ∨ nI k < e) (hK : K = (nI k).toInt64) : wiJ e.toInt64 0 K = nI 0 := by
  unfold wiJ
  rw [hK, show (0 : Int64) = (0 : Int32).toInt64 from by decide]
  rcases h with q | q
  · rw [if_pos (l_lt.mpr q)]
  · by_cases q2 : e.toInt64 < (0 : Int32).toInt64
    · rw [if_pos q2]
    · rw [if_neg q2, if_pos (l_lt.mpr q)]
theorem wi_12 {e : Int32} (h : wiJ e.toInt64 1 2 ≠ nI 0) : e = nI 1 ∨ e = nI 2 := by
  unfold wiJ at h
  rw [show (1 : Int64) = (nI 1).toInt64 from by decide, show (2 : Int64) = (nI 2).toInt64 from by decide] at h
  by_cases h1 : e.toInt64 < (nI 1).toInt64
  · rw [if_pos h1] at h; exact absurd rfl h
  · rw [if_neg h1] at h
    by_cases h2 : (nI 2).toInt64 < e.toInt64
    · rw [if_pos h2] at h; exact absurd rfl h
    · have g1 : ¬ e < nI 1 := fun q => h1 (l_lt.mpr q)
      have g2 : ¬ nI 2 < e := fun q => h2 (l_lt.mpr q)
      have g0 : ¬ e < 0 := fun q => g1 (Int32.lt_trans q (by decide))
      obtain ⟨j, hj, rfl⟩ := ixle g0 g2 (by decide)
      rcases (show j = 0 ∨ j = 1 ∨ j = 2 by omega) with rfl | rfl | rfl
      · exact absurd (by decide) g1
      · exact Or.inl rfl
      · exact Or.inr rfl
theorem wi_mb {x : Int32} {t : Nat} {K : Int64} (hK : K = (nI (mx t)).toInt64) : wiJ x.toInt64 0 K = mb t x := by
  unfold wiJ mb
  rw [hK, show (0 : Int64) = (0 : Int32).toInt64 from by decide]
  have h1 := @l_lt x 0
  have h2 := @l_lt (nI (mx t)) x
  simp only [h1, h2]
/-- the changes' rows -/
def bA (A : Nat → Nat → Int32) (p b a : Nat → Nat) : Nat → Nat → Int32 := va_up (va_up (va_up A 78 (nIf p)) 79 (nIf b)) 80 (nIf a)
theorem bA_n (A : Nat → Nat → Int32) (p b a : Nat → Nat) {c : Nat} (h1 : c ≠ 78) (h2 : c ≠ 79) (h3 : c ≠ 80) : bA A p b a c = A c := by unfold bA; rw [vu_n _ _ _ h3, vu_n _ _ _ h2, vu_n _ _ _ h1]
theorem bA_78 (A : Nat → Nat → Int32) (p b a : Nat → Nat) : bA A p b a 78 = nIf p := by unfold bA; rw [vu_n _ _ _ (by decide), vu_n _ _ _ (by decide), vu_s]
theorem bA_79 (A : Nat → Nat → Int32) (p b a : Nat → Nat) : bA A p b a 79 = nIf b := by unfold bA; rw [vu_n _ _ _ (by decide), vu_s]
theorem bA_80 (A : Nat → Nat → Int32) (p b a : Nat → Nat) : bA A p b a 80 = nIf a := vu_s _ _ _
theorem bA_p78 (A : Nat → Nat → Int32) (p b a p' : Nat → Nat) : va_up (bA A p b a) 78 (nIf p') = bA A p' b a := by
  unfold bA
  rw [vu_comm _ _ _ (by decide), vu_comm (va_up A 78 _) _ _ (by decide), vu_up]
theorem bA_p79 (A : Nat → Nat → Int32) (p b a b' : Nat → Nat) : va_up (bA A p b a) 79 (nIf b') = bA A p b' a := by
  unfold bA
  rw [vu_comm _ _ _ (by decide), vu_up]
theorem bA_p80 (A : Nat → Nat → Int32) (p b a a' : Nat → Nat) : va_up (bA A p b a) 80 (nIf a') = bA A p b a' := vu_up _ _ _ _
theorem bA_self {A : Nat → Nat → Int32} {p b a : Nat → Nat} (h1 : A 78 = nIf p) (h2 : A 79 = nIf b) (h3 : A 80 = nIf a) : bA A p b a = A := by
  unfold bA
  rw [← h1, ← h2, ← h3, vu_self, show va_up A 79 (A 79) = A from vu_self _ _, vu_self]
def shM (f : Nat → Nat) (k : Nat) : Nat → Nat := fun c => if c + 1 < k then f (c + 1) else f c
theorem shM_1 (f : Nat → Nat) : shM f 1 = f := by funext c; simp [shM]
theorem shM_40 (f : Nat → Nat) : shM f 40 = shN f := by
  funext c; unfold shM shN
  by_cases h : c < 39
  · rw [if_pos h, if_pos (by omega)]
  · rw [if_neg h, if_neg (by omega)]
theorem shM_s (f : Nat → Nat) {k : Nat} (h : 1 ≤ k) : updN (shM f k) (k - 1) (shM f k k) = shM f (k + 1) := by
  funext c; unfold updN shM
  by_cases q : c = k - 1
  · rw [if_pos q, if_neg (by omega), if_pos (by omega)]
    exact congrArg f (by omega)
  · rw [if_neg q]
    by_cases q2 : c + 1 < k
    · rw [if_pos q2, if_pos (by omega)]
    · rw [if_neg q2, if_neg (by omega)]
section CT41
variable {d : Nat} {X A : Nat → Nat → Int32} {L : Nat → Nat → Int64} {w : jW} {na : Nat} {v : Nat → Nat}

set_option maxHeartbeats 200000 in
set_option maxRecDepth 100000 in
theorem m_account_no {c : Int32} (h : isc c = nI 0) : jMet (d + 2) yX11_account cX11_account 2 (some .int) 0 0 [.ref 76, .int c] (tw X A L) (jRi (-1) (tw X A L)) := by
  refine jMet_of (by decide) (Nat.le_of_ble_eq_true rfl) none (Or.inl rfl) ?_
  show jWP none RX11 cX11_account 2 (some .int) (d + 2) 0 0 0 [some (.ref 76), some (.int c)] [] (tw X A L) (jRi (-1) (tw X A L))
  refine j_iload_n dX11_account_0 rfl rfl ?_
  refine j_i2l dX11_account_1 ?_
  refine j_callSi [.long _] [] dX11_account_2 jlk_X11_120 rfl rfl (Nat.le_of_ble_eq_true rfl) (m_isCell) ?_
  refine j_if_ne (tgt := 10) dX11_account_5 (by decide) (fun h5 => absurd h h5) (fun h5 => ?_)
  refine j_iconst (v := (-1)) dX11_account_8 rfl ?_
  refine j_ireturn dX11_account_9 rfl ?_
  exact ⟨rfl, rfl⟩

set_option maxHeartbeats 200000 in
set_option maxRecDepth 100000 in
theorem m_account_full (hn : X 76 7 = nI na) (h6 : na ≤ 6) (h : na = 6) {j : Nat} (hj : j < 49) : jMet (d + 2) yX11_account cX11_account 2 (some .int) 0 0 [.ref 76, .int (nI j)] (tw X A L) (jRi (-3) (tw X A L)) := by
  refine jMet_of (by decide) (Nat.le_of_ble_eq_true rfl) none (Or.inl rfl) ?_
  show jWP none RX11 cX11_account 2 (some .int) (d + 2) 0 0 0 [some (.ref 76), some (.int (nI j))] [] (tw X A L) (jRi (-3) (tw X A L))
  refine j_iload_n dX11_account_0 rfl rfl ?_
  refine j_i2l dX11_account_1 ?_
  refine j_callSi [.long _] [] dX11_account_2 jlk_X11_120 rfl rfl (Nat.le_of_ble_eq_true rfl) (jMet_i m_isCell (isc_in hj) rfl) ?_
  refine j_if_ne (tgt := 10) dX11_account_5 (by decide) (fun _ => ?_) (fun h => absurd h (by decide))
  refine j_aload_n dX11_account_10 rfl rfl ?_
  refine t_getI dX11_account_11 jfl_X11_117 (fun _ _ _ => rfl) (fun _ => rfl) ?_
  refine j_topE (e' := nI na) hn ?_
  refine j_bipush (v := nI 6) dX11_account_14 rfl ?_
  refine jn_icmp_ne (tgt := 22) dX11_account_16 (by decide) (by omega) (by omega) (fun h16 => absurd h16 (by omega)) (fun h16 => ?_)
  refine j_bipush (v := (-3)) dX11_account_19 rfl ?_
  refine j_ireturn dX11_account_21 rfl ?_
  exact ⟨rfl, rfl⟩

set_option maxHeartbeats 200000 in
set_option maxRecDepth 100000 in
theorem m_account (hn : X 76 7 = nI na) (h6 : na ≤ 6) (hv : A 77 = nIf v) (h : na < 6) {j : Nat} (hj : j < 49) : jMet (d + 2) yX11_account cX11_account 2 (some .int) 0 0 [.ref 76, .int (nI j)] (tw X A L) (jRi (nI na) (tw (va_up X 76 (upd (X 76) 7 (nI (na + 1)))) (va_up A 77 (nIf (updN v na j))) L)) := by
  refine jMet_of (by decide) (Nat.le_of_ble_eq_true rfl) none (Or.inl rfl) ?_
  show jWP none RX11 cX11_account 2 (some .int) (d + 2) 0 0 0 [some (.ref 76), some (.int (nI j))] [] (tw X A L) (jRi (nI na) (tw (va_up X 76 (upd (X 76) 7 (nI (na + 1)))) (va_up A 77 (nIf (updN v na j))) L))
  refine j_iload_n dX11_account_0 rfl rfl ?_
  refine j_i2l dX11_account_1 ?_
  refine j_callSi [.long _] [] dX11_account_2 jlk_X11_120 rfl rfl (Nat.le_of_ble_eq_true rfl) (jMet_i m_isCell (isc_in hj) rfl) ?_
  refine j_if_ne (tgt := 10) dX11_account_5 (by decide) (fun _ => ?_) (fun h => absurd h (by decide))
  refine j_aload_n dX11_account_10 rfl rfl ?_
  refine t_getI dX11_account_11 jfl_X11_117 (fun _ _ _ => rfl) (fun _ => rfl) ?_
  refine j_topE (e' := nI na) hn ?_
  refine j_bipush (v := nI 6) dX11_account_14 rfl ?_
  refine jn_icmp_ne (tgt := 22) dX11_account_16 (by decide) (by omega) (by omega) (fun h16 => ?_) (fun h16 => absurd h16 (by omega))
  refine j_aload_n dX11_account_22 rfl rfl ?_
  refine t_getR (b := 77) dX11_account_23 jfl_X11_11 (fun _ _ _ => rfl) rfl ?_
  refine j_aload_n dX11_account_26 rfl rfl ?_
  refine t_getI dX11_account_27 jfl_X11_117 (fun _ _ _ => rfl) (fun _ => rfl) ?_
  refine j_topE (e' := nI na) hn ?_
  refine j_iload_n dX11_account_30 rfl rfl ?_
  refine t_iastore dX11_account_31 (fun _ _ _ => rfl) (by omega) (by decide) ?_
  refine j_aload_n dX11_account_32 rfl rfl ?_
  refine j_dup dX11_account_33 rfl ?_
  refine t_getI dX11_account_34 jfl_X11_117 (fun _ _ _ => rfl) (fun _ => rfl) ?_
  refine j_topE (e' := nI na) hn ?_
  refine j_iconst (v := nI 1) dX11_account_37 rfl ?_
  refine jn_iadd dX11_account_38 ?_
  refine t_putI dX11_account_39 jfl_X11_117 (fun _ _ _ => rfl) (fun _ _ => rfl) (Nat.le_of_ble_eq_true rfl) rfl rfl ?_
  refine j_aload_n dX11_account_42 rfl rfl ?_
  refine t_getI dX11_account_43 jfl_X11_117 (fun _ _ _ => rfl) (fun _ => rfl) ?_
  refine j_topE (e' := nI (na + 1)) (by rw [vu_s, ud_s]) ?_
  refine j_iconst (v := nI 1) dX11_account_46 rfl ?_
  refine jn_isub dX11_account_47 (by omega) ?_
  refine j_ireturn dX11_account_48 rfl ?_
  exact ⟨rfl, by rw [hv, upd_nIf]⟩

set_option maxHeartbeats 200000 in
set_option maxRecDepth 100000 in
theorem m_placeOf_no (hn : X 76 7 = nI na) (h6 : na ≤ 6) {c t : Int32} (h : isT na c t = nI 0) : jMet (d + 2) yX11_placeOf cX11_placeOf 3 (some .int) 0 0 [.ref 76, .int c, .int t] (tw X A L) (jRi (-1) (tw X A L)) := by
  refine jMet_of (by decide) (Nat.le_of_ble_eq_true rfl) none (Or.inl rfl) ?_
  show jWP none RX11 cX11_placeOf 3 (some .int) (d + 2) 0 0 0 [some (.ref 76), some (.int c), some (.int t)] [] (tw X A L) (jRi (-1) (tw X A L))
  refine j_iload_n dX11_placeOf_0 rfl rfl ?_
  refine j_if_ne (tgt := 19) dX11_placeOf_1 (by decide) (fun h1 => ?_) (fun h1 => ?_)
  · refine j_iload_n dX11_placeOf_19 rfl rfl ?_
    refine j_if_ne (tgt := 44) dX11_placeOf_20 (by decide) (fun h20 => ?_) (fun h20 => ?_)
    · refine j_iconst (v := (-1)) dX11_placeOf_44 rfl ?_
      refine j_ireturn dX11_placeOf_45 rfl ?_
      exact ⟨rfl, rfl⟩
    · refine j_iload_n dX11_placeOf_23 rfl rfl ?_
      refine j_i2l dX11_placeOf_24 ?_
      refine j_lconst (v := 1) dX11_placeOf_25 rfl ?_
      refine j_ldc2 dX11_placeOf_26 jw_k_X11_131 ?_
      refine j_callSi [.long _, .long _, .long _] [] dX11_placeOf_29 jlk_X11_111 rfl rfl (Nat.le_of_ble_eq_true rfl) (m_within) ?_
      refine j_if_eq (tgt := 44) dX11_placeOf_32 (by decide) (fun h32 => ?_) (fun h32 => ?_)
      · refine j_iconst (v := (-1)) dX11_placeOf_44 rfl ?_
        refine j_ireturn dX11_placeOf_45 rfl ?_
        exact ⟨rfl, rfl⟩
      · exfalso
        unfold isT at h
        rw [if_neg h1] at h
        have hc : c = 0 := (by first | exact h20 | simpa using h20)
        rcases wi_12 h32 with q | q
        · rw [if_pos q, if_pos hc] at h; exact absurd h (by decide)
        · rw [if_neg (by rw [q]; decide), if_pos q, if_pos hc] at h; exact absurd h (by decide)
  · refine j_aload_n dX11_placeOf_4 rfl rfl ?_
    refine j_iload_n dX11_placeOf_5 rfl rfl ?_
    refine j_i2l dX11_placeOf_6 ?_
    refine j_callVi [.long _] [] dX11_placeOf_7 jlk_X11_128 rfl rfl rfl rfl (Nat.le_of_ble_eq_true rfl) (m_isAccount hn h6) ?_
    refine j_if_eq (tgt := 17) dX11_placeOf_10 (by decide) (fun h10 => ?_) (fun h10 => ?_)
    · refine j_iconst (v := (-1)) dX11_placeOf_17 rfl ?_
      refine j_ireturn dX11_placeOf_18 rfl ?_
      exact ⟨rfl, rfl⟩
    · exfalso
      unfold isT at h
      rw [if_pos (by first | exact h1 | simpa using h1)] at h
      exact h10 h

set_option maxHeartbeats 200000 in
set_option maxRecDepth 100000 in
theorem m_placeOf (hn : X 76 7 = nI na) (h6 : na ≤ 6) {j t : Nat} (ht : thr na j t) : jMet (d + 2) yX11_placeOf cX11_placeOf 3 (some .int) 0 0 [.ref 76, .int (nI j), .int (nI t)] (tw X A L) (jRi (nI (pOf j t)) (tw X A L)) := by
  refine jMet_of (by decide) (Nat.le_of_ble_eq_true rfl) none (Or.inl rfl) ?_
  show jWP none RX11 cX11_placeOf 3 (some .int) (d + 2) 0 0 0 [some (.ref 76), some (.int (nI j)), some (.int (nI t))] [] (tw X A L) (jRi (nI (pOf j t)) (tw X A L))
  have hl := thr_lt ht h6
  refine j_iload_n dX11_placeOf_0 rfl rfl ?_
  refine jn_if_ne (tgt := 19) dX11_placeOf_1 (by decide) (by omega) (fun h1 => ?_) (fun h1 => ?_)
  · refine j_iload_n dX11_placeOf_19 rfl rfl ?_
    refine jn_if_ne (tgt := 44) dX11_placeOf_20 (by decide) (by omega) (fun h20 => absurd h20 (by have q := ht.elim (fun q => absurd q.1 (by omega)) (fun q => q.2); omega)) (fun h20 => ?_)
    refine j_iload_n dX11_placeOf_23 rfl rfl ?_
    refine j_i2l dX11_placeOf_24 ?_
    refine j_lconst (v := 1) dX11_placeOf_25 rfl ?_
    refine j_ldc2 dX11_placeOf_26 jw_k_X11_131 ?_
    refine j_callSi [.long _, .long _, .long _] [] dX11_placeOf_29 jlk_X11_111 rfl rfl (Nat.le_of_ble_eq_true rfl) (jMet_i m_within (E := wiJ (nI t).toInt64 1 2) (E' := nI 1) (by rcases (show t = 1 ∨ t = 2 by omega) with rfl | rfl <;> decide) rfl) ?_
    refine j_if_eq (tgt := 44) dX11_placeOf_32 (by decide) (fun h => absurd h (by decide)) (fun _ => ?_)
    refine j_bipush (v := nI 6) dX11_placeOf_35 rfl ?_
    refine j_iload_n dX11_placeOf_37 rfl rfl ?_
    refine jn_iadd dX11_placeOf_38 ?_
    refine j_iconst (v := nI 1) dX11_placeOf_39 rfl ?_
    refine jn_isub dX11_placeOf_40 (by omega) ?_
    refine j_goto (tgt := 45) dX11_placeOf_41 (by decide) ?_
    refine j_ireturn dX11_placeOf_45 rfl ?_
    refine ⟨?_, rfl⟩
    unfold pOf
    rw [if_neg (by omega)]
    exact congrArg (fun z => some (Value.int (nI z))) (by omega)
  · refine j_aload_n dX11_placeOf_4 rfl rfl ?_
    refine j_iload_n dX11_placeOf_5 rfl rfl ?_
    refine j_i2l dX11_placeOf_6 ?_
    refine j_callVi [.long _] [] dX11_placeOf_7 jlk_X11_128 rfl rfl rfl rfl (Nat.le_of_ble_eq_true rfl) (jMet_i (m_isAccount hn h6) (isA_in (show j < na from ht.elim (fun q => q.2) (fun q => absurd q.1 (by omega))) (by omega)) rfl) ?_
    refine j_if_eq (tgt := 17) dX11_placeOf_10 (by decide) (fun h => absurd h (by decide)) (fun _ => ?_)
    refine j_iload_n dX11_placeOf_13 rfl rfl ?_
    refine j_goto (tgt := 18) dX11_placeOf_14 (by decide) ?_
    refine j_ireturn dX11_placeOf_18 rfl ?_
    refine ⟨?_, rfl⟩
    unfold pOf
    rw [if_pos (by omega)]

set_option maxHeartbeats 200000 in
set_option maxRecDepth 100000 in
theorem m_becomes_same (hv : A 77 = nIf v) {p : Nat} (hp : p < 8) (hb : v p < 2 ^ 31) : jMet (d) yX11_becomes cX11_becomes 5 (some .int) 0 0 [.ref 76, .int (nI p), .int (nI (v p))] (tw X A L) (jRi (nI (v p)) (tw X A L)) := by
  refine jMet_of (by decide) (Nat.le_of_ble_eq_true rfl) none (Or.inl rfl) ?_
  show jWP none RX11 cX11_becomes 5 (some .int) (d) 0 0 0 [some (.ref 76), some (.int (nI p)), some (.int (nI (v p))), none, none] [] (tw X A L) (jRi (nI (v p)) (tw X A L))
  refine j_aload_n dX11_becomes_0 rfl rfl ?_
  refine t_getR (b := 77) dX11_becomes_1 jfl_X11_11 (fun _ _ _ => rfl) rfl ?_
  refine j_iload_n dX11_becomes_4 rfl rfl ?_
  refine t_iaload dX11_becomes_5 (fun _ _ _ => rfl) (by omega) (by decide) ?_
  refine j_topE (e' := nI (v p)) (by rw [hv]; rfl) ?_
  refine j_istore_n (lv' := [some (.ref 76), some (.int _), some (.int _), some (.int _), none]) dX11_becomes_6 rfl (by decide) rfl ?_
  refine j_iload_n dX11_becomes_7 rfl rfl ?_
  refine j_iload_n dX11_becomes_8 rfl rfl ?_
  refine jn_icmp_ne (tgt := 14) dX11_becomes_9 (by decide) (by omega) (by omega) (fun h9 => absurd rfl h9) (fun h9 => ?_)
  refine j_iload_n dX11_becomes_12 rfl rfl ?_
  refine j_ireturn dX11_becomes_13 rfl ?_
  exact ⟨rfl, rfl⟩

set_option maxHeartbeats 200000 in
set_option maxRecDepth 100000 in
theorem l_becomes {p x y : Int32} {pl bf af : Nat → Nat} {post : Option Value → jW → Prop} (kk : jWP none RX11 cX11_becomes 5 (some .int) d 0 0 87 [some (.ref 76), some (.int p), some (.int x), some (.int y), some (.int (nI 40))] [] (tw X (bA A (shN pl) (shN bf) (shN af)) L) post) : ∀ (m k : Nat), 1 ≤ k → k ≤ 40 → 40 - k < m → jWP none RX11 cX11_becomes 5 (some .int) (d) 0 0 26 [some (.ref 76), some (.int p), some (.int x), some (.int y), some (.int (nI k))] [] (tw X (bA A (shM pl k) (shM bf k) (shM af k)) L) (post) := by
  intro m
  induction m with
  | zero => intro k h1 h2 h3; omega
  | succ m ih =>
    intro k h1 h2 h3
    refine j_iload dX11_becomes_26 rfl ?_
    refine j_bipush (v := nI 40) dX11_becomes_28 rfl ?_
    refine jn_icmp_ge (tgt := 87) dX11_becomes_30 (by decide) (by omega) (by omega) (fun h30 => ?_) (fun h30 => ?_)
    · obtain rfl : k = 40 := by omega
      rw [shM_40, shM_40, shM_40]
      exact kk
    · refine j_aload_n dX11_becomes_33 rfl rfl ?_
      refine t_getR (b := 78) dX11_becomes_34 jfl_X11_15 (fun _ _ _ => rfl) rfl ?_
      refine j_iload dX11_becomes_37 rfl ?_
      refine j_iconst (v := nI 1) dX11_becomes_39 rfl ?_
      refine jn_isub dX11_becomes_40 (by omega) ?_
      refine j_aload_n dX11_becomes_41 rfl rfl ?_
      refine t_getR (b := 78) dX11_becomes_42 jfl_X11_15 (fun _ _ _ => rfl) rfl ?_
      refine j_iload dX11_becomes_45 rfl ?_
      refine t_iaload dX11_becomes_47 (fun _ _ _ => rfl) (by omega) (by decide) ?_
      refine j_topE (e' := nI (shM pl k k)) (by rw [bA_78]; rfl) ?_
      refine t_iastore dX11_becomes_48 (fun _ _ _ => rfl) (by omega) (by decide) ?_
      refine j_aload_n dX11_becomes_49 rfl rfl ?_
      refine t_getR (b := 79) dX11_becomes_50 jfl_X11_18 (fun _ _ _ => rfl) rfl ?_
      refine j_iload dX11_becomes_53 rfl ?_
      refine j_iconst (v := nI 1) dX11_becomes_55 rfl ?_
      refine jn_isub dX11_becomes_56 (by omega) ?_
      refine j_aload_n dX11_becomes_57 rfl rfl ?_
      refine t_getR (b := 79) dX11_becomes_58 jfl_X11_18 (fun _ _ _ => rfl) rfl ?_
      refine j_iload dX11_becomes_61 rfl ?_
      refine t_iaload dX11_becomes_63 (fun _ _ _ => rfl) (by omega) (by decide) ?_
      refine j_topE (e' := nI (shM bf k k)) (by rw [vu_n _ _ _ (by decide), bA_79]; rfl) ?_
      refine t_iastore dX11_becomes_64 (fun _ _ _ => rfl) (by omega) (by decide) ?_
      refine j_aload_n dX11_becomes_65 rfl rfl ?_
      refine t_getR (b := 80) dX11_becomes_66 jfl_X11_21 (fun _ _ _ => rfl) rfl ?_
      refine j_iload dX11_becomes_69 rfl ?_
      refine j_iconst (v := nI 1) dX11_becomes_71 rfl ?_
      refine jn_isub dX11_becomes_72 (by omega) ?_
      refine j_aload_n dX11_becomes_73 rfl rfl ?_
      refine t_getR (b := 80) dX11_becomes_74 jfl_X11_21 (fun _ _ _ => rfl) rfl ?_
      refine j_iload dX11_becomes_77 rfl ?_
      refine t_iaload dX11_becomes_79 (fun _ _ _ => rfl) (by omega) (by decide) ?_
      refine j_topE (e' := nI (shM af k k)) (by rw [vu_n _ _ _ (by decide), vu_n _ _ _ (by decide), bA_80]; rfl) ?_
      refine t_iastore dX11_becomes_80 (fun _ _ _ => rfl) (by omega) (by decide) ?_
      refine jn_iinc (lv' := [some (.ref 76), some (.int _), some (.int _), some (.int _), some (.int _)]) dX11_becomes_81 rfl (by decide) rfl ?_
      refine j_goto (tgt := 26) dX11_becomes_84 (by decide) ?_
      rw [bA_78, upd_nIf, shM_s _ h1, bA_p78, bA_79, upd_nIf, shM_s _ h1, bA_p79, bA_80, upd_nIf, shM_s _ h1, bA_p80]
      exact ih (k + 1) (by omega) (by omega) (by omega)

set_option maxHeartbeats 200000 in
set_option maxRecDepth 100000 in
theorem m_becomes (hv : A 77 = nIf v) {dn : Nat} {pl bf af : Nat → Nat} (hd : X 76 5 = nI dn) (hd40 : dn ≤ 40) (h78 : A 78 = nIf pl) (h79 : A 79 = nIf bf) (h80 : A 80 = nIf af) {p x : Nat} (hp : p < 8) (hb : v p < 2 ^ 31) (hx : x < 2 ^ 31) (hne : v p ≠ x) : jMet (d) yX11_becomes cX11_becomes 5 (some .int) 0 0 [.ref 76, .int (nI p), .int (nI x)] (tw X A L) (jRi (nI (v p)) (tw (va_up X 76 (upd (upd (X 76) 5 (nI (rmd dn))) 4 (nI (rmd dn)))) (va_up (bA A (rm1 pl dn p) (rm1 bf dn (v p)) (rm1 af dn x)) 77 (nIf (updN v p x))) L)) := by
  refine jMet_of (by decide) (Nat.le_of_ble_eq_true rfl) none (Or.inl rfl) ?_
  show jWP none RX11 cX11_becomes 5 (some .int) (d) 0 0 0 [some (.ref 76), some (.int (nI p)), some (.int (nI x)), none, none] [] (tw X A L) (jRi (nI (v p)) (tw (va_up X 76 (upd (upd (X 76) 5 (nI (rmd dn))) 4 (nI (rmd dn)))) (va_up (bA A (rm1 pl dn p) (rm1 bf dn (v p)) (rm1 af dn x)) 77 (nIf (updN v p x))) L))
  refine j_aload_n dX11_becomes_0 rfl rfl ?_
  refine t_getR (b := 77) dX11_becomes_1 jfl_X11_11 (fun _ _ _ => rfl) rfl ?_
  refine j_iload_n dX11_becomes_4 rfl rfl ?_
  refine t_iaload dX11_becomes_5 (fun _ _ _ => rfl) (by omega) (by decide) ?_
  refine j_topE (e' := nI (v p)) (by rw [hv]; rfl) ?_
  refine j_istore_n (lv' := [some (.ref 76), some (.int _), some (.int _), some (.int _), none]) dX11_becomes_6 rfl (by decide) rfl ?_
  refine j_iload_n dX11_becomes_7 rfl rfl ?_
  refine j_iload_n dX11_becomes_8 rfl rfl ?_
  refine jn_icmp_ne (tgt := 14) dX11_becomes_9 (by decide) (by omega) (by omega) (fun h9 => ?_) (fun h9 => absurd h9 hne)
  refine j_aload_n dX11_becomes_14 rfl rfl ?_
  refine t_getI dX11_becomes_15 jfl_X11_103 (fun _ _ _ => rfl) (fun _ => rfl) ?_
  refine j_topE (e' := nI dn) hd ?_
  refine j_bipush (v := nI 40) dX11_becomes_18 rfl ?_
  refine jn_icmp_ne (tgt := 97) dX11_becomes_20 (by decide) (by omega) (by omega) (fun h20 => ?_) (fun h20 => ?_)
  · refine j_aload_n dX11_becomes_97 rfl rfl ?_
    refine t_getR (b := 78) dX11_becomes_98 jfl_X11_15 (fun _ _ _ => rfl) rfl ?_
    refine j_aload_n dX11_becomes_101 rfl rfl ?_
    refine t_getI dX11_becomes_102 jfl_X11_103 (fun _ _ _ => rfl) (fun _ => rfl) ?_
    refine j_topE (e' := nI dn) hd ?_
    refine j_iload_n dX11_becomes_105 rfl rfl ?_
    refine t_iastore dX11_becomes_106 (fun _ _ _ => rfl) (by omega) (by decide) ?_
    refine j_aload_n dX11_becomes_107 rfl rfl ?_
    refine t_getR (b := 79) dX11_becomes_108 jfl_X11_18 (fun _ _ _ => rfl) rfl ?_
    refine j_aload_n dX11_becomes_111 rfl rfl ?_
    refine t_getI dX11_becomes_112 jfl_X11_103 (fun _ _ _ => rfl) (fun _ => rfl) ?_
    refine j_topE (e' := nI dn) hd ?_
    refine j_iload_n dX11_becomes_115 rfl rfl ?_
    refine t_iastore dX11_becomes_116 (fun _ _ _ => rfl) (by omega) (by decide) ?_
    refine j_aload_n dX11_becomes_117 rfl rfl ?_
    refine t_getR (b := 80) dX11_becomes_118 jfl_X11_21 (fun _ _ _ => rfl) rfl ?_
    refine j_aload_n dX11_becomes_121 rfl rfl ?_
    refine t_getI dX11_becomes_122 jfl_X11_103 (fun _ _ _ => rfl) (fun _ => rfl) ?_
    refine j_topE (e' := nI dn) hd ?_
    refine j_iload_n dX11_becomes_125 rfl rfl ?_
    refine t_iastore dX11_becomes_126 (fun _ _ _ => rfl) (by omega) (by decide) ?_
    refine j_aload_n dX11_becomes_127 rfl rfl ?_
    refine j_dup dX11_becomes_128 rfl ?_
    refine t_getI dX11_becomes_129 jfl_X11_103 (fun _ _ _ => rfl) (fun _ => rfl) ?_
    refine j_topE (e' := nI dn) hd ?_
    refine j_iconst (v := nI 1) dX11_becomes_132 rfl ?_
    refine jn_iadd dX11_becomes_133 ?_
    refine t_putI dX11_becomes_134 jfl_X11_103 (fun _ _ _ => rfl) (fun _ _ => rfl) (Nat.le_of_ble_eq_true rfl) rfl rfl ?_
    refine j_aload_n dX11_becomes_137 rfl rfl ?_
    refine j_aload_n dX11_becomes_138 rfl rfl ?_
    refine t_getI dX11_becomes_139 jfl_X11_103 (fun _ _ _ => rfl) (fun _ => rfl) ?_
    refine j_topE (e' := nI (dn + 1)) (by rw [vu_s, ud_s]) ?_
    refine t_putI dX11_becomes_142 jfl_X11_106 (fun _ _ _ => rfl) (fun _ _ => rfl) (Nat.le_of_ble_eq_true rfl) rfl rfl ?_
    refine j_aload_n dX11_becomes_145 rfl rfl ?_
    refine t_getR (b := 77) dX11_becomes_146 jfl_X11_11 (fun _ _ _ => rfl) rfl ?_
    refine j_iload_n dX11_becomes_149 rfl rfl ?_
    refine j_iload_n dX11_becomes_150 rfl rfl ?_
    refine t_iastore dX11_becomes_151 (fun _ _ _ => rfl) (by omega) (by decide) ?_
    refine j_iload_n dX11_becomes_152 rfl rfl ?_
    refine j_ireturn dX11_becomes_153 rfl ?_
    refine ⟨rfl, tw_eq ?_ ?_ rfl⟩
    · rw [rmd, if_neg (by omega)]; simp only [vu_s, vu_up]
    · simp only [rm1, if_neg (show ¬ dn = 40 by omega)]
      simp only [h78, upd_nIf, vu_n _ _ _ (show (79 : Nat) ≠ 78 by decide), vu_n _ _ _ (show (80 : Nat) ≠ 79 by decide), vu_n _ _ _ (show (80 : Nat) ≠ 78 by decide), vu_n _ _ _ (show (77 : Nat) ≠ 78 by decide), vu_n _ _ _ (show (77 : Nat) ≠ 79 by decide), vu_n _ _ _ (show (77 : Nat) ≠ 80 by decide), h79, h80, hv]
      rfl
  · refine j_iconst (v := nI 1) dX11_becomes_23 rfl ?_
    refine j_istore (lv' := [some (.ref 76), some (.int _), some (.int _), some (.int _), some (.int _)]) dX11_becomes_24 (by decide) rfl ?_
    have e40 : dn = 40 := by omega
    refine j_atw (congrArg (fun z => tw X z L) (show A = bA A (shM pl 1) (shM bf 1) (shM af 1) from by rw [shM_1, shM_1, shM_1]; exact (bA_self h78 h79 h80).symm)) (l_becomes (p := nI p) (x := nI x) (y := nI (v p)) ?_ 40 1 (by decide) (by decide) (by decide))
    refine j_aload_n dX11_becomes_87 rfl rfl ?_
    refine j_dup dX11_becomes_88 rfl ?_
    refine t_getI dX11_becomes_89 jfl_X11_103 (fun _ _ _ => rfl) (fun _ => rfl) ?_
    refine j_topE (e' := nI 40) (by rw [hd, e40]) ?_
    refine j_iconst (v := nI 1) dX11_becomes_92 rfl ?_
    refine jn_isub dX11_becomes_93 (by decide) ?_
    refine t_putI dX11_becomes_94 jfl_X11_103 (fun _ _ _ => rfl) (fun _ _ => rfl) (Nat.le_of_ble_eq_true rfl) rfl rfl ?_
    refine j_aload_n dX11_becomes_97 rfl rfl ?_
    refine t_getR (b := 78) dX11_becomes_98 jfl_X11_15 (fun _ _ _ => rfl) rfl ?_
    refine j_aload_n dX11_becomes_101 rfl rfl ?_
    refine t_getI dX11_becomes_102 jfl_X11_103 (fun _ _ _ => rfl) (fun _ => rfl) ?_
    refine j_topE (e' := nI 39) (by rw [vu_s, ud_s]) ?_
    refine j_iload_n dX11_becomes_105 rfl rfl ?_
    refine t_iastore dX11_becomes_106 (fun _ _ _ => rfl) (by omega) (by decide) ?_
    refine j_aload_n dX11_becomes_107 rfl rfl ?_
    refine t_getR (b := 79) dX11_becomes_108 jfl_X11_18 (fun _ _ _ => rfl) rfl ?_
    refine j_aload_n dX11_becomes_111 rfl rfl ?_
    refine t_getI dX11_becomes_112 jfl_X11_103 (fun _ _ _ => rfl) (fun _ => rfl) ?_
    refine j_topE (e' := nI 39) (by rw [vu_s, ud_s]) ?_
    refine j_iload_n dX11_becomes_115 rfl rfl ?_
    refine t_iastore dX11_becomes_116 (fun _ _ _ => rfl) (by omega) (by decide) ?_
    refine j_aload_n dX11_becomes_117 rfl rfl ?_
    refine t_getR (b := 80) dX11_becomes_118 jfl_X11_21 (fun _ _ _ => rfl) rfl ?_
    refine j_aload_n dX11_becomes_121 rfl rfl ?_
    refine t_getI dX11_becomes_122 jfl_X11_103 (fun _ _ _ => rfl) (fun _ => rfl) ?_
    refine j_topE (e' := nI 39) (by rw [vu_s, ud_s]) ?_
    refine j_iload_n dX11_becomes_125 rfl rfl ?_
    refine t_iastore dX11_becomes_126 (fun _ _ _ => rfl) (by omega) (by decide) ?_
    refine j_aload_n dX11_becomes_127 rfl rfl ?_
    refine j_dup dX11_becomes_128 rfl ?_
    refine t_getI dX11_becomes_129 jfl_X11_103 (fun _ _ _ => rfl) (fun _ => rfl) ?_
    refine j_topE (e' := nI 39) (by rw [vu_s, ud_s]) ?_
    refine j_iconst (v := nI 1) dX11_becomes_132 rfl ?_
    refine jn_iadd dX11_becomes_133 ?_
    refine t_putI dX11_becomes_134 jfl_X11_103 (fun _ _ _ => rfl) (fun _ _ => rfl) (Nat.le_of_ble_eq_true rfl) rfl rfl ?_
    refine j_aload_n dX11_becomes_137 rfl rfl ?_
    refine j_aload_n dX11_becomes_138 rfl rfl ?_
    refine t_getI dX11_becomes_139 jfl_X11_103 (fun _ _ _ => rfl) (fun _ => rfl) ?_
    refine j_topE (e' := nI 40) (by rw [vu_s, ud_s]) ?_
    refine t_putI dX11_becomes_142 jfl_X11_106 (fun _ _ _ => rfl) (fun _ _ => rfl) (Nat.le_of_ble_eq_true rfl) rfl rfl ?_
    refine j_aload_n dX11_becomes_145 rfl rfl ?_
    refine t_getR (b := 77) dX11_becomes_146 jfl_X11_11 (fun _ _ _ => rfl) rfl ?_
    refine j_iload_n dX11_becomes_149 rfl rfl ?_
    refine j_iload_n dX11_becomes_150 rfl rfl ?_
    refine t_iastore dX11_becomes_151 (fun _ _ _ => rfl) (by omega) (by decide) ?_
    refine j_iload_n dX11_becomes_152 rfl rfl ?_
    refine j_ireturn dX11_becomes_153 rfl ?_
    refine ⟨rfl, tw_eq ?_ ?_ rfl⟩
    · rw [rmd, if_pos e40]; simp only [vu_s, vu_up, ud_ud]
    · simp only [rm1, if_pos e40]
      simp only [bA_78, upd_nIf, bA_p78, bA_79, bA_p79, bA_80, bA_p80]
      rw [bA_n _ _ _ _ (by decide) (by decide) (by decide), hv, upd_nIf]

end CT41