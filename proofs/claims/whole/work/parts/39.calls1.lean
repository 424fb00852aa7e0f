theorem ixle {c : Int32} {m : Nat} (h1 : ¬ c < 0) (h2 : ¬ nI m < c) (hm : m < 2 ^ 30) : ∃ j, j ≤ m ∧ c = nI j := by
  rcases pk_ix c (n := m + 1) (by omega) with h | h | ⟨j, hj, rfl⟩
  · exact absurd h h1
  · exact absurd (Int32.lt_iff_toInt_lt.mpr (by have := Int32.le_iff_toInt_le.mp h; rw [nI_toInt (by omega)] at *; omega)) h2
  · exact ⟨j, by omega, rfl⟩
theorem posI {c : Int32} (h : ¬ c < 0) : ∃ k, k < 2 ^ 31 ∧ c = nI k := by
  have h1 : 0 ≤ c.toInt := by
    have := Int32.le_iff_toInt_le.mp (Int32.not_lt.mp h)
    exact this
  have h2 := Int32.toInt_lt c
  refine ⟨c.toInt.toNat, by omega, ?_⟩
  refine Int32.toInt_inj.mp ?_
  rw [nI_toInt (by omega)]
  omega
theorem isT_cases {n : Nat} (hn : n ≤ 60) (c t : Int32) : isT n c t = nI 0 ∨ ∃ j t', c = nI j ∧ t = nI t' ∧ thr n j t' := by
  unfold isT
  by_cases h0 : t = 0
  · rw [if_pos h0]
    rcases isA_cases hn c with h | ⟨j, hj, rfl⟩
    · exact Or.inl h
    · exact Or.inr ⟨j, 0, rfl, h0, Or.inl ⟨rfl, hj⟩⟩
  · rw [if_neg h0]
    by_cases h1 : t = nI 1
    · rw [if_pos h1]
      by_cases hc : c = 0
      · exact Or.inr ⟨0, 1, hc, h1, Or.inr ⟨Or.inl rfl, rfl⟩⟩
      · exact Or.inl (if_neg hc)
    · rw [if_neg h1]
      by_cases h2 : t = nI 2
      · rw [if_pos h2]
        by_cases hc : c = 0
        · exact Or.inr ⟨0, 2, hc, h2, Or.inr ⟨Or.inr rfl, rfl⟩⟩
        · exact Or.inl (if_neg hc)
      · exact Or.inl (if_neg h2)
theorem mb_cases {t : Nat} (v : Int32) : mb t v = nI 0 ∨ ∃ x, x ≤ mx t ∧ v = nI x := by
  unfold mb
  have hm : mx t < 2 ^ 30 := by unfold mx; split <;> (try split) <;> decide
  by_cases h1 : v < 0
  · exact Or.inl (if_pos h1)
  · rw [if_neg h1]
    by_cases h2 : nI (mx t) < v
    · exact Or.inl (if_pos h2)
    · exact Or.inr (ixle h1 h2 hm)
theorem mb_in {t x : Nat} (h : x ≤ mx t) : mb t (nI x) = nI 1 := by
  have hm : mx t < 2 ^ 30 := by unfold mx; split <;> (try split) <;> decide
  unfold mb
  rw [if_neg (nI_pos (by omega)), if_neg (nI_nlt h (by omega))]
theorem mx_le (t : Nat) : mx t ≤ 48 := by unfold mx; split <;> (try split) <;> decide
section CT20
variable {d : Nat} {X A : Nat → Nat → Int32} {L : Nat → Nat → Int64} {w : jW} {B : Nat} {cd vl st an en : Nat → Nat} {n na : Nat} {v : Nat → Nat}

set_option maxHeartbeats 4000000 in
set_option maxRecDepth 100000 in
theorem c_account_no {c : Int32} (h : isc c = nI 0) : jMet (d + 1) yX10_account cX10_account 2 (some .int) 0 0 [.ref 4, .int c] (tw X A L) (jRi (-1) (tw X A L)) := by
  refine jMet_of (by decide) (Nat.le_of_ble_eq_true rfl) none (Or.inl rfl) ?_
  show jWP none RX10 cX10_account 2 (some .int) (d + 1) 0 0 0 [some (.ref 4), some (.int c)] [] (tw X A L) (jRi (-1) (tw X A L))
  refine j_iload_n dX10_account_0 rfl rfl ?_
  refine j_callSi [.int _] [] dX10_account_1 jlk_X10_88 rfl rfl (Nat.le_of_ble_eq_true rfl) (c_X1_isCell) ?_
  refine j_if_eq (tgt := 18) dX10_account_4 (by decide) (fun h4 => ?_) (fun h4 => absurd h h4)
  refine j_iconst (v := (-1)) dX10_account_18 rfl ?_
  refine j_ireturn dX10_account_19 rfl ?_
  exact ⟨rfl, rfl⟩

set_option maxHeartbeats 4000000 in
set_option maxRecDepth 100000 in
theorem c_account_full (hr : rul B cd vl st an en n na v X A) (h : na = 6) {j : Nat} (hj : j < 49) : jMet (d + 1) yX10_account cX10_account 2 (some .int) 0 0 [.ref 4, .int (nI j)] (tw X A L) (jRi (-3) (tw X A L)) := by
  refine jMet_of (by decide) (Nat.le_of_ble_eq_true rfl) none (Or.inl rfl) ?_
  show jWP none RX10 cX10_account 2 (some .int) (d + 1) 0 0 0 [some (.ref 4), some (.int (nI j))] [] (tw X A L) (jRi (-3) (tw X A L))
  obtain ⟨hB, r2, r3, r4, r5, r6, r7, r8, r9, r10, r11, r12, r13⟩ := id hr
  refine j_iload_n dX10_account_0 rfl rfl ?_
  refine j_callSi [.int _] [] dX10_account_1 jlk_X10_88 rfl rfl (Nat.le_of_ble_eq_true rfl) (c_X1_isCell_in hj) ?_
  refine j_if_eq (tgt := 18) dX10_account_4 (by decide) (fun h => absurd h (by decide)) (fun _ => ?_)
  refine j_aload_n dX10_account_7 rfl rfl ?_
  refine t_getR (b := 10) dX10_account_8 jfl_X10_19 (fun _ _ _ => rfl) rfl ?_
  refine j_iload_n dX10_account_11 rfl rfl ?_
  refine j_callVi [.int _] [] dX10_account_12 jlk_X10_92 rfl rfl rfl rfl (Nat.le_of_ble_eq_true rfl) (c_X7_addAccount_full r10 r11 h) ?_
  refine j_goto (tgt := 19) dX10_account_15 (by decide) ?_
  refine j_ireturn dX10_account_19 rfl ?_
  exact ⟨rfl, rfl⟩

set_option maxHeartbeats 4000000 in
set_option maxRecDepth 100000 in
theorem c_account (hr : rul B cd vl st an en n na v X A) (h : na < 6) {j : Nat} (hj : j < 49) : jMet (d + 1) yX10_account cX10_account 2 (some .int) 0 0 [.ref 4, .int (nI j)] (tw X A L) (jRi (nI na) (tw (va_up X 10 (upd (X 10) 1 (nI (na + 1)))) (va_up A 11 (nIf (updN v na j))) L)) := by
  refine jMet_of (by decide) (Nat.le_of_ble_eq_true rfl) none (Or.inl rfl) ?_
  show jWP none RX10 cX10_account 2 (some .int) (d + 1) 0 0 0 [some (.ref 4), some (.int (nI j))] [] (tw X A L) (jRi (nI na) (tw (va_up X 10 (upd (X 10) 1 (nI (na + 1)))) (va_up A 11 (nIf (updN v na j))) L))
  obtain ⟨hB, r2, r3, r4, r5, r6, r7, r8, r9, r10, r11, r12, r13⟩ := id hr
  refine j_iload_n dX10_account_0 rfl rfl ?_
  refine j_callSi [.int _] [] dX10_account_1 jlk_X10_88 rfl rfl (Nat.le_of_ble_eq_true rfl) (c_X1_isCell_in hj) ?_
  refine j_if_eq (tgt := 18) dX10_account_4 (by decide) (fun h => absurd h (by decide)) (fun _ => ?_)
  refine j_aload_n dX10_account_7 rfl rfl ?_
  refine t_getR (b := 10) dX10_account_8 jfl_X10_19 (fun _ _ _ => rfl) rfl ?_
  refine j_iload_n dX10_account_11 rfl rfl ?_
  refine j_callVi [.int _] [] dX10_account_12 jlk_X10_92 rfl rfl rfl rfl (Nat.le_of_ble_eq_true rfl) (c_X7_addAccount r10 r11 r12 h) ?_
  refine j_goto (tgt := 19) dX10_account_15 (by decide) ?_
  refine j_ireturn dX10_account_19 rfl ?_
  exact ⟨rfl, rfl⟩

set_option maxHeartbeats 4000000 in
set_option maxRecDepth 100000 in
theorem c_mend_no (hr : rul B cd vl st an en n na v X A) {c t : Int32} (h : isT na c t = nI 0) {x : Int32} : jMet (d + 4) yX10_mend cX10_mend 4 (some .int) 0 0 [.ref 4, .int c, .int t, .int x] (tw X A L) (jRi (-1) (tw X A L)) := by
  refine jMet_of (by decide) (Nat.le_of_ble_eq_true rfl) none (Or.inl rfl) ?_
  show jWP none RX10 cX10_mend 4 (some .int) (d + 4) 0 0 0 [some (.ref 4), some (.int c), some (.int t), some (.int x)] [] (tw X A L) (jRi (-1) (tw X A L))
  obtain ⟨hB, r2, r3, r4, r5, r6, r7, r8, r9, r10, r11, r12, r13⟩ := id hr
  refine j_aload_n dX10_mend_0 rfl rfl ?_
  refine t_getR (b := 10) dX10_mend_1 jfl_X10_19 (fun _ _ _ => rfl) rfl ?_
  refine j_iload_n dX10_mend_4 rfl rfl ?_
  refine j_iload_n dX10_mend_5 rfl rfl ?_
  refine j_callVi [.int _, .int _] [] dX10_mend_6 jlk_X10_116 rfl rfl rfl rfl (Nat.le_of_ble_eq_true rfl) (c_X7_isThere r10 r11) ?_
  refine j_if_eq (tgt := 20) dX10_mend_9 (by decide) (fun h9 => ?_) (fun h9 => absurd h h9)
  refine j_iconst (v := (-1)) dX10_mend_20 rfl ?_
  refine j_ireturn dX10_mend_21 rfl ?_
  exact ⟨rfl, rfl⟩

set_option maxHeartbeats 4000000 in
set_option maxRecDepth 100000 in
theorem c_mend_no2 (hr : rul B cd vl st an en n na v X A) {j t : Nat} (ht : thr na j t) {x : Int32} (h : mb t x = nI 0) : jMet (d + 4) yX10_mend cX10_mend 4 (some .int) 0 0 [.ref 4, .int (nI j), .int (nI t), .int x] (tw X A L) (jRi (-1) (tw X A L)) := by
  refine jMet_of (by decide) (Nat.le_of_ble_eq_true rfl) none (Or.inl rfl) ?_
  show jWP none RX10 cX10_mend 4 (some .int) (d + 4) 0 0 0 [some (.ref 4), some (.int (nI j)), some (.int (nI t)), some (.int x)] [] (tw X A L) (jRi (-1) (tw X A L))
  obtain ⟨hB, r2, r3, r4, r5, r6, r7, r8, r9, r10, r11, r12, r13⟩ := id hr
  refine j_aload_n dX10_mend_0 rfl rfl ?_
  refine t_getR (b := 10) dX10_mend_1 jfl_X10_19 (fun _ _ _ => rfl) rfl ?_
  refine j_iload_n dX10_mend_4 rfl rfl ?_
  refine j_iload_n dX10_mend_5 rfl rfl ?_
  refine j_callVi [.int _, .int _] [] dX10_mend_6 jlk_X10_116 rfl rfl rfl rfl (Nat.le_of_ble_eq_true rfl) (c_X7_isThere_in r10 r11 ht) ?_
  refine j_if_eq (tgt := 20) dX10_mend_9 (by decide) (fun h => absurd h (by decide)) (fun _ => ?_)
  refine j_iload_n dX10_mend_12 rfl rfl ?_
  refine j_iload_n dX10_mend_13 rfl rfl ?_
  refine j_callSi [.int _, .int _] [] dX10_mend_14 jlk_X10_120 rfl rfl (Nat.le_of_ble_eq_true rfl) (c_X7_mayBe (thr_lt ht r11).2.2) ?_
  refine j_if_ne (tgt := 22) dX10_mend_17 (by decide) (fun h17 => absurd h h17) (fun h17 => ?_)
  refine j_iconst (v := (-1)) dX10_mend_20 rfl ?_
  refine j_ireturn dX10_mend_21 rfl ?_
  exact ⟨rfl, rfl⟩

set_option maxHeartbeats 4000000 in
set_option maxRecDepth 100000 in
theorem c_mend_same (hr : rul B cd vl st an en n na v X A) {j t : Nat} (ht : thr na j t) (hx : v (pOf j t) ≤ mx t) (hb : v (pOf j t) < 2 ^ 31) : jMet (d + 4) yX10_mend cX10_mend 4 (some .int) 0 0 [.ref 4, .int (nI j), .int (nI t), .int (nI (v (pOf j t)))] (tw X A L) (jRi (nI (v (pOf j t))) (tw X A L)) := by
  refine jMet_of (by decide) (Nat.le_of_ble_eq_true rfl) none (Or.inl rfl) ?_
  show jWP none RX10 cX10_mend 4 (some .int) (d + 4) 0 0 0 [some (.ref 4), some (.int (nI j)), some (.int (nI t)), some (.int (nI (v (pOf j t))))] [] (tw X A L) (jRi (nI (v (pOf j t))) (tw X A L))
  obtain ⟨hB, r2, r3, r4, r5, r6, r7, r8, r9, r10, r11, r12, r13⟩ := id hr
  refine j_aload_n dX10_mend_0 rfl rfl ?_
  refine t_getR (b := 10) dX10_mend_1 jfl_X10_19 (fun _ _ _ => rfl) rfl ?_
  refine j_iload_n dX10_mend_4 rfl rfl ?_
  refine j_iload_n dX10_mend_5 rfl rfl ?_
  refine j_callVi [.int _, .int _] [] dX10_mend_6 jlk_X10_116 rfl rfl rfl rfl (Nat.le_of_ble_eq_true rfl) (c_X7_isThere_in r10 r11 ht) ?_
  refine j_if_eq (tgt := 20) dX10_mend_9 (by decide) (fun h => absurd h (by decide)) (fun _ => ?_)
  refine j_iload_n dX10_mend_12 rfl rfl ?_
  refine j_iload_n dX10_mend_13 rfl rfl ?_
  refine j_callSi [.int _, .int _] [] dX10_mend_14 jlk_X10_120 rfl rfl (Nat.le_of_ble_eq_true rfl) (jMet_i (c_X7_mayBe (thr_lt ht r11).2.2) (mb_in hx) rfl) ?_
  refine j_if_ne (tgt := 22) dX10_mend_17 (by decide) (fun _ => ?_) (fun h => absurd h (by decide))
  refine j_aload_n dX10_mend_22 rfl rfl ?_
  refine t_getR (b := 10) dX10_mend_23 jfl_X10_19 (fun _ _ _ => rfl) rfl ?_
  refine j_iload_n dX10_mend_26 rfl rfl ?_
  refine j_iload_n dX10_mend_27 rfl rfl ?_
  refine j_iload_n dX10_mend_28 rfl rfl ?_
  refine j_callVi [.int _, .int _, .int _] [] dX10_mend_29 jlk_X10_123 rfl rfl rfl rfl (Nat.le_of_ble_eq_true rfl) (c_X7_change_same r10 r11 r12 ht hb) ?_
  refine j_ireturn dX10_mend_32 rfl ?_
  exact ⟨rfl, rfl⟩

set_option maxHeartbeats 4000000 in
set_option maxRecDepth 100000 in
theorem c_mend (hr : rul B cd vl st an en n na v X A) {dn : Nat} {pl bf af : Nat → Nat} (hd : X 10 5 = nI dn) (hd40 : dn ≤ 40) (h12 : A 12 = nIf pl) (h13 : A 13 = nIf bf) (h14 : A 14 = nIf af) {j t x : Nat} (ht : thr na j t) (hx : x ≤ mx t) (hb : v (pOf j t) < 2 ^ 31) (hne : v (pOf j t) ≠ x) : jMet (d + 4) yX10_mend cX10_mend 4 (some .int) 0 0 [.ref 4, .int (nI j), .int (nI t), .int (nI x)] (tw X A L) (jRi (nI (v (pOf j t))) (tw (va_up X 10 (upd (upd (X 10) 5 (nI (rmd dn))) 6 (nI (rmd dn)))) (va_up (va_up (va_up (va_up A 12 (nIf (rm1 pl dn (pOf j t)))) 13 (nIf (rm1 bf dn (v (pOf j t))))) 14 (nIf (rm1 af dn x))) 11 (nIf (updN v (pOf j t) x))) L)) := by
  refine jMet_of (by decide) (Nat.le_of_ble_eq_true rfl) none (Or.inl rfl) ?_
  show jWP none RX10 cX10_mend 4 (some .int) (d + 4) 0 0 0 [some (.ref 4), some (.int (nI j)), some (.int (nI t)), some (.int (nI x))] [] (tw X A L) (jRi (nI (v (pOf j t))) (tw (va_up X 10 (upd (upd (X 10) 5 (nI (rmd dn))) 6 (nI (rmd dn)))) (va_up (va_up (va_up (va_up A 12 (nIf (rm1 pl dn (pOf j t)))) 13 (nIf (rm1 bf dn (v (pOf j t))))) 14 (nIf (rm1 af dn x))) 11 (nIf (updN v (pOf j t) x))) L))
  obtain ⟨hB, r2, r3, r4, r5, r6, r7, r8, r9, r10, r11, r12, r13⟩ := id hr
  have hx31 : x < 2 ^ 31 := by have := mx_le t; omega
  refine j_aload_n dX10_mend_0 rfl rfl ?_
  refine t_getR (b := 10) dX10_mend_1 jfl_X10_19 (fun _ _ _ => rfl) rfl ?_
  refine j_iload_n dX10_mend_4 rfl rfl ?_
  refine j_iload_n dX10_mend_5 rfl rfl ?_
  refine j_callVi [.int _, .int _] [] dX10_mend_6 jlk_X10_116 rfl rfl rfl rfl (Nat.le_of_ble_eq_true rfl) (c_X7_isThere_in r10 r11 ht) ?_
  refine j_if_eq (tgt := 20) dX10_mend_9 (by decide) (fun h => absurd h (by decide)) (fun _ => ?_)
  refine j_iload_n dX10_mend_12 rfl rfl ?_
  refine j_iload_n dX10_mend_13 rfl rfl ?_
  refine j_callSi [.int _, .int _] [] dX10_mend_14 jlk_X10_120 rfl rfl (Nat.le_of_ble_eq_true rfl) (jMet_i (c_X7_mayBe (thr_lt ht r11).2.2) (mb_in hx) rfl) ?_
  refine j_if_ne (tgt := 22) dX10_mend_17 (by decide) (fun _ => ?_) (fun h => absurd h (by decide))
  refine j_aload_n dX10_mend_22 rfl rfl ?_
  refine t_getR (b := 10) dX10_mend_23 jfl_X10_19 (fun _ _ _ => rfl) rfl ?_
  refine j_iload_n dX10_mend_26 rfl rfl ?_
  refine j_iload_n dX10_mend_27 rfl rfl ?_
  refine j_iload_n dX10_mend_28 rfl rfl ?_
  refine j_callVi [.int _, .int _, .int _] [] dX10_mend_29 jlk_X10_123 rfl rfl rfl rfl (Nat.le_of_ble_eq_true rfl) (c_X7_change r10 r11 r12 hd hd40 h12 h13 h14 ht hb hx31 hne) ?_
  refine j_ireturn dX10_mend_32 rfl ?_
  exact ⟨rfl, rfl⟩

set_option maxHeartbeats 4000000 in
set_option maxRecDepth 100000 in
theorem c_of_bal (hr : rul B cd vl st an en n na v X A) {k : Nat} (hk : k < na) : jMet (d + 4) yX10_of cX10_of 3 (some .int) 0 0 [.ref 4, .int (nI k), .int (nI 3)] (tw X A L) (jRi (balS (A 44) (A 45) (nI k) 49) (tw X A L)) := by
  refine jMet_of (by decide) (Nat.le_of_ble_eq_true rfl) none (Or.inl rfl) ?_
  show jWP none RX10 cX10_of 3 (some .int) (d + 4) 0 0 0 [some (.ref 4), some (.int (nI k)), some (.int (nI 3))] [] (tw X A L) (jRi (balS (A 44) (A 45) (nI k) 49) (tw X A L))
  obtain ⟨hB, r2, r3, r4, r5, r6, r7, r8, r9, r10, r11, r12, r13⟩ := id hr
  refine j_iload_n dX10_of_0 rfl rfl ?_
  refine j_iconst (v := nI 3) dX10_of_1 rfl ?_
  refine j_icmp_ne (tgt := 29) dX10_of_2 (by decide) (fun h => absurd (by decide) h) (fun _ => ?_)
  refine j_aload_n dX10_of_5 rfl rfl ?_
  refine t_getR (b := 10) dX10_of_6 jfl_X10_19 (fun _ _ _ => rfl) rfl ?_
  refine j_iload_n dX10_of_9 rfl rfl ?_
  refine j_callVi [.int _] [] dX10_of_10 jlk_X10_127 rfl rfl rfl rfl (Nat.le_of_ble_eq_true rfl) (c_X7_isAccount_in r10 r11 hk) ?_
  refine j_if_eq (tgt := 27) dX10_of_13 (by decide) (fun h => absurd h (by decide)) (fun _ => ?_)
  refine j_aload_n dX10_of_16 rfl rfl ?_
  refine t_getR (b := 43) dX10_of_17 jfl_X10_46 (fun _ _ _ => rfl) rfl ?_
  refine j_iload_n dX10_of_20 rfl rfl ?_
  refine j_callVi [.int _] [] dX10_of_21 jlk_X10_130 rfl rfl rfl rfl (Nat.le_of_ble_eq_true rfl) (c_X0_balanceOf (Or.inr (Or.inl rfl))) ?_
  refine j_goto (tgt := 28) dX10_of_24 (by decide) ?_
  refine j_ireturn dX10_of_28 rfl ?_
  exact ⟨rfl, rfl⟩

set_option maxHeartbeats 4000000 in
set_option maxRecDepth 100000 in
theorem c_of_bal_no (hr : rul B cd vl st an en n na v X A) {c : Int32} (h : isA na c = nI 0) : jMet (d + 4) yX10_of cX10_of 3 (some .int) 0 0 [.ref 4, .int c, .int (nI 3)] (tw X A L) (jRi (-1) (tw X A L)) := by
  refine jMet_of (by decide) (Nat.le_of_ble_eq_true rfl) none (Or.inl rfl) ?_
  show jWP none RX10 cX10_of 3 (some .int) (d + 4) 0 0 0 [some (.ref 4), some (.int c), some (.int (nI 3))] [] (tw X A L) (jRi (-1) (tw X A L))
  obtain ⟨hB, r2, r3, r4, r5, r6, r7, r8, r9, r10, r11, r12, r13⟩ := id hr
  refine j_iload_n dX10_of_0 rfl rfl ?_
  refine j_iconst (v := nI 3) dX10_of_1 rfl ?_
  refine j_icmp_ne (tgt := 29) dX10_of_2 (by decide) (fun h => absurd (by decide) h) (fun _ => ?_)
  refine j_aload_n dX10_of_5 rfl rfl ?_
  refine t_getR (b := 10) dX10_of_6 jfl_X10_19 (fun _ _ _ => rfl) rfl ?_
  refine j_iload_n dX10_of_9 rfl rfl ?_
  refine j_callVi [.int _] [] dX10_of_10 jlk_X10_127 rfl rfl rfl rfl (Nat.le_of_ble_eq_true rfl) (c_X7_isAccount r10 r11) ?_
  refine j_if_eq (tgt := 27) dX10_of_13 (by decide) (fun h13 => ?_) (fun h13 => absurd h h13)
  refine j_iconst (v := (-1)) dX10_of_27 rfl ?_
  refine j_ireturn dX10_of_28 rfl ?_
  exact ⟨rfl, rfl⟩

set_option maxHeartbeats 4000000 in
set_option maxRecDepth 100000 in
theorem c_of_no (hr : rul B cd vl st an en n na v X A) {c t : Int32} (h3 : t ≠ nI 3) (h : isT na c t = nI 0) : jMet (d + 4) yX10_of cX10_of 3 (some .int) 0 0 [.ref 4, .int c, .int t] (tw X A L) (jRi (-1) (tw X A L)) := by
  refine jMet_of (by decide) (Nat.le_of_ble_eq_true rfl) none (Or.inl rfl) ?_
  show jWP none RX10 cX10_of 3 (some .int) (d + 4) 0 0 0 [some (.ref 4), some (.int c), some (.int t)] [] (tw X A L) (jRi (-1) (tw X A L))
  obtain ⟨hB, r2, r3, r4, r5, r6, r7, r8, r9, r10, r11, r12, r13⟩ := id hr
  refine j_iload_n dX10_of_0 rfl rfl ?_
  refine j_iconst (v := nI 3) dX10_of_1 rfl ?_
  refine j_icmp_ne (tgt := 29) dX10_of_2 (by decide) (fun h2 => ?_) (fun h2 => absurd (by first | exact h2 | simpa using h2) h3)
  refine j_aload_n dX10_of_29 rfl rfl ?_
  refine t_getR (b := 10) dX10_of_30 jfl_X10_19 (fun _ _ _ => rfl) rfl ?_
  refine j_iload_n dX10_of_33 rfl rfl ?_
  refine j_iload_n dX10_of_34 rfl rfl ?_
  refine j_callVi [.int _, .int _] [] dX10_of_35 jlk_X10_116 rfl rfl rfl rfl (Nat.le_of_ble_eq_true rfl) (c_X7_isThere r10 r11) ?_
  refine j_if_eq (tgt := 53) dX10_of_38 (by decide) (fun h38 => ?_) (fun h38 => absurd h h38)
  refine j_iconst (v := (-1)) dX10_of_53 rfl ?_
  refine j_ireturn dX10_of_54 rfl ?_
  exact ⟨rfl, rfl⟩

set_option maxHeartbeats 4000000 in
set_option maxRecDepth 100000 in
theorem c_of (hr : rul B cd vl st an en n na v X A) {j t : Nat} (ht : thr na j t) : jMet (d + 4) yX10_of cX10_of 3 (some .int) 0 0 [.ref 4, .int (nI j), .int (nI t)] (tw X A L) (jRi (nI (v (pOf j t))) (tw X A L)) := by
  refine jMet_of (by decide) (Nat.le_of_ble_eq_true rfl) none (Or.inl rfl) ?_
  show jWP none RX10 cX10_of 3 (some .int) (d + 4) 0 0 0 [some (.ref 4), some (.int (nI j)), some (.int (nI t))] [] (tw X A L) (jRi (nI (v (pOf j t))) (tw X A L))
  obtain ⟨hB, r2, r3, r4, r5, r6, r7, r8, r9, r10, r11, r12, r13⟩ := id hr
  have ht2 := (thr_lt ht r11).2.2
  refine j_iload_n dX10_of_0 rfl rfl ?_
  refine j_iconst (v := nI 3) dX10_of_1 rfl ?_
  refine jn_icmp_ne (tgt := 29) dX10_of_2 (by decide) (by omega) (by omega) (fun h2 => ?_) (fun h2 => absurd h2 (by omega))
  refine j_aload_n dX10_of_29 rfl rfl ?_
  refine t_getR (b := 10) dX10_of_30 jfl_X10_19 (fun _ _ _ => rfl) rfl ?_
  refine j_iload_n dX10_of_33 rfl rfl ?_
  refine j_iload_n dX10_of_34 rfl rfl ?_
  refine j_callVi [.int _, .int _] [] dX10_of_35 jlk_X10_116 rfl rfl rfl rfl (Nat.le_of_ble_eq_true rfl) (c_X7_isThere_in r10 r11 ht) ?_
  refine j_if_eq (tgt := 53) dX10_of_38 (by decide) (fun h => absurd h (by decide)) (fun _ => ?_)
  refine j_aload_n dX10_of_41 rfl rfl ?_
  refine t_getR (b := 10) dX10_of_42 jfl_X10_19 (fun _ _ _ => rfl) rfl ?_
  refine j_iload_n dX10_of_45 rfl rfl ?_
  refine j_iload_n dX10_of_46 rfl rfl ?_
  refine j_callVi [.int _, .int _] [] dX10_of_47 jlk_X10_133 rfl rfl rfl rfl (Nat.le_of_ble_eq_true rfl) (c_X7_valueOf r10 r11 r12 ht) ?_
  refine j_goto (tgt := 54) dX10_of_50 (by decide) ?_
  refine j_ireturn dX10_of_54 rfl ?_
  exact ⟨rfl, rfl⟩

set_option maxHeartbeats 4000000 in
set_option maxRecDepth 100000 in
theorem c_far {a b : Nat} (ha : a < 49) (hb : b < 49) : jMet (d + 2) yX10_far cX10_far 3 (some .int) 0 0 [.ref 4, .int (nI a), .int (nI b)] (tw X A L) (jRi (nI (dsN a b)) (tw X A L)) := by
  refine jMet_of (by decide) (Nat.le_of_ble_eq_true rfl) none (Or.inl rfl) ?_
  show jWP none RX10 cX10_far 3 (some .int) (d + 2) 0 0 0 [some (.ref 4), some (.int (nI a)), some (.int (nI b))] [] (tw X A L) (jRi (nI (dsN a b)) (tw X A L))
  refine j_iload_n dX10_far_0 rfl rfl ?_
  refine j_callSi [.int _] [] dX10_far_1 jlk_X10_88 rfl rfl (Nat.le_of_ble_eq_true rfl) (c_X1_isCell_in (by omega)) ?_
  refine j_if_eq (tgt := 26) dX10_far_4 (by decide) (fun h => absurd h (by decide)) (fun _ => ?_)
  refine j_iload_n dX10_far_7 rfl rfl ?_
  refine j_callSi [.int _] [] dX10_far_8 jlk_X10_88 rfl rfl (Nat.le_of_ble_eq_true rfl) (c_X1_isCell_in (by omega)) ?_
  refine j_if_eq (tgt := 26) dX10_far_11 (by decide) (fun h => absurd h (by decide)) (fun _ => ?_)
  refine j_aload_n dX10_far_14 rfl rfl ?_
  refine t_getR (b := 5) dX10_far_15 jfl_X10_10 (fun _ _ _ => rfl) rfl ?_
  refine j_iload_n dX10_far_18 rfl rfl ?_
  refine j_iload_n dX10_far_19 rfl rfl ?_
  refine j_callVi [.int _, .int _] [] dX10_far_20 jlk_X10_155 rfl rfl rfl rfl (Nat.le_of_ble_eq_true rfl) (c_X1_distance (by omega) (by omega)) ?_
  refine j_goto (tgt := 27) dX10_far_23 (by decide) ?_
  refine j_ireturn dX10_far_27 rfl ?_
  exact ⟨rfl, rfl⟩

set_option maxHeartbeats 4000000 in
set_option maxRecDepth 100000 in
theorem c_far_no {a b : Int32} (h : isc a = nI 0 ∨ isc b = nI 0) : jMet (d + 2) yX10_far cX10_far 3 (some .int) 0 0 [.ref 4, .int a, .int b] (tw X A L) (jRi (-1) (tw X A L)) := by
  refine jMet_of (by decide) (Nat.le_of_ble_eq_true rfl) none (Or.inl rfl) ?_
  show jWP none RX10 cX10_far 3 (some .int) (d + 2) 0 0 0 [some (.ref 4), some (.int a), some (.int b)] [] (tw X A L) (jRi (-1) (tw X A L))
  refine j_iload_n dX10_far_0 rfl rfl ?_
  refine j_callSi [.int _] [] dX10_far_1 jlk_X10_88 rfl rfl (Nat.le_of_ble_eq_true rfl) (c_X1_isCell) ?_
  refine j_if_eq (tgt := 26) dX10_far_4 (by decide) (fun h4 => ?_) (fun h4 => ?_)
  · refine j_iconst (v := (-1)) dX10_far_26 rfl ?_
    refine j_ireturn dX10_far_27 rfl ?_
    exact ⟨rfl, rfl⟩
  · refine j_iload_n dX10_far_7 rfl rfl ?_
    refine j_callSi [.int _] [] dX10_far_8 jlk_X10_88 rfl rfl (Nat.le_of_ble_eq_true rfl) (c_X1_isCell) ?_
    refine j_if_eq (tgt := 26) dX10_far_11 (by decide) (fun h11 => ?_) (fun h11 => ?_)
    · refine j_iconst (v := (-1)) dX10_far_26 rfl ?_
      refine j_ireturn dX10_far_27 rfl ?_
      exact ⟨rfl, rfl⟩
    · exact absurd h (fun q => q.elim h4 h11)

set_option maxHeartbeats 4000000 in
set_option maxRecDepth 100000 in
theorem c_cell_no {c t : Int32} (h : isc c = nI 0 ∨ isA 10 t = nI 0) : jMet (d + 2) yX10_cell cX10_cell 3 (some .int) 0 0 [.ref 4, .int c, .int t] (tw X A L) (jRi (-1) (tw X A L)) := by
  refine jMet_of (by decide) (Nat.le_of_ble_eq_true rfl) none (Or.inl rfl) ?_
  show jWP none RX10 cX10_cell 3 (some .int) (d + 2) 0 0 0 [some (.ref 4), some (.int c), some (.int t)] [] (tw X A L) (jRi (-1) (tw X A L))
  refine j_iload_n dX10_cell_0 rfl rfl ?_
  refine j_callSi [.int _] [] dX10_cell_1 jlk_X10_88 rfl rfl (Nat.le_of_ble_eq_true rfl) (c_X1_isCell) ?_
  refine j_if_eq (tgt := 17) dX10_cell_4 (by decide) (fun h4 => ?_) (fun h4 => ?_)
  · refine j_iconst (v := (-1)) dX10_cell_17 rfl ?_
    refine j_ireturn dX10_cell_18 rfl ?_
    exact ⟨rfl, rfl⟩
  · refine j_iload_n dX10_cell_7 rfl rfl ?_
    refine j_if_lt (tgt := 17) dX10_cell_8 (by decide) (fun h8 => ?_) (fun h8 => ?_)
    · refine j_iconst (v := (-1)) dX10_cell_17 rfl ?_
      refine j_ireturn dX10_cell_18 rfl ?_
      exact ⟨rfl, rfl⟩
    · refine j_iload_n dX10_cell_11 rfl rfl ?_
      refine j_bipush (v := nI 10) dX10_cell_12 rfl ?_
      refine j_icmp_lt (tgt := 19) dX10_cell_14 (by decide) (fun h14 => ?_) (fun h14 => ?_)
      · exfalso
        rcases h with h | h
        · exact h4 h
        · rcases pk_ix t (n := 10) (by decide) with q | q | ⟨j, hj, rfl⟩
          · exact h8 q
          · exact absurd h14 (Int32.not_lt.mpr q)
          · rw [isA_in hj (by decide)] at h; exact absurd h (by decide)
      · refine j_iconst (v := (-1)) dX10_cell_17 rfl ?_
        refine j_ireturn dX10_cell_18 rfl ?_
        exact ⟨rfl, rfl⟩

set_option maxHeartbeats 4000000 in
set_option maxRecDepth 100000 in
theorem c_cell_0 (hc : cok X A 43) {j : Nat} (hj : j < 49) : jMet (d + 2) yX10_cell cX10_cell 3 (some .int) 0 0 [.ref 4, .int (nI j), .int (nI 0)] (tw X A L) (jRi (if heldB (A 44) j = true then A 44 j else (-2)) (tw X A L)) := by
  refine jMet_of (by decide) (Nat.le_of_ble_eq_true rfl) none (Or.inl rfl) ?_
  show jWP none RX10 cX10_cell 3 (some .int) (d + 2) 0 0 0 [some (.ref 4), some (.int (nI j)), some (.int (nI 0))] [] (tw X A L) (jRi (if heldB (A 44) j = true then A 44 j else (-2)) (tw X A L))
  refine j_iload_n dX10_cell_0 rfl rfl ?_
  refine j_callSi [.int _] [] dX10_cell_1 jlk_X10_88 rfl rfl (Nat.le_of_ble_eq_true rfl) (c_X1_isCell_in hj) ?_
  refine j_if_eq (tgt := 17) dX10_cell_4 (by decide) (fun h => absurd h (by decide)) (fun _ => ?_)
  refine j_iload_n dX10_cell_7 rfl rfl ?_
  refine j_if_lt (tgt := 17) dX10_cell_8 (by decide) (fun h => absurd h (by decide)) (fun _ => ?_)
  refine j_iload_n dX10_cell_11 rfl rfl ?_
  refine j_bipush (v := nI 10) dX10_cell_12 rfl ?_
  refine j_icmp_lt (tgt := 19) dX10_cell_14 (by decide) (fun _ => ?_) (fun h => absurd (by decide) h)
  refine j_iload_n dX10_cell_19 rfl rfl ?_
  refine j_tableIn (off := 32) (tgt := 52) dX10_cell_20 (by decide) (by decide) (by decide) (by decide) ?_
  refine j_aload_n dX10_cell_52 rfl rfl ?_
  refine t_getR (b := 43) dX10_cell_53 jfl_X10_46 (fun _ _ _ => rfl) rfl ?_
  refine j_iload_n dX10_cell_56 rfl rfl ?_
  refine j_callVi [.int _] [] dX10_cell_57 jlk_X10_137 rfl rfl rfl rfl (Nat.le_of_ble_eq_true rfl) (c_X0_holds (Or.inr (Or.inl rfl)) hj) ?_
  refine j_if_eq (tgt := 74) dX10_cell_60 (by decide) (fun h60 => ?_) (fun h60 => ?_)
  · refine j_bipush (v := (-2)) dX10_cell_74 rfl ?_
    refine j_ireturn dX10_cell_76 rfl ?_
    exact ⟨by rw [if_neg (by rw [bz_f h60]; decide)], rfl⟩
  · refine j_aload_n dX10_cell_63 rfl rfl ?_
    refine t_getR (b := 43) dX10_cell_64 jfl_X10_46 (fun _ _ _ => rfl) rfl ?_
    refine j_iload_n dX10_cell_67 rfl rfl ?_
    refine j_callVi [.int _] [] dX10_cell_68 jlk_X10_140 rfl rfl rfl rfl (Nat.le_of_ble_eq_true rfl) (c_X0_ownerOf (Or.inr (Or.inl rfl)) hj) ?_
    refine j_goto (tgt := 76) dX10_cell_71 (by decide) ?_
    refine j_ireturn dX10_cell_76 rfl ?_
    exact ⟨by rw [if_pos (bz_t h60)], rfl⟩

set_option maxHeartbeats 4000000 in
set_option maxRecDepth 100000 in
theorem c_cell_1 (hc : cok X A 43) {j : Nat} (hj : j < 49) : jMet (d + 2) yX10_cell cX10_cell 3 (some .int) 0 0 [.ref 4, .int (nI j), .int (nI 1)] (tw X A L) (jRi (A 45 j) (tw X A L)) := by
  refine jMet_of (by decide) (Nat.le_of_ble_eq_true rfl) none (Or.inl rfl) ?_
  show jWP none RX10 cX10_cell 3 (some .int) (d + 2) 0 0 0 [some (.ref 4), some (.int (nI j)), some (.int (nI 1))] [] (tw X A L) (jRi (A 45 j) (tw X A L))
  refine j_iload_n dX10_cell_0 rfl rfl ?_
  refine j_callSi [.int _] [] dX10_cell_1 jlk_X10_88 rfl rfl (Nat.le_of_ble_eq_true rfl) (c_X1_isCell_in hj) ?_
  refine j_if_eq (tgt := 17) dX10_cell_4 (by decide) (fun h => absurd h (by decide)) (fun _ => ?_)
  refine j_iload_n dX10_cell_7 rfl rfl ?_
  refine j_if_lt (tgt := 17) dX10_cell_8 (by decide) (fun h => absurd h (by decide)) (fun _ => ?_)
  refine j_iload_n dX10_cell_11 rfl rfl ?_
  refine j_bipush (v := nI 10) dX10_cell_12 rfl ?_
  refine j_icmp_lt (tgt := 19) dX10_cell_14 (by decide) (fun _ => ?_) (fun h => absurd (by decide) h)
  refine j_iload_n dX10_cell_19 rfl rfl ?_
  refine j_tableIn (off := 57) (tgt := 77) dX10_cell_20 (by decide) (by decide) (by decide) (by decide) ?_
  refine j_aload_n dX10_cell_77 rfl rfl ?_
  refine t_getR (b := 43) dX10_cell_78 jfl_X10_46 (fun _ _ _ => rfl) rfl ?_
  refine j_iload_n dX10_cell_81 rfl rfl ?_
  refine j_callVi [.int _] [] dX10_cell_82 jlk_X10_143 rfl rfl rfl rfl (Nat.le_of_ble_eq_true rfl) (c_X0_sumOf (Or.inr (Or.inl rfl)) hj) ?_
  refine j_ireturn dX10_cell_85 rfl ?_
  exact ⟨rfl, rfl⟩

set_option maxHeartbeats 4000000 in
set_option maxRecDepth 100000 in
theorem c_cell_2 (hc : cok X A 43) {j : Nat} (hj : j < 49) : jMet (d + 2) yX10_cell cX10_cell 3 (some .int) 0 0 [.ref 4, .int (nI j), .int (nI 2)] (tw X A L) (jRi (bz (slB (A 44) j)) (tw X A L)) := by
  refine jMet_of (by decide) (Nat.le_of_ble_eq_true rfl) none (Or.inl rfl) ?_
  show jWP none RX10 cX10_cell 3 (some .int) (d + 2) 0 0 0 [some (.ref 4), some (.int (nI j)), some (.int (nI 2))] [] (tw X A L) (jRi (bz (slB (A 44) j)) (tw X A L))
  refine j_iload_n dX10_cell_0 rfl rfl ?_
  refine j_callSi [.int _] [] dX10_cell_1 jlk_X10_88 rfl rfl (Nat.le_of_ble_eq_true rfl) (c_X1_isCell_in hj) ?_
  refine j_if_eq (tgt := 17) dX10_cell_4 (by decide) (fun h => absurd h (by decide)) (fun _ => ?_)
  refine j_iload_n dX10_cell_7 rfl rfl ?_
  refine j_if_lt (tgt := 17) dX10_cell_8 (by decide) (fun h => absurd h (by decide)) (fun _ => ?_)
  refine j_iload_n dX10_cell_11 rfl rfl ?_
  refine j_bipush (v := nI 10) dX10_cell_12 rfl ?_
  refine j_icmp_lt (tgt := 19) dX10_cell_14 (by decide) (fun _ => ?_) (fun h => absurd (by decide) h)
  refine j_iload_n dX10_cell_19 rfl rfl ?_
  refine j_tableIn (off := 66) (tgt := 86) dX10_cell_20 (by decide) (by decide) (by decide) (by decide) ?_
  refine j_aload_n dX10_cell_86 rfl rfl ?_
  refine t_getR (b := 43) dX10_cell_87 jfl_X10_46 (fun _ _ _ => rfl) rfl ?_
  refine j_iload_n dX10_cell_90 rfl rfl ?_
  refine j_callVi [.int _] [] dX10_cell_91 jlk_X10_146 rfl rfl rfl rfl (Nat.le_of_ble_eq_true rfl) (c_X0_isSealed (Or.inr (Or.inl rfl)) hj hc) ?_
  refine j_if_eq (tgt := 101) dX10_cell_94 (by decide) (fun h94 => ?_) (fun h94 => ?_)
  · refine j_iconst (v := nI 0) dX10_cell_101 rfl ?_
    refine j_ireturn dX10_cell_102 rfl ?_
    exact ⟨by rw [bz_f h94]; rfl, rfl⟩
  · refine j_iconst (v := nI 1) dX10_cell_97 rfl ?_
    refine j_goto (tgt := 102) dX10_cell_98 (by decide) ?_
    refine j_ireturn dX10_cell_102 rfl ?_
    exact ⟨by rw [bz_t h94]; rfl, rfl⟩

set_option maxHeartbeats 4000000 in
set_option maxRecDepth 100000 in
theorem c_cell_3 (hc : cok X A 43) {j : Nat} (hj : j < 49) : jMet (d + 2) yX10_cell cX10_cell 3 (some .int) 0 0 [.ref 4, .int (nI j), .int (nI 3)] (tw X A L) (jRi (nI (dg j)) (tw X A L)) := by
  refine jMet_of (by decide) (Nat.le_of_ble_eq_true rfl) none (Or.inl rfl) ?_
  show jWP none RX10 cX10_cell 3 (some .int) (d + 2) 0 0 0 [some (.ref 4), some (.int (nI j)), some (.int (nI 3))] [] (tw X A L) (jRi (nI (dg j)) (tw X A L))
  refine j_iload_n dX10_cell_0 rfl rfl ?_
  refine j_callSi [.int _] [] dX10_cell_1 jlk_X10_88 rfl rfl (Nat.le_of_ble_eq_true rfl) (c_X1_isCell_in hj) ?_
  refine j_if_eq (tgt := 17) dX10_cell_4 (by decide) (fun h => absurd h (by decide)) (fun _ => ?_)
  refine j_iload_n dX10_cell_7 rfl rfl ?_
  refine j_if_lt (tgt := 17) dX10_cell_8 (by decide) (fun h => absurd h (by decide)) (fun _ => ?_)
  refine j_iload_n dX10_cell_11 rfl rfl ?_
  refine j_bipush (v := nI 10) dX10_cell_12 rfl ?_
  refine j_icmp_lt (tgt := 19) dX10_cell_14 (by decide) (fun _ => ?_) (fun h => absurd (by decide) h)
  refine j_iload_n dX10_cell_19 rfl rfl ?_
  refine j_tableIn (off := 83) (tgt := 103) dX10_cell_20 (by decide) (by decide) (by decide) (by decide) ?_
  refine j_aload_n dX10_cell_103 rfl rfl ?_
  refine t_getR (b := 5) dX10_cell_104 jfl_X10_10 (fun _ _ _ => rfl) rfl ?_
  refine j_iload_n dX10_cell_107 rfl rfl ?_
  refine j_callVi [.int _] [] dX10_cell_108 jlk_X10_149 rfl rfl rfl rfl (Nat.le_of_ble_eq_true rfl) (c_X1_degree hj) ?_
  refine j_ireturn dX10_cell_111 rfl ?_
  exact ⟨rfl, rfl⟩

set_option maxHeartbeats 4000000 in
set_option maxRecDepth 100000 in
theorem c_cell_4 (hc : cok X A 43) {j : Nat} (hj : j < 49) {t : Nat} (ht : t < dg j) : jMet (d + 2) yX10_cell cX10_cell 3 (some .int) 0 0 [.ref 4, .int (nI j), .int (nI (t + 4))] (tw X A L) (jRi (nI (nb j t)) (tw X A L)) := by
  refine jMet_of (by decide) (Nat.le_of_ble_eq_true rfl) none (Or.inl rfl) ?_
  show jWP none RX10 cX10_cell 3 (some .int) (d + 2) 0 0 0 [some (.ref 4), some (.int (nI j)), some (.int (nI (t + 4)))] [] (tw X A L) (jRi (nI (nb j t)) (tw X A L))
  have hd6 := dg_le j hj
  refine j_iload_n dX10_cell_0 rfl rfl ?_
  refine j_callSi [.int _] [] dX10_cell_1 jlk_X10_88 rfl rfl (Nat.le_of_ble_eq_true rfl) (c_X1_isCell_in hj) ?_
  refine j_if_eq (tgt := 17) dX10_cell_4 (by decide) (fun h => absurd h (by decide)) (fun _ => ?_)
  refine j_iload_n dX10_cell_7 rfl rfl ?_
  refine jn_if_lt (tgt := 17) dX10_cell_8 (by decide) (by omega) ?_
  refine j_iload_n dX10_cell_11 rfl rfl ?_
  refine j_bipush (v := nI 10) dX10_cell_12 rfl ?_
  refine jn_icmp_lt (tgt := 19) dX10_cell_14 (by decide) (by omega) (by omega) (fun h14 => ?_) (fun h14 => absurd h14 (by omega))
  refine j_iload_n dX10_cell_19 rfl rfl ?_
  refine j_tableOut (tgt := 112) dX10_cell_20 (sw_out (n := 4) (Or.inr (nI_le (by omega) (by omega))) (by decide)) (by decide) ?_
  refine j_aload_n dX10_cell_112 rfl rfl ?_
  refine t_getR (b := 5) dX10_cell_113 jfl_X10_10 (fun _ _ _ => rfl) rfl ?_
  refine j_iload_n dX10_cell_116 rfl rfl ?_
  refine j_iload_n dX10_cell_117 rfl rfl ?_
  refine j_iconst (v := nI 4) dX10_cell_118 rfl ?_
  refine jn_isub dX10_cell_119 (by omega) ?_
  refine j_ats (st' := [.int (nI t), .int (nI j), .ref 5]) (by rw [Nat.add_sub_cancel]) ?_
  refine j_callVi [.int _, .int _] [] dX10_cell_120 jlk_X10_152 rfl rfl rfl rfl (Nat.le_of_ble_eq_true rfl) (c_X1_neighbour hj ht) ?_
  refine j_ireturn dX10_cell_123 rfl ?_
  exact ⟨rfl, rfl⟩

set_option maxHeartbeats 4000000 in
set_option maxRecDepth 100000 in
theorem c_cell_4o (hc : cok X A 43) {j : Nat} (hj : j < 49) {t : Nat} (ht : dg j ≤ t) (ht6 : t < 6) : jMet (d + 2) yX10_cell cX10_cell 3 (some .int) 0 0 [.ref 4, .int (nI j), .int (nI (t + 4))] (tw X A L) (jRi (-2) (tw X A L)) := by
  refine jMet_of (by decide) (Nat.le_of_ble_eq_true rfl) none (Or.inl rfl) ?_
  show jWP none RX10 cX10_cell 3 (some .int) (d + 2) 0 0 0 [some (.ref 4), some (.int (nI j)), some (.int (nI (t + 4)))] [] (tw X A L) (jRi (-2) (tw X A L))
  refine j_iload_n dX10_cell_0 rfl rfl ?_
  refine j_callSi [.int _] [] dX10_cell_1 jlk_X10_88 rfl rfl (Nat.le_of_ble_eq_true rfl) (c_X1_isCell_in hj) ?_
  refine j_if_eq (tgt := 17) dX10_cell_4 (by decide) (fun h => absurd h (by decide)) (fun _ => ?_)
  refine j_iload_n dX10_cell_7 rfl rfl ?_
  refine jn_if_lt (tgt := 17) dX10_cell_8 (by decide) (by omega) ?_
  refine j_iload_n dX10_cell_11 rfl rfl ?_
  refine j_bipush (v := nI 10) dX10_cell_12 rfl ?_
  refine jn_icmp_lt (tgt := 19) dX10_cell_14 (by decide) (by omega) (by omega) (fun h14 => ?_) (fun h14 => absurd h14 (by omega))
  refine j_iload_n dX10_cell_19 rfl rfl ?_
  refine j_tableOut (tgt := 112) dX10_cell_20 (sw_out (n := 4) (Or.inr (nI_le (by omega) (by omega))) (by decide)) (by decide) ?_
  refine j_aload_n dX10_cell_112 rfl rfl ?_
  refine t_getR (b := 5) dX10_cell_113 jfl_X10_10 (fun _ _ _ => rfl) rfl ?_
  refine j_iload_n dX10_cell_116 rfl rfl ?_
  refine j_iload_n dX10_cell_117 rfl rfl ?_
  refine j_iconst (v := nI 4) dX10_cell_118 rfl ?_
  refine jn_isub dX10_cell_119 (by omega) ?_
  refine j_ats (st' := [.int (nI t), .int (nI j), .ref 5]) (by rw [Nat.add_sub_cancel]) ?_
  refine j_callVi [.int _, .int _] [] dX10_cell_120 jlk_X10_152 rfl rfl rfl rfl (Nat.le_of_ble_eq_true rfl) (c_X1_neighbour_out hj ht (by omega)) ?_
  refine j_ireturn dX10_cell_123 rfl ?_
  exact ⟨rfl, rfl⟩

set_option maxHeartbeats 4000000 in
set_option maxRecDepth 100000 in
theorem c_X10_isSale_neg {c : Int32} (h : c < 0) : jMet (d + 1) yX10_isSale cX10_isSale 2 (some .boolean) 0 0 [.ref 4, .int c] (tw X A L) (jRi (nI 0) (tw X A L)) := by
  refine jMet_of (by decide) (Nat.le_of_ble_eq_true rfl) none (Or.inl rfl) ?_
  show jWP none RX10 cX10_isSale 2 (some .boolean) (d + 1) 0 0 0 [some (.ref 4), some (.int c)] [] (tw X A L) (jRi (nI 0) (tw X A L))
  refine j_iload_n dX10_isSale_0 rfl rfl ?_
  refine j_if_lt (tgt := 32) dX10_isSale_1 (by decide) (fun h1 => ?_) (fun h1 => absurd h h1)
  refine j_iconst (v := nI 0) dX10_isSale_32 rfl ?_
  refine j_zreturn dX10_isSale_33 rfl (by decide) ?_
  exact ⟨rfl, rfl⟩

set_option maxHeartbeats 4000000 in
set_option maxRecDepth 100000 in
theorem c_X10_isSale (hr : rul B cd vl st an en n na v X A) {k : Nat} (hk : k < 2 ^ 31) : jMet (d + 1) yX10_isSale cX10_isSale 2 (some .boolean) 0 0 [.ref 4, .int (nI k)] (tw X A L) (jRi (bz (slA na (nI (k / 10)) (nI (k % 10)))) (tw X A L)) := by
  refine jMet_of (by decide) (Nat.le_of_ble_eq_true rfl) none (Or.inl rfl) ?_
  show jWP none RX10 cX10_isSale 2 (some .boolean) (d + 1) 0 0 0 [some (.ref 4), some (.int (nI k))] [] (tw X A L) (jRi (bz (slA na (nI (k / 10)) (nI (k % 10)))) (tw X A L))
  obtain ⟨hB, r2, r3, r4, r5, r6, r7, r8, r9, r10, r11, r12, r13⟩ := id hr
  refine j_iload_n dX10_isSale_0 rfl rfl ?_
  refine jn_if_lt (tgt := 32) dX10_isSale_1 (by decide) hk ?_
  refine j_aload_n dX10_isSale_4 rfl rfl ?_
  refine t_getR (b := 10) dX10_isSale_5 jfl_X10_19 (fun _ _ _ => rfl) rfl ?_
  refine j_iload_n dX10_isSale_8 rfl rfl ?_
  refine j_bipush (v := nI 10) dX10_isSale_9 rfl ?_
  refine jn_idiv dX10_isSale_11 (by omega) (by decide) (by decide) ?_
  refine j_callVi [.int _] [] dX10_isSale_12 jlk_X10_127 rfl rfl rfl rfl (Nat.le_of_ble_eq_true rfl) (c_X7_isAccount r10 r11) ?_
  refine j_if_eq (tgt := 32) dX10_isSale_15 (by decide) (fun h15 => ?_) (fun h15 => ?_)
  · refine j_iconst (v := nI 0) dX10_isSale_32 rfl ?_
    refine j_zreturn dX10_isSale_33 rfl (by decide) ?_
    exact ⟨by simp [slA, bz, h15], rfl⟩
  · refine j_iload_n dX10_isSale_18 rfl rfl ?_
    refine j_bipush (v := nI 10) dX10_isSale_19 rfl ?_
    refine jn_irem dX10_isSale_21 (by omega) (by decide) (by decide) ?_
    refine j_callSi [.int _] [] dX10_isSale_22 jlk_X10_210 rfl rfl (Nat.le_of_ble_eq_true rfl) (c_X10_isSum) ?_
    refine j_if_eq (tgt := 32) dX10_isSale_25 (by decide) (fun h25 => ?_) (fun h25 => ?_)
    · refine j_iconst (v := nI 0) dX10_isSale_32 rfl ?_
      refine j_zreturn dX10_isSale_33 rfl (by decide) ?_
      exact ⟨by simp [slA, bz, h15, h25], rfl⟩
    · refine j_iconst (v := nI 1) dX10_isSale_28 rfl ?_
      refine j_goto (tgt := 33) dX10_isSale_29 (by decide) ?_
      refine j_zreturn dX10_isSale_33 rfl (by decide) ?_
      exact ⟨by simp [slA, bz, h15, h25], rfl⟩

end CT20