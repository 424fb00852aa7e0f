section CT30
variable {d : Nat} {X A : Nat → Nat → Int32} {L : Nat → Nat → Int64} {w : jW} {B : Nat} {cd vl st an en : Nat → Nat} {n na : Nat} {v : Nat → Nat} {nb : Nat} {kd : Nat → Nat}

set_option maxHeartbeats 200000 in
set_option maxRecDepth 100000 in
theorem c_least_no (hr : rul B cd vl st an en n na v X A) {a x y : Int32} (h : isA na a = nI 0 ∨ x < nI 1 ∨ nI 37 < x ∨ isA 3 y = nI 0) : jMet (d + 3) yX10_least cX10_least 10 (some .int) 0 0 [.ref 4, .int a, .int x, .int y] (tw X A L) (jRi (-1) (tw X A L)) := by
  refine jMet_of (by decide) (Nat.le_of_ble_eq_true rfl) none (Or.inl rfl) ?_
  show jWP none RX10 cX10_least 10 (some .int) (d + 3) 0 0 0 [some (.ref 4), some (.int a), some (.int x), some (.int y), none, none, none, none, none, none] [] (tw X A L) (jRi (-1) (tw X A L))
  obtain ⟨hB, r2, r3, r4, r5, r6, r7, r8, r9, r10, r11, r12, r13⟩ := id hr
  refine j_aload_n dX10_least_0 rfl rfl ?_
  refine t_getR (b := 10) dX10_least_1 jfl_X10_19 (fun _ _ _ => rfl) rfl ?_
  refine j_iload_n dX10_least_4 rfl rfl ?_
  refine j_callVi [.int _] [] dX10_least_5 jlk_X10_127 rfl rfl rfl rfl (Nat.le_of_ble_eq_true rfl) (c_X7_isAccount r10 r11) ?_
  refine j_if_eq (tgt := 31) dX10_least_8 (by decide) (fun h8 => ?_) (fun h8 => ?_)
  · refine j_iconst (v := (-1)) dX10_least_31 rfl ?_
    refine j_ireturn dX10_least_32 rfl ?_
    exact ⟨rfl, rfl⟩
  · refine j_iload_n dX10_least_11 rfl rfl ?_
    refine j_iconst (v := nI 1) dX10_least_12 rfl ?_
    refine j_icmp_lt (tgt := 31) dX10_least_13 (by decide) (fun h13 => ?_) (fun h13 => ?_)
    · refine j_iconst (v := (-1)) dX10_least_31 rfl ?_
      refine j_ireturn dX10_least_32 rfl ?_
      exact ⟨rfl, rfl⟩
    · refine j_iload_n dX10_least_16 rfl rfl ?_
      refine j_bipush (v := nI 37) dX10_least_17 rfl ?_
      refine j_icmp_gt (tgt := 31) dX10_least_19 (by decide) (fun h19 => ?_) (fun h19 => ?_)
      · refine j_iconst (v := (-1)) dX10_least_31 rfl ?_
        refine j_ireturn dX10_least_32 rfl ?_
        exact ⟨rfl, rfl⟩
      · refine j_iload_n dX10_least_22 rfl rfl ?_
        refine j_if_lt (tgt := 31) dX10_least_23 (by decide) (fun h23 => ?_) (fun h23 => ?_)
        · refine j_iconst (v := (-1)) dX10_least_31 rfl ?_
          refine j_ireturn dX10_least_32 rfl ?_
          exact ⟨rfl, rfl⟩
        · refine j_iload_n dX10_least_26 rfl rfl ?_
          refine j_iconst (v := nI 2) dX10_least_27 rfl ?_
          refine j_icmp_le (tgt := 33) dX10_least_28 (by decide) (fun h28 => ?_) (fun h28 => ?_)
          · exfalso
            rcases h with h | h | h | h
            · exact h8 h
            · exact h13 h
            · exact h19 h
            · obtain ⟨i, hi, rfl⟩ := ixle h23 (Int32.not_lt.mpr h28) (by decide)
              rw [isA_in (by omega) (by decide)] at h
              exact absurd h (by decide)
          · refine j_iconst (v := (-1)) dX10_least_31 rfl ?_
            refine j_ireturn dX10_least_32 rfl ?_
            exact ⟨rfl, rfl⟩

set_option maxHeartbeats 200000 in
set_option maxRecDepth 100000 in
theorem c_accounts_no {c i m : Int32} (h : isA 6 c = nI 0 ∨ m < nI 1 ∨ nI 6 < m) : jMet (d + 3) yX10_accounts cX10_accounts 6 (some .int) 0 0 [.ref 4, .int c, .int i, .int m] (tw X A L) (jRi (-1) (tw X A L)) := by
  refine jMet_of (by decide) (Nat.le_of_ble_eq_true rfl) none (Or.inl rfl) ?_
  show jWP none RX10 cX10_accounts 6 (some .int) (d + 3) 0 0 0 [some (.ref 4), some (.int c), some (.int i), some (.int m), none, none] [] (tw X A L) (jRi (-1) (tw X A L))
  refine j_iload_n dX10_accounts_0 rfl rfl ?_
  refine j_callSi [.int _] [] dX10_accounts_1 jlk_X10_96 rfl rfl (Nat.le_of_ble_eq_true rfl) (c_X10_isShelf) ?_
  refine j_if_eq (tgt := 18) dX10_accounts_4 (by decide) (fun h4 => ?_) (fun h4 => ?_)
  · refine j_iconst (v := (-1)) dX10_accounts_18 rfl ?_
    refine j_ireturn dX10_accounts_19 rfl ?_
    exact ⟨rfl, rfl⟩
  · refine j_iload_n dX10_accounts_7 rfl rfl ?_
    refine j_iconst (v := nI 1) dX10_accounts_8 rfl ?_
    refine j_icmp_lt (tgt := 18) dX10_accounts_9 (by decide) (fun h9 => ?_) (fun h9 => ?_)
    · refine j_iconst (v := (-1)) dX10_accounts_18 rfl ?_
      refine j_ireturn dX10_accounts_19 rfl ?_
      exact ⟨rfl, rfl⟩
    · refine j_iload_n dX10_accounts_12 rfl rfl ?_
      refine j_bipush (v := nI 6) dX10_accounts_13 rfl ?_
      refine j_icmp_le (tgt := 20) dX10_accounts_15 (by decide) (fun h15 => ?_) (fun h15 => ?_)
      · exfalso
        rcases h with h | h | h
        · exact h4 h
        · exact h9 h
        · exact Int32.not_lt.mpr h15 h
      · refine j_iconst (v := (-1)) dX10_accounts_18 rfl ?_
        refine j_ireturn dX10_accounts_19 rfl ?_
        exact ⟨rfl, rfl⟩

set_option maxHeartbeats 200000 in
set_option maxRecDepth 100000 in
theorem c_accounts_0 {j : Nat} (hj : j < 6) (hh : X (64 + 2 * j) 0 = nI 0) {i : Int32} {m : Nat} (hm1 : 1 ≤ m) (hm6 : m ≤ 6) : jMet (d + 3) yX10_accounts cX10_accounts 6 (some .int) 0 0 [.ref 4, .int (nI j), .int i, .int (nI m)] (tw X A L) (jRi (nI 0) (tw X A L)) := by
  refine jMet_of (by decide) (Nat.le_of_ble_eq_true rfl) none (Or.inl rfl) ?_
  show jWP none RX10 cX10_accounts 6 (some .int) (d + 3) 0 0 0 [some (.ref 4), some (.int (nI j)), some (.int i), some (.int (nI m)), none, none] [] (tw X A L) (jRi (nI 0) (tw X A L))
  refine j_iload_n dX10_accounts_0 rfl rfl ?_
  refine j_callSi [.int _] [] dX10_accounts_1 jlk_X10_96 rfl rfl (Nat.le_of_ble_eq_true rfl) (c_X10_isShelf_in hj) ?_
  refine j_if_eq (tgt := 18) dX10_accounts_4 (by decide) (fun h => absurd h (by decide)) (fun _ => ?_)
  refine j_iload_n dX10_accounts_7 rfl rfl ?_
  refine j_iconst (v := nI 1) dX10_accounts_8 rfl ?_
  refine jn_icmp_lt (tgt := 18) dX10_accounts_9 (by decide) (by omega) (by omega) (fun h9 => absurd h9 (by omega)) (fun h9 => ?_)
  refine j_iload_n dX10_accounts_12 rfl rfl ?_
  refine j_bipush (v := nI 6) dX10_accounts_13 rfl ?_
  refine jn_icmp_le (tgt := 20) dX10_accounts_15 (by decide) (by omega) (by omega) (fun h15 => ?_) (fun h15 => absurd h15 (by omega))
  refine j_aload_n dX10_accounts_20 rfl rfl ?_
  refine t_getR (b := 63) dX10_accounts_21 jfl_X10_83 (fun _ _ _ => rfl) rfl ?_
  refine j_iload_n dX10_accounts_24 rfl rfl ?_
  refine t_aaload dX10_accounts_25 (by omega) ?_
  refine j_astore (lv' := [some (.ref 4), some (.int _), some (.int _), some (.int _), some (.ref (64 + 2 * j)), none]) dX10_accounts_26 (by decide) rfl ?_
  refine j_aload dX10_accounts_28 rfl ?_
  refine j_callVi [] [] dX10_accounts_30 jlk_X10_99 rfl rfl ((shS0 (sh_of hj)) _ _ _) rfl (Nat.le_of_ble_eq_true rfl) (c_X8_holdsNothing (h := 0) (sh_of hj) hh (by decide)) ?_
  refine j_if_eq (tgt := 38) dX10_accounts_33 (by decide) (fun h => absurd h (by decide)) (fun _ => ?_)
  refine j_iconst (v := nI 0) dX10_accounts_36 rfl ?_
  refine j_ireturn dX10_accounts_37 rfl ?_
  exact ⟨rfl, rfl⟩

set_option maxHeartbeats 200000 in
set_option maxRecDepth 100000 in
theorem c_accounts_f {j : Nat} (hj : j < 6) {h so : Nat} (hh : X (64 + 2 * j) 0 = nI h) (h2 : h ≤ 2) (hso : X (64 + 2 * j) 2 = nI so) (so4 : so ≤ 4) (hf : bfI h so ≠ 0) (h0 : h ≠ 0) {i : Int32} {m : Nat} (hm1 : 1 ≤ m) (hm6 : m ≤ 6) : jMet (d + 3) yX10_accounts cX10_accounts 6 (some .int) 0 0 [.ref 4, .int (nI j), .int i, .int (nI m)] (tw X A L) (jRi (-12) (tw X A L)) := by
  refine jMet_of (by decide) (Nat.le_of_ble_eq_true rfl) none (Or.inl rfl) ?_
  show jWP none RX10 cX10_accounts 6 (some .int) (d + 3) 0 0 0 [some (.ref 4), some (.int (nI j)), some (.int i), some (.int (nI m)), none, none] [] (tw X A L) (jRi (-12) (tw X A L))
  refine j_iload_n dX10_accounts_0 rfl rfl ?_
  refine j_callSi [.int _] [] dX10_accounts_1 jlk_X10_96 rfl rfl (Nat.le_of_ble_eq_true rfl) (c_X10_isShelf_in hj) ?_
  refine j_if_eq (tgt := 18) dX10_accounts_4 (by decide) (fun h => absurd h (by decide)) (fun _ => ?_)
  refine j_iload_n dX10_accounts_7 rfl rfl ?_
  refine j_iconst (v := nI 1) dX10_accounts_8 rfl ?_
  refine jn_icmp_lt (tgt := 18) dX10_accounts_9 (by decide) (by omega) (by omega) (fun h9 => absurd h9 (by omega)) (fun h9 => ?_)
  refine j_iload_n dX10_accounts_12 rfl rfl ?_
  refine j_bipush (v := nI 6) dX10_accounts_13 rfl ?_
  refine jn_icmp_le (tgt := 20) dX10_accounts_15 (by decide) (by omega) (by omega) (fun h15 => ?_) (fun h15 => absurd h15 (by omega))
  refine j_aload_n dX10_accounts_20 rfl rfl ?_
  refine t_getR (b := 63) dX10_accounts_21 jfl_X10_83 (fun _ _ _ => rfl) rfl ?_
  refine j_iload_n dX10_accounts_24 rfl rfl ?_
  refine t_aaload dX10_accounts_25 (by omega) ?_
  refine j_astore (lv' := [some (.ref 4), some (.int _), some (.int _), some (.int _), some (.ref (64 + 2 * j)), none]) dX10_accounts_26 (by decide) rfl ?_
  refine j_aload dX10_accounts_28 rfl ?_
  refine j_callVi [] [] dX10_accounts_30 jlk_X10_99 rfl rfl ((shS0 (sh_of hj)) _ _ _) rfl (Nat.le_of_ble_eq_true rfl) (c_X8_holdsNothing (sh_of hj) hh h2) ?_
  refine j_if_eq (tgt := 38) dX10_accounts_33 (by decide) (fun h33 => ?_) (fun h33 => absurd (if_neg h0) h33)
  refine j_aload dX10_accounts_38 rfl ?_
  refine j_callVi [] [] dX10_accounts_40 jlk_X10_103 rfl rfl ((shS0 (sh_of hj)) _ _ _) rfl (Nat.le_of_ble_eq_true rfl) (c_X8_bytesFault (sh_of hj) hh h2 hso so4) ?_
  refine j_if_eq (tgt := 49) dX10_accounts_43 (by decide) (fun h43 => absurd h43 hf) (fun h43 => ?_)
  refine j_bipush (v := (-12)) dX10_accounts_46 rfl ?_
  refine j_ireturn dX10_accounts_48 rfl ?_
  exact ⟨rfl, rfl⟩

end CT30