section CT24
variable {d : Nat} {X A : Nat → Nat → Int32} {L : Nat → Nat → Int64} {w : jW} {B : Nat} {cd vl st an en : Nat → Nat} {n na : Nat} {v : Nat → Nat} {nb : Nat} {kd : Nat → Nat}

set_option maxHeartbeats 200000 in
set_option maxRecDepth 100000 in
theorem c_judge_f {j : Nat} (hj : j < 6) {h so : Nat} (hh : X (64 + 2 * j) 0 = nI h) (h2 : h ≤ 2) (hso : X (64 + 2 * j) 2 = nI so) (so4 : so ≤ 4) (hf : bfI h so ≠ 0) : jMet (d + 6) yX10_judge cX10_judge 3 (some .int) 0 0 [.ref 4, .int (nI j)] (tw X A L) (jRi (bfI h so) (tw X A L)) := by
  refine jMet_of (by decide) (Nat.le_of_ble_eq_true rfl) none (Or.inl rfl) ?_
  show jWP none RX10 cX10_judge 3 (some .int) (d + 6) 0 0 0 [some (.ref 4), some (.int (nI j)), none] [] (tw X A L) (jRi (bfI h so) (tw X A L))
  refine j_iload_n dX10_judge_0 rfl rfl ?_
  refine j_callSi [.int _] [] dX10_judge_1 jlk_X10_96 rfl rfl (Nat.le_of_ble_eq_true rfl) (c_X10_isShelf_in hj) ?_
  refine j_if_ne (tgt := 9) dX10_judge_4 (by decide) (fun _ => ?_) (fun h => absurd h (by decide))
  refine j_aload_n dX10_judge_9 rfl rfl ?_
  refine t_getR (b := 63) dX10_judge_10 jfl_X10_83 (fun _ _ _ => rfl) rfl ?_
  refine j_iload_n dX10_judge_13 rfl rfl ?_
  refine t_aaload dX10_judge_14 (by omega) ?_
  refine j_callVi [] [] dX10_judge_15 jlk_X10_103 rfl rfl ((shS0 (sh_of hj)) _ _ _) rfl (Nat.le_of_ble_eq_true rfl) (c_X8_bytesFault (sh_of hj) hh h2 hso so4) ?_
  refine j_istore_n (lv' := [some (.ref 4), some (.int _), some (.int _)]) dX10_judge_18 rfl (by decide) rfl ?_
  refine j_iload_n dX10_judge_19 rfl rfl ?_
  refine j_if_eq (tgt := 27) dX10_judge_20 (by decide) (fun h20 => absurd h20 hf) (fun h20 => ?_)
  refine j_iload_n dX10_judge_23 rfl rfl ?_
  refine j_goto (tgt := 44) dX10_judge_24 (by decide) ?_
  refine j_ireturn dX10_judge_44 rfl ?_
  exact ⟨rfl, rfl⟩

set_option maxHeartbeats 200000 in
set_option maxRecDepth 100000 in
theorem c_judge (hr : rul B cd vl st an en n na v X A) (hc : cok X A 43) (hc9 : cok X A 39) {j : Nat} (hj : j < 6) (hh : X (64 + 2 * j) 0 = nI 2) (hso : X (64 + 2 * j) 2 = nI 0) {ln : Nat} (hln : X (64 + 2 * j) 3 = nI ln) (l60 : ln ≤ 60) : jMet (d + 6) yX10_judge cX10_judge 3 (some .int) 0 0 [.ref 4, .int (nI j)] (tw X A L) ((fun z w => z = some (.int (jgF (RkC cd vl st an en n v) na ln (rE L (64 + 2 * j)) 20 0 (A 44, A 45))) ∧ ∃ (f g : Nat → Int32) (c' : cS), (zb 49 c'.1 ∧ zb 49 c'.2) ∧ w = tw (cX X 39 c'.1) (scr (cA A 39 c'.1 c'.2) B f g) L)) := by
  refine jMet_of (by decide) (Nat.le_of_ble_eq_true rfl) none (Or.inl rfl) ?_
  show jWP none RX10 cX10_judge 3 (some .int) (d + 6) 0 0 0 [some (.ref 4), some (.int (nI j)), none] [] (tw X A L) ((fun z w => z = some (.int (jgF (RkC cd vl st an en n v) na ln (rE L (64 + 2 * j)) 20 0 (A 44, A 45))) ∧ ∃ (f g : Nat → Int32) (c' : cS), (zb 49 c'.1 ∧ zb 49 c'.2) ∧ w = tw (cX X 39 c'.1) (scr (cA A 39 c'.1 c'.2) B f g) L))
  refine j_iload_n dX10_judge_0 rfl rfl ?_
  refine j_callSi [.int _] [] dX10_judge_1 jlk_X10_96 rfl rfl (Nat.le_of_ble_eq_true rfl) (c_X10_isShelf_in hj) ?_
  refine j_if_ne (tgt := 9) dX10_judge_4 (by decide) (fun _ => ?_) (fun h => absurd h (by decide))
  refine j_aload_n dX10_judge_9 rfl rfl ?_
  refine t_getR (b := 63) dX10_judge_10 jfl_X10_83 (fun _ _ _ => rfl) rfl ?_
  refine j_iload_n dX10_judge_13 rfl rfl ?_
  refine t_aaload dX10_judge_14 (by omega) ?_
  refine j_callVi [] [] dX10_judge_15 jlk_X10_103 rfl rfl ((shS0 (sh_of hj)) _ _ _) rfl (Nat.le_of_ble_eq_true rfl) (jMet_i (c_X8_bytesFault (sh_of hj) hh (by decide) hso (by decide)) (show bfI 2 0 = nI 0 from rfl) rfl) ?_
  refine j_istore_n (lv' := [some (.ref 4), some (.int _), some (.int _)]) dX10_judge_18 rfl (by decide) rfl ?_
  refine j_iload_n dX10_judge_19 rfl rfl ?_
  refine j_if_eq (tgt := 27) dX10_judge_20 (by decide) (fun _ => ?_) (fun h => absurd (by decide) h)
  refine j_aload_n dX10_judge_27 rfl rfl ?_
  refine t_getR (b := 35) dX10_judge_28 jfl_X10_37 (fun _ _ _ => rfl) rfl ?_
  refine j_aload_n dX10_judge_31 rfl rfl ?_
  refine t_getR (b := 63) dX10_judge_32 jfl_X10_83 (fun _ _ _ => rfl) rfl ?_
  refine j_iload_n dX10_judge_35 rfl rfl ?_
  refine t_aaload dX10_judge_36 (by omega) ?_
  refine j_aload_n dX10_judge_37 rfl rfl ?_
  refine t_getR (b := 43) dX10_judge_38 jfl_X10_46 (fun _ _ _ => rfl) rfl ?_
  refine j_callV [.ref (64 + 2 * j), .ref 43] [] dX10_judge_41 jlk_X10_258 rfl rfl rfl rfl (Nat.le_of_ble_eq_true rfl) (c_X9_firstFalse hr (sh_of hj) hh hln l60 (Or.inr (Or.inl rfl)) hc hc9) (fun r9 w9 h9 => ?_)
  obtain ⟨rfl, f9, g9, c9, hz9, rfl⟩ := h9
  refine j_ats (st' := [.int _]) rfl ?_
  refine j_ireturn dX10_judge_44 rfl ?_
  exact ⟨rfl, f9, g9, c9, hz9, rfl⟩

set_option maxHeartbeats 200000 in
set_option maxRecDepth 100000 in
theorem c_order_no (hr : rul B cd vl st an en n na v X A) {c k : Int32} {e : Nat} (he : e < 2 ^ 31) (h : isA 6 c = nI 0 ∨ isA na (nI (e / 100)) = nI 0 ∨ 49 < e % 100 ∨ k < -1) : jMet (d + 7) yX10_order cX10_order 6 (some .int) 0 0 [.ref 4, .int c, .int (nI e), .int k] (tw X A L) (jRi (-1) (tw X A L)) := by
  refine jMet_of (by decide) (Nat.le_of_ble_eq_true rfl) none (Or.inl rfl) ?_
  show jWP none RX10 cX10_order 6 (some .int) (d + 7) 0 0 0 [some (.ref 4), some (.int c), some (.int (nI e)), some (.int k), none, none] [] (tw X A L) (jRi (-1) (tw X A L))
  obtain ⟨hB, r2, r3, r4, r5, r6, r7, r8, r9, r10, r11, r12, r13⟩ := id hr
  refine j_iload_n dX10_order_0 rfl rfl ?_
  refine j_callSi [.int _] [] dX10_order_1 jlk_X10_96 rfl rfl (Nat.le_of_ble_eq_true rfl) (c_X10_isShelf) ?_
  refine j_if_eq (tgt := 39) dX10_order_4 (by decide) (fun h4 => ?_) (fun h4 => ?_)
  · refine j_iconst (v := (-1)) dX10_order_39 rfl ?_
    refine j_ireturn dX10_order_40 rfl ?_
    exact ⟨rfl, rfl⟩
  · refine j_iload_n dX10_order_7 rfl rfl ?_
    refine jn_if_lt (tgt := 39) dX10_order_8 (by decide) he ?_
    refine j_aload_n dX10_order_11 rfl rfl ?_
    refine t_getR (b := 10) dX10_order_12 jfl_X10_19 (fun _ _ _ => rfl) rfl ?_
    refine j_iload_n dX10_order_15 rfl rfl ?_
    refine j_bipush (v := nI 100) dX10_order_16 rfl ?_
    refine jn_idiv dX10_order_18 he (by decide) (by decide) ?_
    refine j_callVi [.int _] [] dX10_order_19 jlk_X10_127 rfl rfl rfl rfl (Nat.le_of_ble_eq_true rfl) (c_X7_isAccount r10 r11) ?_
    refine j_if_eq (tgt := 39) dX10_order_22 (by decide) (fun h22 => ?_) (fun h22 => ?_)
    · refine j_iconst (v := (-1)) dX10_order_39 rfl ?_
      refine j_ireturn dX10_order_40 rfl ?_
      exact ⟨rfl, rfl⟩
    · refine j_iload_n dX10_order_25 rfl rfl ?_
      refine j_bipush (v := nI 100) dX10_order_26 rfl ?_
      refine jn_irem dX10_order_28 he (by decide) (by decide) ?_
      refine j_bipush (v := nI 49) dX10_order_29 rfl ?_
      refine jn_icmp_gt (tgt := 39) dX10_order_31 (by decide) (by omega) (by omega) (fun h31 => ?_) (fun h31 => ?_)
      · refine j_iconst (v := (-1)) dX10_order_39 rfl ?_
        refine j_ireturn dX10_order_40 rfl ?_
        exact ⟨rfl, rfl⟩
      · refine j_iload_n dX10_order_34 rfl rfl ?_
        refine j_iconst (v := (-1)) dX10_order_35 rfl ?_
        refine j_icmp_ge (tgt := 41) dX10_order_36 (by decide) (fun h36 => ?_) (fun h36 => ?_)
        · exfalso
          rcases h with h | h | h | h
          · exact h4 h
          · exact h22 h
          · omega
          · exact Int32.not_lt.mpr h36 h
        · refine j_iconst (v := (-1)) dX10_order_39 rfl ?_
          refine j_ireturn dX10_order_40 rfl ?_
          exact ⟨rfl, rfl⟩

set_option maxHeartbeats 200000 in
set_option maxRecDepth 100000 in
theorem c_order_neg {c e k : Int32} (he : e < 0) : jMet (d + 7) yX10_order cX10_order 6 (some .int) 0 0 [.ref 4, .int c, .int e, .int k] (tw X A L) (jRi (-1) (tw X A L)) := by
  refine jMet_of (by decide) (Nat.le_of_ble_eq_true rfl) none (Or.inl rfl) ?_
  show jWP none RX10 cX10_order 6 (some .int) (d + 7) 0 0 0 [some (.ref 4), some (.int c), some (.int e), some (.int k), none, none] [] (tw X A L) (jRi (-1) (tw X A L))
  refine j_iload_n dX10_order_0 rfl rfl ?_
  refine j_callSi [.int _] [] dX10_order_1 jlk_X10_96 rfl rfl (Nat.le_of_ble_eq_true rfl) (c_X10_isShelf) ?_
  refine j_if_eq (tgt := 39) dX10_order_4 (by decide) (fun h4 => ?_) (fun h4 => ?_)
  · refine j_iconst (v := (-1)) dX10_order_39 rfl ?_
    refine j_ireturn dX10_order_40 rfl ?_
    exact ⟨rfl, rfl⟩
  · refine j_iload_n dX10_order_7 rfl rfl ?_
    refine j_if_lt (tgt := 39) dX10_order_8 (by decide) (fun h8 => ?_) (fun h8 => absurd he h8)
    refine j_iconst (v := (-1)) dX10_order_39 rfl ?_
    refine j_ireturn dX10_order_40 rfl ?_
    exact ⟨rfl, rfl⟩

set_option maxHeartbeats 200000 in
set_option maxRecDepth 100000 in
theorem c_order_f (hr : rul B cd vl st an en n na v X A) {j : Nat} (hj : j < 6) {h so : Nat} (hh : X (64 + 2 * j) 0 = nI h) (h2 : h ≤ 2) (hso : X (64 + 2 * j) 2 = nI so) (so4 : so ≤ 4) (hf : bfI h so ≠ 0) {e : Nat} (he : e < 2 ^ 31) (hea : e / 100 < na) (hew : e % 100 < 50) {k : Int32} (hk : ¬ k < -1) : jMet (d + 7) yX10_order cX10_order 6 (some .int) 0 0 [.ref 4, .int (nI j), .int (nI e), .int k] (tw X A L) (jRi (bfI h so) (tw X A L)) := by
  refine jMet_of (by decide) (Nat.le_of_ble_eq_true rfl) none (Or.inl rfl) ?_
  show jWP none RX10 cX10_order 6 (some .int) (d + 7) 0 0 0 [some (.ref 4), some (.int (nI j)), some (.int (nI e)), some (.int k), none, none] [] (tw X A L) (jRi (bfI h so) (tw X A L))
  obtain ⟨hB, r2, r3, r4, r5, r6, r7, r8, r9, r10, r11, r12, r13⟩ := id hr
  refine j_iload_n dX10_order_0 rfl rfl ?_
  refine j_callSi [.int _] [] dX10_order_1 jlk_X10_96 rfl rfl (Nat.le_of_ble_eq_true rfl) (c_X10_isShelf_in hj) ?_
  refine j_if_eq (tgt := 39) dX10_order_4 (by decide) (fun h => absurd h (by decide)) (fun _ => ?_)
  refine j_iload_n dX10_order_7 rfl rfl ?_
  refine jn_if_lt (tgt := 39) dX10_order_8 (by decide) he ?_
  refine j_aload_n dX10_order_11 rfl rfl ?_
  refine t_getR (b := 10) dX10_order_12 jfl_X10_19 (fun _ _ _ => rfl) rfl ?_
  refine j_iload_n dX10_order_15 rfl rfl ?_
  refine j_bipush (v := nI 100) dX10_order_16 rfl ?_
  refine jn_idiv dX10_order_18 he (by decide) (by decide) ?_
  refine j_callVi [.int _] [] dX10_order_19 jlk_X10_127 rfl rfl rfl rfl (Nat.le_of_ble_eq_true rfl) (c_X7_isAccount_in r10 r11 hea) ?_
  refine j_if_eq (tgt := 39) dX10_order_22 (by decide) (fun h => absurd h (by decide)) (fun _ => ?_)
  refine j_iload_n dX10_order_25 rfl rfl ?_
  refine j_bipush (v := nI 100) dX10_order_26 rfl ?_
  refine jn_irem dX10_order_28 he (by decide) (by decide) ?_
  refine j_bipush (v := nI 49) dX10_order_29 rfl ?_
  refine jn_icmp_gt (tgt := 39) dX10_order_31 (by decide) (by omega) (by omega) (fun h31 => absurd h31 (by omega)) (fun h31 => ?_)
  refine j_iload_n dX10_order_34 rfl rfl ?_
  refine j_iconst (v := (-1)) dX10_order_35 rfl ?_
  refine j_icmp_ge (tgt := 41) dX10_order_36 (by decide) (fun h36 => ?_) (fun h36 => absurd (Int32.not_le.mp h36) hk)
  refine j_aload_n dX10_order_41 rfl rfl ?_
  refine t_getR (b := 63) dX10_order_42 jfl_X10_83 (fun _ _ _ => rfl) rfl ?_
  refine j_iload_n dX10_order_45 rfl rfl ?_
  refine t_aaload dX10_order_46 (by omega) ?_
  refine j_callVi [] [] dX10_order_47 jlk_X10_103 rfl rfl ((shS0 (sh_of hj)) _ _ _) rfl (Nat.le_of_ble_eq_true rfl) (c_X8_bytesFault (sh_of hj) hh h2 hso so4) ?_
  refine j_istore (lv' := [some (.ref 4), some (.int _), some (.int _), some (.int _), some (.int _), none]) dX10_order_50 (by decide) rfl ?_
  refine j_iload dX10_order_52 rfl ?_
  refine j_if_eq (tgt := 60) dX10_order_54 (by decide) (fun h54 => absurd h54 hf) (fun h54 => ?_)
  refine j_iload dX10_order_57 rfl ?_
  refine j_ireturn dX10_order_59 rfl ?_
  exact ⟨rfl, rfl⟩

set_option maxHeartbeats 200000 in
set_option maxRecDepth 100000 in
theorem c_order_all (hr : rul B cd vl st an en n na v X A) (hc : cok X A 43) (hc9 : cok X A 39) {j : Nat} (hj : j < 6) (hh : X (64 + 2 * j) 0 = nI 2) (hso : X (64 + 2 * j) 2 = nI 0) {ln : Nat} (hln : X (64 + 2 * j) 3 = nI ln) (l60 : ln ≤ 60) {e : Nat} (he : e < 2 ^ 31) (hea : e / 100 < na) (hew : e % 100 < 50) {N : Nat} (hN : saC (saB na ln (rE L (64 + 2 * j))) 30 0 = N) {p0 : Nat → Nat} (hp0 : A 37 = nIf p0) : jMet (d + 7) yX10_order cX10_order 6 (some .int) 0 0 [.ref 4, .int (nI j), .int (nI e), .int (-1)] (tw X A L) ((fun z w => z = some (.int (skF (min N 5) (fun p => balS (ouC (RkC cd vl st an en n v) (rE L (64 + 2 * j)) p (min N 5) N (e % 100) (A 44, A 45)).1 (ouC (RkC cd vl st an en n v) (rE L (64 + 2 * j)) p (min N 5) N (e % 100) (A 44, A 45)).2 (nI (e / 100)) 49) 120 (idN p0 (min N 5)) (-2) (A 38)).1) ∧ ∃ (f g : Nat → Int32) (p : Nat → Nat) (c : cS), (zb 49 c.1 ∧ zb 49 c.2) ∧ w = tw (cX (sX X N) 39 c.1) (scr (cA (sA A p (skF (min N 5) (fun p => balS (ouC (RkC cd vl st an en n v) (rE L (64 + 2 * j)) p (min N 5) N (e % 100) (A 44, A 45)).1 (ouC (RkC cd vl st an en n v) (rE L (64 + 2 * j)) p (min N 5) N (e % 100) (A 44, A 45)).2 (nI (e / 100)) 49) 120 (idN p0 (min N 5)) (-2) (A 38)).2) 39 c.1 c.2) B f g) L)) := by
  refine jMet_of (by decide) (Nat.le_of_ble_eq_true rfl) none (Or.inl rfl) ?_
  show jWP none RX10 cX10_order 6 (some .int) (d + 7) 0 0 0 [some (.ref 4), some (.int (nI j)), some (.int (nI e)), some (.int (-1)), none, none] [] (tw X A L) ((fun z w => z = some (.int (skF (min N 5) (fun p => balS (ouC (RkC cd vl st an en n v) (rE L (64 + 2 * j)) p (min N 5) N (e % 100) (A 44, A 45)).1 (ouC (RkC cd vl st an en n v) (rE L (64 + 2 * j)) p (min N 5) N (e % 100) (A 44, A 45)).2 (nI (e / 100)) 49) 120 (idN p0 (min N 5)) (-2) (A 38)).1) ∧ ∃ (f g : Nat → Int32) (p : Nat → Nat) (c : cS), (zb 49 c.1 ∧ zb 49 c.2) ∧ w = tw (cX (sX X N) 39 c.1) (scr (cA (sA A p (skF (min N 5) (fun p => balS (ouC (RkC cd vl st an en n v) (rE L (64 + 2 * j)) p (min N 5) N (e % 100) (A 44, A 45)).1 (ouC (RkC cd vl st an en n v) (rE L (64 + 2 * j)) p (min N 5) N (e % 100) (A 44, A 45)).2 (nI (e / 100)) 49) 120 (idN p0 (min N 5)) (-2) (A 38)).2) 39 c.1 c.2) B f g) L))
  obtain ⟨hB, r2, r3, r4, r5, r6, r7, r8, r9, r10, r11, r12, r13⟩ := id hr
  refine j_iload_n dX10_order_0 rfl rfl ?_
  refine j_callSi [.int _] [] dX10_order_1 jlk_X10_96 rfl rfl (Nat.le_of_ble_eq_true rfl) (c_X10_isShelf_in hj) ?_
  refine j_if_eq (tgt := 39) dX10_order_4 (by decide) (fun h => absurd h (by decide)) (fun _ => ?_)
  refine j_iload_n dX10_order_7 rfl rfl ?_
  refine jn_if_lt (tgt := 39) dX10_order_8 (by decide) he ?_
  refine j_aload_n dX10_order_11 rfl rfl ?_
  refine t_getR (b := 10) dX10_order_12 jfl_X10_19 (fun _ _ _ => rfl) rfl ?_
  refine j_iload_n dX10_order_15 rfl rfl ?_
  refine j_bipush (v := nI 100) dX10_order_16 rfl ?_
  refine jn_idiv dX10_order_18 he (by decide) (by decide) ?_
  refine j_callVi [.int _] [] dX10_order_19 jlk_X10_127 rfl rfl rfl rfl (Nat.le_of_ble_eq_true rfl) (c_X7_isAccount_in r10 r11 hea) ?_
  refine j_if_eq (tgt := 39) dX10_order_22 (by decide) (fun h => absurd h (by decide)) (fun _ => ?_)
  refine j_iload_n dX10_order_25 rfl rfl ?_
  refine j_bipush (v := nI 100) dX10_order_26 rfl ?_
  refine jn_irem dX10_order_28 he (by decide) (by decide) ?_
  refine j_bipush (v := nI 49) dX10_order_29 rfl ?_
  refine jn_icmp_gt (tgt := 39) dX10_order_31 (by decide) (by omega) (by omega) (fun h31 => absurd h31 (by omega)) (fun h31 => ?_)
  refine j_iload_n dX10_order_34 rfl rfl ?_
  refine j_iconst (v := (-1)) dX10_order_35 rfl ?_
  refine j_icmp_ge (tgt := 41) dX10_order_36 (by decide) (fun _ => ?_) (fun h => absurd (by decide) h)
  refine j_aload_n dX10_order_41 rfl rfl ?_
  refine t_getR (b := 63) dX10_order_42 jfl_X10_83 (fun _ _ _ => rfl) rfl ?_
  refine j_iload_n dX10_order_45 rfl rfl ?_
  refine t_aaload dX10_order_46 (by omega) ?_
  refine j_callVi [] [] dX10_order_47 jlk_X10_103 rfl rfl ((shS0 (sh_of hj)) _ _ _) rfl (Nat.le_of_ble_eq_true rfl) (jMet_i (c_X8_bytesFault (sh_of hj) hh (by decide) hso (by decide)) (show bfI 2 0 = nI 0 from rfl) rfl) ?_
  refine j_istore (lv' := [some (.ref 4), some (.int _), some (.int _), some (.int _), some (.int _), none]) dX10_order_50 (by decide) rfl ?_
  refine j_iload dX10_order_52 rfl ?_
  refine j_if_eq (tgt := 60) dX10_order_54 (by decide) (fun _ => ?_) (fun h => absurd (by decide) h)
  refine j_aload_n dX10_order_60 rfl rfl ?_
  refine t_getR (b := 35) dX10_order_61 jfl_X10_37 (fun _ _ _ => rfl) rfl ?_
  refine j_aload_n dX10_order_64 rfl rfl ?_
  refine t_getR (b := 63) dX10_order_65 jfl_X10_83 (fun _ _ _ => rfl) rfl ?_
  refine j_iload_n dX10_order_68 rfl rfl ?_
  refine t_aaload dX10_order_69 (by omega) ?_
  refine j_aload_n dX10_order_70 rfl rfl ?_
  refine t_getR (b := 43) dX10_order_71 jfl_X10_46 (fun _ _ _ => rfl) rfl ?_
  refine j_iload_n dX10_order_74 rfl rfl ?_
  refine j_bipush (v := nI 100) dX10_order_75 rfl ?_
  refine jn_idiv dX10_order_77 he (by decide) (by decide) ?_
  refine j_iload_n dX10_order_78 rfl rfl ?_
  refine j_bipush (v := nI 100) dX10_order_79 rfl ?_
  refine jn_irem dX10_order_81 he (by decide) (by decide) ?_
  refine j_callV [.ref (64 + 2 * j), .ref 43, .int _, .int _] [] dX10_order_82 jlk_X10_188 rfl rfl rfl rfl (Nat.le_of_ble_eq_true rfl) (c_X9_seekOrder hr (sh_of hj) hh hln l60 hN hc hc9 hp0 (by omega)) (fun r9 w9 h9 => ?_)
  obtain ⟨rfl, f9, g9, p9, c9, hz9, rfl⟩ := h9
  refine j_ats (st' := [.int _]) rfl ?_
  refine j_istore (lv' := [some (.ref 4), some (.int _), some (.int _), some (.int _), some (.int _), some (.int _)]) dX10_order_85 (by decide) rfl ?_
  refine j_iload_n dX10_order_87 rfl rfl ?_
  refine j_iconst (v := (-1)) dX10_order_88 rfl ?_
  refine j_icmp_ne (tgt := 97) dX10_order_89 (by decide) (fun h => absurd (by decide) h) (fun _ => ?_)
  refine j_iload dX10_order_92 rfl ?_
  refine j_goto (tgt := 105) dX10_order_94 (by decide) ?_
  refine j_ireturn dX10_order_105 rfl ?_
  exact ⟨rfl, f9, g9, p9, c9, hz9, rfl⟩

set_option maxHeartbeats 200000 in
set_option maxRecDepth 100000 in
theorem c_order (hr : rul B cd vl st an en n na v X A) (hc : cok X A 43) (hc9 : cok X A 39) {j : Nat} (hj : j < 6) (hh : X (64 + 2 * j) 0 = nI 2) (hso : X (64 + 2 * j) 2 = nI 0) {ln : Nat} (hln : X (64 + 2 * j) 3 = nI ln) (l60 : ln ≤ 60) {e : Nat} (he : e < 2 ^ 31) (hea : e / 100 < na) (hew : e % 100 < 50) {N : Nat} (hN : saC (saB na ln (rE L (64 + 2 * j))) 30 0 = N) {p0 : Nat → Nat} (hp0 : A 37 = nIf p0) {k : Nat} (hk : k < 2 ^ 31) : jMet (d + 7) yX10_order cX10_order 6 (some .int) 0 0 [.ref 4, .int (nI j), .int (nI e), .int (nI k)] (tw X A L) ((fun z w => z = some (.int (if k < min N 5 then (skF (min N 5) (fun p => balS (ouC (RkC cd vl st an en n v) (rE L (64 + 2 * j)) p (min N 5) N (e % 100) (A 44, A 45)).1 (ouC (RkC cd vl st an en n v) (rE L (64 + 2 * j)) p (min N 5) N (e % 100) (A 44, A 45)).2 (nI (e / 100)) 49) 120 (idN p0 (min N 5)) (-2) (A 38)).2 k else (-2))) ∧ ∃ (f g : Nat → Int32) (p : Nat → Nat) (c : cS), (zb 49 c.1 ∧ zb 49 c.2) ∧ w = tw (cX (sX X N) 39 c.1) (scr (cA (sA A p (skF (min N 5) (fun p => balS (ouC (RkC cd vl st an en n v) (rE L (64 + 2 * j)) p (min N 5) N (e % 100) (A 44, A 45)).1 (ouC (RkC cd vl st an en n v) (rE L (64 + 2 * j)) p (min N 5) N (e % 100) (A 44, A 45)).2 (nI (e / 100)) 49) 120 (idN p0 (min N 5)) (-2) (A 38)).2) 39 c.1 c.2) B f g) L)) := by
  refine jMet_of (by decide) (Nat.le_of_ble_eq_true rfl) none (Or.inl rfl) ?_
  show jWP none RX10 cX10_order 6 (some .int) (d + 7) 0 0 0 [some (.ref 4), some (.int (nI j)), some (.int (nI e)), some (.int (nI k)), none, none] [] (tw X A L) ((fun z w => z = some (.int (if k < min N 5 then (skF (min N 5) (fun p => balS (ouC (RkC cd vl st an en n v) (rE L (64 + 2 * j)) p (min N 5) N (e % 100) (A 44, A 45)).1 (ouC (RkC cd vl st an en n v) (rE L (64 + 2 * j)) p (min N 5) N (e % 100) (A 44, A 45)).2 (nI (e / 100)) 49) 120 (idN p0 (min N 5)) (-2) (A 38)).2 k else (-2))) ∧ ∃ (f g : Nat → Int32) (p : Nat → Nat) (c : cS), (zb 49 c.1 ∧ zb 49 c.2) ∧ w = tw (cX (sX X N) 39 c.1) (scr (cA (sA A p (skF (min N 5) (fun p => balS (ouC (RkC cd vl st an en n v) (rE L (64 + 2 * j)) p (min N 5) N (e % 100) (A 44, A 45)).1 (ouC (RkC cd vl st an en n v) (rE L (64 + 2 * j)) p (min N 5) N (e % 100) (A 44, A 45)).2 (nI (e / 100)) 49) 120 (idN p0 (min N 5)) (-2) (A 38)).2) 39 c.1 c.2) B f g) L))
  obtain ⟨hB, r2, r3, r4, r5, r6, r7, r8, r9, r10, r11, r12, r13⟩ := id hr
  refine j_iload_n dX10_order_0 rfl rfl ?_
  refine j_callSi [.int _] [] dX10_order_1 jlk_X10_96 rfl rfl (Nat.le_of_ble_eq_true rfl) (c_X10_isShelf_in hj) ?_
  refine j_if_eq (tgt := 39) dX10_order_4 (by decide) (fun h => absurd h (by decide)) (fun _ => ?_)
  refine j_iload_n dX10_order_7 rfl rfl ?_
  refine jn_if_lt (tgt := 39) dX10_order_8 (by decide) he ?_
  refine j_aload_n dX10_order_11 rfl rfl ?_
  refine t_getR (b := 10) dX10_order_12 jfl_X10_19 (fun _ _ _ => rfl) rfl ?_
  refine j_iload_n dX10_order_15 rfl rfl ?_
  refine j_bipush (v := nI 100) dX10_order_16 rfl ?_
  refine jn_idiv dX10_order_18 he (by decide) (by decide) ?_
  refine j_callVi [.int _] [] dX10_order_19 jlk_X10_127 rfl rfl rfl rfl (Nat.le_of_ble_eq_true rfl) (c_X7_isAccount_in r10 r11 hea) ?_
  refine j_if_eq (tgt := 39) dX10_order_22 (by decide) (fun h => absurd h (by decide)) (fun _ => ?_)
  refine j_iload_n dX10_order_25 rfl rfl ?_
  refine j_bipush (v := nI 100) dX10_order_26 rfl ?_
  refine jn_irem dX10_order_28 he (by decide) (by decide) ?_
  refine j_bipush (v := nI 49) dX10_order_29 rfl ?_
  refine jn_icmp_gt (tgt := 39) dX10_order_31 (by decide) (by omega) (by omega) (fun h31 => absurd h31 (by omega)) (fun h31 => ?_)
  refine j_iload_n dX10_order_34 rfl rfl ?_
  refine j_iconst (v := (-1)) dX10_order_35 rfl ?_
  refine j_icmp_ge (tgt := 41) dX10_order_36 (by decide) (fun h36 => ?_) (fun h36 => absurd (Int32.lt_trans (Int32.not_le.mp h36) (by decide)) (nI_pos hk))
  refine j_aload_n dX10_order_41 rfl rfl ?_
  refine t_getR (b := 63) dX10_order_42 jfl_X10_83 (fun _ _ _ => rfl) rfl ?_
  refine j_iload_n dX10_order_45 rfl rfl ?_
  refine t_aaload dX10_order_46 (by omega) ?_
  refine j_callVi [] [] dX10_order_47 jlk_X10_103 rfl rfl ((shS0 (sh_of hj)) _ _ _) rfl (Nat.le_of_ble_eq_true rfl) (jMet_i (c_X8_bytesFault (sh_of hj) hh (by decide) hso (by decide)) (show bfI 2 0 = nI 0 from rfl) rfl) ?_
  refine j_istore (lv' := [some (.ref 4), some (.int _), some (.int _), some (.int _), some (.int _), none]) dX10_order_50 (by decide) rfl ?_
  refine j_iload dX10_order_52 rfl ?_
  refine j_if_eq (tgt := 60) dX10_order_54 (by decide) (fun _ => ?_) (fun h => absurd (by decide) h)
  refine j_aload_n dX10_order_60 rfl rfl ?_
  refine t_getR (b := 35) dX10_order_61 jfl_X10_37 (fun _ _ _ => rfl) rfl ?_
  refine j_aload_n dX10_order_64 rfl rfl ?_
  refine t_getR (b := 63) dX10_order_65 jfl_X10_83 (fun _ _ _ => rfl) rfl ?_
  refine j_iload_n dX10_order_68 rfl rfl ?_
  refine t_aaload dX10_order_69 (by omega) ?_
  refine j_aload_n dX10_order_70 rfl rfl ?_
  refine t_getR (b := 43) dX10_order_71 jfl_X10_46 (fun _ _ _ => rfl) rfl ?_
  refine j_iload_n dX10_order_74 rfl rfl ?_
  refine j_bipush (v := nI 100) dX10_order_75 rfl ?_
  refine jn_idiv dX10_order_77 he (by decide) (by decide) ?_
  refine j_iload_n dX10_order_78 rfl rfl ?_
  refine j_bipush (v := nI 100) dX10_order_79 rfl ?_
  refine jn_irem dX10_order_81 he (by decide) (by decide) ?_
  refine j_callV [.ref (64 + 2 * j), .ref 43, .int _, .int _] [] dX10_order_82 jlk_X10_188 rfl rfl rfl rfl (Nat.le_of_ble_eq_true rfl) (c_X9_seekOrder hr (sh_of hj) hh hln l60 hN hc hc9 hp0 (by omega)) (fun r9 w9 h9 => ?_)
  obtain ⟨rfl, f9, g9, p9, c9, hz9, rfl⟩ := h9
  refine j_ats (st' := [.int _]) rfl ?_
  refine j_istore (lv' := [some (.ref 4), some (.int _), some (.int _), some (.int _), some (.int _), some (.int _)]) dX10_order_85 (by decide) rfl ?_
  refine j_iload_n dX10_order_87 rfl rfl ?_
  refine j_iconst (v := (-1)) dX10_order_88 rfl ?_
  refine j_icmp_ne (tgt := 97) dX10_order_89 (by decide) (fun h89 => ?_) (fun h89 => absurd h89 (nI_nm1 hk))
  refine j_aload_n dX10_order_97 rfl rfl ?_
  refine t_getR (b := 35) dX10_order_98 jfl_X10_37 (fun _ _ _ => rfl) rfl ?_
  refine j_iload_n dX10_order_101 rfl rfl ?_
  refine j_callVi [.int _] [] dX10_order_102 jlk_X10_192 rfl rfl rfl rfl (Nat.le_of_ble_eq_true rfl) (c_X9_placeOf (t := min N 5) (by rw [cX_n _ _ (by decide)]; unfold sX; rw [vu_s]; exact pk_us) (Nat.min_le_right _ _) hk) ?_
  rw [scr_k hB (by decide), cA_n _ _ _ (by decide) (by decide) (by decide), sA_38]
  refine j_ireturn dX10_order_105 rfl ?_
  exact ⟨rfl, f9, g9, p9, c9, hz9, rfl⟩

set_option maxHeartbeats 200000 in
set_option maxRecDepth 100000 in
theorem c_read_no (hr : rul B cd vl st an en n na v X A) {c a x q : Int32} (h : isA 6 c = nI 0 ∨ isA na a = nI 0 ∨ isA 300 x = nI 0 ∨ isA 3 q = nI 0) : jMet (d + 4) yX10_read cX10_read 6 (some .int) 0 0 [.ref 4, .int c, .int a, .int x, .int q] (tw X A L) (jRi (-1) (tw X A L)) := by
  refine jMet_of (by decide) (Nat.le_of_ble_eq_true rfl) none (Or.inl rfl) ?_
  show jWP none RX10 cX10_read 6 (some .int) (d + 4) 0 0 0 [some (.ref 4), some (.int c), some (.int a), some (.int x), some (.int q), none] [] (tw X A L) (jRi (-1) (tw X A L))
  obtain ⟨hB, r2, r3, r4, r5, r6, r7, r8, r9, r10, r11, r12, r13⟩ := id hr
  refine j_iload_n dX10_read_0 rfl rfl ?_
  refine j_callSi [.int _] [] dX10_read_1 jlk_X10_96 rfl rfl (Nat.le_of_ble_eq_true rfl) (c_X10_isShelf) ?_
  refine j_if_eq (tgt := 40) dX10_read_4 (by decide) (fun h4 => ?_) (fun h4 => ?_)
  · refine j_iconst (v := (-1)) dX10_read_40 rfl ?_
    refine j_ireturn dX10_read_41 rfl ?_
    exact ⟨rfl, rfl⟩
  · refine j_aload_n dX10_read_7 rfl rfl ?_
    refine t_getR (b := 10) dX10_read_8 jfl_X10_19 (fun _ _ _ => rfl) rfl ?_
    refine j_iload_n dX10_read_11 rfl rfl ?_
    refine j_callVi [.int _] [] dX10_read_12 jlk_X10_127 rfl rfl rfl rfl (Nat.le_of_ble_eq_true rfl) (c_X7_isAccount r10 r11) ?_
    refine j_if_eq (tgt := 40) dX10_read_15 (by decide) (fun h15 => ?_) (fun h15 => ?_)
    · refine j_iconst (v := (-1)) dX10_read_40 rfl ?_
      refine j_ireturn dX10_read_41 rfl ?_
      exact ⟨rfl, rfl⟩
    · refine j_iload_n dX10_read_18 rfl rfl ?_
      refine j_if_lt (tgt := 40) dX10_read_19 (by decide) (fun h19 => ?_) (fun h19 => ?_)
      · refine j_iconst (v := (-1)) dX10_read_40 rfl ?_
        refine j_ireturn dX10_read_41 rfl ?_
        exact ⟨rfl, rfl⟩
      · refine j_iload_n dX10_read_22 rfl rfl ?_
        refine j_sipush (v := nI 299) dX10_read_23 rfl ?_
        refine j_icmp_gt (tgt := 40) dX10_read_26 (by decide) (fun h26 => ?_) (fun h26 => ?_)
        · refine j_iconst (v := (-1)) dX10_read_40 rfl ?_
          refine j_ireturn dX10_read_41 rfl ?_
          exact ⟨rfl, rfl⟩
        · refine j_iload dX10_read_29 rfl ?_
          refine j_if_lt (tgt := 40) dX10_read_31 (by decide) (fun h31 => ?_) (fun h31 => ?_)
          · refine j_iconst (v := (-1)) dX10_read_40 rfl ?_
            refine j_ireturn dX10_read_41 rfl ?_
            exact ⟨rfl, rfl⟩
          · refine j_iload dX10_read_34 rfl ?_
            refine j_iconst (v := nI 2) dX10_read_36 rfl ?_
            refine j_icmp_le (tgt := 42) dX10_read_37 (by decide) (fun h37 => ?_) (fun h37 => ?_)
            · exfalso
              rcases h with h | h | h | h
              · exact h4 h
              · exact h15 h
              · obtain ⟨i, hi, rfl⟩ := ixle h19 h26 (by decide)
                unfold isA at h
                rw [if_neg (nI_pos (by omega)), if_neg (Int32.not_le.mpr ((nI_ltI (by omega) (by decide)).mpr (by omega)))] at h
                exact absurd h (by decide)
              · obtain ⟨i, hi, rfl⟩ := ixle h31 (Int32.not_lt.mpr h37) (by decide)
                rw [isA_in (by omega) (by decide)] at h
                exact absurd h (by decide)
            · refine j_iconst (v := (-1)) dX10_read_40 rfl ?_
              refine j_ireturn dX10_read_41 rfl ?_
              exact ⟨rfl, rfl⟩

set_option maxHeartbeats 200000 in
set_option maxRecDepth 100000 in
theorem c_read_f (hr : rul B cd vl st an en n na v X A) {j : Nat} (hj : j < 6) {h so : Nat} (hh : X (64 + 2 * j) 0 = nI h) (h2 : h ≤ 2) (hso : X (64 + 2 * j) 2 = nI so) (so4 : so ≤ 4) (hf : bfI h so ≠ 0) {k : Nat} (hk : k < na) {x : Nat} (hx : x < 300) {q : Nat} (hq : q < 3) : jMet (d + 4) yX10_read cX10_read 6 (some .int) 0 0 [.ref 4, .int (nI j), .int (nI k), .int (nI x), .int (nI q)] (tw X A L) (jRi (bfI h so) (tw X A L)) := by
  refine jMet_of (by decide) (Nat.le_of_ble_eq_true rfl) none (Or.inl rfl) ?_
  show jWP none RX10 cX10_read 6 (some .int) (d + 4) 0 0 0 [some (.ref 4), some (.int (nI j)), some (.int (nI k)), some (.int (nI x)), some (.int (nI q)), none] [] (tw X A L) (jRi (bfI h so) (tw X A L))
  obtain ⟨hB, r2, r3, r4, r5, r6, r7, r8, r9, r10, r11, r12, r13⟩ := id hr
  refine j_iload_n dX10_read_0 rfl rfl ?_
  refine j_callSi [.int _] [] dX10_read_1 jlk_X10_96 rfl rfl (Nat.le_of_ble_eq_true rfl) (c_X10_isShelf_in hj) ?_
  refine j_if_eq (tgt := 40) dX10_read_4 (by decide) (fun h => absurd h (by decide)) (fun _ => ?_)
  refine j_aload_n dX10_read_7 rfl rfl ?_
  refine t_getR (b := 10) dX10_read_8 jfl_X10_19 (fun _ _ _ => rfl) rfl ?_
  refine j_iload_n dX10_read_11 rfl rfl ?_
  refine j_callVi [.int _] [] dX10_read_12 jlk_X10_127 rfl rfl rfl rfl (Nat.le_of_ble_eq_true rfl) (c_X7_isAccount_in r10 r11 hk) ?_
  refine j_if_eq (tgt := 40) dX10_read_15 (by decide) (fun h => absurd h (by decide)) (fun _ => ?_)
  refine j_iload_n dX10_read_18 rfl rfl ?_
  refine jn_if_lt (tgt := 40) dX10_read_19 (by decide) (by omega) ?_
  refine j_iload_n dX10_read_22 rfl rfl ?_
  refine j_sipush (v := nI 299) dX10_read_23 rfl ?_
  refine jn_icmp_gt (tgt := 40) dX10_read_26 (by decide) (by omega) (by omega) (fun h26 => absurd h26 (by omega)) (fun h26 => ?_)
  refine j_iload dX10_read_29 rfl ?_
  refine jn_if_lt (tgt := 40) dX10_read_31 (by decide) (by omega) ?_
  refine j_iload dX10_read_34 rfl ?_
  refine j_iconst (v := nI 2) dX10_read_36 rfl ?_
  refine jn_icmp_le (tgt := 42) dX10_read_37 (by decide) (by omega) (by omega) (fun h37 => ?_) (fun h37 => absurd h37 (by omega))
  refine j_aload_n dX10_read_42 rfl rfl ?_
  refine t_getR (b := 63) dX10_read_43 jfl_X10_83 (fun _ _ _ => rfl) rfl ?_
  refine j_iload_n dX10_read_46 rfl rfl ?_
  refine t_aaload dX10_read_47 (by omega) ?_
  refine j_callVi [] [] dX10_read_48 jlk_X10_103 rfl rfl ((shS0 (sh_of hj)) _ _ _) rfl (Nat.le_of_ble_eq_true rfl) (c_X8_bytesFault (sh_of hj) hh h2 hso so4) ?_
  refine j_istore (lv' := [some (.ref 4), some (.int _), some (.int _), some (.int _), some (.int _), some (.int _)]) dX10_read_51 (by decide) rfl ?_
  refine j_iload dX10_read_53 rfl ?_
  refine j_if_eq (tgt := 61) dX10_read_55 (by decide) (fun h55 => absurd h55 hf) (fun h55 => ?_)
  refine j_iload dX10_read_58 rfl ?_
  refine j_ireturn dX10_read_60 rfl ?_
  exact ⟨rfl, rfl⟩

set_option maxHeartbeats 200000 in
set_option maxRecDepth 100000 in
theorem c_read_0 (hr : rul B cd vl st an en n na v X A) (hc : cok X A 43) {j : Nat} (hj : j < 6) (hh : X (64 + 2 * j) 0 = nI 2) (hso : X (64 + 2 * j) 2 = nI 0) {ln : Nat} (hln : X (64 + 2 * j) 3 = nI ln) (l60 : ln ≤ 60) {k : Nat} (hk : k < na) {x : Nat} (hx : x < 300) : jMet (d + 4) yX10_read cX10_read 6 (some .int) 0 0 [.ref 4, .int (nI j), .int (nI k), .int (nI x), .int (nI 0)] (tw X A L) (jRi (nI (cnt (fun s => decide ((rsS (A 44) (A 45) (rE L (64 + 2 * j)) (nI k) (balS (A 44) (A 45) (nI k) 49) (gC (A 44) (rE L (64 + 2 * j)) ln)) + (ssF (A 59) (A 45) (rE L (64 + 2 * j)) (gC (A 44) (rE L (64 + 2 * j)) ln)) s = nI x)) (2 ^ (gC (A 44) (rE L (64 + 2 * j)) ln)))) (tw (tkX X (A 44) (A 45) (rE L (64 + 2 * j)) (nI k) (balS (A 44) (A 45) (nI k) 49) (gC (A 44) (rE L (64 + 2 * j)) ln)) (tkA A (A 45) (rE L (64 + 2 * j)) (gC (A 44) (rE L (64 + 2 * j)) ln)) L)) := by
  refine jMet_of (by decide) (Nat.le_of_ble_eq_true rfl) none (Or.inl rfl) ?_
  show jWP none RX10 cX10_read 6 (some .int) (d + 4) 0 0 0 [some (.ref 4), some (.int (nI j)), some (.int (nI k)), some (.int (nI x)), some (.int (nI 0)), none] [] (tw X A L) (jRi (nI (cnt (fun s => decide ((rsS (A 44) (A 45) (rE L (64 + 2 * j)) (nI k) (balS (A 44) (A 45) (nI k) 49) (gC (A 44) (rE L (64 + 2 * j)) ln)) + (ssF (A 59) (A 45) (rE L (64 + 2 * j)) (gC (A 44) (rE L (64 + 2 * j)) ln)) s = nI x)) (2 ^ (gC (A 44) (rE L (64 + 2 * j)) ln)))) (tw (tkX X (A 44) (A 45) (rE L (64 + 2 * j)) (nI k) (balS (A 44) (A 45) (nI k) 49) (gC (A 44) (rE L (64 + 2 * j)) ln)) (tkA A (A 45) (rE L (64 + 2 * j)) (gC (A 44) (rE L (64 + 2 * j)) ln)) L))
  obtain ⟨hB, r2, r3, r4, r5, r6, r7, r8, r9, r10, r11, r12, r13⟩ := id hr
  have hg := gC_le (A 44) (rE L (64 + 2 * j)) ln
  have hp1 : 2 ^ (gC (A 44) (rE L (64 + 2 * j)) ln) ≤ 1024 := Nat.pow_le_pow_right (by decide) hg.1
  have hp0 : 0 < 2 ^ (gC (A 44) (rE L (64 + 2 * j)) ln) := Nat.pow_pos (by decide)
  refine j_iload_n dX10_read_0 rfl rfl ?_
  refine j_callSi [.int _] [] dX10_read_1 jlk_X10_96 rfl rfl (Nat.le_of_ble_eq_true rfl) (c_X10_isShelf_in hj) ?_
  refine j_if_eq (tgt := 40) dX10_read_4 (by decide) (fun h => absurd h (by decide)) (fun _ => ?_)
  refine j_aload_n dX10_read_7 rfl rfl ?_
  refine t_getR (b := 10) dX10_read_8 jfl_X10_19 (fun _ _ _ => rfl) rfl ?_
  refine j_iload_n dX10_read_11 rfl rfl ?_
  refine j_callVi [.int _] [] dX10_read_12 jlk_X10_127 rfl rfl rfl rfl (Nat.le_of_ble_eq_true rfl) (c_X7_isAccount_in r10 r11 hk) ?_
  refine j_if_eq (tgt := 40) dX10_read_15 (by decide) (fun h => absurd h (by decide)) (fun _ => ?_)
  refine j_iload_n dX10_read_18 rfl rfl ?_
  refine jn_if_lt (tgt := 40) dX10_read_19 (by decide) (by omega) ?_
  refine j_iload_n dX10_read_22 rfl rfl ?_
  refine j_sipush (v := nI 299) dX10_read_23 rfl ?_
  refine jn_icmp_gt (tgt := 40) dX10_read_26 (by decide) (by omega) (by omega) (fun h26 => absurd h26 (by omega)) (fun h26 => ?_)
  refine j_iload dX10_read_29 rfl ?_
  refine j_if_lt (tgt := 40) dX10_read_31 (by decide) (fun h => absurd h (by decide)) (fun _ => ?_)
  refine j_iload dX10_read_34 rfl ?_
  refine j_iconst (v := nI 2) dX10_read_36 rfl ?_
  refine j_icmp_le (tgt := 42) dX10_read_37 (by decide) (fun _ => ?_) (fun h => absurd (by decide) h)
  refine j_aload_n dX10_read_42 rfl rfl ?_
  refine t_getR (b := 63) dX10_read_43 jfl_X10_83 (fun _ _ _ => rfl) rfl ?_
  refine j_iload_n dX10_read_46 rfl rfl ?_
  refine t_aaload dX10_read_47 (by omega) ?_
  refine j_callVi [] [] dX10_read_48 jlk_X10_103 rfl rfl ((shS0 (sh_of hj)) _ _ _) rfl (Nat.le_of_ble_eq_true rfl) (jMet_i (c_X8_bytesFault (sh_of hj) hh (by decide) hso (by decide)) (show bfI 2 0 = nI 0 from rfl) rfl) ?_
  refine j_istore (lv' := [some (.ref 4), some (.int _), some (.int _), some (.int _), some (.int _), some (.int _)]) dX10_read_51 (by decide) rfl ?_
  refine j_iload dX10_read_53 rfl ?_
  refine j_if_eq (tgt := 61) dX10_read_55 (by decide) (fun _ => ?_) (fun h => absurd (by decide) h)
  refine j_aload_n dX10_read_61 rfl rfl ?_
  refine t_getR (b := 57) dX10_read_62 jfl_X10_70 (fun _ _ _ => rfl) rfl ?_
  refine j_aload_n dX10_read_65 rfl rfl ?_
  refine t_getR (b := 63) dX10_read_66 jfl_X10_83 (fun _ _ _ => rfl) rfl ?_
  refine j_iload_n dX10_read_69 rfl rfl ?_
  refine t_aaload dX10_read_70 (by omega) ?_
  refine j_aload_n dX10_read_71 rfl rfl ?_
  refine t_getR (b := 43) dX10_read_72 jfl_X10_46 (fun _ _ _ => rfl) rfl ?_
  refine j_iload_n dX10_read_75 rfl rfl ?_
  refine j_callVv [.ref (64 + 2 * j), .ref 43, .int _] [] dX10_read_76 jlk_X10_234 rfl rfl rfl rfl (Nat.le_of_ble_eq_true rfl) (c_X5_take (sh_of hj) hh hln l60 (b := rE L (64 + 2 * j)) (fun _ _ => rfl) (Or.inr (Or.inl rfl)) hc) ?_
  rw [show (43 + 1 : Nat) = 44 from rfl, show (43 + 2 : Nat) = 45 from rfl]
  refine j_iload dX10_read_79 rfl ?_
  refine j_if_ne (tgt := 95) dX10_read_81 (by decide) (fun h => absurd (by decide) h) (fun _ => ?_)
  refine j_aload_n dX10_read_84 rfl rfl ?_
  refine t_getR (b := 57) dX10_read_85 jfl_X10_70 (fun _ _ _ => rfl) rfl ?_
  refine j_iload_n dX10_read_88 rfl rfl ?_
  refine j_callVi [.int _] [] dX10_read_89 jlk_X10_238 rfl rfl rfl rfl (Nat.le_of_ble_eq_true rfl) (c_X5_ways (tkX_3 _ _ _ _ _ _ _) hp1) ?_
  simp only [tkX_4, tkA_59]
  refine j_goto (tgt := 120) dX10_read_92 (by decide) ?_
  refine j_ireturn dX10_read_120 rfl ?_
  exact ⟨rfl, rfl⟩

set_option maxHeartbeats 200000 in
set_option maxRecDepth 100000 in
theorem c_read_1 (hr : rul B cd vl st an en n na v X A) (hc : cok X A 43) {j : Nat} (hj : j < 6) (hh : X (64 + 2 * j) 0 = nI 2) (hso : X (64 + 2 * j) 2 = nI 0) {ln : Nat} (hln : X (64 + 2 * j) 3 = nI ln) (l60 : ln ≤ 60) {k : Nat} (hk : k < na) {x : Nat} (hx : x < 300) : jMet (d + 4) yX10_read cX10_read 6 (some .int) 0 0 [.ref 4, .int (nI j), .int (nI k), .int (nI x), .int (nI 1)] (tw X A L) (jRi (if anyB (fun s => decide ((rsS (A 44) (A 45) (rE L (64 + 2 * j)) (nI k) (balS (A 44) (A 45) (nI k) 49) (gC (A 44) (rE L (64 + 2 * j)) ln)) + (ssF (A 59) (A 45) (rE L (64 + 2 * j)) (gC (A 44) (rE L (64 + 2 * j)) ln)) s = nI x)) (2 ^ (gC (A 44) (rE L (64 + 2 * j)) ln)) = true then nI (sureS (fun s => decide ((rsS (A 44) (A 45) (rE L (64 + 2 * j)) (nI k) (balS (A 44) (A 45) (nI k) 49) (gC (A 44) (rE L (64 + 2 * j)) ln)) + (ssF (A 59) (A 45) (rE L (64 + 2 * j)) (gC (A 44) (rE L (64 + 2 * j)) ln)) s = nI x)) (2 ^ (gC (A 44) (rE L (64 + 2 * j)) ln) - 1) (2 ^ (gC (A 44) (rE L (64 + 2 * j)) ln))) else nI 0) (tw (tkX X (A 44) (A 45) (rE L (64 + 2 * j)) (nI k) (balS (A 44) (A 45) (nI k) 49) (gC (A 44) (rE L (64 + 2 * j)) ln)) (tkA A (A 45) (rE L (64 + 2 * j)) (gC (A 44) (rE L (64 + 2 * j)) ln)) L)) := by
  refine jMet_of (by decide) (Nat.le_of_ble_eq_true rfl) none (Or.inl rfl) ?_
  show jWP none RX10 cX10_read 6 (some .int) (d + 4) 0 0 0 [some (.ref 4), some (.int (nI j)), some (.int (nI k)), some (.int (nI x)), some (.int (nI 1)), none] [] (tw X A L) (jRi (if anyB (fun s => decide ((rsS (A 44) (A 45) (rE L (64 + 2 * j)) (nI k) (balS (A 44) (A 45) (nI k) 49) (gC (A 44) (rE L (64 + 2 * j)) ln)) + (ssF (A 59) (A 45) (rE L (64 + 2 * j)) (gC (A 44) (rE L (64 + 2 * j)) ln)) s = nI x)) (2 ^ (gC (A 44) (rE L (64 + 2 * j)) ln)) = true then nI (sureS (fun s => decide ((rsS (A 44) (A 45) (rE L (64 + 2 * j)) (nI k) (balS (A 44) (A 45) (nI k) 49) (gC (A 44) (rE L (64 + 2 * j)) ln)) + (ssF (A 59) (A 45) (rE L (64 + 2 * j)) (gC (A 44) (rE L (64 + 2 * j)) ln)) s = nI x)) (2 ^ (gC (A 44) (rE L (64 + 2 * j)) ln) - 1) (2 ^ (gC (A 44) (rE L (64 + 2 * j)) ln))) else nI 0) (tw (tkX X (A 44) (A 45) (rE L (64 + 2 * j)) (nI k) (balS (A 44) (A 45) (nI k) 49) (gC (A 44) (rE L (64 + 2 * j)) ln)) (tkA A (A 45) (rE L (64 + 2 * j)) (gC (A 44) (rE L (64 + 2 * j)) ln)) L))
  obtain ⟨hB, r2, r3, r4, r5, r6, r7, r8, r9, r10, r11, r12, r13⟩ := id hr
  have hg := gC_le (A 44) (rE L (64 + 2 * j)) ln
  have hp1 : 2 ^ (gC (A 44) (rE L (64 + 2 * j)) ln) ≤ 1024 := Nat.pow_le_pow_right (by decide) hg.1
  have hp0 : 0 < 2 ^ (gC (A 44) (rE L (64 + 2 * j)) ln) := Nat.pow_pos (by decide)
  refine j_iload_n dX10_read_0 rfl rfl ?_
  refine j_callSi [.int _] [] dX10_read_1 jlk_X10_96 rfl rfl (Nat.le_of_ble_eq_true rfl) (c_X10_isShelf_in hj) ?_
  refine j_if_eq (tgt := 40) dX10_read_4 (by decide) (fun h => absurd h (by decide)) (fun _ => ?_)
  refine j_aload_n dX10_read_7 rfl rfl ?_
  refine t_getR (b := 10) dX10_read_8 jfl_X10_19 (fun _ _ _ => rfl) rfl ?_
  refine j_iload_n dX10_read_11 rfl rfl ?_
  refine j_callVi [.int _] [] dX10_read_12 jlk_X10_127 rfl rfl rfl rfl (Nat.le_of_ble_eq_true rfl) (c_X7_isAccount_in r10 r11 hk) ?_
  refine j_if_eq (tgt := 40) dX10_read_15 (by decide) (fun h => absurd h (by decide)) (fun _ => ?_)
  refine j_iload_n dX10_read_18 rfl rfl ?_
  refine jn_if_lt (tgt := 40) dX10_read_19 (by decide) (by omega) ?_
  refine j_iload_n dX10_read_22 rfl rfl ?_
  refine j_sipush (v := nI 299) dX10_read_23 rfl ?_
  refine jn_icmp_gt (tgt := 40) dX10_read_26 (by decide) (by omega) (by omega) (fun h26 => absurd h26 (by omega)) (fun h26 => ?_)
  refine j_iload dX10_read_29 rfl ?_
  refine j_if_lt (tgt := 40) dX10_read_31 (by decide) (fun h => absurd h (by decide)) (fun _ => ?_)
  refine j_iload dX10_read_34 rfl ?_
  refine j_iconst (v := nI 2) dX10_read_36 rfl ?_
  refine j_icmp_le (tgt := 42) dX10_read_37 (by decide) (fun _ => ?_) (fun h => absurd (by decide) h)
  refine j_aload_n dX10_read_42 rfl rfl ?_
  refine t_getR (b := 63) dX10_read_43 jfl_X10_83 (fun _ _ _ => rfl) rfl ?_
  refine j_iload_n dX10_read_46 rfl rfl ?_
  refine t_aaload dX10_read_47 (by omega) ?_
  refine j_callVi [] [] dX10_read_48 jlk_X10_103 rfl rfl ((shS0 (sh_of hj)) _ _ _) rfl (Nat.le_of_ble_eq_true rfl) (jMet_i (c_X8_bytesFault (sh_of hj) hh (by decide) hso (by decide)) (show bfI 2 0 = nI 0 from rfl) rfl) ?_
  refine j_istore (lv' := [some (.ref 4), some (.int _), some (.int _), some (.int _), some (.int _), some (.int _)]) dX10_read_51 (by decide) rfl ?_
  refine j_iload dX10_read_53 rfl ?_
  refine j_if_eq (tgt := 61) dX10_read_55 (by decide) (fun _ => ?_) (fun h => absurd (by decide) h)
  refine j_aload_n dX10_read_61 rfl rfl ?_
  refine t_getR (b := 57) dX10_read_62 jfl_X10_70 (fun _ _ _ => rfl) rfl ?_
  refine j_aload_n dX10_read_65 rfl rfl ?_
  refine t_getR (b := 63) dX10_read_66 jfl_X10_83 (fun _ _ _ => rfl) rfl ?_
  refine j_iload_n dX10_read_69 rfl rfl ?_
  refine t_aaload dX10_read_70 (by omega) ?_
  refine j_aload_n dX10_read_71 rfl rfl ?_
  refine t_getR (b := 43) dX10_read_72 jfl_X10_46 (fun _ _ _ => rfl) rfl ?_
  refine j_iload_n dX10_read_75 rfl rfl ?_
  refine j_callVv [.ref (64 + 2 * j), .ref 43, .int _] [] dX10_read_76 jlk_X10_234 rfl rfl rfl rfl (Nat.le_of_ble_eq_true rfl) (c_X5_take (sh_of hj) hh hln l60 (b := rE L (64 + 2 * j)) (fun _ _ => rfl) (Or.inr (Or.inl rfl)) hc) ?_
  rw [show (43 + 1 : Nat) = 44 from rfl, show (43 + 2 : Nat) = 45 from rfl]
  refine j_iload dX10_read_79 rfl ?_
  refine j_if_ne (tgt := 95) dX10_read_81 (by decide) (fun _ => ?_) (fun h => absurd h (by decide))
  refine j_iload dX10_read_95 rfl ?_
  refine j_iconst (v := nI 1) dX10_read_97 rfl ?_
  refine j_icmp_ne (tgt := 112) dX10_read_98 (by decide) (fun h => absurd (by decide) h) (fun _ => ?_)
  refine j_aload_n dX10_read_101 rfl rfl ?_
  refine t_getR (b := 57) dX10_read_102 jfl_X10_70 (fun _ _ _ => rfl) rfl ?_
  refine j_iload_n dX10_read_105 rfl rfl ?_
  refine j_callVi [.int _] [] dX10_read_106 jlk_X10_241 rfl rfl rfl rfl (Nat.le_of_ble_eq_true rfl) (c_X5_sure (tkX_3 _ _ _ _ _ _ _) hp1 hp0) ?_
  simp only [tkX_4, tkA_59]
  refine j_goto (tgt := 120) dX10_read_109 (by decide) ?_
  refine j_ireturn dX10_read_120 rfl ?_
  exact ⟨rfl, rfl⟩

set_option maxHeartbeats 200000 in
set_option maxRecDepth 100000 in
theorem c_read_2 (hr : rul B cd vl st an en n na v X A) (hc : cok X A 43) {j : Nat} (hj : j < 6) (hh : X (64 + 2 * j) 0 = nI 2) (hso : X (64 + 2 * j) 2 = nI 0) {ln : Nat} (hln : X (64 + 2 * j) 3 = nI ln) (l60 : ln ≤ 60) {k : Nat} (hk : k < na) {x : Nat} (hx : x < 300) : jMet (d + 4) yX10_read cX10_read 6 (some .int) 0 0 [.ref 4, .int (nI j), .int (nI k), .int (nI x), .int (nI 2)] (tw X A L) (jRi (oN (fsF (fun s => decide ((rsS (A 44) (A 45) (rE L (64 + 2 * j)) (nI k) (balS (A 44) (A 45) (nI k) 49) (gC (A 44) (rE L (64 + 2 * j)) ln)) + (ssF (A 59) (A 45) (rE L (64 + 2 * j)) (gC (A 44) (rE L (64 + 2 * j)) ln)) s = nI x)) (2 ^ (gC (A 44) (rE L (64 + 2 * j)) ln)) 0)) (tw (tkX X (A 44) (A 45) (rE L (64 + 2 * j)) (nI k) (balS (A 44) (A 45) (nI k) 49) (gC (A 44) (rE L (64 + 2 * j)) ln)) (tkA A (A 45) (rE L (64 + 2 * j)) (gC (A 44) (rE L (64 + 2 * j)) ln)) L)) := by
  refine jMet_of (by decide) (Nat.le_of_ble_eq_true rfl) none (Or.inl rfl) ?_
  show jWP none RX10 cX10_read 6 (some .int) (d + 4) 0 0 0 [some (.ref 4), some (.int (nI j)), some (.int (nI k)), some (.int (nI x)), some (.int (nI 2)), none] [] (tw X A L) (jRi (oN (fsF (fun s => decide ((rsS (A 44) (A 45) (rE L (64 + 2 * j)) (nI k) (balS (A 44) (A 45) (nI k) 49) (gC (A 44) (rE L (64 + 2 * j)) ln)) + (ssF (A 59) (A 45) (rE L (64 + 2 * j)) (gC (A 44) (rE L (64 + 2 * j)) ln)) s = nI x)) (2 ^ (gC (A 44) (rE L (64 + 2 * j)) ln)) 0)) (tw (tkX X (A 44) (A 45) (rE L (64 + 2 * j)) (nI k) (balS (A 44) (A 45) (nI k) 49) (gC (A 44) (rE L (64 + 2 * j)) ln)) (tkA A (A 45) (rE L (64 + 2 * j)) (gC (A 44) (rE L (64 + 2 * j)) ln)) L))
  obtain ⟨hB, r2, r3, r4, r5, r6, r7, r8, r9, r10, r11, r12, r13⟩ := id hr
  have hg := gC_le (A 44) (rE L (64 + 2 * j)) ln
  have hp1 : 2 ^ (gC (A 44) (rE L (64 + 2 * j)) ln) ≤ 1024 := Nat.pow_le_pow_right (by decide) hg.1
  have hp0 : 0 < 2 ^ (gC (A 44) (rE L (64 + 2 * j)) ln) := Nat.pow_pos (by decide)
  refine j_iload_n dX10_read_0 rfl rfl ?_
  refine j_callSi [.int _] [] dX10_read_1 jlk_X10_96 rfl rfl (Nat.le_of_ble_eq_true rfl) (c_X10_isShelf_in hj) ?_
  refine j_if_eq (tgt := 40) dX10_read_4 (by decide) (fun h => absurd h (by decide)) (fun _ => ?_)
  refine j_aload_n dX10_read_7 rfl rfl ?_
  refine t_getR (b := 10) dX10_read_8 jfl_X10_19 (fun _ _ _ => rfl) rfl ?_
  refine j_iload_n dX10_read_11 rfl rfl ?_
  refine j_callVi [.int _] [] dX10_read_12 jlk_X10_127 rfl rfl rfl rfl (Nat.le_of_ble_eq_true rfl) (c_X7_isAccount_in r10 r11 hk) ?_
  refine j_if_eq (tgt := 40) dX10_read_15 (by decide) (fun h => absurd h (by decide)) (fun _ => ?_)
  refine j_iload_n dX10_read_18 rfl rfl ?_
  refine jn_if_lt (tgt := 40) dX10_read_19 (by decide) (by omega) ?_
  refine j_iload_n dX10_read_22 rfl rfl ?_
  refine j_sipush (v := nI 299) dX10_read_23 rfl ?_
  refine jn_icmp_gt (tgt := 40) dX10_read_26 (by decide) (by omega) (by omega) (fun h26 => absurd h26 (by omega)) (fun h26 => ?_)
  refine j_iload dX10_read_29 rfl ?_
  refine j_if_lt (tgt := 40) dX10_read_31 (by decide) (fun h => absurd h (by decide)) (fun _ => ?_)
  refine j_iload dX10_read_34 rfl ?_
  refine j_iconst (v := nI 2) dX10_read_36 rfl ?_
  refine j_icmp_le (tgt := 42) dX10_read_37 (by decide) (fun _ => ?_) (fun h => absurd (by decide) h)
  refine j_aload_n dX10_read_42 rfl rfl ?_
  refine t_getR (b := 63) dX10_read_43 jfl_X10_83 (fun _ _ _ => rfl) rfl ?_
  refine j_iload_n dX10_read_46 rfl rfl ?_
  refine t_aaload dX10_read_47 (by omega) ?_
  refine j_callVi [] [] dX10_read_48 jlk_X10_103 rfl rfl ((shS0 (sh_of hj)) _ _ _) rfl (Nat.le_of_ble_eq_true rfl) (jMet_i (c_X8_bytesFault (sh_of hj) hh (by decide) hso (by decide)) (show bfI 2 0 = nI 0 from rfl) rfl) ?_
  refine j_istore (lv' := [some (.ref 4), some (.int _), some (.int _), some (.int _), some (.int _), some (.int _)]) dX10_read_51 (by decide) rfl ?_
  refine j_iload dX10_read_53 rfl ?_
  refine j_if_eq (tgt := 61) dX10_read_55 (by decide) (fun _ => ?_) (fun h => absurd (by decide) h)
  refine j_aload_n dX10_read_61 rfl rfl ?_
  refine t_getR (b := 57) dX10_read_62 jfl_X10_70 (fun _ _ _ => rfl) rfl ?_
  refine j_aload_n dX10_read_65 rfl rfl ?_
  refine t_getR (b := 63) dX10_read_66 jfl_X10_83 (fun _ _ _ => rfl) rfl ?_
  refine j_iload_n dX10_read_69 rfl rfl ?_
  refine t_aaload dX10_read_70 (by omega) ?_
  refine j_aload_n dX10_read_71 rfl rfl ?_
  refine t_getR (b := 43) dX10_read_72 jfl_X10_46 (fun _ _ _ => rfl) rfl ?_
  refine j_iload_n dX10_read_75 rfl rfl ?_
  refine j_callVv [.ref (64 + 2 * j), .ref 43, .int _] [] dX10_read_76 jlk_X10_234 rfl rfl rfl rfl (Nat.le_of_ble_eq_true rfl) (c_X5_take (sh_of hj) hh hln l60 (b := rE L (64 + 2 * j)) (fun _ _ => rfl) (Or.inr (Or.inl rfl)) hc) ?_
  rw [show (43 + 1 : Nat) = 44 from rfl, show (43 + 2 : Nat) = 45 from rfl]
  refine j_iload dX10_read_79 rfl ?_
  refine j_if_ne (tgt := 95) dX10_read_81 (by decide) (fun _ => ?_) (fun h => absurd h (by decide))
  refine j_iload dX10_read_95 rfl ?_
  refine j_iconst (v := nI 1) dX10_read_97 rfl ?_
  refine j_icmp_ne (tgt := 112) dX10_read_98 (by decide) (fun _ => ?_) (fun h => absurd h (by decide))
  refine j_aload_n dX10_read_112 rfl rfl ?_
  refine t_getR (b := 57) dX10_read_113 jfl_X10_70 (fun _ _ _ => rfl) rfl ?_
  refine j_iload_n dX10_read_116 rfl rfl ?_
  refine j_callVi [.int _] [] dX10_read_117 jlk_X10_244 rfl rfl rfl rfl (Nat.le_of_ble_eq_true rfl) (c_X5_leastSet (tkX_3 _ _ _ _ _ _ _) hp1) ?_
  simp only [tkX_4, tkA_59]
  refine j_ireturn dX10_read_120 rfl ?_
  exact ⟨rfl, rfl⟩

set_option maxHeartbeats 200000 in
set_option maxRecDepth 100000 in
theorem c_open_no (hr : rul B cd vl st an en n na v X A) {c a : Int32} (h : isA 6 c = nI 0 ∨ isA na a = nI 0) : jMet (d + 4) yX10_open cX10_open 4 (some .int) 0 0 [.ref 4, .int c, .int a] (tw X A L) (jRi (-1) (tw X A L)) := by
  refine jMet_of (by decide) (Nat.le_of_ble_eq_true rfl) none (Or.inl rfl) ?_
  show jWP none RX10 cX10_open 4 (some .int) (d + 4) 0 0 0 [some (.ref 4), some (.int c), some (.int a), none] [] (tw X A L) (jRi (-1) (tw X A L))
  obtain ⟨hB, r2, r3, r4, r5, r6, r7, r8, r9, r10, r11, r12, r13⟩ := id hr
  refine j_iload_n dX10_open_0 rfl rfl ?_
  refine j_callSi [.int _] [] dX10_open_1 jlk_X10_96 rfl rfl (Nat.le_of_ble_eq_true rfl) (c_X10_isShelf) ?_
  refine j_if_eq (tgt := 18) dX10_open_4 (by decide) (fun h4 => ?_) (fun h4 => ?_)
  · refine j_iconst (v := (-1)) dX10_open_18 rfl ?_
    refine j_ireturn dX10_open_19 rfl ?_
    exact ⟨rfl, rfl⟩
  · refine j_aload_n dX10_open_7 rfl rfl ?_
    refine t_getR (b := 10) dX10_open_8 jfl_X10_19 (fun _ _ _ => rfl) rfl ?_
    refine j_iload_n dX10_open_11 rfl rfl ?_
    refine j_callVi [.int _] [] dX10_open_12 jlk_X10_127 rfl rfl rfl rfl (Nat.le_of_ble_eq_true rfl) (c_X7_isAccount r10 r11) ?_
    refine j_if_ne (tgt := 20) dX10_open_15 (by decide) (fun h15 => ?_) (fun h15 => ?_)
    · exact absurd h (fun q => q.elim h4 h15)
    · refine j_iconst (v := (-1)) dX10_open_18 rfl ?_
      refine j_ireturn dX10_open_19 rfl ?_
      exact ⟨rfl, rfl⟩

set_option maxHeartbeats 200000 in
set_option maxRecDepth 100000 in
theorem c_open_f (hr : rul B cd vl st an en n na v X A) {j : Nat} (hj : j < 6) {h so : Nat} (hh : X (64 + 2 * j) 0 = nI h) (h2 : h ≤ 2) (hso : X (64 + 2 * j) 2 = nI so) (so4 : so ≤ 4) (hf : bfI h so ≠ 0) {k : Nat} (hk : k < na) : jMet (d + 4) yX10_open cX10_open 4 (some .int) 0 0 [.ref 4, .int (nI j), .int (nI k)] (tw X A L) (jRi (bfI h so) (tw X A L)) := by
  refine jMet_of (by decide) (Nat.le_of_ble_eq_true rfl) none (Or.inl rfl) ?_
  show jWP none RX10 cX10_open 4 (some .int) (d + 4) 0 0 0 [some (.ref 4), some (.int (nI j)), some (.int (nI k)), none] [] (tw X A L) (jRi (bfI h so) (tw X A L))
  obtain ⟨hB, r2, r3, r4, r5, r6, r7, r8, r9, r10, r11, r12, r13⟩ := id hr
  refine j_iload_n dX10_open_0 rfl rfl ?_
  refine j_callSi [.int _] [] dX10_open_1 jlk_X10_96 rfl rfl (Nat.le_of_ble_eq_true rfl) (c_X10_isShelf_in hj) ?_
  refine j_if_eq (tgt := 18) dX10_open_4 (by decide) (fun h => absurd h (by decide)) (fun _ => ?_)
  refine j_aload_n dX10_open_7 rfl rfl ?_
  refine t_getR (b := 10) dX10_open_8 jfl_X10_19 (fun _ _ _ => rfl) rfl ?_
  refine j_iload_n dX10_open_11 rfl rfl ?_
  refine j_callVi [.int _] [] dX10_open_12 jlk_X10_127 rfl rfl rfl rfl (Nat.le_of_ble_eq_true rfl) (c_X7_isAccount_in r10 r11 hk) ?_
  refine j_if_ne (tgt := 20) dX10_open_15 (by decide) (fun _ => ?_) (fun h => absurd h (by decide))
  refine j_aload_n dX10_open_20 rfl rfl ?_
  refine t_getR (b := 63) dX10_open_21 jfl_X10_83 (fun _ _ _ => rfl) rfl ?_
  refine j_iload_n dX10_open_24 rfl rfl ?_
  refine t_aaload dX10_open_25 (by omega) ?_
  refine j_callVi [] [] dX10_open_26 jlk_X10_103 rfl rfl ((shS0 (sh_of hj)) _ _ _) rfl (Nat.le_of_ble_eq_true rfl) (c_X8_bytesFault (sh_of hj) hh h2 hso so4) ?_
  refine j_istore_n (lv' := [some (.ref 4), some (.int _), some (.int _), some (.int _)]) dX10_open_29 rfl (by decide) rfl ?_
  refine j_iload_n dX10_open_30 rfl rfl ?_
  refine j_if_eq (tgt := 36) dX10_open_31 (by decide) (fun h31 => absurd h31 hf) (fun h31 => ?_)
  refine j_iload_n dX10_open_34 rfl rfl ?_
  refine j_ireturn dX10_open_35 rfl ?_
  exact ⟨rfl, rfl⟩

set_option maxHeartbeats 200000 in
set_option maxRecDepth 100000 in
theorem c_open (hr : rul B cd vl st an en n na v X A) (hc : cok X A 43) {j : Nat} (hj : j < 6) (hh : X (64 + 2 * j) 0 = nI 2) (hso : X (64 + 2 * j) 2 = nI 0) {ln : Nat} (hln : X (64 + 2 * j) 3 = nI ln) (l60 : ln ≤ 60) {k : Nat} (hk : k < na) : jMet (d + 4) yX10_open cX10_open 4 (some .int) 0 0 [.ref 4, .int (nI j), .int (nI k)] (tw X A L) (jRi (nI (fwS (fun op => decide (cnt (badB (fun s => decide ((rsS (A 44) (A 45) (rE L (64 + 2 * j)) (nI k) (balS (A 44) (A 45) (nI k) 49) (gC (A 44) (rE L (64 + 2 * j)) ln)) + (ssF (A 59) (A 45) (rE L (64 + 2 * j)) (gC (A 44) (rE L (64 + 2 * j)) ln)) s = (rsS (A 44) (A 45) (rE L (64 + 2 * j)) (nI k) (balS (A 44) (A 45) (nI k) 49) (gC (A 44) (rE L (64 + 2 * j)) ln)) + (ssF (A 59) (A 45) (rE L (64 + 2 * j)) (gC (A 44) (rE L (64 + 2 * j)) ln)) (trS (A 44) (rE L (64 + 2 * j)) (nI k) (gC (A 44) (rE L (64 + 2 * j)) ln)))) (trS (A 44) (rE L (64 + 2 * j)) (nI k) (gC (A 44) (rE L (64 + 2 * j)) ln)) op) (2 ^ (gC (A 44) (rE L (64 + 2 * j)) ln)) = 0)) (2 ^ (gC (A 44) (rE L (64 + 2 * j)) ln) - 1) (2 ^ (gC (A 44) (rE L (64 + 2 * j)) ln)))) (tw (tkX X (A 44) (A 45) (rE L (64 + 2 * j)) (nI k) (balS (A 44) (A 45) (nI k) 49) (gC (A 44) (rE L (64 + 2 * j)) ln)) (tkA A (A 45) (rE L (64 + 2 * j)) (gC (A 44) (rE L (64 + 2 * j)) ln)) L)) := by
  refine jMet_of (by decide) (Nat.le_of_ble_eq_true rfl) none (Or.inl rfl) ?_
  show jWP none RX10 cX10_open 4 (some .int) (d + 4) 0 0 0 [some (.ref 4), some (.int (nI j)), some (.int (nI k)), none] [] (tw X A L) (jRi (nI (fwS (fun op => decide (cnt (badB (fun s => decide ((rsS (A 44) (A 45) (rE L (64 + 2 * j)) (nI k) (balS (A 44) (A 45) (nI k) 49) (gC (A 44) (rE L (64 + 2 * j)) ln)) + (ssF (A 59) (A 45) (rE L (64 + 2 * j)) (gC (A 44) (rE L (64 + 2 * j)) ln)) s = (rsS (A 44) (A 45) (rE L (64 + 2 * j)) (nI k) (balS (A 44) (A 45) (nI k) 49) (gC (A 44) (rE L (64 + 2 * j)) ln)) + (ssF (A 59) (A 45) (rE L (64 + 2 * j)) (gC (A 44) (rE L (64 + 2 * j)) ln)) (trS (A 44) (rE L (64 + 2 * j)) (nI k) (gC (A 44) (rE L (64 + 2 * j)) ln)))) (trS (A 44) (rE L (64 + 2 * j)) (nI k) (gC (A 44) (rE L (64 + 2 * j)) ln)) op) (2 ^ (gC (A 44) (rE L (64 + 2 * j)) ln)) = 0)) (2 ^ (gC (A 44) (rE L (64 + 2 * j)) ln) - 1) (2 ^ (gC (A 44) (rE L (64 + 2 * j)) ln)))) (tw (tkX X (A 44) (A 45) (rE L (64 + 2 * j)) (nI k) (balS (A 44) (A 45) (nI k) 49) (gC (A 44) (rE L (64 + 2 * j)) ln)) (tkA A (A 45) (rE L (64 + 2 * j)) (gC (A 44) (rE L (64 + 2 * j)) ln)) L))
  obtain ⟨hB, r2, r3, r4, r5, r6, r7, r8, r9, r10, r11, r12, r13⟩ := id hr
  have hg := gC_le (A 44) (rE L (64 + 2 * j)) ln
  have hp1 : 2 ^ (gC (A 44) (rE L (64 + 2 * j)) ln) ≤ 1024 := Nat.pow_le_pow_right (by decide) hg.1
  have hp0 : 0 < 2 ^ (gC (A 44) (rE L (64 + 2 * j)) ln) := Nat.pow_pos (by decide)
  refine j_iload_n dX10_open_0 rfl rfl ?_
  refine j_callSi [.int _] [] dX10_open_1 jlk_X10_96 rfl rfl (Nat.le_of_ble_eq_true rfl) (c_X10_isShelf_in hj) ?_
  refine j_if_eq (tgt := 18) dX10_open_4 (by decide) (fun h => absurd h (by decide)) (fun _ => ?_)
  refine j_aload_n dX10_open_7 rfl rfl ?_
  refine t_getR (b := 10) dX10_open_8 jfl_X10_19 (fun _ _ _ => rfl) rfl ?_
  refine j_iload_n dX10_open_11 rfl rfl ?_
  refine j_callVi [.int _] [] dX10_open_12 jlk_X10_127 rfl rfl rfl rfl (Nat.le_of_ble_eq_true rfl) (c_X7_isAccount_in r10 r11 hk) ?_
  refine j_if_ne (tgt := 20) dX10_open_15 (by decide) (fun _ => ?_) (fun h => absurd h (by decide))
  refine j_aload_n dX10_open_20 rfl rfl ?_
  refine t_getR (b := 63) dX10_open_21 jfl_X10_83 (fun _ _ _ => rfl) rfl ?_
  refine j_iload_n dX10_open_24 rfl rfl ?_
  refine t_aaload dX10_open_25 (by omega) ?_
  refine j_callVi [] [] dX10_open_26 jlk_X10_103 rfl rfl ((shS0 (sh_of hj)) _ _ _) rfl (Nat.le_of_ble_eq_true rfl) (jMet_i (c_X8_bytesFault (sh_of hj) hh (by decide) hso (by decide)) (show bfI 2 0 = nI 0 from rfl) rfl) ?_
  refine j_istore_n (lv' := [some (.ref 4), some (.int _), some (.int _), some (.int _)]) dX10_open_29 rfl (by decide) rfl ?_
  refine j_iload_n dX10_open_30 rfl rfl ?_
  refine j_if_eq (tgt := 36) dX10_open_31 (by decide) (fun _ => ?_) (fun h => absurd (by decide) h)
  refine j_aload_n dX10_open_36 rfl rfl ?_
  refine t_getR (b := 57) dX10_open_37 jfl_X10_70 (fun _ _ _ => rfl) rfl ?_
  refine j_aload_n dX10_open_40 rfl rfl ?_
  refine t_getR (b := 63) dX10_open_41 jfl_X10_83 (fun _ _ _ => rfl) rfl ?_
  refine j_iload_n dX10_open_44 rfl rfl ?_
  refine t_aaload dX10_open_45 (by omega) ?_
  refine j_aload_n dX10_open_46 rfl rfl ?_
  refine t_getR (b := 43) dX10_open_47 jfl_X10_46 (fun _ _ _ => rfl) rfl ?_
  refine j_iload_n dX10_open_50 rfl rfl ?_
  refine j_callVv [.ref (64 + 2 * j), .ref 43, .int _] [] dX10_open_51 jlk_X10_234 rfl rfl rfl rfl (Nat.le_of_ble_eq_true rfl) (c_X5_take (sh_of hj) hh hln l60 (b := rE L (64 + 2 * j)) (fun _ _ => rfl) (Or.inr (Or.inl rfl)) hc) ?_
  rw [show (43 + 1 : Nat) = 44 from rfl, show (43 + 2 : Nat) = 45 from rfl]
  refine j_aload_n dX10_open_54 rfl rfl ?_
  refine t_getR (b := 57) dX10_open_55 jfl_X10_70 (fun _ _ _ => rfl) rfl ?_
  refine j_callVi [] [] dX10_open_58 jlk_X10_247 rfl rfl rfl rfl (Nat.le_of_ble_eq_true rfl) (c_X5_fewest (tkX_3 _ _ _ _ _ _ _) hp1 hp0 (tkX_5 _ _ _ _ _ _ _) (trS_lt _)) ?_
  simp only [tkX_4, tkA_59]
  refine j_ireturn dX10_open_61 rfl ?_
  exact ⟨rfl, rfl⟩

end CT24