def tdN (h s : Nat) : Nat := (h ^^^ s) &&& 7
theorem td_all {h s : Nat} (hh : h < 8) (hs : s < 8) : (nI h ^^^ nI s) &&& nI 7 = nI (tdN h s) ∧ tdN h s < 8 ∧ pcN (tdN h s) ≤ 3 := by
  have q : (List.range 8).all (fun h => (List.range 8).all fun s => decide ((nI h ^^^ nI s) &&& nI 7 = nI (tdN h s)) && decide (tdN h s < 8) && decide (pcN (tdN h s) ≤ 3)) = true := by decide +kernel
  have h1 := List.all_eq_true.mp (List.all_eq_true.mp q h (List.mem_range.mpr hh)) s (List.mem_range.mpr hs)
  simp only [Bool.and_eq_true, decide_eq_true_eq] at h1
  exact ⟨h1.1.1, h1.1.2, h1.2⟩
/-- how often h is heard where s was danced -/
def hwJ (fl h s : Nat) : Int64 := pwJ (nI fl) (pcN (tdN h s)) * pwJ (nI (12 - fl)) (3 - pcN (tdN h s))
def hwS (fl h : Nat) : Nat → Int64
  | 0 => 0
  | s + 1 => hwS fl h s + hwJ fl h (s + 1)
section CT27
variable {d : Nat} {X A : Nat → Nat → Int32} {L : Nat → Nat → Int64} {w : jW} {B : Nat} {cd vl st an en : Nat → Nat} {n na : Nat} {v : Nat → Nat} {nb : Nat} {kd : Nat → Nat}

set_option maxHeartbeats 200000 in
set_option maxRecDepth 100000 in
theorem c_heardWeight (hr : rul B cd vl st an en n na v X A) (hv7 : v 7 ≤ 6) {h s : Nat} (hh : h < 8) (hs : s < 8) : jMet (d + 4) yX10_heardWeight cX10_heardWeight 4 (some .long) 0 0 [.ref 4, .int (nI h), .int (nI s)] (tw X A L) (jRl (hwJ (v 7) h s) (tw X A L)) := by
  refine jMet_of (by decide) (Nat.le_of_ble_eq_true rfl) none (Or.inl rfl) ?_
  show jWP none RX10 cX10_heardWeight 4 (some .long) (d + 4) 0 0 0 [some (.ref 4), some (.int (nI h)), some (.int (nI s)), none] [] (tw X A L) (jRl (hwJ (v 7) h s) (tw X A L))
  obtain ⟨hB, r2, r3, r4, r5, r6, r7, r8, r9, r10, r11, r12, r13⟩ := id hr
  have ht := td_all hh hs
  refine j_iload_n dX10_heardWeight_0 rfl rfl ?_
  refine j_iload_n dX10_heardWeight_1 rfl rfl ?_
  refine j_ixor dX10_heardWeight_2 ?_
  refine j_bipush (v := nI 7) dX10_heardWeight_3 rfl ?_
  refine j_iand dX10_heardWeight_5 ?_
  refine j_topE (e' := nI (tdN h s)) ht.1 ?_
  refine j_callSi [.int _] [] dX10_heardWeight_6 jlk_X10_364 rfl rfl (Nat.le_of_ble_eq_true rfl) (c_J6_bitCountN (Nat.lt_trans ht.2.1 (by decide))) ?_
  refine j_istore_n (lv' := [some (.ref 4), some (.int _), some (.int _), some (.int _)]) dX10_heardWeight_9 rfl (by decide) rfl ?_
  refine j_aload_n dX10_heardWeight_10 rfl rfl ?_
  refine t_getR (b := 10) dX10_heardWeight_11 jfl_X10_19 (fun _ _ _ => rfl) rfl ?_
  refine j_callVi [] [] dX10_heardWeight_14 jlk_X10_369 rfl rfl rfl rfl (Nat.le_of_ble_eq_true rfl) (c_X7_flip r10 r11 r12) ?_
  refine j_iload_n dX10_heardWeight_17 rfl rfl ?_
  refine j_callSl [.int _, .int _] [] dX10_heardWeight_18 jlk_X10_253 rfl rfl (Nat.le_of_ble_eq_true rfl) (c_power (by omega)) ?_
  refine j_bipush (v := nI 12) dX10_heardWeight_21 rfl ?_
  refine j_aload_n dX10_heardWeight_23 rfl rfl ?_
  refine t_getR (b := 10) dX10_heardWeight_24 jfl_X10_19 (fun _ _ _ => rfl) rfl ?_
  refine j_callVi [] [.int _, .long _] dX10_heardWeight_27 jlk_X10_369 rfl rfl rfl rfl (Nat.le_of_ble_eq_true rfl) (c_X7_flip r10 r11 r12) ?_
  refine jn_isub dX10_heardWeight_30 (by omega) ?_
  refine j_iconst (v := nI 3) dX10_heardWeight_31 rfl ?_
  refine j_iload_n dX10_heardWeight_32 rfl rfl ?_
  refine jn_isub dX10_heardWeight_33 ht.2.2 ?_
  refine j_callSl [.int _, .int _] [.long _] dX10_heardWeight_34 jlk_X10_253 rfl rfl (Nat.le_of_ble_eq_true rfl) (c_power (by omega)) ?_
  refine j_lmul dX10_heardWeight_37 ?_
  refine j_lreturn dX10_heardWeight_38 rfl ?_
  exact ⟨rfl, rfl⟩

theorem is16_in {s : Nat} (h1 : 1 ≤ s) (h6 : s ≤ 6) : is16 (nI s) = nI 1 := by
  unfold is16
  rw [if_neg (nI_nlt h1 (by omega)), if_neg (nI_nlt h6 (by decide))]

set_option maxHeartbeats 200000 in
set_option maxRecDepth 100000 in
theorem c_right (hr : rul B cd vl st an en n na v X A) (hv7 : v 7 ≤ 6) {s : Nat} (hs1 : 1 ≤ s) (hs6 : s ≤ 6) {p : Int32} (hp : is01 p = nI 1) : jMet (d + 5) yX10_right cX10_right 3 (some .long) 0 0 [.ref 4, .int (nI s), .int p] (tw X A L) (jRl (frJ (hwJ (v 7) s s) 1728 p) (tw X A L)) := by
  refine jMet_of (by decide) (Nat.le_of_ble_eq_true rfl) none (Or.inl rfl) ?_
  show jWP none RX10 cX10_right 3 (some .long) (d + 5) 0 0 0 [some (.ref 4), some (.int (nI s)), some (.int p)] [] (tw X A L) (jRl (frJ (hwJ (v 7) s s) 1728 p) (tw X A L))
  refine j_iload_n dX10_right_0 rfl rfl ?_
  refine j_callSi [.int _] [] dX10_right_1 jlk_X10_210 rfl rfl (Nat.le_of_ble_eq_true rfl) (jMet_i c_X10_isSum (is16_in hs1 hs6) rfl) ?_
  refine j_if_eq (tgt := 30) dX10_right_4 (by decide) (fun h => absurd h (by decide)) (fun _ => ?_)
  refine j_iload_n dX10_right_7 rfl rfl ?_
  refine j_callSi [.int _] [] dX10_right_8 jlk_X10_213 rfl rfl (Nat.le_of_ble_eq_true rfl) (jMet_i c_X10_isPart hp rfl) ?_
  refine j_if_eq (tgt := 30) dX10_right_11 (by decide) (fun h => absurd h (by decide)) (fun _ => ?_)
  refine j_aload_n dX10_right_14 rfl rfl ?_
  refine j_iload_n dX10_right_15 rfl rfl ?_
  refine j_iload_n dX10_right_16 rfl rfl ?_
  refine j_callVl [.int _, .int _] [] dX10_right_17 jlk_X10_218 rfl rfl rfl rfl (Nat.le_of_ble_eq_true rfl) (c_heardWeight hr hv7 (by omega) (by omega)) ?_
  refine j_ldc2 dX10_right_20 jw_k_X10_232 ?_
  refine j_iload_n dX10_right_23 rfl rfl ?_
  refine j_callSl [.long _, .long _, .int _] [] dX10_right_24 jlk_X10_224 rfl rfl (Nat.le_of_ble_eq_true rfl) (c_fraction) ?_
  refine j_goto (tgt := 33) dX10_right_27 (by decide) ?_
  refine j_lreturn dX10_right_33 rfl ?_
  exact ⟨rfl, rfl⟩

set_option maxHeartbeats 200000 in
set_option maxRecDepth 100000 in
theorem c_right_no {s p : Int32} (h : is16 s = nI 0 ∨ is01 p = nI 0) : jMet (d + 5) yX10_right cX10_right 3 (some .long) 0 0 [.ref 4, .int s, .int p] (tw X A L) (jRl (-9223372036854775808) (tw X A L)) := by
  refine jMet_of (by decide) (Nat.le_of_ble_eq_true rfl) none (Or.inl rfl) ?_
  show jWP none RX10 cX10_right 3 (some .long) (d + 5) 0 0 0 [some (.ref 4), some (.int s), some (.int p)] [] (tw X A L) (jRl (-9223372036854775808) (tw X A L))
  refine j_iload_n dX10_right_0 rfl rfl ?_
  refine j_callSi [.int _] [] dX10_right_1 jlk_X10_210 rfl rfl (Nat.le_of_ble_eq_true rfl) (c_X10_isSum) ?_
  refine j_if_eq (tgt := 30) dX10_right_4 (by decide) (fun h4 => ?_) (fun h4 => ?_)
  · refine j_ldc2 dX10_right_30 jw_k_X10_216 ?_
    refine j_lreturn dX10_right_33 rfl ?_
    exact ⟨rfl, rfl⟩
  · refine j_iload_n dX10_right_7 rfl rfl ?_
    refine j_callSi [.int _] [] dX10_right_8 jlk_X10_213 rfl rfl (Nat.le_of_ble_eq_true rfl) (c_X10_isPart) ?_
    refine j_if_eq (tgt := 30) dX10_right_11 (by decide) (fun h11 => ?_) (fun h11 => ?_)
    · refine j_ldc2 dX10_right_30 jw_k_X10_216 ?_
      refine j_lreturn dX10_right_33 rfl ?_
      exact ⟨rfl, rfl⟩
    · exact absurd h (fun q => q.elim h4 h11)

set_option maxHeartbeats 200000 in
set_option maxRecDepth 100000 in
theorem l_dance (hr : rul B cd vl st an en n na v X A) (hv7 : v 7 ≤ 6) {h s : Nat} (hh : h < 8) (hs1 : 1 ≤ s) (hs6 : s ≤ 6) {p : Int32} : ∀ (m i : Nat), i ≤ 6 → 6 - i < m → jWP none RX10 cX10_dance 7 (some .long) (d + 5) 0 0 34 [some (.ref 4), some (.int (nI h)), some (.int (nI s)), some (.int p), some (.long (hwS (v 7) h i)), none, some (.int (nI (i + 1)))] [] (tw X A L) (jRl (if hwS (v 7) h 6 = 0 then (-2) else frJ (hwJ (v 7) h s) (hwS (v 7) h 6) p) (tw X A L)) := by
  intro m
  induction m with
  | zero => intro i h1 h2; omega
  | succ m ih =>
    intro i hi hm
    refine j_iload dX10_dance_34 rfl ?_
    refine j_bipush (v := nI 6) dX10_dance_36 rfl ?_
    refine jn_icmp_gt (tgt := 59) dX10_dance_38 (by decide) (by omega) (by omega) (fun h38 => ?_) (fun h38 => ?_)
    · obtain rfl : i = 6 := by omega
      refine j_lload dX10_dance_59 rfl ?_
      refine j_lconst (v := 0) dX10_dance_61 rfl ?_
      refine j_lcmp dX10_dance_62 ?_
      refine j_if_ne (tgt := 72) dX10_dance_63 (by decide) (fun h63 => ?_) (fun h63 => ?_)
      · refine j_aload_n dX10_dance_72 rfl rfl ?_
        refine j_iload_n dX10_dance_73 rfl rfl ?_
        refine j_iload_n dX10_dance_74 rfl rfl ?_
        refine j_callVl [.int _, .int _] [] dX10_dance_75 jlk_X10_218 rfl rfl rfl rfl (Nat.le_of_ble_eq_true rfl) (c_heardWeight hr hv7 (by omega) (by omega)) ?_
        refine j_lload dX10_dance_78 rfl ?_
        refine j_iload_n dX10_dance_80 rfl rfl ?_
        refine j_callSl [.long _, .long _, .int _] [] dX10_dance_81 jlk_X10_224 rfl rfl (Nat.le_of_ble_eq_true rfl) (c_fraction) ?_
        refine j_lreturn dX10_dance_84 rfl ?_
        exact ⟨by rw [if_neg (fun q => h63 (lcmp0.mpr q))], rfl⟩
      · refine j_ldc2 dX10_dance_66 jw_k_X10_222 ?_
        refine j_goto (tgt := 84) dX10_dance_69 (by decide) ?_
        refine j_lreturn dX10_dance_84 rfl ?_
        exact ⟨by rw [if_pos (lcmp0.mp (by first | exact h63 | simpa using h63))], rfl⟩
    · refine j_lload dX10_dance_41 rfl ?_
      refine j_aload_n dX10_dance_43 rfl rfl ?_
      refine j_iload_n dX10_dance_44 rfl rfl ?_
      refine j_iload dX10_dance_45 rfl ?_
      refine j_callVl [.int _, .int _] [.long _] dX10_dance_47 jlk_X10_218 rfl rfl rfl rfl (Nat.le_of_ble_eq_true rfl) (c_heardWeight hr hv7 (by omega) (by omega)) ?_
      refine j_ladd dX10_dance_50 ?_
      refine j_lstore (lv' := [some (.ref 4), some (.int _), some (.int _), some (.int _), some (.long _), none, some (.int _)]) dX10_dance_51 (by decide) rfl ?_
      refine jn_iinc (lv' := [some (.ref 4), some (.int _), some (.int _), some (.int _), some (.long _), none, some (.int _)]) dX10_dance_53 rfl (by decide) rfl ?_
      refine j_goto (tgt := 34) dX10_dance_56 (by decide) ?_
      exact ih (i + 1) (by omega) (by omega)

set_option maxHeartbeats 200000 in
set_option maxRecDepth 100000 in
theorem c_dance (hr : rul B cd vl st an en n na v X A) (hv7 : v 7 ≤ 6) {h s : Nat} (hh : h < 8) (hs1 : 1 ≤ s) (hs6 : s ≤ 6) {p : Int32} (hp : is01 p = nI 1) : jMet (d + 5) yX10_dance cX10_dance 7 (some .long) 0 0 [.ref 4, .int (nI h), .int (nI s), .int p] (tw X A L) (jRl (if hwS (v 7) h 6 = 0 then (-2) else frJ (hwJ (v 7) h s) (hwS (v 7) h 6) p) (tw X A L)) := by
  refine jMet_of (by decide) (Nat.le_of_ble_eq_true rfl) none (Or.inl rfl) ?_
  show jWP none RX10 cX10_dance 7 (some .long) (d + 5) 0 0 0 [some (.ref 4), some (.int (nI h)), some (.int (nI s)), some (.int p), none, none, none] [] (tw X A L) (jRl (if hwS (v 7) h 6 = 0 then (-2) else frJ (hwJ (v 7) h s) (hwS (v 7) h 6) p) (tw X A L))
  refine j_iload_n dX10_dance_0 rfl rfl ?_
  refine jn_if_lt (tgt := 24) dX10_dance_1 (by decide) (by omega) ?_
  refine j_iload_n dX10_dance_4 rfl rfl ?_
  refine j_bipush (v := nI 7) dX10_dance_5 rfl ?_
  refine jn_icmp_gt (tgt := 24) dX10_dance_7 (by decide) (by omega) (by omega) (fun h7 => absurd h7 (by omega)) (fun h7 => ?_)
  refine j_iload_n dX10_dance_10 rfl rfl ?_
  refine j_callSi [.int _] [] dX10_dance_11 jlk_X10_210 rfl rfl (Nat.le_of_ble_eq_true rfl) (jMet_i c_X10_isSum (is16_in hs1 hs6) rfl) ?_
  refine j_if_eq (tgt := 24) dX10_dance_14 (by decide) (fun h => absurd h (by decide)) (fun _ => ?_)
  refine j_iload_n dX10_dance_17 rfl rfl ?_
  refine j_callSi [.int _] [] dX10_dance_18 jlk_X10_213 rfl rfl (Nat.le_of_ble_eq_true rfl) (jMet_i c_X10_isPart hp rfl) ?_
  refine j_if_ne (tgt := 28) dX10_dance_21 (by decide) (fun _ => ?_) (fun h => absurd h (by decide))
  refine j_lconst (v := 0) dX10_dance_28 rfl ?_
  refine j_lstore (lv' := [some (.ref 4), some (.int _), some (.int _), some (.int _), some (.long _), none, none]) dX10_dance_29 (by decide) rfl ?_
  refine j_iconst (v := nI 1) dX10_dance_31 rfl ?_
  refine j_istore (lv' := [some (.ref 4), some (.int _), some (.int _), some (.int _), some (.long _), none, some (.int _)]) dX10_dance_32 (by decide) rfl ?_
  exact l_dance hr hv7 hh hs1 hs6 7 0 (by decide) (by decide)

set_option maxHeartbeats 200000 in
set_option maxRecDepth 100000 in
theorem c_dance_no {h s p : Int32} (hn : isA 8 h = nI 0 ∨ is16 s = nI 0 ∨ is01 p = nI 0) : jMet (d + 5) yX10_dance cX10_dance 7 (some .long) 0 0 [.ref 4, .int h, .int s, .int p] (tw X A L) (jRl (-9223372036854775808) (tw X A L)) := by
  refine jMet_of (by decide) (Nat.le_of_ble_eq_true rfl) none (Or.inl rfl) ?_
  show jWP none RX10 cX10_dance 7 (some .long) (d + 5) 0 0 0 [some (.ref 4), some (.int h), some (.int s), some (.int p), none, none, none] [] (tw X A L) (jRl (-9223372036854775808) (tw X A L))
  refine j_iload_n dX10_dance_0 rfl rfl ?_
  refine j_if_lt (tgt := 24) dX10_dance_1 (by decide) (fun h1 => ?_) (fun h1 => ?_)
  · refine j_ldc2 dX10_dance_24 jw_k_X10_216 ?_
    refine j_lreturn dX10_dance_27 rfl ?_
    exact ⟨rfl, rfl⟩
  · refine j_iload_n dX10_dance_4 rfl rfl ?_
    refine j_bipush (v := nI 7) dX10_dance_5 rfl ?_
    refine j_icmp_gt (tgt := 24) dX10_dance_7 (by decide) (fun h7 => ?_) (fun h7 => ?_)
    · refine j_ldc2 dX10_dance_24 jw_k_X10_216 ?_
      refine j_lreturn dX10_dance_27 rfl ?_
      exact ⟨rfl, rfl⟩
    · refine j_iload_n dX10_dance_10 rfl rfl ?_
      refine j_callSi [.int _] [] dX10_dance_11 jlk_X10_210 rfl rfl (Nat.le_of_ble_eq_true rfl) (c_X10_isSum) ?_
      refine j_if_eq (tgt := 24) dX10_dance_14 (by decide) (fun h14 => ?_) (fun h14 => ?_)
      · refine j_ldc2 dX10_dance_24 jw_k_X10_216 ?_
        refine j_lreturn dX10_dance_27 rfl ?_
        exact ⟨rfl, rfl⟩
      · refine j_iload_n dX10_dance_17 rfl rfl ?_
        refine j_callSi [.int _] [] dX10_dance_18 jlk_X10_213 rfl rfl (Nat.le_of_ble_eq_true rfl) (c_X10_isPart) ?_
        refine j_if_ne (tgt := 28) dX10_dance_21 (by decide) (fun h21 => ?_) (fun h21 => ?_)
        · exfalso
          rcases hn with q | q | q
          · obtain ⟨i, hi, rfl⟩ := ixle h1 h7 (by decide)
            rw [isA_in (by omega) (by decide)] at q
            exact absurd q (by decide)
          · exact h14 q
          · exact h21 q
        · refine j_ldc2 dX10_dance_24 jw_k_X10_216 ?_
          refine j_lreturn dX10_dance_27 rfl ?_
          exact ⟨rfl, rfl⟩

set_option maxHeartbeats 200000 in
set_option maxRecDepth 100000 in
theorem c_pass_0 (hr : rul B cd vl st an en n na v X A) (hv6 : v 6 ≤ 12) {m : Nat} (hm : m ≤ 8) {p : Int32} (hp : is01 p = nI 1) : jMet (d + 5) yX10_pass cX10_pass 5 (some .long) 0 0 [.ref 4, .int (nI m), .int (nI 0), .int p] (tw X A L) (jRl (frJ (pwJ (nI (12 - v 6)) m) (pwJ (nI 12) m) p) (tw X A L)) := by
  refine jMet_of (by decide) (Nat.le_of_ble_eq_true rfl) none (Or.inl rfl) ?_
  show jWP none RX10 cX10_pass 5 (some .long) (d + 5) 0 0 0 [some (.ref 4), some (.int (nI m)), some (.int (nI 0)), some (.int p), none] [] (tw X A L) (jRl (frJ (pwJ (nI (12 - v 6)) m) (pwJ (nI 12) m) p) (tw X A L))
  obtain ⟨hB, r2, r3, r4, r5, r6, r7, r8, r9, r10, r11, r12, r13⟩ := id hr
  refine j_iload_n dX10_pass_0 rfl rfl ?_
  refine jn_if_lt (tgt := 26) dX10_pass_1 (by decide) (by omega) ?_
  refine j_iload_n dX10_pass_4 rfl rfl ?_
  refine j_bipush (v := nI 8) dX10_pass_5 rfl ?_
  refine jn_icmp_gt (tgt := 26) dX10_pass_7 (by decide) (by omega) (by omega) (fun h7 => absurd h7 (by omega)) (fun h7 => ?_)
  refine j_iload_n dX10_pass_10 rfl rfl ?_
  refine j_if_lt (tgt := 26) dX10_pass_11 (by decide) (fun h => absurd h (by decide)) (fun _ => ?_)
  refine j_iload_n dX10_pass_14 rfl rfl ?_
  refine j_iconst (v := nI 1) dX10_pass_15 rfl ?_
  refine j_icmp_gt (tgt := 26) dX10_pass_16 (by decide) (fun h => absurd h (by decide)) (fun _ => ?_)
  refine j_iload_n dX10_pass_19 rfl rfl ?_
  refine j_callSi [.int _] [] dX10_pass_20 jlk_X10_213 rfl rfl (Nat.le_of_ble_eq_true rfl) (jMet_i c_X10_isPart hp rfl) ?_
  refine j_if_ne (tgt := 30) dX10_pass_23 (by decide) (fun _ => ?_) (fun h => absurd h (by decide))
  refine j_bipush (v := nI 12) dX10_pass_30 rfl ?_
  refine j_aload_n dX10_pass_32 rfl rfl ?_
  refine t_getR (b := 10) dX10_pass_33 jfl_X10_19 (fun _ _ _ => rfl) rfl ?_
  refine j_callVi [] [.int _] dX10_pass_36 jlk_X10_250 rfl rfl rfl rfl (Nat.le_of_ble_eq_true rfl) (c_X7_guards r10 r11 r12) ?_
  refine jn_isub dX10_pass_39 hv6 ?_
  refine j_istore (lv' := [some (.ref 4), some (.int _), some (.int _), some (.int _), some (.int _)]) dX10_pass_40 (by decide) rfl ?_
  refine j_iload_n dX10_pass_42 rfl rfl ?_
  refine j_if_ne (tgt := 65) dX10_pass_43 (by decide) (fun h => absurd (by decide) h) (fun _ => ?_)
  refine j_iload dX10_pass_46 rfl ?_
  refine j_iload_n dX10_pass_48 rfl rfl ?_
  refine j_callSl [.int _, .int _] [] dX10_pass_49 jlk_X10_253 rfl rfl (Nat.le_of_ble_eq_true rfl) (c_power (by omega)) ?_
  refine j_bipush (v := nI 12) dX10_pass_52 rfl ?_
  refine j_iload_n dX10_pass_54 rfl rfl ?_
  refine j_callSl [.int _, .int _] [.long _] dX10_pass_55 jlk_X10_253 rfl rfl (Nat.le_of_ble_eq_true rfl) (c_power (by omega)) ?_
  refine j_iload_n dX10_pass_58 rfl rfl ?_
  refine j_callSl [.long _, .long _, .int _] [] dX10_pass_59 jlk_X10_224 rfl rfl (Nat.le_of_ble_eq_true rfl) (c_fraction) ?_
  refine j_goto (tgt := 77) dX10_pass_62 (by decide) ?_
  refine j_lreturn dX10_pass_77 rfl ?_
  exact ⟨rfl, rfl⟩

set_option maxHeartbeats 200000 in
set_option maxRecDepth 100000 in
theorem c_pass_1 (hr : rul B cd vl st an en n na v X A) (hv6 : v 6 ≤ 12) {m : Nat} (hm : m ≤ 8) {p : Int32} (hp : is01 p = nI 1) : jMet (d + 5) yX10_pass cX10_pass 5 (some .long) 0 0 [.ref 4, .int (nI m), .int (nI 1), .int p] (tw X A L) (jRl (frJ (nI (m * (12 - v 6))).toInt64 12 p) (tw X A L)) := by
  refine jMet_of (by decide) (Nat.le_of_ble_eq_true rfl) none (Or.inl rfl) ?_
  show jWP none RX10 cX10_pass 5 (some .long) (d + 5) 0 0 0 [some (.ref 4), some (.int (nI m)), some (.int (nI 1)), some (.int p), none] [] (tw X A L) (jRl (frJ (nI (m * (12 - v 6))).toInt64 12 p) (tw X A L))
  obtain ⟨hB, r2, r3, r4, r5, r6, r7, r8, r9, r10, r11, r12, r13⟩ := id hr
  refine j_iload_n dX10_pass_0 rfl rfl ?_
  refine jn_if_lt (tgt := 26) dX10_pass_1 (by decide) (by omega) ?_
  refine j_iload_n dX10_pass_4 rfl rfl ?_
  refine j_bipush (v := nI 8) dX10_pass_5 rfl ?_
  refine jn_icmp_gt (tgt := 26) dX10_pass_7 (by decide) (by omega) (by omega) (fun h7 => absurd h7 (by omega)) (fun h7 => ?_)
  refine j_iload_n dX10_pass_10 rfl rfl ?_
  refine j_if_lt (tgt := 26) dX10_pass_11 (by decide) (fun h => absurd h (by decide)) (fun _ => ?_)
  refine j_iload_n dX10_pass_14 rfl rfl ?_
  refine j_iconst (v := nI 1) dX10_pass_15 rfl ?_
  refine j_icmp_gt (tgt := 26) dX10_pass_16 (by decide) (fun h => absurd h (by decide)) (fun _ => ?_)
  refine j_iload_n dX10_pass_19 rfl rfl ?_
  refine j_callSi [.int _] [] dX10_pass_20 jlk_X10_213 rfl rfl (Nat.le_of_ble_eq_true rfl) (jMet_i c_X10_isPart hp rfl) ?_
  refine j_if_ne (tgt := 30) dX10_pass_23 (by decide) (fun _ => ?_) (fun h => absurd h (by decide))
  refine j_bipush (v := nI 12) dX10_pass_30 rfl ?_
  refine j_aload_n dX10_pass_32 rfl rfl ?_
  refine t_getR (b := 10) dX10_pass_33 jfl_X10_19 (fun _ _ _ => rfl) rfl ?_
  refine j_callVi [] [.int _] dX10_pass_36 jlk_X10_250 rfl rfl rfl rfl (Nat.le_of_ble_eq_true rfl) (c_X7_guards r10 r11 r12) ?_
  refine jn_isub dX10_pass_39 hv6 ?_
  refine j_istore (lv' := [some (.ref 4), some (.int _), some (.int _), some (.int _), some (.int _)]) dX10_pass_40 (by decide) rfl ?_
  refine j_iload_n dX10_pass_42 rfl rfl ?_
  refine j_if_ne (tgt := 65) dX10_pass_43 (by decide) (fun _ => ?_) (fun h => absurd h (by decide))
  refine j_iload_n dX10_pass_65 rfl rfl ?_
  refine j_iload dX10_pass_66 rfl ?_
  refine jn_imul dX10_pass_68 ?_
  refine j_i2l dX10_pass_69 ?_
  refine j_ldc2 dX10_pass_70 jw_k_X10_256 ?_
  refine j_iload_n dX10_pass_73 rfl rfl ?_
  refine j_callSl [.long _, .long _, .int _] [] dX10_pass_74 jlk_X10_224 rfl rfl (Nat.le_of_ble_eq_true rfl) (c_fraction) ?_
  refine j_lreturn dX10_pass_77 rfl ?_
  exact ⟨rfl, rfl⟩

end CT27