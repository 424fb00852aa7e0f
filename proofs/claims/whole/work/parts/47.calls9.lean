/-- the longest line that passes so often -/
def mfB (g x i : Nat) : Bool := decide (¬ lg_cmp (pwJ (nI (12 - g)) i * 12) ((nI x).toInt64 * pwJ (nI 12) i) < 0)
def mfS (g x : Nat) : Nat → Int32
  | 0 => -2
  | i + 1 => if mfB g x i = true then nI i else mfS g x i
section CT28
variable {d : Nat} {X A : Nat → Nat → Int32} {L : Nat → Nat → Int64} {w : jW} {B : Nat} {cd vl st an en : Nat → Nat} {n na : Nat} {v : Nat → Nat} {nb : Nat} {kd : Nat → Nat}

set_option maxHeartbeats 200000 in
set_option maxRecDepth 100000 in
theorem c_pass_no {c q p : Int32} (h : isA 9 c = nI 0 ∨ isA 2 q = nI 0 ∨ is01 p = nI 0) : jMet (d + 5) yX10_pass cX10_pass 5 (some .long) 0 0 [.ref 4, .int c, .int q, .int p] (tw X A L) (jRl (-9223372036854775808) (tw X A L)) := by
  refine jMet_of (by decide) (Nat.le_of_ble_eq_true rfl) none (Or.inl rfl) ?_
  show jWP none RX10 cX10_pass 5 (some .long) (d + 5) 0 0 0 [some (.ref 4), some (.int c), some (.int q), some (.int p), none] [] (tw X A L) (jRl (-9223372036854775808) (tw X A L))
  refine j_iload_n dX10_pass_0 rfl rfl ?_
  refine j_if_lt (tgt := 26) dX10_pass_1 (by decide) (fun h1 => ?_) (fun h1 => ?_)
  · refine j_ldc2 dX10_pass_26 jw_k_X10_216 ?_
    refine j_lreturn dX10_pass_29 rfl ?_
    exact ⟨rfl, rfl⟩
  · refine j_iload_n dX10_pass_4 rfl rfl ?_
    refine j_bipush (v := nI 8) dX10_pass_5 rfl ?_
    refine j_icmp_gt (tgt := 26) dX10_pass_7 (by decide) (fun h7 => ?_) (fun h7 => ?_)
    · refine j_ldc2 dX10_pass_26 jw_k_X10_216 ?_
      refine j_lreturn dX10_pass_29 rfl ?_
      exact ⟨rfl, rfl⟩
    · refine j_iload_n dX10_pass_10 rfl rfl ?_
      refine j_if_lt (tgt := 26) dX10_pass_11 (by decide) (fun h11 => ?_) (fun h11 => ?_)
      · refine j_ldc2 dX10_pass_26 jw_k_X10_216 ?_
        refine j_lreturn dX10_pass_29 rfl ?_
        exact ⟨rfl, rfl⟩
      · refine j_iload_n dX10_pass_14 rfl rfl ?_
        refine j_iconst (v := nI 1) dX10_pass_15 rfl ?_
        refine j_icmp_gt (tgt := 26) dX10_pass_16 (by decide) (fun h16 => ?_) (fun h16 => ?_)
        · refine j_ldc2 dX10_pass_26 jw_k_X10_216 ?_
          refine j_lreturn dX10_pass_29 rfl ?_
          exact ⟨rfl, rfl⟩
        · refine j_iload_n dX10_pass_19 rfl rfl ?_
          refine j_callSi [.int _] [] dX10_pass_20 jlk_X10_213 rfl rfl (Nat.le_of_ble_eq_true rfl) (c_X10_isPart) ?_
          refine j_if_ne (tgt := 30) dX10_pass_23 (by decide) (fun h23 => ?_) (fun h23 => ?_)
          · exfalso
            rcases h with h | h | h
            · obtain ⟨i, hi, rfl⟩ := ixle h1 h7 (by decide)
              rw [isA_in (by omega) (by decide)] at h
              exact absurd h (by decide)
            · obtain ⟨i, hi, rfl⟩ := ixle h11 h16 (by decide)
              rw [isA_in (by omega) (by decide)] at h
              exact absurd h (by decide)
            · exact h23 h
          · refine j_ldc2 dX10_pass_26 jw_k_X10_216 ?_
            refine j_lreturn dX10_pass_29 rfl ?_
            exact ⟨rfl, rfl⟩

set_option maxHeartbeats 200000 in
set_option maxRecDepth 100000 in
theorem l_mostFalse (hr : rul B cd vl st an en n na v X A) (hv6 : v 6 ≤ 12) {x : Nat} (hx : x ≤ 12) : ∀ (m i : Nat), i ≤ 9 → 9 - i < m → jWP none RX10 cX10_mostFalse 4 (some .int) (d + 5) 0 0 17 [some (.ref 4), some (.int (nI x)), some (.int (mfS (v 6) x i)), some (.int (nI i))] [] (tw X A L) (jRi (mfS (v 6) x 9) (tw X A L)) := by
  obtain ⟨hB, r2, r3, r4, r5, r6, r7, r8, r9, r10, r11, r12, r13⟩ := id hr
  intro m
  induction m with
  | zero => intro i h1 h2; omega
  | succ m ih =>
    intro i hi hm
    refine j_iload_n dX10_mostFalse_17 rfl rfl ?_
    refine j_bipush (v := nI 8) dX10_mostFalse_18 rfl ?_
    refine jn_icmp_gt (tgt := 62) dX10_mostFalse_20 (by decide) (by omega) (by omega) (fun h20 => ?_) (fun h20 => ?_)
    · refine j_iload_n dX10_mostFalse_62 rfl rfl ?_
      refine j_ireturn dX10_mostFalse_63 rfl ?_
      obtain rfl : i = 9 := by omega
      exact ⟨rfl, rfl⟩
    · refine j_bipush (v := nI 12) dX10_mostFalse_23 rfl ?_
      refine j_aload_n dX10_mostFalse_25 rfl rfl ?_
      refine t_getR (b := 10) dX10_mostFalse_26 jfl_X10_19 (fun _ _ _ => rfl) rfl ?_
      refine j_callVi [] [.int _] dX10_mostFalse_29 jlk_X10_250 rfl rfl rfl rfl (Nat.le_of_ble_eq_true rfl) (c_X7_guards r10 r11 r12) ?_
      refine jn_isub dX10_mostFalse_32 hv6 ?_
      refine j_iload_n dX10_mostFalse_33 rfl rfl ?_
      refine j_callSl [.int _, .int _] [] dX10_mostFalse_34 jlk_X10_253 rfl rfl (Nat.le_of_ble_eq_true rfl) (c_power (by omega)) ?_
      refine j_ldc2 dX10_mostFalse_37 jw_k_X10_256 ?_
      refine j_lmul dX10_mostFalse_40 ?_
      refine j_iload_n dX10_mostFalse_41 rfl rfl ?_
      refine j_i2l dX10_mostFalse_42 ?_
      refine j_bipush (v := nI 12) dX10_mostFalse_43 rfl ?_
      refine j_iload_n dX10_mostFalse_45 rfl rfl ?_
      refine j_callSl [.int _, .int _] [.long _, .long _] dX10_mostFalse_46 jlk_X10_253 rfl rfl (Nat.le_of_ble_eq_true rfl) (c_power (by omega)) ?_
      refine j_lmul dX10_mostFalse_49 ?_
      refine j_lcmp dX10_mostFalse_50 ?_
      refine j_if_lt (tgt := 56) dX10_mostFalse_51 (by decide) (fun h51 => ?_) (fun h51 => ?_)
      · refine jn_iinc (lv' := [some (.ref 4), some (.int _), some (.int _), some (.int _)]) dX10_mostFalse_56 rfl (by decide) rfl ?_
        refine j_goto (tgt := 17) dX10_mostFalse_59 (by decide) ?_
        refine j_sub ?_ (ih (i + 1) (by omega) (by omega))
        exact ⟨rfl, rfl, congrArg (fun z => some (Value.int z)) (if_neg (by unfold mfB; rw [decide_eq_false (fun q => q h51)]; decide)).symm, rfl, trivial⟩
      · refine j_iload_n dX10_mostFalse_54 rfl rfl ?_
        refine j_istore_n (lv' := [some (.ref 4), some (.int _), some (.int _), some (.int _)]) dX10_mostFalse_55 rfl (by decide) rfl ?_
        refine jn_iinc (lv' := [some (.ref 4), some (.int _), some (.int _), some (.int _)]) dX10_mostFalse_56 rfl (by decide) rfl ?_
        refine j_goto (tgt := 17) dX10_mostFalse_59 (by decide) ?_
        refine j_sub ?_ (ih (i + 1) (by omega) (by omega))
        exact ⟨rfl, rfl, congrArg (fun z => some (Value.int z)) (if_pos (decide_eq_true h51)).symm, rfl, trivial⟩

set_option maxHeartbeats 200000 in
set_option maxRecDepth 100000 in
theorem c_mostFalse (hr : rul B cd vl st an en n na v X A) (hv6 : v 6 ≤ 12) {x : Nat} (hx : x ≤ 12) : jMet (d + 5) yX10_mostFalse cX10_mostFalse 4 (some .int) 0 0 [.ref 4, .int (nI x)] (tw X A L) (jRi (mfS (v 6) x 9) (tw X A L)) := by
  refine jMet_of (by decide) (Nat.le_of_ble_eq_true rfl) none (Or.inl rfl) ?_
  show jWP none RX10 cX10_mostFalse 4 (some .int) (d + 5) 0 0 0 [some (.ref 4), some (.int (nI x)), none, none] [] (tw X A L) (jRi (mfS (v 6) x 9) (tw X A L))
  refine j_iload_n dX10_mostFalse_0 rfl rfl ?_
  refine jn_if_lt (tgt := 10) dX10_mostFalse_1 (by decide) (by omega) ?_
  refine j_iload_n dX10_mostFalse_4 rfl rfl ?_
  refine j_bipush (v := nI 12) dX10_mostFalse_5 rfl ?_
  refine jn_icmp_le (tgt := 12) dX10_mostFalse_7 (by decide) (by omega) (by omega) (fun h7 => ?_) (fun h7 => absurd h7 (by omega))
  refine j_bipush (v := (-2)) dX10_mostFalse_12 rfl ?_
  refine j_istore_n (lv' := [some (.ref 4), some (.int _), some (.int _), none]) dX10_mostFalse_14 rfl (by decide) rfl ?_
  refine j_iconst (v := nI 0) dX10_mostFalse_15 rfl ?_
  refine j_istore_n (lv' := [some (.ref 4), some (.int _), some (.int _), some (.int _)]) dX10_mostFalse_16 rfl (by decide) rfl ?_
  exact l_mostFalse hr hv6 hx 10 0 (by decide) (by decide)

set_option maxHeartbeats 200000 in
set_option maxRecDepth 100000 in
theorem c_mostFalse_no {c : Int32} (h : isA 13 c = nI 0) : jMet (d + 5) yX10_mostFalse cX10_mostFalse 4 (some .int) 0 0 [.ref 4, .int c] (tw X A L) (jRi (-1) (tw X A L)) := by
  refine jMet_of (by decide) (Nat.le_of_ble_eq_true rfl) none (Or.inl rfl) ?_
  show jWP none RX10 cX10_mostFalse 4 (some .int) (d + 5) 0 0 0 [some (.ref 4), some (.int c), none, none] [] (tw X A L) (jRi (-1) (tw X A L))
  refine j_iload_n dX10_mostFalse_0 rfl rfl ?_
  refine j_if_lt (tgt := 10) dX10_mostFalse_1 (by decide) (fun h1 => ?_) (fun h1 => ?_)
  · refine j_iconst (v := (-1)) dX10_mostFalse_10 rfl ?_
    refine j_ireturn dX10_mostFalse_11 rfl ?_
    exact ⟨rfl, rfl⟩
  · refine j_iload_n dX10_mostFalse_4 rfl rfl ?_
    refine j_bipush (v := nI 12) dX10_mostFalse_5 rfl ?_
    refine j_icmp_le (tgt := 12) dX10_mostFalse_7 (by decide) (fun h7 => ?_) (fun h7 => ?_)
    · exfalso
      obtain ⟨i, hi, rfl⟩ := ixle h1 (Int32.not_lt.mpr h7) (by decide)
      rw [isA_in (by omega) (by decide)] at h
      exact absurd h (by decide)
    · refine j_iconst (v := (-1)) dX10_mostFalse_10 rfl ?_
      refine j_ireturn dX10_mostFalse_11 rfl ?_
      exact ⟨rfl, rfl⟩

def rwF (fl ln : Nat) (E : Nat → Int32) (s : Nat) : Nat → Nat → Int64 → Int64
  | 0, _, a => a
  | m + 1, i, a => if i < ln then (if isA 8 (E i) = nI 0 then a else rwF fl ln E s m (i + 1) (a * hwJ fl (E i).toNatClampNeg s)) else a

set_option maxHeartbeats 200000 in
set_option maxRecDepth 100000 in
theorem l_rowWeight (hr : rul B cd vl st an en n na v X A) (hv7 : v 7 ≤ 6) {S ln : Nat} (hS : isSh S) (hh : X S 0 = nI 2) (hln : X S 3 = nI ln) (l60 : ln ≤ 60) {s : Nat} (hs : s < 8) {r : Int64} : ∀ (m i : Nat) (a : Int64), i + m = 4 → rwF (v 7) ln (rE L S) s m i a = r → jWP none RX10 cX10_rowWeight 7 (some .long) (d + 5) 0 0 5 [some (.ref 4), some (.ref S), some (.int (nI s)), some (.long a), none, some (.int (nI i)), none] [] (tw X A L) (jRl r (tw X A L)) := by
  intro m
  induction m with
  | zero =>
    intro i a hi hr9
    refine j_iload dX10_rowWeight_5 rfl ?_
    refine j_iconst (v := nI 4) dX10_rowWeight_7 rfl ?_
    refine jn_icmp_ge (tgt := 59) dX10_rowWeight_8 (by decide) (by omega) (by omega) (fun h8 => ?_) (fun h8 => absurd h8 (by omega))
    refine j_lload_n dX10_rowWeight_59 rfl rfl ?_
    refine j_lreturn dX10_rowWeight_60 rfl ?_
    exact ⟨by rw [← hr9]; rfl, rfl⟩
  | succ m ih =>
    intro i a hi hr9
    refine j_iload dX10_rowWeight_5 rfl ?_
    refine j_iconst (v := nI 4) dX10_rowWeight_7 rfl ?_
    refine jn_icmp_ge (tgt := 59) dX10_rowWeight_8 (by decide) (by omega) (by omega) (fun h8 => absurd h8 (by omega)) (fun h8 => ?_)
    refine j_aload_n dX10_rowWeight_11 rfl rfl ?_
    refine j_iload dX10_rowWeight_12 rfl ?_
    refine j_callVi [.int _] [] dX10_rowWeight_14 jlk_X10_107 rfl rfl ((shS0 hS) _ _ _) rfl (Nat.le_of_ble_eq_true rfl) (c_X8_hasPlace hS hh (by decide) hln l60) ?_
    refine j_if_eq (tgt := 59) dX10_rowWeight_17 (by decide) (fun h17 => ?_) (fun h17 => ?_)
    · have h17 : ¬ i < ln := fun q => by rw [hpI_in q l60] at h17; exact absurd h17 (by decide)
      refine j_lload_n dX10_rowWeight_59 rfl rfl ?_
      refine j_lreturn dX10_rowWeight_60 rfl ?_
      refine ⟨?_, rfl⟩
      rw [← hr9]
      show _ = some (Value.long (if i < ln then _ else _))
      rw [if_neg h17]
    · have h17 : i < ln := Nat.lt_of_not_le fun q => h17 (hpI_ge q (by omega))
      refine j_aload_n dX10_rowWeight_20 rfl rfl ?_
      refine j_iload dX10_rowWeight_21 rfl ?_
      refine j_callVi [.int _] [] dX10_rowWeight_23 jlk_X10_110 rfl rfl ((shS0 hS) _ _ _) rfl (Nat.le_of_ble_eq_true rfl) (c_X8_byteAt hS hh hln l60 (by omega)) ?_
      refine j_istore (lv' := [some (.ref 4), some (.ref S), some (.int _), some (.long _), none, some (.int _), some (.int _)]) dX10_rowWeight_26 (by decide) rfl ?_
      refine j_iload dX10_rowWeight_28 rfl ?_
      refine j_if_lt (tgt := 59) dX10_rowWeight_30 (by decide) (fun h30 => ?_) (fun h30 => ?_)
      · refine j_lload_n dX10_rowWeight_59 rfl rfl ?_
        refine j_lreturn dX10_rowWeight_60 rfl ?_
        refine ⟨?_, rfl⟩
        rw [← hr9]
        show _ = some (Value.long (if i < ln then (if isA 8 (rE L S i) = nI 0 then _ else _) else _))
        rw [if_pos h17, if_pos (show isA 8 (rE L S i) = nI 0 from if_pos h30)]
      · refine j_iload dX10_rowWeight_33 rfl ?_
        refine j_bipush (v := nI 7) dX10_rowWeight_35 rfl ?_
        refine j_icmp_le (tgt := 43) dX10_rowWeight_37 (by decide) (fun h37 => ?_) (fun h37 => ?_)
        · obtain ⟨q, hq, he⟩ := ixle h30 (Int32.not_lt.mpr h37) (by decide)
          have he : rE L S i = nI q := he
          have hq8 : q < 8 := by omega
          refine j_at (lv' := [some (.ref 4), some (.ref S), some (.int (nI s)), some (.long a), none, some (.int (nI i)), some (.int (nI q))]) (by rw [← he]; rfl) ?_
          refine j_lload_n dX10_rowWeight_43 rfl rfl ?_
          refine j_aload_n dX10_rowWeight_44 rfl rfl ?_
          refine j_iload dX10_rowWeight_45 rfl ?_
          refine j_iload_n dX10_rowWeight_47 rfl rfl ?_
          refine j_callVl [.int _, .int _] [.long _] dX10_rowWeight_48 jlk_X10_218 rfl rfl rfl rfl (Nat.le_of_ble_eq_true rfl) (c_heardWeight hr hv7 hq8 hs) ?_
          refine j_lmul dX10_rowWeight_51 ?_
          refine j_lstore_n (lv' := [some (.ref 4), some (.ref S), some (.int _), some (.long _), none, some (.int _), some (.int _)]) dX10_rowWeight_52 rfl (by decide) rfl ?_
          refine jn_iinc (lv' := [some (.ref 4), some (.ref S), some (.int _), some (.long _), none, some (.int _), some (.int _)]) dX10_rowWeight_53 rfl (by decide) rfl ?_
          refine j_goto (tgt := 5) dX10_rowWeight_56 (by decide) ?_
          refine j_sub (by exact ⟨rfl, rfl, rfl, rfl, rfl, trivial⟩) (ih (i + 1) _ (by omega) ?_)
          rw [← hr9]
          show _ = (if i < ln then _ else _)
          rw [if_pos h17, he, if_neg (by rw [isA_in hq8 (by decide)]; decide), nI_clamp (by omega)]
        · have hbig : isA 8 (rE L S i) = nI 0 := by
            unfold isA
            rw [if_neg (show ¬ rE L S i < 0 from h30)]
            rcases pk_ix (rE L S i) (n := 8) (by decide) with q | q | ⟨q, hq, he⟩
            · exact absurd q h30
            · exact if_pos q
            · exact absurd (show rE L S i ≤ nI 7 by rw [he]; exact nI_le (by omega) (by decide)) h37
          refine j_goto (tgt := 59) dX10_rowWeight_40 (by decide) ?_
          refine j_lload_n dX10_rowWeight_59 rfl rfl ?_
          refine j_lreturn dX10_rowWeight_60 rfl ?_
          refine ⟨?_, rfl⟩
          rw [← hr9]
          show _ = some (Value.long (if i < ln then (if isA 8 (rE L S i) = nI 0 then _ else _) else _))
          rw [if_pos h17, if_pos hbig]

set_option maxHeartbeats 200000 in
set_option maxRecDepth 100000 in
theorem c_rowWeight (hr : rul B cd vl st an en n na v X A) (hv7 : v 7 ≤ 6) {S ln : Nat} (hS : isSh S) (hh : X S 0 = nI 2) (hln : X S 3 = nI ln) (l60 : ln ≤ 60) {s : Nat} (hs : s < 8) : jMet (d + 5) yX10_rowWeight cX10_rowWeight 7 (some .long) 0 0 [.ref 4, .ref S, .int (nI s)] (tw X A L) (jRl (rwF (v 7) ln (rE L S) s 4 0 1) (tw X A L)) := by
  refine jMet_of (by decide) (Nat.le_of_ble_eq_true rfl) none (Or.inl rfl) ?_
  show jWP none RX10 cX10_rowWeight 7 (some .long) (d + 5) 0 0 0 [some (.ref 4), some (.ref S), some (.int (nI s)), none, none, none, none] [] (tw X A L) (jRl (rwF (v 7) ln (rE L S) s 4 0 1) (tw X A L))
  refine j_lconst (v := 1) dX10_rowWeight_0 rfl ?_
  refine j_lstore_n (lv' := [some (.ref 4), some (.ref S), some (.int _), some (.long _), none, none, none]) dX10_rowWeight_1 rfl (by decide) rfl ?_
  refine j_iconst (v := nI 0) dX10_rowWeight_2 rfl ?_
  refine j_istore (lv' := [some (.ref 4), some (.ref S), some (.int _), some (.long _), none, some (.int _), none]) dX10_rowWeight_3 (by decide) rfl ?_
  exact l_rowWeight hr hv7 hS hh hln l60 hs 4 0 1 (by decide) rfl

end CT28