theorem wn_le {Rk : (Nat → Int32) → Int32 → Int32 → Nat → Int32} {a s : Nat → Int32} {c : cS} : ∀ i, wnS Rk a s c i ≤ i
  | 0 => Nat.le_refl _
  | i + 1 => by
    have := wn_le (Rk := Rk) (a := a) (s := s) (c := c) i
    show (if (ruS Rk a s c (i + 1)).2 = true then wnS Rk a s c i + 1 else wnS Rk a s c i) ≤ i + 1
    split <;> omega
section CT23
variable {d : Nat} {X A : Nat → Nat → Int32} {L : Nat → Nat → Int64} {w : jW} {B : Nat} {cd vl st an en : Nat → Nat} {n na : Nat} {v : Nat → Nat} {nb : Nat} {kd : Nat → Nat}

set_option maxHeartbeats 200000 in
set_option maxRecDepth 100000 in
theorem c_X4_tapeLength  : jMet (d) yX4_tapeLength cX4_tapeLength 1 (some .int) 0 0 [.ref 16] (tw X A L) (jRi (X 16 1) (tw X A L)) := by
  refine jMet_of (by decide) (Nat.le_of_ble_eq_true rfl) none (Or.inl rfl) ?_
  show jWP none RX4 cX4_tapeLength 1 (some .int) (d) 0 0 0 [some (.ref 16)] [] (tw X A L) (jRi (X 16 1) (tw X A L))
  refine j_aload_n dX4_tapeLength_0 rfl rfl ?_
  refine t_getI dX4_tapeLength_1 jfl_X4_17 (fun _ _ _ => rfl) (fun _ => rfl) ?_
  refine j_ireturn dX4_tapeLength_4 rfl ?_
  exact ⟨rfl, rfl⟩

set_option maxHeartbeats 200000 in
set_option maxRecDepth 100000 in
theorem c_X6_tapeLength  : jMet (d + 1) yX6_tapeLength cX6_tapeLength 1 (some .int) 0 0 [.ref 15] (tw X A L) (jRi (X 16 1) (tw X A L)) := by
  refine jMet_of (by decide) (Nat.le_of_ble_eq_true rfl) none (Or.inl rfl) ?_
  show jWP none RX6 cX6_tapeLength 1 (some .int) (d + 1) 0 0 0 [some (.ref 15)] [] (tw X A L) (jRi (X 16 1) (tw X A L))
  refine j_aload_n dX6_tapeLength_0 rfl rfl ?_
  refine t_getR (b := 16) dX6_tapeLength_1 jfl_X6_12 (fun _ _ _ => rfl) rfl ?_
  refine j_callVi [] [] dX6_tapeLength_4 jlk_X6_36 rfl rfl rfl rfl (Nat.le_of_ble_eq_true rfl) (c_X4_tapeLength) ?_
  refine j_ireturn dX6_tapeLength_7 rfl ?_
  exact ⟨rfl, rfl⟩

set_option maxHeartbeats 200000 in
set_option maxRecDepth 100000 in
theorem c_count_0 (hr : rul B cd vl st an en n na v X A) : jMet (d + 3) yX10_count cX10_count 2 (some .int) 0 0 [.ref 4, .int (nI 0)] (tw X A L) (jRi (nI na) (tw X A L)) := by
  refine jMet_of (by decide) (Nat.le_of_ble_eq_true rfl) none (Or.inl rfl) ?_
  show jWP none RX10 cX10_count 2 (some .int) (d + 3) 0 0 0 [some (.ref 4), some (.int (nI 0))] [] (tw X A L) (jRi (nI na) (tw X A L))
  obtain ⟨hB, r2, r3, r4, r5, r6, r7, r8, r9, r10, r11, r12, r13⟩ := id hr
  refine j_iload_n dX10_count_0 rfl rfl ?_
  refine j_tableIn (off := 43) (tgt := 44) dX10_count_1 (by decide) (by decide) (by decide) (by decide) ?_
  refine j_aload_n dX10_count_44 rfl rfl ?_
  refine t_getR (b := 10) dX10_count_45 jfl_X10_19 (fun _ _ _ => rfl) rfl ?_
  refine j_callVi [] [] dX10_count_48 jlk_X10_261 rfl rfl rfl rfl (Nat.le_of_ble_eq_true rfl) (c_X7_accountCount r10 r11) ?_
  refine j_ireturn dX10_count_51 rfl ?_
  exact ⟨rfl, rfl⟩

set_option maxHeartbeats 200000 in
set_option maxRecDepth 100000 in
theorem c_count_1 (hc : cok X A 43) : jMet (d + 3) yX10_count cX10_count 2 (some .int) 0 0 [.ref 4, .int (nI 1)] (tw X A L) (jRi (nI (hN (A 44))) (tw X A L)) := by
  refine jMet_of (by decide) (Nat.le_of_ble_eq_true rfl) none (Or.inl rfl) ?_
  show jWP none RX10 cX10_count 2 (some .int) (d + 3) 0 0 0 [some (.ref 4), some (.int (nI 1))] [] (tw X A L) (jRi (nI (hN (A 44))) (tw X A L))
  refine j_iload_n dX10_count_0 rfl rfl ?_
  refine j_tableIn (off := 51) (tgt := 52) dX10_count_1 (by decide) (by decide) (by decide) (by decide) ?_
  refine j_aload_n dX10_count_52 rfl rfl ?_
  refine t_getR (b := 43) dX10_count_53 jfl_X10_46 (fun _ _ _ => rfl) rfl ?_
  refine j_callVi [] [] dX10_count_56 jlk_X10_345 rfl rfl rfl rfl (Nat.le_of_ble_eq_true rfl) (c_X0_heldCount (Or.inr (Or.inl rfl)) hc) ?_
  refine j_ireturn dX10_count_59 rfl ?_
  exact ⟨rfl, rfl⟩

set_option maxHeartbeats 200000 in
set_option maxRecDepth 100000 in
theorem c_count_2 (hc : cok X A 43) : jMet (d + 3) yX10_count cX10_count 2 (some .int) 0 0 [.ref 4, .int (nI 2)] (tw X A L) (jRi (nI (cnt (slB (A 44)) 49)) (tw X A L)) := by
  refine jMet_of (by decide) (Nat.le_of_ble_eq_true rfl) none (Or.inl rfl) ?_
  show jWP none RX10 cX10_count 2 (some .int) (d + 3) 0 0 0 [some (.ref 4), some (.int (nI 2))] [] (tw X A L) (jRi (nI (cnt (slB (A 44)) 49)) (tw X A L))
  refine j_iload_n dX10_count_0 rfl rfl ?_
  refine j_tableIn (off := 59) (tgt := 60) dX10_count_1 (by decide) (by decide) (by decide) (by decide) ?_
  refine j_aload_n dX10_count_60 rfl rfl ?_
  refine t_getR (b := 43) dX10_count_61 jfl_X10_46 (fun _ _ _ => rfl) rfl ?_
  refine j_callVi [] [] dX10_count_64 jlk_X10_348 rfl rfl rfl rfl (Nat.le_of_ble_eq_true rfl) (c_X0_sealedCount (Or.inr (Or.inl rfl)) hc) ?_
  refine j_ireturn dX10_count_67 rfl ?_
  exact ⟨rfl, rfl⟩

set_option maxHeartbeats 200000 in
set_option maxRecDepth 100000 in
theorem c_count_3  : jMet (d + 3) yX10_count cX10_count 2 (some .int) 0 0 [.ref 4, .int (nI 3)] (tw X A L) (jRi (X 16 1) (tw X A L)) := by
  refine jMet_of (by decide) (Nat.le_of_ble_eq_true rfl) none (Or.inl rfl) ?_
  show jWP none RX10 cX10_count 2 (some .int) (d + 3) 0 0 0 [some (.ref 4), some (.int (nI 3))] [] (tw X A L) (jRi (X 16 1) (tw X A L))
  refine j_iload_n dX10_count_0 rfl rfl ?_
  refine j_tableIn (off := 67) (tgt := 68) dX10_count_1 (by decide) (by decide) (by decide) (by decide) ?_
  refine j_aload_n dX10_count_68 rfl rfl ?_
  refine t_getR (b := 15) dX10_count_69 jfl_X10_28 (fun _ _ _ => rfl) rfl ?_
  refine j_callVi [] [] dX10_count_72 jlk_X10_351 rfl rfl rfl rfl (Nat.le_of_ble_eq_true rfl) (c_X6_tapeLength) ?_
  refine j_ireturn dX10_count_75 rfl ?_
  exact ⟨rfl, rfl⟩

set_option maxHeartbeats 200000 in
set_option maxRecDepth 100000 in
theorem c_count_4 {dn : Nat} (hd : X 10 5 = nI dn) : jMet (d + 3) yX10_count cX10_count 2 (some .int) 0 0 [.ref 4, .int (nI 4)] (tw X A L) (jRi (nI dn) (tw X A L)) := by
  refine jMet_of (by decide) (Nat.le_of_ble_eq_true rfl) none (Or.inl rfl) ?_
  show jWP none RX10 cX10_count 2 (some .int) (d + 3) 0 0 0 [some (.ref 4), some (.int (nI 4))] [] (tw X A L) (jRi (nI dn) (tw X A L))
  refine j_iload_n dX10_count_0 rfl rfl ?_
  refine j_tableIn (off := 75) (tgt := 76) dX10_count_1 (by decide) (by decide) (by decide) (by decide) ?_
  refine j_aload_n dX10_count_76 rfl rfl ?_
  refine t_getR (b := 10) dX10_count_77 jfl_X10_19 (fun _ _ _ => rfl) rfl ?_
  refine j_callVi [] [] dX10_count_80 jlk_X10_354 rfl rfl rfl rfl (Nat.le_of_ble_eq_true rfl) (c_X7_undoable hd) ?_
  refine j_ireturn dX10_count_83 rfl ?_
  exact ⟨rfl, rfl⟩

set_option maxHeartbeats 200000 in
set_option maxRecDepth 100000 in
theorem c_count_5  : jMet (d + 3) yX10_count cX10_count 2 (some .int) 0 0 [.ref 4, .int (nI 5)] (tw X A L) (jRi (X 60 1) (tw X A L)) := by
  refine jMet_of (by decide) (Nat.le_of_ble_eq_true rfl) none (Or.inl rfl) ?_
  show jWP none RX10 cX10_count 2 (some .int) (d + 3) 0 0 0 [some (.ref 4), some (.int (nI 5))] [] (tw X A L) (jRi (X 60 1) (tw X A L))
  refine j_iload_n dX10_count_0 rfl rfl ?_
  refine j_tableIn (off := 83) (tgt := 84) dX10_count_1 (by decide) (by decide) (by decide) (by decide) ?_
  refine j_aload_n dX10_count_84 rfl rfl ?_
  refine t_getR (b := 60) dX10_count_85 jfl_X10_77 (fun _ _ _ => rfl) rfl ?_
  refine j_callVi [] [] dX10_count_88 jlk_X10_357 rfl rfl rfl rfl (Nat.le_of_ble_eq_true rfl) (c_X2_bodyCount) ?_
  refine j_ireturn dX10_count_91 rfl ?_
  exact ⟨rfl, rfl⟩

set_option maxHeartbeats 200000 in
set_option maxRecDepth 100000 in
theorem c_count_6  : jMet (d + 3) yX10_count cX10_count 2 (some .int) 0 0 [.ref 4, .int (nI 6)] (tw X A L) (jRi (X 60 3) (tw X A L)) := by
  refine jMet_of (by decide) (Nat.le_of_ble_eq_true rfl) none (Or.inl rfl) ?_
  show jWP none RX10 cX10_count 2 (some .int) (d + 3) 0 0 0 [some (.ref 4), some (.int (nI 6))] [] (tw X A L) (jRi (X 60 3) (tw X A L))
  refine j_iload_n dX10_count_0 rfl rfl ?_
  refine j_tableIn (off := 91) (tgt := 92) dX10_count_1 (by decide) (by decide) (by decide) (by decide) ?_
  refine j_aload_n dX10_count_92 rfl rfl ?_
  refine t_getR (b := 60) dX10_count_93 jfl_X10_77 (fun _ _ _ => rfl) rfl ?_
  refine j_callVi [] [] dX10_count_96 jlk_X10_360 rfl rfl rfl rfl (Nat.le_of_ble_eq_true rfl) (c_X2_ranCount) ?_
  refine j_ireturn dX10_count_99 rfl ?_
  exact ⟨rfl, rfl⟩

set_option maxHeartbeats 200000 in
set_option maxRecDepth 100000 in
theorem c_count_no {c : Int32} (h : isA 7 c = nI 0) : jMet (d + 3) yX10_count cX10_count 2 (some .int) 0 0 [.ref 4, .int c] (tw X A L) (jRi (-1) (tw X A L)) := by
  refine jMet_of (by decide) (Nat.le_of_ble_eq_true rfl) none (Or.inl rfl) ?_
  show jWP none RX10 cX10_count 2 (some .int) (d + 3) 0 0 0 [some (.ref 4), some (.int c)] [] (tw X A L) (jRi (-1) (tw X A L))
  refine j_iload_n dX10_count_0 rfl rfl ?_
  refine j_tableOut (tgt := 100) dX10_count_1 (sw_out (n := 7) (by rcases pk_ix c (n := 7) (by decide) with q | q | ⟨j, hj, rfl⟩; exact Or.inl q; exact Or.inr q; rw [isA_in hj (by decide)] at h; exact absurd h (by decide)) (by decide)) (by decide) ?_
  refine j_iconst (v := (-1)) dX10_count_100 rfl ?_
  refine j_ireturn dX10_count_101 rfl ?_
  exact ⟨rfl, rfl⟩

set_option maxHeartbeats 200000 in
set_option maxRecDepth 100000 in
theorem c_shift_no {c e i j m : Int32} (h : isA 6 c = nI 0 ∨ isA 6 e = nI 0) : jMet (d + 2) yX10_shift cX10_shift 8 (some .int) 0 0 [.ref 4, .int c, .int i, .int e, .int j, .int m] (tw X A L) (jRi (-1) (tw X A L)) := by
  refine jMet_of (by decide) (Nat.le_of_ble_eq_true rfl) none (Or.inl rfl) ?_
  show jWP none RX10 cX10_shift 8 (some .int) (d + 2) 0 0 0 [some (.ref 4), some (.int c), some (.int i), some (.int e), some (.int j), some (.int m), none, none] [] (tw X A L) (jRi (-1) (tw X A L))
  refine j_iload_n dX10_shift_0 rfl rfl ?_
  refine j_callSi [.int _] [] dX10_shift_1 jlk_X10_96 rfl rfl (Nat.le_of_ble_eq_true rfl) (c_X10_isShelf) ?_
  refine j_if_eq (tgt := 14) dX10_shift_4 (by decide) (fun h4 => ?_) (fun h4 => ?_)
  · refine j_iconst (v := (-1)) dX10_shift_14 rfl ?_
    refine j_ireturn dX10_shift_15 rfl ?_
    exact ⟨rfl, rfl⟩
  · refine j_iload_n dX10_shift_7 rfl rfl ?_
    refine j_callSi [.int _] [] dX10_shift_8 jlk_X10_96 rfl rfl (Nat.le_of_ble_eq_true rfl) (c_X10_isShelf) ?_
    refine j_if_ne (tgt := 16) dX10_shift_11 (by decide) (fun h11 => ?_) (fun h11 => ?_)
    · exact absurd h (fun q => q.elim h4 h11)
    · refine j_iconst (v := (-1)) dX10_shift_14 rfl ?_
      refine j_ireturn dX10_shift_15 rfl ?_
      exact ⟨rfl, rfl⟩

set_option maxHeartbeats 200000 in
set_option maxRecDepth 100000 in
theorem c_shift_0 {a b : Nat} (ha : a < 6) (hb : b < 6) {h so ln : Nat} (hh : X (64 + 2 * a) 0 = nI h) (h2 : h ≤ 2) (hso : X (64 + 2 * a) 2 = nI so) (so4 : so ≤ 4) (hln : X (64 + 2 * a) 3 = nI ln) (l60 : ln ≤ 60) {g sp lt : Nat} (hg : X (64 + 2 * b) 0 = nI g) (g2 : g ≤ 2) (hsp : X (64 + 2 * b) 2 = nI sp) (sp4 : sp ≤ 4) (hlt : X (64 + 2 * b) 3 = nI lt) (t60 : lt ≤ 60) {i j m : Int32} (h0 : h = 0 ∨ g = 0) : jMet (d + 2) yX10_shift cX10_shift 8 (some .int) 0 0 [.ref 4, .int (nI a), .int i, .int (nI b), .int j, .int m] (tw X A L) (jRi (-11) (tw X A L)) := by
  refine jMet_of (by decide) (Nat.le_of_ble_eq_true rfl) none (Or.inl rfl) ?_
  show jWP none RX10 cX10_shift 8 (some .int) (d + 2) 0 0 0 [some (.ref 4), some (.int (nI a)), some (.int i), some (.int (nI b)), some (.int j), some (.int m), none, none] [] (tw X A L) (jRi (-11) (tw X A L))
  refine j_iload_n dX10_shift_0 rfl rfl ?_
  refine j_callSi [.int _] [] dX10_shift_1 jlk_X10_96 rfl rfl (Nat.le_of_ble_eq_true rfl) (c_X10_isShelf_in ha) ?_
  refine j_if_eq (tgt := 14) dX10_shift_4 (by decide) (fun h => absurd h (by decide)) (fun _ => ?_)
  refine j_iload_n dX10_shift_7 rfl rfl ?_
  refine j_callSi [.int _] [] dX10_shift_8 jlk_X10_96 rfl rfl (Nat.le_of_ble_eq_true rfl) (c_X10_isShelf_in hb) ?_
  refine j_if_ne (tgt := 16) dX10_shift_11 (by decide) (fun _ => ?_) (fun h => absurd h (by decide))
  refine j_aload_n dX10_shift_16 rfl rfl ?_
  refine t_getR (b := 63) dX10_shift_17 jfl_X10_83 (fun _ _ _ => rfl) rfl ?_
  refine j_iload_n dX10_shift_20 rfl rfl ?_
  refine t_aaload dX10_shift_21 (by omega) ?_
  refine j_astore (lv' := [some (.ref 4), some (.int _), some (.int _), some (.int _), some (.int _), some (.int _), some (.ref (64 + 2 * a)), none]) dX10_shift_22 (by decide) rfl ?_
  refine j_aload_n dX10_shift_24 rfl rfl ?_
  refine t_getR (b := 63) dX10_shift_25 jfl_X10_83 (fun _ _ _ => rfl) rfl ?_
  refine j_iload_n dX10_shift_28 rfl rfl ?_
  refine t_aaload dX10_shift_29 (by omega) ?_
  refine j_astore (lv' := [some (.ref 4), some (.int _), some (.int _), some (.int _), some (.int _), some (.int _), some (.ref (64 + 2 * a)), some (.ref (64 + 2 * b))]) dX10_shift_30 (by decide) rfl ?_
  refine j_aload dX10_shift_32 rfl ?_
  refine j_callVi [] [] dX10_shift_34 jlk_X10_99 rfl rfl ((shS0 (sh_of ha)) _ _ _) rfl (Nat.le_of_ble_eq_true rfl) (c_X8_holdsNothing (sh_of ha) hh h2) ?_
  refine j_if_ne (tgt := 48) dX10_shift_37 (by decide) (fun h37 => ?_) (fun h37 => ?_)
  · refine j_bipush (v := (-11)) dX10_shift_48 rfl ?_
    refine j_ireturn dX10_shift_50 rfl ?_
    exact ⟨rfl, rfl⟩
  · refine j_aload dX10_shift_40 rfl ?_
    refine j_callVi [] [] dX10_shift_42 jlk_X10_99 rfl rfl ((shS0 (sh_of hb)) _ _ _) rfl (Nat.le_of_ble_eq_true rfl) (c_X8_holdsNothing (sh_of hb) hg g2) ?_
    refine j_if_eq (tgt := 51) dX10_shift_45 (by decide) (fun h45 => ?_) (fun h45 => ?_)
    · exact absurd h0 (fun q => q.elim (fun e => absurd (if_pos e : (if h = 0 then nI 1 else nI 0) = nI 1) (by rw [h37]; decide)) (fun e => absurd h45 (by rw [if_pos e]; decide)))
    · refine j_bipush (v := (-11)) dX10_shift_48 rfl ?_
      refine j_ireturn dX10_shift_50 rfl ?_
      exact ⟨rfl, rfl⟩

set_option maxHeartbeats 200000 in
set_option maxRecDepth 100000 in
theorem c_shift_12 {a b : Nat} (ha : a < 6) (hb : b < 6) {h so ln : Nat} (hh : X (64 + 2 * a) 0 = nI h) (h2 : h ≤ 2) (hso : X (64 + 2 * a) 2 = nI so) (so4 : so ≤ 4) (hln : X (64 + 2 * a) 3 = nI ln) (l60 : ln ≤ 60) {g sp lt : Nat} (hg : X (64 + 2 * b) 0 = nI g) (g2 : g ≤ 2) (hsp : X (64 + 2 * b) 2 = nI sp) (sp4 : sp ≤ 4) (hlt : X (64 + 2 * b) 3 = nI lt) (t60 : lt ≤ 60) {i j m : Int32} (hh0 : h ≠ 0) (hg0 : g ≠ 0) (hn : ¬ (h = 2 ∧ g = 2 ∧ so = sp)) : jMet (d + 2) yX10_shift cX10_shift 8 (some .int) 0 0 [.ref 4, .int (nI a), .int i, .int (nI b), .int j, .int m] (tw X A L) (jRi (-12) (tw X A L)) := by
  refine jMet_of (by decide) (Nat.le_of_ble_eq_true rfl) none (Or.inl rfl) ?_
  show jWP none RX10 cX10_shift 8 (some .int) (d + 2) 0 0 0 [some (.ref 4), some (.int (nI a)), some (.int i), some (.int (nI b)), some (.int j), some (.int m), none, none] [] (tw X A L) (jRi (-12) (tw X A L))
  refine j_iload_n dX10_shift_0 rfl rfl ?_
  refine j_callSi [.int _] [] dX10_shift_1 jlk_X10_96 rfl rfl (Nat.le_of_ble_eq_true rfl) (c_X10_isShelf_in ha) ?_
  refine j_if_eq (tgt := 14) dX10_shift_4 (by decide) (fun h => absurd h (by decide)) (fun _ => ?_)
  refine j_iload_n dX10_shift_7 rfl rfl ?_
  refine j_callSi [.int _] [] dX10_shift_8 jlk_X10_96 rfl rfl (Nat.le_of_ble_eq_true rfl) (c_X10_isShelf_in hb) ?_
  refine j_if_ne (tgt := 16) dX10_shift_11 (by decide) (fun _ => ?_) (fun h => absurd h (by decide))
  refine j_aload_n dX10_shift_16 rfl rfl ?_
  refine t_getR (b := 63) dX10_shift_17 jfl_X10_83 (fun _ _ _ => rfl) rfl ?_
  refine j_iload_n dX10_shift_20 rfl rfl ?_
  refine t_aaload dX10_shift_21 (by omega) ?_
  refine j_astore (lv' := [some (.ref 4), some (.int _), some (.int _), some (.int _), some (.int _), some (.int _), some (.ref (64 + 2 * a)), none]) dX10_shift_22 (by decide) rfl ?_
  refine j_aload_n dX10_shift_24 rfl rfl ?_
  refine t_getR (b := 63) dX10_shift_25 jfl_X10_83 (fun _ _ _ => rfl) rfl ?_
  refine j_iload_n dX10_shift_28 rfl rfl ?_
  refine t_aaload dX10_shift_29 (by omega) ?_
  refine j_astore (lv' := [some (.ref 4), some (.int _), some (.int _), some (.int _), some (.int _), some (.int _), some (.ref (64 + 2 * a)), some (.ref (64 + 2 * b))]) dX10_shift_30 (by decide) rfl ?_
  refine j_aload dX10_shift_32 rfl ?_
  refine j_callVi [] [] dX10_shift_34 jlk_X10_99 rfl rfl ((shS0 (sh_of ha)) _ _ _) rfl (Nat.le_of_ble_eq_true rfl) (c_X8_holdsNothing (sh_of ha) hh h2) ?_
  refine j_if_ne (tgt := 48) dX10_shift_37 (by decide) (fun h37 => absurd (if_neg hh0 : (if _ = 0 then nI 1 else nI 0) = nI 0) h37) (fun h37 => ?_)
  refine j_aload dX10_shift_40 rfl ?_
  refine j_callVi [] [] dX10_shift_42 jlk_X10_99 rfl rfl ((shS0 (sh_of hb)) _ _ _) rfl (Nat.le_of_ble_eq_true rfl) (c_X8_holdsNothing (sh_of hb) hg g2) ?_
  refine j_if_eq (tgt := 51) dX10_shift_45 (by decide) (fun h45 => ?_) (fun h45 => absurd (if_neg hg0 : (if _ = 0 then nI 1 else nI 0) = nI 0) h45)
  refine j_aload dX10_shift_51 rfl ?_
  refine j_aload dX10_shift_53 rfl ?_
  refine j_callVi [.ref (64 + 2 * b)] [] dX10_shift_55 jlk_X10_325 rfl rfl ((shS0 (sh_of ha)) _ _ _) rfl (Nat.le_of_ble_eq_true rfl) (c_X8_isAlike (sh_of ha) hh h2 hso so4 (sh_of hb) hg g2 hsp sp4) ?_
  refine j_if_ne (tgt := 64) dX10_shift_58 (by decide) (fun h58 => absurd (if_neg hn) h58) (fun h58 => ?_)
  refine j_bipush (v := (-12)) dX10_shift_61 rfl ?_
  refine j_ireturn dX10_shift_63 rfl ?_
  exact ⟨rfl, rfl⟩

set_option maxHeartbeats 200000 in
set_option maxRecDepth 100000 in
theorem c_shift_13 {a b : Nat} (ha : a < 6) (hb : b < 6) {h so ln : Nat} (hh : X (64 + 2 * a) 0 = nI h) (h2 : h ≤ 2) (hso : X (64 + 2 * a) 2 = nI so) (so4 : so ≤ 4) (hln : X (64 + 2 * a) 3 = nI ln) (l60 : ln ≤ 60) {g sp lt : Nat} (hg : X (64 + 2 * b) 0 = nI g) (g2 : g ≤ 2) (hsp : X (64 + 2 * b) 2 = nI sp) (sp4 : sp ≤ 4) (hlt : X (64 + 2 * b) 3 = nI lt) (t60 : lt ≤ 60) {i j m : Int32} (hh2 : h = 2) (hg2 : g = 2) (hss : so = sp) (hs : strI h ln i m = nI 0 ∨ strI g lt j m = nI 0) : jMet (d + 2) yX10_shift cX10_shift 8 (some .int) 0 0 [.ref 4, .int (nI a), .int i, .int (nI b), .int j, .int m] (tw X A L) (jRi (-13) (tw X A L)) := by
  refine jMet_of (by decide) (Nat.le_of_ble_eq_true rfl) none (Or.inl rfl) ?_
  show jWP none RX10 cX10_shift 8 (some .int) (d + 2) 0 0 0 [some (.ref 4), some (.int (nI a)), some (.int i), some (.int (nI b)), some (.int j), some (.int m), none, none] [] (tw X A L) (jRi (-13) (tw X A L))
  have hh0 : h ≠ 0 := by omega
  have hg0 : g ≠ 0 := by omega
  refine j_iload_n dX10_shift_0 rfl rfl ?_
  refine j_callSi [.int _] [] dX10_shift_1 jlk_X10_96 rfl rfl (Nat.le_of_ble_eq_true rfl) (c_X10_isShelf_in ha) ?_
  refine j_if_eq (tgt := 14) dX10_shift_4 (by decide) (fun h => absurd h (by decide)) (fun _ => ?_)
  refine j_iload_n dX10_shift_7 rfl rfl ?_
  refine j_callSi [.int _] [] dX10_shift_8 jlk_X10_96 rfl rfl (Nat.le_of_ble_eq_true rfl) (c_X10_isShelf_in hb) ?_
  refine j_if_ne (tgt := 16) dX10_shift_11 (by decide) (fun _ => ?_) (fun h => absurd h (by decide))
  refine j_aload_n dX10_shift_16 rfl rfl ?_
  refine t_getR (b := 63) dX10_shift_17 jfl_X10_83 (fun _ _ _ => rfl) rfl ?_
  refine j_iload_n dX10_shift_20 rfl rfl ?_
  refine t_aaload dX10_shift_21 (by omega) ?_
  refine j_astore (lv' := [some (.ref 4), some (.int _), some (.int _), some (.int _), some (.int _), some (.int _), some (.ref (64 + 2 * a)), none]) dX10_shift_22 (by decide) rfl ?_
  refine j_aload_n dX10_shift_24 rfl rfl ?_
  refine t_getR (b := 63) dX10_shift_25 jfl_X10_83 (fun _ _ _ => rfl) rfl ?_
  refine j_iload_n dX10_shift_28 rfl rfl ?_
  refine t_aaload dX10_shift_29 (by omega) ?_
  refine j_astore (lv' := [some (.ref 4), some (.int _), some (.int _), some (.int _), some (.int _), some (.int _), some (.ref (64 + 2 * a)), some (.ref (64 + 2 * b))]) dX10_shift_30 (by decide) rfl ?_
  refine j_aload dX10_shift_32 rfl ?_
  refine j_callVi [] [] dX10_shift_34 jlk_X10_99 rfl rfl ((shS0 (sh_of ha)) _ _ _) rfl (Nat.le_of_ble_eq_true rfl) (c_X8_holdsNothing (sh_of ha) hh h2) ?_
  refine j_if_ne (tgt := 48) dX10_shift_37 (by decide) (fun h37 => absurd (if_neg hh0 : (if _ = 0 then nI 1 else nI 0) = nI 0) h37) (fun h37 => ?_)
  refine j_aload dX10_shift_40 rfl ?_
  refine j_callVi [] [] dX10_shift_42 jlk_X10_99 rfl rfl ((shS0 (sh_of hb)) _ _ _) rfl (Nat.le_of_ble_eq_true rfl) (c_X8_holdsNothing (sh_of hb) hg g2) ?_
  refine j_if_eq (tgt := 51) dX10_shift_45 (by decide) (fun h45 => ?_) (fun h45 => absurd (if_neg hg0 : (if _ = 0 then nI 1 else nI 0) = nI 0) h45)
  refine j_aload dX10_shift_51 rfl ?_
  refine j_aload dX10_shift_53 rfl ?_
  refine j_callVi [.ref (64 + 2 * b)] [] dX10_shift_55 jlk_X10_325 rfl rfl ((shS0 (sh_of ha)) _ _ _) rfl (Nat.le_of_ble_eq_true rfl) (c_X8_isAlike (sh_of ha) hh h2 hso so4 (sh_of hb) hg g2 hsp sp4) ?_
  refine j_if_ne (tgt := 64) dX10_shift_58 (by decide) (fun h58 => ?_) (fun h58 => absurd h58 (by rw [if_pos ⟨hh2, hg2, hss⟩]; decide))
  refine j_aload dX10_shift_64 rfl ?_
  refine j_iload_n dX10_shift_66 rfl rfl ?_
  refine j_iload dX10_shift_67 rfl ?_
  refine j_callVi [.int _, .int _] [] dX10_shift_69 jlk_X10_329 rfl rfl ((shS0 (sh_of ha)) _ _ _) rfl (Nat.le_of_ble_eq_true rfl) (c_X8_hasStretch (sh_of ha) hh h2 hln l60) ?_
  refine j_if_eq (tgt := 87) dX10_shift_72 (by decide) (fun h72 => ?_) (fun h72 => ?_)
  · refine j_bipush (v := (-13)) dX10_shift_87 rfl ?_
    refine j_ireturn dX10_shift_89 rfl ?_
    exact ⟨rfl, rfl⟩
  · refine j_aload dX10_shift_75 rfl ?_
    refine j_iload dX10_shift_77 rfl ?_
    refine j_iload dX10_shift_79 rfl ?_
    refine j_callVi [.int _, .int _] [] dX10_shift_81 jlk_X10_329 rfl rfl ((shS0 (sh_of hb)) _ _ _) rfl (Nat.le_of_ble_eq_true rfl) (c_X8_hasStretch (sh_of hb) hg g2 hlt t60) ?_
    refine j_if_ne (tgt := 90) dX10_shift_84 (by decide) (fun h84 => ?_) (fun h84 => ?_)
    · exact absurd hs (fun q => q.elim h72 h84)
    · refine j_bipush (v := (-13)) dX10_shift_87 rfl ?_
      refine j_ireturn dX10_shift_89 rfl ?_
      exact ⟨rfl, rfl⟩

set_option maxHeartbeats 200000 in
set_option maxRecDepth 100000 in
theorem c_shift {a b : Nat} (ha : a < 6) (hb : b < 6) {h so ln : Nat} (hh : X (64 + 2 * a) 0 = nI h) (h2 : h ≤ 2) (hso : X (64 + 2 * a) 2 = nI so) (so4 : so ≤ 4) (hln : X (64 + 2 * a) 3 = nI ln) (l60 : ln ≤ 60) {g sp lt : Nat} (hg : X (64 + 2 * b) 0 = nI g) (g2 : g ≤ 2) (hsp : X (64 + 2 * b) 2 = nI sp) (sp4 : sp ≤ 4) (hlt : X (64 + 2 * b) 3 = nI lt) (t60 : lt ≤ 60) {i j m : Nat} (hh2 : h = 2) (hg2 : g = 2) (hss : so = sp) (h1 : i + m ≤ ln) (h3 : j + m ≤ lt) : jMet (d + 2) yX10_shift cX10_shift 8 (some .int) 0 0 [.ref 4, .int (nI a), .int (nI i), .int (nI b), .int (nI j), .int (nI m)] (tw X A L) (jRi (nI m) (tw X A (va_up L (64 + 2 * b + 1) (va_cpy (L (64 + 2 * a + 1)) (L (64 + 2 * b + 1)) i j m)))) := by
  refine jMet_of (by decide) (Nat.le_of_ble_eq_true rfl) none (Or.inl rfl) ?_
  show jWP none RX10 cX10_shift 8 (some .int) (d + 2) 0 0 0 [some (.ref 4), some (.int (nI a)), some (.int (nI i)), some (.int (nI b)), some (.int (nI j)), some (.int (nI m)), none, none] [] (tw X A L) (jRi (nI m) (tw X A (va_up L (64 + 2 * b + 1) (va_cpy (L (64 + 2 * a + 1)) (L (64 + 2 * b + 1)) i j m))))
  have hh0 : h ≠ 0 := by omega
  have hg0 : g ≠ 0 := by omega
  subst hh2
  subst hg2
  refine j_iload_n dX10_shift_0 rfl rfl ?_
  refine j_callSi [.int _] [] dX10_shift_1 jlk_X10_96 rfl rfl (Nat.le_of_ble_eq_true rfl) (c_X10_isShelf_in ha) ?_
  refine j_if_eq (tgt := 14) dX10_shift_4 (by decide) (fun h => absurd h (by decide)) (fun _ => ?_)
  refine j_iload_n dX10_shift_7 rfl rfl ?_
  refine j_callSi [.int _] [] dX10_shift_8 jlk_X10_96 rfl rfl (Nat.le_of_ble_eq_true rfl) (c_X10_isShelf_in hb) ?_
  refine j_if_ne (tgt := 16) dX10_shift_11 (by decide) (fun _ => ?_) (fun h => absurd h (by decide))
  refine j_aload_n dX10_shift_16 rfl rfl ?_
  refine t_getR (b := 63) dX10_shift_17 jfl_X10_83 (fun _ _ _ => rfl) rfl ?_
  refine j_iload_n dX10_shift_20 rfl rfl ?_
  refine t_aaload dX10_shift_21 (by omega) ?_
  refine j_astore (lv' := [some (.ref 4), some (.int _), some (.int _), some (.int _), some (.int _), some (.int _), some (.ref (64 + 2 * a)), none]) dX10_shift_22 (by decide) rfl ?_
  refine j_aload_n dX10_shift_24 rfl rfl ?_
  refine t_getR (b := 63) dX10_shift_25 jfl_X10_83 (fun _ _ _ => rfl) rfl ?_
  refine j_iload_n dX10_shift_28 rfl rfl ?_
  refine t_aaload dX10_shift_29 (by omega) ?_
  refine j_astore (lv' := [some (.ref 4), some (.int _), some (.int _), some (.int _), some (.int _), some (.int _), some (.ref (64 + 2 * a)), some (.ref (64 + 2 * b))]) dX10_shift_30 (by decide) rfl ?_
  refine j_aload dX10_shift_32 rfl ?_
  refine j_callVi [] [] dX10_shift_34 jlk_X10_99 rfl rfl ((shS0 (sh_of ha)) _ _ _) rfl (Nat.le_of_ble_eq_true rfl) (c_X8_holdsNothing (sh_of ha) hh h2) ?_
  refine j_if_ne (tgt := 48) dX10_shift_37 (by decide) (fun h37 => absurd (if_neg hh0 : (if _ = 0 then nI 1 else nI 0) = nI 0) h37) (fun h37 => ?_)
  refine j_aload dX10_shift_40 rfl ?_
  refine j_callVi [] [] dX10_shift_42 jlk_X10_99 rfl rfl ((shS0 (sh_of hb)) _ _ _) rfl (Nat.le_of_ble_eq_true rfl) (c_X8_holdsNothing (sh_of hb) hg g2) ?_
  refine j_if_eq (tgt := 51) dX10_shift_45 (by decide) (fun h45 => ?_) (fun h45 => absurd (if_neg hg0 : (if _ = 0 then nI 1 else nI 0) = nI 0) h45)
  refine j_aload dX10_shift_51 rfl ?_
  refine j_aload dX10_shift_53 rfl ?_
  refine j_callVi [.ref (64 + 2 * b)] [] dX10_shift_55 jlk_X10_325 rfl rfl ((shS0 (sh_of ha)) _ _ _) rfl (Nat.le_of_ble_eq_true rfl) (c_X8_isAlike (sh_of ha) hh h2 hso so4 (sh_of hb) hg g2 hsp sp4) ?_
  refine j_if_ne (tgt := 64) dX10_shift_58 (by decide) (fun h58 => ?_) (fun h58 => absurd h58 (by rw [if_pos ⟨rfl, rfl, hss⟩]; decide))
  refine j_aload dX10_shift_64 rfl ?_
  refine j_iload_n dX10_shift_66 rfl rfl ?_
  refine j_iload dX10_shift_67 rfl ?_
  refine j_callVi [.int _, .int _] [] dX10_shift_69 jlk_X10_329 rfl rfl ((shS0 (sh_of ha)) _ _ _) rfl (Nat.le_of_ble_eq_true rfl) (c_X8_hasStretch (sh_of ha) hh h2 hln l60) ?_
  refine j_if_eq (tgt := 87) dX10_shift_72 (by decide) (fun h72 => absurd h72 (by rw [strI_in h1 l60]; decide)) (fun h72 => ?_)
  refine j_aload dX10_shift_75 rfl ?_
  refine j_iload dX10_shift_77 rfl ?_
  refine j_iload dX10_shift_79 rfl ?_
  refine j_callVi [.int _, .int _] [] dX10_shift_81 jlk_X10_329 rfl rfl ((shS0 (sh_of hb)) _ _ _) rfl (Nat.le_of_ble_eq_true rfl) (c_X8_hasStretch (sh_of hb) hg g2 hlt t60) ?_
  refine j_if_ne (tgt := 90) dX10_shift_84 (by decide) (fun h84 => ?_) (fun h84 => absurd h84 (by rw [strI_in h3 t60]; decide))
  refine j_aload dX10_shift_90 rfl ?_
  refine j_aload dX10_shift_92 rfl ?_
  refine j_iload_n dX10_shift_94 rfl rfl ?_
  refine j_iload dX10_shift_95 rfl ?_
  refine j_iload dX10_shift_97 rfl ?_
  refine j_callVv [.ref (64 + 2 * a), .int _, .int _, .int _] [] dX10_shift_99 jlk_X10_332 rfl rfl ((shS0 (sh_of hb)) _ _ _) rfl (Nat.le_of_ble_eq_true rfl) (c_X8_takeFrom (sh_of hb) hg hlt t60 (sh_of ha) hh hln l60 h1 h3) ?_
  refine j_iload dX10_shift_102 rfl ?_
  refine j_ireturn dX10_shift_104 rfl ?_
  exact ⟨rfl, rfl⟩

set_option maxHeartbeats 200000 in
set_option maxRecDepth 100000 in
theorem c_sales_no {c k : Int32} (h : isA 6 c = nI 0 ∨ k < -1) : jMet (d + 6) yX10_sales cX10_sales 5 (some .int) 0 0 [.ref 4, .int c, .int k] (tw X A L) (jRi (-1) (tw X A L)) := by
  refine jMet_of (by decide) (Nat.le_of_ble_eq_true rfl) none (Or.inl rfl) ?_
  show jWP none RX10 cX10_sales 5 (some .int) (d + 6) 0 0 0 [some (.ref 4), some (.int c), some (.int k), none, none] [] (tw X A L) (jRi (-1) (tw X A L))
  refine j_iload_n dX10_sales_0 rfl rfl ?_
  refine j_callSi [.int _] [] dX10_sales_1 jlk_X10_96 rfl rfl (Nat.le_of_ble_eq_true rfl) (c_X10_isShelf) ?_
  refine j_if_eq (tgt := 12) dX10_sales_4 (by decide) (fun h4 => ?_) (fun h4 => ?_)
  · refine j_iconst (v := (-1)) dX10_sales_12 rfl ?_
    refine j_ireturn dX10_sales_13 rfl ?_
    exact ⟨rfl, rfl⟩
  · refine j_iload_n dX10_sales_7 rfl rfl ?_
    refine j_iconst (v := (-1)) dX10_sales_8 rfl ?_
    refine j_icmp_ge (tgt := 14) dX10_sales_9 (by decide) (fun h9 => ?_) (fun h9 => ?_)
    · exact absurd h (fun q => q.elim h4 (Int32.not_lt.mpr h9))
    · refine j_iconst (v := (-1)) dX10_sales_12 rfl ?_
      refine j_ireturn dX10_sales_13 rfl ?_
      exact ⟨rfl, rfl⟩

set_option maxHeartbeats 200000 in
set_option maxRecDepth 100000 in
theorem c_sales_f {j : Nat} (hj : j < 6) {h so : Nat} (hh : X (64 + 2 * j) 0 = nI h) (h2 : h ≤ 2) (hso : X (64 + 2 * j) 2 = nI so) (so4 : so ≤ 4) (hf : bfI h so ≠ 0) {k : Int32} (hk : ¬ k < -1) : jMet (d + 6) yX10_sales cX10_sales 5 (some .int) 0 0 [.ref 4, .int (nI j), .int k] (tw X A L) (jRi (bfI h so) (tw X A L)) := by
  refine jMet_of (by decide) (Nat.le_of_ble_eq_true rfl) none (Or.inl rfl) ?_
  show jWP none RX10 cX10_sales 5 (some .int) (d + 6) 0 0 0 [some (.ref 4), some (.int (nI j)), some (.int k), none, none] [] (tw X A L) (jRi (bfI h so) (tw X A L))
  refine j_iload_n dX10_sales_0 rfl rfl ?_
  refine j_callSi [.int _] [] dX10_sales_1 jlk_X10_96 rfl rfl (Nat.le_of_ble_eq_true rfl) (c_X10_isShelf_in hj) ?_
  refine j_if_eq (tgt := 12) dX10_sales_4 (by decide) (fun h => absurd h (by decide)) (fun _ => ?_)
  refine j_iload_n dX10_sales_7 rfl rfl ?_
  refine j_iconst (v := (-1)) dX10_sales_8 rfl ?_
  refine j_icmp_ge (tgt := 14) dX10_sales_9 (by decide) (fun h9 => ?_) (fun h9 => absurd (Int32.not_le.mp h9) hk)
  refine j_aload_n dX10_sales_14 rfl rfl ?_
  refine t_getR (b := 63) dX10_sales_15 jfl_X10_83 (fun _ _ _ => rfl) rfl ?_
  refine j_iload_n dX10_sales_18 rfl rfl ?_
  refine t_aaload dX10_sales_19 (by omega) ?_
  refine j_callVi [] [] dX10_sales_20 jlk_X10_103 rfl rfl ((shS0 (sh_of hj)) _ _ _) rfl (Nat.le_of_ble_eq_true rfl) (c_X8_bytesFault (sh_of hj) hh h2 hso so4) ?_
  refine j_istore_n (lv' := [some (.ref 4), some (.int _), some (.int _), some (.int _), none]) dX10_sales_23 rfl (by decide) rfl ?_
  refine j_iload_n dX10_sales_24 rfl rfl ?_
  refine j_if_eq (tgt := 30) dX10_sales_25 (by decide) (fun h25 => absurd h25 hf) (fun h25 => ?_)
  refine j_iload_n dX10_sales_28 rfl rfl ?_
  refine j_ireturn dX10_sales_29 rfl ?_
  exact ⟨rfl, rfl⟩

theorem tell_n {c : cS} {ln : Nat} {E : Nat → Int32} {Rk : (Nat → Int32) → Int32 → Int32 → Nat → Int32} : wnS Rk (ev E) (od E) c (saC (saB na ln E) 30 0) ≤ 30 := by
  have h1 := wn_le (Rk := Rk) (a := ev E) (s := od E) (c := c) (saC (saB na ln E) 30 0)
  have h2 := saC_le (p := saB na ln E) 30 0
  omega

set_option maxHeartbeats 200000 in
set_option maxRecDepth 100000 in
theorem c_sales_all (hr : rul B cd vl st an en n na v X A) (hc : cok X A 43) (hc9 : cok X A 39) {j : Nat} (hj : j < 6) (hh : X (64 + 2 * j) 0 = nI 2) (hso : X (64 + 2 * j) 2 = nI 0) {ln : Nat} (hln : X (64 + 2 * j) 3 = nI ln) (l60 : ln ≤ 60) : jMet (d + 6) yX10_sales cX10_sales 5 (some .int) 0 0 [.ref 4, .int (nI j), .int (-1)] (tw X A L) ((fun z w => z = some (.int (nI (wnS (RkC cd vl st an en n v) (ev (rE L (64 + 2 * j))) (od (rE L (64 + 2 * j))) (A 44, A 45) (saC (saB na ln (rE L (64 + 2 * j))) 30 0)))) ∧ ∃ h f g, w = tw (cX (tX X (wnS (RkC cd vl st an en n v) (ev (rE L (64 + 2 * j))) (od (rE L (64 + 2 * j))) (A 44, A 45) (saC (saB na ln (rE L (64 + 2 * j))) 30 0))) 39 (ruS (RkC cd vl st an en n v) (ev (rE L (64 + 2 * j))) (od (rE L (64 + 2 * j))) (A 44, A 45) (saC (saB na ln (rE L (64 + 2 * j))) 30 0)).1.1) (scr (cA (va_up A 36 h) 39 (ruS (RkC cd vl st an en n v) (ev (rE L (64 + 2 * j))) (od (rE L (64 + 2 * j))) (A 44, A 45) (saC (saB na ln (rE L (64 + 2 * j))) 30 0)).1.1 (ruS (RkC cd vl st an en n v) (ev (rE L (64 + 2 * j))) (od (rE L (64 + 2 * j))) (A 44, A 45) (saC (saB na ln (rE L (64 + 2 * j))) 30 0)).1.2) B f g) L)) := by
  refine jMet_of (by decide) (Nat.le_of_ble_eq_true rfl) none (Or.inl rfl) ?_
  show jWP none RX10 cX10_sales 5 (some .int) (d + 6) 0 0 0 [some (.ref 4), some (.int (nI j)), some (.int (-1)), none, none] [] (tw X A L) ((fun z w => z = some (.int (nI (wnS (RkC cd vl st an en n v) (ev (rE L (64 + 2 * j))) (od (rE L (64 + 2 * j))) (A 44, A 45) (saC (saB na ln (rE L (64 + 2 * j))) 30 0)))) ∧ ∃ h f g, w = tw (cX (tX X (wnS (RkC cd vl st an en n v) (ev (rE L (64 + 2 * j))) (od (rE L (64 + 2 * j))) (A 44, A 45) (saC (saB na ln (rE L (64 + 2 * j))) 30 0))) 39 (ruS (RkC cd vl st an en n v) (ev (rE L (64 + 2 * j))) (od (rE L (64 + 2 * j))) (A 44, A 45) (saC (saB na ln (rE L (64 + 2 * j))) 30 0)).1.1) (scr (cA (va_up A 36 h) 39 (ruS (RkC cd vl st an en n v) (ev (rE L (64 + 2 * j))) (od (rE L (64 + 2 * j))) (A 44, A 45) (saC (saB na ln (rE L (64 + 2 * j))) 30 0)).1.1 (ruS (RkC cd vl st an en n v) (ev (rE L (64 + 2 * j))) (od (rE L (64 + 2 * j))) (A 44, A 45) (saC (saB na ln (rE L (64 + 2 * j))) 30 0)).1.2) B f g) L))
  refine j_iload_n dX10_sales_0 rfl rfl ?_
  refine j_callSi [.int _] [] dX10_sales_1 jlk_X10_96 rfl rfl (Nat.le_of_ble_eq_true rfl) (c_X10_isShelf_in hj) ?_
  refine j_if_eq (tgt := 12) dX10_sales_4 (by decide) (fun h => absurd h (by decide)) (fun _ => ?_)
  refine j_iload_n dX10_sales_7 rfl rfl ?_
  refine j_iconst (v := (-1)) dX10_sales_8 rfl ?_
  refine j_icmp_ge (tgt := 14) dX10_sales_9 (by decide) (fun _ => ?_) (fun h => absurd (by decide) h)
  refine j_aload_n dX10_sales_14 rfl rfl ?_
  refine t_getR (b := 63) dX10_sales_15 jfl_X10_83 (fun _ _ _ => rfl) rfl ?_
  refine j_iload_n dX10_sales_18 rfl rfl ?_
  refine t_aaload dX10_sales_19 (by omega) ?_
  refine j_callVi [] [] dX10_sales_20 jlk_X10_103 rfl rfl ((shS0 (sh_of hj)) _ _ _) rfl (Nat.le_of_ble_eq_true rfl) (jMet_i (c_X8_bytesFault (sh_of hj) hh (by decide) hso (by decide)) (show bfI 2 0 = nI 0 from rfl) rfl) ?_
  refine j_istore_n (lv' := [some (.ref 4), some (.int _), some (.int _), some (.int _), none]) dX10_sales_23 rfl (by decide) rfl ?_
  refine j_iload_n dX10_sales_24 rfl rfl ?_
  refine j_if_eq (tgt := 30) dX10_sales_25 (by decide) (fun _ => ?_) (fun h => absurd (by decide) h)
  refine j_aload_n dX10_sales_30 rfl rfl ?_
  refine t_getR (b := 35) dX10_sales_31 jfl_X10_37 (fun _ _ _ => rfl) rfl ?_
  refine j_aload_n dX10_sales_34 rfl rfl ?_
  refine t_getR (b := 63) dX10_sales_35 jfl_X10_83 (fun _ _ _ => rfl) rfl ?_
  refine j_iload_n dX10_sales_38 rfl rfl ?_
  refine t_aaload dX10_sales_39 (by omega) ?_
  refine j_aload_n dX10_sales_40 rfl rfl ?_
  refine t_getR (b := 43) dX10_sales_41 jfl_X10_46 (fun _ _ _ => rfl) rfl ?_
  refine j_callV [.ref (64 + 2 * j), .ref 43] [] dX10_sales_44 jlk_X10_171 rfl rfl rfl rfl (Nat.le_of_ble_eq_true rfl) (c_X9_tell hr (sh_of hj) hh hln l60 (Or.inr (Or.inl rfl)) hc hc9) (fun r9 w9 h9 => ?_)
  obtain ⟨rfl, q9, f9, g9, rfl, hcl⟩ := h9
  refine j_ats (st' := [.int _]) rfl ?_
  refine j_istore (lv' := [some (.ref 4), some (.int _), some (.int _), some (.int _), some (.int _)]) dX10_sales_47 (by decide) rfl ?_
  refine j_iload_n dX10_sales_49 rfl rfl ?_
  refine j_iconst (v := (-1)) dX10_sales_50 rfl ?_
  refine j_icmp_ne (tgt := 59) dX10_sales_51 (by decide) (fun h => absurd (by decide) h) (fun _ => ?_)
  refine j_iload dX10_sales_54 rfl ?_
  refine j_goto (tgt := 67) dX10_sales_56 (by decide) ?_
  refine j_ireturn dX10_sales_67 rfl ?_
  exact ⟨rfl, q9, f9, g9, rfl⟩

set_option maxHeartbeats 200000 in
set_option maxRecDepth 100000 in
theorem c_sales (hr : rul B cd vl st an en n na v X A) (hc : cok X A 43) (hc9 : cok X A 39) {j : Nat} (hj : j < 6) (hh : X (64 + 2 * j) 0 = nI 2) (hso : X (64 + 2 * j) 2 = nI 0) {ln : Nat} (hln : X (64 + 2 * j) 3 = nI ln) (l60 : ln ≤ 60) {k : Nat} (hk : k < 2 ^ 31) : jMet (d + 6) yX10_sales cX10_sales 5 (some .int) 0 0 [.ref 4, .int (nI j), .int (nI k)] (tw X A L) ((fun z w => z = some (.int (if k < (wnS (RkC cd vl st an en n v) (ev (rE L (64 + 2 * j))) (od (rE L (64 + 2 * j))) (A 44, A 45) (saC (saB na ln (rE L (64 + 2 * j))) 30 0)) then (clS (RkC cd vl st an en n v) (ev (rE L (64 + 2 * j))) (od (rE L (64 + 2 * j))) (A 44, A 45) k) else (-2))) ∧ ∃ h f g, w = tw (cX (tX X (wnS (RkC cd vl st an en n v) (ev (rE L (64 + 2 * j))) (od (rE L (64 + 2 * j))) (A 44, A 45) (saC (saB na ln (rE L (64 + 2 * j))) 30 0))) 39 (ruS (RkC cd vl st an en n v) (ev (rE L (64 + 2 * j))) (od (rE L (64 + 2 * j))) (A 44, A 45) (saC (saB na ln (rE L (64 + 2 * j))) 30 0)).1.1) (scr (cA (va_up A 36 h) 39 (ruS (RkC cd vl st an en n v) (ev (rE L (64 + 2 * j))) (od (rE L (64 + 2 * j))) (A 44, A 45) (saC (saB na ln (rE L (64 + 2 * j))) 30 0)).1.1 (ruS (RkC cd vl st an en n v) (ev (rE L (64 + 2 * j))) (od (rE L (64 + 2 * j))) (A 44, A 45) (saC (saB na ln (rE L (64 + 2 * j))) 30 0)).1.2) B f g) L)) := by
  refine jMet_of (by decide) (Nat.le_of_ble_eq_true rfl) none (Or.inl rfl) ?_
  show jWP none RX10 cX10_sales 5 (some .int) (d + 6) 0 0 0 [some (.ref 4), some (.int (nI j)), some (.int (nI k)), none, none] [] (tw X A L) ((fun z w => z = some (.int (if k < (wnS (RkC cd vl st an en n v) (ev (rE L (64 + 2 * j))) (od (rE L (64 + 2 * j))) (A 44, A 45) (saC (saB na ln (rE L (64 + 2 * j))) 30 0)) then (clS (RkC cd vl st an en n v) (ev (rE L (64 + 2 * j))) (od (rE L (64 + 2 * j))) (A 44, A 45) k) else (-2))) ∧ ∃ h f g, w = tw (cX (tX X (wnS (RkC cd vl st an en n v) (ev (rE L (64 + 2 * j))) (od (rE L (64 + 2 * j))) (A 44, A 45) (saC (saB na ln (rE L (64 + 2 * j))) 30 0))) 39 (ruS (RkC cd vl st an en n v) (ev (rE L (64 + 2 * j))) (od (rE L (64 + 2 * j))) (A 44, A 45) (saC (saB na ln (rE L (64 + 2 * j))) 30 0)).1.1) (scr (cA (va_up A 36 h) 39 (ruS (RkC cd vl st an en n v) (ev (rE L (64 + 2 * j))) (od (rE L (64 + 2 * j))) (A 44, A 45) (saC (saB na ln (rE L (64 + 2 * j))) 30 0)).1.1 (ruS (RkC cd vl st an en n v) (ev (rE L (64 + 2 * j))) (od (rE L (64 + 2 * j))) (A 44, A 45) (saC (saB na ln (rE L (64 + 2 * j))) 30 0)).1.2) B f g) L))
  have hB := hr.1
  refine j_iload_n dX10_sales_0 rfl rfl ?_
  refine j_callSi [.int _] [] dX10_sales_1 jlk_X10_96 rfl rfl (Nat.le_of_ble_eq_true rfl) (c_X10_isShelf_in hj) ?_
  refine j_if_eq (tgt := 12) dX10_sales_4 (by decide) (fun h => absurd h (by decide)) (fun _ => ?_)
  refine j_iload_n dX10_sales_7 rfl rfl ?_
  refine j_iconst (v := (-1)) dX10_sales_8 rfl ?_
  refine j_icmp_ge (tgt := 14) dX10_sales_9 (by decide) (fun h9 => ?_) (fun h9 => absurd (Int32.lt_trans (Int32.not_le.mp h9) (by decide)) (nI_pos hk))
  refine j_aload_n dX10_sales_14 rfl rfl ?_
  refine t_getR (b := 63) dX10_sales_15 jfl_X10_83 (fun _ _ _ => rfl) rfl ?_
  refine j_iload_n dX10_sales_18 rfl rfl ?_
  refine t_aaload dX10_sales_19 (by omega) ?_
  refine j_callVi [] [] dX10_sales_20 jlk_X10_103 rfl rfl ((shS0 (sh_of hj)) _ _ _) rfl (Nat.le_of_ble_eq_true rfl) (jMet_i (c_X8_bytesFault (sh_of hj) hh (by decide) hso (by decide)) (show bfI 2 0 = nI 0 from rfl) rfl) ?_
  refine j_istore_n (lv' := [some (.ref 4), some (.int _), some (.int _), some (.int _), none]) dX10_sales_23 rfl (by decide) rfl ?_
  refine j_iload_n dX10_sales_24 rfl rfl ?_
  refine j_if_eq (tgt := 30) dX10_sales_25 (by decide) (fun _ => ?_) (fun h => absurd (by decide) h)
  refine j_aload_n dX10_sales_30 rfl rfl ?_
  refine t_getR (b := 35) dX10_sales_31 jfl_X10_37 (fun _ _ _ => rfl) rfl ?_
  refine j_aload_n dX10_sales_34 rfl rfl ?_
  refine t_getR (b := 63) dX10_sales_35 jfl_X10_83 (fun _ _ _ => rfl) rfl ?_
  refine j_iload_n dX10_sales_38 rfl rfl ?_
  refine t_aaload dX10_sales_39 (by omega) ?_
  refine j_aload_n dX10_sales_40 rfl rfl ?_
  refine t_getR (b := 43) dX10_sales_41 jfl_X10_46 (fun _ _ _ => rfl) rfl ?_
  refine j_callV [.ref (64 + 2 * j), .ref 43] [] dX10_sales_44 jlk_X10_171 rfl rfl rfl rfl (Nat.le_of_ble_eq_true rfl) (c_X9_tell hr (sh_of hj) hh hln l60 (Or.inr (Or.inl rfl)) hc hc9) (fun r9 w9 h9 => ?_)
  obtain ⟨rfl, q9, f9, g9, rfl, hcl⟩ := h9
  refine j_ats (st' := [.int _]) rfl ?_
  refine j_istore (lv' := [some (.ref 4), some (.int _), some (.int _), some (.int _), some (.int _)]) dX10_sales_47 (by decide) rfl ?_
  refine j_iload_n dX10_sales_49 rfl rfl ?_
  refine j_iconst (v := (-1)) dX10_sales_50 rfl ?_
  refine j_icmp_ne (tgt := 59) dX10_sales_51 (by decide) (fun h51 => ?_) (fun h51 => absurd h51 (nI_nm1 hk))
  refine j_aload_n dX10_sales_59 rfl rfl ?_
  refine t_getR (b := 35) dX10_sales_60 jfl_X10_37 (fun _ _ _ => rfl) rfl ?_
  refine j_iload_n dX10_sales_63 rfl rfl ?_
  refine j_callVi [.int _] [] dX10_sales_64 jlk_X10_175 rfl rfl rfl rfl (Nat.le_of_ble_eq_true rfl) (c_X9_cellOf (tX_3 _ _ _) tell_n hk) ?_
  rw [scr_k hB (by decide), cA_n _ _ _ (by decide) (by decide) (by decide), vu_s]
  refine j_ireturn dX10_sales_67 rfl ?_
  refine ⟨?_, q9, f9, g9, rfl⟩
  show some (Value.int (if k < (wnS (RkC cd vl st an en n v) (ev (rE L (64 + 2 * j))) (od (rE L (64 + 2 * j))) (A 44, A 45) (saC (saB na ln (rE L (64 + 2 * j))) 30 0)) then q9 k else (-2))) = some (Value.int (if k < (wnS (RkC cd vl st an en n v) (ev (rE L (64 + 2 * j))) (od (rE L (64 + 2 * j))) (A 44, A 45) (saC (saB na ln (rE L (64 + 2 * j))) 30 0)) then (clS (RkC cd vl st an en n v) (ev (rE L (64 + 2 * j))) (od (rE L (64 + 2 * j))) (A 44, A 45) k) else (-2)))
  by_cases q : k < (wnS (RkC cd vl st an en n v) (ev (rE L (64 + 2 * j))) (od (rE L (64 + 2 * j))) (A 44, A 45) (saC (saB na ln (rE L (64 + 2 * j))) 30 0))
  · rw [if_pos q, if_pos q]; exact congrArg (fun x => some (Value.int x)) (hcl k q)
  · rw [if_neg q, if_neg q]

set_option maxHeartbeats 200000 in
set_option maxRecDepth 100000 in
theorem c_balance_no (hr : rul B cd vl st an en n na v X A) {c a : Int32} (h : isA 6 c = nI 0 ∨ isA na a = nI 0) : jMet (d + 6) yX10_balance cX10_balance 4 (some .int) 0 0 [.ref 4, .int c, .int a] (tw X A L) (jRi (-1) (tw X A L)) := by
  refine jMet_of (by decide) (Nat.le_of_ble_eq_true rfl) none (Or.inl rfl) ?_
  show jWP none RX10 cX10_balance 4 (some .int) (d + 6) 0 0 0 [some (.ref 4), some (.int c), some (.int a), none] [] (tw X A L) (jRi (-1) (tw X A L))
  obtain ⟨hB, r2, r3, r4, r5, r6, r7, r8, r9, r10, r11, r12, r13⟩ := id hr
  refine j_iload_n dX10_balance_0 rfl rfl ?_
  refine j_callSi [.int _] [] dX10_balance_1 jlk_X10_96 rfl rfl (Nat.le_of_ble_eq_true rfl) (c_X10_isShelf) ?_
  refine j_if_eq (tgt := 18) dX10_balance_4 (by decide) (fun h4 => ?_) (fun h4 => ?_)
  · refine j_iconst (v := (-1)) dX10_balance_18 rfl ?_
    refine j_ireturn dX10_balance_19 rfl ?_
    exact ⟨rfl, rfl⟩
  · refine j_aload_n dX10_balance_7 rfl rfl ?_
    refine t_getR (b := 10) dX10_balance_8 jfl_X10_19 (fun _ _ _ => rfl) rfl ?_
    refine j_iload_n dX10_balance_11 rfl rfl ?_
    refine j_callVi [.int _] [] dX10_balance_12 jlk_X10_127 rfl rfl rfl rfl (Nat.le_of_ble_eq_true rfl) (c_X7_isAccount r10 r11) ?_
    refine j_if_ne (tgt := 20) dX10_balance_15 (by decide) (fun h15 => ?_) (fun h15 => ?_)
    · exact absurd h (fun q => q.elim h4 h15)
    · refine j_iconst (v := (-1)) dX10_balance_18 rfl ?_
      refine j_ireturn dX10_balance_19 rfl ?_
      exact ⟨rfl, rfl⟩

set_option maxHeartbeats 200000 in
set_option maxRecDepth 100000 in
theorem c_balance_f (hr : rul B cd vl st an en n na v X A) {j : Nat} (hj : j < 6) {h so : Nat} (hh : X (64 + 2 * j) 0 = nI h) (h2 : h ≤ 2) (hso : X (64 + 2 * j) 2 = nI so) (so4 : so ≤ 4) (hf : bfI h so ≠ 0) {k : Nat} (hk : k < na) : jMet (d + 6) yX10_balance cX10_balance 4 (some .int) 0 0 [.ref 4, .int (nI j), .int (nI k)] (tw X A L) (jRi (bfI h so) (tw X A L)) := by
  refine jMet_of (by decide) (Nat.le_of_ble_eq_true rfl) none (Or.inl rfl) ?_
  show jWP none RX10 cX10_balance 4 (some .int) (d + 6) 0 0 0 [some (.ref 4), some (.int (nI j)), some (.int (nI k)), none] [] (tw X A L) (jRi (bfI h so) (tw X A L))
  obtain ⟨hB, r2, r3, r4, r5, r6, r7, r8, r9, r10, r11, r12, r13⟩ := id hr
  refine j_iload_n dX10_balance_0 rfl rfl ?_
  refine j_callSi [.int _] [] dX10_balance_1 jlk_X10_96 rfl rfl (Nat.le_of_ble_eq_true rfl) (c_X10_isShelf_in hj) ?_
  refine j_if_eq (tgt := 18) dX10_balance_4 (by decide) (fun h => absurd h (by decide)) (fun _ => ?_)
  refine j_aload_n dX10_balance_7 rfl rfl ?_
  refine t_getR (b := 10) dX10_balance_8 jfl_X10_19 (fun _ _ _ => rfl) rfl ?_
  refine j_iload_n dX10_balance_11 rfl rfl ?_
  refine j_callVi [.int _] [] dX10_balance_12 jlk_X10_127 rfl rfl rfl rfl (Nat.le_of_ble_eq_true rfl) (c_X7_isAccount_in r10 r11 hk) ?_
  refine j_if_ne (tgt := 20) dX10_balance_15 (by decide) (fun _ => ?_) (fun h => absurd h (by decide))
  refine j_aload_n dX10_balance_20 rfl rfl ?_
  refine t_getR (b := 63) dX10_balance_21 jfl_X10_83 (fun _ _ _ => rfl) rfl ?_
  refine j_iload_n dX10_balance_24 rfl rfl ?_
  refine t_aaload dX10_balance_25 (by omega) ?_
  refine j_callVi [] [] dX10_balance_26 jlk_X10_103 rfl rfl ((shS0 (sh_of hj)) _ _ _) rfl (Nat.le_of_ble_eq_true rfl) (c_X8_bytesFault (sh_of hj) hh h2 hso so4) ?_
  refine j_istore_n (lv' := [some (.ref 4), some (.int _), some (.int _), some (.int _)]) dX10_balance_29 rfl (by decide) rfl ?_
  refine j_iload_n dX10_balance_30 rfl rfl ?_
  refine j_if_eq (tgt := 36) dX10_balance_31 (by decide) (fun h31 => absurd h31 hf) (fun h31 => ?_)
  refine j_iload_n dX10_balance_34 rfl rfl ?_
  refine j_ireturn dX10_balance_35 rfl ?_
  exact ⟨rfl, rfl⟩

set_option maxHeartbeats 200000 in
set_option maxRecDepth 100000 in
theorem c_balance (hr : rul B cd vl st an en n na v X A) (hc : cok X A 43) (hc9 : cok X A 39) {j : Nat} (hj : j < 6) (hh : X (64 + 2 * j) 0 = nI 2) (hso : X (64 + 2 * j) 2 = nI 0) {ln : Nat} (hln : X (64 + 2 * j) 3 = nI ln) (l60 : ln ≤ 60) {k : Nat} (hk : k < na) : jMet (d + 6) yX10_balance cX10_balance 4 (some .int) 0 0 [.ref 4, .int (nI j), .int (nI k)] (tw X A L) ((fun z w => z = some (.int (balS (ruS (RkC cd vl st an en n v) (ev (rE L (64 + 2 * j))) (od (rE L (64 + 2 * j))) (A 44, A 45) (saC (saB na ln (rE L (64 + 2 * j))) 30 0)).1.1 (ruS (RkC cd vl st an en n v) (ev (rE L (64 + 2 * j))) (od (rE L (64 + 2 * j))) (A 44, A 45) (saC (saB na ln (rE L (64 + 2 * j))) 30 0)).1.2 (nI k) 49)) ∧ ∃ h f g, w = tw (cX (tX X (wnS (RkC cd vl st an en n v) (ev (rE L (64 + 2 * j))) (od (rE L (64 + 2 * j))) (A 44, A 45) (saC (saB na ln (rE L (64 + 2 * j))) 30 0))) 39 (ruS (RkC cd vl st an en n v) (ev (rE L (64 + 2 * j))) (od (rE L (64 + 2 * j))) (A 44, A 45) (saC (saB na ln (rE L (64 + 2 * j))) 30 0)).1.1) (scr (cA (va_up A 36 h) 39 (ruS (RkC cd vl st an en n v) (ev (rE L (64 + 2 * j))) (od (rE L (64 + 2 * j))) (A 44, A 45) (saC (saB na ln (rE L (64 + 2 * j))) 30 0)).1.1 (ruS (RkC cd vl st an en n v) (ev (rE L (64 + 2 * j))) (od (rE L (64 + 2 * j))) (A 44, A 45) (saC (saB na ln (rE L (64 + 2 * j))) 30 0)).1.2) B f g) L)) := by
  refine jMet_of (by decide) (Nat.le_of_ble_eq_true rfl) none (Or.inl rfl) ?_
  show jWP none RX10 cX10_balance 4 (some .int) (d + 6) 0 0 0 [some (.ref 4), some (.int (nI j)), some (.int (nI k)), none] [] (tw X A L) ((fun z w => z = some (.int (balS (ruS (RkC cd vl st an en n v) (ev (rE L (64 + 2 * j))) (od (rE L (64 + 2 * j))) (A 44, A 45) (saC (saB na ln (rE L (64 + 2 * j))) 30 0)).1.1 (ruS (RkC cd vl st an en n v) (ev (rE L (64 + 2 * j))) (od (rE L (64 + 2 * j))) (A 44, A 45) (saC (saB na ln (rE L (64 + 2 * j))) 30 0)).1.2 (nI k) 49)) ∧ ∃ h f g, w = tw (cX (tX X (wnS (RkC cd vl st an en n v) (ev (rE L (64 + 2 * j))) (od (rE L (64 + 2 * j))) (A 44, A 45) (saC (saB na ln (rE L (64 + 2 * j))) 30 0))) 39 (ruS (RkC cd vl st an en n v) (ev (rE L (64 + 2 * j))) (od (rE L (64 + 2 * j))) (A 44, A 45) (saC (saB na ln (rE L (64 + 2 * j))) 30 0)).1.1) (scr (cA (va_up A 36 h) 39 (ruS (RkC cd vl st an en n v) (ev (rE L (64 + 2 * j))) (od (rE L (64 + 2 * j))) (A 44, A 45) (saC (saB na ln (rE L (64 + 2 * j))) 30 0)).1.1 (ruS (RkC cd vl st an en n v) (ev (rE L (64 + 2 * j))) (od (rE L (64 + 2 * j))) (A 44, A 45) (saC (saB na ln (rE L (64 + 2 * j))) 30 0)).1.2) B f g) L))
  obtain ⟨hB, r2, r3, r4, r5, r6, r7, r8, r9, r10, r11, r12, r13⟩ := id hr
  refine j_iload_n dX10_balance_0 rfl rfl ?_
  refine j_callSi [.int _] [] dX10_balance_1 jlk_X10_96 rfl rfl (Nat.le_of_ble_eq_true rfl) (c_X10_isShelf_in hj) ?_
  refine j_if_eq (tgt := 18) dX10_balance_4 (by decide) (fun h => absurd h (by decide)) (fun _ => ?_)
  refine j_aload_n dX10_balance_7 rfl rfl ?_
  refine t_getR (b := 10) dX10_balance_8 jfl_X10_19 (fun _ _ _ => rfl) rfl ?_
  refine j_iload_n dX10_balance_11 rfl rfl ?_
  refine j_callVi [.int _] [] dX10_balance_12 jlk_X10_127 rfl rfl rfl rfl (Nat.le_of_ble_eq_true rfl) (c_X7_isAccount_in r10 r11 hk) ?_
  refine j_if_ne (tgt := 20) dX10_balance_15 (by decide) (fun _ => ?_) (fun h => absurd h (by decide))
  refine j_aload_n dX10_balance_20 rfl rfl ?_
  refine t_getR (b := 63) dX10_balance_21 jfl_X10_83 (fun _ _ _ => rfl) rfl ?_
  refine j_iload_n dX10_balance_24 rfl rfl ?_
  refine t_aaload dX10_balance_25 (by omega) ?_
  refine j_callVi [] [] dX10_balance_26 jlk_X10_103 rfl rfl ((shS0 (sh_of hj)) _ _ _) rfl (Nat.le_of_ble_eq_true rfl) (jMet_i (c_X8_bytesFault (sh_of hj) hh (by decide) hso (by decide)) (show bfI 2 0 = nI 0 from rfl) rfl) ?_
  refine j_istore_n (lv' := [some (.ref 4), some (.int _), some (.int _), some (.int _)]) dX10_balance_29 rfl (by decide) rfl ?_
  refine j_iload_n dX10_balance_30 rfl rfl ?_
  refine j_if_eq (tgt := 36) dX10_balance_31 (by decide) (fun _ => ?_) (fun h => absurd (by decide) h)
  refine j_aload_n dX10_balance_36 rfl rfl ?_
  refine t_getR (b := 35) dX10_balance_37 jfl_X10_37 (fun _ _ _ => rfl) rfl ?_
  refine j_aload_n dX10_balance_40 rfl rfl ?_
  refine t_getR (b := 63) dX10_balance_41 jfl_X10_83 (fun _ _ _ => rfl) rfl ?_
  refine j_iload_n dX10_balance_44 rfl rfl ?_
  refine t_aaload dX10_balance_45 (by omega) ?_
  refine j_aload_n dX10_balance_46 rfl rfl ?_
  refine t_getR (b := 43) dX10_balance_47 jfl_X10_46 (fun _ _ _ => rfl) rfl ?_
  refine j_callV [.ref (64 + 2 * j), .ref 43] [] dX10_balance_50 jlk_X10_171 rfl rfl rfl rfl (Nat.le_of_ble_eq_true rfl) (c_X9_tell hr (sh_of hj) hh hln l60 (Or.inr (Or.inl rfl)) hc hc9) (fun r9 w9 h9 => ?_)
  obtain ⟨rfl, q9, f9, g9, rfl, hcl⟩ := h9
  refine j_ats (st' := [.int _]) rfl ?_
  refine j_pop dX10_balance_53 rfl ?_
  refine j_aload_n dX10_balance_54 rfl rfl ?_
  refine t_getR (b := 35) dX10_balance_55 jfl_X10_37 (fun _ _ _ => rfl) rfl ?_
  refine j_iload_n dX10_balance_58 rfl rfl ?_
  refine j_callVi [.int _] [] dX10_balance_59 jlk_X10_178 rfl rfl rfl rfl (Nat.le_of_ble_eq_true rfl) (c_X9_balanceThen) ?_
  rw [scr_k hB (by decide), scr_k hB (by decide), show (40 : Nat) = 39 + 1 from rfl, show (41 : Nat) = 39 + 2 from rfl, cA_1, cA_2]
  refine j_ireturn dX10_balance_62 rfl ?_
  exact ⟨rfl, q9, f9, g9, rfl⟩

set_option maxHeartbeats 200000 in
set_option maxRecDepth 100000 in
theorem c_judge_no {c : Int32} (h : isA 6 c = nI 0) : jMet (d + 6) yX10_judge cX10_judge 3 (some .int) 0 0 [.ref 4, .int c] (tw X A L) (jRi (-1) (tw X A L)) := by
  refine jMet_of (by decide) (Nat.le_of_ble_eq_true rfl) none (Or.inl rfl) ?_
  show jWP none RX10 cX10_judge 3 (some .int) (d + 6) 0 0 0 [some (.ref 4), some (.int c), none] [] (tw X A L) (jRi (-1) (tw X A L))
  refine j_iload_n dX10_judge_0 rfl rfl ?_
  refine j_callSi [.int _] [] dX10_judge_1 jlk_X10_96 rfl rfl (Nat.le_of_ble_eq_true rfl) (c_X10_isShelf) ?_
  refine j_if_ne (tgt := 9) dX10_judge_4 (by decide) (fun h4 => absurd h h4) (fun h4 => ?_)
  refine j_iconst (v := (-1)) dX10_judge_7 rfl ?_
  refine j_ireturn dX10_judge_8 rfl ?_
  exact ⟨rfl, rfl⟩

end CT23