section CT22
variable {d : Nat} {X A : Nat → Nat → Int32} {L : Nat → Nat → Int64} {w : jW} {B : Nat} {cd vl st an en : Nat → Nat} {n na : Nat} {v : Nat → Nat} {nb : Nat} {kd : Nat → Nat}

set_option maxHeartbeats 200000 in
set_option maxRecDepth 100000 in
theorem c_image (hc : cok X A 43) (hc51 : cok X A 51) : jMet (d + 2) yX10_image cX10_image 1 (some .int) 0 0 [.ref 4] (tw X A L) (jRi (A 55 0) (tw (va_up (cX X 51 (A 44)) 4 (upd (X 4) 9 (nI 1))) (va_up (cA A 51 (A 44) (A 45)) 56 (va_cpy (A 55) (A 56) 0 0 6)) L)) := by
  refine jMet_of (by decide) (Nat.le_of_ble_eq_true rfl) none (Or.inl rfl) ?_
  show jWP none RX10 cX10_image 1 (some .int) (d + 2) 0 0 0 [some (.ref 4)] [] (tw X A L) (jRi (A 55 0) (tw (va_up (cX X 51 (A 44)) 4 (upd (X 4) 9 (nI 1))) (va_up (cA A 51 (A 44) (A 45)) 56 (va_cpy (A 55) (A 56) 0 0 6)) L))
  refine j_aload_n dX10_image_0 rfl rfl ?_
  refine t_getR (b := 51) dX10_image_1 jfl_X10_53 (fun _ _ _ => rfl) rfl ?_
  refine j_aload_n dX10_image_4 rfl rfl ?_
  refine t_getR (b := 43) dX10_image_5 jfl_X10_46 (fun _ _ _ => rfl) rfl ?_
  refine j_callVv [.ref 43] [] dX10_image_8 jlk_X10_181 rfl rfl rfl rfl (Nat.le_of_ble_eq_true rfl) (c_X0_become (Or.inr (Or.inr (Or.inr rfl))) (Or.inr (Or.inl rfl)) hc51 hc) ?_
  rw [show (43 + 1 : Nat) = 44 from rfl, show (43 + 2 : Nat) = 45 from rfl]
  refine j_aload_n dX10_image_11 rfl rfl ?_
  refine t_getR (b := 55) dX10_image_12 jfl_X10_56 (fun _ _ _ => rfl) rfl ?_
  refine j_iconst (v := nI 0) dX10_image_15 rfl ?_
  refine j_aload_n dX10_image_16 rfl rfl ?_
  refine t_getR (b := 56) dX10_image_17 jfl_X10_60 (fun _ _ _ => rfl) rfl ?_
  refine j_iconst (v := nI 0) dX10_image_20 rfl ?_
  refine j_bipush (v := nI 6) dX10_image_21 rfl ?_
  refine t_copyi dX10_image_23 jlc_X10_273 (fun _ _ _ => rfl) (fun _ _ _ => rfl) (by omega) (by omega) (by decide) (by decide) (Nat.le_of_ble_eq_true rfl) ?_
  refine j_aload_n dX10_image_26 rfl rfl ?_
  refine j_iconst (v := nI 1) dX10_image_27 rfl ?_
  refine t_putI dX10_image_28 jfl_X10_63 (fun _ _ _ => rfl) (fun _ _ => rfl) (Nat.le_of_ble_eq_true rfl) rfl rfl ?_
  refine j_aload_n dX10_image_31 rfl rfl ?_
  refine t_getR (b := 55) dX10_image_32 jfl_X10_56 (fun _ _ _ => rfl) rfl ?_
  refine j_iconst (v := nI 0) dX10_image_35 rfl ?_
  refine t_iaload dX10_image_36 (fun _ _ _ => rfl) (by decide) (by decide) ?_
  refine j_ireturn dX10_image_37 rfl ?_
  refine ⟨?_, tw_eq ?_ ?_ rfl⟩
  · rw [vu_n _ _ _ (by decide), cA_n _ _ _ (by decide) (by decide) (by decide)]
  · rw [cX_n _ _ (by decide)]
  · rw [cA_n _ _ _ (by decide) (by decide) (by decide), cA_n _ _ _ (by decide) (by decide) (by decide)]

set_option maxHeartbeats 200000 in
set_option maxRecDepth 100000 in
theorem c_back_no (hk : X 4 9 = nI 0) : jMet (d + 2) yX10_back cX10_back 1 (some .int) 0 0 [.ref 4] (tw X A L) (jRi (-5) (tw X A L)) := by
  refine jMet_of (by decide) (Nat.le_of_ble_eq_true rfl) none (Or.inl rfl) ?_
  show jWP none RX10 cX10_back 1 (some .int) (d + 2) 0 0 0 [some (.ref 4)] [] (tw X A L) (jRi (-5) (tw X A L))
  refine j_aload_n dX10_back_0 rfl rfl ?_
  refine t_getI dX10_back_1 jfl_X10_63 (fun _ _ _ => rfl) (fun _ => rfl) ?_
  refine j_topE (e' := nI 0) hk ?_
  refine jn_if_ne (tgt := 10) dX10_back_4 (by decide) (by omega) (fun h4 => absurd h4 (by decide)) (fun h4 => ?_)
  refine j_bipush (v := (-5)) dX10_back_7 rfl ?_
  refine j_ireturn dX10_back_9 rfl ?_
  exact ⟨rfl, rfl⟩

set_option maxHeartbeats 200000 in
set_option maxRecDepth 100000 in
theorem c_back (hc : cok X A 43) (hc51 : cok X A 51) (hk : X 4 9 = nI 1) : jMet (d + 2) yX10_back cX10_back 1 (some .int) 0 0 [.ref 4] (tw X A L) (jRi (A 56 0) (tw (cX X 43 (A 52)) (va_up (cA A 43 (A 52) (A 53)) 55 (va_cpy (A 56) (A 55) 0 0 6)) L)) := by
  refine jMet_of (by decide) (Nat.le_of_ble_eq_true rfl) none (Or.inl rfl) ?_
  show jWP none RX10 cX10_back 1 (some .int) (d + 2) 0 0 0 [some (.ref 4)] [] (tw X A L) (jRi (A 56 0) (tw (cX X 43 (A 52)) (va_up (cA A 43 (A 52) (A 53)) 55 (va_cpy (A 56) (A 55) 0 0 6)) L))
  refine j_aload_n dX10_back_0 rfl rfl ?_
  refine t_getI dX10_back_1 jfl_X10_63 (fun _ _ _ => rfl) (fun _ => rfl) ?_
  refine j_topE (e' := nI 1) hk ?_
  refine jn_if_ne (tgt := 10) dX10_back_4 (by decide) (by omega) (fun h4 => ?_) (fun h4 => absurd h4 (by decide))
  refine j_aload_n dX10_back_10 rfl rfl ?_
  refine t_getR (b := 43) dX10_back_11 jfl_X10_46 (fun _ _ _ => rfl) rfl ?_
  refine j_aload_n dX10_back_14 rfl rfl ?_
  refine t_getR (b := 51) dX10_back_15 jfl_X10_53 (fun _ _ _ => rfl) rfl ?_
  refine j_callVv [.ref 51] [] dX10_back_18 jlk_X10_181 rfl rfl rfl rfl (Nat.le_of_ble_eq_true rfl) (c_X0_become (Or.inr (Or.inl rfl)) (Or.inr (Or.inr (Or.inr rfl))) hc hc51) ?_
  rw [show (51 + 1 : Nat) = 52 from rfl, show (51 + 2 : Nat) = 53 from rfl]
  refine j_aload_n dX10_back_21 rfl rfl ?_
  refine t_getR (b := 56) dX10_back_22 jfl_X10_60 (fun _ _ _ => rfl) rfl ?_
  refine j_iconst (v := nI 0) dX10_back_25 rfl ?_
  refine j_aload_n dX10_back_26 rfl rfl ?_
  refine t_getR (b := 55) dX10_back_27 jfl_X10_56 (fun _ _ _ => rfl) rfl ?_
  refine j_iconst (v := nI 0) dX10_back_30 rfl ?_
  refine j_bipush (v := nI 6) dX10_back_31 rfl ?_
  refine t_copyi dX10_back_33 jlc_X10_273 (fun _ _ _ => rfl) (fun _ _ _ => rfl) (by omega) (by omega) (by decide) (by decide) (Nat.le_of_ble_eq_true rfl) ?_
  refine j_aload_n dX10_back_36 rfl rfl ?_
  refine t_getR (b := 55) dX10_back_37 jfl_X10_56 (fun _ _ _ => rfl) rfl ?_
  refine j_iconst (v := nI 0) dX10_back_40 rfl ?_
  refine t_iaload dX10_back_41 (fun _ _ _ => rfl) (by omega) (by decide) ?_
  refine j_ireturn dX10_back_42 rfl ?_
  refine ⟨?_, tw_eq rfl ?_ rfl⟩
  · rw [vu_s, cA_n _ _ _ (by decide) (by decide) (by decide), cA_n _ _ _ (by decide) (by decide) (by decide)]; simp [va_cpy]
  · rw [cA_n _ _ _ (by decide) (by decide) (by decide), cA_n _ _ _ (by decide) (by decide) (by decide)]

set_option maxHeartbeats 200000 in
set_option maxRecDepth 100000 in
theorem c_undo_no (hd : X 10 5 = nI 0) : jMet (d + 1) yX10_undo cX10_undo 1 (some .int) 0 0 [.ref 4] (tw X A L) (jRi (-5) (tw X A L)) := by
  refine jMet_of (by decide) (Nat.le_of_ble_eq_true rfl) none (Or.inl rfl) ?_
  show jWP none RX10 cX10_undo 1 (some .int) (d + 1) 0 0 0 [some (.ref 4)] [] (tw X A L) (jRi (-5) (tw X A L))
  refine j_aload_n dX10_undo_0 rfl rfl ?_
  refine t_getR (b := 10) dX10_undo_1 jfl_X10_19 (fun _ _ _ => rfl) rfl ?_
  refine j_callVi [] [] dX10_undo_4 jlk_X10_279 rfl rfl rfl rfl (Nat.le_of_ble_eq_true rfl) (c_X7_takeBack_no hd) ?_
  refine j_ireturn dX10_undo_7 rfl ?_
  exact ⟨rfl, rfl⟩

set_option maxHeartbeats 200000 in
set_option maxRecDepth 100000 in
theorem c_undo (hr : rul B cd vl st an en n na v X A) {dn : Nat} {pl bf af : Nat → Nat} (hd : X 10 5 = nI dn) (hd40 : dn ≤ 40) (h12 : A 12 = nIf pl) (h13 : A 13 = nIf bf) (h14 : A 14 = nIf af) (h0 : 0 < dn) (hp : pl (dn - 1) < 8) : jMet (d + 1) yX10_undo cX10_undo 1 (some .int) 0 0 [.ref 4] (tw X A L) (jRi (nI (dn - 1)) (tw (va_up X 10 (upd (X 10) 5 (nI (dn - 1)))) (va_up A 11 (nIf (updN v (pl (dn - 1)) (bf (dn - 1))))) L)) := by
  refine jMet_of (by decide) (Nat.le_of_ble_eq_true rfl) none (Or.inl rfl) ?_
  show jWP none RX10 cX10_undo 1 (some .int) (d + 1) 0 0 0 [some (.ref 4)] [] (tw X A L) (jRi (nI (dn - 1)) (tw (va_up X 10 (upd (X 10) 5 (nI (dn - 1)))) (va_up A 11 (nIf (updN v (pl (dn - 1)) (bf (dn - 1))))) L))
  obtain ⟨hB, r2, r3, r4, r5, r6, r7, r8, r9, r10, r11, r12, r13⟩ := id hr
  refine j_aload_n dX10_undo_0 rfl rfl ?_
  refine t_getR (b := 10) dX10_undo_1 jfl_X10_19 (fun _ _ _ => rfl) rfl ?_
  refine j_callVi [] [] dX10_undo_4 jlk_X10_279 rfl rfl rfl rfl (Nat.le_of_ble_eq_true rfl) (c_X7_takeBack r12 hd hd40 h12 h13 h14 h0 hp) ?_
  refine j_ireturn dX10_undo_7 rfl ?_
  exact ⟨rfl, rfl⟩

set_option maxHeartbeats 200000 in
set_option maxRecDepth 100000 in
theorem c_redo_no {dn : Nat} (hd : X 10 5 = nI dn) (hk : X 10 6 = nI dn) (h4 : dn ≤ 40) : jMet (d + 1) yX10_redo cX10_redo 1 (some .int) 0 0 [.ref 4] (tw X A L) (jRi (-5) (tw X A L)) := by
  refine jMet_of (by decide) (Nat.le_of_ble_eq_true rfl) none (Or.inl rfl) ?_
  show jWP none RX10 cX10_redo 1 (some .int) (d + 1) 0 0 0 [some (.ref 4)] [] (tw X A L) (jRi (-5) (tw X A L))
  refine j_aload_n dX10_redo_0 rfl rfl ?_
  refine t_getR (b := 10) dX10_redo_1 jfl_X10_19 (fun _ _ _ => rfl) rfl ?_
  refine j_callVi [] [] dX10_redo_4 jlk_X10_282 rfl rfl rfl rfl (Nat.le_of_ble_eq_true rfl) (c_X7_doAgain_no hd hk h4) ?_
  refine j_ireturn dX10_redo_7 rfl ?_
  exact ⟨rfl, rfl⟩

set_option maxHeartbeats 200000 in
set_option maxRecDepth 100000 in
theorem c_redo (hr : rul B cd vl st an en n na v X A) {dn : Nat} {pl bf af : Nat → Nat} (hd : X 10 5 = nI dn) (hd40 : dn ≤ 40) (h12 : A 12 = nIf pl) (h13 : A 13 = nIf bf) (h14 : A 14 = nIf af) {kp : Nat} (hk : X 10 6 = nI kp) (hk2 : kp ≤ 40) (h0 : dn < kp) (hp : pl dn < 8) : jMet (d + 1) yX10_redo cX10_redo 1 (some .int) 0 0 [.ref 4] (tw X A L) (jRi (nI (kp - (dn + 1))) (tw (va_up X 10 (upd (X 10) 5 (nI (dn + 1)))) (va_up A 11 (nIf (updN v (pl dn) (af dn)))) L)) := by
  refine jMet_of (by decide) (Nat.le_of_ble_eq_true rfl) none (Or.inl rfl) ?_
  show jWP none RX10 cX10_redo 1 (some .int) (d + 1) 0 0 0 [some (.ref 4)] [] (tw X A L) (jRi (nI (kp - (dn + 1))) (tw (va_up X 10 (upd (X 10) 5 (nI (dn + 1)))) (va_up A 11 (nIf (updN v (pl dn) (af dn)))) L))
  obtain ⟨hB, r2, r3, r4, r5, r6, r7, r8, r9, r10, r11, r12, r13⟩ := id hr
  refine j_aload_n dX10_redo_0 rfl rfl ?_
  refine t_getR (b := 10) dX10_redo_1 jfl_X10_19 (fun _ _ _ => rfl) rfl ?_
  refine j_callVi [] [] dX10_redo_4 jlk_X10_282 rfl rfl rfl rfl (Nat.le_of_ble_eq_true rfl) (c_X7_doAgain r12 hd hd40 h12 h13 h14 hk hk2 h0 hp) ?_
  refine j_ireturn dX10_redo_7 rfl ?_
  exact ⟨rfl, rfl⟩

set_option maxHeartbeats 200000 in
set_option maxRecDepth 100000 in
theorem c_body_no {c : Int32} (h : isA 8 c = nI 0) : jMet (d + 1) yX10_body cX10_body 2 (some .int) 0 0 [.ref 4, .int c] (tw X A L) (jRi (-1) (tw X A L)) := by
  refine jMet_of (by decide) (Nat.le_of_ble_eq_true rfl) none (Or.inl rfl) ?_
  show jWP none RX10 cX10_body 2 (some .int) (d + 1) 0 0 0 [some (.ref 4), some (.int c)] [] (tw X A L) (jRi (-1) (tw X A L))
  refine j_iload_n dX10_body_0 rfl rfl ?_
  refine j_callSi [.int _] [] dX10_body_1 jlk_X10_285 rfl rfl (Nat.le_of_ble_eq_true rfl) (c_X2_isKind) ?_
  refine j_if_eq (tgt := 18) dX10_body_4 (by decide) (fun h4 => ?_) (fun h4 => absurd h h4)
  refine j_iconst (v := (-1)) dX10_body_18 rfl ?_
  refine j_ireturn dX10_body_19 rfl ?_
  exact ⟨rfl, rfl⟩

set_option maxHeartbeats 200000 in
set_option maxRecDepth 100000 in
theorem c_body_full (hb : X 60 1 = nI 50) {k : Nat} (hk : k < 8) : jMet (d + 1) yX10_body cX10_body 2 (some .int) 0 0 [.ref 4, .int (nI k)] (tw X A L) (jRi (-3) (tw X A L)) := by
  refine jMet_of (by decide) (Nat.le_of_ble_eq_true rfl) none (Or.inl rfl) ?_
  show jWP none RX10 cX10_body 2 (some .int) (d + 1) 0 0 0 [some (.ref 4), some (.int (nI k))] [] (tw X A L) (jRi (-3) (tw X A L))
  refine j_iload_n dX10_body_0 rfl rfl ?_
  refine j_callSi [.int _] [] dX10_body_1 jlk_X10_285 rfl rfl (Nat.le_of_ble_eq_true rfl) (c_X2_isKind_in hk) ?_
  refine j_if_eq (tgt := 18) dX10_body_4 (by decide) (fun h => absurd h (by decide)) (fun _ => ?_)
  refine j_aload_n dX10_body_7 rfl rfl ?_
  refine t_getR (b := 60) dX10_body_8 jfl_X10_77 (fun _ _ _ => rfl) rfl ?_
  refine j_iload_n dX10_body_11 rfl rfl ?_
  refine j_callVi [.int _] [] dX10_body_12 jlk_X10_288 rfl rfl rfl rfl (Nat.le_of_ble_eq_true rfl) (c_X2_add_full hb) ?_
  refine j_goto (tgt := 19) dX10_body_15 (by decide) ?_
  refine j_ireturn dX10_body_19 rfl ?_
  exact ⟨rfl, rfl⟩

set_option maxHeartbeats 200000 in
set_option maxRecDepth 100000 in
theorem c_body (hb : X 60 1 = nI nb) (hb50 : nb ≤ 50) (hk : A 61 = nIf kd) (h : nb < 50) {k : Nat} (hk8 : k < 8) : jMet (d + 1) yX10_body cX10_body 2 (some .int) 0 0 [.ref 4, .int (nI k)] (tw X A L) (jRi (nI nb) (tw (va_up X 60 (upd (X 60) 1 (nI (nb + 1)))) (va_up A 61 (nIf (updN kd nb k))) L)) := by
  refine jMet_of (by decide) (Nat.le_of_ble_eq_true rfl) none (Or.inl rfl) ?_
  show jWP none RX10 cX10_body 2 (some .int) (d + 1) 0 0 0 [some (.ref 4), some (.int (nI k))] [] (tw X A L) (jRi (nI nb) (tw (va_up X 60 (upd (X 60) 1 (nI (nb + 1)))) (va_up A 61 (nIf (updN kd nb k))) L))
  refine j_iload_n dX10_body_0 rfl rfl ?_
  refine j_callSi [.int _] [] dX10_body_1 jlk_X10_285 rfl rfl (Nat.le_of_ble_eq_true rfl) (c_X2_isKind_in hk8) ?_
  refine j_if_eq (tgt := 18) dX10_body_4 (by decide) (fun h => absurd h (by decide)) (fun _ => ?_)
  refine j_aload_n dX10_body_7 rfl rfl ?_
  refine t_getR (b := 60) dX10_body_8 jfl_X10_77 (fun _ _ _ => rfl) rfl ?_
  refine j_iload_n dX10_body_11 rfl rfl ?_
  refine j_callVi [.int _] [] dX10_body_12 jlk_X10_288 rfl rfl rfl rfl (Nat.le_of_ble_eq_true rfl) (c_X2_add hb hb50 hk h) ?_
  refine j_goto (tgt := 19) dX10_body_15 (by decide) ?_
  refine j_ireturn dX10_body_19 rfl ?_
  exact ⟨rfl, rfl⟩

set_option maxHeartbeats 200000 in
set_option maxRecDepth 100000 in
theorem c_act_no (hb : X 60 1 = nI nb) (hb50 : nb ≤ 50) {c a x : Int32} (h : isA nb c = nI 0 ∨ isA 4 a = nI 0) : jMet (d + 2) yX10_act cX10_act 4 (some .int) 0 0 [.ref 4, .int c, .int a, .int x] (tw X A L) (jRi (nI 0) (tw (hX X 0) A L)) := by
  refine jMet_of (by decide) (Nat.le_of_ble_eq_true rfl) none (Or.inl rfl) ?_
  show jWP none RX10 cX10_act 4 (some .int) (d + 2) 0 0 0 [some (.ref 4), some (.int c), some (.int a), some (.int x)] [] (tw X A L) (jRi (nI 0) (tw (hX X 0) A L))
  refine j_aload_n dX10_act_0 rfl rfl ?_
  refine t_getR (b := 60) dX10_act_1 jfl_X10_77 (fun _ _ _ => rfl) rfl ?_
  refine j_iload_n dX10_act_4 rfl rfl ?_
  refine j_iload_n dX10_act_5 rfl rfl ?_
  refine j_iload_n dX10_act_6 rfl rfl ?_
  refine j_callVi [.int _, .int _, .int _] [] dX10_act_7 jlk_X10_291 rfl rfl rfl rfl (Nat.le_of_ble_eq_true rfl) (c_X2_perform_no hb hb50 h) ?_
  refine j_ireturn dX10_act_10 rfl ?_
  exact ⟨rfl, rfl⟩

set_option maxHeartbeats 200000 in
set_option maxRecDepth 100000 in
theorem c_act (hb : X 60 1 = nI nb) (hb50 : nb ≤ 50) (hk : A 61 = nIf kd) {b t : Nat} (hbn : b < nb) (hkd8 : kd b < 8) (ht : t < 4) {x y : Int32} {ns : List Int32} (hac : acS 8 (kd b) (nI b) (kd b) t x = some (y, ns)) : jMet (d + 8 + 2 + 1 + 1) yX10_act cX10_act 4 (some .int) 0 0 [.ref 4, .int (nI b), .int (nI t), .int x] (tw X A L) (jRi y (tw (va_up X 60 (upd (upd (X 60) 4 (nI b)) 3 (nI ns.length))) (va_up A 62 (noteT 0 (A 62) ns)) L)) := by
  refine jMet_of (by decide) (Nat.le_of_ble_eq_true rfl) none (Or.inl rfl) ?_
  show jWP none RX10 cX10_act 4 (some .int) (d + 8 + 2 + 1 + 1) 0 0 0 [some (.ref 4), some (.int (nI b)), some (.int (nI t)), some (.int x)] [] (tw X A L) (jRi y (tw (va_up X 60 (upd (upd (X 60) 4 (nI b)) 3 (nI ns.length))) (va_up A 62 (noteT 0 (A 62) ns)) L))
  refine j_aload_n dX10_act_0 rfl rfl ?_
  refine t_getR (b := 60) dX10_act_1 jfl_X10_77 (fun _ _ _ => rfl) rfl ?_
  refine j_iload_n dX10_act_4 rfl rfl ?_
  refine j_iload_n dX10_act_5 rfl rfl ?_
  refine j_iload_n dX10_act_6 rfl rfl ?_
  refine j_callVi [.int _, .int _, .int _] [] dX10_act_7 jlk_X10_291 rfl rfl rfl rfl (Nat.le_of_ble_eq_true rfl) (c_X2_perform hb hb50 hk hbn hkd8 ht hac) ?_
  refine j_ireturn dX10_act_10 rfl ?_
  exact ⟨rfl, rfl⟩

set_option maxHeartbeats 200000 in
set_option maxRecDepth 100000 in
theorem c_trace {r : Nat} (hr : X 60 3 = nI r) (hr2 : r < 2 ^ 30) {j : Nat} (h1 : j < r) (h2 : j < 24) : jMet (d + 1) yX10_trace cX10_trace 2 (some .int) 0 0 [.ref 4, .int (nI j)] (tw X A L) (jRi (A 62 j) (tw X A L)) := by
  refine jMet_of (by decide) (Nat.le_of_ble_eq_true rfl) none (Or.inl rfl) ?_
  show jWP none RX10 cX10_trace 2 (some .int) (d + 1) 0 0 0 [some (.ref 4), some (.int (nI j))] [] (tw X A L) (jRi (A 62 j) (tw X A L))
  refine j_aload_n dX10_trace_0 rfl rfl ?_
  refine t_getR (b := 60) dX10_trace_1 jfl_X10_77 (fun _ _ _ => rfl) rfl ?_
  refine j_iload_n dX10_trace_4 rfl rfl ?_
  refine j_callVi [.int _] [] dX10_trace_5 jlk_X10_294 rfl rfl rfl rfl (Nat.le_of_ble_eq_true rfl) (c_X2_traced hr hr2 h1 h2) ?_
  refine j_ireturn dX10_trace_8 rfl ?_
  exact ⟨rfl, rfl⟩

set_option maxHeartbeats 200000 in
set_option maxRecDepth 100000 in
theorem c_trace_no {r : Nat} (hr : X 60 3 = nI r) (hr2 : r < 2 ^ 30) {c : Int32} (h : isA (min 24 r) c = nI 0) : jMet (d + 1) yX10_trace cX10_trace 2 (some .int) 0 0 [.ref 4, .int c] (tw X A L) (jRi (-1) (tw X A L)) := by
  refine jMet_of (by decide) (Nat.le_of_ble_eq_true rfl) none (Or.inl rfl) ?_
  show jWP none RX10 cX10_trace 2 (some .int) (d + 1) 0 0 0 [some (.ref 4), some (.int c)] [] (tw X A L) (jRi (-1) (tw X A L))
  refine j_aload_n dX10_trace_0 rfl rfl ?_
  refine t_getR (b := 60) dX10_trace_1 jfl_X10_77 (fun _ _ _ => rfl) rfl ?_
  refine j_iload_n dX10_trace_4 rfl rfl ?_
  refine j_callVi [.int _] [] dX10_trace_5 jlk_X10_294 rfl rfl rfl rfl (Nat.le_of_ble_eq_true rfl) (c_X2_traced_no hr hr2 h) ?_
  refine j_ireturn dX10_trace_8 rfl ?_
  exact ⟨rfl, rfl⟩

theorem sh_of {j : Nat} (h : j < 6) : isSh (64 + 2 * j) := by
  unfold isSh
  omega
theorem c_X10_isShelf_in {j : Nat} (h : j < 6) : jMet d yX10_isShelf cX10_isShelf 1 (some .boolean) 0 0 [.int (nI j)] w (jRi (nI 1) w) := jMet_i c_X10_isShelf (isA_in h (by decide)) rfl

set_option maxHeartbeats 200000 in
set_option maxRecDepth 100000 in
theorem c_keep_no (hb : X 60 1 = nI nb) (hb50 : nb ≤ 50) {c b : Int32} (h : isA 6 c = nI 0 ∨ (b ≠ -1 ∧ isA nb b = nI 0)) : jMet (d + 1) yX10_keep cX10_keep 3 (some .int) 0 0 [.ref 4, .int c, .int b] (tw X A L) (jRi (-1) (tw X A L)) := by
  refine jMet_of (by decide) (Nat.le_of_ble_eq_true rfl) none (Or.inl rfl) ?_
  show jWP none RX10 cX10_keep 3 (some .int) (d + 1) 0 0 0 [some (.ref 4), some (.int c), some (.int b)] [] (tw X A L) (jRi (-1) (tw X A L))
  refine j_iload_n dX10_keep_0 rfl rfl ?_
  refine j_callSi [.int _] [] dX10_keep_1 jlk_X10_96 rfl rfl (Nat.le_of_ble_eq_true rfl) (c_X10_isShelf) ?_
  refine j_if_eq (tgt := 23) dX10_keep_4 (by decide) (fun h4 => ?_) (fun h4 => ?_)
  · refine j_iconst (v := (-1)) dX10_keep_23 rfl ?_
    refine j_ireturn dX10_keep_24 rfl ?_
    exact ⟨rfl, rfl⟩
  · refine j_iload_n dX10_keep_7 rfl rfl ?_
    refine j_iconst (v := (-1)) dX10_keep_8 rfl ?_
    refine j_icmp_eq (tgt := 25) dX10_keep_9 (by decide) (fun h9 => ?_) (fun h9 => ?_)
    · exfalso
      rcases h with h | h
      · exact h4 h
      · exact h.1 h9
    · refine j_aload_n dX10_keep_12 rfl rfl ?_
      refine t_getR (b := 60) dX10_keep_13 jfl_X10_77 (fun _ _ _ => rfl) rfl ?_
      refine j_iload_n dX10_keep_16 rfl rfl ?_
      refine j_callVi [.int _] [] dX10_keep_17 jlk_X10_297 rfl rfl rfl rfl (Nat.le_of_ble_eq_true rfl) (c_X2_isBody hb hb50) ?_
      refine j_if_ne (tgt := 25) dX10_keep_20 (by decide) (fun h20 => ?_) (fun h20 => ?_)
      · exfalso
        rcases h with h | h
        · exact h4 h
        · exact h20 h.2
      · refine j_iconst (v := (-1)) dX10_keep_23 rfl ?_
        refine j_ireturn dX10_keep_24 rfl ?_
        exact ⟨rfl, rfl⟩

set_option maxHeartbeats 200000 in
set_option maxRecDepth 100000 in
theorem c_keep_0 {j : Nat} (hj : j < 6) : jMet (d + 1) yX10_keep cX10_keep 3 (some .int) 0 0 [.ref 4, .int (nI j), .int (-1)] (tw X A L) (jRi (nI 1) (tw (va_up X (64 + 2 * j) (upd (X (64 + 2 * j)) 0 (nI 0))) A L)) := by
  refine jMet_of (by decide) (Nat.le_of_ble_eq_true rfl) none (Or.inl rfl) ?_
  show jWP none RX10 cX10_keep 3 (some .int) (d + 1) 0 0 0 [some (.ref 4), some (.int (nI j)), some (.int (-1))] [] (tw X A L) (jRi (nI 1) (tw (va_up X (64 + 2 * j) (upd (X (64 + 2 * j)) 0 (nI 0))) A L))
  refine j_iload_n dX10_keep_0 rfl rfl ?_
  refine j_callSi [.int _] [] dX10_keep_1 jlk_X10_96 rfl rfl (Nat.le_of_ble_eq_true rfl) (c_X10_isShelf_in hj) ?_
  refine j_if_eq (tgt := 23) dX10_keep_4 (by decide) (fun h => absurd h (by decide)) (fun _ => ?_)
  refine j_iload_n dX10_keep_7 rfl rfl ?_
  refine j_iconst (v := (-1)) dX10_keep_8 rfl ?_
  refine j_icmp_eq (tgt := 25) dX10_keep_9 (by decide) (fun _ => ?_) (fun h => absurd (by decide) h)
  refine j_iload_n dX10_keep_25 rfl rfl ?_
  refine j_iconst (v := (-1)) dX10_keep_26 rfl ?_
  refine j_icmp_ne (tgt := 42) dX10_keep_27 (by decide) (fun h => absurd (by decide) h) (fun _ => ?_)
  refine j_aload_n dX10_keep_30 rfl rfl ?_
  refine t_getR (b := 63) dX10_keep_31 jfl_X10_83 (fun _ _ _ => rfl) rfl ?_
  refine j_iload_n dX10_keep_34 rfl rfl ?_
  refine t_aaload dX10_keep_35 (by omega) ?_
  refine j_callVv [] [] dX10_keep_36 jlk_X10_300 rfl rfl ((shS0 (sh_of hj)) _ _ _) rfl (Nat.le_of_ble_eq_true rfl) (c_X8_holdNothing (sh_of hj)) ?_
  refine j_goto (tgt := 52) dX10_keep_39 (by decide) ?_
  refine j_iconst (v := nI 1) dX10_keep_52 rfl ?_
  refine j_ireturn dX10_keep_53 rfl ?_
  exact ⟨rfl, rfl⟩

set_option maxHeartbeats 200000 in
set_option maxRecDepth 100000 in
theorem c_keep {j : Nat} (hj : j < 6) (hb : X 60 1 = nI nb) (hb50 : nb ≤ 50) {b : Nat} (hbn : b < nb) : jMet (d + 1) yX10_keep cX10_keep 3 (some .int) 0 0 [.ref 4, .int (nI j), .int (nI b)] (tw X A L) (jRi (nI 1) (tw (va_up X (64 + 2 * j) (upd (upd (X (64 + 2 * j)) 0 (nI 1)) 1 (nI b))) A L)) := by
  refine jMet_of (by decide) (Nat.le_of_ble_eq_true rfl) none (Or.inl rfl) ?_
  show jWP none RX10 cX10_keep 3 (some .int) (d + 1) 0 0 0 [some (.ref 4), some (.int (nI j)), some (.int (nI b))] [] (tw X A L) (jRi (nI 1) (tw (va_up X (64 + 2 * j) (upd (upd (X (64 + 2 * j)) 0 (nI 1)) 1 (nI b))) A L))
  refine j_iload_n dX10_keep_0 rfl rfl ?_
  refine j_callSi [.int _] [] dX10_keep_1 jlk_X10_96 rfl rfl (Nat.le_of_ble_eq_true rfl) (c_X10_isShelf_in hj) ?_
  refine j_if_eq (tgt := 23) dX10_keep_4 (by decide) (fun h => absurd h (by decide)) (fun _ => ?_)
  refine j_iload_n dX10_keep_7 rfl rfl ?_
  refine j_iconst (v := (-1)) dX10_keep_8 rfl ?_
  refine j_icmp_eq (tgt := 25) dX10_keep_9 (by decide) (fun h9 => absurd h9 (nI_nm1 (by omega))) (fun h9 => ?_)
  refine j_aload_n dX10_keep_12 rfl rfl ?_
  refine t_getR (b := 60) dX10_keep_13 jfl_X10_77 (fun _ _ _ => rfl) rfl ?_
  refine j_iload_n dX10_keep_16 rfl rfl ?_
  refine j_callVi [.int _] [] dX10_keep_17 jlk_X10_297 rfl rfl rfl rfl (Nat.le_of_ble_eq_true rfl) (c_X2_isBody_in hb hb50 hbn) ?_
  refine j_if_ne (tgt := 25) dX10_keep_20 (by decide) (fun _ => ?_) (fun h => absurd h (by decide))
  refine j_iload_n dX10_keep_25 rfl rfl ?_
  refine j_iconst (v := (-1)) dX10_keep_26 rfl ?_
  refine j_icmp_ne (tgt := 42) dX10_keep_27 (by decide) (fun h27 => ?_) (fun h27 => absurd h27 (nI_nm1 (by omega)))
  refine j_aload_n dX10_keep_42 rfl rfl ?_
  refine t_getR (b := 63) dX10_keep_43 jfl_X10_83 (fun _ _ _ => rfl) rfl ?_
  refine j_iload_n dX10_keep_46 rfl rfl ?_
  refine t_aaload dX10_keep_47 (by omega) ?_
  refine j_iload_n dX10_keep_48 rfl rfl ?_
  refine j_callVv [.int _] [] dX10_keep_49 jlk_X10_303 rfl rfl ((shS0 (sh_of hj)) _ _ _) rfl (Nat.le_of_ble_eq_true rfl) (c_X8_holdHive (sh_of hj)) ?_
  refine j_iconst (v := nI 1) dX10_keep_52 rfl ?_
  refine j_ireturn dX10_keep_53 rfl ?_
  exact ⟨rfl, rfl⟩

set_option maxHeartbeats 200000 in
set_option maxRecDepth 100000 in
theorem c_row_no {c s m : Int32} (h : isA 6 c = nI 0 ∨ so04 s = nI 0 ∨ nI 60 < m) : jMet (d + 2) yX10_row cX10_row 4 (some .int) 0 0 [.ref 4, .int c, .int s, .int m] (tw X A L) (jRi (-1) (tw X A L)) := by
  refine jMet_of (by decide) (Nat.le_of_ble_eq_true rfl) none (Or.inl rfl) ?_
  show jWP none RX10 cX10_row 4 (some .int) (d + 2) 0 0 0 [some (.ref 4), some (.int c), some (.int s), some (.int m)] [] (tw X A L) (jRi (-1) (tw X A L))
  refine j_iload_n dX10_row_0 rfl rfl ?_
  refine j_callSi [.int _] [] dX10_row_1 jlk_X10_96 rfl rfl (Nat.le_of_ble_eq_true rfl) (c_X10_isShelf) ?_
  refine j_if_eq (tgt := 20) dX10_row_4 (by decide) (fun h4 => ?_) (fun h4 => ?_)
  · refine j_iconst (v := (-1)) dX10_row_20 rfl ?_
    refine j_ireturn dX10_row_21 rfl ?_
    exact ⟨rfl, rfl⟩
  · refine j_iload_n dX10_row_7 rfl rfl ?_
    refine j_callSi [.int _] [] dX10_row_8 jlk_X10_307 rfl rfl (Nat.le_of_ble_eq_true rfl) (c_X8_isSort) ?_
    refine j_if_eq (tgt := 20) dX10_row_11 (by decide) (fun h11 => ?_) (fun h11 => ?_)
    · refine j_iconst (v := (-1)) dX10_row_20 rfl ?_
      refine j_ireturn dX10_row_21 rfl ?_
      exact ⟨rfl, rfl⟩
    · refine j_iload_n dX10_row_14 rfl rfl ?_
      refine j_bipush (v := nI 60) dX10_row_15 rfl ?_
      refine j_icmp_le (tgt := 22) dX10_row_17 (by decide) (fun h17 => ?_) (fun h17 => ?_)
      · exfalso
        rcases h with h | h | h
        · exact h4 h
        · exact h11 h
        · exact Int32.not_lt.mpr h17 h
      · refine j_iconst (v := (-1)) dX10_row_20 rfl ?_
        refine j_ireturn dX10_row_21 rfl ?_
        exact ⟨rfl, rfl⟩

set_option maxHeartbeats 200000 in
set_option maxRecDepth 100000 in
theorem c_row_neg {j : Nat} (hj : j < 6) {s m : Int32} (hs : so04 s ≠ nI 0) (hm : m < 0) : jMet (d + 2) yX10_row cX10_row 4 (some .int) 0 0 [.ref 4, .int (nI j), .int s, .int m] (tw X A L) (jRi (-14) (tw X A L)) := by
  refine jMet_of (by decide) (Nat.le_of_ble_eq_true rfl) none (Or.inl rfl) ?_
  show jWP none RX10 cX10_row 4 (some .int) (d + 2) 0 0 0 [some (.ref 4), some (.int (nI j)), some (.int s), some (.int m)] [] (tw X A L) (jRi (-14) (tw X A L))
  refine j_iload_n dX10_row_0 rfl rfl ?_
  refine j_callSi [.int _] [] dX10_row_1 jlk_X10_96 rfl rfl (Nat.le_of_ble_eq_true rfl) (c_X10_isShelf_in hj) ?_
  refine j_if_eq (tgt := 20) dX10_row_4 (by decide) (fun h => absurd h (by decide)) (fun _ => ?_)
  refine j_iload_n dX10_row_7 rfl rfl ?_
  refine j_callSi [.int _] [] dX10_row_8 jlk_X10_307 rfl rfl (Nat.le_of_ble_eq_true rfl) (c_X8_isSort) ?_
  refine j_if_eq (tgt := 20) dX10_row_11 (by decide) (fun h11 => absurd h11 hs) (fun h11 => ?_)
  refine j_iload_n dX10_row_14 rfl rfl ?_
  refine j_bipush (v := nI 60) dX10_row_15 rfl ?_
  refine j_icmp_le (tgt := 22) dX10_row_17 (by decide) (fun h17 => ?_) (fun h17 => absurd (Int32.le_of_lt (Int32.lt_trans hm (by decide))) h17)
  refine j_iload_n dX10_row_22 rfl rfl ?_
  refine j_if_ge (tgt := 29) dX10_row_23 (by decide) (fun h23 => absurd hm (Int32.not_lt.mpr h23)) (fun h23 => ?_)
  refine j_bipush (v := (-14)) dX10_row_26 rfl ?_
  refine j_ireturn dX10_row_28 rfl ?_
  exact ⟨rfl, rfl⟩

set_option maxHeartbeats 200000 in
set_option maxRecDepth 100000 in
theorem c_row {j : Nat} (hj : j < 6) (hz : zl 60 (L ((64 + 2 * j) + 1))) {s m : Nat} (hs : s ≤ 4) (hm : m ≤ 60) : jMet (d + 2) yX10_row cX10_row 4 (some .int) 0 0 [.ref 4, .int (nI j), .int (nI s), .int (nI m)] (tw X A L) (jRi (nI 1) (tw (va_up X (64 + 2 * j) (upd (upd (upd (X (64 + 2 * j)) 0 (nI 2)) 2 (nI s)) 3 (nI m))) A (va_up L ((64 + 2 * j) + 1) (fun _ => 0)))) := by
  refine jMet_of (by decide) (Nat.le_of_ble_eq_true rfl) none (Or.inl rfl) ?_
  show jWP none RX10 cX10_row 4 (some .int) (d + 2) 0 0 0 [some (.ref 4), some (.int (nI j)), some (.int (nI s)), some (.int (nI m))] [] (tw X A L) (jRi (nI 1) (tw (va_up X (64 + 2 * j) (upd (upd (upd (X (64 + 2 * j)) 0 (nI 2)) 2 (nI s)) 3 (nI m))) A (va_up L ((64 + 2 * j) + 1) (fun _ => 0))))
  refine j_iload_n dX10_row_0 rfl rfl ?_
  refine j_callSi [.int _] [] dX10_row_1 jlk_X10_96 rfl rfl (Nat.le_of_ble_eq_true rfl) (c_X10_isShelf_in hj) ?_
  refine j_if_eq (tgt := 20) dX10_row_4 (by decide) (fun h => absurd h (by decide)) (fun _ => ?_)
  refine j_iload_n dX10_row_7 rfl rfl ?_
  refine j_callSi [.int _] [] dX10_row_8 jlk_X10_307 rfl rfl (Nat.le_of_ble_eq_true rfl) (jMet_i c_X8_isSort (show so04 (nI s) = nI 1 from by unfold so04; rw [if_neg (nI_pos (by omega)), if_neg (nI_nlt hs (by omega))]) rfl) ?_
  refine j_if_eq (tgt := 20) dX10_row_11 (by decide) (fun h => absurd h (by decide)) (fun _ => ?_)
  refine j_iload_n dX10_row_14 rfl rfl ?_
  refine j_bipush (v := nI 60) dX10_row_15 rfl ?_
  refine jn_icmp_le (tgt := 22) dX10_row_17 (by decide) (by omega) (by omega) (fun h17 => ?_) (fun h17 => absurd h17 (by omega))
  refine j_iload_n dX10_row_22 rfl rfl ?_
  refine jn_if_ge (tgt := 29) dX10_row_23 (by decide) (by omega) ?_
  refine j_aload_n dX10_row_29 rfl rfl ?_
  refine t_getR (b := 63) dX10_row_30 jfl_X10_83 (fun _ _ _ => rfl) rfl ?_
  refine j_iload_n dX10_row_33 rfl rfl ?_
  refine t_aaload dX10_row_34 (by omega) ?_
  refine j_iload_n dX10_row_35 rfl rfl ?_
  refine j_iload_n dX10_row_36 rfl rfl ?_
  refine j_callVv [.int _, .int _] [] dX10_row_37 jlk_X10_310 rfl rfl ((shS0 (sh_of hj)) _ _ _) rfl (Nat.le_of_ble_eq_true rfl) (c_X8_holdRow (sh_of hj) hz) ?_
  refine j_iconst (v := nI 1) dX10_row_40 rfl ?_
  refine j_ireturn dX10_row_41 rfl ?_
  exact ⟨rfl, rfl⟩

set_option maxHeartbeats 200000 in
set_option maxRecDepth 100000 in
theorem c_put_no {c i : Int32} {y : Int64} (h : isA 6 c = nI 0) : jMet (d + 2) yX10_put cX10_put 6 (some .int) 0 0 [.ref 4, .int c, .int i, .long y] (tw X A L) (jRi (-1) (tw X A L)) := by
  refine jMet_of (by decide) (Nat.le_of_ble_eq_true rfl) none (Or.inl rfl) ?_
  show jWP none RX10 cX10_put 6 (some .int) (d + 2) 0 0 0 [some (.ref 4), some (.int c), some (.int i), some (.long y), none, none] [] (tw X A L) (jRi (-1) (tw X A L))
  refine j_iload_n dX10_put_0 rfl rfl ?_
  refine j_callSi [.int _] [] dX10_put_1 jlk_X10_96 rfl rfl (Nat.le_of_ble_eq_true rfl) (c_X10_isShelf) ?_
  refine j_if_ne (tgt := 9) dX10_put_4 (by decide) (fun h4 => absurd h h4) (fun h4 => ?_)
  refine j_iconst (v := (-1)) dX10_put_7 rfl ?_
  refine j_ireturn dX10_put_8 rfl ?_
  exact ⟨rfl, rfl⟩

set_option maxHeartbeats 200000 in
set_option maxRecDepth 100000 in
theorem c_put_f {j : Nat} (hj : j < 6) {h so ln : Nat} (hh : X (64 + 2 * j) 0 = nI h) (h2 : h ≤ 2) (hso : X (64 + 2 * j) 2 = nI so) (so4 : so ≤ 4) (hln : X (64 + 2 * j) 3 = nI ln) (l60 : ln ≤ 60) {i : Int32} {y : Int64} (hf : pfI h ln i ≠ 0) : jMet (d + 2) yX10_put cX10_put 6 (some .int) 0 0 [.ref 4, .int (nI j), .int i, .long y] (tw X A L) (jRi (pfI h ln i) (tw X A L)) := by
  refine jMet_of (by decide) (Nat.le_of_ble_eq_true rfl) none (Or.inl rfl) ?_
  show jWP none RX10 cX10_put 6 (some .int) (d + 2) 0 0 0 [some (.ref 4), some (.int (nI j)), some (.int i), some (.long y), none, none] [] (tw X A L) (jRi (pfI h ln i) (tw X A L))
  refine j_iload_n dX10_put_0 rfl rfl ?_
  refine j_callSi [.int _] [] dX10_put_1 jlk_X10_96 rfl rfl (Nat.le_of_ble_eq_true rfl) (c_X10_isShelf_in hj) ?_
  refine j_if_ne (tgt := 9) dX10_put_4 (by decide) (fun _ => ?_) (fun h => absurd h (by decide))
  refine j_aload_n dX10_put_9 rfl rfl ?_
  refine t_getR (b := 63) dX10_put_10 jfl_X10_83 (fun _ _ _ => rfl) rfl ?_
  refine j_iload_n dX10_put_13 rfl rfl ?_
  refine t_aaload dX10_put_14 (by omega) ?_
  refine j_iload_n dX10_put_15 rfl rfl ?_
  refine j_callVi [.int _] [] dX10_put_16 jlk_X10_314 rfl rfl ((shS0 (sh_of hj)) _ _ _) rfl (Nat.le_of_ble_eq_true rfl) (c_X8_placeFault (sh_of hj) hh h2 hln l60) ?_
  refine j_istore (lv' := [some (.ref 4), some (.int _), some (.int _), some (.long _), none, some (.int _)]) dX10_put_19 (by decide) rfl ?_
  refine j_iload dX10_put_21 rfl ?_
  refine j_if_eq (tgt := 29) dX10_put_23 (by decide) (fun h23 => absurd h23 hf) (fun h23 => ?_)
  refine j_iload dX10_put_26 rfl ?_
  refine j_ireturn dX10_put_28 rfl ?_
  exact ⟨rfl, rfl⟩

set_option maxHeartbeats 200000 in
set_option maxRecDepth 100000 in
theorem c_put {j : Nat} (hj : j < 6) {so ln : Nat} (hh : X (64 + 2 * j) 0 = nI 2) (hso : X (64 + 2 * j) 2 = nI so) (so4 : so ≤ 4) (hln : X (64 + 2 * j) 3 = nI ln) (l60 : ln ≤ 60) {i : Nat} (hi : i < ln) {y : Int64} : jMet (d + 2) yX10_put cX10_put 6 (some .int) 0 0 [.ref 4, .int (nI j), .int (nI i), .long y] (tw X A L) (jRi (nI 1) (tw X A (va_up L ((64 + 2 * j) + 1) (vp_updL (L ((64 + 2 * j) + 1)) i (lbJ so y))))) := by
  refine jMet_of (by decide) (Nat.le_of_ble_eq_true rfl) none (Or.inl rfl) ?_
  show jWP none RX10 cX10_put 6 (some .int) (d + 2) 0 0 0 [some (.ref 4), some (.int (nI j)), some (.int (nI i)), some (.long y), none, none] [] (tw X A L) (jRi (nI 1) (tw X A (va_up L ((64 + 2 * j) + 1) (vp_updL (L ((64 + 2 * j) + 1)) i (lbJ so y)))))
  refine j_iload_n dX10_put_0 rfl rfl ?_
  refine j_callSi [.int _] [] dX10_put_1 jlk_X10_96 rfl rfl (Nat.le_of_ble_eq_true rfl) (c_X10_isShelf_in hj) ?_
  refine j_if_ne (tgt := 9) dX10_put_4 (by decide) (fun _ => ?_) (fun h => absurd h (by decide))
  refine j_aload_n dX10_put_9 rfl rfl ?_
  refine t_getR (b := 63) dX10_put_10 jfl_X10_83 (fun _ _ _ => rfl) rfl ?_
  refine j_iload_n dX10_put_13 rfl rfl ?_
  refine t_aaload dX10_put_14 (by omega) ?_
  refine j_iload_n dX10_put_15 rfl rfl ?_
  refine j_callVi [.int _] [] dX10_put_16 jlk_X10_314 rfl rfl ((shS0 (sh_of hj)) _ _ _) rfl (Nat.le_of_ble_eq_true rfl) (jMet_i (c_X8_placeFault (sh_of hj) hh (by decide) hln l60) (show pfI 2 ln (nI i) = nI 0 from by unfold pfI; rw [if_neg (by decide), if_pos rfl, isA_in hi (by omega)]; rfl) rfl) ?_
  refine j_istore (lv' := [some (.ref 4), some (.int _), some (.int _), some (.long _), none, some (.int _)]) dX10_put_19 (by decide) rfl ?_
  refine j_iload dX10_put_21 rfl ?_
  refine j_if_eq (tgt := 29) dX10_put_23 (by decide) (fun _ => ?_) (fun h => absurd (by decide) h)
  refine j_aload_n dX10_put_29 rfl rfl ?_
  refine t_getR (b := 63) dX10_put_30 jfl_X10_83 (fun _ _ _ => rfl) rfl ?_
  refine j_iload_n dX10_put_33 rfl rfl ?_
  refine t_aaload dX10_put_34 (by omega) ?_
  refine j_iload_n dX10_put_35 rfl rfl ?_
  refine j_lload_n dX10_put_36 rfl rfl ?_
  refine j_callVv [.int _, .long _] [] dX10_put_37 jlk_X10_317 rfl rfl ((shS0 (sh_of hj)) _ _ _) rfl (Nat.le_of_ble_eq_true rfl) (c_X8_putIn (sh_of hj) hh hso so4 hln l60 hi) ?_
  refine j_iconst (v := nI 1) dX10_put_40 rfl ?_
  refine j_ireturn dX10_put_41 rfl ?_
  exact ⟨rfl, rfl⟩

set_option maxHeartbeats 200000 in
set_option maxRecDepth 100000 in
theorem c_element_no {c i : Int32} (h : isA 6 c = nI 0) : jMet (d + 2) yX10_element cX10_element 3 (some .long) 0 0 [.ref 4, .int c, .int i] (tw X A L) (jRl (-9223372036854775808) (tw X A L)) := by
  refine jMet_of (by decide) (Nat.le_of_ble_eq_true rfl) none (Or.inl rfl) ?_
  show jWP none RX10 cX10_element 3 (some .long) (d + 2) 0 0 0 [some (.ref 4), some (.int c), some (.int i)] [] (tw X A L) (jRl (-9223372036854775808) (tw X A L))
  refine j_iload_n dX10_element_0 rfl rfl ?_
  refine j_callSi [.int _] [] dX10_element_1 jlk_X10_96 rfl rfl (Nat.le_of_ble_eq_true rfl) (c_X10_isShelf) ?_
  refine j_if_eq (tgt := 33) dX10_element_4 (by decide) (fun h4 => ?_) (fun h4 => absurd h h4)
  refine j_ldc2 dX10_element_33 jw_k_X10_216 ?_
  refine j_lreturn dX10_element_36 rfl ?_
  exact ⟨rfl, rfl⟩

set_option maxHeartbeats 200000 in
set_option maxRecDepth 100000 in
theorem c_element_f {j : Nat} (hj : j < 6) {h so ln : Nat} (hh : X (64 + 2 * j) 0 = nI h) (h2 : h ≤ 2) (hso : X (64 + 2 * j) 2 = nI so) (so4 : so ≤ 4) (hln : X (64 + 2 * j) 3 = nI ln) (l60 : ln ≤ 60) {i : Int32} (hf : pfI h ln i ≠ 0) : jMet (d + 2) yX10_element cX10_element 3 (some .long) 0 0 [.ref 4, .int (nI j), .int i] (tw X A L) (jRl (-9223372036854775808) (tw X A L)) := by
  refine jMet_of (by decide) (Nat.le_of_ble_eq_true rfl) none (Or.inl rfl) ?_
  show jWP none RX10 cX10_element 3 (some .long) (d + 2) 0 0 0 [some (.ref 4), some (.int (nI j)), some (.int i)] [] (tw X A L) (jRl (-9223372036854775808) (tw X A L))
  refine j_iload_n dX10_element_0 rfl rfl ?_
  refine j_callSi [.int _] [] dX10_element_1 jlk_X10_96 rfl rfl (Nat.le_of_ble_eq_true rfl) (c_X10_isShelf_in hj) ?_
  refine j_if_eq (tgt := 33) dX10_element_4 (by decide) (fun h => absurd h (by decide)) (fun _ => ?_)
  refine j_aload_n dX10_element_7 rfl rfl ?_
  refine t_getR (b := 63) dX10_element_8 jfl_X10_83 (fun _ _ _ => rfl) rfl ?_
  refine j_iload_n dX10_element_11 rfl rfl ?_
  refine t_aaload dX10_element_12 (by omega) ?_
  refine j_iload_n dX10_element_13 rfl rfl ?_
  refine j_callVi [.int _] [] dX10_element_14 jlk_X10_314 rfl rfl ((shS0 (sh_of hj)) _ _ _) rfl (Nat.le_of_ble_eq_true rfl) (c_X8_placeFault (sh_of hj) hh h2 hln l60) ?_
  refine j_if_ne (tgt := 33) dX10_element_17 (by decide) (fun h17 => ?_) (fun h17 => absurd (by first | exact h17 | simpa using h17) hf)
  refine j_ldc2 dX10_element_33 jw_k_X10_216 ?_
  refine j_lreturn dX10_element_36 rfl ?_
  exact ⟨rfl, rfl⟩

set_option maxHeartbeats 200000 in
set_option maxRecDepth 100000 in
theorem c_element {j : Nat} (hj : j < 6) {so ln : Nat} (hh : X (64 + 2 * j) 0 = nI 2) (hso : X (64 + 2 * j) 2 = nI so) (so4 : so ≤ 4) (hln : X (64 + 2 * j) 3 = nI ln) (l60 : ln ≤ 60) {i : Nat} (hi : i < ln) : jMet (d + 2) yX10_element cX10_element 3 (some .long) 0 0 [.ref 4, .int (nI j), .int (nI i)] (tw X A L) (jRl (L ((64 + 2 * j) + 1) i) (tw X A L)) := by
  refine jMet_of (by decide) (Nat.le_of_ble_eq_true rfl) none (Or.inl rfl) ?_
  show jWP none RX10 cX10_element 3 (some .long) (d + 2) 0 0 0 [some (.ref 4), some (.int (nI j)), some (.int (nI i))] [] (tw X A L) (jRl (L ((64 + 2 * j) + 1) i) (tw X A L))
  refine j_iload_n dX10_element_0 rfl rfl ?_
  refine j_callSi [.int _] [] dX10_element_1 jlk_X10_96 rfl rfl (Nat.le_of_ble_eq_true rfl) (c_X10_isShelf_in hj) ?_
  refine j_if_eq (tgt := 33) dX10_element_4 (by decide) (fun h => absurd h (by decide)) (fun _ => ?_)
  refine j_aload_n dX10_element_7 rfl rfl ?_
  refine t_getR (b := 63) dX10_element_8 jfl_X10_83 (fun _ _ _ => rfl) rfl ?_
  refine j_iload_n dX10_element_11 rfl rfl ?_
  refine t_aaload dX10_element_12 (by omega) ?_
  refine j_iload_n dX10_element_13 rfl rfl ?_
  refine j_callVi [.int _] [] dX10_element_14 jlk_X10_314 rfl rfl ((shS0 (sh_of hj)) _ _ _) rfl (Nat.le_of_ble_eq_true rfl) (jMet_i (c_X8_placeFault (sh_of hj) hh (by decide) hln l60) (show pfI 2 ln (nI i) = nI 0 from by unfold pfI; rw [if_neg (by decide), if_pos rfl, isA_in hi (by omega)]; rfl) rfl) ?_
  refine j_if_ne (tgt := 33) dX10_element_17 (by decide) (fun h => absurd (by decide) h) (fun _ => ?_)
  refine j_aload_n dX10_element_20 rfl rfl ?_
  refine t_getR (b := 63) dX10_element_21 jfl_X10_83 (fun _ _ _ => rfl) rfl ?_
  refine j_iload_n dX10_element_24 rfl rfl ?_
  refine t_aaload dX10_element_25 (by omega) ?_
  refine j_iload_n dX10_element_26 rfl rfl ?_
  refine j_callVl [.int _] [] dX10_element_27 jlk_X10_321 rfl rfl ((shS0 (sh_of hj)) _ _ _) rfl (Nat.le_of_ble_eq_true rfl) (c_X8_elementAt (sh_of hj) hh hln l60 hi) ?_
  refine j_goto (tgt := 36) dX10_element_30 (by decide) ?_
  refine j_lreturn dX10_element_36 rfl ?_
  exact ⟨rfl, rfl⟩

set_option maxHeartbeats 200000 in
set_option maxRecDepth 100000 in
theorem c_X2_isUnder {a t : Nat} (ha : a < 8) (ht : t < 8) : jMet (d + 1) yX2_isUnder cX2_isUnder 4 (some .boolean) 0 0 [.int (nI a), .int (nI t)] (w) (jRi (bz (undB (some a) t)) w) := by
  refine jMet_of (by decide) (Nat.le_of_ble_eq_true rfl) none (Or.inl rfl) ?_
  show jWP none RX2 cX2_isUnder 4 (some .boolean) (d + 1) 0 0 0 [some (.int (nI a)), some (.int (nI t)), none, none] [] (w) (jRi (bz (undB (some a) t)) w)
  refine j_iload_n dX2_isUnder_0 rfl rfl ?_
  refine j_istore_n (lv' := [some (.int _), some (.int _), some (.int _), none]) dX2_isUnder_1 rfl (by decide) rfl ?_
  refine j_iconst (v := nI 0) dX2_isUnder_2 rfl ?_
  refine j_istore_n (lv' := [some (.int _), some (.int _), some (.int _), some (.int _)]) dX2_isUnder_3 rfl (by decide) rfl ?_
  exact l_X2_isUnder ht 10 (some a) 0 (by decide) (fun b hb => by cases hb; have := (kact_ok ha (show 0 < 4 by decide)).2.1; exact ⟨ha, by omega⟩) rfl (by decide)

set_option maxHeartbeats 200000 in
set_option maxRecDepth 100000 in
theorem c_X2_isUnder_no {c t : Int32} (h : isA 8 c = nI 0) : jMet (d + 1) yX2_isUnder cX2_isUnder 4 (some .boolean) 0 0 [.int c, .int t] (w) (jRi (nI 0) w) := by
  refine jMet_of (by decide) (Nat.le_of_ble_eq_true rfl) none (Or.inl rfl) ?_
  show jWP none RX2 cX2_isUnder 4 (some .boolean) (d + 1) 0 0 0 [some (.int c), some (.int t), none, none] [] (w) (jRi (nI 0) w)
  refine j_iload_n dX2_isUnder_0 rfl rfl ?_
  refine j_istore_n (lv' := [some (.int _), some (.int _), some (.int _), none]) dX2_isUnder_1 rfl (by decide) rfl ?_
  refine j_iconst (v := nI 0) dX2_isUnder_2 rfl ?_
  refine j_istore_n (lv' := [some (.int _), some (.int _), some (.int _), some (.int _)]) dX2_isUnder_3 rfl (by decide) rfl ?_
  refine j_iload_n dX2_isUnder_4 rfl rfl ?_
  refine j_bipush (v := nI 8) dX2_isUnder_5 rfl ?_
  refine j_icmp_ge (tgt := 36) dX2_isUnder_7 (by decide) (fun h => absurd h (by decide)) (fun _ => ?_)
  refine j_iload_n dX2_isUnder_10 rfl rfl ?_
  refine j_callSi [.int _] [] dX2_isUnder_11 jlk_X2_32 rfl rfl (Nat.le_of_ble_eq_true rfl) (c_X2_isKind) ?_
  refine j_if_eq (tgt := 36) dX2_isUnder_14 (by decide) (fun h14 => ?_) (fun h14 => absurd h h14)
  refine j_iconst (v := nI 0) dX2_isUnder_36 rfl ?_
  refine j_zreturn dX2_isUnder_37 rfl (by decide) ?_
  exact ⟨rfl, rfl⟩

set_option maxHeartbeats 200000 in
set_option maxRecDepth 100000 in
theorem c_taken_no {c k : Int32} (h : isA 6 c = nI 0 ∨ isA 8 k = nI 0) : jMet (d + 2) yX10_taken cX10_taken 4 (some .int) 0 0 [.ref 4, .int c, .int k] (tw X A L) (jRi (-1) (tw X A L)) := by
  refine jMet_of (by decide) (Nat.le_of_ble_eq_true rfl) none (Or.inl rfl) ?_
  show jWP none RX10 cX10_taken 4 (some .int) (d + 2) 0 0 0 [some (.ref 4), some (.int c), some (.int k), none] [] (tw X A L) (jRi (-1) (tw X A L))
  refine j_iload_n dX10_taken_0 rfl rfl ?_
  refine j_callSi [.int _] [] dX10_taken_1 jlk_X10_96 rfl rfl (Nat.le_of_ble_eq_true rfl) (c_X10_isShelf) ?_
  refine j_if_eq (tgt := 14) dX10_taken_4 (by decide) (fun h4 => ?_) (fun h4 => ?_)
  · refine j_iconst (v := (-1)) dX10_taken_14 rfl ?_
    refine j_ireturn dX10_taken_15 rfl ?_
    exact ⟨rfl, rfl⟩
  · refine j_iload_n dX10_taken_7 rfl rfl ?_
    refine j_callSi [.int _] [] dX10_taken_8 jlk_X10_285 rfl rfl (Nat.le_of_ble_eq_true rfl) (c_X2_isKind) ?_
    refine j_if_ne (tgt := 16) dX10_taken_11 (by decide) (fun h11 => ?_) (fun h11 => ?_)
    · exact absurd h (fun q => q.elim h4 h11)
    · refine j_iconst (v := (-1)) dX10_taken_14 rfl ?_
      refine j_ireturn dX10_taken_15 rfl ?_
      exact ⟨rfl, rfl⟩

set_option maxHeartbeats 200000 in
set_option maxRecDepth 100000 in
theorem c_taken_0 {j : Nat} (hj : j < 6) (hh : X (64 + 2 * j) 0 = nI 0) {k : Nat} (hk8 : k < 8) : jMet (d + 2) yX10_taken cX10_taken 4 (some .int) 0 0 [.ref 4, .int (nI j), .int (nI k)] (tw X A L) (jRi (-11) (tw X A L)) := by
  refine jMet_of (by decide) (Nat.le_of_ble_eq_true rfl) none (Or.inl rfl) ?_
  show jWP none RX10 cX10_taken 4 (some .int) (d + 2) 0 0 0 [some (.ref 4), some (.int (nI j)), some (.int (nI k)), none] [] (tw X A L) (jRi (-11) (tw X A L))
  refine j_iload_n dX10_taken_0 rfl rfl ?_
  refine j_callSi [.int _] [] dX10_taken_1 jlk_X10_96 rfl rfl (Nat.le_of_ble_eq_true rfl) (c_X10_isShelf_in hj) ?_
  refine j_if_eq (tgt := 14) dX10_taken_4 (by decide) (fun h => absurd h (by decide)) (fun _ => ?_)
  refine j_iload_n dX10_taken_7 rfl rfl ?_
  refine j_callSi [.int _] [] dX10_taken_8 jlk_X10_285 rfl rfl (Nat.le_of_ble_eq_true rfl) (c_X2_isKind_in hk8) ?_
  refine j_if_ne (tgt := 16) dX10_taken_11 (by decide) (fun _ => ?_) (fun h => absurd h (by decide))
  refine j_aload_n dX10_taken_16 rfl rfl ?_
  refine t_getR (b := 63) dX10_taken_17 jfl_X10_83 (fun _ _ _ => rfl) rfl ?_
  refine j_iload_n dX10_taken_20 rfl rfl ?_
  refine t_aaload dX10_taken_21 (by omega) ?_
  refine j_callVi [] [] dX10_taken_22 jlk_X10_99 rfl rfl ((shS0 (sh_of hj)) _ _ _) rfl (Nat.le_of_ble_eq_true rfl) (c_X8_holdsNothing (h := 0) (sh_of hj) hh (by decide)) ?_
  refine j_if_eq (tgt := 31) dX10_taken_25 (by decide) (fun h => absurd h (by decide)) (fun _ => ?_)
  refine j_bipush (v := (-11)) dX10_taken_28 rfl ?_
  refine j_ireturn dX10_taken_30 rfl ?_
  exact ⟨rfl, rfl⟩

set_option maxHeartbeats 200000 in
set_option maxRecDepth 100000 in
theorem c_taken_2 {j : Nat} (hj : j < 6) (hh : X (64 + 2 * j) 0 = nI 2) (hb : X 60 1 = nI nb) (hb50 : nb ≤ 50) {k : Nat} (hk8 : k < 8) : jMet (d + 2) yX10_taken cX10_taken 4 (some .int) 0 0 [.ref 4, .int (nI j), .int (nI k)] (tw X A L) (jRi (-12) (tw X A L)) := by
  refine jMet_of (by decide) (Nat.le_of_ble_eq_true rfl) none (Or.inl rfl) ?_
  show jWP none RX10 cX10_taken 4 (some .int) (d + 2) 0 0 0 [some (.ref 4), some (.int (nI j)), some (.int (nI k)), none] [] (tw X A L) (jRi (-12) (tw X A L))
  refine j_iload_n dX10_taken_0 rfl rfl ?_
  refine j_callSi [.int _] [] dX10_taken_1 jlk_X10_96 rfl rfl (Nat.le_of_ble_eq_true rfl) (c_X10_isShelf_in hj) ?_
  refine j_if_eq (tgt := 14) dX10_taken_4 (by decide) (fun h => absurd h (by decide)) (fun _ => ?_)
  refine j_iload_n dX10_taken_7 rfl rfl ?_
  refine j_callSi [.int _] [] dX10_taken_8 jlk_X10_285 rfl rfl (Nat.le_of_ble_eq_true rfl) (c_X2_isKind_in hk8) ?_
  refine j_if_ne (tgt := 16) dX10_taken_11 (by decide) (fun _ => ?_) (fun h => absurd h (by decide))
  refine j_aload_n dX10_taken_16 rfl rfl ?_
  refine t_getR (b := 63) dX10_taken_17 jfl_X10_83 (fun _ _ _ => rfl) rfl ?_
  refine j_iload_n dX10_taken_20 rfl rfl ?_
  refine t_aaload dX10_taken_21 (by omega) ?_
  refine j_callVi [] [] dX10_taken_22 jlk_X10_99 rfl rfl ((shS0 (sh_of hj)) _ _ _) rfl (Nat.le_of_ble_eq_true rfl) (c_X8_holdsNothing (h := 2) (sh_of hj) hh (by decide)) ?_
  refine j_if_eq (tgt := 31) dX10_taken_25 (by decide) (fun _ => ?_) (fun h => absurd (by decide) h)
  refine j_aload_n dX10_taken_31 rfl rfl ?_
  refine t_getR (b := 60) dX10_taken_32 jfl_X10_77 (fun _ _ _ => rfl) rfl ?_
  refine j_aload_n dX10_taken_35 rfl rfl ?_
  refine t_getR (b := 63) dX10_taken_36 jfl_X10_83 (fun _ _ _ => rfl) rfl ?_
  refine j_iload_n dX10_taken_39 rfl rfl ?_
  refine t_aaload dX10_taken_40 (by omega) ?_
  refine j_callVi [] [.ref 60] dX10_taken_41 jlk_X10_336 rfl rfl ((shS0 (sh_of hj)) _ _ _) rfl (Nat.le_of_ble_eq_true rfl) (c_X8_hive (h := 2) (sh_of hj) hh (by decide)) ?_
  refine j_callVi [.int _] [] dX10_taken_44 jlk_X10_339 rfl rfl rfl rfl (Nat.le_of_ble_eq_true rfl) (c_X2_kindOf_no hb hb50 (show isA nb (-2) = nI 0 from if_pos (by decide))) ?_
  refine j_istore_n (lv' := [some (.ref 4), some (.int _), some (.int _), some (.int _)]) dX10_taken_47 rfl (by decide) rfl ?_
  refine j_iload_n dX10_taken_48 rfl rfl ?_
  refine j_iload_n dX10_taken_49 rfl rfl ?_
  refine j_callSi [.int _, .int _] [] dX10_taken_50 jlk_X10_342 rfl rfl (Nat.le_of_ble_eq_true rfl) (c_X2_isUnder_no (by decide)) ?_
  refine j_if_eq (tgt := 60) dX10_taken_53 (by decide) (fun _ => ?_) (fun h => absurd (by decide) h)
  refine j_bipush (v := (-12)) dX10_taken_60 rfl ?_
  refine j_ireturn dX10_taken_62 rfl ?_
  exact ⟨rfl, rfl⟩

set_option maxHeartbeats 200000 in
set_option maxRecDepth 100000 in
theorem c_taken_1 {j : Nat} (hj : j < 6) (hh : X (64 + 2 * j) 0 = nI 1) (hb : X 60 1 = nI nb) (hb50 : nb ≤ 50) (hk : A 61 = nIf kd) {b : Nat} (hv : X (64 + 2 * j) 1 = nI b) (hbn : b < nb) (hkd8 : kd b < 8) {k : Nat} (hk8 : k < 8) : jMet (d + 2) yX10_taken cX10_taken 4 (some .int) 0 0 [.ref 4, .int (nI j), .int (nI k)] (tw X A L) (jRi (if undB (some (kd b)) k = true then nI (kd b) else (-12)) (tw X A L)) := by
  refine jMet_of (by decide) (Nat.le_of_ble_eq_true rfl) none (Or.inl rfl) ?_
  show jWP none RX10 cX10_taken 4 (some .int) (d + 2) 0 0 0 [some (.ref 4), some (.int (nI j)), some (.int (nI k)), none] [] (tw X A L) (jRi (if undB (some (kd b)) k = true then nI (kd b) else (-12)) (tw X A L))
  refine j_iload_n dX10_taken_0 rfl rfl ?_
  refine j_callSi [.int _] [] dX10_taken_1 jlk_X10_96 rfl rfl (Nat.le_of_ble_eq_true rfl) (c_X10_isShelf_in hj) ?_
  refine j_if_eq (tgt := 14) dX10_taken_4 (by decide) (fun h => absurd h (by decide)) (fun _ => ?_)
  refine j_iload_n dX10_taken_7 rfl rfl ?_
  refine j_callSi [.int _] [] dX10_taken_8 jlk_X10_285 rfl rfl (Nat.le_of_ble_eq_true rfl) (c_X2_isKind_in hk8) ?_
  refine j_if_ne (tgt := 16) dX10_taken_11 (by decide) (fun _ => ?_) (fun h => absurd h (by decide))
  refine j_aload_n dX10_taken_16 rfl rfl ?_
  refine t_getR (b := 63) dX10_taken_17 jfl_X10_83 (fun _ _ _ => rfl) rfl ?_
  refine j_iload_n dX10_taken_20 rfl rfl ?_
  refine t_aaload dX10_taken_21 (by omega) ?_
  refine j_callVi [] [] dX10_taken_22 jlk_X10_99 rfl rfl ((shS0 (sh_of hj)) _ _ _) rfl (Nat.le_of_ble_eq_true rfl) (c_X8_holdsNothing (h := 1) (sh_of hj) hh (by decide)) ?_
  refine j_if_eq (tgt := 31) dX10_taken_25 (by decide) (fun _ => ?_) (fun h => absurd (by decide) h)
  refine j_aload_n dX10_taken_31 rfl rfl ?_
  refine t_getR (b := 60) dX10_taken_32 jfl_X10_77 (fun _ _ _ => rfl) rfl ?_
  refine j_aload_n dX10_taken_35 rfl rfl ?_
  refine t_getR (b := 63) dX10_taken_36 jfl_X10_83 (fun _ _ _ => rfl) rfl ?_
  refine j_iload_n dX10_taken_39 rfl rfl ?_
  refine t_aaload dX10_taken_40 (by omega) ?_
  refine j_callVi [] [.ref 60] dX10_taken_41 jlk_X10_336 rfl rfl ((shS0 (sh_of hj)) _ _ _) rfl (Nat.le_of_ble_eq_true rfl) (c_X8_hive (h := 1) (sh_of hj) hh (by decide)) ?_
  refine j_topE (e' := nI b) hv ?_
  refine j_callVi [.int _] [] dX10_taken_44 jlk_X10_339 rfl rfl rfl rfl (Nat.le_of_ble_eq_true rfl) (c_X2_kindOf hb hb50 hk hbn) ?_
  refine j_istore_n (lv' := [some (.ref 4), some (.int _), some (.int _), some (.int _)]) dX10_taken_47 rfl (by decide) rfl ?_
  refine j_iload_n dX10_taken_48 rfl rfl ?_
  refine j_iload_n dX10_taken_49 rfl rfl ?_
  refine j_callSi [.int _, .int _] [] dX10_taken_50 jlk_X10_342 rfl rfl (Nat.le_of_ble_eq_true rfl) (c_X2_isUnder hkd8 hk8) ?_
  refine j_if_eq (tgt := 60) dX10_taken_53 (by decide) (fun h53 => ?_) (fun h53 => ?_)
  · refine j_bipush (v := (-12)) dX10_taken_60 rfl ?_
    refine j_ireturn dX10_taken_62 rfl ?_
    exact ⟨by rw [if_neg (by rw [bz_f h53]; decide)], rfl⟩
  · refine j_iload_n dX10_taken_56 rfl rfl ?_
    refine j_goto (tgt := 62) dX10_taken_57 (by decide) ?_
    refine j_ireturn dX10_taken_62 rfl ?_
    exact ⟨by rw [if_pos (bz_t h53)], rfl⟩

end CT22