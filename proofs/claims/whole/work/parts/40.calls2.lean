section CT21
variable {d : Nat} {X A : Nat → Nat → Int32} {L : Nat → Nat → Int64} {w : jW} {B : Nat} {cd vl st an en : Nat → Nat} {n na : Nat} {v : Nat → Nat}
theorem bec_47 {X A : Nat → Nat → Int32} (hc : cok X A 43) : cok (cX X 47 (A 44)) (cA A 47 (A 44) (A 45)) 47 := cok_c hc.1 hc.2.1
theorem c_X10_isSale_b (hr : rul B cd vl st an en n na v X A) {k : Nat} (hk : k < 2 ^ 31) {b : Bool} (h : slA na (nI (k / 10)) (nI (k % 10)) = b) : jMet (d + 1) yX10_isSale cX10_isSale 2 (some .boolean) 0 0 [.ref 4, .int (nI k)] (tw X A L) (jRi (bz b) (tw X A L)) := h ▸ c_X10_isSale hr hk

theorem slA_k {na k : Nat} (hn : na ≤ 6) (hk : k < 2 ^ 31) (h : slA na (nI (k / 10)) (nI (k % 10)) = true) : k / 10 < na := by
  obtain ⟨j, hj, e⟩ := slA_acc hn h
  rw [(nI_eq (by omega) (by omega)).mp e]
  exact hj

set_option maxHeartbeats 200000 in
set_option maxRecDepth 100000 in
theorem c_where_neg {c : Int32} (h : c < 0) : jMet (d + 4) yX10_where cX10_where 2 (some .int) 0 0 [.ref 4, .int c] (tw X A L) (jRi (-1) (tw X A L)) := by
  refine jMet_of (by decide) (Nat.le_of_ble_eq_true rfl) none (Or.inl rfl) ?_
  show jWP none RX10 cX10_where 2 (some .int) (d + 4) 0 0 0 [some (.ref 4), some (.int c)] [] (tw X A L) (jRi (-1) (tw X A L))
  refine j_aload_n dX10_where_0 rfl rfl ?_
  refine j_iload_n dX10_where_1 rfl rfl ?_
  refine j_callVi [.int _] [] dX10_where_2 jlk_X10_164 rfl rfl rfl rfl (Nat.le_of_ble_eq_true rfl) (c_X10_isSale_neg h) ?_
  refine j_if_eq (tgt := 30) dX10_where_5 (by decide) (fun _ => ?_) (fun h => absurd (by decide) h)
  refine j_iconst (v := (-1)) dX10_where_30 rfl ?_
  refine j_ireturn dX10_where_31 rfl ?_
  exact ⟨rfl, rfl⟩

set_option maxHeartbeats 200000 in
set_option maxRecDepth 100000 in
theorem c_where_no (hr : rul B cd vl st an en n na v X A) {k : Nat} (hk : k < 2 ^ 31) (h : (slA na (nI (k / 10)) (nI (k % 10))) = false) : jMet (d + 4) yX10_where cX10_where 2 (some .int) 0 0 [.ref 4, .int (nI k)] (tw X A L) (jRi (-1) (tw X A L)) := by
  refine jMet_of (by decide) (Nat.le_of_ble_eq_true rfl) none (Or.inl rfl) ?_
  show jWP none RX10 cX10_where 2 (some .int) (d + 4) 0 0 0 [some (.ref 4), some (.int (nI k))] [] (tw X A L) (jRi (-1) (tw X A L))
  refine j_aload_n dX10_where_0 rfl rfl ?_
  refine j_iload_n dX10_where_1 rfl rfl ?_
  refine j_callVi [.int _] [] dX10_where_2 jlk_X10_164 rfl rfl rfl rfl (Nat.le_of_ble_eq_true rfl) (c_X10_isSale_b hr hk h) ?_
  refine j_if_eq (tgt := 30) dX10_where_5 (by decide) (fun _ => ?_) (fun h => absurd (by decide) h)
  refine j_iconst (v := (-1)) dX10_where_30 rfl ?_
  refine j_ireturn dX10_where_31 rfl ?_
  exact ⟨rfl, rfl⟩

set_option maxHeartbeats 200000 in
set_option maxRecDepth 100000 in
theorem c_where (hr : rul B cd vl st an en n na v X A) (hc : cok X A 43) {k : Nat} (hk : k < 2 ^ 31) (h : (slA na (nI (k / 10)) (nI (k % 10))) = true) : jMet (d + 4) yX10_where cX10_where 2 (some .int) 0 0 [.ref 4, .int (nI k)] (tw X A L) ((fun z w => z = some (.int (plP (seP (RkC cd vl st an en n v) (A 44, A 45) (nI (k / 10)) (nI (k % 10))))) ∧ ∃ f g, w = tw X (scr A B f g) L)) := by
  refine jMet_of (by decide) (Nat.le_of_ble_eq_true rfl) none (Or.inl rfl) ?_
  show jWP none RX10 cX10_where 2 (some .int) (d + 4) 0 0 0 [some (.ref 4), some (.int (nI k))] [] (tw X A L) ((fun z w => z = some (.int (plP (seP (RkC cd vl st an en n v) (A 44, A 45) (nI (k / 10)) (nI (k % 10))))) ∧ ∃ f g, w = tw X (scr A B f g) L))
  obtain ⟨hB, r2, r3, r4, r5, r6, r7, r8, r9, r10, r11, r12, r13⟩ := id hr
  have hj := slA_k r11 hk h
  refine j_aload_n dX10_where_0 rfl rfl ?_
  refine j_iload_n dX10_where_1 rfl rfl ?_
  refine j_callVi [.int _] [] dX10_where_2 jlk_X10_164 rfl rfl rfl rfl (Nat.le_of_ble_eq_true rfl) (c_X10_isSale_b hr hk h) ?_
  refine j_if_eq (tgt := 30) dX10_where_5 (by decide) (fun h => absurd h (by decide)) (fun _ => ?_)
  refine j_aload_n dX10_where_8 rfl rfl ?_
  refine t_getR (b := 15) dX10_where_9 jfl_X10_28 (fun _ _ _ => rfl) rfl ?_
  refine j_aload_n dX10_where_12 rfl rfl ?_
  refine t_getR (b := 43) dX10_where_13 jfl_X10_46 (fun _ _ _ => rfl) rfl ?_
  refine j_iload_n dX10_where_16 rfl rfl ?_
  refine j_bipush (v := nI 10) dX10_where_17 rfl ?_
  refine jn_idiv dX10_where_19 hk (by decide) (by decide) ?_
  refine j_iload_n dX10_where_20 rfl rfl ?_
  refine j_bipush (v := nI 10) dX10_where_21 rfl ?_
  refine jn_irem dX10_where_23 hk (by decide) (by decide) ?_
  refine j_callV [.ref 43, .int _, .int _] [] dX10_where_24 jlk_X10_167 rfl rfl rfl rfl (Nat.le_of_ble_eq_true rfl) (c_X6_placeFor hr (Or.inr (Or.inl rfl)) hc hj) (fun r9 w9 h9 => ?_)
  obtain ⟨rfl, f9, g9, rfl⟩ := h9
  refine j_ats (st' := [.int _]) rfl ?_
  refine j_goto (tgt := 31) dX10_where_27 (by decide) ?_
  refine j_ireturn dX10_where_31 rfl ?_
  refine ⟨?_, f9, g9, rfl⟩
  unfold seP
  rw [RkC_at (by omega)]

set_option maxHeartbeats 200000 in
set_option maxRecDepth 100000 in
theorem c_sale_neg {c : Int32} (h : c < 0) : jMet (d + 5) yX10_sale cX10_sale 3 (some .int) 0 0 [.ref 4, .int c] (tw X A L) (jRi (-1) (tw X A L)) := by
  refine jMet_of (by decide) (Nat.le_of_ble_eq_true rfl) none (Or.inl rfl) ?_
  show jWP none RX10 cX10_sale 3 (some .int) (d + 5) 0 0 0 [some (.ref 4), some (.int c), none] [] (tw X A L) (jRi (-1) (tw X A L))
  refine j_aload_n dX10_sale_0 rfl rfl ?_
  refine j_iload_n dX10_sale_1 rfl rfl ?_
  refine j_callVi [.int _] [] dX10_sale_2 jlk_X10_164 rfl rfl rfl rfl (Nat.le_of_ble_eq_true rfl) (c_X10_isSale_neg h) ?_
  refine j_if_ne (tgt := 10) dX10_sale_5 (by decide) (fun h => absurd (by decide) h) (fun _ => ?_)
  refine j_iconst (v := (-1)) dX10_sale_8 rfl ?_
  refine j_ireturn dX10_sale_9 rfl ?_
  exact ⟨rfl, rfl⟩

set_option maxHeartbeats 200000 in
set_option maxRecDepth 100000 in
theorem c_sale_no (hr : rul B cd vl st an en n na v X A) {k : Nat} (hk : k < 2 ^ 31) (h : (slA na (nI (k / 10)) (nI (k % 10))) = false) : jMet (d + 5) yX10_sale cX10_sale 3 (some .int) 0 0 [.ref 4, .int (nI k)] (tw X A L) (jRi (-1) (tw X A L)) := by
  refine jMet_of (by decide) (Nat.le_of_ble_eq_true rfl) none (Or.inl rfl) ?_
  show jWP none RX10 cX10_sale 3 (some .int) (d + 5) 0 0 0 [some (.ref 4), some (.int (nI k)), none] [] (tw X A L) (jRi (-1) (tw X A L))
  refine j_aload_n dX10_sale_0 rfl rfl ?_
  refine j_iload_n dX10_sale_1 rfl rfl ?_
  refine j_callVi [.int _] [] dX10_sale_2 jlk_X10_164 rfl rfl rfl rfl (Nat.le_of_ble_eq_true rfl) (c_X10_isSale_b hr hk h) ?_
  refine j_if_ne (tgt := 10) dX10_sale_5 (by decide) (fun h => absurd (by decide) h) (fun _ => ?_)
  refine j_iconst (v := (-1)) dX10_sale_8 rfl ?_
  refine j_ireturn dX10_sale_9 rfl ?_
  exact ⟨rfl, rfl⟩

theorem at43 {X A : Nat → Nat → Int32} {L : Nat → Nat → Int64} {B : Nat} (hc : cok X A 43) : tw X A L = tw (cX X 43 (A 44)) (scr (cA A 43 (A 44) (A 45)) B (A (B + 6)) (A (B + 7))) L := by
  have h := cok_self hc
  refine tw_eq h.2.symm ?_ rfl
  rw [show cA A 43 (A 44) (A 45) = A from h.1, scr_self]
def twd (X A : Nat → Nat → Int32) (L : Nat → Nat → Int64) (B : Nat) (c : cS) (f g : Nat → Int32) : jW := tw (cX X 43 c.1) (scr (cA A 43 c.1 c.2) B f g) L

set_option maxHeartbeats 200000 in
set_option maxRecDepth 100000 in
theorem c_sale_full (hr : rul B cd vl st an en n na v X A) (hc : cok X A 43) {k : Nat} (hk : k < 2 ^ 31) (h : (slA na (nI (k / 10)) (nI (k % 10))) = true) (hP : (seP (RkC cd vl st an en n v) (A 44, A 45) (nI (k / 10)) (nI (k % 10))) = none) : jMet (d + 5) yX10_sale cX10_sale 3 (some .int) 0 0 [.ref 4, .int (nI k)] (tw X A L) ((fun z w => z = some (.int (-3)) ∧ ∃ f g, w = tw X (scr A B f g) L)) := by
  refine jMet_of (by decide) (Nat.le_of_ble_eq_true rfl) none (Or.inl rfl) ?_
  show jWP none RX10 cX10_sale 3 (some .int) (d + 5) 0 0 0 [some (.ref 4), some (.int (nI k)), none] [] (tw X A L) ((fun z w => z = some (.int (-3)) ∧ ∃ f g, w = tw X (scr A B f g) L))
  obtain ⟨hB, r2, r3, r4, r5, r6, r7, r8, r9, r10, r11, r12, r13⟩ := id hr
  have hj := slA_k r11 hk h
  refine j_aload_n dX10_sale_0 rfl rfl ?_
  refine j_iload_n dX10_sale_1 rfl rfl ?_
  refine j_callVi [.int _] [] dX10_sale_2 jlk_X10_164 rfl rfl rfl rfl (Nat.le_of_ble_eq_true rfl) (c_X10_isSale_b hr hk h) ?_
  refine j_if_ne (tgt := 10) dX10_sale_5 (by decide) (fun _ => ?_) (fun h => absurd h (by decide))
  refine j_atw (at43 (B := B) hc) ?_
  refine j_aload_n dX10_sale_10 rfl rfl ?_
  refine t_getR (b := 15) dX10_sale_11 jfl_X10_28 (fun _ _ _ => rfl) rfl ?_
  refine j_aload_n dX10_sale_14 rfl rfl ?_
  refine t_getR (b := 43) dX10_sale_15 jfl_X10_46 (fun _ _ _ => rfl) rfl ?_
  refine j_iload_n dX10_sale_18 rfl rfl ?_
  refine j_bipush (v := nI 10) dX10_sale_19 rfl ?_
  refine jn_idiv dX10_sale_21 hk (by decide) (by decide) ?_
  refine j_iload_n dX10_sale_22 rfl rfl ?_
  refine j_bipush (v := nI 10) dX10_sale_23 rfl ?_
  refine jn_irem dX10_sale_25 hk (by decide) (by decide) ?_
  refine j_callV [.ref 43, .int _, .int _] [] dX10_sale_26 jlk_X10_267 rfl rfl rfl rfl (Nat.le_of_ble_eq_true rfl) (c_write (O := A 44) (S := A 45) hr (Or.inr (Or.inl rfl)) hc.1 hc.2.1 hj) (fun r9 w9 h9 => ?_)
  obtain ⟨rfl, f9, g9, rfl⟩ := h9
  refine j_ats (st' := [.int _]) rfl ?_
  refine j_istore_n (lv' := [some (.ref 4), some (.int _), some (.int _)]) dX10_sale_29 rfl (by decide) rfl ?_
  refine j_iload_n dX10_sale_30 rfl rfl ?_
  refine j_if_ge (tgt := 37) dX10_sale_31 (by decide) (fun h31 => absurd h31 (by rw [show seP _ _ _ _ = _ from hP]; decide)) (fun h31 => ?_)
  refine j_bipush (v := (-3)) dX10_sale_34 rfl ?_
  refine j_ireturn dX10_sale_36 rfl ?_
  refine ⟨rfl, f9, g9, ?_⟩
  unfold seS
  rw [show seP _ _ _ _ = _ from hP]
  show tw (cX X 43 (A 44)) (scr (cA A 43 (A 44) (A 45)) B f9 g9) L = _
  have hq := cok_self hc
  rw [show cA A 43 (A 44) (A 45) = A from hq.1, show cX X 43 (A 44) = X from hq.2]

set_option maxHeartbeats 200000 in
set_option maxRecDepth 100000 in
theorem c_sale (hr : rul B cd vl st an en n na v X A) (hc : cok X A 43) {k : Nat} (hk : k < 2 ^ 31) (h : (slA na (nI (k / 10)) (nI (k % 10))) = true) {q : Nat × Int32} (hP : (seP (RkC cd vl st an en n v) (A 44, A 45) (nI (k / 10)) (nI (k % 10))) = some q) : jMet (d + 5) yX10_sale cX10_sale 3 (some .int) 0 0 [.ref 4, .int (nI k)] (tw X A L) ((fun z w => z = some (.int (nI q.1)) ∧ ∃ f g, w = twd X (va_up A 55 (upd (upd (A 55) 0 (A 55 0 + nI 1)) 1 (A 55 1 + nI (k % 10)))) L B (seS (RkC cd vl st an en n v) (A 44, A 45) (nI (k / 10)) (nI (k % 10))) f g)) := by
  refine jMet_of (by decide) (Nat.le_of_ble_eq_true rfl) none (Or.inl rfl) ?_
  show jWP none RX10 cX10_sale 3 (some .int) (d + 5) 0 0 0 [some (.ref 4), some (.int (nI k)), none] [] (tw X A L) ((fun z w => z = some (.int (nI q.1)) ∧ ∃ f g, w = twd X (va_up A 55 (upd (upd (A 55) 0 (A 55 0 + nI 1)) 1 (A 55 1 + nI (k % 10)))) L B (seS (RkC cd vl st an en n v) (A 44, A 45) (nI (k / 10)) (nI (k % 10))) f g))
  obtain ⟨hB, r2, r3, r4, r5, r6, r7, r8, r9, r10, r11, r12, r13⟩ := id hr
  have hj := slA_k r11 hk h
  have hB34 := isB_34 hB
  refine j_aload_n dX10_sale_0 rfl rfl ?_
  refine j_iload_n dX10_sale_1 rfl rfl ?_
  refine j_callVi [.int _] [] dX10_sale_2 jlk_X10_164 rfl rfl rfl rfl (Nat.le_of_ble_eq_true rfl) (c_X10_isSale_b hr hk h) ?_
  refine j_if_ne (tgt := 10) dX10_sale_5 (by decide) (fun _ => ?_) (fun h => absurd h (by decide))
  refine j_atw (at43 (B := B) hc) ?_
  refine j_aload_n dX10_sale_10 rfl rfl ?_
  refine t_getR (b := 15) dX10_sale_11 jfl_X10_28 (fun _ _ _ => rfl) rfl ?_
  refine j_aload_n dX10_sale_14 rfl rfl ?_
  refine t_getR (b := 43) dX10_sale_15 jfl_X10_46 (fun _ _ _ => rfl) rfl ?_
  refine j_iload_n dX10_sale_18 rfl rfl ?_
  refine j_bipush (v := nI 10) dX10_sale_19 rfl ?_
  refine jn_idiv dX10_sale_21 hk (by decide) (by decide) ?_
  refine j_iload_n dX10_sale_22 rfl rfl ?_
  refine j_bipush (v := nI 10) dX10_sale_23 rfl ?_
  refine jn_irem dX10_sale_25 hk (by decide) (by decide) ?_
  refine j_callV [.ref 43, .int _, .int _] [] dX10_sale_26 jlk_X10_267 rfl rfl rfl rfl (Nat.le_of_ble_eq_true rfl) (c_write (O := A 44) (S := A 45) hr (Or.inr (Or.inl rfl)) hc.1 hc.2.1 hj) (fun r9 w9 h9 => ?_)
  obtain ⟨rfl, f9, g9, rfl⟩ := h9
  refine j_ats (st' := [.int _]) rfl ?_
  refine j_istore_n (lv' := [some (.ref 4), some (.int _), some (.int _)]) dX10_sale_29 rfl (by decide) rfl ?_
  refine j_iload_n dX10_sale_30 rfl rfl ?_
  refine j_if_ge (tgt := 37) dX10_sale_31 (by decide) (fun h31 => ?_) (fun h31 => absurd (Int32.not_lt.mp (nI_pos (Nat.lt_trans (seP_lt hP) (by decide)))) (by rw [show seP _ _ _ _ = _ from hP] at h31; exact h31))
  refine j_aload_n dX10_sale_37 rfl rfl ?_
  refine t_getR (b := 55) dX10_sale_38 jfl_X10_56 (fun _ _ _ => rfl) rfl ?_
  refine j_iconst (v := nI 0) dX10_sale_41 rfl ?_
  refine j_dup2 dX10_sale_42 rfl rfl ?_
  refine t_iaload dX10_sale_43 (fun _ _ _ => rfl) (by omega) (by decide) ?_
  refine j_iconst (v := nI 1) dX10_sale_44 rfl ?_
  refine j_iadd dX10_sale_45 ?_
  refine t_iastore dX10_sale_46 (fun _ _ _ => rfl) (by omega) (by decide) ?_
  refine j_aload_n dX10_sale_47 rfl rfl ?_
  refine t_getR (b := 55) dX10_sale_48 jfl_X10_56 (fun _ _ _ => rfl) rfl ?_
  refine j_iconst (v := nI 1) dX10_sale_51 rfl ?_
  refine j_dup2 dX10_sale_52 rfl rfl ?_
  refine t_iaload dX10_sale_53 (fun _ _ _ => rfl) (by omega) (by decide) ?_
  refine j_iload_n dX10_sale_54 rfl rfl ?_
  refine j_bipush (v := nI 10) dX10_sale_55 rfl ?_
  refine jn_irem dX10_sale_57 hk (by decide) (by decide) ?_
  refine j_iadd dX10_sale_58 ?_
  refine t_iastore dX10_sale_59 (fun _ _ _ => rfl) (by omega) (by decide) ?_
  refine j_iload_n dX10_sale_60 rfl rfl ?_
  refine j_ireturn dX10_sale_61 rfl ?_
  refine ⟨by rw [show seP _ _ _ _ = _ from hP]; rfl, f9, g9, ?_⟩
  unfold twd
  refine tw_eq rfl ?_ rfl
  rw [scr_vu _ _ _ _ (by omega) (by omega), cA_vu _ _ _ _ (by decide) (by decide) (by decide), scr_vu _ _ _ _ (by omega) (by omega), cA_vu _ _ _ _ (by decide) (by decide) (by decide)]
  rw [scr_n _ _ _ _ (by omega) (by omega), cA_n _ _ _ (by decide) (by decide) (by decide), scr_n _ _ _ _ (by omega) (by omega), cA_n _ _ _ (by decide) (by decide) (by decide), vu_s, vu_up, pk_un (by decide)]

set_option maxHeartbeats 200000 in
set_option maxRecDepth 100000 in
theorem c_winter (hr : rul B cd vl st an en n na v X A) (hc : cok X A 43) (hc47 : cok X A 47) {m k : Nat} (hm : m < 50) (hk : k < na) : jMet (d + 5) yX10_winter cX10_winter 3 (some .int) 0 0 [.ref 4, .int (nI m), .int (nI k)] (tw X A L) (jRi (balS (winS (min m (hN (A 44))) (A 44, A 45)).1 (winS (min m (hN (A 44))) (A 44, A 45)).2 (nI k) 49) (tw (cX X 47 (winS (min m (hN (A 44))) (A 44, A 45)).1) (cA A 47 (winS (min m (hN (A 44))) (A 44, A 45)).1 (winS (min m (hN (A 44))) (A 44, A 45)).2) L)) := by
  refine jMet_of (by decide) (Nat.le_of_ble_eq_true rfl) none (Or.inl rfl) ?_
  show jWP none RX10 cX10_winter 3 (some .int) (d + 5) 0 0 0 [some (.ref 4), some (.int (nI m)), some (.int (nI k))] [] (tw X A L) (jRi (balS (winS (min m (hN (A 44))) (A 44, A 45)).1 (winS (min m (hN (A 44))) (A 44, A 45)).2 (nI k) 49) (tw (cX X 47 (winS (min m (hN (A 44))) (A 44, A 45)).1) (cA A 47 (winS (min m (hN (A 44))) (A 44, A 45)).1 (winS (min m (hN (A 44))) (A 44, A 45)).2) L))
  obtain ⟨hB, r2, r3, r4, r5, r6, r7, r8, r9, r10, r11, r12, r13⟩ := id hr
  refine j_iload_n dX10_winter_0 rfl rfl ?_
  refine jn_if_lt (tgt := 21) dX10_winter_1 (by decide) (by omega) ?_
  refine j_iload_n dX10_winter_4 rfl rfl ?_
  refine j_bipush (v := nI 49) dX10_winter_5 rfl ?_
  refine jn_icmp_gt (tgt := 21) dX10_winter_7 (by decide) (by omega) (by omega) (fun h7 => absurd h7 (by omega)) (fun h7 => ?_)
  refine j_aload_n dX10_winter_10 rfl rfl ?_
  refine t_getR (b := 10) dX10_winter_11 jfl_X10_19 (fun _ _ _ => rfl) rfl ?_
  refine j_iload_n dX10_winter_14 rfl rfl ?_
  refine j_callVi [.int _] [] dX10_winter_15 jlk_X10_127 rfl rfl rfl rfl (Nat.le_of_ble_eq_true rfl) (c_X7_isAccount_in r10 r11 hk) ?_
  refine j_if_ne (tgt := 23) dX10_winter_18 (by decide) (fun _ => ?_) (fun h => absurd h (by decide))
  refine j_aload_n dX10_winter_23 rfl rfl ?_
  refine t_getR (b := 47) dX10_winter_24 jfl_X10_50 (fun _ _ _ => rfl) rfl ?_
  refine j_aload_n dX10_winter_27 rfl rfl ?_
  refine t_getR (b := 43) dX10_winter_28 jfl_X10_46 (fun _ _ _ => rfl) rfl ?_
  refine j_callVv [.ref 43] [] dX10_winter_31 jlk_X10_181 rfl rfl rfl rfl (Nat.le_of_ble_eq_true rfl) (c_X0_become (Or.inr (Or.inr (Or.inl rfl))) (Or.inr (Or.inl rfl)) hc47 hc) ?_
  rw [show (43 + 1 : Nat) = 44 from rfl, show (43 + 2 : Nat) = 45 from rfl]
  refine j_aload_n dX10_winter_34 rfl rfl ?_
  refine t_getR (b := 47) dX10_winter_35 jfl_X10_50 (fun _ _ _ => rfl) rfl ?_
  refine j_iload_n dX10_winter_38 rfl rfl ?_
  refine j_callVi [.int _] [] dX10_winter_39 jlk_X10_185 rfl rfl rfl rfl (Nat.le_of_ble_eq_true rfl) (c_X0_eatCells (Or.inr (Or.inr (Or.inl rfl))) (bec_47 hc) (by omega)) ?_
  rw [cA_1, cA_2, cX_cX, cA_cA]
  refine j_pop dX10_winter_42 rfl ?_
  refine j_aload_n dX10_winter_43 rfl rfl ?_
  refine t_getR (b := 47) dX10_winter_44 jfl_X10_50 (fun _ _ _ => rfl) rfl ?_
  refine j_iload_n dX10_winter_47 rfl rfl ?_
  refine j_callVi [.int _] [] dX10_winter_48 jlk_X10_130 rfl rfl rfl rfl (Nat.le_of_ble_eq_true rfl) (c_X0_balanceOf (Or.inr (Or.inr (Or.inl rfl)))) ?_
  rw [cA_1, cA_2]
  refine j_ireturn dX10_winter_51 rfl ?_
  exact ⟨rfl, rfl⟩

set_option maxHeartbeats 200000 in
set_option maxRecDepth 100000 in
theorem c_winter_no (hr : rul B cd vl st an en n na v X A) {c a : Int32} (h : isA 50 c = nI 0 ∨ isA na a = nI 0) : jMet (d + 5) yX10_winter cX10_winter 3 (some .int) 0 0 [.ref 4, .int c, .int a] (tw X A L) (jRi (-1) (tw X A L)) := by
  refine jMet_of (by decide) (Nat.le_of_ble_eq_true rfl) none (Or.inl rfl) ?_
  show jWP none RX10 cX10_winter 3 (some .int) (d + 5) 0 0 0 [some (.ref 4), some (.int c), some (.int a)] [] (tw X A L) (jRi (-1) (tw X A L))
  obtain ⟨hB, r2, r3, r4, r5, r6, r7, r8, r9, r10, r11, r12, r13⟩ := id hr
  refine j_iload_n dX10_winter_0 rfl rfl ?_
  refine j_if_lt (tgt := 21) dX10_winter_1 (by decide) (fun h1 => ?_) (fun h1 => ?_)
  · refine j_iconst (v := (-1)) dX10_winter_21 rfl ?_
    refine j_ireturn dX10_winter_22 rfl ?_
    exact ⟨rfl, rfl⟩
  · refine j_iload_n dX10_winter_4 rfl rfl ?_
    refine j_bipush (v := nI 49) dX10_winter_5 rfl ?_
    refine j_icmp_gt (tgt := 21) dX10_winter_7 (by decide) (fun h7 => ?_) (fun h7 => ?_)
    · refine j_iconst (v := (-1)) dX10_winter_21 rfl ?_
      refine j_ireturn dX10_winter_22 rfl ?_
      exact ⟨rfl, rfl⟩
    · refine j_aload_n dX10_winter_10 rfl rfl ?_
      refine t_getR (b := 10) dX10_winter_11 jfl_X10_19 (fun _ _ _ => rfl) rfl ?_
      refine j_iload_n dX10_winter_14 rfl rfl ?_
      refine j_callVi [.int _] [] dX10_winter_15 jlk_X10_127 rfl rfl rfl rfl (Nat.le_of_ble_eq_true rfl) (c_X7_isAccount r10 r11) ?_
      refine j_if_ne (tgt := 23) dX10_winter_18 (by decide) (fun h18 => ?_) (fun h18 => ?_)
      · exfalso
        rcases h with h | h
        · obtain ⟨j, hj, rfl⟩ := ixle h1 h7 (by decide)
          rw [isA_in (by omega) (by decide)] at h
          exact absurd h (by decide)
        · exact h18 h
      · refine j_iconst (v := (-1)) dX10_winter_21 rfl ?_
        refine j_ireturn dX10_winter_22 rfl ?_
        exact ⟨rfl, rfl⟩

set_option maxHeartbeats 200000 in
set_option maxRecDepth 100000 in
theorem c_heat_all (hr : rul B cd vl st an en n na v X A) (hc : cok X A 43) (hc47 : cok X A 47) : jMet (d + 4) yX10_heat cX10_heat 3 (some .int) 0 0 [.ref 4, .int (-1)] (tw X A L) (jRi (nI (htC (A 44) (A 45) 49).2) (tw (cX X 47 (htC (A 44) (A 45) 49).1) (cA A 47 (htC (A 44) (A 45) 49).1 (A 45)) L)) := by
  refine jMet_of (by decide) (Nat.le_of_ble_eq_true rfl) none (Or.inl rfl) ?_
  show jWP none RX10 cX10_heat 3 (some .int) (d + 4) 0 0 0 [some (.ref 4), some (.int (-1)), none] [] (tw X A L) (jRi (nI (htC (A 44) (A 45) 49).2) (tw (cX X 47 (htC (A 44) (A 45) 49).1) (cA A 47 (htC (A 44) (A 45) 49).1 (A 45)) L))
  obtain ⟨hB, r2, r3, r4, r5, r6, r7, r8, r9, r10, r11, r12, r13⟩ := id hr
  refine j_iload_n dX10_heat_0 rfl rfl ?_
  refine j_iconst (v := (-1)) dX10_heat_1 rfl ?_
  refine j_icmp_eq (tgt := 18) dX10_heat_2 (by decide) (fun _ => ?_) (fun h => absurd (by decide) h)
  refine j_aload_n dX10_heat_18 rfl rfl ?_
  refine t_getR (b := 47) dX10_heat_19 jfl_X10_50 (fun _ _ _ => rfl) rfl ?_
  refine j_aload_n dX10_heat_22 rfl rfl ?_
  refine t_getR (b := 43) dX10_heat_23 jfl_X10_46 (fun _ _ _ => rfl) rfl ?_
  refine j_callVv [.ref 43] [] dX10_heat_26 jlk_X10_181 rfl rfl rfl rfl (Nat.le_of_ble_eq_true rfl) (c_X0_become (Or.inr (Or.inr (Or.inl rfl))) (Or.inr (Or.inl rfl)) hc47 hc) ?_
  rw [show (43 + 1 : Nat) = 44 from rfl, show (43 + 2 : Nat) = 45 from rfl]
  refine j_aload_n dX10_heat_29 rfl rfl ?_
  refine t_getR (b := 47) dX10_heat_30 jfl_X10_50 (fun _ _ _ => rfl) rfl ?_
  refine j_callVi [] [] dX10_heat_33 jlk_X10_195 rfl rfl rfl rfl (Nat.le_of_ble_eq_true rfl) (c_X0_heatUp (Or.inr (Or.inr (Or.inl rfl))) (bec_47 hc)) ?_
  rw [cA_1, cA_2, cX_cX, cA_cA]
  refine j_istore_n (lv' := [some (.ref 4), some (.int _), some (.int _)]) dX10_heat_36 rfl (by decide) rfl ?_
  refine j_iload_n dX10_heat_37 rfl rfl ?_
  refine j_iconst (v := (-1)) dX10_heat_38 rfl ?_
  refine j_icmp_ne (tgt := 46) dX10_heat_39 (by decide) (fun h => absurd (by decide) h) (fun _ => ?_)
  refine j_iload_n dX10_heat_42 rfl rfl ?_
  refine j_goto (tgt := 54) dX10_heat_43 (by decide) ?_
  refine j_ireturn dX10_heat_54 rfl ?_
  exact ⟨rfl, rfl⟩

set_option maxHeartbeats 200000 in
set_option maxRecDepth 100000 in
theorem c_heat (hr : rul B cd vl st an en n na v X A) (hc : cok X A 43) (hc47 : cok X A 47) {k : Nat} (hk : k < na) : jMet (d + 4) yX10_heat cX10_heat 3 (some .int) 0 0 [.ref 4, .int (nI k)] (tw X A L) (jRi (balS (htC (A 44) (A 45) 49).1 (A 45) (nI k) 49) (tw (cX X 47 (htC (A 44) (A 45) 49).1) (cA A 47 (htC (A 44) (A 45) 49).1 (A 45)) L)) := by
  refine jMet_of (by decide) (Nat.le_of_ble_eq_true rfl) none (Or.inl rfl) ?_
  show jWP none RX10 cX10_heat 3 (some .int) (d + 4) 0 0 0 [some (.ref 4), some (.int (nI k)), none] [] (tw X A L) (jRi (balS (htC (A 44) (A 45) 49).1 (A 45) (nI k) 49) (tw (cX X 47 (htC (A 44) (A 45) 49).1) (cA A 47 (htC (A 44) (A 45) 49).1 (A 45)) L))
  obtain ⟨hB, r2, r3, r4, r5, r6, r7, r8, r9, r10, r11, r12, r13⟩ := id hr
  refine j_iload_n dX10_heat_0 rfl rfl ?_
  refine j_iconst (v := (-1)) dX10_heat_1 rfl ?_
  refine j_icmp_eq (tgt := 18) dX10_heat_2 (by decide) (fun h2 => absurd h2 (nI_nm1 (by omega))) (fun h2 => ?_)
  refine j_aload_n dX10_heat_5 rfl rfl ?_
  refine t_getR (b := 10) dX10_heat_6 jfl_X10_19 (fun _ _ _ => rfl) rfl ?_
  refine j_iload_n dX10_heat_9 rfl rfl ?_
  refine j_callVi [.int _] [] dX10_heat_10 jlk_X10_127 rfl rfl rfl rfl (Nat.le_of_ble_eq_true rfl) (c_X7_isAccount_in r10 r11 hk) ?_
  refine j_if_ne (tgt := 18) dX10_heat_13 (by decide) (fun _ => ?_) (fun h => absurd h (by decide))
  refine j_aload_n dX10_heat_18 rfl rfl ?_
  refine t_getR (b := 47) dX10_heat_19 jfl_X10_50 (fun _ _ _ => rfl) rfl ?_
  refine j_aload_n dX10_heat_22 rfl rfl ?_
  refine t_getR (b := 43) dX10_heat_23 jfl_X10_46 (fun _ _ _ => rfl) rfl ?_
  refine j_callVv [.ref 43] [] dX10_heat_26 jlk_X10_181 rfl rfl rfl rfl (Nat.le_of_ble_eq_true rfl) (c_X0_become (Or.inr (Or.inr (Or.inl rfl))) (Or.inr (Or.inl rfl)) hc47 hc) ?_
  rw [show (43 + 1 : Nat) = 44 from rfl, show (43 + 2 : Nat) = 45 from rfl]
  refine j_aload_n dX10_heat_29 rfl rfl ?_
  refine t_getR (b := 47) dX10_heat_30 jfl_X10_50 (fun _ _ _ => rfl) rfl ?_
  refine j_callVi [] [] dX10_heat_33 jlk_X10_195 rfl rfl rfl rfl (Nat.le_of_ble_eq_true rfl) (c_X0_heatUp (Or.inr (Or.inr (Or.inl rfl))) (bec_47 hc)) ?_
  rw [cA_1, cA_2, cX_cX, cA_cA]
  refine j_istore_n (lv' := [some (.ref 4), some (.int _), some (.int _)]) dX10_heat_36 rfl (by decide) rfl ?_
  refine j_iload_n dX10_heat_37 rfl rfl ?_
  refine j_iconst (v := (-1)) dX10_heat_38 rfl ?_
  refine j_icmp_ne (tgt := 46) dX10_heat_39 (by decide) (fun h39 => ?_) (fun h39 => absurd h39 (nI_nm1 (by omega)))
  refine j_aload_n dX10_heat_46 rfl rfl ?_
  refine t_getR (b := 47) dX10_heat_47 jfl_X10_50 (fun _ _ _ => rfl) rfl ?_
  refine j_iload_n dX10_heat_50 rfl rfl ?_
  refine j_callVi [.int _] [] dX10_heat_51 jlk_X10_130 rfl rfl rfl rfl (Nat.le_of_ble_eq_true rfl) (c_X0_balanceOf (Or.inr (Or.inr (Or.inl rfl)))) ?_
  rw [cA_1, cA_2]
  refine j_ireturn dX10_heat_54 rfl ?_
  exact ⟨rfl, rfl⟩

set_option maxHeartbeats 200000 in
set_option maxRecDepth 100000 in
theorem c_heat_no (hr : rul B cd vl st an en n na v X A) {c : Int32} (h1 : c ≠ -1) (h : isA na c = nI 0) : jMet (d + 4) yX10_heat cX10_heat 3 (some .int) 0 0 [.ref 4, .int c] (tw X A L) (jRi (-1) (tw X A L)) := by
  refine jMet_of (by decide) (Nat.le_of_ble_eq_true rfl) none (Or.inl rfl) ?_
  show jWP none RX10 cX10_heat 3 (some .int) (d + 4) 0 0 0 [some (.ref 4), some (.int c), none] [] (tw X A L) (jRi (-1) (tw X A L))
  obtain ⟨hB, r2, r3, r4, r5, r6, r7, r8, r9, r10, r11, r12, r13⟩ := id hr
  refine j_iload_n dX10_heat_0 rfl rfl ?_
  refine j_iconst (v := (-1)) dX10_heat_1 rfl ?_
  refine j_icmp_eq (tgt := 18) dX10_heat_2 (by decide) (fun h2 => absurd h2 h1) (fun h2 => ?_)
  refine j_aload_n dX10_heat_5 rfl rfl ?_
  refine t_getR (b := 10) dX10_heat_6 jfl_X10_19 (fun _ _ _ => rfl) rfl ?_
  refine j_iload_n dX10_heat_9 rfl rfl ?_
  refine j_callVi [.int _] [] dX10_heat_10 jlk_X10_127 rfl rfl rfl rfl (Nat.le_of_ble_eq_true rfl) (c_X7_isAccount r10 r11) ?_
  refine j_if_ne (tgt := 18) dX10_heat_13 (by decide) (fun h13 => absurd h h13) (fun h13 => ?_)
  refine j_iconst (v := (-1)) dX10_heat_16 rfl ?_
  refine j_ireturn dX10_heat_17 rfl ?_
  exact ⟨rfl, rfl⟩

def swB (k : Nat) : Bool := decide (k / 10 < 49) && decide (k % 10 ≤ 3)

set_option maxHeartbeats 200000 in
set_option maxRecDepth 100000 in
theorem c_isSwarm_neg {c : Int32} (h : c < 0) : jMet (d + 1) yX10_isSwarm cX10_isSwarm 1 (some .boolean) 0 0 [.int c] (w) (jRi (nI 0) w) := by
  refine jMet_of (by decide) (Nat.le_of_ble_eq_true rfl) none (Or.inl rfl) ?_
  show jWP none RX10 cX10_isSwarm 1 (some .boolean) (d + 1) 0 0 0 [some (.int c)] [] (w) (jRi (nI 0) w)
  refine j_iload_n dX10_isSwarm_0 rfl rfl ?_
  refine j_if_lt (tgt := 26) dX10_isSwarm_1 (by decide) (fun h1 => ?_) (fun h1 => absurd h h1)
  refine j_iconst (v := nI 0) dX10_isSwarm_26 rfl ?_
  refine j_zreturn dX10_isSwarm_27 rfl (by decide) ?_
  exact ⟨rfl, rfl⟩

set_option maxHeartbeats 200000 in
set_option maxRecDepth 100000 in
theorem c_isSwarm {k : Nat} (hk : k < 2 ^ 31) : jMet (d + 1) yX10_isSwarm cX10_isSwarm 1 (some .boolean) 0 0 [.int (nI k)] (w) (jRi (bz (swB k)) w) := by
  refine jMet_of (by decide) (Nat.le_of_ble_eq_true rfl) none (Or.inl rfl) ?_
  show jWP none RX10 cX10_isSwarm 1 (some .boolean) (d + 1) 0 0 0 [some (.int (nI k))] [] (w) (jRi (bz (swB k)) w)
  refine j_iload_n dX10_isSwarm_0 rfl rfl ?_
  refine jn_if_lt (tgt := 26) dX10_isSwarm_1 (by decide) hk ?_
  refine j_iload_n dX10_isSwarm_4 rfl rfl ?_
  refine j_bipush (v := nI 10) dX10_isSwarm_5 rfl ?_
  refine jn_idiv dX10_isSwarm_7 hk (by decide) (by decide) ?_
  refine j_callSi [.int _] [] dX10_isSwarm_8 jlk_X10_88 rfl rfl (Nat.le_of_ble_eq_true rfl) (c_X1_isCell) ?_
  refine j_if_eq (tgt := 26) dX10_isSwarm_11 (by decide) (fun h11 => ?_) (fun h11 => ?_)
  · have h11 : ¬ k / 10 < 49 := fun q => by rw [isc_in q] at h11; exact absurd h11 (by decide)
    refine j_iconst (v := nI 0) dX10_isSwarm_26 rfl ?_
    refine j_zreturn dX10_isSwarm_27 rfl (by decide) ?_
    exact ⟨by simp [swB, bz, h11], rfl⟩
  · have h11 : k / 10 < 49 := by
      rcases isc_cases (nI (k / 10)) with q | ⟨j, hj, e⟩
      · exact absurd q h11
      · rw [(nI_eq (by omega) (by omega)).mp e]; exact hj
    refine j_iload_n dX10_isSwarm_14 rfl rfl ?_
    refine j_bipush (v := nI 10) dX10_isSwarm_15 rfl ?_
    refine jn_irem dX10_isSwarm_17 hk (by decide) (by decide) ?_
    refine j_iconst (v := nI 3) dX10_isSwarm_18 rfl ?_
    refine jn_icmp_gt (tgt := 26) dX10_isSwarm_19 (by decide) (by omega) (by omega) (fun h19 => ?_) (fun h19 => ?_)
    · refine j_iconst (v := nI 0) dX10_isSwarm_26 rfl ?_
      refine j_zreturn dX10_isSwarm_27 rfl (by decide) ?_
      exact ⟨by simp [swB, bz, h11, Nat.not_le.mpr h19], rfl⟩
    · refine j_iconst (v := nI 1) dX10_isSwarm_22 rfl ?_
      refine j_goto (tgt := 27) dX10_isSwarm_23 (by decide) ?_
      refine j_zreturn dX10_isSwarm_27 rfl (by decide) ?_
      exact ⟨by simp [swB, bz, h11, h19], rfl⟩

theorem c_isSwarm_b {k : Nat} (hk : k < 2 ^ 31) {b : Bool} (h : swB k = b) : jMet (d + 1) yX10_isSwarm cX10_isSwarm 1 (some .boolean) 0 0 [.int (nI k)] w (jRi (bz b) w) := h ▸ c_isSwarm hk

set_option maxHeartbeats 200000 in
set_option maxRecDepth 100000 in
theorem c_swarm_neg {c a : Int32} (h : c < 0) : jMet (d + 5) yX10_swarm cX10_swarm 4 (some .int) 0 0 [.ref 4, .int c, .int a] (tw X A L) (jRi (-1) (tw X A L)) := by
  refine jMet_of (by decide) (Nat.le_of_ble_eq_true rfl) none (Or.inl rfl) ?_
  show jWP none RX10 cX10_swarm 4 (some .int) (d + 5) 0 0 0 [some (.ref 4), some (.int c), some (.int a), none] [] (tw X A L) (jRi (-1) (tw X A L))
  refine j_iload_n dX10_swarm_0 rfl rfl ?_
  refine j_callSi [.int _] [] dX10_swarm_1 jlk_X10_198 rfl rfl (Nat.le_of_ble_eq_true rfl) (c_isSwarm_neg h) ?_
  refine j_if_eq (tgt := 23) dX10_swarm_4 (by decide) (fun _ => ?_) (fun h => absurd (by decide) h)
  refine j_iconst (v := (-1)) dX10_swarm_23 rfl ?_
  refine j_ireturn dX10_swarm_24 rfl ?_
  exact ⟨rfl, rfl⟩

set_option maxHeartbeats 200000 in
set_option maxRecDepth 100000 in
theorem c_swarm_no {k : Nat} (hk : k < 2 ^ 31) {a : Int32} (h : swB k = false) : jMet (d + 5) yX10_swarm cX10_swarm 4 (some .int) 0 0 [.ref 4, .int (nI k), .int a] (tw X A L) (jRi (-1) (tw X A L)) := by
  refine jMet_of (by decide) (Nat.le_of_ble_eq_true rfl) none (Or.inl rfl) ?_
  show jWP none RX10 cX10_swarm 4 (some .int) (d + 5) 0 0 0 [some (.ref 4), some (.int (nI k)), some (.int a), none] [] (tw X A L) (jRi (-1) (tw X A L))
  refine j_iload_n dX10_swarm_0 rfl rfl ?_
  refine j_callSi [.int _] [] dX10_swarm_1 jlk_X10_198 rfl rfl (Nat.le_of_ble_eq_true rfl) (c_isSwarm_b hk h) ?_
  refine j_if_eq (tgt := 23) dX10_swarm_4 (by decide) (fun _ => ?_) (fun h => absurd (by decide) h)
  refine j_iconst (v := (-1)) dX10_swarm_23 rfl ?_
  refine j_ireturn dX10_swarm_24 rfl ?_
  exact ⟨rfl, rfl⟩

set_option maxHeartbeats 200000 in
set_option maxRecDepth 100000 in
theorem c_swarm_no2 (hr : rul B cd vl st an en n na v X A) {k : Nat} (hk : k < 2 ^ 31) (h : swB k = true) {a : Int32} (h1 : a ≠ -1) (h2 : isA na a = nI 0) : jMet (d + 5) yX10_swarm cX10_swarm 4 (some .int) 0 0 [.ref 4, .int (nI k), .int a] (tw X A L) (jRi (-1) (tw X A L)) := by
  refine jMet_of (by decide) (Nat.le_of_ble_eq_true rfl) none (Or.inl rfl) ?_
  show jWP none RX10 cX10_swarm 4 (some .int) (d + 5) 0 0 0 [some (.ref 4), some (.int (nI k)), some (.int a), none] [] (tw X A L) (jRi (-1) (tw X A L))
  obtain ⟨hB, r2, r3, r4, r5, r6, r7, r8, r9, r10, r11, r12, r13⟩ := id hr
  refine j_iload_n dX10_swarm_0 rfl rfl ?_
  refine j_callSi [.int _] [] dX10_swarm_1 jlk_X10_198 rfl rfl (Nat.le_of_ble_eq_true rfl) (c_isSwarm_b hk h) ?_
  refine j_if_eq (tgt := 23) dX10_swarm_4 (by decide) (fun h => absurd h (by decide)) (fun _ => ?_)
  refine j_iload_n dX10_swarm_7 rfl rfl ?_
  refine j_iconst (v := (-1)) dX10_swarm_8 rfl ?_
  refine j_icmp_eq (tgt := 25) dX10_swarm_9 (by decide) (fun h9 => absurd h9 h1) (fun h9 => ?_)
  refine j_aload_n dX10_swarm_12 rfl rfl ?_
  refine t_getR (b := 10) dX10_swarm_13 jfl_X10_19 (fun _ _ _ => rfl) rfl ?_
  refine j_iload_n dX10_swarm_16 rfl rfl ?_
  refine j_callVi [.int _] [] dX10_swarm_17 jlk_X10_127 rfl rfl rfl rfl (Nat.le_of_ble_eq_true rfl) (c_X7_isAccount r10 r11) ?_
  refine j_if_ne (tgt := 25) dX10_swarm_20 (by decide) (fun h20 => absurd h2 h20) (fun h20 => ?_)
  refine j_iconst (v := (-1)) dX10_swarm_23 rfl ?_
  refine j_ireturn dX10_swarm_24 rfl ?_
  exact ⟨rfl, rfl⟩

set_option maxHeartbeats 200000 in
set_option maxRecDepth 100000 in
theorem c_swarm_all (hr : rul B cd vl st an en n na v X A) (hc : cok X A 43) (hc47 : cok X A 47) {k : Nat} (hk : k < 2 ^ 31) (h : swB k = true) : jMet (d + 5) yX10_swarm cX10_swarm 4 (some .int) 0 0 [.ref 4, .int (nI k), .int (-1)] (tw X A L) (jRi (nI (abS (k / 10) (k % 10) (A 44, A 45) 49).2) (tw (cX X 47 (abS (k / 10) (k % 10) (A 44, A 45) 49).1.1) (cA A 47 (abS (k / 10) (k % 10) (A 44, A 45) 49).1.1 (abS (k / 10) (k % 10) (A 44, A 45) 49).1.2) L)) := by
  refine jMet_of (by decide) (Nat.le_of_ble_eq_true rfl) none (Or.inl rfl) ?_
  show jWP none RX10 cX10_swarm 4 (some .int) (d + 5) 0 0 0 [some (.ref 4), some (.int (nI k)), some (.int (-1)), none] [] (tw X A L) (jRi (nI (abS (k / 10) (k % 10) (A 44, A 45) 49).2) (tw (cX X 47 (abS (k / 10) (k % 10) (A 44, A 45) 49).1.1) (cA A 47 (abS (k / 10) (k % 10) (A 44, A 45) 49).1.1 (abS (k / 10) (k % 10) (A 44, A 45) 49).1.2) L))
  obtain ⟨hB, r2, r3, r4, r5, r6, r7, r8, r9, r10, r11, r12, r13⟩ := id hr
  have hsw : k / 10 < 49 ∧ k % 10 ≤ 3 := by unfold swB at h; simpa using h
  refine j_iload_n dX10_swarm_0 rfl rfl ?_
  refine j_callSi [.int _] [] dX10_swarm_1 jlk_X10_198 rfl rfl (Nat.le_of_ble_eq_true rfl) (c_isSwarm_b hk h) ?_
  refine j_if_eq (tgt := 23) dX10_swarm_4 (by decide) (fun h => absurd h (by decide)) (fun _ => ?_)
  refine j_iload_n dX10_swarm_7 rfl rfl ?_
  refine j_iconst (v := (-1)) dX10_swarm_8 rfl ?_
  refine j_icmp_eq (tgt := 25) dX10_swarm_9 (by decide) (fun _ => ?_) (fun h => absurd (by decide) h)
  refine j_aload_n dX10_swarm_25 rfl rfl ?_
  refine t_getR (b := 47) dX10_swarm_26 jfl_X10_50 (fun _ _ _ => rfl) rfl ?_
  refine j_aload_n dX10_swarm_29 rfl rfl ?_
  refine t_getR (b := 43) dX10_swarm_30 jfl_X10_46 (fun _ _ _ => rfl) rfl ?_
  refine j_callVv [.ref 43] [] dX10_swarm_33 jlk_X10_181 rfl rfl rfl rfl (Nat.le_of_ble_eq_true rfl) (c_X0_become (Or.inr (Or.inr (Or.inl rfl))) (Or.inr (Or.inl rfl)) hc47 hc) ?_
  rw [show (43 + 1 : Nat) = 44 from rfl, show (43 + 2 : Nat) = 45 from rfl]
  refine j_aload_n dX10_swarm_36 rfl rfl ?_
  refine t_getR (b := 47) dX10_swarm_37 jfl_X10_50 (fun _ _ _ => rfl) rfl ?_
  refine j_iload_n dX10_swarm_40 rfl rfl ?_
  refine j_bipush (v := nI 10) dX10_swarm_41 rfl ?_
  refine jn_idiv dX10_swarm_43 hk (by decide) (by decide) ?_
  refine j_iload_n dX10_swarm_44 rfl rfl ?_
  refine j_bipush (v := nI 10) dX10_swarm_45 rfl ?_
  refine jn_irem dX10_swarm_47 hk (by decide) (by decide) ?_
  refine j_callVi [.int _, .int _] [] dX10_swarm_48 jlk_X10_201 rfl rfl rfl rfl (Nat.le_of_ble_eq_true rfl) (c_X0_emptyAbout (Or.inr (Or.inr (Or.inl rfl))) (bec_47 hc) hsw.1 (by omega)) ?_
  rw [cA_1, cA_2, cX_cX, cA_cA]
  refine j_istore_n (lv' := [some (.ref 4), some (.int _), some (.int _), some (.int _)]) dX10_swarm_51 rfl (by decide) rfl ?_
  refine j_iload_n dX10_swarm_52 rfl rfl ?_
  refine j_iconst (v := (-1)) dX10_swarm_53 rfl ?_
  refine j_icmp_ne (tgt := 61) dX10_swarm_54 (by decide) (fun h => absurd (by decide) h) (fun _ => ?_)
  refine j_iload_n dX10_swarm_57 rfl rfl ?_
  refine j_goto (tgt := 69) dX10_swarm_58 (by decide) ?_
  refine j_ireturn dX10_swarm_69 rfl ?_
  exact ⟨rfl, rfl⟩

set_option maxHeartbeats 200000 in
set_option maxRecDepth 100000 in
theorem c_swarm (hr : rul B cd vl st an en n na v X A) (hc : cok X A 43) (hc47 : cok X A 47) {k : Nat} (hk : k < 2 ^ 31) (h : swB k = true) {a : Nat} (ha : a < na) : jMet (d + 5) yX10_swarm cX10_swarm 4 (some .int) 0 0 [.ref 4, .int (nI k), .int (nI a)] (tw X A L) (jRi (balS (abS (k / 10) (k % 10) (A 44, A 45) 49).1.1 (abS (k / 10) (k % 10) (A 44, A 45) 49).1.2 (nI a) 49) (tw (cX X 47 (abS (k / 10) (k % 10) (A 44, A 45) 49).1.1) (cA A 47 (abS (k / 10) (k % 10) (A 44, A 45) 49).1.1 (abS (k / 10) (k % 10) (A 44, A 45) 49).1.2) L)) := by
  refine jMet_of (by decide) (Nat.le_of_ble_eq_true rfl) none (Or.inl rfl) ?_
  show jWP none RX10 cX10_swarm 4 (some .int) (d + 5) 0 0 0 [some (.ref 4), some (.int (nI k)), some (.int (nI a)), none] [] (tw X A L) (jRi (balS (abS (k / 10) (k % 10) (A 44, A 45) 49).1.1 (abS (k / 10) (k % 10) (A 44, A 45) 49).1.2 (nI a) 49) (tw (cX X 47 (abS (k / 10) (k % 10) (A 44, A 45) 49).1.1) (cA A 47 (abS (k / 10) (k % 10) (A 44, A 45) 49).1.1 (abS (k / 10) (k % 10) (A 44, A 45) 49).1.2) L))
  obtain ⟨hB, r2, r3, r4, r5, r6, r7, r8, r9, r10, r11, r12, r13⟩ := id hr
  have hsw : k / 10 < 49 ∧ k % 10 ≤ 3 := by unfold swB at h; simpa using h
  refine j_iload_n dX10_swarm_0 rfl rfl ?_
  refine j_callSi [.int _] [] dX10_swarm_1 jlk_X10_198 rfl rfl (Nat.le_of_ble_eq_true rfl) (c_isSwarm_b hk h) ?_
  refine j_if_eq (tgt := 23) dX10_swarm_4 (by decide) (fun h => absurd h (by decide)) (fun _ => ?_)
  refine j_iload_n dX10_swarm_7 rfl rfl ?_
  refine j_iconst (v := (-1)) dX10_swarm_8 rfl ?_
  refine j_icmp_eq (tgt := 25) dX10_swarm_9 (by decide) (fun h9 => absurd h9 (nI_nm1 (by omega))) (fun h9 => ?_)
  refine j_aload_n dX10_swarm_12 rfl rfl ?_
  refine t_getR (b := 10) dX10_swarm_13 jfl_X10_19 (fun _ _ _ => rfl) rfl ?_
  refine j_iload_n dX10_swarm_16 rfl rfl ?_
  refine j_callVi [.int _] [] dX10_swarm_17 jlk_X10_127 rfl rfl rfl rfl (Nat.le_of_ble_eq_true rfl) (c_X7_isAccount_in r10 r11 ha) ?_
  refine j_if_ne (tgt := 25) dX10_swarm_20 (by decide) (fun _ => ?_) (fun h => absurd h (by decide))
  refine j_aload_n dX10_swarm_25 rfl rfl ?_
  refine t_getR (b := 47) dX10_swarm_26 jfl_X10_50 (fun _ _ _ => rfl) rfl ?_
  refine j_aload_n dX10_swarm_29 rfl rfl ?_
  refine t_getR (b := 43) dX10_swarm_30 jfl_X10_46 (fun _ _ _ => rfl) rfl ?_
  refine j_callVv [.ref 43] [] dX10_swarm_33 jlk_X10_181 rfl rfl rfl rfl (Nat.le_of_ble_eq_true rfl) (c_X0_become (Or.inr (Or.inr (Or.inl rfl))) (Or.inr (Or.inl rfl)) hc47 hc) ?_
  rw [show (43 + 1 : Nat) = 44 from rfl, show (43 + 2 : Nat) = 45 from rfl]
  refine j_aload_n dX10_swarm_36 rfl rfl ?_
  refine t_getR (b := 47) dX10_swarm_37 jfl_X10_50 (fun _ _ _ => rfl) rfl ?_
  refine j_iload_n dX10_swarm_40 rfl rfl ?_
  refine j_bipush (v := nI 10) dX10_swarm_41 rfl ?_
  refine jn_idiv dX10_swarm_43 hk (by decide) (by decide) ?_
  refine j_iload_n dX10_swarm_44 rfl rfl ?_
  refine j_bipush (v := nI 10) dX10_swarm_45 rfl ?_
  refine jn_irem dX10_swarm_47 hk (by decide) (by decide) ?_
  refine j_callVi [.int _, .int _] [] dX10_swarm_48 jlk_X10_201 rfl rfl rfl rfl (Nat.le_of_ble_eq_true rfl) (c_X0_emptyAbout (Or.inr (Or.inr (Or.inl rfl))) (bec_47 hc) hsw.1 (by omega)) ?_
  rw [cA_1, cA_2, cX_cX, cA_cA]
  refine j_istore_n (lv' := [some (.ref 4), some (.int _), some (.int _), some (.int _)]) dX10_swarm_51 rfl (by decide) rfl ?_
  refine j_iload_n dX10_swarm_52 rfl rfl ?_
  refine j_iconst (v := (-1)) dX10_swarm_53 rfl ?_
  refine j_icmp_ne (tgt := 61) dX10_swarm_54 (by decide) (fun h54 => ?_) (fun h54 => absurd h54 (nI_nm1 (by omega)))
  refine j_aload_n dX10_swarm_61 rfl rfl ?_
  refine t_getR (b := 47) dX10_swarm_62 jfl_X10_50 (fun _ _ _ => rfl) rfl ?_
  refine j_iload_n dX10_swarm_65 rfl rfl ?_
  refine j_callVi [.int _] [] dX10_swarm_66 jlk_X10_130 rfl rfl rfl rfl (Nat.le_of_ble_eq_true rfl) (c_X0_balanceOf (Or.inr (Or.inr (Or.inl rfl)))) ?_
  rw [cA_1, cA_2]
  refine j_ireturn dX10_swarm_69 rfl ?_
  exact ⟨rfl, rfl⟩

set_option maxHeartbeats 200000 in
set_option maxRecDepth 100000 in
theorem c_eat (hc : cok X A 43) {m : Nat} (hm : m < 50) : jMet (d + 5) yX10_eat cX10_eat 3 (some .int) 0 0 [.ref 4, .int (nI m)] (tw X A L) (jRi (nI (min m (hN (A 44)))) (tw (cX X 43 (winS (min m (hN (A 44))) (A 44, A 45)).1) (cA (va_up A 55 (upd (upd (A 55) 2 (A 55 2 + nI (min m (hN (A 44))))) 5 (A 55 5 + nI 1))) 43 (winS (min m (hN (A 44))) (A 44, A 45)).1 (winS (min m (hN (A 44))) (A 44, A 45)).2) L)) := by
  refine jMet_of (by decide) (Nat.le_of_ble_eq_true rfl) none (Or.inl rfl) ?_
  show jWP none RX10 cX10_eat 3 (some .int) (d + 5) 0 0 0 [some (.ref 4), some (.int (nI m)), none] [] (tw X A L) (jRi (nI (min m (hN (A 44)))) (tw (cX X 43 (winS (min m (hN (A 44))) (A 44, A 45)).1) (cA (va_up A 55 (upd (upd (A 55) 2 (A 55 2 + nI (min m (hN (A 44))))) 5 (A 55 5 + nI 1))) 43 (winS (min m (hN (A 44))) (A 44, A 45)).1 (winS (min m (hN (A 44))) (A 44, A 45)).2) L))
  refine j_iload_n dX10_eat_0 rfl rfl ?_
  refine jn_if_lt (tgt := 10) dX10_eat_1 (by decide) (by omega) ?_
  refine j_iload_n dX10_eat_4 rfl rfl ?_
  refine j_bipush (v := nI 49) dX10_eat_5 rfl ?_
  refine jn_icmp_le (tgt := 12) dX10_eat_7 (by decide) (by omega) (by omega) (fun h7 => ?_) (fun h7 => absurd h7 (by omega))
  refine j_aload_n dX10_eat_12 rfl rfl ?_
  refine t_getR (b := 43) dX10_eat_13 jfl_X10_46 (fun _ _ _ => rfl) rfl ?_
  refine j_iload_n dX10_eat_16 rfl rfl ?_
  refine j_callVi [.int _] [] dX10_eat_17 jlk_X10_185 rfl rfl rfl rfl (Nat.le_of_ble_eq_true rfl) (c_X0_eatCells (Or.inr (Or.inl rfl)) hc (by omega)) ?_
  rw [show (43 + 1 : Nat) = 44 from rfl, show (43 + 2 : Nat) = 45 from rfl]
  refine j_istore_n (lv' := [some (.ref 4), some (.int _), some (.int _)]) dX10_eat_20 rfl (by decide) rfl ?_
  refine j_aload_n dX10_eat_21 rfl rfl ?_
  refine t_getR (b := 55) dX10_eat_22 jfl_X10_56 (fun _ _ _ => rfl) rfl ?_
  refine j_iconst (v := nI 2) dX10_eat_25 rfl ?_
  refine j_dup2 dX10_eat_26 rfl rfl ?_
  refine t_iaload dX10_eat_27 (fun _ _ _ => rfl) (by omega) (by decide) ?_
  refine j_iload_n dX10_eat_28 rfl rfl ?_
  refine j_iadd dX10_eat_29 ?_
  refine t_iastore dX10_eat_30 (fun _ _ _ => rfl) (by omega) (by decide) ?_
  refine j_aload_n dX10_eat_31 rfl rfl ?_
  refine t_getR (b := 55) dX10_eat_32 jfl_X10_56 (fun _ _ _ => rfl) rfl ?_
  refine j_iconst (v := nI 5) dX10_eat_35 rfl ?_
  refine j_dup2 dX10_eat_36 rfl rfl ?_
  refine t_iaload dX10_eat_37 (fun _ _ _ => rfl) (by omega) (by decide) ?_
  refine j_iconst (v := nI 1) dX10_eat_38 rfl ?_
  refine j_iadd dX10_eat_39 ?_
  refine t_iastore dX10_eat_40 (fun _ _ _ => rfl) (by omega) (by decide) ?_
  refine j_iload_n dX10_eat_41 rfl rfl ?_
  refine j_ireturn dX10_eat_42 rfl ?_
  refine ⟨rfl, tw_eq rfl ?_ rfl⟩
  rw [cA_vu _ _ _ _ (by decide) (by decide) (by decide), cA_vu _ _ _ _ (by decide) (by decide) (by decide), cA_n _ _ _ (by decide) (by decide) (by decide), cA_n _ _ _ (by decide) (by decide) (by decide), vu_s, vu_up, pk_un (by decide)]

set_option maxHeartbeats 200000 in
set_option maxRecDepth 100000 in
theorem c_eat_no {c : Int32} (h : isA 50 c = nI 0) : jMet (d + 5) yX10_eat cX10_eat 3 (some .int) 0 0 [.ref 4, .int c] (tw X A L) (jRi (-1) (tw X A L)) := by
  refine jMet_of (by decide) (Nat.le_of_ble_eq_true rfl) none (Or.inl rfl) ?_
  show jWP none RX10 cX10_eat 3 (some .int) (d + 5) 0 0 0 [some (.ref 4), some (.int c), none] [] (tw X A L) (jRi (-1) (tw X A L))
  refine j_iload_n dX10_eat_0 rfl rfl ?_
  refine j_if_lt (tgt := 10) dX10_eat_1 (by decide) (fun h1 => ?_) (fun h1 => ?_)
  · refine j_iconst (v := (-1)) dX10_eat_10 rfl ?_
    refine j_ireturn dX10_eat_11 rfl ?_
    exact ⟨rfl, rfl⟩
  · refine j_iload_n dX10_eat_4 rfl rfl ?_
    refine j_bipush (v := nI 49) dX10_eat_5 rfl ?_
    refine j_icmp_le (tgt := 12) dX10_eat_7 (by decide) (fun h7 => ?_) (fun h7 => ?_)
    · exfalso
      obtain ⟨j, hj, rfl⟩ := ixle h1 (Int32.not_lt.mpr h7) (by decide)
      rw [isA_in (by omega) (by decide)] at h
      exact absurd h (by decide)
    · refine j_iconst (v := (-1)) dX10_eat_10 rfl ?_
      refine j_ireturn dX10_eat_11 rfl ?_
      exact ⟨rfl, rfl⟩

set_option maxHeartbeats 200000 in
set_option maxRecDepth 100000 in
theorem c_run (hc : cok X A 43) : jMet (d + 4) yX10_run cX10_run 2 (some .int) 0 0 [.ref 4] (tw X A L) (jRi (nI (htC (A 44) (A 45) 49).2) (tw (cX X 43 (htC (A 44) (A 45) 49).1) (cA (va_up A 55 (upd (A 55) 3 (A 55 3 + nI (htC (A 44) (A 45) 49).2))) 43 (htC (A 44) (A 45) 49).1 (A 45)) L)) := by
  refine jMet_of (by decide) (Nat.le_of_ble_eq_true rfl) none (Or.inl rfl) ?_
  show jWP none RX10 cX10_run 2 (some .int) (d + 4) 0 0 0 [some (.ref 4), none] [] (tw X A L) (jRi (nI (htC (A 44) (A 45) 49).2) (tw (cX X 43 (htC (A 44) (A 45) 49).1) (cA (va_up A 55 (upd (A 55) 3 (A 55 3 + nI (htC (A 44) (A 45) 49).2))) 43 (htC (A 44) (A 45) 49).1 (A 45)) L))
  refine j_aload_n dX10_run_0 rfl rfl ?_
  refine t_getR (b := 43) dX10_run_1 jfl_X10_46 (fun _ _ _ => rfl) rfl ?_
  refine j_callVi [] [] dX10_run_4 jlk_X10_195 rfl rfl rfl rfl (Nat.le_of_ble_eq_true rfl) (c_X0_heatUp (Or.inr (Or.inl rfl)) hc) ?_
  rw [show (43 + 1 : Nat) = 44 from rfl, show (43 + 2 : Nat) = 45 from rfl]
  refine j_istore_n (lv' := [some (.ref 4), some (.int _)]) dX10_run_7 rfl (by decide) rfl ?_
  refine j_aload_n dX10_run_8 rfl rfl ?_
  refine t_getR (b := 55) dX10_run_9 jfl_X10_56 (fun _ _ _ => rfl) rfl ?_
  refine j_iconst (v := nI 3) dX10_run_12 rfl ?_
  refine j_dup2 dX10_run_13 rfl rfl ?_
  refine t_iaload dX10_run_14 (fun _ _ _ => rfl) (by omega) (by decide) ?_
  refine j_iload_n dX10_run_15 rfl rfl ?_
  refine j_iadd dX10_run_16 ?_
  refine t_iastore dX10_run_17 (fun _ _ _ => rfl) (by omega) (by decide) ?_
  refine j_iload_n dX10_run_18 rfl rfl ?_
  refine j_ireturn dX10_run_19 rfl ?_
  refine ⟨rfl, tw_eq rfl ?_ rfl⟩
  rw [cA_vu _ _ _ _ (by decide) (by decide) (by decide), cA_n _ _ _ (by decide) (by decide) (by decide)]

set_option maxHeartbeats 200000 in
set_option maxRecDepth 100000 in
theorem c_fly (hc : cok X A 43) {k : Nat} (hk : k < 2 ^ 31) (h : swB k = true) : jMet (d + 5) yX10_fly cX10_fly 3 (some .int) 0 0 [.ref 4, .int (nI k)] (tw X A L) (jRi (nI (abS (k / 10) (k % 10) (A 44, A 45) 49).2) (tw (cX X 43 (abS (k / 10) (k % 10) (A 44, A 45) 49).1.1) (cA (va_up A 55 (upd (A 55) 4 (A 55 4 + nI (abS (k / 10) (k % 10) (A 44, A 45) 49).2))) 43 (abS (k / 10) (k % 10) (A 44, A 45) 49).1.1 (abS (k / 10) (k % 10) (A 44, A 45) 49).1.2) L)) := by
  refine jMet_of (by decide) (Nat.le_of_ble_eq_true rfl) none (Or.inl rfl) ?_
  show jWP none RX10 cX10_fly 3 (some .int) (d + 5) 0 0 0 [some (.ref 4), some (.int (nI k)), none] [] (tw X A L) (jRi (nI (abS (k / 10) (k % 10) (A 44, A 45) 49).2) (tw (cX X 43 (abS (k / 10) (k % 10) (A 44, A 45) 49).1.1) (cA (va_up A 55 (upd (A 55) 4 (A 55 4 + nI (abS (k / 10) (k % 10) (A 44, A 45) 49).2))) 43 (abS (k / 10) (k % 10) (A 44, A 45) 49).1.1 (abS (k / 10) (k % 10) (A 44, A 45) 49).1.2) L))
  have hsw : k / 10 < 49 ∧ k % 10 ≤ 3 := by unfold swB at h; simpa using h
  refine j_iload_n dX10_fly_0 rfl rfl ?_
  refine j_callSi [.int _] [] dX10_fly_1 jlk_X10_198 rfl rfl (Nat.le_of_ble_eq_true rfl) (c_isSwarm_b hk h) ?_
  refine j_if_ne (tgt := 9) dX10_fly_4 (by decide) (fun _ => ?_) (fun h => absurd h (by decide))
  refine j_aload_n dX10_fly_9 rfl rfl ?_
  refine t_getR (b := 43) dX10_fly_10 jfl_X10_46 (fun _ _ _ => rfl) rfl ?_
  refine j_iload_n dX10_fly_13 rfl rfl ?_
  refine j_bipush (v := nI 10) dX10_fly_14 rfl ?_
  refine jn_idiv dX10_fly_16 hk (by decide) (by decide) ?_
  refine j_iload_n dX10_fly_17 rfl rfl ?_
  refine j_bipush (v := nI 10) dX10_fly_18 rfl ?_
  refine jn_irem dX10_fly_20 hk (by decide) (by decide) ?_
  refine j_callVi [.int _, .int _] [] dX10_fly_21 jlk_X10_201 rfl rfl rfl rfl (Nat.le_of_ble_eq_true rfl) (c_X0_emptyAbout (Or.inr (Or.inl rfl)) hc hsw.1 (by omega)) ?_
  rw [show (43 + 1 : Nat) = 44 from rfl, show (43 + 2 : Nat) = 45 from rfl]
  refine j_istore_n (lv' := [some (.ref 4), some (.int _), some (.int _)]) dX10_fly_24 rfl (by decide) rfl ?_
  refine j_aload_n dX10_fly_25 rfl rfl ?_
  refine t_getR (b := 55) dX10_fly_26 jfl_X10_56 (fun _ _ _ => rfl) rfl ?_
  refine j_iconst (v := nI 4) dX10_fly_29 rfl ?_
  refine j_dup2 dX10_fly_30 rfl rfl ?_
  refine t_iaload dX10_fly_31 (fun _ _ _ => rfl) (by omega) (by decide) ?_
  refine j_iload_n dX10_fly_32 rfl rfl ?_
  refine j_iadd dX10_fly_33 ?_
  refine t_iastore dX10_fly_34 (fun _ _ _ => rfl) (by omega) (by decide) ?_
  refine j_iload_n dX10_fly_35 rfl rfl ?_
  refine j_ireturn dX10_fly_36 rfl ?_
  refine ⟨rfl, tw_eq rfl ?_ rfl⟩
  rw [cA_vu _ _ _ _ (by decide) (by decide) (by decide), cA_n _ _ _ (by decide) (by decide) (by decide)]

set_option maxHeartbeats 200000 in
set_option maxRecDepth 100000 in
theorem c_fly_no {k : Nat} (hk : k < 2 ^ 31) (h : swB k = false) : jMet (d + 5) yX10_fly cX10_fly 3 (some .int) 0 0 [.ref 4, .int (nI k)] (tw X A L) (jRi (-1) (tw X A L)) := by
  refine jMet_of (by decide) (Nat.le_of_ble_eq_true rfl) none (Or.inl rfl) ?_
  show jWP none RX10 cX10_fly 3 (some .int) (d + 5) 0 0 0 [some (.ref 4), some (.int (nI k)), none] [] (tw X A L) (jRi (-1) (tw X A L))
  refine j_iload_n dX10_fly_0 rfl rfl ?_
  refine j_callSi [.int _] [] dX10_fly_1 jlk_X10_198 rfl rfl (Nat.le_of_ble_eq_true rfl) (c_isSwarm_b hk h) ?_
  refine j_if_ne (tgt := 9) dX10_fly_4 (by decide) (fun h => absurd (by decide) h) (fun _ => ?_)
  refine j_iconst (v := (-1)) dX10_fly_7 rfl ?_
  refine j_ireturn dX10_fly_8 rfl ?_
  exact ⟨rfl, rfl⟩

set_option maxHeartbeats 200000 in
set_option maxRecDepth 100000 in
theorem c_fly_neg {c : Int32} (h : c < 0) : jMet (d + 5) yX10_fly cX10_fly 3 (some .int) 0 0 [.ref 4, .int c] (tw X A L) (jRi (-1) (tw X A L)) := by
  refine jMet_of (by decide) (Nat.le_of_ble_eq_true rfl) none (Or.inl rfl) ?_
  show jWP none RX10 cX10_fly 3 (some .int) (d + 5) 0 0 0 [some (.ref 4), some (.int c), none] [] (tw X A L) (jRi (-1) (tw X A L))
  refine j_iload_n dX10_fly_0 rfl rfl ?_
  refine j_callSi [.int _] [] dX10_fly_1 jlk_X10_198 rfl rfl (Nat.le_of_ble_eq_true rfl) (c_isSwarm_neg h) ?_
  refine j_if_ne (tgt := 9) dX10_fly_4 (by decide) (fun h => absurd (by decide) h) (fun _ => ?_)
  refine j_iconst (v := (-1)) dX10_fly_7 rfl ?_
  refine j_ireturn dX10_fly_8 rfl ?_
  exact ⟨rfl, rfl⟩

set_option maxHeartbeats 200000 in
set_option maxRecDepth 100000 in
theorem c_led {j : Nat} (hj : j < 6) : jMet (d) yX10_led cX10_led 2 (some .int) 0 0 [.ref 4, .int (nI j)] (tw X A L) (jRi (A 55 j) (tw X A L)) := by
  refine jMet_of (by decide) (Nat.le_of_ble_eq_true rfl) none (Or.inl rfl) ?_
  show jWP none RX10 cX10_led 2 (some .int) (d) 0 0 0 [some (.ref 4), some (.int (nI j))] [] (tw X A L) (jRi (A 55 j) (tw X A L))
  refine j_iload_n dX10_led_0 rfl rfl ?_
  refine jn_if_lt (tgt := 10) dX10_led_1 (by decide) (by omega) ?_
  refine j_iload_n dX10_led_4 rfl rfl ?_
  refine j_bipush (v := nI 6) dX10_led_5 rfl ?_
  refine jn_icmp_lt (tgt := 14) dX10_led_7 (by decide) (by omega) (by omega) (fun h7 => ?_) (fun h7 => absurd h7 (by omega))
  refine j_aload_n dX10_led_14 rfl rfl ?_
  refine t_getR (b := 55) dX10_led_15 jfl_X10_56 (fun _ _ _ => rfl) rfl ?_
  refine j_iload_n dX10_led_18 rfl rfl ?_
  refine t_iaload dX10_led_19 (fun _ _ _ => rfl) (by omega) (by decide) ?_
  refine j_ireturn dX10_led_20 rfl ?_
  exact ⟨rfl, rfl⟩

set_option maxHeartbeats 200000 in
set_option maxRecDepth 100000 in
theorem c_led_no {c : Int32} (h : isA 6 c = nI 0) : jMet (d) yX10_led cX10_led 2 (some .int) 0 0 [.ref 4, .int c] (tw X A L) (jRi (-1) (tw X A L)) := by
  refine jMet_of (by decide) (Nat.le_of_ble_eq_true rfl) none (Or.inl rfl) ?_
  show jWP none RX10 cX10_led 2 (some .int) (d) 0 0 0 [some (.ref 4), some (.int c)] [] (tw X A L) (jRi (-1) (tw X A L))
  refine j_iload_n dX10_led_0 rfl rfl ?_
  refine j_if_lt (tgt := 10) dX10_led_1 (by decide) (fun h1 => ?_) (fun h1 => ?_)
  · refine j_iconst (v := (-1)) dX10_led_10 rfl ?_
    refine j_goto (tgt := 20) dX10_led_11 (by decide) ?_
    refine j_ireturn dX10_led_20 rfl ?_
    exact ⟨rfl, rfl⟩
  · refine j_iload_n dX10_led_4 rfl rfl ?_
    refine j_bipush (v := nI 6) dX10_led_5 rfl ?_
    refine j_icmp_lt (tgt := 14) dX10_led_7 (by decide) (fun h7 => ?_) (fun h7 => ?_)
    · exfalso
      rcases pk_ix c (n := 6) (by decide) with q | q | ⟨j, hj, rfl⟩
      · exact h1 q
      · exact absurd h7 (Int32.not_lt.mpr q)
      · rw [isA_in hj (by decide)] at h; exact absurd h (by decide)
    · refine j_iconst (v := (-1)) dX10_led_10 rfl ?_
      refine j_goto (tgt := 20) dX10_led_11 (by decide) ?_
      refine j_ireturn dX10_led_20 rfl ?_
      exact ⟨rfl, rfl⟩

end CT21