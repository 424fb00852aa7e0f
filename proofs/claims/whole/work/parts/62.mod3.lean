def owF (c t : Nat) : Nat → Int32
  | 0 => -2
  | i + 1 => if isNx c i = true then (if cnt (isNx c) i = t then nI i else owF c t i) else owF c t i
theorem owF_tab {c t : Nat} (hc : c < 49) (ht : t < 6) : owF c t 49 = if t < dg c then nI (nb c t) else -2 := by
  have q : (List.range 49).all (fun c => (List.range 6).all fun t => decide (owF c t 49 = if t < dg c then nI (nb c t) else -2)) = true := by decide +kernel
  exact of_decide_eq_true (List.all_eq_true.mp (List.all_eq_true.mp q c (List.mem_range.mpr hc)) t (List.mem_range.mpr ht))
theorem dg_cnt2 {c : Nat} : cnt (isNx c) 49 = dg c := (cnt_filter (isNx c) 49).symm
def iA (A : Nat → Nat → Int32) (O S E : Nat → Int32) : Nat → Nat → Int32 := va_up (va_up (va_up A 95 O) 96 S) 97 E
section CT42
variable {d : Nat} {X A : Nat → Nat → Int32} {L : Nat → Nat → Int64} {w : jW} {na : Nat} {v : Nat → Nat}

set_option maxHeartbeats 200000 in
set_option maxRecDepth 100000 in
theorem m_mend_no (hn : X 76 7 = nI na) (h6 : na ≤ 6) {c t : Int32} (h : isT na c t = nI 0) {x : Int32} : jMet (d + 3) yX11_mend cX11_mend 6 (some .int) 0 0 [.ref 76, .int c, .int t, .int x] (tw X A L) (jRi (-1) (tw X A L)) := by
  refine jMet_of (by decide) (Nat.le_of_ble_eq_true rfl) none (Or.inl rfl) ?_
  show jWP none RX11 cX11_mend 6 (some .int) (d + 3) 0 0 0 [some (.ref 76), some (.int c), some (.int t), some (.int x), none, none] [] (tw X A L) (jRi (-1) (tw X A L))
  refine j_aload_n dX11_mend_0 rfl rfl ?_
  refine j_iload_n dX11_mend_1 rfl rfl ?_
  refine j_iload_n dX11_mend_2 rfl rfl ?_
  refine j_callVi [.int _, .int _] [] dX11_mend_3 jlk_X11_133 rfl rfl rfl rfl (Nat.le_of_ble_eq_true rfl) (m_placeOf_no hn h6 h) ?_
  refine j_istore (lv' := [some (.ref 76), some (.int _), some (.int _), some (.int _), some (.int _), none]) dX11_mend_6 (by decide) rfl ?_
  refine j_iload_n dX11_mend_8 rfl rfl ?_
  refine j_if_ne (tgt := 17) dX11_mend_9 (by decide) (fun h9 => ?_) (fun h9 => ?_)
  · refine j_iload_n dX11_mend_17 rfl rfl ?_
    refine j_iconst (v := nI 1) dX11_mend_18 rfl ?_
    refine j_icmp_ne (tgt := 27) dX11_mend_19 (by decide) (fun h19 => ?_) (fun h19 => ?_)
    · refine j_bipush (v := nI 6) dX11_mend_27 rfl ?_
      refine j_istore (lv' := [some (.ref 76), some (.int _), some (.int _), some (.int _), some (.int _), some (.int _)]) dX11_mend_29 (by decide) rfl ?_
      refine j_iload dX11_mend_31 rfl ?_
      refine j_if_lt (tgt := 58) dX11_mend_33 (by decide) (fun h33 => ?_) (fun h33 => absurd (by decide) h33)
      refine j_iconst (v := (-1)) dX11_mend_58 rfl ?_
      refine j_ireturn dX11_mend_59 rfl ?_
      exact ⟨rfl, rfl⟩
    · refine j_bipush (v := nI 12) dX11_mend_22 rfl ?_
      refine j_goto (tgt := 29) dX11_mend_24 (by decide) ?_
      refine j_istore (lv' := [some (.ref 76), some (.int _), some (.int _), some (.int _), some (.int _), some (.int _)]) dX11_mend_29 (by decide) rfl ?_
      refine j_iload dX11_mend_31 rfl ?_
      refine j_if_lt (tgt := 58) dX11_mend_33 (by decide) (fun h33 => ?_) (fun h33 => absurd (by decide) h33)
      refine j_iconst (v := (-1)) dX11_mend_58 rfl ?_
      refine j_ireturn dX11_mend_59 rfl ?_
      exact ⟨rfl, rfl⟩
  · refine j_bipush (v := nI 48) dX11_mend_12 rfl ?_
    refine j_goto (tgt := 29) dX11_mend_14 (by decide) ?_
    refine j_istore (lv' := [some (.ref 76), some (.int _), some (.int _), some (.int _), some (.int _), some (.int _)]) dX11_mend_29 (by decide) rfl ?_
    refine j_iload dX11_mend_31 rfl ?_
    refine j_if_lt (tgt := 58) dX11_mend_33 (by decide) (fun h33 => ?_) (fun h33 => absurd (by decide) h33)
    refine j_iconst (v := (-1)) dX11_mend_58 rfl ?_
    refine j_ireturn dX11_mend_59 rfl ?_
    exact ⟨rfl, rfl⟩

set_option maxHeartbeats 200000 in
set_option maxRecDepth 100000 in
theorem m_mend_no2 (hn : X 76 7 = nI na) (h6 : na ≤ 6) {j t : Nat} (ht : thr na j t) {x : Int32} (h : mb t x = nI 0) : jMet (d + 3) yX11_mend cX11_mend 6 (some .int) 0 0 [.ref 76, .int (nI j), .int (nI t), .int x] (tw X A L) (jRi (-1) (tw X A L)) := by
  refine jMet_of (by decide) (Nat.le_of_ble_eq_true rfl) none (Or.inl rfl) ?_
  show jWP none RX11 cX11_mend 6 (some .int) (d + 3) 0 0 0 [some (.ref 76), some (.int (nI j)), some (.int (nI t)), some (.int x), none, none] [] (tw X A L) (jRi (-1) (tw X A L))
  have hl := thr_lt ht h6
  refine j_aload_n dX11_mend_0 rfl rfl ?_
  refine j_iload_n dX11_mend_1 rfl rfl ?_
  refine j_iload_n dX11_mend_2 rfl rfl ?_
  refine j_callVi [.int _, .int _] [] dX11_mend_3 jlk_X11_133 rfl rfl rfl rfl (Nat.le_of_ble_eq_true rfl) (m_placeOf hn h6 ht) ?_
  refine j_istore (lv' := [some (.ref 76), some (.int _), some (.int _), some (.int _), some (.int _), none]) dX11_mend_6 (by decide) rfl ?_
  refine j_iload_n dX11_mend_8 rfl rfl ?_
  refine jn_if_ne (tgt := 17) dX11_mend_9 (by decide) (by omega) (fun h9 => ?_) (fun h9 => ?_)
  · refine j_iload_n dX11_mend_17 rfl rfl ?_
    refine j_iconst (v := nI 1) dX11_mend_18 rfl ?_
    refine jn_icmp_ne (tgt := 27) dX11_mend_19 (by decide) (by omega) (by omega) (fun h19 => ?_) (fun h19 => ?_)
    · refine j_bipush (v := nI 6) dX11_mend_27 rfl ?_
      refine j_istore (lv' := [some (.ref 76), some (.int _), some (.int _), some (.int _), some (.int _), some (.int _)]) dX11_mend_29 (by decide) rfl ?_
      refine j_iload dX11_mend_31 rfl ?_
      refine jn_if_lt (tgt := 58) dX11_mend_33 (by decide) (by omega) ?_
      refine j_iload_n dX11_mend_36 rfl rfl ?_
      refine j_i2l dX11_mend_37 ?_
      refine j_lconst (v := 0) dX11_mend_38 rfl ?_
      refine j_iload dX11_mend_39 rfl ?_
      refine j_i2l dX11_mend_41 ?_
      refine j_callSi [.long _, .long _, .long _] [] dX11_mend_42 jlk_X11_111 rfl rfl (Nat.le_of_ble_eq_true rfl) (jMet_i m_within ((wi_mb (t := t) (by rw [show mx t = 6 from (if_neg (by omega)).trans (if_neg (by omega))])).trans h) rfl) ?_
      refine j_if_eq (tgt := 58) dX11_mend_45 (by decide) (fun _ => ?_) (fun h => absurd (by decide) h)
      refine j_iconst (v := (-1)) dX11_mend_58 rfl ?_
      refine j_ireturn dX11_mend_59 rfl ?_
      exact ⟨rfl, rfl⟩
    · refine j_bipush (v := nI 12) dX11_mend_22 rfl ?_
      refine j_goto (tgt := 29) dX11_mend_24 (by decide) ?_
      refine j_istore (lv' := [some (.ref 76), some (.int _), some (.int _), some (.int _), some (.int _), some (.int _)]) dX11_mend_29 (by decide) rfl ?_
      refine j_iload dX11_mend_31 rfl ?_
      refine jn_if_lt (tgt := 58) dX11_mend_33 (by decide) (by omega) ?_
      refine j_iload_n dX11_mend_36 rfl rfl ?_
      refine j_i2l dX11_mend_37 ?_
      refine j_lconst (v := 0) dX11_mend_38 rfl ?_
      refine j_iload dX11_mend_39 rfl ?_
      refine j_i2l dX11_mend_41 ?_
      refine j_callSi [.long _, .long _, .long _] [] dX11_mend_42 jlk_X11_111 rfl rfl (Nat.le_of_ble_eq_true rfl) (jMet_i m_within ((wi_mb (t := t) (by rw [show mx t = 12 from (if_neg (by omega)).trans (if_pos h19)])).trans h) rfl) ?_
      refine j_if_eq (tgt := 58) dX11_mend_45 (by decide) (fun _ => ?_) (fun h => absurd (by decide) h)
      refine j_iconst (v := (-1)) dX11_mend_58 rfl ?_
      refine j_ireturn dX11_mend_59 rfl ?_
      exact ⟨rfl, rfl⟩
  · refine j_bipush (v := nI 48) dX11_mend_12 rfl ?_
    refine j_goto (tgt := 29) dX11_mend_14 (by decide) ?_
    refine j_istore (lv' := [some (.ref 76), some (.int _), some (.int _), some (.int _), some (.int _), some (.int _)]) dX11_mend_29 (by decide) rfl ?_
    refine j_iload dX11_mend_31 rfl ?_
    refine jn_if_lt (tgt := 58) dX11_mend_33 (by decide) (by omega) ?_
    refine j_iload_n dX11_mend_36 rfl rfl ?_
    refine j_i2l dX11_mend_37 ?_
    refine j_lconst (v := 0) dX11_mend_38 rfl ?_
    refine j_iload dX11_mend_39 rfl ?_
    refine j_i2l dX11_mend_41 ?_
    refine j_callSi [.long _, .long _, .long _] [] dX11_mend_42 jlk_X11_111 rfl rfl (Nat.le_of_ble_eq_true rfl) (jMet_i m_within ((wi_mb (t := t) (by rw [show mx t = 48 from if_pos h9])).trans h) rfl) ?_
    refine j_if_eq (tgt := 58) dX11_mend_45 (by decide) (fun _ => ?_) (fun h => absurd (by decide) h)
    refine j_iconst (v := (-1)) dX11_mend_58 rfl ?_
    refine j_ireturn dX11_mend_59 rfl ?_
    exact ⟨rfl, rfl⟩

set_option maxHeartbeats 200000 in
set_option maxRecDepth 100000 in
theorem m_mend_same (hn : X 76 7 = nI na) (h6 : na ≤ 6) (hv : A 77 = nIf v) {j t : Nat} (ht : thr na j t) (hx : v (pOf j t) ≤ mx t) (hb : v (pOf j t) < 2 ^ 31) : jMet (d + 3) yX11_mend cX11_mend 6 (some .int) 0 0 [.ref 76, .int (nI j), .int (nI t), .int (nI (v (pOf j t)))] (tw X A L) (jRi (nI (v (pOf j t))) (tw X A L)) := by
  refine jMet_of (by decide) (Nat.le_of_ble_eq_true rfl) none (Or.inl rfl) ?_
  show jWP none RX11 cX11_mend 6 (some .int) (d + 3) 0 0 0 [some (.ref 76), some (.int (nI j)), some (.int (nI t)), some (.int (nI (v (pOf j t)))), none, none] [] (tw X A L) (jRi (nI (v (pOf j t))) (tw X A L))
  have hl := thr_lt ht h6
  refine j_aload_n dX11_mend_0 rfl rfl ?_
  refine j_iload_n dX11_mend_1 rfl rfl ?_
  refine j_iload_n dX11_mend_2 rfl rfl ?_
  refine j_callVi [.int _, .int _] [] dX11_mend_3 jlk_X11_133 rfl rfl rfl rfl (Nat.le_of_ble_eq_true rfl) (m_placeOf hn h6 ht) ?_
  refine j_istore (lv' := [some (.ref 76), some (.int _), some (.int _), some (.int _), some (.int _), none]) dX11_mend_6 (by decide) rfl ?_
  refine j_iload_n dX11_mend_8 rfl rfl ?_
  refine jn_if_ne (tgt := 17) dX11_mend_9 (by decide) (by omega) (fun h9 => ?_) (fun h9 => ?_)
  · refine j_iload_n dX11_mend_17 rfl rfl ?_
    refine j_iconst (v := nI 1) dX11_mend_18 rfl ?_
    refine jn_icmp_ne (tgt := 27) dX11_mend_19 (by decide) (by omega) (by omega) (fun h19 => ?_) (fun h19 => ?_)
    · refine j_bipush (v := nI 6) dX11_mend_27 rfl ?_
      refine j_istore (lv' := [some (.ref 76), some (.int _), some (.int _), some (.int _), some (.int _), some (.int _)]) dX11_mend_29 (by decide) rfl ?_
      refine j_iload dX11_mend_31 rfl ?_
      refine jn_if_lt (tgt := 58) dX11_mend_33 (by decide) (by omega) ?_
      refine j_iload_n dX11_mend_36 rfl rfl ?_
      refine j_i2l dX11_mend_37 ?_
      refine j_lconst (v := 0) dX11_mend_38 rfl ?_
      refine j_iload dX11_mend_39 rfl ?_
      refine j_i2l dX11_mend_41 ?_
      refine j_callSi [.long _, .long _, .long _] [] dX11_mend_42 jlk_X11_111 rfl rfl (Nat.le_of_ble_eq_true rfl) (jMet_i m_within ((wi_mb (t := t) (by rw [show mx t = 6 from (if_neg (by omega)).trans (if_neg (by omega))])).trans (mb_in hx)) rfl) ?_
      refine j_if_eq (tgt := 58) dX11_mend_45 (by decide) (fun h => absurd h (by decide)) (fun _ => ?_)
      refine j_aload_n dX11_mend_48 rfl rfl ?_
      refine j_iload dX11_mend_49 rfl ?_
      refine j_iload_n dX11_mend_51 rfl rfl ?_
      refine j_callVi [.int _, .int _] [] dX11_mend_52 jlk_X11_137 rfl rfl rfl rfl (Nat.le_of_ble_eq_true rfl) (m_becomes_same hv (by omega) hb) ?_
      refine j_goto (tgt := 59) dX11_mend_55 (by decide) ?_
      refine j_ireturn dX11_mend_59 rfl ?_
      exact ⟨rfl, rfl⟩
    · refine j_bipush (v := nI 12) dX11_mend_22 rfl ?_
      refine j_goto (tgt := 29) dX11_mend_24 (by decide) ?_
      refine j_istore (lv' := [some (.ref 76), some (.int _), some (.int _), some (.int _), some (.int _), some (.int _)]) dX11_mend_29 (by decide) rfl ?_
      refine j_iload dX11_mend_31 rfl ?_
      refine jn_if_lt (tgt := 58) dX11_mend_33 (by decide) (by omega) ?_
      refine j_iload_n dX11_mend_36 rfl rfl ?_
      refine j_i2l dX11_mend_37 ?_
      refine j_lconst (v := 0) dX11_mend_38 rfl ?_
      refine j_iload dX11_mend_39 rfl ?_
      refine j_i2l dX11_mend_41 ?_
      refine j_callSi [.long _, .long _, .long _] [] dX11_mend_42 jlk_X11_111 rfl rfl (Nat.le_of_ble_eq_true rfl) (jMet_i m_within ((wi_mb (t := t) (by rw [show mx t = 12 from (if_neg (by omega)).trans (if_pos h19)])).trans (mb_in hx)) rfl) ?_
      refine j_if_eq (tgt := 58) dX11_mend_45 (by decide) (fun h => absurd h (by decide)) (fun _ => ?_)
      refine j_aload_n dX11_mend_48 rfl rfl ?_
      refine j_iload dX11_mend_49 rfl ?_
      refine j_iload_n dX11_mend_51 rfl rfl ?_
      refine j_callVi [.int _, .int _] [] dX11_mend_52 jlk_X11_137 rfl rfl rfl rfl (Nat.le_of_ble_eq_true rfl) (m_becomes_same hv (by omega) hb) ?_
      refine j_goto (tgt := 59) dX11_mend_55 (by decide) ?_
      refine j_ireturn dX11_mend_59 rfl ?_
      exact ⟨rfl, rfl⟩
  · refine j_bipush (v := nI 48) dX11_mend_12 rfl ?_
    refine j_goto (tgt := 29) dX11_mend_14 (by decide) ?_
    refine j_istore (lv' := [some (.ref 76), some (.int _), some (.int _), some (.int _), some (.int _), some (.int _)]) dX11_mend_29 (by decide) rfl ?_
    refine j_iload dX11_mend_31 rfl ?_
    refine jn_if_lt (tgt := 58) dX11_mend_33 (by decide) (by omega) ?_
    refine j_iload_n dX11_mend_36 rfl rfl ?_
    refine j_i2l dX11_mend_37 ?_
    refine j_lconst (v := 0) dX11_mend_38 rfl ?_
    refine j_iload dX11_mend_39 rfl ?_
    refine j_i2l dX11_mend_41 ?_
    refine j_callSi [.long _, .long _, .long _] [] dX11_mend_42 jlk_X11_111 rfl rfl (Nat.le_of_ble_eq_true rfl) (jMet_i m_within ((wi_mb (t := t) (by rw [show mx t = 48 from if_pos h9])).trans (mb_in hx)) rfl) ?_
    refine j_if_eq (tgt := 58) dX11_mend_45 (by decide) (fun h => absurd h (by decide)) (fun _ => ?_)
    refine j_aload_n dX11_mend_48 rfl rfl ?_
    refine j_iload dX11_mend_49 rfl ?_
    refine j_iload_n dX11_mend_51 rfl rfl ?_
    refine j_callVi [.int _, .int _] [] dX11_mend_52 jlk_X11_137 rfl rfl rfl rfl (Nat.le_of_ble_eq_true rfl) (m_becomes_same hv (by omega) hb) ?_
    refine j_goto (tgt := 59) dX11_mend_55 (by decide) ?_
    refine j_ireturn dX11_mend_59 rfl ?_
    exact ⟨rfl, rfl⟩

set_option maxHeartbeats 200000 in
set_option maxRecDepth 100000 in
theorem m_mend (hn : X 76 7 = nI na) (h6 : na ≤ 6) (hv : A 77 = nIf v) {dn : Nat} {pl bf af : Nat → Nat} (hd : X 76 5 = nI dn) (hd40 : dn ≤ 40) (h78 : A 78 = nIf pl) (h79 : A 79 = nIf bf) (h80 : A 80 = nIf af) {j t x : Nat} (ht : thr na j t) (hx : x ≤ mx t) (hb : v (pOf j t) < 2 ^ 31) (hne : v (pOf j t) ≠ x) : jMet (d + 3) yX11_mend cX11_mend 6 (some .int) 0 0 [.ref 76, .int (nI j), .int (nI t), .int (nI x)] (tw X A L) (jRi (nI (v (pOf j t))) (tw (va_up X 76 (upd (upd (X 76) 5 (nI (rmd dn))) 4 (nI (rmd dn)))) (va_up (bA A (rm1 pl dn (pOf j t)) (rm1 bf dn (v (pOf j t))) (rm1 af dn x)) 77 (nIf (updN v (pOf j t) x))) L)) := by
  refine jMet_of (by decide) (Nat.le_of_ble_eq_true rfl) none (Or.inl rfl) ?_
  show jWP none RX11 cX11_mend 6 (some .int) (d + 3) 0 0 0 [some (.ref 76), some (.int (nI j)), some (.int (nI t)), some (.int (nI x)), none, none] [] (tw X A L) (jRi (nI (v (pOf j t))) (tw (va_up X 76 (upd (upd (X 76) 5 (nI (rmd dn))) 4 (nI (rmd dn)))) (va_up (bA A (rm1 pl dn (pOf j t)) (rm1 bf dn (v (pOf j t))) (rm1 af dn x)) 77 (nIf (updN v (pOf j t) x))) L))
  have hl := thr_lt ht h6
  have hx31 : x < 2 ^ 31 := by have := mx_le t; omega
  refine j_aload_n dX11_mend_0 rfl rfl ?_
  refine j_iload_n dX11_mend_1 rfl rfl ?_
  refine j_iload_n dX11_mend_2 rfl rfl ?_
  refine j_callVi [.int _, .int _] [] dX11_mend_3 jlk_X11_133 rfl rfl rfl rfl (Nat.le_of_ble_eq_true rfl) (m_placeOf hn h6 ht) ?_
  refine j_istore (lv' := [some (.ref 76), some (.int _), some (.int _), some (.int _), some (.int _), none]) dX11_mend_6 (by decide) rfl ?_
  refine j_iload_n dX11_mend_8 rfl rfl ?_
  refine jn_if_ne (tgt := 17) dX11_mend_9 (by decide) (by omega) (fun h9 => ?_) (fun h9 => ?_)
  · refine j_iload_n dX11_mend_17 rfl rfl ?_
    refine j_iconst (v := nI 1) dX11_mend_18 rfl ?_
    refine jn_icmp_ne (tgt := 27) dX11_mend_19 (by decide) (by omega) (by omega) (fun h19 => ?_) (fun h19 => ?_)
    · refine j_bipush (v := nI 6) dX11_mend_27 rfl ?_
      refine j_istore (lv' := [some (.ref 76), some (.int _), some (.int _), some (.int _), some (.int _), some (.int _)]) dX11_mend_29 (by decide) rfl ?_
      refine j_iload dX11_mend_31 rfl ?_
      refine jn_if_lt (tgt := 58) dX11_mend_33 (by decide) (by omega) ?_
      refine j_iload_n dX11_mend_36 rfl rfl ?_
      refine j_i2l dX11_mend_37 ?_
      refine j_lconst (v := 0) dX11_mend_38 rfl ?_
      refine j_iload dX11_mend_39 rfl ?_
      refine j_i2l dX11_mend_41 ?_
      refine j_callSi [.long _, .long _, .long _] [] dX11_mend_42 jlk_X11_111 rfl rfl (Nat.le_of_ble_eq_true rfl) (jMet_i m_within ((wi_mb (t := t) (by rw [show mx t = 6 from (if_neg (by omega)).trans (if_neg (by omega))])).trans (mb_in hx)) rfl) ?_
      refine j_if_eq (tgt := 58) dX11_mend_45 (by decide) (fun h => absurd h (by decide)) (fun _ => ?_)
      refine j_aload_n dX11_mend_48 rfl rfl ?_
      refine j_iload dX11_mend_49 rfl ?_
      refine j_iload_n dX11_mend_51 rfl rfl ?_
      refine j_callVi [.int _, .int _] [] dX11_mend_52 jlk_X11_137 rfl rfl rfl rfl (Nat.le_of_ble_eq_true rfl) (m_becomes hv hd hd40 h78 h79 h80 (by omega) hb hx31 hne) ?_
      refine j_goto (tgt := 59) dX11_mend_55 (by decide) ?_
      refine j_ireturn dX11_mend_59 rfl ?_
      exact ⟨rfl, rfl⟩
    · refine j_bipush (v := nI 12) dX11_mend_22 rfl ?_
      refine j_goto (tgt := 29) dX11_mend_24 (by decide) ?_
      refine j_istore (lv' := [some (.ref 76), some (.int _), some (.int _), some (.int _), some (.int _), some (.int _)]) dX11_mend_29 (by decide) rfl ?_
      refine j_iload dX11_mend_31 rfl ?_
      refine jn_if_lt (tgt := 58) dX11_mend_33 (by decide) (by omega) ?_
      refine j_iload_n dX11_mend_36 rfl rfl ?_
      refine j_i2l dX11_mend_37 ?_
      refine j_lconst (v := 0) dX11_mend_38 rfl ?_
      refine j_iload dX11_mend_39 rfl ?_
      refine j_i2l dX11_mend_41 ?_
      refine j_callSi [.long _, .long _, .long _] [] dX11_mend_42 jlk_X11_111 rfl rfl (Nat.le_of_ble_eq_true rfl) (jMet_i m_within ((wi_mb (t := t) (by rw [show mx t = 12 from (if_neg (by omega)).trans (if_pos h19)])).trans (mb_in hx)) rfl) ?_
      refine j_if_eq (tgt := 58) dX11_mend_45 (by decide) (fun h => absurd h (by decide)) (fun _ => ?_)
      refine j_aload_n dX11_mend_48 rfl rfl ?_
      refine j_iload dX11_mend_49 rfl ?_
      refine j_iload_n dX11_mend_51 rfl rfl ?_
      refine j_callVi [.int _, .int _] [] dX11_mend_52 jlk_X11_137 rfl rfl rfl rfl (Nat.le_of_ble_eq_true rfl) (m_becomes hv hd hd40 h78 h79 h80 (by omega) hb hx31 hne) ?_
      refine j_goto (tgt := 59) dX11_mend_55 (by decide) ?_
      refine j_ireturn dX11_mend_59 rfl ?_
      exact ⟨rfl, rfl⟩
  · refine j_bipush (v := nI 48) dX11_mend_12 rfl ?_
    refine j_goto (tgt := 29) dX11_mend_14 (by decide) ?_
    refine j_istore (lv' := [some (.ref 76), some (.int _), some (.int _), some (.int _), some (.int _), some (.int _)]) dX11_mend_29 (by decide) rfl ?_
    refine j_iload dX11_mend_31 rfl ?_
    refine jn_if_lt (tgt := 58) dX11_mend_33 (by decide) (by omega) ?_
    refine j_iload_n dX11_mend_36 rfl rfl ?_
    refine j_i2l dX11_mend_37 ?_
    refine j_lconst (v := 0) dX11_mend_38 rfl ?_
    refine j_iload dX11_mend_39 rfl ?_
    refine j_i2l dX11_mend_41 ?_
    refine j_callSi [.long _, .long _, .long _] [] dX11_mend_42 jlk_X11_111 rfl rfl (Nat.le_of_ble_eq_true rfl) (jMet_i m_within ((wi_mb (t := t) (by rw [show mx t = 48 from if_pos h9])).trans (mb_in hx)) rfl) ?_
    refine j_if_eq (tgt := 58) dX11_mend_45 (by decide) (fun h => absurd h (by decide)) (fun _ => ?_)
    refine j_aload_n dX11_mend_48 rfl rfl ?_
    refine j_iload dX11_mend_49 rfl ?_
    refine j_iload_n dX11_mend_51 rfl rfl ?_
    refine j_callVi [.int _, .int _] [] dX11_mend_52 jlk_X11_137 rfl rfl rfl rfl (Nat.le_of_ble_eq_true rfl) (m_becomes hv hd hd40 h78 h79 h80 (by omega) hb hx31 hne) ?_
    refine j_goto (tgt := 59) dX11_mend_55 (by decide) ?_
    refine j_ireturn dX11_mend_59 rfl ?_
    exact ⟨rfl, rfl⟩

set_option maxHeartbeats 200000 in
set_option maxRecDepth 100000 in
theorem m_of (hn : X 76 7 = nI na) (h6 : na ≤ 6) (hv : A 77 = nIf v) {j t : Nat} (ht : thr na j t) : jMet (d + 3) yX11_of cX11_of 4 (some .int) 0 0 [.ref 76, .int (nI j), .int (nI t)] (tw X A L) (jRi (nI (v (pOf j t))) (tw X A L)) := by
  refine jMet_of (by decide) (Nat.le_of_ble_eq_true rfl) none (Or.inl rfl) ?_
  show jWP none RX11 cX11_of 4 (some .int) (d + 3) 0 0 0 [some (.ref 76), some (.int (nI j)), some (.int (nI t)), none] [] (tw X A L) (jRi (nI (v (pOf j t))) (tw X A L))
  have hl := thr_lt ht h6
  refine j_aload_n dX11_of_0 rfl rfl ?_
  refine j_iload_n dX11_of_1 rfl rfl ?_
  refine j_iload_n dX11_of_2 rfl rfl ?_
  refine j_callVi [.int _, .int _] [] dX11_of_3 jlk_X11_133 rfl rfl rfl rfl (Nat.le_of_ble_eq_true rfl) (m_placeOf hn h6 ht) ?_
  refine j_istore_n (lv' := [some (.ref 76), some (.int _), some (.int _), some (.int _)]) dX11_of_6 rfl (by decide) rfl ?_
  refine j_iload_n dX11_of_7 rfl rfl ?_
  refine jn_if_lt (tgt := 18) dX11_of_8 (by decide) (by omega) ?_
  refine j_aload_n dX11_of_11 rfl rfl ?_
  refine t_getR (b := 77) dX11_of_12 jfl_X11_11 (fun _ _ _ => rfl) rfl ?_
  refine j_iload_n dX11_of_15 rfl rfl ?_
  refine t_iaload dX11_of_16 (fun _ _ _ => rfl) (by omega) (by decide) ?_
  refine j_topE (e' := nI (v (pOf j t))) (by rw [hv]; rfl) ?_
  refine j_ireturn dX11_of_17 rfl ?_
  exact ⟨rfl, rfl⟩

set_option maxHeartbeats 200000 in
set_option maxRecDepth 100000 in
theorem m_of_no (hn : X 76 7 = nI na) (h6 : na ≤ 6) (z1 : zb 49 (A 82)) (z2 : zb 49 (A 83)) (z3 : zb 49 (A 84)) (z4 : zb 49 (A 85)) {c t : Int32} (h3 : t ≠ nI 3) (h : isT na c t = nI 0) : jMet (d + 3) yX11_of cX11_of 4 (some .int) 0 0 [.ref 76, .int c, .int t] (tw X A L) (jRi (-1) (tw X (mA A (A 82) (A 83)) L)) := by
  refine jMet_of (by decide) (Nat.le_of_ble_eq_true rfl) none (Or.inl rfl) ?_
  show jWP none RX11 cX11_of 4 (some .int) (d + 3) 0 0 0 [some (.ref 76), some (.int c), some (.int t), none] [] (tw X A L) (jRi (-1) (tw X (mA A (A 82) (A 83)) L))
  refine j_aload_n dX11_of_0 rfl rfl ?_
  refine j_iload_n dX11_of_1 rfl rfl ?_
  refine j_iload_n dX11_of_2 rfl rfl ?_
  refine j_callVi [.int _, .int _] [] dX11_of_3 jlk_X11_133 rfl rfl rfl rfl (Nat.le_of_ble_eq_true rfl) (m_placeOf_no hn h6 h) ?_
  refine j_istore_n (lv' := [some (.ref 76), some (.int _), some (.int _), some (.int _)]) dX11_of_6 rfl (by decide) rfl ?_
  refine j_iload_n dX11_of_7 rfl rfl ?_
  refine j_if_lt (tgt := 18) dX11_of_8 (by decide) (fun h8 => ?_) (fun h8 => absurd (by decide) h8)
  refine j_aload_n dX11_of_18 rfl rfl ?_
  refine j_callVv [] [] dX11_of_19 jlk_X11_140 rfl rfl rfl rfl (Nat.le_of_ble_eq_true rfl) (m_begins1 z1 z2 z3 z4) ?_
  refine j_iload_n dX11_of_22 rfl rfl ?_
  refine j_iconst (v := nI 3) dX11_of_23 rfl ?_
  refine j_icmp_ne (tgt := 44) dX11_of_24 (by decide) (fun h24 => ?_) (fun h24 => absurd (by first | exact h24 | simpa using h24) h3)
  refine j_iconst (v := (-1)) dX11_of_44 rfl ?_
  refine j_ireturn dX11_of_45 rfl ?_
  exact ⟨rfl, rfl⟩

set_option maxHeartbeats 200000 in
set_option maxRecDepth 100000 in
theorem m_of_bal (hn : X 76 7 = nI na) (h6 : na ≤ 6) (z1 : zb 49 (A 82)) (z2 : zb 49 (A 83)) (z3 : zb 49 (A 84)) (z4 : zb 49 (A 85)) {k : Nat} (hk : k < na) : jMet (d + 3) yX11_of cX11_of 4 (some .int) 0 0 [.ref 76, .int (nI k), .int (nI 3)] (tw X A L) (jRi (balS (A 82) (A 83) (nI k) 49) (tw X (mA A (A 82) (A 83)) L)) := by
  refine jMet_of (by decide) (Nat.le_of_ble_eq_true rfl) none (Or.inl rfl) ?_
  show jWP none RX11 cX11_of 4 (some .int) (d + 3) 0 0 0 [some (.ref 76), some (.int (nI k)), some (.int (nI 3)), none] [] (tw X A L) (jRi (balS (A 82) (A 83) (nI k) 49) (tw X (mA A (A 82) (A 83)) L))
  refine j_aload_n dX11_of_0 rfl rfl ?_
  refine j_iload_n dX11_of_1 rfl rfl ?_
  refine j_iload_n dX11_of_2 rfl rfl ?_
  refine j_callVi [.int _, .int _] [] dX11_of_3 jlk_X11_133 rfl rfl rfl rfl (Nat.le_of_ble_eq_true rfl) (m_placeOf_no hn h6 (show isT na (nI k) (nI 3) = nI 0 from by unfold isT; rw [if_neg (by decide), if_neg (by decide), if_neg (by decide)])) ?_
  refine j_istore_n (lv' := [some (.ref 76), some (.int _), some (.int _), some (.int _)]) dX11_of_6 rfl (by decide) rfl ?_
  refine j_iload_n dX11_of_7 rfl rfl ?_
  refine j_if_lt (tgt := 18) dX11_of_8 (by decide) (fun h8 => ?_) (fun h8 => absurd (by decide) h8)
  refine j_aload_n dX11_of_18 rfl rfl ?_
  refine j_callVv [] [] dX11_of_19 jlk_X11_140 rfl rfl rfl rfl (Nat.le_of_ble_eq_true rfl) (m_begins1 z1 z2 z3 z4) ?_
  refine j_iload_n dX11_of_22 rfl rfl ?_
  refine j_iconst (v := nI 3) dX11_of_23 rfl ?_
  refine j_icmp_ne (tgt := 44) dX11_of_24 (by decide) (fun h => absurd (by decide) h) (fun _ => ?_)
  refine j_aload_n dX11_of_27 rfl rfl ?_
  refine j_iload_n dX11_of_28 rfl rfl ?_
  refine j_i2l dX11_of_29 ?_
  refine j_callVi [.long _] [] dX11_of_30 jlk_X11_128 rfl rfl rfl rfl (Nat.le_of_ble_eq_true rfl) (jMet_i (m_isAccount hn h6) (isA_in hk (by omega)) rfl) ?_
  refine j_if_eq (tgt := 44) dX11_of_33 (by decide) (fun h => absurd h (by decide)) (fun _ => ?_)
  refine j_aload_n dX11_of_36 rfl rfl ?_
  refine j_iload_n dX11_of_37 rfl rfl ?_
  refine j_callVi [.int _] [] dX11_of_38 jlk_X11_143 rfl rfl rfl rfl (Nat.le_of_ble_eq_true rfl) (m_balanceOf) ?_
  rw [mA_84, mA_85]
  refine j_goto (tgt := 45) dX11_of_41 (by decide) ?_
  refine j_ireturn dX11_of_45 rfl ?_
  exact ⟨rfl, rfl⟩

set_option maxHeartbeats 200000 in
set_option maxRecDepth 100000 in
theorem m_of_bal_no (hn : X 76 7 = nI na) (h6 : na ≤ 6) (z1 : zb 49 (A 82)) (z2 : zb 49 (A 83)) (z3 : zb 49 (A 84)) (z4 : zb 49 (A 85)) {c : Int32} (h : isA na c = nI 0) : jMet (d + 3) yX11_of cX11_of 4 (some .int) 0 0 [.ref 76, .int c, .int (nI 3)] (tw X A L) (jRi (-1) (tw X (mA A (A 82) (A 83)) L)) := by
  refine jMet_of (by decide) (Nat.le_of_ble_eq_true rfl) none (Or.inl rfl) ?_
  show jWP none RX11 cX11_of 4 (some .int) (d + 3) 0 0 0 [some (.ref 76), some (.int c), some (.int (nI 3)), none] [] (tw X A L) (jRi (-1) (tw X (mA A (A 82) (A 83)) L))
  refine j_aload_n dX11_of_0 rfl rfl ?_
  refine j_iload_n dX11_of_1 rfl rfl ?_
  refine j_iload_n dX11_of_2 rfl rfl ?_
  refine j_callVi [.int _, .int _] [] dX11_of_3 jlk_X11_133 rfl rfl rfl rfl (Nat.le_of_ble_eq_true rfl) (m_placeOf_no hn h6 (show isT na c (nI 3) = nI 0 from by unfold isT; rw [if_neg (by decide), if_neg (by decide), if_neg (by decide)])) ?_
  refine j_istore_n (lv' := [some (.ref 76), some (.int _), some (.int _), some (.int _)]) dX11_of_6 rfl (by decide) rfl ?_
  refine j_iload_n dX11_of_7 rfl rfl ?_
  refine j_if_lt (tgt := 18) dX11_of_8 (by decide) (fun h8 => ?_) (fun h8 => absurd (by decide) h8)
  refine j_aload_n dX11_of_18 rfl rfl ?_
  refine j_callVv [] [] dX11_of_19 jlk_X11_140 rfl rfl rfl rfl (Nat.le_of_ble_eq_true rfl) (m_begins1 z1 z2 z3 z4) ?_
  refine j_iload_n dX11_of_22 rfl rfl ?_
  refine j_iconst (v := nI 3) dX11_of_23 rfl ?_
  refine j_icmp_ne (tgt := 44) dX11_of_24 (by decide) (fun h => absurd (by decide) h) (fun _ => ?_)
  refine j_aload_n dX11_of_27 rfl rfl ?_
  refine j_iload_n dX11_of_28 rfl rfl ?_
  refine j_i2l dX11_of_29 ?_
  refine j_callVi [.long _] [] dX11_of_30 jlk_X11_128 rfl rfl rfl rfl (Nat.le_of_ble_eq_true rfl) (jMet_i (m_isAccount hn h6) h rfl) ?_
  refine j_if_eq (tgt := 44) dX11_of_33 (by decide) (fun _ => ?_) (fun h => absurd (by decide) h)
  refine j_iconst (v := (-1)) dX11_of_44 rfl ?_
  refine j_ireturn dX11_of_45 rfl ?_
  exact ⟨rfl, rfl⟩

set_option maxHeartbeats 200000 in
set_option maxRecDepth 100000 in
theorem m_undo_no (hd : X 76 5 = nI 0) : jMet (d) yX11_undo cX11_undo 1 (some .int) 0 0 [.ref 76] (tw X A L) (jRi (-5) (tw X A L)) := by
  refine jMet_of (by decide) (Nat.le_of_ble_eq_true rfl) none (Or.inl rfl) ?_
  show jWP none RX11 cX11_undo 1 (some .int) (d) 0 0 0 [some (.ref 76)] [] (tw X A L) (jRi (-5) (tw X A L))
  refine j_aload_n dX11_undo_0 rfl rfl ?_
  refine t_getI dX11_undo_1 jfl_X11_103 (fun _ _ _ => rfl) (fun _ => rfl) ?_
  refine j_topE (e' := nI 0) hd ?_
  refine jn_if_ne (tgt := 10) dX11_undo_4 (by decide) (by omega) (fun h4 => by omega) (fun h4 => ?_)
  refine j_bipush (v := (-5)) dX11_undo_7 rfl ?_
  refine j_ireturn dX11_undo_9 rfl ?_
  exact ⟨rfl, rfl⟩

set_option maxHeartbeats 200000 in
set_option maxRecDepth 100000 in
theorem m_undo (hv : A 77 = nIf v) {dn : Nat} {pl bf af : Nat → Nat} (hd : X 76 5 = nI dn) (hd40 : dn ≤ 40) (h78 : A 78 = nIf pl) (h79 : A 79 = nIf bf) (h80 : A 80 = nIf af) (h0 : 0 < dn) (hp : pl (dn - 1) < 8) : jMet (d) yX11_undo cX11_undo 1 (some .int) 0 0 [.ref 76] (tw X A L) (jRi (nI (dn - 1)) (tw (va_up X 76 (upd (X 76) 5 (nI (dn - 1)))) (va_up A 77 (nIf (updN v (pl (dn - 1)) (bf (dn - 1))))) L)) := by
  refine jMet_of (by decide) (Nat.le_of_ble_eq_true rfl) none (Or.inl rfl) ?_
  show jWP none RX11 cX11_undo 1 (some .int) (d) 0 0 0 [some (.ref 76)] [] (tw X A L) (jRi (nI (dn - 1)) (tw (va_up X 76 (upd (X 76) 5 (nI (dn - 1)))) (va_up A 77 (nIf (updN v (pl (dn - 1)) (bf (dn - 1))))) L))
  refine j_aload_n dX11_undo_0 rfl rfl ?_
  refine t_getI dX11_undo_1 jfl_X11_103 (fun _ _ _ => rfl) (fun _ => rfl) ?_
  refine j_topE (e' := nI dn) hd ?_
  refine jn_if_ne (tgt := 10) dX11_undo_4 (by decide) (by omega) (fun h4 => ?_) (fun h4 => by omega)
  refine j_aload_n dX11_undo_10 rfl rfl ?_
  refine j_dup dX11_undo_11 rfl ?_
  refine t_getI dX11_undo_12 jfl_X11_103 (fun _ _ _ => rfl) (fun _ => rfl) ?_
  refine j_topE (e' := nI dn) hd ?_
  refine j_iconst (v := nI 1) dX11_undo_15 rfl ?_
  refine jn_isub dX11_undo_16 (by omega) ?_
  refine t_putI dX11_undo_17 jfl_X11_103 (fun _ _ _ => rfl) (fun _ _ => rfl) (Nat.le_of_ble_eq_true rfl) rfl rfl ?_
  refine j_aload_n dX11_undo_20 rfl rfl ?_
  refine t_getR (b := 77) dX11_undo_21 jfl_X11_11 (fun _ _ _ => rfl) rfl ?_
  refine j_aload_n dX11_undo_24 rfl rfl ?_
  refine t_getR (b := 78) dX11_undo_25 jfl_X11_15 (fun _ _ _ => rfl) rfl ?_
  refine j_aload_n dX11_undo_28 rfl rfl ?_
  refine t_getI dX11_undo_29 jfl_X11_103 (fun _ _ _ => rfl) (fun _ => rfl) ?_
  refine j_topE (e' := nI (dn - 1)) (by rw [vu_s, ud_s]) ?_
  refine t_iaload dX11_undo_32 (fun _ _ _ => rfl) (by omega) (by decide) ?_
  refine j_topE (e' := nI (pl (dn - 1))) (by rw [h78]; rfl) ?_
  refine j_aload_n dX11_undo_33 rfl rfl ?_
  refine t_getR (b := 79) dX11_undo_34 jfl_X11_18 (fun _ _ _ => rfl) rfl ?_
  refine j_aload_n dX11_undo_37 rfl rfl ?_
  refine t_getI dX11_undo_38 jfl_X11_103 (fun _ _ _ => rfl) (fun _ => rfl) ?_
  refine j_topE (e' := nI (dn - 1)) (by rw [vu_s, ud_s]) ?_
  refine t_iaload dX11_undo_41 (fun _ _ _ => rfl) (by omega) (by decide) ?_
  refine j_topE (e' := nI (bf (dn - 1))) (by rw [h79]; rfl) ?_
  refine t_iastore dX11_undo_42 (fun _ _ _ => rfl) (by omega) (by decide) ?_
  refine j_aload_n dX11_undo_43 rfl rfl ?_
  refine t_getI dX11_undo_44 jfl_X11_103 (fun _ _ _ => rfl) (fun _ => rfl) ?_
  refine j_topE (e' := nI (dn - 1)) (by rw [vu_s, ud_s]) ?_
  refine j_ireturn dX11_undo_47 rfl ?_
  exact ⟨rfl, by rw [hv, upd_nIf]⟩

set_option maxHeartbeats 200000 in
set_option maxRecDepth 100000 in
theorem m_redo_no {dn : Nat} (hd : X 76 5 = nI dn) (hk : X 76 4 = nI dn) (h4 : dn ≤ 40) : jMet (d) yX11_redo cX11_redo 1 (some .int) 0 0 [.ref 76] (tw X A L) (jRi (-5) (tw X A L)) := by
  refine jMet_of (by decide) (Nat.le_of_ble_eq_true rfl) none (Or.inl rfl) ?_
  show jWP none RX11 cX11_redo 1 (some .int) (d) 0 0 0 [some (.ref 76)] [] (tw X A L) (jRi (-5) (tw X A L))
  refine j_aload_n dX11_redo_0 rfl rfl ?_
  refine t_getI dX11_redo_1 jfl_X11_103 (fun _ _ _ => rfl) (fun _ => rfl) ?_
  refine j_topE (e' := nI dn) hd ?_
  refine j_aload_n dX11_redo_4 rfl rfl ?_
  refine t_getI dX11_redo_5 jfl_X11_106 (fun _ _ _ => rfl) (fun _ => rfl) ?_
  refine j_topE (e' := nI dn) hk ?_
  refine jn_icmp_ne (tgt := 14) dX11_redo_8 (by decide) (by omega) (by omega) (fun h8 => by omega) (fun h8 => ?_)
  refine j_bipush (v := (-5)) dX11_redo_11 rfl ?_
  refine j_ireturn dX11_redo_13 rfl ?_
  exact ⟨rfl, rfl⟩

set_option maxHeartbeats 200000 in
set_option maxRecDepth 100000 in
theorem m_redo (hv : A 77 = nIf v) {dn : Nat} {pl bf af : Nat → Nat} (hd : X 76 5 = nI dn) (hd40 : dn ≤ 40) (h78 : A 78 = nIf pl) (h79 : A 79 = nIf bf) (h80 : A 80 = nIf af) {kp : Nat} (hk : X 76 4 = nI kp) (hk2 : kp ≤ 40) (h0 : dn < kp) (hp : pl dn < 8) : jMet (d) yX11_redo cX11_redo 1 (some .int) 0 0 [.ref 76] (tw X A L) (jRi (nI (kp - (dn + 1))) (tw (va_up X 76 (upd (X 76) 5 (nI (dn + 1)))) (va_up A 77 (nIf (updN v (pl dn) (af dn)))) L)) := by
  refine jMet_of (by decide) (Nat.le_of_ble_eq_true rfl) none (Or.inl rfl) ?_
  show jWP none RX11 cX11_redo 1 (some .int) (d) 0 0 0 [some (.ref 76)] [] (tw X A L) (jRi (nI (kp - (dn + 1))) (tw (va_up X 76 (upd (X 76) 5 (nI (dn + 1)))) (va_up A 77 (nIf (updN v (pl dn) (af dn)))) L))
  refine j_aload_n dX11_redo_0 rfl rfl ?_
  refine t_getI dX11_redo_1 jfl_X11_103 (fun _ _ _ => rfl) (fun _ => rfl) ?_
  refine j_topE (e' := nI dn) hd ?_
  refine j_aload_n dX11_redo_4 rfl rfl ?_
  refine t_getI dX11_redo_5 jfl_X11_106 (fun _ _ _ => rfl) (fun _ => rfl) ?_
  refine j_topE (e' := nI kp) hk ?_
  refine jn_icmp_ne (tgt := 14) dX11_redo_8 (by decide) (by omega) (by omega) (fun h8 => ?_) (fun h8 => by omega)
  refine j_aload_n dX11_redo_14 rfl rfl ?_
  refine t_getR (b := 77) dX11_redo_15 jfl_X11_11 (fun _ _ _ => rfl) rfl ?_
  refine j_aload_n dX11_redo_18 rfl rfl ?_
  refine t_getR (b := 78) dX11_redo_19 jfl_X11_15 (fun _ _ _ => rfl) rfl ?_
  refine j_aload_n dX11_redo_22 rfl rfl ?_
  refine t_getI dX11_redo_23 jfl_X11_103 (fun _ _ _ => rfl) (fun _ => rfl) ?_
  refine j_topE (e' := nI dn) hd ?_
  refine t_iaload dX11_redo_26 (fun _ _ _ => rfl) (by omega) (by decide) ?_
  refine j_topE (e' := nI (pl dn)) (by rw [h78]; rfl) ?_
  refine j_aload_n dX11_redo_27 rfl rfl ?_
  refine t_getR (b := 80) dX11_redo_28 jfl_X11_21 (fun _ _ _ => rfl) rfl ?_
  refine j_aload_n dX11_redo_31 rfl rfl ?_
  refine t_getI dX11_redo_32 jfl_X11_103 (fun _ _ _ => rfl) (fun _ => rfl) ?_
  refine j_topE (e' := nI dn) hd ?_
  refine t_iaload dX11_redo_35 (fun _ _ _ => rfl) (by omega) (by decide) ?_
  refine j_topE (e' := nI (af dn)) (by rw [h80]; rfl) ?_
  refine t_iastore dX11_redo_36 (fun _ _ _ => rfl) (by omega) (by decide) ?_
  refine j_aload_n dX11_redo_37 rfl rfl ?_
  refine j_dup dX11_redo_38 rfl ?_
  refine t_getI dX11_redo_39 jfl_X11_103 (fun _ _ _ => rfl) (fun _ => rfl) ?_
  refine j_topE (e' := nI dn) hd ?_
  refine j_iconst (v := nI 1) dX11_redo_42 rfl ?_
  refine jn_iadd dX11_redo_43 ?_
  refine t_putI dX11_redo_44 jfl_X11_103 (fun _ _ _ => rfl) (fun _ _ => rfl) (Nat.le_of_ble_eq_true rfl) rfl rfl ?_
  refine j_aload_n dX11_redo_47 rfl rfl ?_
  refine t_getI dX11_redo_48 jfl_X11_106 (fun _ _ _ => rfl) (fun _ => rfl) ?_
  refine j_topE (e' := nI kp) (by rw [vu_s, ud_n _ _ _ (by decide)]; exact hk) ?_
  refine j_aload_n dX11_redo_51 rfl rfl ?_
  refine t_getI dX11_redo_52 jfl_X11_103 (fun _ _ _ => rfl) (fun _ => rfl) ?_
  refine j_topE (e' := nI (dn + 1)) (by rw [vu_s, ud_s]) ?_
  refine jn_isub dX11_redo_55 (by omega) ?_
  refine j_ireturn dX11_redo_56 rfl ?_
  exact ⟨rfl, by rw [hv, upd_nIf]⟩

set_option maxHeartbeats 200000 in
set_option maxRecDepth 100000 in
theorem m_cell_no {c t : Int32} (h : isc c = nI 0 ∨ isA 10 t = nI 0) : jMet (d + 2) yX11_cell cX11_cell 6 (some .int) 0 0 [.ref 76, .int c, .int t] (tw X A L) (jRi (-1) (tw X A L)) := by
  refine jMet_of (by decide) (Nat.le_of_ble_eq_true rfl) none (Or.inl rfl) ?_
  show jWP none RX11 cX11_cell 6 (some .int) (d + 2) 0 0 0 [some (.ref 76), some (.int c), some (.int t), none, none, none] [] (tw X A L) (jRi (-1) (tw X A L))
  refine j_iload_n dX11_cell_0 rfl rfl ?_
  refine j_i2l dX11_cell_1 ?_
  refine j_callSi [.long _] [] dX11_cell_2 jlk_X11_120 rfl rfl (Nat.le_of_ble_eq_true rfl) (m_isCell) ?_
  refine j_if_eq (tgt := 20) dX11_cell_5 (by decide) (fun h5 => ?_) (fun h5 => ?_)
  · refine j_iconst (v := (-1)) dX11_cell_20 rfl ?_
    refine j_ireturn dX11_cell_21 rfl ?_
    exact ⟨rfl, rfl⟩
  · refine j_iload_n dX11_cell_8 rfl rfl ?_
    refine j_i2l dX11_cell_9 ?_
    refine j_lconst (v := 0) dX11_cell_10 rfl ?_
    refine j_ldc2 dX11_cell_11 jw_k_X11_150 ?_
    refine j_callSi [.long _, .long _, .long _] [] dX11_cell_14 jlk_X11_111 rfl rfl (Nat.le_of_ble_eq_true rfl) (jMet_i m_within (wi_A (k := 9) (by decide) (by decide)) rfl) ?_
    refine j_if_ne (tgt := 22) dX11_cell_17 (by decide) (fun h17 => ?_) (fun h17 => ?_)
    · exact absurd h (fun q => q.elim h5 h17)
    · refine j_iconst (v := (-1)) dX11_cell_20 rfl ?_
      refine j_ireturn dX11_cell_21 rfl ?_
      exact ⟨rfl, rfl⟩

set_option maxHeartbeats 200000 in
set_option maxRecDepth 100000 in
theorem m_cell_0 (z1 : zb 49 (A 82)) (z2 : zb 49 (A 83)) (z3 : zb 49 (A 84)) (z4 : zb 49 (A 85)) (hw : ow (A 82)) {j : Nat} (hj : j < 49) : jMet (d + 2) yX11_cell cX11_cell 6 (some .int) 0 0 [.ref 76, .int (nI j), .int (nI 0)] (tw X A L) (jRi (if heldB (A 82) j = true then A 82 j else (-2)) (tw X (mA A (A 82) (A 83)) L)) := by
  refine jMet_of (by decide) (Nat.le_of_ble_eq_true rfl) none (Or.inl rfl) ?_
  show jWP none RX11 cX11_cell 6 (some .int) (d + 2) 0 0 0 [some (.ref 76), some (.int (nI j)), some (.int (nI 0)), none, none, none] [] (tw X A L) (jRi (if heldB (A 82) j = true then A 82 j else (-2)) (tw X (mA A (A 82) (A 83)) L))
  refine j_iload_n dX11_cell_0 rfl rfl ?_
  refine j_i2l dX11_cell_1 ?_
  refine j_callSi [.long _] [] dX11_cell_2 jlk_X11_120 rfl rfl (Nat.le_of_ble_eq_true rfl) (jMet_i m_isCell (isc_in hj) rfl) ?_
  refine j_if_eq (tgt := 20) dX11_cell_5 (by decide) (fun h => absurd h (by decide)) (fun _ => ?_)
  refine j_iload_n dX11_cell_8 rfl rfl ?_
  refine j_i2l dX11_cell_9 ?_
  refine j_lconst (v := 0) dX11_cell_10 rfl ?_
  refine j_ldc2 dX11_cell_11 jw_k_X11_150 ?_
  refine j_callSi [.long _, .long _, .long _] [] dX11_cell_14 jlk_X11_111 rfl rfl (Nat.le_of_ble_eq_true rfl) (jMet_i m_within (wi_in (j := 0) (k := 9) (by omega) (by decide) (by decide)) rfl) ?_
  refine j_if_ne (tgt := 22) dX11_cell_17 (by decide) (fun _ => ?_) (fun h => absurd h (by decide))
  refine j_aload_n dX11_cell_22 rfl rfl ?_
  refine j_callVv [] [] dX11_cell_23 jlk_X11_140 rfl rfl rfl rfl (Nat.le_of_ble_eq_true rfl) (m_begins1 z1 z2 z3 z4) ?_
  refine j_iload_n dX11_cell_26 rfl rfl ?_
  refine j_iconst (v := nI 3) dX11_cell_27 rfl ?_
  refine j_icmp_ge (tgt := 85) dX11_cell_28 (by decide) (fun h => absurd h (by decide)) (fun _ => ?_)
  refine j_iload_n dX11_cell_31 rfl rfl ?_
  refine j_if_ne (tgt := 57) dX11_cell_32 (by decide) (fun h => absurd (by decide) h) (fun _ => ?_)
  refine j_aload_n dX11_cell_35 rfl rfl ?_
  refine j_iload_n dX11_cell_36 rfl rfl ?_
  refine j_callVi [.int _] [] dX11_cell_37 jlk_X11_147 rfl rfl rfl rfl (Nat.le_of_ble_eq_true rfl) (m_holds (by rw [mA_84]; exact hw) hj) ?_
  rw [mA_84]
  refine j_if_eq (tgt := 52) dX11_cell_40 (by decide) (fun h40 => ?_) (fun h40 => ?_)
  · refine j_bipush (v := (-2)) dX11_cell_52 rfl ?_
    refine j_goto (tgt := 84) dX11_cell_54 (by decide) ?_
    refine j_ireturn dX11_cell_84 rfl ?_
    exact ⟨by rw [if_neg (by rw [bz_f h40]; decide)], rfl⟩
  · refine j_aload_n dX11_cell_43 rfl rfl ?_
    refine t_getR (b := 84) dX11_cell_44 jfl_X11_33 (fun _ _ _ => rfl) rfl ?_
    refine j_iload_n dX11_cell_47 rfl rfl ?_
    refine t_iaload dX11_cell_48 (fun _ _ _ => rfl) (by omega) (by decide) ?_
    refine j_goto (tgt := 84) dX11_cell_49 (by decide) ?_
    refine j_ireturn dX11_cell_84 rfl ?_
    exact ⟨by rw [mA_84, if_pos (bz_t h40)], rfl⟩

set_option maxHeartbeats 200000 in
set_option maxRecDepth 100000 in
theorem m_cell_1 (z1 : zb 49 (A 82)) (z2 : zb 49 (A 83)) (z3 : zb 49 (A 84)) (z4 : zb 49 (A 85)) (hw : ow (A 82)) {j : Nat} (hj : j < 49) : jMet (d + 2) yX11_cell cX11_cell 6 (some .int) 0 0 [.ref 76, .int (nI j), .int (nI 1)] (tw X A L) (jRi (A 83 j) (tw X (mA A (A 82) (A 83)) L)) := by
  refine jMet_of (by decide) (Nat.le_of_ble_eq_true rfl) none (Or.inl rfl) ?_
  show jWP none RX11 cX11_cell 6 (some .int) (d + 2) 0 0 0 [some (.ref 76), some (.int (nI j)), some (.int (nI 1)), none, none, none] [] (tw X A L) (jRi (A 83 j) (tw X (mA A (A 82) (A 83)) L))
  refine j_iload_n dX11_cell_0 rfl rfl ?_
  refine j_i2l dX11_cell_1 ?_
  refine j_callSi [.long _] [] dX11_cell_2 jlk_X11_120 rfl rfl (Nat.le_of_ble_eq_true rfl) (jMet_i m_isCell (isc_in hj) rfl) ?_
  refine j_if_eq (tgt := 20) dX11_cell_5 (by decide) (fun h => absurd h (by decide)) (fun _ => ?_)
  refine j_iload_n dX11_cell_8 rfl rfl ?_
  refine j_i2l dX11_cell_9 ?_
  refine j_lconst (v := 0) dX11_cell_10 rfl ?_
  refine j_ldc2 dX11_cell_11 jw_k_X11_150 ?_
  refine j_callSi [.long _, .long _, .long _] [] dX11_cell_14 jlk_X11_111 rfl rfl (Nat.le_of_ble_eq_true rfl) (jMet_i m_within (wi_in (j := 1) (k := 9) (by omega) (by decide) (by decide)) rfl) ?_
  refine j_if_ne (tgt := 22) dX11_cell_17 (by decide) (fun _ => ?_) (fun h => absurd h (by decide))
  refine j_aload_n dX11_cell_22 rfl rfl ?_
  refine j_callVv [] [] dX11_cell_23 jlk_X11_140 rfl rfl rfl rfl (Nat.le_of_ble_eq_true rfl) (m_begins1 z1 z2 z3 z4) ?_
  refine j_iload_n dX11_cell_26 rfl rfl ?_
  refine j_iconst (v := nI 3) dX11_cell_27 rfl ?_
  refine j_icmp_ge (tgt := 85) dX11_cell_28 (by decide) (fun h => absurd h (by decide)) (fun _ => ?_)
  refine j_iload_n dX11_cell_31 rfl rfl ?_
  refine j_if_ne (tgt := 57) dX11_cell_32 (by decide) (fun _ => ?_) (fun h => absurd h (by decide))
  refine j_iload_n dX11_cell_57 rfl rfl ?_
  refine j_iconst (v := nI 1) dX11_cell_58 rfl ?_
  refine j_icmp_ne (tgt := 71) dX11_cell_59 (by decide) (fun h => absurd (by decide) h) (fun _ => ?_)
  refine j_aload_n dX11_cell_62 rfl rfl ?_
  refine t_getR (b := 85) dX11_cell_63 jfl_X11_36 (fun _ _ _ => rfl) rfl ?_
  refine j_iload_n dX11_cell_66 rfl rfl ?_
  refine t_iaload dX11_cell_67 (fun _ _ _ => rfl) (by omega) (by decide) ?_
  refine j_goto (tgt := 84) dX11_cell_68 (by decide) ?_
  refine j_ireturn dX11_cell_84 rfl ?_
  exact ⟨by rw [mA_85], rfl⟩

set_option maxHeartbeats 200000 in
set_option maxRecDepth 100000 in
theorem m_cell_2 (z1 : zb 49 (A 82)) (z2 : zb 49 (A 83)) (z3 : zb 49 (A 84)) (z4 : zb 49 (A 85)) (hw : ow (A 82)) {j : Nat} (hj : j < 49) : jMet (d + 2) yX11_cell cX11_cell 6 (some .int) 0 0 [.ref 76, .int (nI j), .int (nI 2)] (tw X A L) (jRi (bz (slB (A 82) j)) (tw X (mA A (A 82) (A 83)) L)) := by
  refine jMet_of (by decide) (Nat.le_of_ble_eq_true rfl) none (Or.inl rfl) ?_
  show jWP none RX11 cX11_cell 6 (some .int) (d + 2) 0 0 0 [some (.ref 76), some (.int (nI j)), some (.int (nI 2)), none, none, none] [] (tw X A L) (jRi (bz (slB (A 82) j)) (tw X (mA A (A 82) (A 83)) L))
  refine j_iload_n dX11_cell_0 rfl rfl ?_
  refine j_i2l dX11_cell_1 ?_
  refine j_callSi [.long _] [] dX11_cell_2 jlk_X11_120 rfl rfl (Nat.le_of_ble_eq_true rfl) (jMet_i m_isCell (isc_in hj) rfl) ?_
  refine j_if_eq (tgt := 20) dX11_cell_5 (by decide) (fun h => absurd h (by decide)) (fun _ => ?_)
  refine j_iload_n dX11_cell_8 rfl rfl ?_
  refine j_i2l dX11_cell_9 ?_
  refine j_lconst (v := 0) dX11_cell_10 rfl ?_
  refine j_ldc2 dX11_cell_11 jw_k_X11_150 ?_
  refine j_callSi [.long _, .long _, .long _] [] dX11_cell_14 jlk_X11_111 rfl rfl (Nat.le_of_ble_eq_true rfl) (jMet_i m_within (wi_in (j := 2) (k := 9) (by omega) (by decide) (by decide)) rfl) ?_
  refine j_if_ne (tgt := 22) dX11_cell_17 (by decide) (fun _ => ?_) (fun h => absurd h (by decide))
  refine j_aload_n dX11_cell_22 rfl rfl ?_
  refine j_callVv [] [] dX11_cell_23 jlk_X11_140 rfl rfl rfl rfl (Nat.le_of_ble_eq_true rfl) (m_begins1 z1 z2 z3 z4) ?_
  refine j_iload_n dX11_cell_26 rfl rfl ?_
  refine j_iconst (v := nI 3) dX11_cell_27 rfl ?_
  refine j_icmp_ge (tgt := 85) dX11_cell_28 (by decide) (fun h => absurd h (by decide)) (fun _ => ?_)
  refine j_iload_n dX11_cell_31 rfl rfl ?_
  refine j_if_ne (tgt := 57) dX11_cell_32 (by decide) (fun _ => ?_) (fun h => absurd h (by decide))
  refine j_iload_n dX11_cell_57 rfl rfl ?_
  refine j_iconst (v := nI 1) dX11_cell_58 rfl ?_
  refine j_icmp_ne (tgt := 71) dX11_cell_59 (by decide) (fun _ => ?_) (fun h => absurd h (by decide))
  refine j_aload_n dX11_cell_71 rfl rfl ?_
  refine j_iload_n dX11_cell_72 rfl rfl ?_
  refine j_callVi [.int _] [] dX11_cell_73 jlk_X11_152 rfl rfl rfl rfl (Nat.le_of_ble_eq_true rfl) (m_isSealed (by rw [mA_84]; exact hw) hj) ?_
  rw [mA_84]
  refine j_if_eq (tgt := 83) dX11_cell_76 (by decide) (fun h76 => ?_) (fun h76 => ?_)
  · refine j_iconst (v := nI 0) dX11_cell_83 rfl ?_
    refine j_ireturn dX11_cell_84 rfl ?_
    exact ⟨by rw [bz_f h76]; rfl, rfl⟩
  · refine j_iconst (v := nI 1) dX11_cell_79 rfl ?_
    refine j_goto (tgt := 84) dX11_cell_80 (by decide) ?_
    refine j_ireturn dX11_cell_84 rfl ?_
    exact ⟨by rw [bz_t h76]; rfl, rfl⟩

set_option maxHeartbeats 200000 in
set_option maxRecDepth 100000 in
theorem l_cell_3 {j : Nat} (hj : j < 49) : ∀ (m i : Nat), i ≤ 49 → 49 - i < m → jWP none RX11 cX11_cell 6 (some .int) (d + 2) 0 0 94 [some (.ref 76), some (.int (nI j)), some (.int (nI 3)), some (.int (nI (cnt (isNx j) i))), some (.int (-2)), some (.int (nI i))] [] (tw X A L) (jRi (nI (dg j)) (tw X A L)) := by
  intro m
  induction m with
  | zero => intro i h1 h2; omega
  | succ m ih =>
    intro i hi hm
    have hcn := cnt_le (isNx j) i
    have ec : cnt (isNx j) (i + 1) = if isNx j i = true then cnt (isNx j) i + 1 else cnt (isNx j) i := rfl
    refine j_iload dX11_cell_94 rfl ?_
    refine j_bipush (v := nI 49) dX11_cell_96 rfl ?_
    refine jn_icmp_ge (tgt := 135) dX11_cell_98 (by decide) (by omega) (by omega) (fun h98 => ?_) (fun h98 => ?_)
    · refine j_iload_n dX11_cell_135 rfl rfl ?_
      refine j_iconst (v := nI 3) dX11_cell_136 rfl ?_
      refine j_icmp_ne (tgt := 144) dX11_cell_137 (by decide) (fun h => absurd (by decide) h) (fun _ => ?_)
      refine j_iload_n dX11_cell_140 rfl rfl ?_
      refine j_goto (tgt := 146) dX11_cell_141 (by decide) ?_
      refine j_ireturn dX11_cell_146 rfl ?_
      obtain rfl : i = 49 := by omega
      exact ⟨by rw [dg_cnt2], rfl⟩
    · refine j_iload_n dX11_cell_101 rfl rfl ?_
      refine j_iload dX11_cell_102 rfl ?_
      refine j_callSi [.int _, .int _] [] dX11_cell_104 jlk_X11_99 rfl rfl (Nat.le_of_ble_eq_true rfl) (m_isNext hj (by omega)) ?_
      refine j_if_eq (tgt := 129) dX11_cell_107 (by decide) (fun h107 => ?_) (fun h107 => ?_)
      · have h107 := bz_f h107
        rw [h107, if_neg (by decide)] at ec
        refine jn_iinc (lv' := [some (.ref 76), some (.int _), some (.int _), some (.int _), some (.int _), some (.int _)]) dX11_cell_129 rfl (by decide) rfl ?_
        refine j_goto (tgt := 94) dX11_cell_132 (by decide) ?_
        refine j_sub ?_ (ih (i + 1) (by omega) (by omega))
        rw [ec]
        exact ⟨rfl, rfl, rfl, rfl, rfl, rfl, trivial⟩
      · have h107 := bz_t h107
        rw [h107, if_pos rfl] at ec
        refine j_iload_n dX11_cell_110 rfl rfl ?_
        refine j_iload_n dX11_cell_111 rfl rfl ?_
        refine j_iconst (v := nI 4) dX11_cell_112 rfl ?_
        refine j_isub dX11_cell_113 ?_
        refine j_icmp_ne (tgt := 122) dX11_cell_114 (by decide) (fun h114 => ?_) (fun h114 => absurd (show nI (cnt (isNx j) i) = -1 from by rw [show (-1 : Int32) = nI 3 - nI 4 from by decide]; first | exact h114 | simpa using h114) (nI_nm1 (by omega)))
        refine j_iload dX11_cell_122 rfl ?_
        refine j_istore (lv' := [some (.ref 76), some (.int _), some (.int _), some (.int _), some (.int _), some (.int _)]) dX11_cell_124 (by decide) rfl ?_
        refine jn_iinc (lv' := [some (.ref 76), some (.int _), some (.int _), some (.int _), some (.int _), some (.int _)]) dX11_cell_126 rfl (by decide) rfl ?_
        refine jn_iinc (lv' := [some (.ref 76), some (.int _), some (.int _), some (.int _), some (.int _), some (.int _)]) dX11_cell_129 rfl (by decide) rfl ?_
        refine j_goto (tgt := 94) dX11_cell_132 (by decide) ?_
        refine j_sub ?_ (ih (i + 1) (by omega) (by omega))
        rw [ec]
        exact ⟨rfl, rfl, rfl, rfl, rfl, rfl, trivial⟩

set_option maxHeartbeats 200000 in
set_option maxRecDepth 100000 in
theorem l_cell_4 {j t : Nat} (hj : j < 49) (ht : t < 6) : ∀ (m i : Nat), i ≤ 49 → 49 - i < m → jWP none RX11 cX11_cell 6 (some .int) (d + 2) 0 0 94 [some (.ref 76), some (.int (nI j)), some (.int (nI (t + 4))), some (.int (nI (cnt (isNx j) i))), some (.int (owF j t i)), some (.int (nI i))] [] (tw X A L) (jRi (owF j t 49) (tw X A L)) := by
  intro m
  induction m with
  | zero => intro i h1 h2; omega
  | succ m ih =>
    intro i hi hm
    have hcn := cnt_le (isNx j) i
    have ec : cnt (isNx j) (i + 1) = if isNx j i = true then cnt (isNx j) i + 1 else cnt (isNx j) i := rfl
    have eo : owF j t (i + 1) = if isNx j i = true then (if cnt (isNx j) i = t then nI i else owF j t i) else owF j t i := rfl
    refine j_iload dX11_cell_94 rfl ?_
    refine j_bipush (v := nI 49) dX11_cell_96 rfl ?_
    refine jn_icmp_ge (tgt := 135) dX11_cell_98 (by decide) (by omega) (by omega) (fun h98 => ?_) (fun h98 => ?_)
    · refine j_iload_n dX11_cell_135 rfl rfl ?_
      refine j_iconst (v := nI 3) dX11_cell_136 rfl ?_
      refine jn_icmp_ne (tgt := 144) dX11_cell_137 (by decide) (by omega) (by omega) (fun h137 => ?_) (fun h137 => absurd h137 (by omega))
      refine j_iload dX11_cell_144 rfl ?_
      refine j_ireturn dX11_cell_146 rfl ?_
      obtain rfl : i = 49 := by omega
      exact ⟨rfl, rfl⟩
    · refine j_iload_n dX11_cell_101 rfl rfl ?_
      refine j_iload dX11_cell_102 rfl ?_
      refine j_callSi [.int _, .int _] [] dX11_cell_104 jlk_X11_99 rfl rfl (Nat.le_of_ble_eq_true rfl) (m_isNext hj (by omega)) ?_
      refine j_if_eq (tgt := 129) dX11_cell_107 (by decide) (fun h107 => ?_) (fun h107 => ?_)
      · have h107 := bz_f h107
        rw [h107, if_neg (by decide)] at ec eo
        refine jn_iinc (lv' := [some (.ref 76), some (.int _), some (.int _), some (.int _), some (.int _), some (.int _)]) dX11_cell_129 rfl (by decide) rfl ?_
        refine j_goto (tgt := 94) dX11_cell_132 (by decide) ?_
        refine j_sub ?_ (ih (i + 1) (by omega) (by omega))
        rw [ec, eo]
        exact ⟨rfl, rfl, rfl, rfl, rfl, rfl, trivial⟩
      · have h107 := bz_t h107
        rw [h107, if_pos rfl] at ec eo
        refine j_iload_n dX11_cell_110 rfl rfl ?_
        refine j_iload_n dX11_cell_111 rfl rfl ?_
        refine j_iconst (v := nI 4) dX11_cell_112 rfl ?_
        refine jn_isub dX11_cell_113 (by omega) ?_
        refine jn_icmp_ne (tgt := 122) dX11_cell_114 (by decide) (by omega) (by omega) (fun h114 => ?_) (fun h114 => ?_)
        · rw [if_neg (by omega)] at eo
          refine j_iload dX11_cell_122 rfl ?_
          refine j_istore (lv' := [some (.ref 76), some (.int _), some (.int _), some (.int _), some (.int _), some (.int _)]) dX11_cell_124 (by decide) rfl ?_
          refine jn_iinc (lv' := [some (.ref 76), some (.int _), some (.int _), some (.int _), some (.int _), some (.int _)]) dX11_cell_126 rfl (by decide) rfl ?_
          refine jn_iinc (lv' := [some (.ref 76), some (.int _), some (.int _), some (.int _), some (.int _), some (.int _)]) dX11_cell_129 rfl (by decide) rfl ?_
          refine j_goto (tgt := 94) dX11_cell_132 (by decide) ?_
          refine j_sub ?_ (ih (i + 1) (by omega) (by omega))
          rw [ec, eo]
          exact ⟨rfl, rfl, rfl, rfl, rfl, rfl, trivial⟩
        · rw [if_pos (by omega)] at eo
          refine j_iload dX11_cell_117 rfl ?_
          refine j_goto (tgt := 124) dX11_cell_119 (by decide) ?_
          refine j_istore (lv' := [some (.ref 76), some (.int _), some (.int _), some (.int _), some (.int _), some (.int _)]) dX11_cell_124 (by decide) rfl ?_
          refine jn_iinc (lv' := [some (.ref 76), some (.int _), some (.int _), some (.int _), some (.int _), some (.int _)]) dX11_cell_126 rfl (by decide) rfl ?_
          refine jn_iinc (lv' := [some (.ref 76), some (.int _), some (.int _), some (.int _), some (.int _), some (.int _)]) dX11_cell_129 rfl (by decide) rfl ?_
          refine j_goto (tgt := 94) dX11_cell_132 (by decide) ?_
          refine j_sub ?_ (ih (i + 1) (by omega) (by omega))
          rw [ec, eo]
          exact ⟨rfl, rfl, rfl, rfl, rfl, rfl, trivial⟩

set_option maxHeartbeats 200000 in
set_option maxRecDepth 100000 in
theorem m_cell_3 (z1 : zb 49 (A 82)) (z2 : zb 49 (A 83)) (z3 : zb 49 (A 84)) (z4 : zb 49 (A 85)) (hw : ow (A 82)) {j : Nat} (hj : j < 49) : jMet (d + 2) yX11_cell cX11_cell 6 (some .int) 0 0 [.ref 76, .int (nI j), .int (nI 3)] (tw X A L) (jRi (nI (dg j)) (tw X (mA A (A 82) (A 83)) L)) := by
  refine jMet_of (by decide) (Nat.le_of_ble_eq_true rfl) none (Or.inl rfl) ?_
  show jWP none RX11 cX11_cell 6 (some .int) (d + 2) 0 0 0 [some (.ref 76), some (.int (nI j)), some (.int (nI 3)), none, none, none] [] (tw X A L) (jRi (nI (dg j)) (tw X (mA A (A 82) (A 83)) L))
  refine j_iload_n dX11_cell_0 rfl rfl ?_
  refine j_i2l dX11_cell_1 ?_
  refine j_callSi [.long _] [] dX11_cell_2 jlk_X11_120 rfl rfl (Nat.le_of_ble_eq_true rfl) (jMet_i m_isCell (isc_in hj) rfl) ?_
  refine j_if_eq (tgt := 20) dX11_cell_5 (by decide) (fun h => absurd h (by decide)) (fun _ => ?_)
  refine j_iload_n dX11_cell_8 rfl rfl ?_
  refine j_i2l dX11_cell_9 ?_
  refine j_lconst (v := 0) dX11_cell_10 rfl ?_
  refine j_ldc2 dX11_cell_11 jw_k_X11_150 ?_
  refine j_callSi [.long _, .long _, .long _] [] dX11_cell_14 jlk_X11_111 rfl rfl (Nat.le_of_ble_eq_true rfl) (jMet_i m_within (wi_in (j := 3) (k := 9) (by omega) (by decide) (by decide)) rfl) ?_
  refine j_if_ne (tgt := 22) dX11_cell_17 (by decide) (fun _ => ?_) (fun h => absurd h (by decide))
  refine j_aload_n dX11_cell_22 rfl rfl ?_
  refine j_callVv [] [] dX11_cell_23 jlk_X11_140 rfl rfl rfl rfl (Nat.le_of_ble_eq_true rfl) (m_begins1 z1 z2 z3 z4) ?_
  refine j_iload_n dX11_cell_26 rfl rfl ?_
  refine j_iconst (v := nI 3) dX11_cell_27 rfl ?_
  refine j_icmp_ge (tgt := 85) dX11_cell_28 (by decide) (fun _ => ?_) (fun h => absurd (by decide) h)
  refine j_iconst (v := nI 0) dX11_cell_85 rfl ?_
  refine j_istore_n (lv' := [some (.ref 76), some (.int _), some (.int _), some (.int _), none, none]) dX11_cell_86 rfl (by decide) rfl ?_
  refine j_bipush (v := (-2)) dX11_cell_87 rfl ?_
  refine j_istore (lv' := [some (.ref 76), some (.int _), some (.int _), some (.int _), some (.int _), none]) dX11_cell_89 (by decide) rfl ?_
  refine j_iconst (v := nI 0) dX11_cell_91 rfl ?_
  refine j_istore (lv' := [some (.ref 76), some (.int _), some (.int _), some (.int _), some (.int _), some (.int _)]) dX11_cell_92 (by decide) rfl ?_
  exact l_cell_3 hj 50 0 (by decide) (by decide)

set_option maxHeartbeats 200000 in
set_option maxRecDepth 100000 in
theorem m_cell_4 (z1 : zb 49 (A 82)) (z2 : zb 49 (A 83)) (z3 : zb 49 (A 84)) (z4 : zb 49 (A 85)) (hw : ow (A 82)) {j : Nat} (hj : j < 49) {t : Nat} (ht : t < 6) : jMet (d + 2) yX11_cell cX11_cell 6 (some .int) 0 0 [.ref 76, .int (nI j), .int (nI (t + 4))] (tw X A L) (jRi (if t < dg j then nI (nb j t) else (-2)) (tw X (mA A (A 82) (A 83)) L)) := by
  refine jMet_of (by decide) (Nat.le_of_ble_eq_true rfl) none (Or.inl rfl) ?_
  show jWP none RX11 cX11_cell 6 (some .int) (d + 2) 0 0 0 [some (.ref 76), some (.int (nI j)), some (.int (nI (t + 4))), none, none, none] [] (tw X A L) (jRi (if t < dg j then nI (nb j t) else (-2)) (tw X (mA A (A 82) (A 83)) L))
  refine j_iload_n dX11_cell_0 rfl rfl ?_
  refine j_i2l dX11_cell_1 ?_
  refine j_callSi [.long _] [] dX11_cell_2 jlk_X11_120 rfl rfl (Nat.le_of_ble_eq_true rfl) (jMet_i m_isCell (isc_in hj) rfl) ?_
  refine j_if_eq (tgt := 20) dX11_cell_5 (by decide) (fun h => absurd h (by decide)) (fun _ => ?_)
  refine j_iload_n dX11_cell_8 rfl rfl ?_
  refine j_i2l dX11_cell_9 ?_
  refine j_lconst (v := 0) dX11_cell_10 rfl ?_
  refine j_ldc2 dX11_cell_11 jw_k_X11_150 ?_
  refine j_callSi [.long _, .long _, .long _] [] dX11_cell_14 jlk_X11_111 rfl rfl (Nat.le_of_ble_eq_true rfl) (jMet_i m_within (wi_in (j := t + 4) (k := 9) (by omega) (by decide) (by decide)) rfl) ?_
  refine j_if_ne (tgt := 22) dX11_cell_17 (by decide) (fun _ => ?_) (fun h => absurd h (by decide))
  refine j_aload_n dX11_cell_22 rfl rfl ?_
  refine j_callVv [] [] dX11_cell_23 jlk_X11_140 rfl rfl rfl rfl (Nat.le_of_ble_eq_true rfl) (m_begins1 z1 z2 z3 z4) ?_
  refine j_iload_n dX11_cell_26 rfl rfl ?_
  refine j_iconst (v := nI 3) dX11_cell_27 rfl ?_
  refine jn_icmp_ge (tgt := 85) dX11_cell_28 (by decide) (by omega) (by omega) (fun h28 => ?_) (fun h28 => absurd h28 (by omega))
  refine j_iconst (v := nI 0) dX11_cell_85 rfl ?_
  refine j_istore_n (lv' := [some (.ref 76), some (.int _), some (.int _), some (.int _), none, none]) dX11_cell_86 rfl (by decide) rfl ?_
  refine j_bipush (v := (-2)) dX11_cell_87 rfl ?_
  refine j_istore (lv' := [some (.ref 76), some (.int _), some (.int _), some (.int _), some (.int _), none]) dX11_cell_89 (by decide) rfl ?_
  refine j_iconst (v := nI 0) dX11_cell_91 rfl ?_
  refine j_istore (lv' := [some (.ref 76), some (.int _), some (.int _), some (.int _), some (.int _), some (.int _)]) dX11_cell_92 (by decide) rfl ?_
  rw [← owF_tab hj ht]
  exact l_cell_4 hj ht 50 0 (by decide) (by decide)

set_option maxHeartbeats 200000 in
set_option maxRecDepth 100000 in
theorem m_far {a b : Nat} (ha : a < 49) (hb : b < 49) : jMet (d + 2) yX11_far cX11_far 3 (some .int) 0 0 [.ref 76, .int (nI a), .int (nI b)] (tw X A L) (jRi (nI (dsN a b)) (tw X A L)) := by
  refine jMet_of (by decide) (Nat.le_of_ble_eq_true rfl) none (Or.inl rfl) ?_
  show jWP none RX11 cX11_far 3 (some .int) (d + 2) 0 0 0 [some (.ref 76), some (.int (nI a)), some (.int (nI b))] [] (tw X A L) (jRi (nI (dsN a b)) (tw X A L))
  refine j_iload_n dX11_far_0 rfl rfl ?_
  refine j_i2l dX11_far_1 ?_
  refine j_callSi [.long _] [] dX11_far_2 jlk_X11_120 rfl rfl (Nat.le_of_ble_eq_true rfl) (jMet_i m_isCell (isc_in ha) rfl) ?_
  refine j_if_eq (tgt := 30) dX11_far_5 (by decide) (fun h => absurd h (by decide)) (fun _ => ?_)
  refine j_iload_n dX11_far_8 rfl rfl ?_
  refine j_i2l dX11_far_9 ?_
  refine j_callSi [.long _] [] dX11_far_10 jlk_X11_120 rfl rfl (Nat.le_of_ble_eq_true rfl) (jMet_i m_isCell (isc_in hb) rfl) ?_
  refine j_if_eq (tgt := 30) dX11_far_13 (by decide) (fun h => absurd h (by decide)) (fun _ => ?_)
  refine j_aload_n dX11_far_16 rfl rfl ?_
  refine t_getR (b := 81) dX11_far_17 jfl_X11_24 (fun _ _ _ => rfl) rfl ?_
  refine j_bipush (v := nI 49) dX11_far_20 rfl ?_
  refine j_iload_n dX11_far_22 rfl rfl ?_
  refine jn_imul dX11_far_23 ?_
  refine j_iload_n dX11_far_24 rfl rfl ?_
  refine jn_iadd dX11_far_25 ?_
  refine t_ialoadT dX11_far_26 (fun _ _ _ => rfl) (by omega) (by decide) ?_
  refine j_topE (e' := nI (dsN a b)) (by rw [Nat.mul_comm]; exact tDs_at hb) ?_
  refine j_goto (tgt := 31) dX11_far_27 (by decide) ?_
  refine j_ireturn dX11_far_31 rfl ?_
  exact ⟨rfl, rfl⟩

set_option maxHeartbeats 200000 in
set_option maxRecDepth 100000 in
theorem m_far_no {a b : Int32} (h : isc a = nI 0 ∨ isc b = nI 0) : jMet (d + 2) yX11_far cX11_far 3 (some .int) 0 0 [.ref 76, .int a, .int b] (tw X A L) (jRi (-1) (tw X A L)) := by
  refine jMet_of (by decide) (Nat.le_of_ble_eq_true rfl) none (Or.inl rfl) ?_
  show jWP none RX11 cX11_far 3 (some .int) (d + 2) 0 0 0 [some (.ref 76), some (.int a), some (.int b)] [] (tw X A L) (jRi (-1) (tw X A L))
  refine j_iload_n dX11_far_0 rfl rfl ?_
  refine j_i2l dX11_far_1 ?_
  refine j_callSi [.long _] [] dX11_far_2 jlk_X11_120 rfl rfl (Nat.le_of_ble_eq_true rfl) (m_isCell) ?_
  refine j_if_eq (tgt := 30) dX11_far_5 (by decide) (fun h5 => ?_) (fun h5 => ?_)
  · refine j_iconst (v := (-1)) dX11_far_30 rfl ?_
    refine j_ireturn dX11_far_31 rfl ?_
    exact ⟨rfl, rfl⟩
  · refine j_iload_n dX11_far_8 rfl rfl ?_
    refine j_i2l dX11_far_9 ?_
    refine j_callSi [.long _] [] dX11_far_10 jlk_X11_120 rfl rfl (Nat.le_of_ble_eq_true rfl) (m_isCell) ?_
    refine j_if_eq (tgt := 30) dX11_far_13 (by decide) (fun h13 => ?_) (fun h13 => ?_)
    · refine j_iconst (v := (-1)) dX11_far_30 rfl ?_
      refine j_ireturn dX11_far_31 rfl ?_
      exact ⟨rfl, rfl⟩
    · exact absurd h (fun q => q.elim h5 h13)

set_option maxHeartbeats 200000 in
set_option maxRecDepth 100000 in
theorem m_feed_no {c : Int32} (h : c < 0 ∨ nI 255 < c) : jMet (d + 1) yX11_feed cX11_feed 2 (some .int) 0 0 [.ref 76, .int c] (tw X A L) (jRi (-1) (tw X A L)) := by
  refine jMet_of (by decide) (Nat.le_of_ble_eq_true rfl) none (Or.inl rfl) ?_
  show jWP none RX11 cX11_feed 2 (some .int) (d + 1) 0 0 0 [some (.ref 76), some (.int c)] [] (tw X A L) (jRi (-1) (tw X A L))
  refine j_iload_n dX11_feed_0 rfl rfl ?_
  refine j_i2l dX11_feed_1 ?_
  refine j_lconst (v := 0) dX11_feed_2 rfl ?_
  refine j_ldc2 dX11_feed_3 jw_k_X11_155 ?_
  refine j_callSi [.long _, .long _, .long _] [] dX11_feed_6 jlk_X11_111 rfl rfl (Nat.le_of_ble_eq_true rfl) (jMet_i m_within (wi_no h (by decide)) rfl) ?_
  refine j_if_ne (tgt := 14) dX11_feed_9 (by decide) (fun h => absurd (by decide) h) (fun _ => ?_)
  refine j_iconst (v := (-1)) dX11_feed_12 rfl ?_
  refine j_ireturn dX11_feed_13 rfl ?_
  exact ⟨rfl, rfl⟩

set_option maxHeartbeats 200000 in
set_option maxRecDepth 100000 in
theorem m_feed_full {c : Nat} (hc : c ≤ 255) (h : X 76 13 = nI 120) : jMet (d + 1) yX11_feed cX11_feed 2 (some .int) 0 0 [.ref 76, .int (nI c)] (tw X A L) (jRi (-3) (tw X A L)) := by
  refine jMet_of (by decide) (Nat.le_of_ble_eq_true rfl) none (Or.inl rfl) ?_
  show jWP none RX11 cX11_feed 2 (some .int) (d + 1) 0 0 0 [some (.ref 76), some (.int (nI c))] [] (tw X A L) (jRi (-3) (tw X A L))
  refine j_iload_n dX11_feed_0 rfl rfl ?_
  refine j_i2l dX11_feed_1 ?_
  refine j_lconst (v := 0) dX11_feed_2 rfl ?_
  refine j_ldc2 dX11_feed_3 jw_k_X11_155 ?_
  refine j_callSi [.long _, .long _, .long _] [] dX11_feed_6 jlk_X11_111 rfl rfl (Nat.le_of_ble_eq_true rfl) (jMet_i m_within (wi_in hc (by decide) (by decide)) rfl) ?_
  refine j_if_ne (tgt := 14) dX11_feed_9 (by decide) (fun _ => ?_) (fun h => absurd h (by decide))
  refine j_aload_n dX11_feed_14 rfl rfl ?_
  refine t_getI dX11_feed_15 jfl_X11_157 (fun _ _ _ => rfl) (fun _ => rfl) ?_
  refine j_topE (e' := nI 120) h ?_
  refine j_bipush (v := nI 120) dX11_feed_18 rfl ?_
  refine jn_icmp_ne (tgt := 26) dX11_feed_20 (by decide) (by omega) (by omega) (fun h20 => absurd h20 (by omega)) (fun h20 => ?_)
  refine j_bipush (v := (-3)) dX11_feed_23 rfl ?_
  refine j_ireturn dX11_feed_25 rfl ?_
  exact ⟨rfl, rfl⟩

set_option maxHeartbeats 200000 in
set_option maxRecDepth 100000 in
theorem m_feed {c q : Nat} (hc : c ≤ 255) (h : X 76 13 = nI q) (hq : q < 120) : jMet (d + 1) yX11_feed cX11_feed 2 (some .int) 0 0 [.ref 76, .int (nI c)] (tw X A L) (jRi (nI (q + 1)) (tw (va_up X 76 (upd (X 76) 13 (nI (q + 1)))) (va_up A 86 (upd (A 86) q (nI c))) L)) := by
  refine jMet_of (by decide) (Nat.le_of_ble_eq_true rfl) none (Or.inl rfl) ?_
  show jWP none RX11 cX11_feed 2 (some .int) (d + 1) 0 0 0 [some (.ref 76), some (.int (nI c))] [] (tw X A L) (jRi (nI (q + 1)) (tw (va_up X 76 (upd (X 76) 13 (nI (q + 1)))) (va_up A 86 (upd (A 86) q (nI c))) L))
  refine j_iload_n dX11_feed_0 rfl rfl ?_
  refine j_i2l dX11_feed_1 ?_
  refine j_lconst (v := 0) dX11_feed_2 rfl ?_
  refine j_ldc2 dX11_feed_3 jw_k_X11_155 ?_
  refine j_callSi [.long _, .long _, .long _] [] dX11_feed_6 jlk_X11_111 rfl rfl (Nat.le_of_ble_eq_true rfl) (jMet_i m_within (wi_in hc (by decide) (by decide)) rfl) ?_
  refine j_if_ne (tgt := 14) dX11_feed_9 (by decide) (fun _ => ?_) (fun h => absurd h (by decide))
  refine j_aload_n dX11_feed_14 rfl rfl ?_
  refine t_getI dX11_feed_15 jfl_X11_157 (fun _ _ _ => rfl) (fun _ => rfl) ?_
  refine j_topE (e' := nI q) h ?_
  refine j_bipush (v := nI 120) dX11_feed_18 rfl ?_
  refine jn_icmp_ne (tgt := 26) dX11_feed_20 (by decide) (by omega) (by omega) (fun h20 => ?_) (fun h20 => absurd h20 (by omega))
  refine j_aload_n dX11_feed_26 rfl rfl ?_
  refine t_getR (b := 86) dX11_feed_27 jfl_X11_39 (fun _ _ _ => rfl) rfl ?_
  refine j_aload_n dX11_feed_30 rfl rfl ?_
  refine t_getI dX11_feed_31 jfl_X11_157 (fun _ _ _ => rfl) (fun _ => rfl) ?_
  refine j_topE (e' := nI q) h ?_
  refine j_iload_n dX11_feed_34 rfl rfl ?_
  refine t_iastore dX11_feed_35 (fun _ _ _ => rfl) (by omega) (by decide) ?_
  refine j_aload_n dX11_feed_36 rfl rfl ?_
  refine j_dup dX11_feed_37 rfl ?_
  refine t_getI dX11_feed_38 jfl_X11_157 (fun _ _ _ => rfl) (fun _ => rfl) ?_
  refine j_topE (e' := nI q) h ?_
  refine j_iconst (v := nI 1) dX11_feed_41 rfl ?_
  refine jn_iadd dX11_feed_42 ?_
  refine t_putI dX11_feed_43 jfl_X11_157 (fun _ _ _ => rfl) (fun _ _ => rfl) (Nat.le_of_ble_eq_true rfl) rfl rfl ?_
  refine j_aload_n dX11_feed_46 rfl rfl ?_
  refine t_getI dX11_feed_47 jfl_X11_157 (fun _ _ _ => rfl) (fun _ => rfl) ?_
  refine j_topE (e' := nI (q + 1)) (by rw [vu_s, ud_s]) ?_
  refine j_ireturn dX11_feed_50 rfl ?_
  exact ⟨rfl, rfl⟩

set_option maxHeartbeats 200000 in
set_option maxRecDepth 100000 in
theorem m_led {j : Nat} (hj : j < 6) : jMet (d + 1) yX11_led cX11_led 2 (some .int) 0 0 [.ref 76, .int (nI j)] (tw X A L) (jRi (A 94 j) (tw X A L)) := by
  refine jMet_of (by decide) (Nat.le_of_ble_eq_true rfl) none (Or.inl rfl) ?_
  show jWP none RX11 cX11_led 2 (some .int) (d + 1) 0 0 0 [some (.ref 76), some (.int (nI j))] [] (tw X A L) (jRi (A 94 j) (tw X A L))
  refine j_iload_n dX11_led_0 rfl rfl ?_
  refine j_i2l dX11_led_1 ?_
  refine j_lconst (v := 0) dX11_led_2 rfl ?_
  refine j_ldc2 dX11_led_3 jw_k_X11_329 ?_
  refine j_callSi [.long _, .long _, .long _] [] dX11_led_6 jlk_X11_111 rfl rfl (Nat.le_of_ble_eq_true rfl) (jMet_i m_within (wi_in (k := 5) (by omega) (by decide) (by decide)) rfl) ?_
  refine j_if_eq (tgt := 21) dX11_led_9 (by decide) (fun h => absurd h (by decide)) (fun _ => ?_)
  refine j_aload_n dX11_led_12 rfl rfl ?_
  refine t_getR (b := 94) dX11_led_13 jfl_X11_64 (fun _ _ _ => rfl) rfl ?_
  refine j_iload_n dX11_led_16 rfl rfl ?_
  refine t_iaload dX11_led_17 (fun _ _ _ => rfl) (by omega) (by decide) ?_
  refine j_goto (tgt := 22) dX11_led_18 (by decide) ?_
  refine j_ireturn dX11_led_22 rfl ?_
  exact ⟨rfl, rfl⟩

set_option maxHeartbeats 200000 in
set_option maxRecDepth 100000 in
theorem m_led_no {c : Int32} (h : isA 6 c = nI 0) : jMet (d + 1) yX11_led cX11_led 2 (some .int) 0 0 [.ref 76, .int c] (tw X A L) (jRi (-1) (tw X A L)) := by
  refine jMet_of (by decide) (Nat.le_of_ble_eq_true rfl) none (Or.inl rfl) ?_
  show jWP none RX11 cX11_led 2 (some .int) (d + 1) 0 0 0 [some (.ref 76), some (.int c)] [] (tw X A L) (jRi (-1) (tw X A L))
  refine j_iload_n dX11_led_0 rfl rfl ?_
  refine j_i2l dX11_led_1 ?_
  refine j_lconst (v := 0) dX11_led_2 rfl ?_
  refine j_ldc2 dX11_led_3 jw_k_X11_329 ?_
  refine j_callSi [.long _, .long _, .long _] [] dX11_led_6 jlk_X11_111 rfl rfl (Nat.le_of_ble_eq_true rfl) (jMet_i m_within ((wi_A (k := 5) (by decide) (by decide)).trans h) rfl) ?_
  refine j_if_eq (tgt := 21) dX11_led_9 (by decide) (fun _ => ?_) (fun h => absurd (by decide) h)
  refine j_iconst (v := (-1)) dX11_led_21 rfl ?_
  refine j_ireturn dX11_led_22 rfl ?_
  exact ⟨rfl, rfl⟩

end CT42