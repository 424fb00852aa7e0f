section CT62
variable {d : Nat} {X A : Nat → Nat → Int32} {L : Nat → Nat → Int64} {w : jW} {tx v : Nat → Nat} {na tm : Nat} {td : Bool}

set_option maxHeartbeats 200000 in
set_option maxRecDepth 100000 in
theorem m_order_all (hr : mrul td tm tx na v X A) (z1 : zb 49 (A 82)) (z2 : zb 49 (A 83)) (z3 : zb 49 (A 84)) (z4 : zb 49 (A 85)) (hw : ow (A 82)) {j ln : Nat} (hj : j < 6) {E : Nat → Int32} (hs : A 100 j = nI 50) (hm : A 101 j = nI ln) (l60 : ln ≤ 60) (hE : ∀ i, i < ln → L 102 (60 * j + i) = (E i).toInt64) {T : Nat} (hT : saC (saB na ln E) 30 0 = T) {e : Nat} (he : e < 2 ^ 31) (hea : e / 100 < na) (hew : e % 100 < 50) {p0 : Nat → Nat} (hp0 : A 90 = nIf p0) : jMet (d + 61) yX11_order cX11_order 5 (some .int) 0 0 [.ref 76, .int (nI j), .int (nI e), .int (-1)] (tw X A L) ((fun z w => z = some (.int ((ooF (min T 5) (fun p => balS (ouC (RkM td tm tx v) E p (min T 5) T (e % 100) (A 82, A 83)).1 (ouC (RkM td tm tx v) E p (min T 5) T (e % 100) (A 82, A 83)).2 (nI (e / 100)) 49) (min T 5) 0 0 (p0, -1, A 91)).2.1)) ∧ ∃ (y N Z : Nat → Int32) (c : cS), (zb 49 c.1 ∧ zb 49 c.2) ∧ w = tw (orX X y (ooF (min T 5) (fun p => balS (ouC (RkM td tm tx v) E p (min T 5) T (e % 100) (A 82, A 83)).1 (ouC (RkM td tm tx v) E p (min T 5) T (e % 100) (A 82, A 83)).2 (nI (e / 100)) 49) (min T 5) 0 0 (p0, -1, A 91)).2.1) (orA A (ooF (min T 5) (fun p => balS (ouC (RkM td tm tx v) E p (min T 5) T (e % 100) (A 82, A 83)).1 (ouC (RkM td tm tx v) E p (min T 5) T (e % 100) (A 82, A 83)).2 (nI (e / 100)) 49) (min T 5) 0 0 (p0, -1, A 91)).1 (ooF (min T 5) (fun p => balS (ouC (RkM td tm tx v) E p (min T 5) T (e % 100) (A 82, A 83)).1 (ouC (RkM td tm tx v) E p (min T 5) T (e % 100) (A 82, A 83)).2 (nI (e / 100)) 49) (min T 5) 0 0 (p0, -1, A 91)).2.2 N Z c) L)) := by
  refine jMet_of (by decide) (Nat.le_of_ble_eq_true rfl) none (Or.inl rfl) ?_
  show jWP none RX11 cX11_order 5 (some .int) (d + 61) 0 0 0 [some (.ref 76), some (.int (nI j)), some (.int (nI e)), some (.int (-1)), none] [] (tw X A L) ((fun z w => z = some (.int ((ooF (min T 5) (fun p => balS (ouC (RkM td tm tx v) E p (min T 5) T (e % 100) (A 82, A 83)).1 (ouC (RkM td tm tx v) E p (min T 5) T (e % 100) (A 82, A 83)).2 (nI (e / 100)) 49) (min T 5) 0 0 (p0, -1, A 91)).2.1)) ∧ ∃ (y N Z : Nat → Int32) (c : cS), (zb 49 c.1 ∧ zb 49 c.2) ∧ w = tw (orX X y (ooF (min T 5) (fun p => balS (ouC (RkM td tm tx v) E p (min T 5) T (e % 100) (A 82, A 83)).1 (ouC (RkM td tm tx v) E p (min T 5) T (e % 100) (A 82, A 83)).2 (nI (e / 100)) 49) (min T 5) 0 0 (p0, -1, A 91)).2.1) (orA A (ooF (min T 5) (fun p => balS (ouC (RkM td tm tx v) E p (min T 5) T (e % 100) (A 82, A 83)).1 (ouC (RkM td tm tx v) E p (min T 5) T (e % 100) (A 82, A 83)).2 (nI (e / 100)) 49) (min T 5) 0 0 (p0, -1, A 91)).1 (ooF (min T 5) (fun p => balS (ouC (RkM td tm tx v) E p (min T 5) T (e % 100) (A 82, A 83)).1 (ouC (RkM td tm tx v) E p (min T 5) T (e % 100) (A 82, A 83)).2 (nI (e / 100)) 49) (min T 5) 0 0 (p0, -1, A 91)).2.2 N Z c) L))
  have hT30 : T ≤ 30 := by rw [← hT]; exact saC_le 30 0
  have hoo := m_ordersOn (d := d + (5 - min T 5)) (L := L) hr z1 z2 hw hj hm l60 hE hT (Nat.min_le_left T 5) (Nat.min_le_right T 5) (a := e / 100) hea (wn := e % 100) hew (min T 5) 0 (by omega) 0 (p0, -1, A 91) (X 76) (A 88) (A 89) (A 84, A 85) (by decide) ⟨z3, z4⟩ (fun i hi => absurd hi (Nat.not_lt_zero i))
  rw [show d + (5 - min T 5) + (55 + min T 5) = d + 60 by omega] at hoo
  refine j_aload_n dX11_order_0 rfl rfl ?_
  refine j_iload_n dX11_order_1 rfl rfl ?_
  refine j_callVi [.int _] [] dX11_order_2 jlk_X11_228 rfl rfl rfl rfl (Nat.le_of_ble_eq_true rfl) (m_bytesIs hj hs) ?_
  refine j_iconst (v := (-1)) dX11_order_5 rfl ?_
  refine j_icmp_eq (tgt := 45) dX11_order_6 (by decide) (fun h => absurd h (by decide)) (fun _ => ?_)
  refine j_iload_n dX11_order_9 rfl rfl ?_
  refine jn_if_lt (tgt := 45) dX11_order_10 (by decide) he ?_
  refine j_aload_n dX11_order_13 rfl rfl ?_
  refine j_iload_n dX11_order_14 rfl rfl ?_
  refine j_bipush (v := nI 100) dX11_order_15 rfl ?_
  refine jn_idiv dX11_order_17 he (by decide) (by decide) ?_
  refine j_i2l dX11_order_18 ?_
  refine j_callVi [.long _] [] dX11_order_19 jlk_X11_128 rfl rfl rfl rfl (Nat.le_of_ble_eq_true rfl) (jMet_i (m_isAccount hr.2.2.2.2.2.1 hr.2.2.2.2.2.2.1) (isA_in hea (by have := hr.2.2.2.2.2.2.1; omega)) rfl) ?_
  refine j_if_eq (tgt := 45) dX11_order_22 (by decide) (fun h => absurd h (by decide)) (fun _ => ?_)
  refine j_iload_n dX11_order_25 rfl rfl ?_
  refine j_bipush (v := nI 100) dX11_order_26 rfl ?_
  refine jn_irem dX11_order_28 he (by decide) (by decide) ?_
  refine j_i2l dX11_order_29 ?_
  refine j_lconst (v := 0) dX11_order_30 rfl ?_
  refine j_ldc2 dX11_order_31 jw_k_X11_244 ?_
  refine j_callSi [.long _, .long _, .long _] [] dX11_order_34 jlk_X11_111 rfl rfl (Nat.le_of_ble_eq_true rfl) (jMet_i m_within (wi_in (k := 49) (by omega) (by decide) (by decide)) rfl) ?_
  refine j_if_eq (tgt := 45) dX11_order_37 (by decide) (fun h => absurd h (by decide)) (fun _ => ?_)
  refine j_iload_n dX11_order_40 rfl rfl ?_
  refine j_iconst (v := (-1)) dX11_order_41 rfl ?_
  refine j_icmp_ge (tgt := 47) dX11_order_42 (by decide) (fun _ => ?_) (fun h => absurd (by decide) h)
  refine j_aload_n dX11_order_47 rfl rfl ?_
  refine j_iload_n dX11_order_48 rfl rfl ?_
  refine j_callVi [.int _] [] dX11_order_49 jlk_X11_228 rfl rfl rfl rfl (Nat.le_of_ble_eq_true rfl) (m_bytesIs hj hs) ?_
  refine j_if_ge (tgt := 61) dX11_order_52 (by decide) (fun _ => ?_) (fun h => absurd (by decide) h)
  refine j_aload_n dX11_order_61 rfl rfl ?_
  refine j_iload_n dX11_order_62 rfl rfl ?_
  refine j_callVi [.int _] [] dX11_order_63 jlk_X11_231 rfl rfl rfl rfl (Nat.le_of_ble_eq_true rfl) (m_salesOf (d := d + 58) hr.2.2.2.2.2.1 hr.2.2.2.2.2.2.1 hj hm l60 hE) ?_
  rw [hT]
  refine j_iconst (v := nI 5) dX11_order_66 rfl ?_
  refine jn_icmp_ge (tgt := 78) dX11_order_67 (by decide) (by omega) (by omega) (fun h67 => ?_) (fun h67 => ?_)
  · refine j_iconst (v := nI 5) dX11_order_78 rfl ?_
    refine j_ats (st' := [.int (nI (min T 5))]) (by rw [Nat.min_eq_right (by omega)]) ?_
    refine j_istore (lv' := [some (.ref 76), some (.int _), some (.int _), some (.int _), some (.int _)]) dX11_order_79 (by decide) rfl ?_
    refine j_aload_n dX11_order_81 rfl rfl ?_
    refine j_iconst (v := (-1)) dX11_order_82 rfl ?_
    refine t_putI dX11_order_83 jfl_X11_251 (fun _ _ _ => rfl) (fun _ _ => rfl) (Nat.le_of_ble_eq_true rfl) rfl rfl ?_
    refine j_aload_n dX11_order_86 rfl rfl ?_
    refine j_iload_n dX11_order_87 rfl rfl ?_
    refine j_iconst (v := nI 0) dX11_order_88 rfl ?_
    refine j_iconst (v := nI 0) dX11_order_89 rfl ?_
    refine j_iload dX11_order_90 rfl ?_
    refine j_iload_n dX11_order_92 rfl rfl ?_
    refine j_bipush (v := nI 100) dX11_order_93 rfl ?_
    refine jn_idiv dX11_order_95 he (by decide) (by decide) ?_
    refine j_iload_n dX11_order_96 rfl rfl ?_
    refine j_bipush (v := nI 100) dX11_order_97 rfl ?_
    refine jn_irem dX11_order_99 he (by decide) (by decide) ?_
    refine j_atw (tw_eq orX_z (orA_self hp0).symm rfl) ?_
    refine j_callV [.int _, .int _, .int _, .int _, .int _, .int _] [] dX11_order_100 jlk_X11_257 rfl rfl rfl rfl (Nat.le_of_ble_eq_true rfl) (hoo) (fun r9 w9 h9 => ?_)
    obtain ⟨rfl, y9, N9, Z9, c9, hz9, rfl⟩ := h9
    refine j_ats (st' := []) rfl ?_
    refine j_iload_n dX11_order_103 rfl rfl ?_
    refine j_if_ge (tgt := 114) dX11_order_104 (by decide) (fun h => absurd h (by decide)) (fun _ => ?_)
    refine j_aload_n dX11_order_107 rfl rfl ?_
    refine t_getI dX11_order_108 jfl_X11_251 (fun _ _ _ => rfl) (fun _ => rfl) ?_
    refine j_topE (e' := (ooF (min T 5) (fun p => balS (ouC (RkM td tm tx v) E p (min T 5) T (e % 100) (A 82, A 83)).1 (ouC (RkM td tm tx v) E p (min T 5) T (e % 100) (A 82, A 83)).2 (nI (e / 100)) 49) (min T 5) 0 0 (p0, -1, A 91)).2.1) orX_25 ?_
    refine j_goto (tgt := 131) dX11_order_111 (by decide) ?_
    refine j_ireturn dX11_order_131 rfl ?_
    exact ⟨rfl, y9, N9, Z9, c9, hz9, rfl⟩
  · refine j_aload_n dX11_order_70 rfl rfl ?_
    refine j_iload_n dX11_order_71 rfl rfl ?_
    refine j_callVi [.int _] [] dX11_order_72 jlk_X11_231 rfl rfl rfl rfl (Nat.le_of_ble_eq_true rfl) (m_salesOf (d := d + 58) hr.2.2.2.2.2.1 hr.2.2.2.2.2.2.1 hj hm l60 hE) ?_
    rw [hT]
    refine j_goto (tgt := 79) dX11_order_75 (by decide) ?_
    refine j_ats (st' := [.int (nI (min T 5))]) (by rw [Nat.min_eq_left (by omega)]) ?_
    refine j_istore (lv' := [some (.ref 76), some (.int _), some (.int _), some (.int _), some (.int _)]) dX11_order_79 (by decide) rfl ?_
    refine j_aload_n dX11_order_81 rfl rfl ?_
    refine j_iconst (v := (-1)) dX11_order_82 rfl ?_
    refine t_putI dX11_order_83 jfl_X11_251 (fun _ _ _ => rfl) (fun _ _ => rfl) (Nat.le_of_ble_eq_true rfl) rfl rfl ?_
    refine j_aload_n dX11_order_86 rfl rfl ?_
    refine j_iload_n dX11_order_87 rfl rfl ?_
    refine j_iconst (v := nI 0) dX11_order_88 rfl ?_
    refine j_iconst (v := nI 0) dX11_order_89 rfl ?_
    refine j_iload dX11_order_90 rfl ?_
    refine j_iload_n dX11_order_92 rfl rfl ?_
    refine j_bipush (v := nI 100) dX11_order_93 rfl ?_
    refine jn_idiv dX11_order_95 he (by decide) (by decide) ?_
    refine j_iload_n dX11_order_96 rfl rfl ?_
    refine j_bipush (v := nI 100) dX11_order_97 rfl ?_
    refine jn_irem dX11_order_99 he (by decide) (by decide) ?_
    refine j_atw (tw_eq orX_z (orA_self hp0).symm rfl) ?_
    refine j_callV [.int _, .int _, .int _, .int _, .int _, .int _] [] dX11_order_100 jlk_X11_257 rfl rfl rfl rfl (Nat.le_of_ble_eq_true rfl) (hoo) (fun r9 w9 h9 => ?_)
    obtain ⟨rfl, y9, N9, Z9, c9, hz9, rfl⟩ := h9
    refine j_ats (st' := []) rfl ?_
    refine j_iload_n dX11_order_103 rfl rfl ?_
    refine j_if_ge (tgt := 114) dX11_order_104 (by decide) (fun h => absurd h (by decide)) (fun _ => ?_)
    refine j_aload_n dX11_order_107 rfl rfl ?_
    refine t_getI dX11_order_108 jfl_X11_251 (fun _ _ _ => rfl) (fun _ => rfl) ?_
    refine j_topE (e' := (ooF (min T 5) (fun p => balS (ouC (RkM td tm tx v) E p (min T 5) T (e % 100) (A 82, A 83)).1 (ouC (RkM td tm tx v) E p (min T 5) T (e % 100) (A 82, A 83)).2 (nI (e / 100)) 49) (min T 5) 0 0 (p0, -1, A 91)).2.1) orX_25 ?_
    refine j_goto (tgt := 131) dX11_order_111 (by decide) ?_
    refine j_ireturn dX11_order_131 rfl ?_
    exact ⟨rfl, y9, N9, Z9, c9, hz9, rfl⟩

set_option maxHeartbeats 200000 in
set_option maxRecDepth 100000 in
theorem m_order_k (hr : mrul td tm tx na v X A) (z1 : zb 49 (A 82)) (z2 : zb 49 (A 83)) (z3 : zb 49 (A 84)) (z4 : zb 49 (A 85)) (hw : ow (A 82)) {j ln : Nat} (hj : j < 6) {E : Nat → Int32} (hs : A 100 j = nI 50) (hm : A 101 j = nI ln) (l60 : ln ≤ 60) (hE : ∀ i, i < ln → L 102 (60 * j + i) = (E i).toInt64) {T : Nat} (hT : saC (saB na ln E) 30 0 = T) {e : Nat} (he : e < 2 ^ 31) (hea : e / 100 < na) (hew : e % 100 < 50) {p0 : Nat → Nat} (hp0 : A 90 = nIf p0) {k : Nat} (hk : k < 2 ^ 31) : jMet (d + 61) yX11_order cX11_order 5 (some .int) 0 0 [.ref 76, .int (nI j), .int (nI e), .int (nI k)] (tw X A L) ((fun z w => z = some (.int (if k < min T 5 then (ooF (min T 5) (fun p => balS (ouC (RkM td tm tx v) E p (min T 5) T (e % 100) (A 82, A 83)).1 (ouC (RkM td tm tx v) E p (min T 5) T (e % 100) (A 82, A 83)).2 (nI (e / 100)) 49) (min T 5) 0 0 (p0, -1, A 91)).2.2 k else (-2))) ∧ ∃ (y N Z : Nat → Int32) (c : cS), (zb 49 c.1 ∧ zb 49 c.2) ∧ w = tw (orX X y (ooF (min T 5) (fun p => balS (ouC (RkM td tm tx v) E p (min T 5) T (e % 100) (A 82, A 83)).1 (ouC (RkM td tm tx v) E p (min T 5) T (e % 100) (A 82, A 83)).2 (nI (e / 100)) 49) (min T 5) 0 0 (p0, -1, A 91)).2.1) (orA A (ooF (min T 5) (fun p => balS (ouC (RkM td tm tx v) E p (min T 5) T (e % 100) (A 82, A 83)).1 (ouC (RkM td tm tx v) E p (min T 5) T (e % 100) (A 82, A 83)).2 (nI (e / 100)) 49) (min T 5) 0 0 (p0, -1, A 91)).1 (ooF (min T 5) (fun p => balS (ouC (RkM td tm tx v) E p (min T 5) T (e % 100) (A 82, A 83)).1 (ouC (RkM td tm tx v) E p (min T 5) T (e % 100) (A 82, A 83)).2 (nI (e / 100)) 49) (min T 5) 0 0 (p0, -1, A 91)).2.2 N Z c) L)) := by
  refine jMet_of (by decide) (Nat.le_of_ble_eq_true rfl) none (Or.inl rfl) ?_
  show jWP none RX11 cX11_order 5 (some .int) (d + 61) 0 0 0 [some (.ref 76), some (.int (nI j)), some (.int (nI e)), some (.int (nI k)), none] [] (tw X A L) ((fun z w => z = some (.int (if k < min T 5 then (ooF (min T 5) (fun p => balS (ouC (RkM td tm tx v) E p (min T 5) T (e % 100) (A 82, A 83)).1 (ouC (RkM td tm tx v) E p (min T 5) T (e % 100) (A 82, A 83)).2 (nI (e / 100)) 49) (min T 5) 0 0 (p0, -1, A 91)).2.2 k else (-2))) ∧ ∃ (y N Z : Nat → Int32) (c : cS), (zb 49 c.1 ∧ zb 49 c.2) ∧ w = tw (orX X y (ooF (min T 5) (fun p => balS (ouC (RkM td tm tx v) E p (min T 5) T (e % 100) (A 82, A 83)).1 (ouC (RkM td tm tx v) E p (min T 5) T (e % 100) (A 82, A 83)).2 (nI (e / 100)) 49) (min T 5) 0 0 (p0, -1, A 91)).2.1) (orA A (ooF (min T 5) (fun p => balS (ouC (RkM td tm tx v) E p (min T 5) T (e % 100) (A 82, A 83)).1 (ouC (RkM td tm tx v) E p (min T 5) T (e % 100) (A 82, A 83)).2 (nI (e / 100)) 49) (min T 5) 0 0 (p0, -1, A 91)).1 (ooF (min T 5) (fun p => balS (ouC (RkM td tm tx v) E p (min T 5) T (e % 100) (A 82, A 83)).1 (ouC (RkM td tm tx v) E p (min T 5) T (e % 100) (A 82, A 83)).2 (nI (e / 100)) 49) (min T 5) 0 0 (p0, -1, A 91)).2.2 N Z c) L))
  have hT30 : T ≤ 30 := by rw [← hT]; exact saC_le 30 0
  have hoo := m_ordersOn (d := d + (5 - min T 5)) (L := L) hr z1 z2 hw hj hm l60 hE hT (Nat.min_le_left T 5) (Nat.min_le_right T 5) (a := e / 100) hea (wn := e % 100) hew (min T 5) 0 (by omega) 0 (p0, -1, A 91) (X 76) (A 88) (A 89) (A 84, A 85) (by decide) ⟨z3, z4⟩ (fun i hi => absurd hi (Nat.not_lt_zero i))
  rw [show d + (5 - min T 5) + (55 + min T 5) = d + 60 by omega] at hoo
  refine j_aload_n dX11_order_0 rfl rfl ?_
  refine j_iload_n dX11_order_1 rfl rfl ?_
  refine j_callVi [.int _] [] dX11_order_2 jlk_X11_228 rfl rfl rfl rfl (Nat.le_of_ble_eq_true rfl) (m_bytesIs hj hs) ?_
  refine j_iconst (v := (-1)) dX11_order_5 rfl ?_
  refine j_icmp_eq (tgt := 45) dX11_order_6 (by decide) (fun h => absurd h (by decide)) (fun _ => ?_)
  refine j_iload_n dX11_order_9 rfl rfl ?_
  refine jn_if_lt (tgt := 45) dX11_order_10 (by decide) he ?_
  refine j_aload_n dX11_order_13 rfl rfl ?_
  refine j_iload_n dX11_order_14 rfl rfl ?_
  refine j_bipush (v := nI 100) dX11_order_15 rfl ?_
  refine jn_idiv dX11_order_17 he (by decide) (by decide) ?_
  refine j_i2l dX11_order_18 ?_
  refine j_callVi [.long _] [] dX11_order_19 jlk_X11_128 rfl rfl rfl rfl (Nat.le_of_ble_eq_true rfl) (jMet_i (m_isAccount hr.2.2.2.2.2.1 hr.2.2.2.2.2.2.1) (isA_in hea (by have := hr.2.2.2.2.2.2.1; omega)) rfl) ?_
  refine j_if_eq (tgt := 45) dX11_order_22 (by decide) (fun h => absurd h (by decide)) (fun _ => ?_)
  refine j_iload_n dX11_order_25 rfl rfl ?_
  refine j_bipush (v := nI 100) dX11_order_26 rfl ?_
  refine jn_irem dX11_order_28 he (by decide) (by decide) ?_
  refine j_i2l dX11_order_29 ?_
  refine j_lconst (v := 0) dX11_order_30 rfl ?_
  refine j_ldc2 dX11_order_31 jw_k_X11_244 ?_
  refine j_callSi [.long _, .long _, .long _] [] dX11_order_34 jlk_X11_111 rfl rfl (Nat.le_of_ble_eq_true rfl) (jMet_i m_within (wi_in (k := 49) (by omega) (by decide) (by decide)) rfl) ?_
  refine j_if_eq (tgt := 45) dX11_order_37 (by decide) (fun h => absurd h (by decide)) (fun _ => ?_)
  refine j_iload_n dX11_order_40 rfl rfl ?_
  refine j_iconst (v := (-1)) dX11_order_41 rfl ?_
  refine j_icmp_ge (tgt := 47) dX11_order_42 (by decide) (fun h42 => ?_) (fun h42 => absurd (Int32.lt_trans (Int32.not_le.mp h42) (by decide)) (nI_pos hk))
  refine j_aload_n dX11_order_47 rfl rfl ?_
  refine j_iload_n dX11_order_48 rfl rfl ?_
  refine j_callVi [.int _] [] dX11_order_49 jlk_X11_228 rfl rfl rfl rfl (Nat.le_of_ble_eq_true rfl) (m_bytesIs hj hs) ?_
  refine j_if_ge (tgt := 61) dX11_order_52 (by decide) (fun _ => ?_) (fun h => absurd (by decide) h)
  refine j_aload_n dX11_order_61 rfl rfl ?_
  refine j_iload_n dX11_order_62 rfl rfl ?_
  refine j_callVi [.int _] [] dX11_order_63 jlk_X11_231 rfl rfl rfl rfl (Nat.le_of_ble_eq_true rfl) (m_salesOf (d := d + 58) hr.2.2.2.2.2.1 hr.2.2.2.2.2.2.1 hj hm l60 hE) ?_
  rw [hT]
  refine j_iconst (v := nI 5) dX11_order_66 rfl ?_
  refine jn_icmp_ge (tgt := 78) dX11_order_67 (by decide) (by omega) (by omega) (fun h67 => ?_) (fun h67 => ?_)
  · refine j_iconst (v := nI 5) dX11_order_78 rfl ?_
    refine j_ats (st' := [.int (nI (min T 5))]) (by rw [Nat.min_eq_right (by omega)]) ?_
    refine j_istore (lv' := [some (.ref 76), some (.int _), some (.int _), some (.int _), some (.int _)]) dX11_order_79 (by decide) rfl ?_
    refine j_aload_n dX11_order_81 rfl rfl ?_
    refine j_iconst (v := (-1)) dX11_order_82 rfl ?_
    refine t_putI dX11_order_83 jfl_X11_251 (fun _ _ _ => rfl) (fun _ _ => rfl) (Nat.le_of_ble_eq_true rfl) rfl rfl ?_
    refine j_aload_n dX11_order_86 rfl rfl ?_
    refine j_iload_n dX11_order_87 rfl rfl ?_
    refine j_iconst (v := nI 0) dX11_order_88 rfl ?_
    refine j_iconst (v := nI 0) dX11_order_89 rfl ?_
    refine j_iload dX11_order_90 rfl ?_
    refine j_iload_n dX11_order_92 rfl rfl ?_
    refine j_bipush (v := nI 100) dX11_order_93 rfl ?_
    refine jn_idiv dX11_order_95 he (by decide) (by decide) ?_
    refine j_iload_n dX11_order_96 rfl rfl ?_
    refine j_bipush (v := nI 100) dX11_order_97 rfl ?_
    refine jn_irem dX11_order_99 he (by decide) (by decide) ?_
    refine j_atw (tw_eq orX_z (orA_self hp0).symm rfl) ?_
    refine j_callV [.int _, .int _, .int _, .int _, .int _, .int _] [] dX11_order_100 jlk_X11_257 rfl rfl rfl rfl (Nat.le_of_ble_eq_true rfl) (hoo) (fun r9 w9 h9 => ?_)
    obtain ⟨rfl, y9, N9, Z9, c9, hz9, rfl⟩ := h9
    refine j_ats (st' := []) rfl ?_
    refine j_iload_n dX11_order_103 rfl rfl ?_
    refine jn_if_ge (tgt := 114) dX11_order_104 (by decide) (by omega) ?_
    refine j_iload_n dX11_order_114 rfl rfl ?_
    refine j_iload dX11_order_115 rfl ?_
    refine jn_icmp_ge (tgt := 129) dX11_order_117 (by decide) (by omega) (by omega) (fun h117 => ?_) (fun h117 => ?_)
    · refine j_bipush (v := (-2)) dX11_order_129 rfl ?_
      refine j_ireturn dX11_order_131 rfl ?_
      refine ⟨congrArg (fun z => some (Value.int z)) ?_, y9, N9, Z9, c9, hz9, rfl⟩
      rw [if_neg (by omega)]
    · refine j_aload_n dX11_order_120 rfl rfl ?_
      refine t_getR (b := 91) dX11_order_121 jfl_X11_55 (fun _ _ _ => rfl) rfl ?_
      refine j_iload_n dX11_order_124 rfl rfl ?_
      refine t_iaload dX11_order_125 (fun _ _ _ => rfl) (by omega) (by decide) ?_
      refine j_topE (e' := (ooF (min T 5) (fun p => balS (ouC (RkM td tm tx v) E p (min T 5) T (e % 100) (A 82, A 83)).1 (ouC (RkM td tm tx v) E p (min T 5) T (e % 100) (A 82, A 83)).2 (nI (e / 100)) 49) (min T 5) 0 0 (p0, -1, A 91)).2.2 k) (by rw [orA_91]) ?_
      refine j_goto (tgt := 131) dX11_order_126 (by decide) ?_
      refine j_ireturn dX11_order_131 rfl ?_
      refine ⟨congrArg (fun z => some (Value.int z)) ?_, y9, N9, Z9, c9, hz9, rfl⟩
      rw [if_pos h117]
  · refine j_aload_n dX11_order_70 rfl rfl ?_
    refine j_iload_n dX11_order_71 rfl rfl ?_
    refine j_callVi [.int _] [] dX11_order_72 jlk_X11_231 rfl rfl rfl rfl (Nat.le_of_ble_eq_true rfl) (m_salesOf (d := d + 58) hr.2.2.2.2.2.1 hr.2.2.2.2.2.2.1 hj hm l60 hE) ?_
    rw [hT]
    refine j_goto (tgt := 79) dX11_order_75 (by decide) ?_
    refine j_ats (st' := [.int (nI (min T 5))]) (by rw [Nat.min_eq_left (by omega)]) ?_
    refine j_istore (lv' := [some (.ref 76), some (.int _), some (.int _), some (.int _), some (.int _)]) dX11_order_79 (by decide) rfl ?_
    refine j_aload_n dX11_order_81 rfl rfl ?_
    refine j_iconst (v := (-1)) dX11_order_82 rfl ?_
    refine t_putI dX11_order_83 jfl_X11_251 (fun _ _ _ => rfl) (fun _ _ => rfl) (Nat.le_of_ble_eq_true rfl) rfl rfl ?_
    refine j_aload_n dX11_order_86 rfl rfl ?_
    refine j_iload_n dX11_order_87 rfl rfl ?_
    refine j_iconst (v := nI 0) dX11_order_88 rfl ?_
    refine j_iconst (v := nI 0) dX11_order_89 rfl ?_
    refine j_iload dX11_order_90 rfl ?_
    refine j_iload_n dX11_order_92 rfl rfl ?_
    refine j_bipush (v := nI 100) dX11_order_93 rfl ?_
    refine jn_idiv dX11_order_95 he (by decide) (by decide) ?_
    refine j_iload_n dX11_order_96 rfl rfl ?_
    refine j_bipush (v := nI 100) dX11_order_97 rfl ?_
    refine jn_irem dX11_order_99 he (by decide) (by decide) ?_
    refine j_atw (tw_eq orX_z (orA_self hp0).symm rfl) ?_
    refine j_callV [.int _, .int _, .int _, .int _, .int _, .int _] [] dX11_order_100 jlk_X11_257 rfl rfl rfl rfl (Nat.le_of_ble_eq_true rfl) (hoo) (fun r9 w9 h9 => ?_)
    obtain ⟨rfl, y9, N9, Z9, c9, hz9, rfl⟩ := h9
    refine j_ats (st' := []) rfl ?_
    refine j_iload_n dX11_order_103 rfl rfl ?_
    refine jn_if_ge (tgt := 114) dX11_order_104 (by decide) (by omega) ?_
    refine j_iload_n dX11_order_114 rfl rfl ?_
    refine j_iload dX11_order_115 rfl ?_
    refine jn_icmp_ge (tgt := 129) dX11_order_117 (by decide) (by omega) (by omega) (fun h117 => ?_) (fun h117 => ?_)
    · refine j_bipush (v := (-2)) dX11_order_129 rfl ?_
      refine j_ireturn dX11_order_131 rfl ?_
      refine ⟨congrArg (fun z => some (Value.int z)) ?_, y9, N9, Z9, c9, hz9, rfl⟩
      rw [if_neg (by omega)]
    · refine j_aload_n dX11_order_120 rfl rfl ?_
      refine t_getR (b := 91) dX11_order_121 jfl_X11_55 (fun _ _ _ => rfl) rfl ?_
      refine j_iload_n dX11_order_124 rfl rfl ?_
      refine t_iaload dX11_order_125 (fun _ _ _ => rfl) (by omega) (by decide) ?_
      refine j_topE (e' := (ooF (min T 5) (fun p => balS (ouC (RkM td tm tx v) E p (min T 5) T (e % 100) (A 82, A 83)).1 (ouC (RkM td tm tx v) E p (min T 5) T (e % 100) (A 82, A 83)).2 (nI (e / 100)) 49) (min T 5) 0 0 (p0, -1, A 91)).2.2 k) (by rw [orA_91]) ?_
      refine j_goto (tgt := 131) dX11_order_126 (by decide) ?_
      refine j_ireturn dX11_order_131 rfl ?_
      refine ⟨congrArg (fun z => some (Value.int z)) ?_, y9, N9, Z9, c9, hz9, rfl⟩
      rw [if_pos h117]

set_option maxHeartbeats 200000 in
set_option maxRecDepth 100000 in
theorem m_order_no {c e k : Int32} (h : isA 6 c = nI 0) : jMet (d + 61) yX11_order cX11_order 5 (some .int) 0 0 [.ref 76, .int c, .int e, .int k] (tw X A L) (jRi (-1) (tw X A L)) := by
  refine jMet_of (by decide) (Nat.le_of_ble_eq_true rfl) none (Or.inl rfl) ?_
  show jWP none RX11 cX11_order 5 (some .int) (d + 61) 0 0 0 [some (.ref 76), some (.int c), some (.int e), some (.int k), none] [] (tw X A L) (jRi (-1) (tw X A L))
  refine j_aload_n dX11_order_0 rfl rfl ?_
  refine j_iload_n dX11_order_1 rfl rfl ?_
  refine j_callVi [.int _] [] dX11_order_2 jlk_X11_228 rfl rfl rfl rfl (Nat.le_of_ble_eq_true rfl) (m_bytesIs_no h) ?_
  refine j_iconst (v := (-1)) dX11_order_5 rfl ?_
  refine j_icmp_eq (tgt := 45) dX11_order_6 (by decide) (fun _ => ?_) (fun h => absurd (by decide) h)
  refine j_iconst (v := (-1)) dX11_order_45 rfl ?_
  refine j_ireturn dX11_order_46 rfl ?_
  exact ⟨rfl, rfl⟩

set_option maxHeartbeats 200000 in
set_option maxRecDepth 100000 in
theorem m_order_f (hn : X 76 7 = nI na) (h6a : na ≤ 6) {j : Nat} (hj : j < 6) {h b so : Nat} (hs : A 100 j = mshI h b so) (h2 : h ≤ 2) (hb50 : h = 1 → b < 50) (so4 : so ≤ 4) (hf : bfI h so ≠ 0) {e : Nat} (he : e < 2 ^ 31) (hea : e / 100 < na) (hew : e % 100 < 50) {k : Int32} (hk : ¬ k < -1) : jMet (d + 61) yX11_order cX11_order 5 (some .int) 0 0 [.ref 76, .int (nI j), .int (nI e), .int k] (tw X A L) (jRi (bfI h so) (tw X A L)) := by
  refine jMet_of (by decide) (Nat.le_of_ble_eq_true rfl) none (Or.inl rfl) ?_
  show jWP none RX11 cX11_order 5 (some .int) (d + 61) 0 0 0 [some (.ref 76), some (.int (nI j)), some (.int (nI e)), some (.int k), none] [] (tw X A L) (jRi (bfI h so) (tw X A L))
  refine j_aload_n dX11_order_0 rfl rfl ?_
  refine j_iload_n dX11_order_1 rfl rfl ?_
  refine j_callVi [.int _] [] dX11_order_2 jlk_X11_228 rfl rfl rfl rfl (Nat.le_of_ble_eq_true rfl) (m_bytesIs_f hj hs h2 hb50 so4 hf) ?_
  refine j_iconst (v := (-1)) dX11_order_5 rfl ?_
  refine j_icmp_eq (tgt := 45) dX11_order_6 (by decide) (fun h6 => absurd h6 (bf_neg h2 hf).2) (fun h6 => ?_)
  refine j_iload_n dX11_order_9 rfl rfl ?_
  refine jn_if_lt (tgt := 45) dX11_order_10 (by decide) he ?_
  refine j_aload_n dX11_order_13 rfl rfl ?_
  refine j_iload_n dX11_order_14 rfl rfl ?_
  refine j_bipush (v := nI 100) dX11_order_15 rfl ?_
  refine jn_idiv dX11_order_17 he (by decide) (by decide) ?_
  refine j_i2l dX11_order_18 ?_
  refine j_callVi [.long _] [] dX11_order_19 jlk_X11_128 rfl rfl rfl rfl (Nat.le_of_ble_eq_true rfl) (jMet_i (m_isAccount hn h6a) (isA_in hea (by omega)) rfl) ?_
  refine j_if_eq (tgt := 45) dX11_order_22 (by decide) (fun h => absurd h (by decide)) (fun _ => ?_)
  refine j_iload_n dX11_order_25 rfl rfl ?_
  refine j_bipush (v := nI 100) dX11_order_26 rfl ?_
  refine jn_irem dX11_order_28 he (by decide) (by decide) ?_
  refine j_i2l dX11_order_29 ?_
  refine j_lconst (v := 0) dX11_order_30 rfl ?_
  refine j_ldc2 dX11_order_31 jw_k_X11_244 ?_
  refine j_callSi [.long _, .long _, .long _] [] dX11_order_34 jlk_X11_111 rfl rfl (Nat.le_of_ble_eq_true rfl) (jMet_i m_within (wi_in (k := 49) (by omega) (by decide) (by decide)) rfl) ?_
  refine j_if_eq (tgt := 45) dX11_order_37 (by decide) (fun h => absurd h (by decide)) (fun _ => ?_)
  refine j_iload_n dX11_order_40 rfl rfl ?_
  refine j_iconst (v := (-1)) dX11_order_41 rfl ?_
  refine j_icmp_ge (tgt := 47) dX11_order_42 (by decide) (fun h42 => ?_) (fun h42 => absurd (Int32.not_le.mp h42) hk)
  refine j_aload_n dX11_order_47 rfl rfl ?_
  refine j_iload_n dX11_order_48 rfl rfl ?_
  refine j_callVi [.int _] [] dX11_order_49 jlk_X11_228 rfl rfl rfl rfl (Nat.le_of_ble_eq_true rfl) (m_bytesIs_f hj hs h2 hb50 so4 hf) ?_
  refine j_if_ge (tgt := 61) dX11_order_52 (by decide) (fun h52 => absurd (bf_neg h2 hf).1 (Int32.not_lt.mpr h52)) (fun h52 => ?_)
  refine j_aload_n dX11_order_55 rfl rfl ?_
  refine j_iload_n dX11_order_56 rfl rfl ?_
  refine j_callVi [.int _] [] dX11_order_57 jlk_X11_228 rfl rfl rfl rfl (Nat.le_of_ble_eq_true rfl) (m_bytesIs_f hj hs h2 hb50 so4 hf) ?_
  refine j_ireturn dX11_order_60 rfl ?_
  exact ⟨rfl, rfl⟩

set_option maxHeartbeats 200000 in
set_option maxRecDepth 100000 in
theorem m_order_neg0 {j : Nat} (hj : j < 6) {h b so : Nat} (hs : A 100 j = mshI h b so) (h2 : h ≤ 2) (hb50 : h = 1 → b < 50) (so4 : so ≤ 4) (hf : bfI h so ≠ 0) {e k : Int32} (he : e < 0) : jMet (d + 61) yX11_order cX11_order 5 (some .int) 0 0 [.ref 76, .int (nI j), .int e, .int k] (tw X A L) (jRi (-1) (tw X A L)) := by
  refine jMet_of (by decide) (Nat.le_of_ble_eq_true rfl) none (Or.inl rfl) ?_
  show jWP none RX11 cX11_order 5 (some .int) (d + 61) 0 0 0 [some (.ref 76), some (.int (nI j)), some (.int e), some (.int k), none] [] (tw X A L) (jRi (-1) (tw X A L))
  refine j_aload_n dX11_order_0 rfl rfl ?_
  refine j_iload_n dX11_order_1 rfl rfl ?_
  refine j_callVi [.int _] [] dX11_order_2 jlk_X11_228 rfl rfl rfl rfl (Nat.le_of_ble_eq_true rfl) (m_bytesIs_f hj hs h2 hb50 so4 hf) ?_
  refine j_iconst (v := (-1)) dX11_order_5 rfl ?_
  refine j_icmp_eq (tgt := 45) dX11_order_6 (by decide) (fun h6 => absurd h6 (bf_neg h2 hf).2) (fun h6 => ?_)
  refine j_iload_n dX11_order_9 rfl rfl ?_
  refine j_if_lt (tgt := 45) dX11_order_10 (by decide) (fun h10 => ?_) (fun h10 => absurd he h10)
  refine j_iconst (v := (-1)) dX11_order_45 rfl ?_
  refine j_ireturn dX11_order_46 rfl ?_
  exact ⟨rfl, rfl⟩

set_option maxHeartbeats 200000 in
set_option maxRecDepth 100000 in
theorem m_order_x0 (hn : X 76 7 = nI na) (h6a : na ≤ 6) {j : Nat} (hj : j < 6) {h b so : Nat} (hs : A 100 j = mshI h b so) (h2 : h ≤ 2) (hb50 : h = 1 → b < 50) (so4 : so ≤ 4) (hf : bfI h so ≠ 0) {e : Nat} (he : e < 2 ^ 31) {k : Int32} (hx : isA na (nI (e / 100)) = nI 0 ∨ 49 < e % 100 ∨ k < -1) : jMet (d + 61) yX11_order cX11_order 5 (some .int) 0 0 [.ref 76, .int (nI j), .int (nI e), .int k] (tw X A L) (jRi (-1) (tw X A L)) := by
  refine jMet_of (by decide) (Nat.le_of_ble_eq_true rfl) none (Or.inl rfl) ?_
  show jWP none RX11 cX11_order 5 (some .int) (d + 61) 0 0 0 [some (.ref 76), some (.int (nI j)), some (.int (nI e)), some (.int k), none] [] (tw X A L) (jRi (-1) (tw X A L))
  refine j_aload_n dX11_order_0 rfl rfl ?_
  refine j_iload_n dX11_order_1 rfl rfl ?_
  refine j_callVi [.int _] [] dX11_order_2 jlk_X11_228 rfl rfl rfl rfl (Nat.le_of_ble_eq_true rfl) (m_bytesIs_f hj hs h2 hb50 so4 hf) ?_
  refine j_iconst (v := (-1)) dX11_order_5 rfl ?_
  refine j_icmp_eq (tgt := 45) dX11_order_6 (by decide) (fun h6 => absurd h6 (bf_neg h2 hf).2) (fun h6 => ?_)
  refine j_iload_n dX11_order_9 rfl rfl ?_
  refine jn_if_lt (tgt := 45) dX11_order_10 (by decide) he ?_
  refine j_aload_n dX11_order_13 rfl rfl ?_
  refine j_iload_n dX11_order_14 rfl rfl ?_
  refine j_bipush (v := nI 100) dX11_order_15 rfl ?_
  refine jn_idiv dX11_order_17 he (by decide) (by decide) ?_
  refine j_i2l dX11_order_18 ?_
  refine j_callVi [.long _] [] dX11_order_19 jlk_X11_128 rfl rfl rfl rfl (Nat.le_of_ble_eq_true rfl) (m_isAccount hn h6a) ?_
  refine j_if_eq (tgt := 45) dX11_order_22 (by decide) (fun h22 => ?_) (fun h22 => ?_)
  · refine j_iconst (v := (-1)) dX11_order_45 rfl ?_
    refine j_ireturn dX11_order_46 rfl ?_
    exact ⟨rfl, rfl⟩
  · refine j_iload_n dX11_order_25 rfl rfl ?_
    refine j_bipush (v := nI 100) dX11_order_26 rfl ?_
    refine jn_irem dX11_order_28 he (by decide) (by decide) ?_
    refine j_i2l dX11_order_29 ?_
    refine j_lconst (v := 0) dX11_order_30 rfl ?_
    refine j_ldc2 dX11_order_31 jw_k_X11_244 ?_
    refine j_callSi [.long _, .long _, .long _] [] dX11_order_34 jlk_X11_111 rfl rfl (Nat.le_of_ble_eq_true rfl) (m_within) ?_
    refine j_if_eq (tgt := 45) dX11_order_37 (by decide) (fun h37 => ?_) (fun h37 => ?_)
    · refine j_iconst (v := (-1)) dX11_order_45 rfl ?_
      refine j_ireturn dX11_order_46 rfl ?_
      exact ⟨rfl, rfl⟩
    · refine j_iload_n dX11_order_40 rfl rfl ?_
      refine j_iconst (v := (-1)) dX11_order_41 rfl ?_
      refine j_icmp_ge (tgt := 47) dX11_order_42 (by decide) (fun h42 => ?_) (fun h42 => ?_)
      · exfalso
        have w2 := wi_1g (a := 0) (b := 49) h37 (by decide) (by decide)
        rcases hx with q | q | q
        · exact h22 q
        · exact w2.2 ((nI_ltI (by decide) (by omega)).mpr q)
        · exact Int32.not_lt.mpr h42 q
      · refine j_iconst (v := (-1)) dX11_order_45 rfl ?_
        refine j_ireturn dX11_order_46 rfl ?_
        exact ⟨rfl, rfl⟩

set_option maxHeartbeats 200000 in
set_option maxRecDepth 100000 in
theorem m_order_neg1 {j : Nat} (hj : j < 6) (hs : A 100 j = nI 50) {e k : Int32} (he : e < 0) : jMet (d + 61) yX11_order cX11_order 5 (some .int) 0 0 [.ref 76, .int (nI j), .int e, .int k] (tw X A L) (jRi (-1) (tw X A L)) := by
  refine jMet_of (by decide) (Nat.le_of_ble_eq_true rfl) none (Or.inl rfl) ?_
  show jWP none RX11 cX11_order 5 (some .int) (d + 61) 0 0 0 [some (.ref 76), some (.int (nI j)), some (.int e), some (.int k), none] [] (tw X A L) (jRi (-1) (tw X A L))
  refine j_aload_n dX11_order_0 rfl rfl ?_
  refine j_iload_n dX11_order_1 rfl rfl ?_
  refine j_callVi [.int _] [] dX11_order_2 jlk_X11_228 rfl rfl rfl rfl (Nat.le_of_ble_eq_true rfl) (m_bytesIs hj hs) ?_
  refine j_iconst (v := (-1)) dX11_order_5 rfl ?_
  refine j_icmp_eq (tgt := 45) dX11_order_6 (by decide) (fun h => absurd h (by decide)) (fun _ => ?_)
  refine j_iload_n dX11_order_9 rfl rfl ?_
  refine j_if_lt (tgt := 45) dX11_order_10 (by decide) (fun h10 => ?_) (fun h10 => absurd he h10)
  refine j_iconst (v := (-1)) dX11_order_45 rfl ?_
  refine j_ireturn dX11_order_46 rfl ?_
  exact ⟨rfl, rfl⟩

set_option maxHeartbeats 200000 in
set_option maxRecDepth 100000 in
theorem m_order_x1 (hn : X 76 7 = nI na) (h6a : na ≤ 6) {j : Nat} (hj : j < 6) (hs : A 100 j = nI 50) {e : Nat} (he : e < 2 ^ 31) {k : Int32} (hx : isA na (nI (e / 100)) = nI 0 ∨ 49 < e % 100 ∨ k < -1) : jMet (d + 61) yX11_order cX11_order 5 (some .int) 0 0 [.ref 76, .int (nI j), .int (nI e), .int k] (tw X A L) (jRi (-1) (tw X A L)) := by
  refine jMet_of (by decide) (Nat.le_of_ble_eq_true rfl) none (Or.inl rfl) ?_
  show jWP none RX11 cX11_order 5 (some .int) (d + 61) 0 0 0 [some (.ref 76), some (.int (nI j)), some (.int (nI e)), some (.int k), none] [] (tw X A L) (jRi (-1) (tw X A L))
  refine j_aload_n dX11_order_0 rfl rfl ?_
  refine j_iload_n dX11_order_1 rfl rfl ?_
  refine j_callVi [.int _] [] dX11_order_2 jlk_X11_228 rfl rfl rfl rfl (Nat.le_of_ble_eq_true rfl) (m_bytesIs hj hs) ?_
  refine j_iconst (v := (-1)) dX11_order_5 rfl ?_
  refine j_icmp_eq (tgt := 45) dX11_order_6 (by decide) (fun h => absurd h (by decide)) (fun _ => ?_)
  refine j_iload_n dX11_order_9 rfl rfl ?_
  refine jn_if_lt (tgt := 45) dX11_order_10 (by decide) he ?_
  refine j_aload_n dX11_order_13 rfl rfl ?_
  refine j_iload_n dX11_order_14 rfl rfl ?_
  refine j_bipush (v := nI 100) dX11_order_15 rfl ?_
  refine jn_idiv dX11_order_17 he (by decide) (by decide) ?_
  refine j_i2l dX11_order_18 ?_
  refine j_callVi [.long _] [] dX11_order_19 jlk_X11_128 rfl rfl rfl rfl (Nat.le_of_ble_eq_true rfl) (m_isAccount hn h6a) ?_
  refine j_if_eq (tgt := 45) dX11_order_22 (by decide) (fun h22 => ?_) (fun h22 => ?_)
  · refine j_iconst (v := (-1)) dX11_order_45 rfl ?_
    refine j_ireturn dX11_order_46 rfl ?_
    exact ⟨rfl, rfl⟩
  · refine j_iload_n dX11_order_25 rfl rfl ?_
    refine j_bipush (v := nI 100) dX11_order_26 rfl ?_
    refine jn_irem dX11_order_28 he (by decide) (by decide) ?_
    refine j_i2l dX11_order_29 ?_
    refine j_lconst (v := 0) dX11_order_30 rfl ?_
    refine j_ldc2 dX11_order_31 jw_k_X11_244 ?_
    refine j_callSi [.long _, .long _, .long _] [] dX11_order_34 jlk_X11_111 rfl rfl (Nat.le_of_ble_eq_true rfl) (m_within) ?_
    refine j_if_eq (tgt := 45) dX11_order_37 (by decide) (fun h37 => ?_) (fun h37 => ?_)
    · refine j_iconst (v := (-1)) dX11_order_45 rfl ?_
      refine j_ireturn dX11_order_46 rfl ?_
      exact ⟨rfl, rfl⟩
    · refine j_iload_n dX11_order_40 rfl rfl ?_
      refine j_iconst (v := (-1)) dX11_order_41 rfl ?_
      refine j_icmp_ge (tgt := 47) dX11_order_42 (by decide) (fun h42 => ?_) (fun h42 => ?_)
      · exfalso
        have w2 := wi_1g (a := 0) (b := 49) h37 (by decide) (by decide)
        rcases hx with q | q | q
        · exact h22 q
        · exact w2.2 ((nI_ltI (by decide) (by omega)).mpr q)
        · exact Int32.not_lt.mpr h42 q
      · refine j_iconst (v := (-1)) dX11_order_45 rfl ?_
        refine j_ireturn dX11_order_46 rfl ?_
        exact ⟨rfl, rfl⟩

theorem isA8_j {e : Int32} (h : isA 8 e ≠ nI 0) : ∃ q, q < 8 ∧ e = nI q := (isA_cases (n := 8) (by decide) e).elim (fun q => absurd q h) id

set_option maxHeartbeats 200000 in
set_option maxRecDepth 100000 in
theorem l_heardRow (hv : A 77 = nIf v) (hf : v 7 < 7) {j ln : Nat} (hj : j < 6) {E : Nat → Int32} (hm : A 101 j = nI ln) (l60 : ln ≤ 60) (hE : ∀ i, i < ln → L 102 (60 * j + i) = (E i).toInt64) {s : Nat} (hs : s < 8) {r : Int64} : ∀ (m i : Nat) (a : Int64), i + m = 4 → rwF (v 7) ln E s m i a = r → jWP none RX11 cX11_heardRow 6 (some .long) (d + 2) 0 0 5 [some (.ref 76), some (.int (nI j)), some (.int (nI s)), some (.long a), none, some (.int (nI i))] [] (tw X A L) (jRl r (tw X A L)) := by
  intro m
  induction m with
  | zero =>
    intro i a hi hr9
    refine j_iload dX11_heardRow_5 rfl ?_
    refine j_aload_n dX11_heardRow_7 rfl rfl ?_
    refine t_getR (b := 101) dX11_heardRow_8 jfl_X11_85 (fun _ _ _ => rfl) rfl ?_
    refine j_iload_n dX11_heardRow_11 rfl rfl ?_
    refine t_iaload dX11_heardRow_12 (fun _ _ _ => rfl) (by omega) (by decide) ?_
    refine j_topE (e' := nI ln) hm ?_
    refine jn_icmp_ge (tgt := 60) dX11_heardRow_13 (by decide) (by omega) (by omega) (fun h13 => ?_) (fun h13 => ?_)
    · refine j_lload_n dX11_heardRow_60 rfl rfl ?_
      refine j_lreturn dX11_heardRow_61 rfl ?_
      exact ⟨by rw [← hr9]; rfl, rfl⟩
    · refine j_iload dX11_heardRow_16 rfl ?_
      refine j_iconst (v := nI 4) dX11_heardRow_18 rfl ?_
      refine jn_icmp_ge (tgt := 60) dX11_heardRow_19 (by decide) (by omega) (by omega) (fun h19 => ?_) (fun h19 => absurd h19 (by omega))
      refine j_lload_n dX11_heardRow_60 rfl rfl ?_
      refine j_lreturn dX11_heardRow_61 rfl ?_
      exact ⟨by rw [← hr9]; rfl, rfl⟩
  | succ m ih =>
    intro i a hi hr9
    have hst : rwF (v 7) ln E s (m + 1) i a = if i < ln then (if isA 8 (E i) = nI 0 then a else rwF (v 7) ln E s m (i + 1) (a * hwJ (v 7) (E i).toNatClampNeg s)) else a := rfl
    refine j_iload dX11_heardRow_5 rfl ?_
    refine j_aload_n dX11_heardRow_7 rfl rfl ?_
    refine t_getR (b := 101) dX11_heardRow_8 jfl_X11_85 (fun _ _ _ => rfl) rfl ?_
    refine j_iload_n dX11_heardRow_11 rfl rfl ?_
    refine t_iaload dX11_heardRow_12 (fun _ _ _ => rfl) (by omega) (by decide) ?_
    refine j_topE (e' := nI ln) hm ?_
    refine jn_icmp_ge (tgt := 60) dX11_heardRow_13 (by decide) (by omega) (by omega) (fun h13 => ?_) (fun h13 => ?_)
    · refine j_lload_n dX11_heardRow_60 rfl rfl ?_
      refine j_lreturn dX11_heardRow_61 rfl ?_
      refine ⟨?_, rfl⟩
      rw [← hr9, hst, if_neg (by omega)]
    · refine j_iload dX11_heardRow_16 rfl ?_
      refine j_iconst (v := nI 4) dX11_heardRow_18 rfl ?_
      refine jn_icmp_ge (tgt := 60) dX11_heardRow_19 (by decide) (by omega) (by omega) (fun h19 => absurd h19 (by omega)) (fun h19 => ?_)
      refine j_aload_n dX11_heardRow_22 rfl rfl ?_
      refine j_iload_n dX11_heardRow_23 rfl rfl ?_
      refine j_iload dX11_heardRow_24 rfl ?_
      refine j_callVl [.int _, .int _] [] dX11_heardRow_26 jlk_X11_221 rfl rfl rfl rfl (Nat.le_of_ble_eq_true rfl) (m_itemE (i := i) (by omega) (hE _ (by omega))) ?_
      refine j_lconst (v := 0) dX11_heardRow_29 rfl ?_
      refine j_ldc2 dX11_heardRow_30 jw_k_X11_276 ?_
      refine j_callSi [.long _, .long _, .long _] [] dX11_heardRow_33 jlk_X11_111 rfl rfl (Nat.le_of_ble_eq_true rfl) (jMet_i m_within (wi_A (k := 7) (by decide) (by decide)) rfl) ?_
      refine j_if_eq (tgt := 60) dX11_heardRow_36 (by decide) (fun h36 => ?_) (fun h36 => ?_)
      · refine j_lload_n dX11_heardRow_60 rfl rfl ?_
        refine j_lreturn dX11_heardRow_61 rfl ?_
        refine ⟨?_, rfl⟩
        rw [← hr9, hst, if_pos (show i < ln by omega), if_pos (show isA 8 (E i) = nI 0 from h36)]
      · refine j_lload_n dX11_heardRow_39 rfl rfl ?_
        refine j_aload_n dX11_heardRow_40 rfl rfl ?_
        refine j_iload_n dX11_heardRow_41 rfl rfl ?_
        refine j_aload_n dX11_heardRow_42 rfl rfl ?_
        refine j_iload_n dX11_heardRow_43 rfl rfl ?_
        refine j_iload dX11_heardRow_44 rfl ?_
        refine j_callVl [.int _, .int _] [.int _, .ref 76, .long _] dX11_heardRow_46 jlk_X11_221 rfl rfl rfl rfl (Nat.le_of_ble_eq_true rfl) (m_itemE (i := i) (by omega) (hE _ (by omega))) ?_
        obtain ⟨q, hq8, hqe⟩ := isA8_j h36
        refine j_ats (st' := [.long (nI q).toInt64, .int (nI s), .ref 76, .long a]) (by rw [← hqe]) ?_
        refine j_callVl [.int _, .long _] [.long _] dX11_heardRow_49 jlk_X11_280 rfl rfl rfl rfl (Nat.le_of_ble_eq_true rfl) (m_heardBy hv hf hq8 hs) ?_
        refine j_lmul dX11_heardRow_52 ?_
        refine j_lstore_n (lv' := [some (.ref 76), some (.int _), some (.int _), some (.long _), none, some (.int _)]) dX11_heardRow_53 rfl (by decide) rfl ?_
        refine jn_iinc (lv' := [some (.ref 76), some (.int _), some (.int _), some (.long _), none, some (.int _)]) dX11_heardRow_54 rfl (by decide) rfl ?_
        refine j_goto (tgt := 5) dX11_heardRow_57 (by decide) ?_
        refine ih (i + 1) (a * hwJ (v 7) q s) (by omega) ?_
        rw [← hr9, hst, if_pos (show i < ln by omega), if_neg (show ¬ isA 8 (E i) = nI 0 from h36), hqe, nI_clamp (by omega)]

set_option maxHeartbeats 200000 in
set_option maxRecDepth 100000 in
theorem m_heardRow (hv : A 77 = nIf v) (hf : v 7 < 7) {j ln : Nat} (hj : j < 6) {E : Nat → Int32} (hm : A 101 j = nI ln) (l60 : ln ≤ 60) (hE : ∀ i, i < ln → L 102 (60 * j + i) = (E i).toInt64) {s : Nat} (hs : s < 8) : jMet (d + 2) yX11_heardRow cX11_heardRow 6 (some .long) 0 0 [.ref 76, .int (nI j), .int (nI s)] (tw X A L) (jRl (rwF (v 7) ln E s 4 0 1) (tw X A L)) := by
  refine jMet_of (by decide) (Nat.le_of_ble_eq_true rfl) none (Or.inl rfl) ?_
  show jWP none RX11 cX11_heardRow 6 (some .long) (d + 2) 0 0 0 [some (.ref 76), some (.int (nI j)), some (.int (nI s)), none, none, none] [] (tw X A L) (jRl (rwF (v 7) ln E s 4 0 1) (tw X A L))
  refine j_lconst (v := 1) dX11_heardRow_0 rfl ?_
  refine j_lstore_n (lv' := [some (.ref 76), some (.int _), some (.int _), some (.long _), none, none]) dX11_heardRow_1 rfl (by decide) rfl ?_
  refine j_iconst (v := nI 0) dX11_heardRow_2 rfl ?_
  refine j_istore (lv' := [some (.ref 76), some (.int _), some (.int _), some (.long _), none, some (.int _)]) dX11_heardRow_3 (by decide) rfl ?_
  exact l_heardRow hv hf hj hm l60 hE hs 4 0 1 (by decide) rfl

set_option maxHeartbeats 200000 in
set_option maxRecDepth 100000 in
theorem l_dances_m (hv : A 77 = nIf v) (hf : v 7 < 7) {j ln : Nat} (hj : j < 6) {E : Nat → Int32} (hm : A 101 j = nI ln) (l60 : ln ≤ 60) (hE : ∀ i, i < ln → L 102 (60 * j + i) = (E i).toInt64) {y p : Int32} {post : Option Value → jW → Prop} (kk : jWP none RX11 cX11_dances 8 (some .long) (d + 3) 0 0 99 [some (.ref 76), some (.int (nI j)), some (.int y), some (.int p), some (.long (suW (fun s => rwF (v 7) ln E s 4 0 1) 6)), none, some (.int (nI (bsM (fun s => rwF (v 7) ln E s 4 0 1) 6))), some (.int (nI (6 + 1)))] [] (tw X A L) post) : ∀ (m i : Nat), i ≤ 6 → 6 - i < m → jWP none RX11 cX11_dances 8 (some .long) (d + 3) 0 0 47 [some (.ref 76), some (.int (nI j)), some (.int y), some (.int p), some (.long (suW (fun s => rwF (v 7) ln E s 4 0 1) i)), none, some (.int (nI (bsM (fun s => rwF (v 7) ln E s 4 0 1) i))), some (.int (nI (i + 1)))] [] (tw X A L) (post) := by
  intro m
  induction m with
  | zero => intro i h1 h2; omega
  | succ m ih =>
    intro i hi hm9
    have hb := bsM_le (fun s => rwF (v 7) ln E s 4 0 1) i
    have hst : bsM (fun s => rwF (v 7) ln E s 4 0 1) (i + 1) = if lg_cmp ((fun s => rwF (v 7) ln E s 4 0 1) (i + 1)) ((fun s => rwF (v 7) ln E s 4 0 1) (bsM (fun s => rwF (v 7) ln E s 4 0 1) i)) ≤ 0 then bsM (fun s => rwF (v 7) ln E s 4 0 1) i else i + 1 := rfl
    refine j_iload dX11_dances_47 rfl ?_
    refine j_bipush (v := nI 6) dX11_dances_49 rfl ?_
    refine jn_icmp_gt (tgt := 99) dX11_dances_51 (by decide) (by omega) (by omega) (fun h51 => ?_) (fun h51 => ?_)
    · obtain rfl : i = 6 := by omega
      exact kk
    · refine j_lload dX11_dances_54 rfl ?_
      refine j_aload_n dX11_dances_56 rfl rfl ?_
      refine j_iload_n dX11_dances_57 rfl rfl ?_
      refine j_iload dX11_dances_58 rfl ?_
      refine j_callVl [.int _, .int _] [.long _] dX11_dances_60 jlk_X11_290 rfl rfl rfl rfl (Nat.le_of_ble_eq_true rfl) (m_heardRow hv hf hj hm l60 hE (by omega)) ?_
      refine j_ladd dX11_dances_63 ?_
      refine j_lstore (lv' := [some (.ref 76), some (.int _), some (.int _), some (.int _), some (.long _), none, some (.int _), some (.int _)]) dX11_dances_64 (by decide) rfl ?_
      refine j_aload_n dX11_dances_66 rfl rfl ?_
      refine j_iload_n dX11_dances_67 rfl rfl ?_
      refine j_iload dX11_dances_68 rfl ?_
      refine j_callVl [.int _, .int _] [] dX11_dances_70 jlk_X11_290 rfl rfl rfl rfl (Nat.le_of_ble_eq_true rfl) (m_heardRow hv hf hj hm l60 hE (by omega)) ?_
      refine j_aload_n dX11_dances_73 rfl rfl ?_
      refine j_iload_n dX11_dances_74 rfl rfl ?_
      refine j_iload dX11_dances_75 rfl ?_
      refine j_callVl [.int _, .int _] [.long _] dX11_dances_77 jlk_X11_290 rfl rfl rfl rfl (Nat.le_of_ble_eq_true rfl) (m_heardRow hv hf hj hm l60 hE (by omega)) ?_
      refine j_lcmp dX11_dances_80 ?_
      refine j_if_le (tgt := 89) dX11_dances_81 (by decide) (fun h81 => ?_) (fun h81 => ?_)
      · refine j_iload dX11_dances_89 rfl ?_
        refine j_istore (lv' := [some (.ref 76), some (.int _), some (.int _), some (.int _), some (.long _), none, some (.int _), some (.int _)]) dX11_dances_91 (by decide) rfl ?_
        refine jn_iinc (lv' := [some (.ref 76), some (.int _), some (.int _), some (.int _), some (.long _), none, some (.int _), some (.int _)]) dX11_dances_93 rfl (by decide) rfl ?_
        refine j_goto (tgt := 47) dX11_dances_96 (by decide) ?_
        refine j_sub ?_ (ih (i + 1) (by omega) (by omega))
        rw [hst, if_pos h81]
        exact ⟨rfl, rfl, rfl, rfl, rfl, rfl, rfl, trivial⟩
      · refine j_iload dX11_dances_84 rfl ?_
        refine j_goto (tgt := 91) dX11_dances_86 (by decide) ?_
        refine j_istore (lv' := [some (.ref 76), some (.int _), some (.int _), some (.int _), some (.long _), none, some (.int _), some (.int _)]) dX11_dances_91 (by decide) rfl ?_
        refine jn_iinc (lv' := [some (.ref 76), some (.int _), some (.int _), some (.int _), some (.long _), none, some (.int _), some (.int _)]) dX11_dances_93 rfl (by decide) rfl ?_
        refine j_goto (tgt := 47) dX11_dances_96 (by decide) ?_
        refine j_sub ?_ (ih (i + 1) (by omega) (by omega))
        rw [hst, if_neg h81]
        exact ⟨rfl, rfl, rfl, rfl, rfl, rfl, rfl, trivial⟩

set_option maxHeartbeats 200000 in
set_option maxRecDepth 100000 in
theorem m_dancesC_2 (hv : A 77 = nIf v) (hf : v 7 < 7) {j ln : Nat} (hj : j < 6) {E : Nat → Int32} (hs : A 100 j = nI 50) (hm : A 101 j = nI ln) (l60 : ln ≤ 60) (hE : ∀ i, i < ln → L 102 (60 * j + i) = (E i).toInt64) {y : Int32} : jMet (d + 3) yX11_dances cX11_dances 8 (some .long) 0 0 [.ref 76, .int (nI j), .int y, .int (nI 2)] (tw X A L) (jRl (if (suW (fun s => rwF (v 7) ln E s 4 0 1) 6) = 0 then (-2) else (nI (bsM (fun s => rwF (v 7) ln E s 4 0 1) 6)).toInt64) (tw X A L)) := by
  refine jMet_of (by decide) (Nat.le_of_ble_eq_true rfl) none (Or.inl rfl) ?_
  show jWP none RX11 cX11_dances 8 (some .long) (d + 3) 0 0 0 [some (.ref 76), some (.int (nI j)), some (.int y), some (.int (nI 2)), none, none, none, none] [] (tw X A L) (jRl (if (suW (fun s => rwF (v 7) ln E s 4 0 1) 6) = 0 then (-2) else (nI (bsM (fun s => rwF (v 7) ln E s 4 0 1) 6)).toInt64) (tw X A L))
  refine j_aload_n dX11_dances_0 rfl rfl ?_
  refine j_iload_n dX11_dances_1 rfl rfl ?_
  refine j_callVi [.int _] [] dX11_dances_2 jlk_X11_228 rfl rfl rfl rfl (Nat.le_of_ble_eq_true rfl) (m_bytesIs hj hs) ?_
  refine j_iconst (v := nI 1) dX11_dances_5 rfl ?_
  refine j_icmp_ne (tgt := 34) dX11_dances_6 (by decide) (fun h => absurd (by decide) h) (fun _ => ?_)
  refine j_iload_n dX11_dances_9 rfl rfl ?_
  refine j_i2l dX11_dances_10 ?_
  refine j_lconst (v := 0) dX11_dances_11 rfl ?_
  refine j_ldc2 dX11_dances_12 jw_k_X11_131 ?_
  refine j_callSi [.long _, .long _, .long _] [] dX11_dances_15 jlk_X11_111 rfl rfl (Nat.le_of_ble_eq_true rfl) (jMet_i m_within (wi_in (j := 2) (k := 2) (by decide) (by decide) (by decide)) rfl) ?_
  refine j_if_eq (tgt := 34) dX11_dances_18 (by decide) (fun h => absurd h (by decide)) (fun _ => ?_)
  refine j_iload_n dX11_dances_21 rfl rfl ?_
  refine j_iconst (v := nI 2) dX11_dances_22 rfl ?_
  refine j_icmp_ge (tgt := 38) dX11_dances_23 (by decide) (fun _ => ?_) (fun h => absurd (by decide) h)
  refine j_lconst (v := 0) dX11_dances_38 rfl ?_
  refine j_lstore (lv' := [some (.ref 76), some (.int _), some (.int _), some (.int _), some (.long _), none, none, none]) dX11_dances_39 (by decide) rfl ?_
  refine j_iconst (v := nI 1) dX11_dances_41 rfl ?_
  refine j_istore (lv' := [some (.ref 76), some (.int _), some (.int _), some (.int _), some (.long _), none, some (.int _), none]) dX11_dances_42 (by decide) rfl ?_
  refine j_iconst (v := nI 1) dX11_dances_44 rfl ?_
  refine j_istore (lv' := [some (.ref 76), some (.int _), some (.int _), some (.int _), some (.long _), none, some (.int _), some (.int _)]) dX11_dances_45 (by decide) rfl ?_
  refine l_dances_m hv hf hj hm l60 hE ?_ 7 0 (by decide) (by decide)
  refine j_lload dX11_dances_99 rfl ?_
  refine j_lconst (v := 0) dX11_dances_101 rfl ?_
  refine j_lcmp dX11_dances_102 ?_
  refine j_if_ne (tgt := 112) dX11_dances_103 (by decide) (fun h103 => ?_) (fun h103 => ?_)
  · refine j_iload_n dX11_dances_112 rfl rfl ?_
    refine j_iconst (v := nI 2) dX11_dances_113 rfl ?_
    refine j_icmp_ne (tgt := 123) dX11_dances_114 (by decide) (fun h => absurd (by decide) h) (fun _ => ?_)
    refine j_iload dX11_dances_117 rfl ?_
    refine j_i2l dX11_dances_119 ?_
    refine j_goto (tgt := 135) dX11_dances_120 (by decide) ?_
    refine j_lreturn dX11_dances_135 rfl ?_
    exact ⟨by rw [if_neg (fun q => h103 (lcmp0.mpr q))], rfl⟩
  · refine j_ldc2 dX11_dances_106 jw_k_X11_284 ?_
    refine j_goto (tgt := 135) dX11_dances_109 (by decide) ?_
    refine j_lreturn dX11_dances_135 rfl ?_
    exact ⟨by rw [if_pos (lcmp0.mp (by first | exact h103 | simpa using h103))], rfl⟩

set_option maxHeartbeats 200000 in
set_option maxRecDepth 100000 in
theorem m_dancesC (hv : A 77 = nIf v) (hf : v 7 < 7) {j ln : Nat} (hj : j < 6) {E : Nat → Int32} (hs : A 100 j = nI 50) (hm : A 101 j = nI ln) (l60 : ln ≤ 60) (hE : ∀ i, i < ln → L 102 (60 * j + i) = (E i).toInt64) {s : Nat} (hs1 : 1 ≤ s) (hs6 : s ≤ 6) {p : Int32} (hp : is01 p = nI 1) (hg : (fun s => rwF (v 7) ln E s 4 0 1) s ≠ 0 → ∃ g, gcO 200 (suW (fun s => rwF (v 7) ln E s 4 0 1) 6) ((fun s => rwF (v 7) ln E s 4 0 1) s) = some g ∧ g ≠ 0) : jMet (d + 3) yX11_dances cX11_dances 8 (some .long) 0 0 [.ref 76, .int (nI j), .int (nI s), .int p] (tw X A L) (jRl (if (suW (fun s => rwF (v 7) ln E s 4 0 1) 6) = 0 then (-2) else frM ((fun s => rwF (v 7) ln E s 4 0 1) s) (suW (fun s => rwF (v 7) ln E s 4 0 1) 6) p) (tw X A L)) := by
  refine jMet_of (by decide) (Nat.le_of_ble_eq_true rfl) none (Or.inl rfl) ?_
  show jWP none RX11 cX11_dances 8 (some .long) (d + 3) 0 0 0 [some (.ref 76), some (.int (nI j)), some (.int (nI s)), some (.int p), none, none, none, none] [] (tw X A L) (jRl (if (suW (fun s => rwF (v 7) ln E s 4 0 1) 6) = 0 then (-2) else frM ((fun s => rwF (v 7) ln E s 4 0 1) s) (suW (fun s => rwF (v 7) ln E s 4 0 1) 6) p) (tw X A L))
  have hp2 : p ≠ nI 2 := fun q => by rw [q] at hp; exact absurd hp (by decide)
  have hp3 : wiJ p.toInt64 0 2 = nI 1 := by
    unfold is01 at hp
    by_cases q : p = 0
    · rw [q]; decide
    · rw [if_neg q] at hp
      by_cases q2 : p = nI 1
      · rw [q2]; decide
      · rw [if_neg q2] at hp; exact absurd hp (by decide)
  have hp4 : ¬ nI 2 ≤ p := by
    unfold is01 at hp
    by_cases q : p = 0
    · rw [q]; decide
    · rw [if_neg q] at hp
      by_cases q2 : p = nI 1
      · rw [q2]; decide
      · rw [if_neg q2] at hp; exact absurd hp (by decide)
  refine j_aload_n dX11_dances_0 rfl rfl ?_
  refine j_iload_n dX11_dances_1 rfl rfl ?_
  refine j_callVi [.int _] [] dX11_dances_2 jlk_X11_228 rfl rfl rfl rfl (Nat.le_of_ble_eq_true rfl) (m_bytesIs hj hs) ?_
  refine j_iconst (v := nI 1) dX11_dances_5 rfl ?_
  refine j_icmp_ne (tgt := 34) dX11_dances_6 (by decide) (fun h => absurd (by decide) h) (fun _ => ?_)
  refine j_iload_n dX11_dances_9 rfl rfl ?_
  refine j_i2l dX11_dances_10 ?_
  refine j_lconst (v := 0) dX11_dances_11 rfl ?_
  refine j_ldc2 dX11_dances_12 jw_k_X11_131 ?_
  refine j_callSi [.long _, .long _, .long _] [] dX11_dances_15 jlk_X11_111 rfl rfl (Nat.le_of_ble_eq_true rfl) (jMet_i m_within hp3 rfl) ?_
  refine j_if_eq (tgt := 34) dX11_dances_18 (by decide) (fun h => absurd h (by decide)) (fun _ => ?_)
  refine j_iload_n dX11_dances_21 rfl rfl ?_
  refine j_iconst (v := nI 2) dX11_dances_22 rfl ?_
  refine j_icmp_ge (tgt := 38) dX11_dances_23 (by decide) (fun h23 => absurd h23 hp4) (fun h23 => ?_)
  refine j_iload_n dX11_dances_26 rfl rfl ?_
  refine j_i2l dX11_dances_27 ?_
  refine j_callSi [.long _] [] dX11_dances_28 jlk_X11_215 rfl rfl (Nat.le_of_ble_eq_true rfl) (jMet_i m_isSum (is16_in hs1 hs6) rfl) ?_
  refine j_if_ne (tgt := 38) dX11_dances_31 (by decide) (fun _ => ?_) (fun h => absurd h (by decide))
  refine j_lconst (v := 0) dX11_dances_38 rfl ?_
  refine j_lstore (lv' := [some (.ref 76), some (.int _), some (.int _), some (.int _), some (.long _), none, none, none]) dX11_dances_39 (by decide) rfl ?_
  refine j_iconst (v := nI 1) dX11_dances_41 rfl ?_
  refine j_istore (lv' := [some (.ref 76), some (.int _), some (.int _), some (.int _), some (.long _), none, some (.int _), none]) dX11_dances_42 (by decide) rfl ?_
  refine j_iconst (v := nI 1) dX11_dances_44 rfl ?_
  refine j_istore (lv' := [some (.ref 76), some (.int _), some (.int _), some (.int _), some (.long _), none, some (.int _), some (.int _)]) dX11_dances_45 (by decide) rfl ?_
  refine l_dances_m hv hf hj hm l60 hE ?_ 7 0 (by decide) (by decide)
  refine j_lload dX11_dances_99 rfl ?_
  refine j_lconst (v := 0) dX11_dances_101 rfl ?_
  refine j_lcmp dX11_dances_102 ?_
  refine j_if_ne (tgt := 112) dX11_dances_103 (by decide) (fun h103 => ?_) (fun h103 => ?_)
  · refine j_iload_n dX11_dances_112 rfl rfl ?_
    refine j_iconst (v := nI 2) dX11_dances_113 rfl ?_
    refine j_icmp_ne (tgt := 123) dX11_dances_114 (by decide) (fun h114 => ?_) (fun h114 => absurd (by first | exact h114 | simpa using h114) hp2)
    refine j_aload_n dX11_dances_123 rfl rfl ?_
    refine j_iload_n dX11_dances_124 rfl rfl ?_
    refine j_iload_n dX11_dances_125 rfl rfl ?_
    refine j_callVl [.int _, .int _] [] dX11_dances_126 jlk_X11_290 rfl rfl rfl rfl (Nat.le_of_ble_eq_true rfl) (m_heardRow hv hf hj hm l60 hE (by omega)) ?_
    refine j_lload dX11_dances_129 rfl ?_
    refine j_iload_n dX11_dances_131 rfl rfl ?_
    refine j_callSl [.long _, .long _, .int _] [] dX11_dances_132 jlk_X11_286 rfl rfl (Nat.le_of_ble_eq_true rfl) (m_partOf hg) ?_
    refine j_lreturn dX11_dances_135 rfl ?_
    exact ⟨by rw [if_neg (fun q => h103 (lcmp0.mpr q))], rfl⟩
  · refine j_ldc2 dX11_dances_106 jw_k_X11_284 ?_
    refine j_goto (tgt := 135) dX11_dances_109 (by decide) ?_
    refine j_lreturn dX11_dances_135 rfl ?_
    exact ⟨by rw [if_pos (lcmp0.mp (by first | exact h103 | simpa using h103))], rfl⟩

set_option maxHeartbeats 200000 in
set_option maxRecDepth 100000 in
theorem m_dancesC_f {j : Nat} (hj : j < 6) {h b so : Nat} (hs : A 100 j = mshI h b so) (h2 : h ≤ 2) (hb50 : h = 1 → b < 50) (so4 : so ≤ 4) (hf : bfI h so ≠ 0) {s p : Int32} : jMet (d + 3) yX11_dances cX11_dances 8 (some .long) 0 0 [.ref 76, .int (nI j), .int s, .int p] (tw X A L) (jRl (-9223372036854775808) (tw X A L)) := by
  refine jMet_of (by decide) (Nat.le_of_ble_eq_true rfl) none (Or.inl rfl) ?_
  show jWP none RX11 cX11_dances 8 (some .long) (d + 3) 0 0 0 [some (.ref 76), some (.int (nI j)), some (.int s), some (.int p), none, none, none, none] [] (tw X A L) (jRl (-9223372036854775808) (tw X A L))
  refine j_aload_n dX11_dances_0 rfl rfl ?_
  refine j_iload_n dX11_dances_1 rfl rfl ?_
  refine j_callVi [.int _] [] dX11_dances_2 jlk_X11_228 rfl rfl rfl rfl (Nat.le_of_ble_eq_true rfl) (m_bytesIs_f hj hs h2 hb50 so4 hf) ?_
  refine j_iconst (v := nI 1) dX11_dances_5 rfl ?_
  refine j_icmp_ne (tgt := 34) dX11_dances_6 (by decide) (fun h6 => ?_) (fun h6 => absurd (by first | exact h6 | simpa using h6) (fun q => absurd (show bfI h so < 0 from (bf_neg h2 hf).1) (by rw [q]; decide)))
  refine j_ldc2 dX11_dances_34 jw_k_X11_278 ?_
  refine j_lreturn dX11_dances_37 rfl ?_
  exact ⟨rfl, rfl⟩

set_option maxHeartbeats 200000 in
set_option maxRecDepth 100000 in
theorem m_dancesC_x {j : Nat} (hj : j < 6) (hs : A 100 j = nI 50) {s p : Int32} (hx : p ≠ nI 2 ∧ (is16 s = nI 0 ∨ is01 p = nI 0)) : jMet (d + 3) yX11_dances cX11_dances 8 (some .long) 0 0 [.ref 76, .int (nI j), .int s, .int p] (tw X A L) (jRl (-9223372036854775808) (tw X A L)) := by
  refine jMet_of (by decide) (Nat.le_of_ble_eq_true rfl) none (Or.inl rfl) ?_
  show jWP none RX11 cX11_dances 8 (some .long) (d + 3) 0 0 0 [some (.ref 76), some (.int (nI j)), some (.int s), some (.int p), none, none, none, none] [] (tw X A L) (jRl (-9223372036854775808) (tw X A L))
  refine j_aload_n dX11_dances_0 rfl rfl ?_
  refine j_iload_n dX11_dances_1 rfl rfl ?_
  refine j_callVi [.int _] [] dX11_dances_2 jlk_X11_228 rfl rfl rfl rfl (Nat.le_of_ble_eq_true rfl) (m_bytesIs hj hs) ?_
  refine j_iconst (v := nI 1) dX11_dances_5 rfl ?_
  refine j_icmp_ne (tgt := 34) dX11_dances_6 (by decide) (fun h => absurd (by decide) h) (fun _ => ?_)
  refine j_iload_n dX11_dances_9 rfl rfl ?_
  refine j_i2l dX11_dances_10 ?_
  refine j_lconst (v := 0) dX11_dances_11 rfl ?_
  refine j_ldc2 dX11_dances_12 jw_k_X11_131 ?_
  refine j_callSi [.long _, .long _, .long _] [] dX11_dances_15 jlk_X11_111 rfl rfl (Nat.le_of_ble_eq_true rfl) (jMet_i m_within (wi_A (k := 2) (by decide) (by decide)) rfl) ?_
  refine j_if_eq (tgt := 34) dX11_dances_18 (by decide) (fun h18 => ?_) (fun h18 => ?_)
  · refine j_ldc2 dX11_dances_34 jw_k_X11_278 ?_
    refine j_lreturn dX11_dances_37 rfl ?_
    exact ⟨rfl, rfl⟩
  · refine j_iload_n dX11_dances_21 rfl rfl ?_
    refine j_iconst (v := nI 2) dX11_dances_22 rfl ?_
    refine j_icmp_ge (tgt := 38) dX11_dances_23 (by decide) (fun h23 => ?_) (fun h23 => ?_)
    · exfalso
      obtain ⟨q, hq, rfl⟩ : ∃ q, q < 3 ∧ p = nI q := (isA_cases (n := 3) (by decide) p).elim (fun z => absurd z h18) id
      have hq2 : q ≠ 2 := fun e => hx.1 (by rw [e])
      have h01 : is01 (nI q) = nI 1 := by
        rcases (show q = 0 ∨ q = 1 by omega) with rfl | rfl <;> decide
      exact absurd (show nI 2 ≤ nI q from h23) (fun z => by have := (nI_leI (by decide) (by omega)).mp z; omega)
    · refine j_iload_n dX11_dances_26 rfl rfl ?_
      refine j_i2l dX11_dances_27 ?_
      refine j_callSi [.long _] [] dX11_dances_28 jlk_X11_215 rfl rfl (Nat.le_of_ble_eq_true rfl) (m_isSum) ?_
      refine j_if_ne (tgt := 38) dX11_dances_31 (by decide) (fun h31 => ?_) (fun h31 => ?_)
      · exfalso
        obtain ⟨q, hq, rfl⟩ : ∃ q, q < 3 ∧ p = nI q := (isA_cases (n := 3) (by decide) p).elim (fun z => absurd z h18) id
        have hq2 : q ≠ 2 := fun e => hx.1 (by rw [e])
        have h01 : is01 (nI q) = nI 1 := by
          rcases (show q = 0 ∨ q = 1 by omega) with rfl | rfl <;> decide
        rcases hx.2 with z | z
        · exact h31 z
        · rw [h01] at z; exact absurd z (by decide)
      · refine j_ldc2 dX11_dances_34 jw_k_X11_278 ?_
        refine j_lreturn dX11_dances_37 rfl ?_
        exact ⟨rfl, rfl⟩

set_option maxHeartbeats 200000 in
set_option maxRecDepth 100000 in
theorem m_dancesC_no {c s p : Int32} (h : isA 6 c = nI 0) : jMet (d + 3) yX11_dances cX11_dances 8 (some .long) 0 0 [.ref 76, .int c, .int s, .int p] (tw X A L) (jRl (-9223372036854775808) (tw X A L)) := by
  refine jMet_of (by decide) (Nat.le_of_ble_eq_true rfl) none (Or.inl rfl) ?_
  show jWP none RX11 cX11_dances 8 (some .long) (d + 3) 0 0 0 [some (.ref 76), some (.int c), some (.int s), some (.int p), none, none, none, none] [] (tw X A L) (jRl (-9223372036854775808) (tw X A L))
  refine j_aload_n dX11_dances_0 rfl rfl ?_
  refine j_iload_n dX11_dances_1 rfl rfl ?_
  refine j_callVi [.int _] [] dX11_dances_2 jlk_X11_228 rfl rfl rfl rfl (Nat.le_of_ble_eq_true rfl) (m_bytesIs_no h) ?_
  refine j_iconst (v := nI 1) dX11_dances_5 rfl ?_
  refine j_icmp_ne (tgt := 34) dX11_dances_6 (by decide) (fun _ => ?_) (fun h => absurd h (by decide))
  refine j_ldc2 dX11_dances_34 jw_k_X11_278 ?_
  refine j_lreturn dX11_dances_37 rfl ?_
  exact ⟨rfl, rfl⟩

end CT62