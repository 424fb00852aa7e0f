section STR3
variable {d q v c : Nat} {H0 : Heap} {w : jW}
theorem ix_t (hc : c < 256) {k : Nat} (hk : k < 6) (h : jNames.getD k 0 = (nI c).toInt8.toInt32) : ixN c = nI k := by
  have z : (List.range 256).all (fun c => (List.range 6).all fun k => decide (jNames.getD k 0 = (nI c).toInt8.toInt32 → ixN c = nI k)) = true := by decide +kernel
  exact of_decide_eq_true (List.all_eq_true.mp (List.all_eq_true.mp z c (List.mem_range.mpr hc)) k (List.mem_range.mpr hk)) h
theorem ix_n (hc : c < 256) (h : ∀ k, k < 6 → jNames.getD k 0 ≠ (nI c).toInt8.toInt32) : ixN c = -1 := by
  have z : (List.range 256).all (fun c => decide ((List.range 6).all (fun k => decide (jNames.getD k 0 ≠ (nI c).toInt8.toInt32)) = true → ixN c = -1)) = true := by decide +kernel
  exact of_decide_eq_true (List.all_eq_true.mp z c (List.mem_range.mpr hc)) (List.all_eq_true.mpr fun k hk => decide_eq_true (h k (List.mem_range.mp hk)))
theorem s_canEncode (hc : c < 256) : rM d yJ1_canEncode_9a6ad cJ1_canEncode_9a6ad 1 .boolean [.int (nI c)] q v H0 (nI 1) := by
  refine rM_of (by decide) (Nat.le_of_ble_eq_true rfl) rfl ?_
  show rW RJ1 cJ1_canEncode_9a6ad 1 d q v H0 (nI 1) 0 [(0, .int (nI c))] []
  refine r_iload_n (j := 0) dJ1_canEncode_9a6ad_0 rfl rfl ?_
  refine r_if_lt (tgt := 15) dJ1_canEncode_9a6ad_1 (by decide) (fun h => absurd h (nI_pos (by omega))) (fun _ => ?_)
  refine r_iload_n (j := 0) dJ1_canEncode_9a6ad_4 rfl rfl ?_
  refine r_sipush (x := nI 255) dJ1_canEncode_9a6ad_5 (by decide) ?_
  refine r_icmp_gt (tgt := 15) dJ1_canEncode_9a6ad_8 (by decide) (fun h => absurd ((nI_ltI (by decide) (by omega)).mp h) (by omega)) (fun _ => ?_)
  refine r_iconst (x := nI 1) dJ1_canEncode_9a6ad_11 rfl ?_
  refine r_goto (tgt := 16) dJ1_canEncode_9a6ad_12 (by decide) ?_
  exact r_ret dJ1_canEncode_9a6ad_16 rfl
theorem s_isLatin1 : rM d yJ0_isLatin1_aae02 cJ0_isLatin1_aae02 1 .boolean [.ref q] q v H0 (nI 1) := by
  refine rM_of (by decide) (Nat.le_of_ble_eq_true rfl) rfl ?_
  show rW RJ0 cJ0_isLatin1_aae02 1 d q v H0 (nI 1) 0 [(0, .ref q)] []
  refine r_getc rfl dJ0_isLatin1_aae02_0 ?_
  refine r_if_eq (tgt := 17) dJ0_isLatin1_aae02_3 (by decide) (fun h => absurd h (by decide)) (fun _ => ?_)
  refine r_aload_n (j := 0) dJ0_isLatin1_aae02_6 rfl rfl ?_
  refine r_getk rfl dJ0_isLatin1_aae02_7 ?_
  refine r_if_ne (tgt := 17) dJ0_isLatin1_aae02_10 (by decide) (fun h => absurd rfl h) (fun _ => ?_)
  refine r_iconst (x := nI 1) dJ0_isLatin1_aae02_13 rfl ?_
  refine r_goto (tgt := 18) dJ0_isLatin1_aae02_14 (by decide) ?_
  exact r_ret dJ0_isLatin1_aae02_18 rfl
theorem s_coder : rM d yJ0_coder_7d493 cJ0_coder_7d493 1 .byte [.ref q] q v H0 (nI 0) := by
  refine rM_of (by decide) (Nat.le_of_ble_eq_true rfl) rfl ?_
  show rW RJ0 cJ0_coder_7d493 1 d q v H0 (nI 0) 0 [(0, .ref q)] []
  refine r_getc rfl dJ0_coder_7d493_0 ?_
  refine r_if_eq (tgt := 13) dJ0_coder_7d493_3 (by decide) (fun h => absurd h (by decide)) (fun _ => ?_)
  refine r_aload_n (j := 0) dJ0_coder_7d493_6 rfl rfl ?_
  refine r_getk rfl dJ0_coder_7d493_7 ?_
  refine r_goto (tgt := 14) dJ0_coder_7d493_10 (by decide) ?_
  exact r_ret dJ0_coder_7d493_14 rfl
theorem s_length : rM (d + 1) yJ0_length_8abf5 cJ0_length_8abf5 1 .int [.ref q] q v H0 (nI 6) := by
  refine rM_of (by decide) (Nat.le_of_ble_eq_true rfl) rfl ?_
  show rW RJ0 cJ0_length_8abf5 1 (d + 1) q v H0 (nI 6) 0 [(0, .ref q)] []
  refine r_aload_n (j := 0) dJ0_length_8abf5_0 rfl rfl ?_
  refine r_getv rfl dJ0_length_8abf5_1 ?_
  refine r_alen (x := nI 6) rfl dJ0_length_8abf5_4 ?_
  refine r_aload_n (j := 0) dJ0_length_8abf5_5 rfl rfl ?_
  refine r_callV (As := []) (rest := [.int (nI 6)]) dJ0_length_8abf5_6 jlk_J0_335 rfl rfl rfl (by decide) s_coder ?_
  refine r_ishr (z := nI 6) dJ0_length_8abf5_9 (by decide) ?_
  exact r_ret dJ0_length_8abf5_10 rfl
theorem l_ixc (hc : c < 256) : ∀ (m k : Nat), k + m = 6 → (∀ j, j < k → jNames.getD j 0 ≠ (nI c).toInt8.toInt32) → rW RJ1 cJ1_indexOfChar_4cfef 6 d q v H0 (ixN c) 7 [(5, .int (nI k)), (4, .int (nI c).toInt8.toInt32), (0, .ref v), (1, .int (nI c)), (2, .int (nI 0)), (3, .int (nI 6))] [] := by
  intro m
  induction m with
  | zero =>
    intro k hk hn
    refine r_iload (j := 0) dJ1_indexOfChar_4cfef_7 rfl ?_
    refine r_iload_n (j := 5) dJ1_indexOfChar_4cfef_9 rfl rfl ?_
    refine r_icmp_ge (tgt := 31) dJ1_indexOfChar_4cfef_10 (by decide) (fun _ => ?_) (fun h => absurd ((nI_leI (by decide) (by omega)).mpr (by omega)) h)
    refine r_iconst (x := -1) dJ1_indexOfChar_4cfef_31 rfl ?_
    exact r_ret dJ1_indexOfChar_4cfef_32 (ix_n hc (fun j hj => hn j (by omega))).symm
  | succ m ih =>
    intro k hk hn
    refine r_iload (j := 0) dJ1_indexOfChar_4cfef_7 rfl ?_
    refine r_iload_n (j := 5) dJ1_indexOfChar_4cfef_9 rfl rfl ?_
    refine r_icmp_ge (tgt := 31) dJ1_indexOfChar_4cfef_10 (by decide) (fun h => absurd ((nI_leI (by decide) (by omega)).mp h) (by omega)) (fun _ => ?_)
    refine r_aload_n (j := 2) dJ1_indexOfChar_4cfef_13 rfl rfl ?_
    refine r_iload (j := 0) dJ1_indexOfChar_4cfef_14 rfl ?_
    refine r_bald (by omega) dJ1_indexOfChar_4cfef_16 ?_
    refine r_iload (j := 1) dJ1_indexOfChar_4cfef_17 rfl ?_
    refine r_icmp_ne (tgt := 25) dJ1_indexOfChar_4cfef_19 (by decide) (fun h => ?_) (fun h => ?_)
    · refine r_iinc (j := 0) (z := nI (k + 1)) dJ1_indexOfChar_4cfef_25 rfl (nI_add k 1) (by decide) rfl ?_
      refine r_goto (tgt := 7) dJ1_indexOfChar_4cfef_28 (by decide) ?_
      refine ih (k + 1) (by omega) (fun j hj => ?_)
      by_cases e : j = k
      · subst e; exact h
      · exact hn j (by omega)
    · refine r_iload (j := 0) dJ1_indexOfChar_4cfef_22 rfl ?_
      exact r_ret dJ1_indexOfChar_4cfef_24 (ix_t hc (by omega) h).symm
theorem s_indexOfChar (hc : c < 256) : rM d yJ1_indexOfChar_4cfef cJ1_indexOfChar_4cfef 6 .int [.ref v, .int (nI c), .int (nI 0), .int (nI 6)] q v H0 (ixN c) := by
  refine rM_of (by decide) (Nat.le_of_ble_eq_true rfl) rfl ?_
  show rW RJ1 cJ1_indexOfChar_4cfef 6 d q v H0 (ixN c) 0 [(0, .ref v), (1, .int (nI c)), (2, .int (nI 0)), (3, .int (nI 6))] []
  refine r_iload_n (j := 1) dJ1_indexOfChar_4cfef_0 rfl rfl ?_
  refine r_i2b dJ1_indexOfChar_4cfef_1 ?_
  refine r_istore (lv' := [(4, .int (nI c).toInt8.toInt32), (0, .ref v), (1, .int (nI c)), (2, .int (nI 0)), (3, .int (nI 6))]) dJ1_indexOfChar_4cfef_2 (by decide) rfl ?_
  refine r_iload_n (j := 3) dJ1_indexOfChar_4cfef_4 rfl rfl ?_
  refine r_istore (lv' := [(5, .int (nI 0)), (4, .int (nI c).toInt8.toInt32), (0, .ref v), (1, .int (nI c)), (2, .int (nI 0)), (3, .int (nI 6))]) dJ1_indexOfChar_4cfef_5 (by decide) rfl ?_
  exact l_ixc hc 6 0 rfl (fun j hj => absurd hj (by omega))
theorem s_indexOf4 (hc : c < 256) : rM (d + 1) yJ1_indexOf_4cfef cJ1_indexOf_4cfef 4 .int [.ref v, .int (nI c), .int (nI 0), .int (nI 6)] q v H0 (ixN c) := by
  refine rM_of (by decide) (Nat.le_of_ble_eq_true rfl) rfl ?_
  show rW RJ1 cJ1_indexOf_4cfef 4 (d + 1) q v H0 (ixN c) 0 [(0, .ref v), (1, .int (nI c)), (2, .int (nI 0)), (3, .int (nI 6))] []
  refine r_iload_n (j := 1) dJ1_indexOf_4cfef_0 rfl rfl ?_
  refine r_callS (As := [.int (nI c)]) (rest := []) dJ1_indexOf_4cfef_1 jlk_J1_88 rfl rfl (by decide) (s_canEncode hc) ?_
  refine r_if_ne (tgt := 9) dJ1_indexOf_4cfef_4 (by decide) (fun _ => ?_) (fun h => absurd h (by decide))
  refine r_iload_n (j := 2) dJ1_indexOf_4cfef_9 rfl rfl ?_
  refine r_iconst (x := nI 0) dJ1_indexOf_4cfef_10 rfl ?_
  refine r_max (z := nI 0) dJ1_indexOf_4cfef_11 jlmx_J1_92 (by decide) (by decide) ?_
  refine r_istore_n (lv' := [(2, .int (nI 0)), (0, .ref v), (1, .int (nI c)), (3, .int (nI 6))]) dJ1_indexOf_4cfef_14 rfl (by decide) rfl ?_
  refine r_iload_n (j := 3) dJ1_indexOf_4cfef_15 rfl rfl ?_
  refine r_aload_n (j := 1) dJ1_indexOf_4cfef_16 rfl rfl ?_
  refine r_alen (x := nI 6) rfl dJ1_indexOf_4cfef_17 ?_
  refine r_min (z := nI 6) dJ1_indexOf_4cfef_18 jlm_J1_38 (by decide) (by decide) ?_
  refine r_istore_n (lv' := [(3, .int (nI 6)), (2, .int (nI 0)), (0, .ref v), (1, .int (nI c))]) dJ1_indexOf_4cfef_21 rfl (by decide) rfl ?_
  refine r_iload_n (j := 1) dJ1_indexOf_4cfef_22 rfl rfl ?_
  refine r_iload_n (j := 0) dJ1_indexOf_4cfef_23 rfl rfl ?_
  refine r_icmp_lt (tgt := 29) dJ1_indexOf_4cfef_24 (by decide) (fun _ => ?_) (fun h => absurd (by decide) h)
  refine r_aload_n (j := 2) dJ1_indexOf_4cfef_29 rfl rfl ?_
  refine r_iload_n (j := 3) dJ1_indexOf_4cfef_30 rfl rfl ?_
  refine r_iload_n (j := 1) dJ1_indexOf_4cfef_31 rfl rfl ?_
  refine r_iload_n (j := 0) dJ1_indexOf_4cfef_32 rfl rfl ?_
  refine r_callS (As := [.ref v, .int (nI c), .int (nI 0), .int (nI 6)]) (rest := []) dJ1_indexOf_4cfef_33 jlk_J1_95 rfl rfl (by decide) (s_indexOfChar hc) ?_
  exact r_ret dJ1_indexOf_4cfef_36 rfl
theorem s_indexOf3 (hc : c < 256) : rM (d + 2) yJ0_indexOf_7cf53 cJ0_indexOf_7cf53 3 .int [.ref q, .int (nI c), .int (nI 0)] q v H0 (ixN c) := by
  refine rM_of (by decide) (Nat.le_of_ble_eq_true rfl) rfl ?_
  show rW RJ0 cJ0_indexOf_7cf53 3 (d + 2) q v H0 (ixN c) 0 [(0, .ref q), (1, .int (nI c)), (2, .int (nI 0))] []
  refine r_aload_n (j := 0) dJ0_indexOf_7cf53_0 rfl rfl ?_
  refine r_callV (As := []) (rest := []) dJ0_indexOf_7cf53_1 jlk_J0_492 rfl rfl rfl (by decide) s_isLatin1 ?_
  refine r_if_eq (tgt := 23) dJ0_indexOf_7cf53_4 (by decide) (fun h => absurd h (by decide)) (fun _ => ?_)
  refine r_aload_n (j := 0) dJ0_indexOf_7cf53_7 rfl rfl ?_
  refine r_getv rfl dJ0_indexOf_7cf53_8 ?_
  refine r_iload_n (j := 1) dJ0_indexOf_7cf53_11 rfl rfl ?_
  refine r_iload_n (j := 2) dJ0_indexOf_7cf53_12 rfl rfl ?_
  refine r_aload_n (j := 0) dJ0_indexOf_7cf53_13 rfl rfl ?_
  refine r_callV (As := []) (rest := [.int (nI 0), .int (nI c), .ref v]) dJ0_indexOf_7cf53_14 jlk_J0_505 rfl rfl rfl (Nat.le_of_ble_eq_true rfl) s_length ?_
  refine r_callS (As := [.ref v, .int (nI c), .int (nI 0), .int (nI 6)]) (rest := []) dJ0_indexOf_7cf53_17 jlk_J0_637 rfl rfl (by decide) (s_indexOf4 hc) ?_
  refine r_goto (tgt := 36) dJ0_indexOf_7cf53_20 (by decide) ?_
  exact r_ret dJ0_indexOf_7cf53_36 rfl
end STR3
section STR4
variable {scr : jScr} {own : String} {cc : ByteArray} {nL : Nat} {ret : Option FieldType} {d bc bs pc : Nat} {lv : List (Option Value)} {st : List Value} {w : jW} {post : Option Value → jW → Prop}
/-- a call on the text of a method that changes no heap -/
theorem j_callR {idx k n : Nat} {y : MethodName} {bytes : ByteArray} {ty : FieldType} {a b z : Int32} (hd : decode cc pc = .ok (.invokevirtual idx, 3)) (hl : jLnkV own idx y bytes k (some ty) n) (hn : 2 = n) (hy : y.cls = "java/lang/String") (hcat : jcatsum st ≤ 8)
    (hM : ∀ q v H0, rM d y bytes k ty [.ref q, .int a, .int b] q v H0 z) (k2 : jWP scr own cc nL ret (d + 1) bc bs (pc + 3) lv (.int z :: st) w post) : jWP scr own cc nL ret (d + 1) bc bs pc lv (.int b :: .int a :: .ref 3 :: st) w post := by
  obtain ⟨hws, hpl, hk⟩ := hl
  simp only [List.forall_mem_cons] at hws
  obtain ⟨h1, h2, h3, h4, h5, -⟩ := hws
  intro p l e R s m args below meth c D dA A hC hI Q ad H locs ls cells slots hS hc hs hret
  obtain ⟨x1, x2, x3, x4, x5, x6⟩ := id hS
  obtain ⟨g1, g2, g3, g4, g5, g6, g7, adV, g8⟩ := id x1
  have hq : ∀ a : Nat, a < s.heap.size → ¬ A a → H[a]? = s.heap[a]? := x3.2.1
  have hsP : ∀ U : State, U.heap = H → s.WarmedH U.vm → sP (ad 3) (adV 0) H U := fun U hU hW => by
    have t1 := ((va_Z.moved hW.alike g7).kept hq).narrow (B := rF) (fun _ h => h.elim)
    have t2 := (((g8.1 0 (by decide)).1.moved hW.alike).kept hq).narrow (B := rF) (fun _ h => h.elim)
    have t3 := (((g8.1 0 (by decide)).2.1.moved hW.alike).kept hq).narrow (B := rF) (fun _ h => h.elim)
    have t4 := (((g8.1 0 (by decide)).2.2.1.moved hW.alike).kept hq).narrow (B := rF) (fun _ h => h.elim)
    have t5 := (((g8.1 0 (by decide)).2.2.2.moved hW.alike).kept hq).narrow (B := rF) (fun _ h => h.elim)
    exact ⟨hU, t1, t2, t3, t4, t5⟩
  have hrc : ∃ cell : Cell, H[ad 3]? = some cell ∧ cell.vm.isStatics = false ∧ s.vm.findClass y.cls = some cell.cls := by
    rw [hy]
    exact vk_recv (i := 0) g8 (by decide) x3
  refine va_calli (a := (.ref (ad 3) :: [.int a, .int b]).toArray) (va_runV (As := [.int a, .int b]) (C := y.cls) (b := ad 3) (Ts := jT) ⟨hC.1, hC.2.1, hC.2.2.1, hC.2.2.2.1, hC.2.2.2.2.1⟩ (hM (ad 3) (adV 0) H l) (cwV n hC.2.2.2.2.1 (fun w hw => ?_) rfl rfl rfl ⟨rfl, hpl⟩ (jroom hC.2.2.2.2.2.2.2.1 hC.2.2.2.2.2.2.2.2 hk)) ⟨sP_blind, hrc, fun U hU hW => ⟨rfl, hsP U hU hW⟩⟩ rfl hn x4.1 rfl (lv_room (by rw [jcatsum_jv]; exact hcat)) hd ⟨by omega, by omega⟩) x3 (fun q _ h => h.elim) (fun q h => h.elim) ?_
  · rcases List.mem_append.mp hw with hw | hw
    · simp only [List.mem_cons, List.not_mem_nil, or_false] at hw
      rcases hw with rfl | rfl | rfl | rfl
      · exact jT_good (ws := [.methodLink own idx y]) (fun w hw => by simp at hw; rw [hw]; exact h1) _ List.mem_cons_self
      · exact jT_good (ws := [.instanceMethod y]) (fun w hw => by simp at hw; rw [hw]; exact h2) _ List.mem_cons_self
      · exact jT_good (ws := [.selects y.cls y y]) (fun w hw => by simp at hw; rw [hw]; exact h3) _ List.mem_cons_self
      · exact jT_good (ws := [.initialized y.cls]) (fun w hw => by simp at hw; rw [hw]; exact h4) _ List.mem_cons_self
    · exact jcode_good h5 w hw
  · intro r0 u t H1 locs1 ht _ hp hB _ _ hS1
    have e : H1 = H := ht.symm.trans hB
    subst e
    have e2 : r0 = z := hp
    subst e2
    exact k2 p l e R s m args below meth c D dA A hC hI Q ad H1 locs1 ls cells slots ⟨x1, x2, hS1, x4, jval_cons trivial (jval_tl (jval_tl (jval_tl x5))), x6⟩ hc hs hret
end STR4
theorem hix_ok {d : Nat} {X A : Nat → Nat → Int32} {L : Nat → Nat → Int64} {c : Nat} (hc : c < 256) : jMet (d + 3) yJ0_indexOf_0f7a4 cJ0_indexOf_0f7a4 2 (some .int) 0 0 [.ref 3, .int (nI c)] (tw X A L) (jRi (ixN c) (tw X A L)) := by
  refine jMet_of (by decide) (Nat.le_of_ble_eq_true rfl) none (Or.inl rfl) ?_
  show jWP none RJ0 cJ0_indexOf_0f7a4 2 (some .int) (d + 3) 0 0 0 [some (.ref 3), some (.int (nI c))] [] (tw X A L) (jRi (ixN c) (tw X A L))
  refine j_aload_n dJ0_indexOf_0f7a4_0 rfl rfl ?_
  refine j_iload_n dJ0_indexOf_0f7a4_1 rfl rfl ?_
  refine j_iconst (v := nI 0) dJ0_indexOf_0f7a4_2 rfl ?_
  refine j_callR (st := []) dJ0_indexOf_0f7a4_3 jlk_J0_633 rfl rfl (by decide) (fun q v H0 => s_indexOf3 hc) ?_
  refine j_ireturn dJ0_indexOf_0f7a4_6 rfl ?_
  exact ⟨rfl, rfl⟩
