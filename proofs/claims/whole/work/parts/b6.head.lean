/-! the law from its entry -/
theorem tw_out {X A : Nat → Nat → Int32} {L : Nat → Nat → Int64} (k : Nat) (h : k < 4 ∨ 104 ≤ k) : (tw X A L).2 k = jAbs := by
  show tcell k (X k) (A k) (L k) = jAbs
  rcases h with h | h
  · rcases (show k = 0 ∨ k = 1 ∨ k = 2 ∨ k = 3 by omega) with rfl | rfl | rfl | rfl <;> rfl
  · unfold tcell
    have hl : tsh.length = 104 := by decide +kernel
    rw [List.getD_eq_getElem?_getD, List.getElem?_eq_none (by omega)]
    rfl
theorem def_10 : ∀ j, j < 13 → defaultValue (tyX10 j) = vp_V [.null, .null, .null, .null, .null, .null, .null, .null, .null, .int 0, .null, .null, .null] j := by decide +kernel
def dF76 : List Value := [.null, .null, .null, .null, .int 0, .int 0, .null, .int 0, .null, .null, .null, .null, .null, .int 0, .null, .int 0, .int 0, .int 0, .int 0, .int 0, .int 0, .null, .null, .null, .null, .int 0, .null, .int 0, .int 0, .int 0, .null, .null, .int 0, .null, .null, .null, .int 0, .null, .null, .int 0, .int 0, .int 0, .null, .null, .null, .null]
theorem def_11 : ∀ j, j < 46 → defaultValue (tyX11 j) = vp_V dF76 j := by decide +kernel
set_option maxRecDepth 100000 in
theorem law_whole {Ln : Nat} {xs : Nat → Int32} {post : Option Value → jW → Prop} (h3 : Ln ≤ 3072) (hp : ∀ w, post (some (.int 1)) w) : jWP (some (some (Ln, xs))) RL cL_law 4 (some .boolean) 81 100 11225 0 [some (.ref 0), none, none, none] [] ((4, fun _ => jAbs) : jW) post := by
  refine j_new (N := 13) (bc := 99) (bs := 11212) (fs := [.null, .null, .null, .null, .null, .null, .null, .null, .null, .int 0, .null, .null, .null]) dL_law_0 jcls_10 jw_cl_L_7 jw_inst_10 jw_init_10 def_10 rfl ?_
  refine j_dup dL_law_3 rfl ?_
  refine j_invI (mc := 71) (ms := 6486) (bc := 28) (bs := 4726) (As := []) (rest := [.ref 4]) dL_law_4 jlk_L_9 rfl rfl (Nat.le_of_ble_eq_true rfl) (k_X10_init_4 (d := 75) k_X1_init rfl) (fun r w hw => ?_)
  obtain ⟨f6, f7, f8, f9, rfl, rfl, g6, g7, g8⟩ := hw
  refine j_astore_n (i := 1) (lv' := [some (.ref 0), some (.ref 4), none, none]) dL_law_7 rfl (by decide) rfl ?_
  refine j_new (N := 46) (bc := 27) (bs := 4680) (fs := dF76) dL_law_8 jcls_11 jw_cl_L_10 jw_inst_11 jw_init_11 def_11 rfl ?_
  refine j_dup dL_law_11 rfl ?_
  refine j_invI (mc := 27) (ms := 4680) (bc := 0) (bs := 0) (As := []) (rest := [.ref 76]) dL_law_12 jlk_L_12 rfl rfl (Nat.le_of_ble_eq_true rfl) (k_X11_init_76 (d := 79) rfl) (fun r w hw => ?_)
  obtain ⟨f81, rfl, rfl, g81⟩ := hw
  refine j_astore_n (i := 2) (lv' := [some (.ref 0), some (.ref 4), some (.ref 76), none]) dL_law_15 rfl (by decide) rfl ?_
  refine j_iconst (v := nI 0) dL_law_16 rfl ?_
  refine j_istore_n (i := 3) (lv' := [some (.ref 0), some (.ref 4), some (.ref 76), some (.int (nI 0))]) dL_law_17 rfl (by decide) rfl ?_
  refine jWP_cong (w' := tw xI (aI f9) lZ) rfl (wch_all g6 g7 g8 g81) tw_out ?_
  exact law_loop h3 hp (Ln + 6) 0 _ _ _ (by omega) (by omega) inv_first
