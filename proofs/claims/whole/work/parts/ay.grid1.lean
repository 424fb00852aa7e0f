section GRID1
variable {d c : Nat} {w : jW} {f6 f7 : Nat → Int32}
/-- the grid's rows of neighbours and of their number -/
def nw (w : jW) (f6 f7 : Nat → Int32) : jW := ju (ju w 6 (.inl (0, 294, .inl f6))) 7 (.inl (0, 49, .inl f7))
def nLS (c : Nat) (l : List Nat) (f6 f7 : Nat → Int32) : Prop := f7 c = nI l.length ∧ l.length ≤ 6 ∧ (∀ s, s < l.length → f6 (c * 6 + s) = nI (l.getD s 0)) ∧ ∀ s, l.length ≤ s → s < 6 → f6 (c * 6 + s) = nI 0
def oly (c : Nat) (f6 f7 f6' f7' : Nat → Int32) : Prop := (∀ x, ¬ (c * 6 ≤ x ∧ x < c * 6 + 6) → f6' x = f6 x) ∧ ∀ x, x ≠ c → f7' x = f7 x
def ANf (l : List Nat) (r k : Int32) : List Nat := if r < 0 then l else if nI 7 ≤ r then l else if k < 0 then l else if nI 7 ≤ k then l else if 6 ≤ l.length then l else l ++ [(r * nI 7 + k).toNatClampNeg]
theorem oly_rf : oly c f6 f7 f6 f7 := ⟨fun _ _ => rfl, fun _ _ => rfl⟩
theorem oly_tr {g6 g7 h6 h7 : Nat → Int32} (h1 : oly c f6 f7 g6 g7) (h2 : oly c g6 g7 h6 h7) : oly c f6 f7 h6 h7 := ⟨fun x hx => (h2.1 x hx).trans (h1.1 x hx), fun x hx => (h2.2 x hx).trans (h1.2 x hx)⟩
theorem nw_n {k : Nat} (h6 : k ≠ 6) (h7 : k ≠ 7) : (nw w f6 f7).2 k = w.2 k := by unfold nw; rw [ju_n _ _ _ h7, ju_n _ _ _ h6]
theorem nw_6 : (nw w f6 f7).2 6 = .inl (0, 294, .inl f6) := by unfold nw; rw [ju_n _ _ _ (by decide), ju_s]
theorem nw_7 : (nw w f6 f7).2 7 = .inl (0, 49, .inl f7) := by unfold nw; rw [ju_s]
theorem nw_p6 {g : Nat → Int32} : ju (nw w f6 f7) 6 (.inl (0, 294, .inl g)) = nw w g f7 := by unfold nw; rw [ju_cm _ _ _ (by decide), ju_ju]
theorem nw_p7 {g : Nat → Int32} : ju (nw w f6 f7) 7 (.inl (0, 49, .inl g)) = nw w f6 g := by unfold nw; rw [ju_ju]
theorem app_getD {l : List Nat} {v s : Nat} (h : s ≤ l.length) : (l ++ [v]).getD s 0 = if s < l.length then l.getD s 0 else v := by
  by_cases q : s < l.length
  · rw [if_pos q, List.getD_eq_getElem?_getD, List.getElem?_append_left q, ← List.getD_eq_getElem?_getD]
  · rw [if_neg q]
    have e : s = l.length := by omega
    subst e
    rw [List.getD_eq_getElem?_getD, List.getElem?_append_right (Nat.le_refl _), Nat.sub_self]
    rfl
theorem k_addN {l : List Nat} {r k : Int32} (h5 : w.2 5 = .inr (1, [.ref 6, .ref 7, .ref 8])) (hc : c < 49) (hL : nLS c l f6 f7) : jMet d yX1_addNeighbour cX1_addNeighbour 4 none 0 0 [.ref 5, .int (nI c), .int r, .int k] (nw w f6 f7) (fun z w' => z = none ∧ ∃ f6' f7', w' = nw w f6' f7' ∧ nLS c (ANf l r k) f6' f7' ∧ oly c f6 f7 f6' f7') := by
  refine jMet_of (by decide) (Nat.le_of_ble_eq_true rfl) none (Or.inl rfl) ?_
  show jWP none RX1 cX1_addNeighbour 4 none d 0 0 0 [some (.ref 5), some (.int (nI c)), some (.int r), some (.int k)] [] (nw w f6 f7) (fun z w' => z = none ∧ ∃ f6' f7', w' = nw w f6' f7' ∧ nLS c (ANf l r k) f6' f7' ∧ oly c f6 f7 f6' f7')
  have same : ANf l r k = l → (fun (z : Option Value) (w' : jW) => z = none ∧ ∃ f6' f7', w' = nw w f6' f7' ∧ nLS c (ANf l r k) f6' f7' ∧ oly c f6 f7 f6' f7') none (nw w f6 f7) := fun e => ⟨rfl, f6, f7, rfl, by rw [e]; exact hL, oly_rf⟩
  refine j_iload_n dX1_addNeighbour_0 rfl rfl ?_
  refine j_if_lt (tgt := 63) dX1_addNeighbour_1 (by decide) (fun h1 => ?_) (fun h1 => ?_)
  · exact j_return dX1_addNeighbour_63 rfl (same (by unfold ANf; rw [if_pos h1]))
  refine j_iload_n dX1_addNeighbour_4 rfl rfl ?_
  refine j_bipush (v := nI 7) dX1_addNeighbour_5 rfl ?_
  refine j_icmp_ge (tgt := 63) dX1_addNeighbour_7 (by decide) (fun h2 => ?_) (fun h2 => ?_)
  · exact j_return dX1_addNeighbour_63 rfl (same (by unfold ANf; rw [if_neg h1, if_pos h2]))
  refine j_iload_n dX1_addNeighbour_10 rfl rfl ?_
  refine j_if_lt (tgt := 63) dX1_addNeighbour_11 (by decide) (fun h3 => ?_) (fun h3 => ?_)
  · exact j_return dX1_addNeighbour_63 rfl (same (by unfold ANf; rw [if_neg h1, if_neg h2, if_pos h3]))
  refine j_iload_n dX1_addNeighbour_14 rfl rfl ?_
  refine j_bipush (v := nI 7) dX1_addNeighbour_15 rfl ?_
  refine j_icmp_ge (tgt := 63) dX1_addNeighbour_17 (by decide) (fun h4 => ?_) (fun h4 => ?_)
  · exact j_return dX1_addNeighbour_63 rfl (same (by unfold ANf; rw [if_neg h1, if_neg h2, if_neg h3, if_pos h4]))
  have e5 : (nw w f6 f7).2 5 = .inr (1, [.ref 6, .ref 7, .ref 8]) := by rw [nw_n (by decide) (by decide)]; exact h5
  refine j_aload_n dX1_addNeighbour_20 rfl rfl ?_
  refine j_getfield dX1_addNeighbour_21 jfl_X1_15 e5 rfl ?_
  refine j_iload_n dX1_addNeighbour_24 rfl rfl ?_
  refine j_iaload dX1_addNeighbour_25 nw_7 (vp_in_nI hc (by decide)) ?_
  rw [nI_clamp (by omega), hL.1]
  refine j_bipush (v := nI 6) dX1_addNeighbour_26 rfl ?_
  have hl6 := hL.2.1
  refine jn_icmp_ge (tgt := 63) dX1_addNeighbour_28 (by decide) (by omega) (by decide) (fun h5' => ?_) (fun h5' => ?_)
  · exact j_return dX1_addNeighbour_63 rfl (same (by unfold ANf; rw [if_neg h1, if_neg h2, if_neg h3, if_neg h4, if_pos h5']))
  obtain ⟨r', hr31, rfl⟩ := nI_nn h1
  obtain ⟨k', hk31, rfl⟩ := nI_nn h3
  have hr7 : r' < 7 := Nat.lt_of_not_le fun q => h2 ((nI_leI (by decide) hr31).mpr q)
  have hk7 : k' < 7 := Nat.lt_of_not_le fun q => h4 ((nI_leI (by decide) hk31).mpr q)
  refine j_aload_n dX1_addNeighbour_31 rfl rfl ?_
  refine j_getfield dX1_addNeighbour_32 jfl_X1_11 e5 rfl ?_
  refine j_iload_n dX1_addNeighbour_35 rfl rfl ?_
  refine j_bipush (v := nI 6) dX1_addNeighbour_36 rfl ?_
  refine jn_imul dX1_addNeighbour_38 ?_
  refine j_aload_n dX1_addNeighbour_39 rfl rfl ?_
  refine j_getfield dX1_addNeighbour_40 jfl_X1_15 e5 rfl ?_
  refine j_iload_n dX1_addNeighbour_43 rfl rfl ?_
  refine j_iaload dX1_addNeighbour_44 nw_7 (vp_in_nI hc (by decide)) ?_
  rw [nI_clamp (by omega), hL.1]
  refine jn_iadd dX1_addNeighbour_45 ?_
  refine j_iload_n dX1_addNeighbour_46 rfl rfl ?_
  refine j_bipush (v := nI 7) dX1_addNeighbour_47 rfl ?_
  refine jn_imul dX1_addNeighbour_49 ?_
  refine j_iload_n dX1_addNeighbour_50 rfl rfl ?_
  refine jn_iadd dX1_addNeighbour_51 ?_
  refine j_iastore dX1_addNeighbour_52 nw_6 (vp_in_nI (by omega) (by decide)) ?_
  rw [nI_clamp (by omega), nw_p6]
  refine j_aload_n dX1_addNeighbour_53 rfl rfl ?_
  refine j_getfield dX1_addNeighbour_54 jfl_X1_15 (by rw [nw_n (by decide) (by decide)]; exact h5) rfl ?_
  refine j_iload_n dX1_addNeighbour_57 rfl rfl ?_
  refine j_dup2 dX1_addNeighbour_58 rfl rfl ?_
  refine j_iaload dX1_addNeighbour_59 nw_7 (vp_in_nI hc (by decide)) ?_
  rw [nI_clamp (by omega), hL.1]
  refine j_iconst (v := nI 1) dX1_addNeighbour_60 rfl ?_
  refine jn_iadd dX1_addNeighbour_61 ?_
  refine j_iastore dX1_addNeighbour_62 nw_7 (vp_in_nI hc (by decide)) ?_
  rw [nI_clamp (by omega), nw_p7]
  refine j_return dX1_addNeighbour_63 rfl ⟨rfl, _, _, rfl, ?_, ?_⟩
  · have ea : ANf l (nI r') (nI k') = l ++ [r' * 7 + k'] := by
      unfold ANf
      rw [if_neg h1, if_neg h2, if_neg h3, if_neg h4, if_neg (by omega), pk_mul, nI_add, nI_clamp (by omega)]
    rw [ea]
    refine ⟨?_, ?_, fun s hs => ?_, fun s h1 h2 => ?_⟩
    · rw [ud_s, List.length_append]; rfl
    · rw [List.length_append]; show l.length + 1 ≤ 6; omega
    · rw [List.length_append] at hs
      have hs : s < l.length + 1 := hs
      rw [app_getD (by omega)]
      by_cases q : s < l.length
      · rw [if_pos q, ud_n _ _ _ (by omega)]
        exact hL.2.2.1 s q
      · rw [if_neg q, show s = l.length by omega, ud_s]
    · rw [List.length_append] at h1
      have h1 : l.length + 1 ≤ s := h1
      rw [ud_n _ _ _ (by omega)]
      exact hL.2.2.2 s (by omega) h2
  · exact ⟨fun x hx => ud_n _ _ _ (by omega), fun x hx => ud_n _ _ _ hx⟩
def FNl (c : Nat) : Int32 := if c / 7 % 2 = 0 then nI (c % 7) - nI 1 else nI (c % 7)
def FNf (c : Nat) : List Nat := ANf (ANf (ANf (ANf (ANf (ANf [] (nI (c / 7) - nI 1) (FNl c)) (nI (c / 7) - nI 1) (FNl c + nI 1)) (nI (c / 7)) (nI (c % 7) - nI 1)) (nI (c / 7)) (nI (c % 7) + nI 1)) (nI (c / 7) + nI 1) (FNl c)) (nI (c / 7) + nI 1) (FNl c + nI 1)
theorem FN_tab (hc : c < 49) : FNf c = nbL c := by
  have z : (List.range 49).all (fun c => decide (FNf c = nbL c)) = true := by decide +kernel
  exact of_decide_eq_true (List.all_eq_true.mp z c (List.mem_range.mpr hc))
theorem k_findN (h5 : w.2 5 = .inr (1, [.ref 6, .ref 7, .ref 8])) (hc : c < 49) (hL : nLS c [] f6 f7) : jMet (d + 1) yX1_findNeighbours cX1_findNeighbours 5 none 0 0 [.ref 5, .int (nI c)] (nw w f6 f7) (fun z w' => z = none ∧ ∃ f6' f7', w' = nw w f6' f7' ∧ nLS c (nbL c) f6' f7' ∧ oly c f6 f7 f6' f7') := by
  refine jMet_of (by decide) (Nat.le_of_ble_eq_true rfl) none (Or.inl rfl) ?_
  show jWP none RX1 cX1_findNeighbours 5 none (d + 1) 0 0 0 [some (.ref 5), some (.int (nI c)), none, none, none] [] (nw w f6 f7) (fun z w' => z = none ∧ ∃ f6' f7', w' = nw w f6' f7' ∧ nLS c (nbL c) f6' f7' ∧ oly c f6 f7 f6' f7')
  have e5 : ∀ {g6 g7 : Nat → Int32}, (nw w g6 g7).2 5 = .inr (1, [.ref 6, .ref 7, .ref 8]) := by intro g6 g7; rw [nw_n (by decide) (by decide)]; exact h5
  refine j_iload_n dX1_findNeighbours_0 rfl rfl ?_
  refine j_bipush (v := nI 7) dX1_findNeighbours_1 rfl ?_
  refine jn_idiv dX1_findNeighbours_3 (by omega) (by decide) (by decide) ?_
  refine j_istore_n (lv' := [some (.ref 5), some (.int (nI c)), some (.int (nI (c / 7))), none, none]) dX1_findNeighbours_4 rfl (by decide) rfl ?_
  refine j_iload_n dX1_findNeighbours_5 rfl rfl ?_
  refine j_bipush (v := nI 7) dX1_findNeighbours_6 rfl ?_
  refine jn_irem dX1_findNeighbours_8 (by omega) (by decide) (by decide) ?_
  refine j_istore_n (lv' := [some (.ref 5), some (.int (nI c)), some (.int (nI (c / 7))), some (.int (nI (c % 7))), none]) dX1_findNeighbours_9 rfl (by decide) rfl ?_
  have tail : jWP none RX1 cX1_findNeighbours 5 none (d + 1) 0 0 23 [some (.ref 5), some (.int (nI c)), some (.int (nI (c / 7))), some (.int (nI (c % 7))), none] [.int (FNl c)] (nw w f6 f7) (fun z w' => z = none ∧ ∃ f6' f7', w' = nw w f6' f7' ∧ nLS c (nbL c) f6' f7' ∧ oly c f6 f7 f6' f7') := by
    refine j_istore (lv' := [some (.ref 5), some (.int (nI c)), some (.int (nI (c / 7))), some (.int (nI (c % 7))), some (.int (FNl c))]) dX1_findNeighbours_23 (by decide) rfl ?_
    refine j_aload_n dX1_findNeighbours_25 rfl rfl ?_
    refine j_iload_n dX1_findNeighbours_26 rfl rfl ?_
    refine j_iload_n dX1_findNeighbours_27 rfl rfl ?_
    refine j_iconst (v := nI 1) dX1_findNeighbours_28 rfl ?_
    refine j_isub dX1_findNeighbours_29 ?_
    refine j_iload dX1_findNeighbours_30 rfl ?_
    refine j_callV [.int (nI c), .int (nI (c / 7) - nI 1), .int (FNl c)] [] dX1_findNeighbours_32 jlk_X1_29 rfl rfl e5 rfl (Nat.le_of_ble_eq_true rfl) (k_addN h5 hc hL) (fun z w' hw => ?_)
    obtain ⟨rfl, a6, a7, rfl, hL1, o1⟩ := hw
    refine j_aload_n dX1_findNeighbours_35 rfl rfl ?_
    refine j_iload_n dX1_findNeighbours_36 rfl rfl ?_
    refine j_iload_n dX1_findNeighbours_37 rfl rfl ?_
    refine j_iconst (v := nI 1) dX1_findNeighbours_38 rfl ?_
    refine j_isub dX1_findNeighbours_39 ?_
    refine j_iload dX1_findNeighbours_40 rfl ?_
    refine j_iconst (v := nI 1) dX1_findNeighbours_42 rfl ?_
    refine j_iadd dX1_findNeighbours_43 ?_
    refine j_callV [.int (nI c), .int (nI (c / 7) - nI 1), .int (FNl c + nI 1)] [] dX1_findNeighbours_44 jlk_X1_29 rfl rfl e5 rfl (Nat.le_of_ble_eq_true rfl) (k_addN h5 hc hL1) (fun z w' hw => ?_)
    obtain ⟨rfl, b6, b7, rfl, hL2, o2⟩ := hw
    refine j_aload_n dX1_findNeighbours_47 rfl rfl ?_
    refine j_iload_n dX1_findNeighbours_48 rfl rfl ?_
    refine j_iload_n dX1_findNeighbours_49 rfl rfl ?_
    refine j_iload_n dX1_findNeighbours_50 rfl rfl ?_
    refine j_iconst (v := nI 1) dX1_findNeighbours_51 rfl ?_
    refine j_isub dX1_findNeighbours_52 ?_
    refine j_callV [.int (nI c), .int (nI (c / 7)), .int (nI (c % 7) - nI 1)] [] dX1_findNeighbours_53 jlk_X1_29 rfl rfl e5 rfl (Nat.le_of_ble_eq_true rfl) (k_addN h5 hc hL2) (fun z w' hw => ?_)
    obtain ⟨rfl, c6, c7, rfl, hL3, o3⟩ := hw
    refine j_aload_n dX1_findNeighbours_56 rfl rfl ?_
    refine j_iload_n dX1_findNeighbours_57 rfl rfl ?_
    refine j_iload_n dX1_findNeighbours_58 rfl rfl ?_
    refine j_iload_n dX1_findNeighbours_59 rfl rfl ?_
    refine j_iconst (v := nI 1) dX1_findNeighbours_60 rfl ?_
    refine j_iadd dX1_findNeighbours_61 ?_
    refine j_callV [.int (nI c), .int (nI (c / 7)), .int (nI (c % 7) + nI 1)] [] dX1_findNeighbours_62 jlk_X1_29 rfl rfl e5 rfl (Nat.le_of_ble_eq_true rfl) (k_addN h5 hc hL3) (fun z w' hw => ?_)
    obtain ⟨rfl, d6, d7, rfl, hL4, o4⟩ := hw
    refine j_aload_n dX1_findNeighbours_65 rfl rfl ?_
    refine j_iload_n dX1_findNeighbours_66 rfl rfl ?_
    refine j_iload_n dX1_findNeighbours_67 rfl rfl ?_
    refine j_iconst (v := nI 1) dX1_findNeighbours_68 rfl ?_
    refine j_iadd dX1_findNeighbours_69 ?_
    refine j_iload dX1_findNeighbours_70 rfl ?_
    refine j_callV [.int (nI c), .int (nI (c / 7) + nI 1), .int (FNl c)] [] dX1_findNeighbours_72 jlk_X1_29 rfl rfl e5 rfl (Nat.le_of_ble_eq_true rfl) (k_addN h5 hc hL4) (fun z w' hw => ?_)
    obtain ⟨rfl, g6, g7, rfl, hL5, o5⟩ := hw
    refine j_aload_n dX1_findNeighbours_75 rfl rfl ?_
    refine j_iload_n dX1_findNeighbours_76 rfl rfl ?_
    refine j_iload_n dX1_findNeighbours_77 rfl rfl ?_
    refine j_iconst (v := nI 1) dX1_findNeighbours_78 rfl ?_
    refine j_iadd dX1_findNeighbours_79 ?_
    refine j_iload dX1_findNeighbours_80 rfl ?_
    refine j_iconst (v := nI 1) dX1_findNeighbours_82 rfl ?_
    refine j_iadd dX1_findNeighbours_83 ?_
    refine j_callV [.int (nI c), .int (nI (c / 7) + nI 1), .int (FNl c + nI 1)] [] dX1_findNeighbours_84 jlk_X1_29 rfl rfl e5 rfl (Nat.le_of_ble_eq_true rfl) (k_addN h5 hc hL5) (fun z w' hw => ?_)
    obtain ⟨rfl, i6, i7, rfl, hL6, o6⟩ := hw
    refine j_return dX1_findNeighbours_87 rfl ⟨rfl, i6, i7, rfl, ?_, oly_tr o1 (oly_tr o2 (oly_tr o3 (oly_tr o4 (oly_tr o5 o6))))⟩
    rw [← FN_tab hc]
    exact hL6
  refine j_iload_n dX1_findNeighbours_10 rfl rfl ?_
  refine j_iconst (v := nI 2) dX1_findNeighbours_11 rfl ?_
  refine jn_irem dX1_findNeighbours_12 (by omega) (by decide) (by decide) ?_
  refine jn_if_ne (tgt := 22) dX1_findNeighbours_13 (by decide) (by omega) (fun h => ?_) (fun h => ?_)
  · refine j_iload_n dX1_findNeighbours_22 rfl rfl ?_
    refine j_ats (st' := [.int (FNl c)]) (by unfold FNl; rw [if_neg (by omega)]) tail
  · refine j_iload_n dX1_findNeighbours_16 rfl rfl ?_
    refine j_iconst (v := nI 1) dX1_findNeighbours_17 rfl ?_
    refine j_isub dX1_findNeighbours_18 ?_
    refine j_goto (tgt := 23) dX1_findNeighbours_19 (by decide) ?_
    refine j_ats (st' := [.int (FNl c)]) (by unfold FNl; rw [if_pos h]) tail
theorem l_grid1 {nL2 : Option Value} {post : Option Value → jW → Prop} (h5 : w.2 5 = .inr (1, [.ref 6, .ref 7, .ref 8])) (kk : ∀ f6 f7 : Nat → Int32, (∀ a, a < 49 → nLS a (nbL a) f6 f7) → jWP (some none) RX1 cX1_init 3 none (d + 2) 1 49 49 [some (.ref 5), some (.int (nI 49)), none] [] (nw w f6 f7) post) : ∀ (m i : Nat) (f6 f7 : Nat → Int32), i + m = 49 → (∀ a, a < i → nLS a (nbL a) f6 f7) → (∀ a, i ≤ a → a < 49 → nLS a [] f6 f7) → jWP (some none) RX1 cX1_init 3 none (d + 2) 1 49 32 [some (.ref 5), some (.int (nI i)), none] [] (nw w f6 f7) post := by
  intro m
  induction m with
  | zero =>
    intro i f6 f7 h h1 h2
    have hi : i = 49 := by omega
    subst hi
    refine j_iload_n dX1_init_32 rfl rfl ?_
    refine j_bipush (v := nI 49) dX1_init_33 rfl ?_
    refine jn_icmp_ge (tgt := 49) dX1_init_35 (by decide) (by decide) (by decide) (fun _ => ?_) (fun h => absurd h (by decide))
    exact kk f6 f7 h1
  | succ m ih =>
    intro i f6 f7 h h1 h2
    refine j_iload_n dX1_init_32 rfl rfl ?_
    refine j_bipush (v := nI 49) dX1_init_33 rfl ?_
    refine jn_icmp_ge (tgt := 49) dX1_init_35 (by decide) (by omega) (by decide) (fun h => absurd h (by omega)) (fun _ => ?_)
    refine j_aload_n dX1_init_38 rfl rfl ?_
    refine j_iload_n dX1_init_39 rfl rfl ?_
    refine j_callV [.int (nI i)] [] dX1_init_40 jlk_X1_21 rfl rfl (by rw [nw_n (by decide) (by decide)]; exact h5) rfl (Nat.le_of_ble_eq_true rfl) (k_findN h5 (show i < 49 by omega) (h2 i (Nat.le_refl _) (by omega))) (fun z w' hw => ?_)
    obtain ⟨rfl, a6, a7, rfl, hL, ho⟩ := hw
    refine j_iinc (v := nI (i + 1)) (lv' := [some (.ref 5), some (.int (nI (i + 1))), none]) dX1_init_43 rfl (nI_add i 1) (by decide) rfl ?_
    refine j_goto (tgt := 32) dX1_init_46 (by decide) ?_
    refine ih (i + 1) a6 a7 (by omega) (fun a ha => ?_) (fun a ha ha9 => ?_)
    · by_cases e : a = i
      · subst e; exact hL
      · obtain ⟨q1, q2, q3, q4⟩ := h1 a (by omega)
        exact ⟨by rw [ho.2 a e]; exact q1, q2, fun s hs => by rw [ho.1 _ (by omega)]; exact q3 s hs, fun s h1 h2 => by rw [ho.1 _ (by omega)]; exact q4 s h1 h2⟩
    · obtain ⟨q1, q2, q3, q4⟩ := h2 a (by omega) ha9
      exact ⟨by rw [ho.2 a (by omega)]; exact q1, q2, fun s hs => absurd hs (Nat.not_lt_zero _), fun s h1 h2 => by rw [ho.1 _ (by omega)]; exact q4 s h1 h2⟩
end GRID1
