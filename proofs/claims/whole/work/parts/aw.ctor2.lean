section CTOR2
variable {d : Nat} {c : Nat → jE}
theorem ju_ju (w : jW) (a : Nat) (e e' : jE) : ju (ju w a e) a e' = ju w a e' := by
  unfold ju
  rw [vu_up]
theorem ju_cm (w : jW) {a b : Nat} (e e' : jE) (h : a ≠ b) : ju (ju w a e) b e' = ju (ju w b e') a e := by
  unfold ju
  rw [vu_comm _ _ _ h]
theorem ju_4 (w : jW) {a b : Nat} (e f e' f' : jE) (h : a ≠ b) : ju (ju (ju (ju w a e) b f) a e') b f' = ju (ju w a e') b f' := by
  rw [ju_cm (ju w a e) f e' (Ne.symm h), ju_ju, ju_ju]
/-- a row filled from i on -/
def fiF (v f : Nat → Int32) (i n : Nat) : Nat → Int32 := fun j => if i ≤ j ∧ j < n then v j else f j
theorem fiF_s {v f : Nat → Int32} {i n : Nat} (h : i < n) : fiF v (upd f i (v i)) (i + 1) n = fiF v f i n := by
  funext j
  unfold fiF
  by_cases e : j = i
  · subst e
    rw [if_neg (by omega), ud_s, if_pos (by omega)]
  · rw [ud_n _ _ _ e]
    by_cases q : i ≤ j ∧ j < n
    · rw [if_pos (by omega), if_pos q]
    · rw [if_neg (by omega), if_neg q]
theorem fiF_e {v f : Nat → Int32} {n : Nat} : fiF v f n n = f := by
  funext j
  unfold fiF
  rw [if_neg (by omega)]
theorem k_degree {w : jW} {f7 : Nat → Int32} (h5 : w.2 5 = .inr (1, [.ref 6, .ref 7, .ref 8])) (h7 : w.2 7 = .inl (0, 49, .inl f7)) {j : Nat} (h : j < 49) : jMet (d + 1) yX1_degree cX1_degree 2 (some .int) 0 0 [.ref 5, .int (nI j)] w (jRi (f7 j) w) := by
  refine jMet_of (by decide) (Nat.le_of_ble_eq_true rfl) none (Or.inl rfl) ?_
  show jWP none RX1 cX1_degree 2 (some .int) (d + 1) 0 0 0 [some (.ref 5), some (.int (nI j))] [] w (jRi (f7 j) w)
  refine j_iload_n dX1_degree_0 rfl rfl ?_
  refine j_callSi [.int _] [] dX1_degree_1 jlk_X1_33 rfl rfl (Nat.le_of_ble_eq_true rfl) (c_X1_isCell_in (by omega)) ?_
  refine j_if_eq (tgt := 16) dX1_degree_4 (by decide) (fun h => absurd h (by decide)) (fun _ => ?_)
  refine j_aload_n dX1_degree_7 rfl rfl ?_
  refine j_getfield dX1_degree_8 jfl_X1_15 h5 rfl ?_
  refine j_iload_n dX1_degree_11 rfl rfl ?_
  refine j_iaload (f := f7) dX1_degree_12 h7 (vp_in_nI h (by decide)) ?_
  rw [nI_clamp (by omega)]
  refine j_goto (tgt := 17) dX1_degree_13 (by decide) ?_
  refine j_ireturn dX1_degree_17 rfl ?_
  exact ⟨rfl, rfl⟩
theorem l_X0_init {K k1 k2 k3 : Nat} {f7 : Nat → Int32} {post : Option Value → jW → Prop} (h13 : k1 ≠ k3) (hK1 : K ≠ k1) (hK3 : K ≠ k3) (h51 : 5 ≠ k1) (h53 : 5 ≠ k3) (h71 : 7 ≠ k1) (h73 : 7 ≠ k3) : ∀ (m i : Nat) (w : jW) (f g : Nat → Int32), i + m = 49 → w.2 K = .inr (0, [.ref 5, .ref k1, .ref k2, .ref k3, .int (nI 0)]) → w.2 5 = .inr (1, [.ref 6, .ref 7, .ref 8]) → w.2 7 = .inl (0, 49, .inl f7) → w.2 k1 = .inl (0, 49, .inl f) → w.2 k3 = .inl (0, 49, .inl g) →
    post none (ju (ju w k1 (.inl (0, 49, .inl (fiF (fun _ => -1) f i 49)))) k3 (.inl (0, 49, .inl (fiF f7 g i 49)))) → jWP (some none) RX0 cX0_init 3 none (d + 3) 0 0 40 [some (.ref K), some (.ref 5), some (.int (nI i))] [] w post := by
  intro m
  induction m with
  | zero =>
    intro i w f g h e1 e2 e3 e4 e5 hp
    have hi : i = 49 := by omega
    subst hi
    refine j_iload_n dX0_init_40 rfl rfl ?_
    refine j_bipush (v := nI 49) dX0_init_41 rfl ?_
    refine jn_icmp_ge (tgt := 70) dX0_init_43 (by decide) (by decide) (by decide) (fun _ => ?_) (fun h => absurd h (by decide))
    refine j_return dX0_init_70 rfl ?_
    rw [fiF_e, fiF_e, ← e4, ← e5] at hp
    unfold ju at hp
    rw [vu_self] at hp
    have e : va_up w.2 k3 (w.2 k3) = w.2 := vu_self _ _
    rw [e] at hp
    exact hp
  | succ m ih =>
    intro i w f g h e1 e2 e3 e4 e5 hp
    refine j_iload_n dX0_init_40 rfl rfl ?_
    refine j_bipush (v := nI 49) dX0_init_41 rfl ?_
    refine jn_icmp_ge (tgt := 70) dX0_init_43 (by decide) (by omega) (by decide) (fun h => absurd h (by omega)) (fun _ => ?_)
    refine j_aload_n dX0_init_46 rfl rfl ?_
    refine j_getfield dX0_init_47 jfl_X0_9 e1 rfl ?_
    refine j_iload_n dX0_init_50 rfl rfl ?_
    refine j_iconst (v := -1) dX0_init_51 rfl ?_
    refine j_iastore dX0_init_52 e4 (vp_in_nI (by omega) (by decide)) ?_
    rw [nI_clamp (by omega)]
    refine j_aload_n dX0_init_53 rfl rfl ?_
    refine j_getfield dX0_init_54 jfl_X0_18 (by rw [ju_n _ _ _ hK1]; exact e1) rfl ?_
    refine j_iload_n dX0_init_57 rfl rfl ?_
    refine j_aload_n dX0_init_58 rfl rfl ?_
    refine j_iload_n dX0_init_59 rfl rfl ?_
    refine j_callVi [.int (nI i)] [.int (nI i), .ref k3] dX0_init_60 jlk_X0_29 rfl rfl (by rw [ju_n _ _ _ h51]; exact e2) rfl (Nat.le_of_ble_eq_true rfl) (k_degree (by rw [ju_n _ _ _ h51]; exact e2) (by rw [ju_n _ _ _ h71]; exact e3) (show i < 49 by omega)) ?_
    refine j_iastore (f := g) dX0_init_63 (by rw [ju_n _ _ _ (Ne.symm h13)]; exact e5) (vp_in_nI (by omega) (by decide)) ?_
    rw [nI_clamp (by omega)]
    refine j_iinc (v := nI (i + 1)) (lv' := [some (.ref K), some (.ref 5), some (.int (nI (i + 1)))]) dX0_init_64 rfl (nI_add i 1) (by decide) rfl ?_
    refine j_goto (tgt := 40) dX0_init_67 (by decide) ?_
    refine ih (i + 1) _ (upd f i (-1)) (upd g i (f7 i)) (by omega) (by rw [ju_n _ _ _ hK3, ju_n _ _ _ hK1]; exact e1) (by rw [ju_n _ _ _ h53, ju_n _ _ _ h51]; exact e2) (by rw [ju_n _ _ _ h73, ju_n _ _ _ h71]; exact e3) (by rw [ju_n _ _ _ h13, ju_s]) (by rw [ju_s]) ?_
    rw [ju_4 _ _ _ _ _ h13, fiF_s (v := fun _ => -1) (show i < 49 by omega), fiF_s (v := f7) (show i < 49 by omega)]
    exact hp
set_option maxRecDepth 100000 in
theorem k_X0_init_39 {f7 : Nat → Int32} (hs : c 39 = .inr (0, [.null, .null, .null, .null, .int 0])) (h5 : c 5 = .inr (1, [.ref 6, .ref 7, .ref 8])) (h7 : c 7 = .inl (0, 49, .inl f7)) : jMet (d + 3) yX0_init cX0_init 3 none 3 147 [.ref 39, .ref 5] (40, c) (fun r w => r = none ∧ w = (43, va_up (va_up (va_up (va_up (va_up (va_up (va_up (va_up (va_up (va_up (c) 40 (.inl (0, 49, .inl fun _ => 0))) 39 (.inr (0, [.null, .ref 40, .null, .null, .int 0]))) 41 (.inl (0, 49, .inl fun _ => 0))) 39 (.inr (0, [.null, .ref 40, .ref 41, .null, .int 0]))) 42 (.inl (0, 49, .inl fun _ => 0))) 39 (.inr (0, [.null, .ref 40, .ref 41, .ref 42, .int 0]))) 39 (.inr (0, [.null, .ref 40, .ref 41, .ref 42, .int (nI 0)]))) 39 (.inr (0, [.ref 5, .ref 40, .ref 41, .ref 42, .int (nI 0)]))) 40 (.inl (0, 49, .inl (fiF (fun _ => -1) (fun _ => 0) 0 49)))) 42 (.inl (0, 49, .inl (fiF f7 (fun _ => 0) 0 49))))) := by
  refine jMet_of (by decide) (Nat.le_of_ble_eq_true rfl) (some none) (Or.inr ⟨rfl, rfl⟩) ?_
  show jWP (some none) RX0 cX0_init 3 none (d + 3) 3 147 0 [some (.ref 39), some (.ref 5), none] [] (40, c) (fun r w => r = none ∧ w = (43, va_up (va_up (va_up (va_up (va_up (va_up (va_up (va_up (va_up (va_up (c) 40 (.inl (0, 49, .inl fun _ => 0))) 39 (.inr (0, [.null, .ref 40, .null, .null, .int 0]))) 41 (.inl (0, 49, .inl fun _ => 0))) 39 (.inr (0, [.null, .ref 40, .ref 41, .null, .int 0]))) 42 (.inl (0, 49, .inl fun _ => 0))) 39 (.inr (0, [.null, .ref 40, .ref 41, .ref 42, .int 0]))) 39 (.inr (0, [.null, .ref 40, .ref 41, .ref 42, .int (nI 0)]))) 39 (.inr (0, [.ref 5, .ref 40, .ref 41, .ref 42, .int (nI 0)]))) 40 (.inl (0, 49, .inl (fiF (fun _ => -1) (fun _ => 0) 0 49)))) 42 (.inl (0, 49, .inl (fiF f7 (fun _ => 0) 0 49)))))
  refine j_aload_n (i := 0) dX0_init_0 rfl rfl ?_
  refine j_objInit dX0_init_1 jlo_X0_3 (Nat.le_of_ble_eq_true rfl) ?_
  refine j_aload_n (i := 0) dX0_init_4 rfl rfl ?_
  refine j_bipush (v := nI 49) dX0_init_5 rfl ?_
  refine j_newarr_i (N := 49) (bc := 2) (bs := 98) dX0_init_7 jw_arr_int (by decide) (nI_clamp (by decide)) (Nat.le_of_ble_eq_true rfl) ?_
  refine j_putfinal rfl dX0_init_9 jfl_X0_9 rfl hs (fun _ => rfl) (fun _ => rfl) (Nat.le_of_ble_eq_true rfl) ?_
  refine j_aload_n (i := 0) dX0_init_12 rfl rfl ?_
  refine j_bipush (v := nI 49) dX0_init_13 rfl ?_
  refine j_newarr_i (N := 49) (bc := 1) (bs := 49) dX0_init_15 jw_arr_int (by decide) (nI_clamp (by decide)) (Nat.le_of_ble_eq_true rfl) ?_
  refine j_putfinal rfl dX0_init_17 jfl_X0_15 rfl rfl (fun _ => rfl) (fun _ => rfl) (Nat.le_of_ble_eq_true rfl) ?_
  refine j_aload_n (i := 0) dX0_init_20 rfl rfl ?_
  refine j_bipush (v := nI 49) dX0_init_21 rfl ?_
  refine j_newarr_i (N := 49) (bc := 0) (bs := 0) dX0_init_23 jw_arr_int (by decide) (nI_clamp (by decide)) (Nat.le_of_ble_eq_true rfl) ?_
  refine j_putfinal rfl dX0_init_25 jfl_X0_18 rfl rfl (fun _ => rfl) (fun _ => rfl) (Nat.le_of_ble_eq_true rfl) ?_
  refine j_aload_n (i := 0) dX0_init_28 rfl rfl ?_
  refine j_iconst (v := nI 0) dX0_init_29 rfl ?_
  refine j_putfield dX0_init_30 jfl_X0_21 rfl (fun _ => rfl) (fun _ => rfl) (Nat.le_of_ble_eq_true rfl) ?_
  refine j_aload_n (i := 0) dX0_init_33 rfl rfl ?_
  refine j_aload_n (i := 1) dX0_init_34 rfl rfl ?_
  refine j_putfinal rfl dX0_init_35 jfl_X0_25 rfl rfl (fun _ => rfl) (fun _ => rfl) (Nat.le_of_ble_eq_true rfl) ?_
  refine j_iconst (v := nI 0) dX0_init_38 rfl ?_
  refine j_istore_n (i := 2) (lv' := [some (.ref 39), some (.ref 5), some (.int (nI 0))]) dX0_init_39 rfl (by decide) rfl ?_
  exact l_X0_init (K := 39) (k1 := 40) (k2 := 41) (k3 := 42) (by decide) (by decide) (by decide) (by decide) (by decide) (by decide) (by decide) 49 0 _ (fun _ => 0) (fun _ => 0) rfl rfl h5 h7 rfl rfl ⟨rfl, rfl⟩
set_option maxRecDepth 100000 in
theorem k_X0_init_43 {f7 : Nat → Int32} (hs : c 43 = .inr (0, [.null, .null, .null, .null, .int 0])) (h5 : c 5 = .inr (1, [.ref 6, .ref 7, .ref 8])) (h7 : c 7 = .inl (0, 49, .inl f7)) : jMet (d + 3) yX0_init cX0_init 3 none 3 147 [.ref 43, .ref 5] (44, c) (fun r w => r = none ∧ w = (47, va_up (va_up (va_up (va_up (va_up (va_up (va_up (va_up (va_up (va_up (c) 44 (.inl (0, 49, .inl fun _ => 0))) 43 (.inr (0, [.null, .ref 44, .null, .null, .int 0]))) 45 (.inl (0, 49, .inl fun _ => 0))) 43 (.inr (0, [.null, .ref 44, .ref 45, .null, .int 0]))) 46 (.inl (0, 49, .inl fun _ => 0))) 43 (.inr (0, [.null, .ref 44, .ref 45, .ref 46, .int 0]))) 43 (.inr (0, [.null, .ref 44, .ref 45, .ref 46, .int (nI 0)]))) 43 (.inr (0, [.ref 5, .ref 44, .ref 45, .ref 46, .int (nI 0)]))) 44 (.inl (0, 49, .inl (fiF (fun _ => -1) (fun _ => 0) 0 49)))) 46 (.inl (0, 49, .inl (fiF f7 (fun _ => 0) 0 49))))) := by
  refine jMet_of (by decide) (Nat.le_of_ble_eq_true rfl) (some none) (Or.inr ⟨rfl, rfl⟩) ?_
  show jWP (some none) RX0 cX0_init 3 none (d + 3) 3 147 0 [some (.ref 43), some (.ref 5), none] [] (44, c) (fun r w => r = none ∧ w = (47, va_up (va_up (va_up (va_up (va_up (va_up (va_up (va_up (va_up (va_up (c) 44 (.inl (0, 49, .inl fun _ => 0))) 43 (.inr (0, [.null, .ref 44, .null, .null, .int 0]))) 45 (.inl (0, 49, .inl fun _ => 0))) 43 (.inr (0, [.null, .ref 44, .ref 45, .null, .int 0]))) 46 (.inl (0, 49, .inl fun _ => 0))) 43 (.inr (0, [.null, .ref 44, .ref 45, .ref 46, .int 0]))) 43 (.inr (0, [.null, .ref 44, .ref 45, .ref 46, .int (nI 0)]))) 43 (.inr (0, [.ref 5, .ref 44, .ref 45, .ref 46, .int (nI 0)]))) 44 (.inl (0, 49, .inl (fiF (fun _ => -1) (fun _ => 0) 0 49)))) 46 (.inl (0, 49, .inl (fiF f7 (fun _ => 0) 0 49)))))
  refine j_aload_n (i := 0) dX0_init_0 rfl rfl ?_
  refine j_objInit dX0_init_1 jlo_X0_3 (Nat.le_of_ble_eq_true rfl) ?_
  refine j_aload_n (i := 0) dX0_init_4 rfl rfl ?_
  refine j_bipush (v := nI 49) dX0_init_5 rfl ?_
  refine j_newarr_i (N := 49) (bc := 2) (bs := 98) dX0_init_7 jw_arr_int (by decide) (nI_clamp (by decide)) (Nat.le_of_ble_eq_true rfl) ?_
  refine j_putfinal rfl dX0_init_9 jfl_X0_9 rfl hs (fun _ => rfl) (fun _ => rfl) (Nat.le_of_ble_eq_true rfl) ?_
  refine j_aload_n (i := 0) dX0_init_12 rfl rfl ?_
  refine j_bipush (v := nI 49) dX0_init_13 rfl ?_
  refine j_newarr_i (N := 49) (bc := 1) (bs := 49) dX0_init_15 jw_arr_int (by decide) (nI_clamp (by decide)) (Nat.le_of_ble_eq_true rfl) ?_
  refine j_putfinal rfl dX0_init_17 jfl_X0_15 rfl rfl (fun _ => rfl) (fun _ => rfl) (Nat.le_of_ble_eq_true rfl) ?_
  refine j_aload_n (i := 0) dX0_init_20 rfl rfl ?_
  refine j_bipush (v := nI 49) dX0_init_21 rfl ?_
  refine j_newarr_i (N := 49) (bc := 0) (bs := 0) dX0_init_23 jw_arr_int (by decide) (nI_clamp (by decide)) (Nat.le_of_ble_eq_true rfl) ?_
  refine j_putfinal rfl dX0_init_25 jfl_X0_18 rfl rfl (fun _ => rfl) (fun _ => rfl) (Nat.le_of_ble_eq_true rfl) ?_
  refine j_aload_n (i := 0) dX0_init_28 rfl rfl ?_
  refine j_iconst (v := nI 0) dX0_init_29 rfl ?_
  refine j_putfield dX0_init_30 jfl_X0_21 rfl (fun _ => rfl) (fun _ => rfl) (Nat.le_of_ble_eq_true rfl) ?_
  refine j_aload_n (i := 0) dX0_init_33 rfl rfl ?_
  refine j_aload_n (i := 1) dX0_init_34 rfl rfl ?_
  refine j_putfinal rfl dX0_init_35 jfl_X0_25 rfl rfl (fun _ => rfl) (fun _ => rfl) (Nat.le_of_ble_eq_true rfl) ?_
  refine j_iconst (v := nI 0) dX0_init_38 rfl ?_
  refine j_istore_n (i := 2) (lv' := [some (.ref 43), some (.ref 5), some (.int (nI 0))]) dX0_init_39 rfl (by decide) rfl ?_
  exact l_X0_init (K := 43) (k1 := 44) (k2 := 45) (k3 := 46) (by decide) (by decide) (by decide) (by decide) (by decide) (by decide) (by decide) 49 0 _ (fun _ => 0) (fun _ => 0) rfl rfl h5 h7 rfl rfl ⟨rfl, rfl⟩
set_option maxRecDepth 100000 in
theorem k_X0_init_47 {f7 : Nat → Int32} (hs : c 47 = .inr (0, [.null, .null, .null, .null, .int 0])) (h5 : c 5 = .inr (1, [.ref 6, .ref 7, .ref 8])) (h7 : c 7 = .inl (0, 49, .inl f7)) : jMet (d + 3) yX0_init cX0_init 3 none 3 147 [.ref 47, .ref 5] (48, c) (fun r w => r = none ∧ w = (51, va_up (va_up (va_up (va_up (va_up (va_up (va_up (va_up (va_up (va_up (c) 48 (.inl (0, 49, .inl fun _ => 0))) 47 (.inr (0, [.null, .ref 48, .null, .null, .int 0]))) 49 (.inl (0, 49, .inl fun _ => 0))) 47 (.inr (0, [.null, .ref 48, .ref 49, .null, .int 0]))) 50 (.inl (0, 49, .inl fun _ => 0))) 47 (.inr (0, [.null, .ref 48, .ref 49, .ref 50, .int 0]))) 47 (.inr (0, [.null, .ref 48, .ref 49, .ref 50, .int (nI 0)]))) 47 (.inr (0, [.ref 5, .ref 48, .ref 49, .ref 50, .int (nI 0)]))) 48 (.inl (0, 49, .inl (fiF (fun _ => -1) (fun _ => 0) 0 49)))) 50 (.inl (0, 49, .inl (fiF f7 (fun _ => 0) 0 49))))) := by
  refine jMet_of (by decide) (Nat.le_of_ble_eq_true rfl) (some none) (Or.inr ⟨rfl, rfl⟩) ?_
  show jWP (some none) RX0 cX0_init 3 none (d + 3) 3 147 0 [some (.ref 47), some (.ref 5), none] [] (48, c) (fun r w => r = none ∧ w = (51, va_up (va_up (va_up (va_up (va_up (va_up (va_up (va_up (va_up (va_up (c) 48 (.inl (0, 49, .inl fun _ => 0))) 47 (.inr (0, [.null, .ref 48, .null, .null, .int 0]))) 49 (.inl (0, 49, .inl fun _ => 0))) 47 (.inr (0, [.null, .ref 48, .ref 49, .null, .int 0]))) 50 (.inl (0, 49, .inl fun _ => 0))) 47 (.inr (0, [.null, .ref 48, .ref 49, .ref 50, .int 0]))) 47 (.inr (0, [.null, .ref 48, .ref 49, .ref 50, .int (nI 0)]))) 47 (.inr (0, [.ref 5, .ref 48, .ref 49, .ref 50, .int (nI 0)]))) 48 (.inl (0, 49, .inl (fiF (fun _ => -1) (fun _ => 0) 0 49)))) 50 (.inl (0, 49, .inl (fiF f7 (fun _ => 0) 0 49)))))
  refine j_aload_n (i := 0) dX0_init_0 rfl rfl ?_
  refine j_objInit dX0_init_1 jlo_X0_3 (Nat.le_of_ble_eq_true rfl) ?_
  refine j_aload_n (i := 0) dX0_init_4 rfl rfl ?_
  refine j_bipush (v := nI 49) dX0_init_5 rfl ?_
  refine j_newarr_i (N := 49) (bc := 2) (bs := 98) dX0_init_7 jw_arr_int (by decide) (nI_clamp (by decide)) (Nat.le_of_ble_eq_true rfl) ?_
  refine j_putfinal rfl dX0_init_9 jfl_X0_9 rfl hs (fun _ => rfl) (fun _ => rfl) (Nat.le_of_ble_eq_true rfl) ?_
  refine j_aload_n (i := 0) dX0_init_12 rfl rfl ?_
  refine j_bipush (v := nI 49) dX0_init_13 rfl ?_
  refine j_newarr_i (N := 49) (bc := 1) (bs := 49) dX0_init_15 jw_arr_int (by decide) (nI_clamp (by decide)) (Nat.le_of_ble_eq_true rfl) ?_
  refine j_putfinal rfl dX0_init_17 jfl_X0_15 rfl rfl (fun _ => rfl) (fun _ => rfl) (Nat.le_of_ble_eq_true rfl) ?_
  refine j_aload_n (i := 0) dX0_init_20 rfl rfl ?_
  refine j_bipush (v := nI 49) dX0_init_21 rfl ?_
  refine j_newarr_i (N := 49) (bc := 0) (bs := 0) dX0_init_23 jw_arr_int (by decide) (nI_clamp (by decide)) (Nat.le_of_ble_eq_true rfl) ?_
  refine j_putfinal rfl dX0_init_25 jfl_X0_18 rfl rfl (fun _ => rfl) (fun _ => rfl) (Nat.le_of_ble_eq_true rfl) ?_
  refine j_aload_n (i := 0) dX0_init_28 rfl rfl ?_
  refine j_iconst (v := nI 0) dX0_init_29 rfl ?_
  refine j_putfield dX0_init_30 jfl_X0_21 rfl (fun _ => rfl) (fun _ => rfl) (Nat.le_of_ble_eq_true rfl) ?_
  refine j_aload_n (i := 0) dX0_init_33 rfl rfl ?_
  refine j_aload_n (i := 1) dX0_init_34 rfl rfl ?_
  refine j_putfinal rfl dX0_init_35 jfl_X0_25 rfl rfl (fun _ => rfl) (fun _ => rfl) (Nat.le_of_ble_eq_true rfl) ?_
  refine j_iconst (v := nI 0) dX0_init_38 rfl ?_
  refine j_istore_n (i := 2) (lv' := [some (.ref 47), some (.ref 5), some (.int (nI 0))]) dX0_init_39 rfl (by decide) rfl ?_
  exact l_X0_init (K := 47) (k1 := 48) (k2 := 49) (k3 := 50) (by decide) (by decide) (by decide) (by decide) (by decide) (by decide) (by decide) 49 0 _ (fun _ => 0) (fun _ => 0) rfl rfl h5 h7 rfl rfl ⟨rfl, rfl⟩
set_option maxRecDepth 100000 in
theorem k_X0_init_51 {f7 : Nat → Int32} (hs : c 51 = .inr (0, [.null, .null, .null, .null, .int 0])) (h5 : c 5 = .inr (1, [.ref 6, .ref 7, .ref 8])) (h7 : c 7 = .inl (0, 49, .inl f7)) : jMet (d + 3) yX0_init cX0_init 3 none 3 147 [.ref 51, .ref 5] (52, c) (fun r w => r = none ∧ w = (55, va_up (va_up (va_up (va_up (va_up (va_up (va_up (va_up (va_up (va_up (c) 52 (.inl (0, 49, .inl fun _ => 0))) 51 (.inr (0, [.null, .ref 52, .null, .null, .int 0]))) 53 (.inl (0, 49, .inl fun _ => 0))) 51 (.inr (0, [.null, .ref 52, .ref 53, .null, .int 0]))) 54 (.inl (0, 49, .inl fun _ => 0))) 51 (.inr (0, [.null, .ref 52, .ref 53, .ref 54, .int 0]))) 51 (.inr (0, [.null, .ref 52, .ref 53, .ref 54, .int (nI 0)]))) 51 (.inr (0, [.ref 5, .ref 52, .ref 53, .ref 54, .int (nI 0)]))) 52 (.inl (0, 49, .inl (fiF (fun _ => -1) (fun _ => 0) 0 49)))) 54 (.inl (0, 49, .inl (fiF f7 (fun _ => 0) 0 49))))) := by
  refine jMet_of (by decide) (Nat.le_of_ble_eq_true rfl) (some none) (Or.inr ⟨rfl, rfl⟩) ?_
  show jWP (some none) RX0 cX0_init 3 none (d + 3) 3 147 0 [some (.ref 51), some (.ref 5), none] [] (52, c) (fun r w => r = none ∧ w = (55, va_up (va_up (va_up (va_up (va_up (va_up (va_up (va_up (va_up (va_up (c) 52 (.inl (0, 49, .inl fun _ => 0))) 51 (.inr (0, [.null, .ref 52, .null, .null, .int 0]))) 53 (.inl (0, 49, .inl fun _ => 0))) 51 (.inr (0, [.null, .ref 52, .ref 53, .null, .int 0]))) 54 (.inl (0, 49, .inl fun _ => 0))) 51 (.inr (0, [.null, .ref 52, .ref 53, .ref 54, .int 0]))) 51 (.inr (0, [.null, .ref 52, .ref 53, .ref 54, .int (nI 0)]))) 51 (.inr (0, [.ref 5, .ref 52, .ref 53, .ref 54, .int (nI 0)]))) 52 (.inl (0, 49, .inl (fiF (fun _ => -1) (fun _ => 0) 0 49)))) 54 (.inl (0, 49, .inl (fiF f7 (fun _ => 0) 0 49)))))
  refine j_aload_n (i := 0) dX0_init_0 rfl rfl ?_
  refine j_objInit dX0_init_1 jlo_X0_3 (Nat.le_of_ble_eq_true rfl) ?_
  refine j_aload_n (i := 0) dX0_init_4 rfl rfl ?_
  refine j_bipush (v := nI 49) dX0_init_5 rfl ?_
  refine j_newarr_i (N := 49) (bc := 2) (bs := 98) dX0_init_7 jw_arr_int (by decide) (nI_clamp (by decide)) (Nat.le_of_ble_eq_true rfl) ?_
  refine j_putfinal rfl dX0_init_9 jfl_X0_9 rfl hs (fun _ => rfl) (fun _ => rfl) (Nat.le_of_ble_eq_true rfl) ?_
  refine j_aload_n (i := 0) dX0_init_12 rfl rfl ?_
  refine j_bipush (v := nI 49) dX0_init_13 rfl ?_
  refine j_newarr_i (N := 49) (bc := 1) (bs := 49) dX0_init_15 jw_arr_int (by decide) (nI_clamp (by decide)) (Nat.le_of_ble_eq_true rfl) ?_
  refine j_putfinal rfl dX0_init_17 jfl_X0_15 rfl rfl (fun _ => rfl) (fun _ => rfl) (Nat.le_of_ble_eq_true rfl) ?_
  refine j_aload_n (i := 0) dX0_init_20 rfl rfl ?_
  refine j_bipush (v := nI 49) dX0_init_21 rfl ?_
  refine j_newarr_i (N := 49) (bc := 0) (bs := 0) dX0_init_23 jw_arr_int (by decide) (nI_clamp (by decide)) (Nat.le_of_ble_eq_true rfl) ?_
  refine j_putfinal rfl dX0_init_25 jfl_X0_18 rfl rfl (fun _ => rfl) (fun _ => rfl) (Nat.le_of_ble_eq_true rfl) ?_
  refine j_aload_n (i := 0) dX0_init_28 rfl rfl ?_
  refine j_iconst (v := nI 0) dX0_init_29 rfl ?_
  refine j_putfield dX0_init_30 jfl_X0_21 rfl (fun _ => rfl) (fun _ => rfl) (Nat.le_of_ble_eq_true rfl) ?_
  refine j_aload_n (i := 0) dX0_init_33 rfl rfl ?_
  refine j_aload_n (i := 1) dX0_init_34 rfl rfl ?_
  refine j_putfinal rfl dX0_init_35 jfl_X0_25 rfl rfl (fun _ => rfl) (fun _ => rfl) (Nat.le_of_ble_eq_true rfl) ?_
  refine j_iconst (v := nI 0) dX0_init_38 rfl ?_
  refine j_istore_n (i := 2) (lv' := [some (.ref 51), some (.ref 5), some (.int (nI 0))]) dX0_init_39 rfl (by decide) rfl ?_
  exact l_X0_init (K := 51) (k1 := 52) (k2 := 53) (k3 := 54) (by decide) (by decide) (by decide) (by decide) (by decide) (by decide) (by decide) 49 0 _ (fun _ => 0) (fun _ => 0) rfl rfl h5 h7 rfl rfl ⟨rfl, rfl⟩
set_option maxRecDepth 100000 in
theorem k_X7_init_10 (hs : c 10 = .inr (7, [.null, .int 0, .null, .null, .null, .int 0, .int 0]))  : jMet (d + 1) yX7_init cX7_init 1 none 4 128 [.ref 10] (11, c) (fun r w => r = none ∧ w = (15, va_up (va_up (va_up (va_up (va_up (va_up (va_up (va_up (va_up (va_up (va_up (va_up (va_up (c) 11 (.inl (0, 8, .inl fun _ => 0))) 10 (.inr (7, [.ref 11, .int 0, .null, .null, .null, .int 0, .int 0]))) 10 (.inr (7, [.ref 11, .int (nI 0), .null, .null, .null, .int 0, .int 0]))) 12 (.inl (0, 40, .inl fun _ => 0))) 10 (.inr (7, [.ref 11, .int (nI 0), .ref 12, .null, .null, .int 0, .int 0]))) 13 (.inl (0, 40, .inl fun _ => 0))) 10 (.inr (7, [.ref 11, .int (nI 0), .ref 12, .ref 13, .null, .int 0, .int 0]))) 14 (.inl (0, 40, .inl fun _ => 0))) 10 (.inr (7, [.ref 11, .int (nI 0), .ref 12, .ref 13, .ref 14, .int 0, .int 0]))) 10 (.inr (7, [.ref 11, .int (nI 0), .ref 12, .ref 13, .ref 14, .int (nI 0), .int 0]))) 10 (.inr (7, [.ref 11, .int (nI 0), .ref 12, .ref 13, .ref 14, .int (nI 0), .int (nI 0)]))) 11 (.inl (0, 8, .inl (upd (fun _ => 0) (nI 6).toNatClampNeg (nI 6))))) 11 (.inl (0, 8, .inl (upd (upd (fun _ => 0) (nI 6).toNatClampNeg (nI 6)) (nI 7).toNatClampNeg (nI 1)))))) := by
  refine jMet_of (by decide) (Nat.le_of_ble_eq_true rfl) (some none) (Or.inr ⟨rfl, rfl⟩) ?_
  show jWP (some none) RX7 cX7_init 1 none (d + 1) 4 128 0 [some (.ref 10)] [] (11, c) (fun r w => r = none ∧ w = (15, va_up (va_up (va_up (va_up (va_up (va_up (va_up (va_up (va_up (va_up (va_up (va_up (va_up (c) 11 (.inl (0, 8, .inl fun _ => 0))) 10 (.inr (7, [.ref 11, .int 0, .null, .null, .null, .int 0, .int 0]))) 10 (.inr (7, [.ref 11, .int (nI 0), .null, .null, .null, .int 0, .int 0]))) 12 (.inl (0, 40, .inl fun _ => 0))) 10 (.inr (7, [.ref 11, .int (nI 0), .ref 12, .null, .null, .int 0, .int 0]))) 13 (.inl (0, 40, .inl fun _ => 0))) 10 (.inr (7, [.ref 11, .int (nI 0), .ref 12, .ref 13, .null, .int 0, .int 0]))) 14 (.inl (0, 40, .inl fun _ => 0))) 10 (.inr (7, [.ref 11, .int (nI 0), .ref 12, .ref 13, .ref 14, .int 0, .int 0]))) 10 (.inr (7, [.ref 11, .int (nI 0), .ref 12, .ref 13, .ref 14, .int (nI 0), .int 0]))) 10 (.inr (7, [.ref 11, .int (nI 0), .ref 12, .ref 13, .ref 14, .int (nI 0), .int (nI 0)]))) 11 (.inl (0, 8, .inl (upd (fun _ => 0) (nI 6).toNatClampNeg (nI 6))))) 11 (.inl (0, 8, .inl (upd (upd (fun _ => 0) (nI 6).toNatClampNeg (nI 6)) (nI 7).toNatClampNeg (nI 1))))))
  refine j_aload_n (i := 0) dX7_init_0 rfl rfl ?_
  refine j_objInit dX7_init_1 jlo_X7_3 (Nat.le_of_ble_eq_true rfl) ?_
  refine j_aload_n (i := 0) dX7_init_4 rfl rfl ?_
  refine j_bipush (v := nI 8) dX7_init_5 rfl ?_
  refine j_newarr_i (N := 8) (bc := 3) (bs := 120) dX7_init_7 jw_arr_int (by decide) (nI_clamp (by decide)) (Nat.le_of_ble_eq_true rfl) ?_
  refine j_putfinal rfl dX7_init_9 jfl_X7_11 rfl hs (fun _ => rfl) (fun _ => rfl) (Nat.le_of_ble_eq_true rfl) ?_
  refine j_aload_n (i := 0) dX7_init_12 rfl rfl ?_
  refine j_iconst (v := nI 0) dX7_init_13 rfl ?_
  refine j_putfield dX7_init_14 jfl_X7_15 rfl (fun _ => rfl) (fun _ => rfl) (Nat.le_of_ble_eq_true rfl) ?_
  refine j_aload_n (i := 0) dX7_init_17 rfl rfl ?_
  refine j_bipush (v := nI 40) dX7_init_18 rfl ?_
  refine j_newarr_i (N := 40) (bc := 2) (bs := 80) dX7_init_20 jw_arr_int (by decide) (nI_clamp (by decide)) (Nat.le_of_ble_eq_true rfl) ?_
  refine j_putfinal rfl dX7_init_22 jfl_X7_19 rfl rfl (fun _ => rfl) (fun _ => rfl) (Nat.le_of_ble_eq_true rfl) ?_
  refine j_aload_n (i := 0) dX7_init_25 rfl rfl ?_
  refine j_bipush (v := nI 40) dX7_init_26 rfl ?_
  refine j_newarr_i (N := 40) (bc := 1) (bs := 40) dX7_init_28 jw_arr_int (by decide) (nI_clamp (by decide)) (Nat.le_of_ble_eq_true rfl) ?_
  refine j_putfinal rfl dX7_init_30 jfl_X7_22 rfl rfl (fun _ => rfl) (fun _ => rfl) (Nat.le_of_ble_eq_true rfl) ?_
  refine j_aload_n (i := 0) dX7_init_33 rfl rfl ?_
  refine j_bipush (v := nI 40) dX7_init_34 rfl ?_
  refine j_newarr_i (N := 40) (bc := 0) (bs := 0) dX7_init_36 jw_arr_int (by decide) (nI_clamp (by decide)) (Nat.le_of_ble_eq_true rfl) ?_
  refine j_putfinal rfl dX7_init_38 jfl_X7_25 rfl rfl (fun _ => rfl) (fun _ => rfl) (Nat.le_of_ble_eq_true rfl) ?_
  refine j_aload_n (i := 0) dX7_init_41 rfl rfl ?_
  refine j_iconst (v := nI 0) dX7_init_42 rfl ?_
  refine j_putfield dX7_init_43 jfl_X7_28 rfl (fun _ => rfl) (fun _ => rfl) (Nat.le_of_ble_eq_true rfl) ?_
  refine j_aload_n (i := 0) dX7_init_46 rfl rfl ?_
  refine j_iconst (v := nI 0) dX7_init_47 rfl ?_
  refine j_putfield dX7_init_48 jfl_X7_31 rfl (fun _ => rfl) (fun _ => rfl) (Nat.le_of_ble_eq_true rfl) ?_
  refine j_aload_n (i := 0) dX7_init_51 rfl rfl ?_
  refine j_getfield dX7_init_52 jfl_X7_11 rfl rfl ?_
  refine j_iconst (v := nI 0) dX7_init_55 rfl ?_
  refine j_iconst (v := nI 1) dX7_init_56 rfl ?_
  refine j_callSi (E := nI 6) [.int (nI 0), .int (nI 1)] [.ref 11] dX7_init_57 jlk_X7_34 rfl rfl (Nat.le_of_ble_eq_true rfl) (c_X7_placeOf (j := 0) (t := 1) (by decide)) ?_
  refine j_bipush (v := nI 6) dX7_init_60 rfl ?_
  refine j_iastore (f := fun _ => 0) dX7_init_62 rfl (vp_in_nI (by decide) (by decide)) ?_
  refine j_aload_n (i := 0) dX7_init_63 rfl rfl ?_
  refine j_getfield dX7_init_64 jfl_X7_11 rfl rfl ?_
  refine j_iconst (v := nI 0) dX7_init_67 rfl ?_
  refine j_iconst (v := nI 2) dX7_init_68 rfl ?_
  refine j_callSi (E := nI 7) [.int (nI 0), .int (nI 2)] [.ref 11] dX7_init_69 jlk_X7_34 rfl rfl (Nat.le_of_ble_eq_true rfl) (c_X7_placeOf (j := 0) (t := 2) (by decide)) ?_
  refine j_iconst (v := nI 1) dX7_init_72 rfl ?_
  refine j_iastore (f := upd (fun _ => 0) (nI 6).toNatClampNeg (nI 6)) dX7_init_73 rfl (vp_in_nI (by decide) (by decide)) ?_
  exact j_return dX7_init_74 rfl ⟨rfl, rfl⟩
set_option maxRecDepth 100000 in
theorem k_X6_init_15 (hs : c 15 = .inr (6, [.null, .null, .null, .null, .null]))  : jMet (d + 2) yX6_init cX6_init 3 none 19 1367 [.ref 15, .ref 5, .ref 10] (16, c) (fun r w => r = none ∧ w = (35, va_up (va_up (va_up (va_up (va_up (va_up (va_up (va_up (va_up (va_up (va_up (va_up (va_up (va_up (va_up (va_up (va_up (va_up (va_up (va_up (va_up (va_up (va_up (va_up (va_up (va_up (va_up (va_up (va_up (va_up (va_up (va_up (va_up (va_up (va_up (va_up (va_up (va_up (va_up (va_up (va_up (va_up (va_up (va_up (va_up (va_up (va_up (va_up (va_up (va_up (va_up (va_up (va_up (c) 16 (.inr (4, [.null, .int 0, .null, .int 0, .int 0, .int 0, .int 0]))) 17 (.inl (0, 120, .inl fun _ => 0))) 16 (.inr (4, [.ref 17, .int 0, .null, .int 0, .int 0, .int 0, .int 0]))) 16 (.inr (4, [.ref 17, .int (nI 0), .null, .int 0, .int 0, .int 0, .int 0]))) 18 (.inl (0, 120, .inl fun _ => 0))) 16 (.inr (4, [.ref 17, .int (nI 0), .ref 18, .int 0, .int 0, .int 0, .int 0]))) 16 (.inr (4, [.ref 17, .int (nI 0), .ref 18, .int (nI 0), .int 0, .int 0, .int 0]))) 16 (.inr (4, [.ref 17, .int (nI 0), .ref 18, .int (nI 0), .int (nI 0), .int 0, .int 0]))) 16 (.inr (4, [.ref 17, .int (nI 0), .ref 18, .int (nI 0), .int (nI 0), .int (nI 1), .int 0]))) 16 (.inr (4, [.ref 17, .int (nI 0), .ref 18, .int (nI 0), .int (nI 0), .int (nI 1), .int (nI 0)]))) 15 (.inr (6, [.null, .null, .ref 16, .null, .null]))) 19 (.inr (3, [.null, .null, .int 0, .null, .null, .null, .int 0, .int 0, .int 0, .null, .null]))) 20 (.inl (0, 120, .inl fun _ => 0))) 19 (.inr (3, [.ref 20, .null, .int 0, .null, .null, .null, .int 0, .int 0, .int 0, .null, .null]))) 21 (.inl (0, 120, .inl fun _ => 0))) 19 (.inr (3, [.ref 20, .ref 21, .int 0, .null, .null, .null, .int 0, .int 0, .int 0, .null, .null]))) 19 (.inr (3, [.ref 20, .ref 21, .int (nI 0), .null, .null, .null, .int 0, .int 0, .int 0, .null, .null]))) 22 (.inl (0, 61, .inl fun _ => 0))) 19 (.inr (3, [.ref 20, .ref 21, .int (nI 0), .ref 22, .null, .null, .int 0, .int 0, .int 0, .null, .null]))) 23 (.inl (0, 61, .inl fun _ => 0))) 19 (.inr (3, [.ref 20, .ref 21, .int (nI 0), .ref 22, .ref 23, .null, .int 0, .int 0, .int 0, .null, .null]))) 24 (.inl (0, 61, .inl fun _ => 0))) 19 (.inr (3, [.ref 20, .ref 21, .int (nI 0), .ref 22, .ref 23, .ref 24, .int 0, .int 0, .int 0, .null, .null]))) 19 (.inr (3, [.ref 20, .ref 21, .int (nI 0), .ref 22, .ref 23, .ref 24, .int (nI 0), .int 0, .int 0, .null, .null]))) 19 (.inr (3, [.ref 20, .ref 21, .int (nI 0), .ref 22, .ref 23, .ref 24, .int (nI 0), .int (nI 0), .int 0, .null, .null]))) 19 (.inr (3, [.ref 20, .ref 21, .int (nI 0), .ref 22, .ref 23, .ref 24, .int (nI 0), .int (nI 0), .int (nI 0), .null, .null]))) 25 (.inl (0, 6, .inl fun _ => 0))) 19 (.inr (3, [.ref 20, .ref 21, .int (nI 0), .ref 22, .ref 23, .ref 24, .int (nI 0), .int (nI 0), .int (nI 0), .ref 25, .null]))) 26 (.inl (0, 120, .inl fun _ => 0))) 19 (.inr (3, [.ref 20, .ref 21, .int (nI 0), .ref 22, .ref 23, .ref 24, .int (nI 0), .int (nI 0), .int (nI 0), .ref 25, .ref 26]))) 15 (.inr (6, [.null, .null, .ref 16, .ref 19, .null]))) 27 (.inr (3, [.null, .null, .int 0, .null, .null, .null, .int 0, .int 0, .int 0, .null, .null]))) 28 (.inl (0, 120, .inl fun _ => 0))) 27 (.inr (3, [.ref 28, .null, .int 0, .null, .null, .null, .int 0, .int 0, .int 0, .null, .null]))) 29 (.inl (0, 120, .inl fun _ => 0))) 27 (.inr (3, [.ref 28, .ref 29, .int 0, .null, .null, .null, .int 0, .int 0, .int 0, .null, .null]))) 27 (.inr (3, [.ref 28, .ref 29, .int (nI 0), .null, .null, .null, .int 0, .int 0, .int 0, .null, .null]))) 30 (.inl (0, 61, .inl fun _ => 0))) 27 (.inr (3, [.ref 28, .ref 29, .int (nI 0), .ref 30, .null, .null, .int 0, .int 0, .int 0, .null, .null]))) 31 (.inl (0, 61, .inl fun _ => 0))) 27 (.inr (3, [.ref 28, .ref 29, .int (nI 0), .ref 30, .ref 31, .null, .int 0, .int 0, .int 0, .null, .null]))) 32 (.inl (0, 61, .inl fun _ => 0))) 27 (.inr (3, [.ref 28, .ref 29, .int (nI 0), .ref 30, .ref 31, .ref 32, .int 0, .int 0, .int 0, .null, .null]))) 27 (.inr (3, [.ref 28, .ref 29, .int (nI 0), .ref 30, .ref 31, .ref 32, .int (nI 0), .int 0, .int 0, .null, .null]))) 27 (.inr (3, [.ref 28, .ref 29, .int (nI 0), .ref 30, .ref 31, .ref 32, .int (nI 0), .int (nI 0), .int 0, .null, .null]))) 27 (.inr (3, [.ref 28, .ref 29, .int (nI 0), .ref 30, .ref 31, .ref 32, .int (nI 0), .int (nI 0), .int (nI 0), .null, .null]))) 33 (.inl (0, 6, .inl fun _ => 0))) 27 (.inr (3, [.ref 28, .ref 29, .int (nI 0), .ref 30, .ref 31, .ref 32, .int (nI 0), .int (nI 0), .int (nI 0), .ref 33, .null]))) 34 (.inl (0, 120, .inl fun _ => 0))) 27 (.inr (3, [.ref 28, .ref 29, .int (nI 0), .ref 30, .ref 31, .ref 32, .int (nI 0), .int (nI 0), .int (nI 0), .ref 33, .ref 34]))) 15 (.inr (6, [.null, .null, .ref 16, .ref 19, .ref 27]))) 15 (.inr (6, [.ref 5, .null, .ref 16, .ref 19, .ref 27]))) 15 (.inr (6, [.ref 5, .ref 10, .ref 16, .ref 19, .ref 27])))) := by
  refine jMet_of (by decide) (Nat.le_of_ble_eq_true rfl) (some none) (Or.inr ⟨rfl, rfl⟩) ?_
  show jWP (some none) RX6 cX6_init 3 none (d + 2) 19 1367 0 [some (.ref 15), some (.ref 5), some (.ref 10)] [] (16, c) (fun r w => r = none ∧ w = (35, va_up (va_up (va_up (va_up (va_up (va_up (va_up (va_up (va_up (va_up (va_up (va_up (va_up (va_up (va_up (va_up (va_up (va_up (va_up (va_up (va_up (va_up (va_up (va_up (va_up (va_up (va_up (va_up (va_up (va_up (va_up (va_up (va_up (va_up (va_up (va_up (va_up (va_up (va_up (va_up (va_up (va_up (va_up (va_up (va_up (va_up (va_up (va_up (va_up (va_up (va_up (va_up (va_up (c) 16 (.inr (4, [.null, .int 0, .null, .int 0, .int 0, .int 0, .int 0]))) 17 (.inl (0, 120, .inl fun _ => 0))) 16 (.inr (4, [.ref 17, .int 0, .null, .int 0, .int 0, .int 0, .int 0]))) 16 (.inr (4, [.ref 17, .int (nI 0), .null, .int 0, .int 0, .int 0, .int 0]))) 18 (.inl (0, 120, .inl fun _ => 0))) 16 (.inr (4, [.ref 17, .int (nI 0), .ref 18, .int 0, .int 0, .int 0, .int 0]))) 16 (.inr (4, [.ref 17, .int (nI 0), .ref 18, .int (nI 0), .int 0, .int 0, .int 0]))) 16 (.inr (4, [.ref 17, .int (nI 0), .ref 18, .int (nI 0), .int (nI 0), .int 0, .int 0]))) 16 (.inr (4, [.ref 17, .int (nI 0), .ref 18, .int (nI 0), .int (nI 0), .int (nI 1), .int 0]))) 16 (.inr (4, [.ref 17, .int (nI 0), .ref 18, .int (nI 0), .int (nI 0), .int (nI 1), .int (nI 0)]))) 15 (.inr (6, [.null, .null, .ref 16, .null, .null]))) 19 (.inr (3, [.null, .null, .int 0, .null, .null, .null, .int 0, .int 0, .int 0, .null, .null]))) 20 (.inl (0, 120, .inl fun _ => 0))) 19 (.inr (3, [.ref 20, .null, .int 0, .null, .null, .null, .int 0, .int 0, .int 0, .null, .null]))) 21 (.inl (0, 120, .inl fun _ => 0))) 19 (.inr (3, [.ref 20, .ref 21, .int 0, .null, .null, .null, .int 0, .int 0, .int 0, .null, .null]))) 19 (.inr (3, [.ref 20, .ref 21, .int (nI 0), .null, .null, .null, .int 0, .int 0, .int 0, .null, .null]))) 22 (.inl (0, 61, .inl fun _ => 0))) 19 (.inr (3, [.ref 20, .ref 21, .int (nI 0), .ref 22, .null, .null, .int 0, .int 0, .int 0, .null, .null]))) 23 (.inl (0, 61, .inl fun _ => 0))) 19 (.inr (3, [.ref 20, .ref 21, .int (nI 0), .ref 22, .ref 23, .null, .int 0, .int 0, .int 0, .null, .null]))) 24 (.inl (0, 61, .inl fun _ => 0))) 19 (.inr (3, [.ref 20, .ref 21, .int (nI 0), .ref 22, .ref 23, .ref 24, .int 0, .int 0, .int 0, .null, .null]))) 19 (.inr (3, [.ref 20, .ref 21, .int (nI 0), .ref 22, .ref 23, .ref 24, .int (nI 0), .int 0, .int 0, .null, .null]))) 19 (.inr (3, [.ref 20, .ref 21, .int (nI 0), .ref 22, .ref 23, .ref 24, .int (nI 0), .int (nI 0), .int 0, .null, .null]))) 19 (.inr (3, [.ref 20, .ref 21, .int (nI 0), .ref 22, .ref 23, .ref 24, .int (nI 0), .int (nI 0), .int (nI 0), .null, .null]))) 25 (.inl (0, 6, .inl fun _ => 0))) 19 (.inr (3, [.ref 20, .ref 21, .int (nI 0), .ref 22, .ref 23, .ref 24, .int (nI 0), .int (nI 0), .int (nI 0), .ref 25, .null]))) 26 (.inl (0, 120, .inl fun _ => 0))) 19 (.inr (3, [.ref 20, .ref 21, .int (nI 0), .ref 22, .ref 23, .ref 24, .int (nI 0), .int (nI 0), .int (nI 0), .ref 25, .ref 26]))) 15 (.inr (6, [.null, .null, .ref 16, .ref 19, .null]))) 27 (.inr (3, [.null, .null, .int 0, .null, .null, .null, .int 0, .int 0, .int 0, .null, .null]))) 28 (.inl (0, 120, .inl fun _ => 0))) 27 (.inr (3, [.ref 28, .null, .int 0, .null, .null, .null, .int 0, .int 0, .int 0, .null, .null]))) 29 (.inl (0, 120, .inl fun _ => 0))) 27 (.inr (3, [.ref 28, .ref 29, .int 0, .null, .null, .null, .int 0, .int 0, .int 0, .null, .null]))) 27 (.inr (3, [.ref 28, .ref 29, .int (nI 0), .null, .null, .null, .int 0, .int 0, .int 0, .null, .null]))) 30 (.inl (0, 61, .inl fun _ => 0))) 27 (.inr (3, [.ref 28, .ref 29, .int (nI 0), .ref 30, .null, .null, .int 0, .int 0, .int 0, .null, .null]))) 31 (.inl (0, 61, .inl fun _ => 0))) 27 (.inr (3, [.ref 28, .ref 29, .int (nI 0), .ref 30, .ref 31, .null, .int 0, .int 0, .int 0, .null, .null]))) 32 (.inl (0, 61, .inl fun _ => 0))) 27 (.inr (3, [.ref 28, .ref 29, .int (nI 0), .ref 30, .ref 31, .ref 32, .int 0, .int 0, .int 0, .null, .null]))) 27 (.inr (3, [.ref 28, .ref 29, .int (nI 0), .ref 30, .ref 31, .ref 32, .int (nI 0), .int 0, .int 0, .null, .null]))) 27 (.inr (3, [.ref 28, .ref 29, .int (nI 0), .ref 30, .ref 31, .ref 32, .int (nI 0), .int (nI 0), .int 0, .null, .null]))) 27 (.inr (3, [.ref 28, .ref 29, .int (nI 0), .ref 30, .ref 31, .ref 32, .int (nI 0), .int (nI 0), .int (nI 0), .null, .null]))) 33 (.inl (0, 6, .inl fun _ => 0))) 27 (.inr (3, [.ref 28, .ref 29, .int (nI 0), .ref 30, .ref 31, .ref 32, .int (nI 0), .int (nI 0), .int (nI 0), .ref 33, .null]))) 34 (.inl (0, 120, .inl fun _ => 0))) 27 (.inr (3, [.ref 28, .ref 29, .int (nI 0), .ref 30, .ref 31, .ref 32, .int (nI 0), .int (nI 0), .int (nI 0), .ref 33, .ref 34]))) 15 (.inr (6, [.null, .null, .ref 16, .ref 19, .ref 27]))) 15 (.inr (6, [.ref 5, .null, .ref 16, .ref 19, .ref 27]))) 15 (.inr (6, [.ref 5, .ref 10, .ref 16, .ref 19, .ref 27]))))
  refine j_aload_n (i := 0) dX6_init_0 rfl rfl ?_
  refine j_objInit dX6_init_1 jlo_X6_3 (Nat.le_of_ble_eq_true rfl) ?_
  refine j_aload_n (i := 0) dX6_init_4 rfl rfl ?_
  refine j_new (N := 7) (bc := 18) (bs := 1360) (fs := [.null, .int 0, .null, .int 0, .int 0, .int 0, .int 0]) dX6_init_5 jcls_4 jw_cl_X6_9 jw_inst_4 jw_init_4 (by decide) rfl ?_
  refine j_dup dX6_init_8 rfl ?_
  refine j_invIN (mc := 2) (ms := 240) (bc := 16) (bs := 1120) (As := []) (rest := [.ref 16, .ref 15]) dX6_init_9 jlk_X6_11 rfl rfl (Nat.le_of_ble_eq_true rfl) (k_X4_init_16 (d := d) rfl) (fun r w hw => ?_)
  obtain ⟨rfl, rfl⟩ := hw
  refine j_putfinal rfl dX6_init_12 jfl_X6_12 rfl hs (fun _ => rfl) (fun _ => rfl) (Nat.le_of_ble_eq_true rfl) ?_
  refine j_aload_n (i := 0) dX6_init_15 rfl rfl ?_
  refine j_new (N := 11) (bc := 15) (bs := 1109) (fs := [.null, .null, .int 0, .null, .null, .null, .int 0, .int 0, .int 0, .null, .null]) dX6_init_16 jcls_3 jw_cl_X6_18 jw_inst_3 jw_init_3 (by decide) rfl ?_
  refine j_dup dX6_init_19 rfl ?_
  refine j_invIN (mc := 7) (ms := 549) (bc := 8) (bs := 560) (As := []) (rest := [.ref 19, .ref 15]) dX6_init_20 jlk_X6_20 rfl rfl (Nat.le_of_ble_eq_true rfl) (k_X3_init_19 (d := d) rfl) (fun r w hw => ?_)
  obtain ⟨rfl, rfl⟩ := hw
  refine j_putfield dX6_init_23 jfl_X6_21 rfl (fun _ => rfl) (fun _ => rfl) (Nat.le_of_ble_eq_true rfl) ?_
  refine j_aload_n (i := 0) dX6_init_26 rfl rfl ?_
  refine j_new (N := 11) (bc := 7) (bs := 549) (fs := [.null, .null, .int 0, .null, .null, .null, .int 0, .int 0, .int 0, .null, .null]) dX6_init_27 jcls_3 jw_cl_X6_18 jw_inst_3 jw_init_3 (by decide) rfl ?_
  refine j_dup dX6_init_30 rfl ?_
  refine j_invIN (mc := 7) (ms := 549) (bc := 0) (bs := 0) (As := []) (rest := [.ref 27, .ref 15]) dX6_init_31 jlk_X6_20 rfl rfl (Nat.le_of_ble_eq_true rfl) (k_X3_init_27 (d := d) rfl) (fun r w hw => ?_)
  obtain ⟨rfl, rfl⟩ := hw
  refine j_putfield dX6_init_34 jfl_X6_25 rfl (fun _ => rfl) (fun _ => rfl) (Nat.le_of_ble_eq_true rfl) ?_
  refine j_aload_n (i := 0) dX6_init_37 rfl rfl ?_
  refine j_aload_n (i := 1) dX6_init_38 rfl rfl ?_
  refine j_putfinal rfl dX6_init_39 jfl_X6_28 rfl rfl (fun _ => rfl) (fun _ => rfl) (Nat.le_of_ble_eq_true rfl) ?_
  refine j_aload_n (i := 0) dX6_init_42 rfl rfl ?_
  refine j_aload_n (i := 2) dX6_init_43 rfl rfl ?_
  refine j_putfinal rfl dX6_init_44 jfl_X6_32 rfl rfl (fun _ => rfl) (fun _ => rfl) (Nat.le_of_ble_eq_true rfl) ?_
  exact j_return dX6_init_47 rfl ⟨rfl, rfl⟩
set_option maxRecDepth 100000 in
theorem k_X9_init_35 {f7 : Nat → Int32} (hs : c 35 = .inr (9, [.null, .null, .null, .int 0, .null, .null, .int 0, .int 0])) (h5 : c 5 = .inr (1, [.ref 6, .ref 7, .ref 8])) (h7 : c 7 = .inl (0, 49, .inl f7)) : jMet (d + 4) yX9_init cX9_init 3 none 7 192 [.ref 35, .ref 5, .ref 15] (36, c) (fun r w => r = none ∧ w = (43, va_up (va_up (va_up (va_up (va_up (va_up (va_up (va_up (va_up (va_up (va_up (va_up (va_up (va_up (va_up (va_up (va_up (va_up (va_up (va_up (va_up (va_up (c) 36 (.inl (0, 30, .inl fun _ => 0))) 35 (.inr (9, [.null, .null, .ref 36, .int 0, .null, .null, .int 0, .int 0]))) 35 (.inr (9, [.null, .null, .ref 36, .int (nI 0), .null, .null, .int 0, .int 0]))) 37 (.inl (0, 5, .inl fun _ => 0))) 35 (.inr (9, [.null, .null, .ref 36, .int (nI 0), .ref 37, .null, .int 0, .int 0]))) 38 (.inl (0, 5, .inl fun _ => 0))) 35 (.inr (9, [.null, .null, .ref 36, .int (nI 0), .ref 37, .ref 38, .int 0, .int 0]))) 35 (.inr (9, [.null, .null, .ref 36, .int (nI 0), .ref 37, .ref 38, .int (nI 0), .int 0]))) 35 (.inr (9, [.null, .null, .ref 36, .int (nI 0), .ref 37, .ref 38, .int (nI 0), .int (nI 0)]))) 35 (.inr (9, [.ref 15, .null, .ref 36, .int (nI 0), .ref 37, .ref 38, .int (nI 0), .int (nI 0)]))) 39 (.inr (0, [.null, .null, .null, .null, .int 0]))) 40 (.inl (0, 49, .inl fun _ => 0))) 39 (.inr (0, [.null, .ref 40, .null, .null, .int 0]))) 41 (.inl (0, 49, .inl fun _ => 0))) 39 (.inr (0, [.null, .ref 40, .ref 41, .null, .int 0]))) 42 (.inl (0, 49, .inl fun _ => 0))) 39 (.inr (0, [.null, .ref 40, .ref 41, .ref 42, .int 0]))) 39 (.inr (0, [.null, .ref 40, .ref 41, .ref 42, .int (nI 0)]))) 39 (.inr (0, [.ref 5, .ref 40, .ref 41, .ref 42, .int (nI 0)]))) 40 (.inl (0, 49, .inl (fiF (fun _ => -1) (fun _ => 0) 0 49)))) 42 (.inl (0, 49, .inl (fiF f7 (fun _ => 0) 0 49)))) 35 (.inr (9, [.ref 15, .ref 39, .ref 36, .int (nI 0), .ref 37, .ref 38, .int (nI 0), .int (nI 0)])))) := by
  refine jMet_of (by decide) (Nat.le_of_ble_eq_true rfl) (some none) (Or.inr ⟨rfl, rfl⟩) ?_
  show jWP (some none) RX9 cX9_init 3 none (d + 4) 7 192 0 [some (.ref 35), some (.ref 5), some (.ref 15)] [] (36, c) (fun r w => r = none ∧ w = (43, va_up (va_up (va_up (va_up (va_up (va_up (va_up (va_up (va_up (va_up (va_up (va_up (va_up (va_up (va_up (va_up (va_up (va_up (va_up (va_up (va_up (va_up (c) 36 (.inl (0, 30, .inl fun _ => 0))) 35 (.inr (9, [.null, .null, .ref 36, .int 0, .null, .null, .int 0, .int 0]))) 35 (.inr (9, [.null, .null, .ref 36, .int (nI 0), .null, .null, .int 0, .int 0]))) 37 (.inl (0, 5, .inl fun _ => 0))) 35 (.inr (9, [.null, .null, .ref 36, .int (nI 0), .ref 37, .null, .int 0, .int 0]))) 38 (.inl (0, 5, .inl fun _ => 0))) 35 (.inr (9, [.null, .null, .ref 36, .int (nI 0), .ref 37, .ref 38, .int 0, .int 0]))) 35 (.inr (9, [.null, .null, .ref 36, .int (nI 0), .ref 37, .ref 38, .int (nI 0), .int 0]))) 35 (.inr (9, [.null, .null, .ref 36, .int (nI 0), .ref 37, .ref 38, .int (nI 0), .int (nI 0)]))) 35 (.inr (9, [.ref 15, .null, .ref 36, .int (nI 0), .ref 37, .ref 38, .int (nI 0), .int (nI 0)]))) 39 (.inr (0, [.null, .null, .null, .null, .int 0]))) 40 (.inl (0, 49, .inl fun _ => 0))) 39 (.inr (0, [.null, .ref 40, .null, .null, .int 0]))) 41 (.inl (0, 49, .inl fun _ => 0))) 39 (.inr (0, [.null, .ref 40, .ref 41, .null, .int 0]))) 42 (.inl (0, 49, .inl fun _ => 0))) 39 (.inr (0, [.null, .ref 40, .ref 41, .ref 42, .int 0]))) 39 (.inr (0, [.null, .ref 40, .ref 41, .ref 42, .int (nI 0)]))) 39 (.inr (0, [.ref 5, .ref 40, .ref 41, .ref 42, .int (nI 0)]))) 40 (.inl (0, 49, .inl (fiF (fun _ => -1) (fun _ => 0) 0 49)))) 42 (.inl (0, 49, .inl (fiF f7 (fun _ => 0) 0 49)))) 35 (.inr (9, [.ref 15, .ref 39, .ref 36, .int (nI 0), .ref 37, .ref 38, .int (nI 0), .int (nI 0)]))))
  refine j_aload_n (i := 0) dX9_init_0 rfl rfl ?_
  refine j_objInit dX9_init_1 jlo_X9_5 (Nat.le_of_ble_eq_true rfl) ?_
  refine j_aload_n (i := 0) dX9_init_4 rfl rfl ?_
  refine j_bipush (v := nI 30) dX9_init_5 rfl ?_
  refine j_newarr_i (N := 30) (bc := 6) (bs := 162) dX9_init_7 jw_arr_int (by decide) (nI_clamp (by decide)) (Nat.le_of_ble_eq_true rfl) ?_
  refine j_putfinal rfl dX9_init_9 jfl_X9_13 rfl hs (fun _ => rfl) (fun _ => rfl) (Nat.le_of_ble_eq_true rfl) ?_
  refine j_aload_n (i := 0) dX9_init_12 rfl rfl ?_
  refine j_iconst (v := nI 0) dX9_init_13 rfl ?_
  refine j_putfield dX9_init_14 jfl_X9_17 rfl (fun _ => rfl) (fun _ => rfl) (Nat.le_of_ble_eq_true rfl) ?_
  refine j_aload_n (i := 0) dX9_init_17 rfl rfl ?_
  refine j_iconst (v := nI 5) dX9_init_18 rfl ?_
  refine j_newarr_i (N := 5) (bc := 5) (bs := 157) dX9_init_19 jw_arr_int (by decide) (nI_clamp (by decide)) (Nat.le_of_ble_eq_true rfl) ?_
  refine j_putfinal rfl dX9_init_21 jfl_X9_21 rfl rfl (fun _ => rfl) (fun _ => rfl) (Nat.le_of_ble_eq_true rfl) ?_
  refine j_aload_n (i := 0) dX9_init_24 rfl rfl ?_
  refine j_iconst (v := nI 5) dX9_init_25 rfl ?_
  refine j_newarr_i (N := 5) (bc := 4) (bs := 152) dX9_init_26 jw_arr_int (by decide) (nI_clamp (by decide)) (Nat.le_of_ble_eq_true rfl) ?_
  refine j_putfinal rfl dX9_init_28 jfl_X9_24 rfl rfl (fun _ => rfl) (fun _ => rfl) (Nat.le_of_ble_eq_true rfl) ?_
  refine j_aload_n (i := 0) dX9_init_31 rfl rfl ?_
  refine j_iconst (v := nI 0) dX9_init_32 rfl ?_
  refine j_putfield dX9_init_33 jfl_X9_27 rfl (fun _ => rfl) (fun _ => rfl) (Nat.le_of_ble_eq_true rfl) ?_
  refine j_aload_n (i := 0) dX9_init_36 rfl rfl ?_
  refine j_iconst (v := nI 0) dX9_init_37 rfl ?_
  refine j_putfield dX9_init_38 jfl_X9_30 rfl (fun _ => rfl) (fun _ => rfl) (Nat.le_of_ble_eq_true rfl) ?_
  refine j_aload_n (i := 0) dX9_init_41 rfl rfl ?_
  refine j_aload_n (i := 2) dX9_init_42 rfl rfl ?_
  refine j_putfinal rfl dX9_init_43 jfl_X9_33 rfl rfl (fun _ => rfl) (fun _ => rfl) (Nat.le_of_ble_eq_true rfl) ?_
  refine j_aload_n (i := 0) dX9_init_46 rfl rfl ?_
  refine j_new (N := 5) (bc := 3) (bs := 147) (fs := [.null, .null, .null, .null, .int 0]) dX9_init_47 jcls_0 jw_cl_X9_37 jw_inst_0 jw_init_0 (by decide) rfl ?_
  refine j_dup dX9_init_50 rfl ?_
  refine j_aload_n (i := 1) dX9_init_51 rfl rfl ?_
  refine j_invI (mc := 3) (ms := 147) (bc := 0) (bs := 0) (As := [.ref 5]) (rest := [.ref 39, .ref 35]) dX9_init_52 jlk_X9_39 rfl rfl (Nat.le_of_ble_eq_true rfl) (k_X0_init_39 (d := d) rfl h5 h7) (fun r w hw => ?_)
  obtain ⟨rfl, rfl⟩ := hw
  refine j_putfinal rfl dX9_init_55 jfl_X9_42 rfl rfl (fun _ => rfl) (fun _ => rfl) (Nat.le_of_ble_eq_true rfl) ?_
  exact j_return dX9_init_58 rfl ⟨rfl, rfl⟩
end CTOR2
