theorem wt_si {s : rT} {c : Nat} (h : s.2 6 < 2) : (siP s c).1.2 6 < 2 := by
  have hr : ∀ wk m (s : rT), s.2 6 < 2 → (rlP wk m s).2 6 < 2 := by
    intro wk m
    induction m with
    | zero => intro s h; exact h
    | succ m ih =>
      intro s h
      unfold rlP
      split
      · exact h
      · split
        · exact h
        · exact ih _ h
  have he : ∀ m (s : rT), s.2 6 < 2 → (eoL m s).2 6 < 2 := by
    intro m
    induction m with
    | zero => intro s h; exact h
    | succ m ih =>
      intro s h
      unfold eoL
      split
      · exact h
      · split
        · exact ih _ h
        · exact h
  unfold siP
  split
  · show (joP s c).1.2 6 < 2
    unfold joP
    by_cases hq : sgN c = 3 ∧ ¬ (rlP (if sgN c = 3 then 4 else sgN c) (s.2 4) s).2 4 = 0 ∧ sgN (topP (rlP (if sgN c = 3 then 4 else sgN c) (s.2 4) s)) = 3
    · rw [if_pos hq]; exact hr _ _ _ h
    · rw [if_neg hq]; exact (by decide : 1 < 2)
  · split
    · exact he _ _ (by decide : 0 < 2)
    · split
      · exact (by decide : 1 < 2)
      · split
        · exact (by decide : 1 < 2)
        · exact h
theorem wt_op {tl : Nat} {tp : Nat → Nat} {a : Nat} {s : rT} (h : s.2 6 < 2) : (opP tl tp a s).1.2 6 < 2 := by
  have he : ∀ m (s : rT), s.2 6 < 2 → (eoL m s).2 6 < 2 := by
    intro m
    induction m with
    | zero => intro s h; exact h
    | succ m ih =>
      intro s h
      unfold eoL
      split
      · exact h
      · split
        · exact ih _ h
        · exact h
  unfold opP
  split
  · exact he _ _ (by decide : 0 < 2)
  · split
    · exact he _ _ (by decide : 0 < 2)
    · split
      · exact h
      · exact h
theorem rd_o {tl : Nat} {tp : Nat → Nat} {m a : Nat} {s : rT} (ha : a < tl) (hw : ¬ s.2 6 = 0) : rdF tl tp (m + 1) a s = if (opP tl tp a s).2 < 1 then (some a, (opP tl tp a s).1) else rdF tl tp m (a + (opP tl tp a s).2) (opP tl tp a s).1 := by
  show (if a < tl then (if (if s.2 6 = 0 then siP s (tp a) else opP tl tp a s).2 < 1 then (some a, (if s.2 6 = 0 then siP s (tp a) else opP tl tp a s).1) else rdF tl tp m (a + (if s.2 6 = 0 then siP s (tp a) else opP tl tp a s).2) (if s.2 6 = 0 then siP s (tp a) else opP tl tp a s).1) else _) = _
  rw [if_pos ha, if_neg hw]
theorem rd_s {tl : Nat} {tp : Nat → Nat} {m a : Nat} {s : rT} (ha : a < tl) (hw : s.2 6 = 0) : rdF tl tp (m + 1) a s = if (siP s (tp a)).2 < 1 then (some a, (siP s (tp a)).1) else rdF tl tp m (a + (siP s (tp a)).2) (siP s (tp a)).1 := by
  show (if a < tl then (if (if s.2 6 = 0 then siP s (tp a) else opP tl tp a s).2 < 1 then (some a, (if s.2 6 = 0 then siP s (tp a) else opP tl tp a s).1) else rdF tl tp m (a + (if s.2 6 = 0 then siP s (tp a) else opP tl tp a s).2) (if s.2 6 = 0 then siP s (tp a) else opP tl tp a s).1) else _) = _
  rw [if_pos ha, if_pos hw]
theorem rd_e {tl : Nat} {tp : Nat → Nat} {m a : Nat} {s : rT} (ha : ¬ a < tl) (h : s.2 6 = 0 ∧ s.2 5 = 0) : rdF tl tp (m + 1) a s = (none, elP (rlP 1 (s.2 4) s)) := (if_neg ha).trans (if_pos h)
theorem rd_f {tl : Nat} {tp : Nat → Nat} {m a : Nat} {s : rT} (ha : ¬ a < tl) (h : ¬ (s.2 6 = 0 ∧ s.2 5 = 0)) : rdF tl tp (m + 1) a s = (some tl, s) := (if_neg ha).trans (if_neg h)
theorem si_1 {s : rT} {c : Nat} : (siP s c).2 ≤ 1 := by
  unfold siP
  split
  · show (if _ then 1 else 0) ≤ 1
    split <;> decide
  · split
    · exact Nat.le_refl 1
    · split
      · exact Nat.le_refl 1
      · split
        · exact Nat.le_refl 1
        · exact Nat.zero_le 1
theorem op_4 {tl : Nat} {tp : Nat → Nat} {a : Nat} {s : rT} : (opP tl tp a s).2 ≤ 4 := by
  have hm : ∀ m j x, (nuL tl tp a m j x).1 ≤ j + m := by
    intro m
    induction m with
    | zero => intro j x; exact Nat.le_refl _
    | succ m ih =>
      intro j x
      unfold nuL
      split
      · split
        · have := ih (j + 1) (x * 10 + tp (a + j) - 48); omega
        · show j ≤ j + (m + 1); omega
      · show j ≤ j + (m + 1); omega
  unfold opP
  split
  · exact hm 4 0 0
  · split
    · show 1 ≤ 4; decide
    · split
      · show 1 ≤ 4; decide
      · show 0 ≤ 4; decide
theorem fScr_s3 {G : Nat} (hB : isB G) : ∀ x, (fScr x).set 3 (.ref G) = fScr (upd x 3 (nI G)) := by
  intro x
  rcases hB with rfl | rfl <;> rfl
theorem fScr_s4 {G : Nat} (hB : isB G) : ∀ x, (fScr x).set 4 (.ref G) = fScr (upd x 4 (nI G)) := by
  intro x
  rcases hB with rfl | rfl <;> rfl
theorem rX_15 {X : Nat → Nat → Int32} {G : Nat} {k : Nat → Nat} (hB : isB G) : rX X G k 15 = X 15 := by
  unfold rX
  rcases hB with rfl | rfl <;> rw [vu_n _ _ _ (by decide), vu_n _ _ _ (by decide)]
section CT36
variable {d : Nat} {X A : Nat → Nat → Int32} {L : Nat → Nat → Int64} {w : jW} {G tl : Nat} {tp : Nat → Nat} {s : rT}

set_option maxHeartbeats 200000 in
set_option maxRecDepth 100000 in
theorem l_readInto (hix : ∀ {d : Nat} {X A : Nat → Nat → Int32} {c : Nat}, c < 256 → jMet (d + 3) yJ0_indexOf_0f7a4 cJ0_indexOf_0f7a4 2 (some .int) 0 0 [.ref 3, .int (nI c)] (tw X A L) (jRi (ixN c) (tw X A L))) (hB : isB G) (htl : X 16 1 = nI tl) (htl2 : tl ≤ 120) (htp : A 17 = nIf tp) (htp2 : ∀ i, tp i < 256) : ∀ (m a : Nat) (s : rT) (r : Option Nat × rT), tl - a < m → a ≤ tl → rok s a → lnk s a → s.2 6 < 2 → rdF tl tp m a s = r → jWP none RX4 cX4_readInto 4 (some .int) (d + 5) 0 0 26 [some (.ref 16), some (.ref G), some (.int (nI a)), none] [] (tw (rX X G s.2) (rA A G s.1) L) (jRi (fltI r.1) (tw (rX X G r.2.2) (rA A G r.2.1) L)) := by
  intro m
  induction m with
  | zero => intro a s r h1 h2; omega
  | succ m ih =>
    intro a s r hm hal hok hln hw2 hr
    have ho6 : s.2 5 < 2 ^ 31 := by
      have h1 := hok.2.2.1
      have h2 := hok.1
      have h3 : ∀ n, oc (s.1 0) n ≤ n := by
        intro n
        induction n with
        | zero => exact Nat.le_refl _
        | succ n ih => unfold oc; split <;> omega
      have := h3 (s.2 4)
      omega
    have hop := op_4 (tl := tl) (tp := tp) (a := a) (s := s)
    have hsi := si_1 (s := s) (c := tp a)
    refine j_iload_n dX4_readInto_26 rfl rfl ?_
    refine j_aload_n dX4_readInto_27 rfl rfl ?_
    refine t_getI dX4_readInto_28 jfl_X4_17 (fun _ _ _ => rfl) (fun _ => rfl) ?_
    refine j_topE (rX_1 hB htl) ?_
    refine jn_icmp_ge (tgt := 71) dX4_readInto_31 (by decide) (by omega) (by omega) (fun h31 => ?_) (fun h31 => ?_)
    · refine j_aload_n dX4_readInto_71 rfl rfl ?_
      refine t_getI dX4_readInto_72 jfl_X4_30 (fun _ _ _ => rfl) (fun _ => rfl) ?_
      refine j_topE (rX_5 hB) ?_
      refine jn_if_ne (tgt := 85) dX4_readInto_75 (by decide) (by omega) (fun h75 => ?_) (fun h75 => ?_)
      · refine j_aload_n dX4_readInto_85 rfl rfl ?_
        refine t_getI dX4_readInto_86 jfl_X4_17 (fun _ _ _ => rfl) (fun _ => rfl) ?_
        refine j_topE (rX_1 hB htl) ?_
        refine j_ireturn dX4_readInto_89 rfl ?_
        rw [← hr, rd_f (by omega) (fun q => by omega)]
        exact ⟨rfl, rfl⟩
      · refine j_aload_n dX4_readInto_78 rfl rfl ?_
        refine t_getI dX4_readInto_79 jfl_X4_27 (fun _ _ _ => rfl) (fun _ => rfl) ?_
        refine j_topE (rX_4 hB) ?_
        refine jn_if_le (tgt := 90) dX4_readInto_82 (by decide) ho6 (fun h82 => ?_) (fun h82 => ?_)
        · refine j_aload_n dX4_readInto_90 rfl rfl ?_
          refine j_iconst (v := nI 1) dX4_readInto_91 rfl ?_
          refine j_aload_n dX4_readInto_92 rfl rfl ?_
          refine j_callVv [.int _, .ref G] [] dX4_readInto_93 jlk_X4_47 rfl rfl rfl rfl (Nat.le_of_ble_eq_true rfl) (c_release (wk := 1) hB (by decide) (by have := hok.1; omega) hok.2.1) ?_
          refine j_aload_n dX4_readInto_96 rfl rfl ?_
          refine j_callVv [] [] dX4_readInto_97 jlk_X4_51 rfl rfl ((shB0 hB) _ _ _) rfl (Nat.le_of_ble_eq_true rfl) (c_endLineP (s := rlP 1 (s.2 4) s) hB (by have h9 := (rl_ok (Nat.le_refl 1) (s.2 4) s hok).2.2.2.1 1 (by decide) (by decide); rw [h9]; have := hln.1; omega)) ?_
          refine j_iconst (v := (-1)) dX4_readInto_100 rfl ?_
          refine j_ireturn dX4_readInto_101 rfl ?_
          rw [← hr, rd_e (by omega) ⟨h75, by omega⟩]
          exact ⟨rfl, rfl⟩
        · refine j_aload_n dX4_readInto_85 rfl rfl ?_
          refine t_getI dX4_readInto_86 jfl_X4_17 (fun _ _ _ => rfl) (fun _ => rfl) ?_
          refine j_topE (rX_1 hB htl) ?_
          refine j_ireturn dX4_readInto_89 rfl ?_
          rw [← hr, rd_f (by omega) (fun q => by omega)]
          exact ⟨rfl, rfl⟩
    · refine j_aload_n dX4_readInto_34 rfl rfl ?_
      refine t_getI dX4_readInto_35 jfl_X4_30 (fun _ _ _ => rfl) (fun _ => rfl) ?_
      refine j_topE (rX_5 hB) ?_
      refine jn_if_eq (tgt := 50) dX4_readInto_38 (by decide) (by omega) (fun h38 => ?_) (fun h38 => ?_)
      · refine j_aload_n dX4_readInto_50 rfl rfl ?_
        refine j_iload_n dX4_readInto_51 rfl rfl ?_
        refine j_aload_n dX4_readInto_52 rfl rfl ?_
        refine j_callVi [.int _, .ref G] [] dX4_readInto_53 jlk_X4_44 rfl rfl rfl rfl (Nat.le_of_ble_eq_true rfl) (c_signAt hB htl htl2 htp htp2 h31 hok hln h38) ?_
        refine j_istore_n (lv' := [some (.ref 16), some (.ref G), some (.int _), some (.int _)]) dX4_readInto_56 rfl (by decide) rfl ?_
        refine j_iload_n dX4_readInto_57 rfl rfl ?_
        refine j_iconst (v := nI 1) dX4_readInto_58 rfl ?_
        refine jn_icmp_ge (tgt := 64) dX4_readInto_59 (by decide) (by omega) (by omega) (fun h59 => ?_) (fun h59 => ?_)
        · refine j_iload_n dX4_readInto_64 rfl rfl ?_
          refine j_iload_n dX4_readInto_65 rfl rfl ?_
          refine jn_iadd dX4_readInto_66 ?_
          refine j_istore_n (lv' := [some (.ref 16), some (.ref G), some (.int _), some (.int _)]) dX4_readInto_67 rfl (by decide) rfl ?_
          refine j_goto (tgt := 26) dX4_readInto_68 (by decide) ?_
          refine j_sub (by exact ⟨rfl, rfl, rfl, trivial⟩) (ih (a + (siP s (tp a)).2) (siP s (tp a)).1 r ?_ ?_ ?_ ?_ ?_ ?_)
          · omega
          · omega
          · have e1 : (siP s (tp a)).2 = 1 := by omega
            rw [e1]; exact (rok_si hok hln h38).1
          · have e1 : (siP s (tp a)).2 = 1 := by omega
            rw [e1]; exact (rok_si hok hln h38).2 (by omega)
          · exact wt_si hw2
          · rw [← hr, rd_s h31 h38, if_neg (by omega)]
        · refine j_iload_n dX4_readInto_62 rfl rfl ?_
          refine j_ireturn dX4_readInto_63 rfl ?_
          rw [← hr, rd_s h31 h38, if_pos h59]
          exact ⟨rfl, rfl⟩
      · refine j_aload_n dX4_readInto_41 rfl rfl ?_
        refine j_iload_n dX4_readInto_42 rfl rfl ?_
        refine j_aload_n dX4_readInto_43 rfl rfl ?_
        refine j_callVi [.int _, .ref G] [] dX4_readInto_44 jlk_X4_40 rfl rfl rfl rfl (Nat.le_of_ble_eq_true rfl) (c_operandAt hix hB htl htl2 htp htp2 h31 hok) ?_
        refine j_goto (tgt := 56) dX4_readInto_47 (by decide) ?_
        refine j_istore_n (lv' := [some (.ref 16), some (.ref G), some (.int _), some (.int _)]) dX4_readInto_56 rfl (by decide) rfl ?_
        refine j_iload_n dX4_readInto_57 rfl rfl ?_
        refine j_iconst (v := nI 1) dX4_readInto_58 rfl ?_
        refine jn_icmp_ge (tgt := 64) dX4_readInto_59 (by decide) (by omega) (by omega) (fun h59 => ?_) (fun h59 => ?_)
        · refine j_iload_n dX4_readInto_64 rfl rfl ?_
          refine j_iload_n dX4_readInto_65 rfl rfl ?_
          refine jn_iadd dX4_readInto_66 ?_
          refine j_istore_n (lv' := [some (.ref 16), some (.ref G), some (.int _), some (.int _)]) dX4_readInto_67 rfl (by decide) rfl ?_
          refine j_goto (tgt := 26) dX4_readInto_68 (by decide) ?_
          refine j_sub (by exact ⟨rfl, rfl, rfl, trivial⟩) (ih (a + (opP tl tp a s).2) (opP tl tp a s).1 r ?_ ?_ ?_ ?_ ?_ ?_)
          · omega
          · exact (rok_opP hok hln h31 (by omega)).2.2
          · exact (rok_opP hok hln h31 (by omega)).1
          · exact (rok_opP hok hln h31 (by omega)).2.1
          · exact wt_op hw2
          · rw [← hr, rd_o h31 (by omega), if_neg (by omega)]
        · refine j_iload_n dX4_readInto_62 rfl rfl ?_
          refine j_ireturn dX4_readInto_63 rfl ?_
          rw [← hr, rd_o h31 (by omega), if_pos h59]
          exact ⟨rfl, rfl⟩

set_option maxHeartbeats 200000 in
set_option maxRecDepth 100000 in
theorem c_readInto (hix : ∀ {d : Nat} {X A : Nat → Nat → Int32} {c : Nat}, c < 256 → jMet (d + 3) yJ0_indexOf_0f7a4 cJ0_indexOf_0f7a4 2 (some .int) 0 0 [.ref 3, .int (nI c)] (tw X A L) (jRi (ixN c) (tw X A L))) (hB : isB G) (htl : X 16 1 = nI tl) (htl2 : tl ≤ 120) (htp : A 17 = nIf tp) (htp2 : ∀ i, tp i < 256) {k : Nat → Nat} {f : Nat → Nat → Nat} (hf : ∀ i, f 0 i < 2 ^ 31) : jMet (d + 5) yX4_readInto cX4_readInto 4 (some .int) 0 0 [.ref 16, .ref G] (tw (rX X G k) (rA A G f) L) (jRi (fltI (rdF tl tp (tl + 1) 0 (f, rs0 k)).1) (tw (rX X G (rdF tl tp (tl + 1) 0 (f, rs0 k)).2.2) (rA A G (rdF tl tp (tl + 1) 0 (f, rs0 k)).2.1) L)) := by
  refine jMet_of (by decide) (Nat.le_of_ble_eq_true rfl) none (Or.inl rfl) ?_
  show jWP none RX4 cX4_readInto 4 (some .int) (d + 5) 0 0 0 [some (.ref 16), some (.ref G), none, none] [] (tw (rX X G k) (rA A G f) L) (jRi (fltI (rdF tl tp (tl + 1) 0 (f, rs0 k)).1) (tw (rX X G (rdF tl tp (tl + 1) 0 (f, rs0 k)).2.2) (rA A G (rdF tl tp (tl + 1) 0 (f, rs0 k)).2.1) L))
  refine j_aload_n dX4_readInto_0 rfl rfl ?_
  refine j_callVv [] [] dX4_readInto_1 jlk_X4_37 rfl rfl ((shB0 hB) _ _ _) rfl (Nat.le_of_ble_eq_true rfl) (c_clearP (s := (f, k)) hB) ?_
  refine j_aload_n dX4_readInto_4 rfl rfl ?_
  refine j_iconst (v := nI 0) dX4_readInto_5 rfl ?_
  refine t_putI dX4_readInto_6 jfl_X4_24 (fun _ _ _ => rfl) (fun _ _ => rfl) (Nat.le_of_ble_eq_true rfl) rfl rfl ?_
  rw [rX_p3 hB]
  refine j_aload_n dX4_readInto_9 rfl rfl ?_
  refine j_iconst (v := nI 0) dX4_readInto_10 rfl ?_
  refine t_putI dX4_readInto_11 jfl_X4_27 (fun _ _ _ => rfl) (fun _ _ => rfl) (Nat.le_of_ble_eq_true rfl) rfl rfl ?_
  rw [rX_p4 hB]
  refine j_aload_n dX4_readInto_14 rfl rfl ?_
  refine j_iconst (v := nI 1) dX4_readInto_15 rfl ?_
  refine t_putI dX4_readInto_16 jfl_X4_30 (fun _ _ _ => rfl) (fun _ _ => rfl) (Nat.le_of_ble_eq_true rfl) rfl rfl ?_
  rw [rX_p5 hB]
  refine j_aload_n dX4_readInto_19 rfl rfl ?_
  refine j_iconst (v := nI 0) dX4_readInto_20 rfl ?_
  refine t_putI dX4_readInto_21 jfl_X4_34 (fun _ _ _ => rfl) (fun _ _ => rfl) (Nat.le_of_ble_eq_true rfl) rfl rfl ?_
  rw [rX_p6 hB]
  refine j_iconst (v := nI 0) dX4_readInto_24 rfl ?_
  refine j_istore_n (lv' := [some (.ref 16), some (.ref G), some (.int _), none]) dX4_readInto_25 rfl (by decide) rfl ?_
  exact l_readInto hix hB htl htl2 htp htp2 (tl + 1) 0 (f, rs0 k) _ (by omega) (by omega) ⟨(show 0 + 0 ≤ 0 from Nat.le_refl _), hf, rfl, fun i hi => absurd hi (Nat.not_lt_zero i)⟩ ⟨(show 2 * 0 ≤ 0 from Nat.le_refl _), fun q => absurd (show (1 : Nat) = 0 from q) (by decide), (show 0 < 2 from by decide)⟩ (show 1 < 2 from by decide) rfl

set_option maxHeartbeats 200000 in
set_option maxRecDepth 100000 in
theorem c_clearTape  : jMet (d) yX4_clearTape cX4_clearTape 1 none 0 0 [.ref 16] (tw X A L) (jRv (tw (va_up X 16 (upd (X 16) 1 (nI 0))) A L)) := by
  refine jMet_of (by decide) (Nat.le_of_ble_eq_true rfl) none (Or.inl rfl) ?_
  show jWP none RX4 cX4_clearTape 1 none (d) 0 0 0 [some (.ref 16)] [] (tw X A L) (jRv (tw (va_up X 16 (upd (X 16) 1 (nI 0))) A L))
  refine j_aload_n dX4_clearTape_0 rfl rfl ?_
  refine j_iconst (v := nI 0) dX4_clearTape_1 rfl ?_
  refine t_putI dX4_clearTape_2 jfl_X4_17 (fun _ _ _ => rfl) (fun _ _ => rfl) (Nat.le_of_ble_eq_true rfl) rfl rfl ?_
  refine j_return dX4_clearTape_5 rfl ?_
  exact ⟨rfl, rfl⟩

def tlX (X : Nat → Nat → Int32) (G : Nat) (k : Nat → Nat) : Nat → Nat → Int32 := va_up (rX X G k) 16 (upd (rX X G k 16) 1 (nI 0))
def swX (X : Nat → Nat → Int32) (B G : Nat) : Nat → Nat → Int32 := va_up X 15 (upd (upd (X 15) 3 (nI G)) 4 (nI B))
theorem tlX_15 {X : Nat → Nat → Int32} {G : Nat} {k : Nat → Nat} (hB : isB G) : tlX X G k 15 = X 15 := by
  unfold tlX
  rw [vu_n _ _ _ (by decide), rX_15 hB]
theorem flt_n {r : Option Nat} (h : fltI r < 0) (h2 : ∀ a, r = some a → a < 2 ^ 31) : r = none := by
  cases r with
  | none => rfl
  | some a => exact absurd h (nI_pos (h2 a rfl))
theorem flt_s {r : Option Nat} (h : ¬ fltI r < 0) : ∃ a, r = some a := by
  cases r with
  | none => exact absurd (by decide) h
  | some a => exact ⟨a, rfl⟩
theorem rd_lt {tl : Nat} {tp : Nat → Nat} : ∀ (m a : Nat) (s : rT) (b : Nat), tl - a < m → a ≤ tl → rok s a → lnk s a → s.2 6 < 2 → (rdF tl tp m a s).1 = some b → b ≤ tl := by
  intro m
  induction m with
  | zero => intro a s b h1; omega
  | succ m ih =>
    intro a s b hm hal hok hln hw2 h
    have hop := op_4 (tl := tl) (tp := tp) (a := a) (s := s)
    have hsi := si_1 (s := s) (c := tp a)
    by_cases ha : a < tl
    · by_cases hw : s.2 6 = 0
      · rw [rd_s ha hw] at h
        by_cases h1 : (siP s (tp a)).2 < 1
        · rw [if_pos h1] at h
          have h : some a = some b := h
          cases h; omega
        · rw [if_neg h1] at h
          have e1 : (siP s (tp a)).2 = 1 := by omega
          rw [e1] at h
          exact ih (a + 1) (siP s (tp a)).1 b (by omega) (by omega) (rok_si hok hln hw).1 ((rok_si hok hln hw).2 (by omega)) (wt_si hw2) h
      · rw [rd_o ha hw] at h
        by_cases h1 : (opP tl tp a s).2 < 1
        · rw [if_pos h1] at h
          have h : some a = some b := h
          cases h; omega
        · rw [if_neg h1] at h
          have q := rok_opP (tp := tp) hok hln ha (by omega)
          exact ih (a + (opP tl tp a s).2) (opP tl tp a s).1 b (by omega) q.2.2 q.1 q.2.1 (wt_op hw2) h
    · by_cases he : s.2 6 = 0 ∧ s.2 5 = 0
      · rw [rd_e ha he] at h
        cases h
      · rw [rd_f ha he] at h
        have h : some tl = some b := h
        cases h; exact Nat.le_refl _
theorem rd_lt0 {tl : Nat} {tp : Nat → Nat} {k : Nat → Nat} {f : Nat → Nat → Nat} (hf : ∀ i, f 0 i < 2 ^ 31) {b : Nat} (h : (rdF tl tp (tl + 1) 0 (f, rs0 k)).1 = some b) : b ≤ tl :=
  rd_lt (tl + 1) 0 (f, rs0 k) b (by omega) (by omega) ⟨(show 0 + 0 ≤ 0 from Nat.le_refl _), hf, rfl, fun i hi => absurd hi (Nat.not_lt_zero i)⟩ ⟨(show 2 * 0 ≤ 0 from Nat.le_refl _), fun q => absurd (show (1 : Nat) = 0 from q) (by decide), (show 0 < 2 from by decide)⟩ (show 1 < 2 from by decide) h

set_option maxHeartbeats 200000 in
set_option maxRecDepth 100000 in
theorem c_takeLaw (hix : ∀ {d : Nat} {X A : Nat → Nat → Int32} {c : Nat}, c < 256 → jMet (d + 3) yJ0_indexOf_0f7a4 cJ0_indexOf_0f7a4 2 (some .int) 0 0 [.ref 3, .int (nI c)] (tw X A L) (jRi (ixN c) (tw X A L))) {B : Nat} (hBB : isB B) (h3 : X 15 3 = nI B) (h4 : X 15 4 = nI G) (hB : isB G) (htl : X 16 1 = nI tl) (htl2 : tl ≤ 120) (htp : A 17 = nIf tp) (htp2 : ∀ i, tp i < 256) {k : Nat → Nat} {f : Nat → Nat → Nat} (hf : ∀ i, f 0 i < 2 ^ 31) : jMet (d + 6) yX6_takeLaw cX6_takeLaw 3 (some .int) 0 0 [.ref 15] (tw (rX X G k) (rA A G f) L) ((fun z w => z = some (.int (fltI (rdF tl tp (tl + 1) 0 (f, rs0 k)).1)) ∧ w = tw (if (rdF tl tp (tl + 1) 0 (f, rs0 k)).1 = none then swX (tlX X G (rdF tl tp (tl + 1) 0 (f, rs0 k)).2.2) B G else tlX X G (rdF tl tp (tl + 1) 0 (f, rs0 k)).2.2) (rA A G (rdF tl tp (tl + 1) 0 (f, rs0 k)).2.1) L)) := by
  refine jMet_of (by decide) (Nat.le_of_ble_eq_true rfl) none (Or.inl rfl) ?_
  show jWP none RX6 cX6_takeLaw 3 (some .int) (d + 6) 0 0 0 [some (.ref 15), none, none] [] (tw (rX X G k) (rA A G f) L) ((fun z w => z = some (.int (fltI (rdF tl tp (tl + 1) 0 (f, rs0 k)).1)) ∧ w = tw (if (rdF tl tp (tl + 1) 0 (f, rs0 k)).1 = none then swX (tlX X G (rdF tl tp (tl + 1) 0 (f, rs0 k)).2.2) B G else tlX X G (rdF tl tp (tl + 1) 0 (f, rs0 k)).2.2) (rA A G (rdF tl tp (tl + 1) 0 (f, rs0 k)).2.1) L))
  have hlt := fun b hb => rd_lt0 (tl := tl) (tp := tp) (k := k) (f := f) hf (b := b) hb
  refine j_aload_n dX6_takeLaw_0 rfl rfl ?_
  refine t_getR (b := 16) dX6_takeLaw_1 jfl_X6_12 (fun _ _ _ => rfl) rfl ?_
  refine j_aload_n dX6_takeLaw_4 rfl rfl ?_
  refine t_getR (b := G) dX6_takeLaw_5 jfl_X6_25 (fun _ _ _ => rfl) (fScr_4 hB (by rw [rX_15 hB]; exact h4)) ?_
  refine j_callVi [.ref G] [] dX6_takeLaw_8 jlk_X6_44 rfl rfl rfl rfl (Nat.le_of_ble_eq_true rfl) (c_readInto hix hB htl htl2 htp htp2 hf) ?_
  refine j_istore_n (lv' := [some (.ref 15), some (.int _), none]) dX6_takeLaw_11 rfl (by decide) rfl ?_
  refine j_aload_n dX6_takeLaw_12 rfl rfl ?_
  refine t_getR (b := 16) dX6_takeLaw_13 jfl_X6_12 (fun _ _ _ => rfl) rfl ?_
  refine j_callVv [] [] dX6_takeLaw_16 jlk_X6_48 rfl rfl rfl rfl (Nat.le_of_ble_eq_true rfl) (c_clearTape) ?_
  refine j_iload_n dX6_takeLaw_19 rfl rfl ?_
  refine j_if_ge (tgt := 41) dX6_takeLaw_20 (by decide) (fun h20 => ?_) (fun h20 => ?_)
  · refine j_iload_n dX6_takeLaw_41 rfl rfl ?_
    refine j_ireturn dX6_takeLaw_42 rfl ?_
    obtain ⟨b, hb⟩ := flt_s (Int32.not_lt.mpr h20)
    refine ⟨rfl, ?_⟩
    rw [hb, if_neg (fun q => by cases q)]
    rfl
  · refine j_aload_n dX6_takeLaw_23 rfl rfl ?_
    refine t_getR (b := B) dX6_takeLaw_24 jfl_X6_21 (fun _ _ _ => rfl) (fScr_3 hBB (by rw [show va_up _ 16 _ 15 = X 15 from tlX_15 hB]; exact h3)) ?_
    refine j_astore_n (lv' := [some (.ref 15), some (.int _), some (.ref B)]) dX6_takeLaw_27 rfl (by decide) rfl ?_
    refine j_aload_n dX6_takeLaw_28 rfl rfl ?_
    refine j_aload_n dX6_takeLaw_29 rfl rfl ?_
    refine t_getR (b := G) dX6_takeLaw_30 jfl_X6_25 (fun _ _ _ => rfl) (fScr_4 hB (by rw [show va_up _ 16 _ 15 = X 15 from tlX_15 hB]; exact h4)) ?_
    refine t_putR dX6_takeLaw_33 jfl_X6_21 (fun _ _ _ => rfl) (fScr_s3 hB) (Nat.le_of_ble_eq_true rfl) (fun _ => rfl) (fun _ => rfl) ?_
    refine j_aload_n dX6_takeLaw_36 rfl rfl ?_
    refine j_aload_n dX6_takeLaw_37 rfl rfl ?_
    refine t_putR dX6_takeLaw_38 jfl_X6_25 (fun _ _ _ => rfl) (fScr_s4 hBB) (Nat.le_of_ble_eq_true rfl) (fun _ => rfl) (fun _ => rfl) ?_
    refine j_iload_n dX6_takeLaw_41 rfl rfl ?_
    refine j_ireturn dX6_takeLaw_42 rfl ?_
    have hb := flt_n (Int32.not_le.mp h20) (fun a ha => by have := hlt a ha; omega)
    refine ⟨rfl, ?_⟩
    rw [if_pos hb]
    refine tw_eq ?_ rfl rfl
    unfold swX
    rw [vu_s, vu_up]
    rfl

set_option maxHeartbeats 200000 in
set_option maxRecDepth 100000 in
theorem c_law (hix : ∀ {d : Nat} {X A : Nat → Nat → Int32} {c : Nat}, c < 256 → jMet (d + 3) yJ0_indexOf_0f7a4 cJ0_indexOf_0f7a4 2 (some .int) 0 0 [.ref 3, .int (nI c)] (tw X A L) (jRi (ixN c) (tw X A L))) {B : Nat} (hBB : isB B) (h3 : X 15 3 = nI B) (h4 : X 15 4 = nI G) (hB : isB G) (htl : X 16 1 = nI tl) (htl2 : tl ≤ 120) (htp : A 17 = nIf tp) (htp2 : ∀ i, tp i < 256) {k : Nat → Nat} {f : Nat → Nat → Nat} (hf : ∀ i, f 0 i < 2 ^ 31) : jMet (d + 7) yX10_law cX10_law 2 (some .int) 0 0 [.ref 4] (tw (rX X G k) (rA A G f) L) ((fun z w => z = some (.int (match (rdF tl tp (tl + 1) 0 (f, rs0 k)).1 with | none => nI 1 | some b => -100 - nI b)) ∧ w = tw (if (rdF tl tp (tl + 1) 0 (f, rs0 k)).1 = none then swX (tlX X G (rdF tl tp (tl + 1) 0 (f, rs0 k)).2.2) B G else tlX X G (rdF tl tp (tl + 1) 0 (f, rs0 k)).2.2) (rA A G (rdF tl tp (tl + 1) 0 (f, rs0 k)).2.1) L)) := by
  refine jMet_of (by decide) (Nat.le_of_ble_eq_true rfl) none (Or.inl rfl) ?_
  show jWP none RX10 cX10_law 2 (some .int) (d + 7) 0 0 0 [some (.ref 4), none] [] (tw (rX X G k) (rA A G f) L) ((fun z w => z = some (.int (match (rdF tl tp (tl + 1) 0 (f, rs0 k)).1 with | none => nI 1 | some b => -100 - nI b)) ∧ w = tw (if (rdF tl tp (tl + 1) 0 (f, rs0 k)).1 = none then swX (tlX X G (rdF tl tp (tl + 1) 0 (f, rs0 k)).2.2) B G else tlX X G (rdF tl tp (tl + 1) 0 (f, rs0 k)).2.2) (rA A G (rdF tl tp (tl + 1) 0 (f, rs0 k)).2.1) L))
  have hlt := fun b hb => rd_lt0 (tl := tl) (tp := tp) (k := k) (f := f) hf (b := b) hb
  refine j_aload_n dX10_law_0 rfl rfl ?_
  refine t_getR (b := 15) dX10_law_1 jfl_X10_28 (fun _ _ _ => rfl) rfl ?_
  refine j_callV [] [] dX10_law_4 jlk_X10_161 rfl rfl rfl rfl (Nat.le_of_ble_eq_true rfl) (c_takeLaw hix hBB h3 h4 hB htl htl2 htp htp2 hf) (fun r9 w9 h9 => ?_)
  obtain ⟨rfl, rfl⟩ := h9
  refine j_ats (st' := [.int _]) rfl ?_
  refine j_istore_n (lv' := [some (.ref 4), some (.int _)]) dX10_law_7 rfl (by decide) rfl ?_
  refine j_iload_n dX10_law_8 rfl rfl ?_
  refine j_if_ge (tgt := 16) dX10_law_9 (by decide) (fun h9 => ?_) (fun h9 => ?_)
  · refine j_bipush (v := (-100)) dX10_law_16 rfl ?_
    refine j_iload_n dX10_law_18 rfl rfl ?_
    refine j_isub dX10_law_19 ?_
    refine j_ireturn dX10_law_20 rfl ?_
    obtain ⟨b, hb⟩ := flt_s (Int32.not_lt.mpr h9)
    exact ⟨by rw [hb]; rfl, rfl⟩
  · refine j_iconst (v := nI 1) dX10_law_12 rfl ?_
    refine j_goto (tgt := 20) dX10_law_13 (by decide) ?_
    refine j_ireturn dX10_law_20 rfl ?_
    have hb := flt_n (Int32.not_le.mp h9) (fun a ha => by have := hlt a ha; omega)
    exact ⟨by rw [hb], rfl⟩

end CT36