theorem rok_jo {s : rT} {a c : Nat} (h : rok s a) (hc : 0 < sgN c) (hc2 : c < 2 ^ 31) : rok (joP s c).1 (a + 1) ∧ (∀ j, j ≠ 0 → j ≠ 4 → j ≠ 6 → (joP s c).1.2 j = s.2 j) ∧ ((joP s c).2 = true → (joP s c).1.2 6 = 1) := by
  have hw : 1 ≤ (if sgN c = 3 then 4 else sgN c) := by split <;> omega
  obtain ⟨g1, g2, g3, g4, -⟩ := rl_ok hw (s.2 4) s h
  unfold joP
  by_cases hq : sgN c = 3 ∧ ¬ (rlP (if sgN c = 3 then 4 else sgN c) (s.2 4) s).2 4 = 0 ∧ sgN (topP (rlP (if sgN c = 3 then 4 else sgN c) (s.2 4) s)) = 3
  · rw [if_pos hq]
    exact ⟨rok_le g1 (by omega), fun j h0 h4 _ => g4 j h0 h4, fun q => Bool.noConfusion q⟩
  · rw [if_neg hq]
    refine ⟨rok_k (rok_ps g1 hc hc2) (by decide) (by decide) (by decide), fun j h0 h4 h6 => ?_, fun _ => updN_s (psP (rlP (if sgN c = 3 then 4 else sgN c) (s.2 4) s) c).2 6 1⟩
    show updN (updN _ 4 _) 6 1 j = s.2 j
    rw [updN_n _ _ _ h6, updN_n _ _ _ h4]
    exact g4 j h0 h4
theorem rok_el {s : rT} {a : Nat} (h : rok s a) : rok (elP s) a := by
  obtain ⟨h1, h2, h3, h4⟩ := h
  exact ⟨h1, h2, h3, h4⟩
theorem sg_256 {c : Nat} (h : 0 < sgN c) : c < 2 ^ 31 := by
  by_cases q : c < 2 ^ 31
  · exact q
  · exfalso
    unfold sgN at h
    rw [if_neg (by omega), if_neg (by omega), if_neg (by omega), if_neg (by omega), if_neg (by omega)] at h
    exact Nat.lt_irrefl 0 h
/-- the lines fit -/
def lnk (s : rT) (a : Nat) : Prop := 2 * s.2 1 ≤ a ∧ (s.2 6 = 0 → 2 * s.2 1 + 1 ≤ a) ∧ s.2 7 < 2
theorem rok_si {s : rT} {a c : Nat} (h : rok s a) (hl : lnk s a) (hw : s.2 6 = 0) : rok (siP s c).1 (a + 1) ∧ (0 < (siP s c).2 → lnk (siP s c).1 (a + 1)) := by
  obtain ⟨g1, g2, g3, g4, g5⟩ := rl_ok (Nat.le_refl 1) (s.2 4) s h
  have hl1 := hl.2.1 hw
  unfold siP
  by_cases h1 : 0 < sgN c
  · rw [if_pos h1]
    obtain ⟨q1, q2, q3⟩ := rok_jo h h1 (sg_256 h1)
    refine ⟨q1, fun q => ?_⟩
    unfold lnk
    rw [q2 1 (by decide) (by decide) (by decide), q2 7 (by decide) (by decide) (by decide)]
    exact ⟨by omega, fun _ => by omega, hl.2.2⟩
  · rw [if_neg h1]
    by_cases h2 : c = 41 ∧ 0 < s.2 5
    · rw [if_pos h2]
      have e5 : (rlP 1 (s.2 4) s).2 5 = s.2 5 := g4 5 (by decide) (by decide)
      have q := rok_pop g1 (by rw [e5]; exact h2.2) (g5 (Nat.le_refl _))
      rw [e5] at q
      obtain ⟨q1, q2, q3⟩ := rok_eoP q.2
      refine ⟨rok_le q1 (by omega), fun _ => ?_⟩
      unfold lnk
      have e : (eoP (stK (popP (rlP 1 (s.2 4) s)) 5 (s.2 5 - 1))).2 1 = s.2 1 := (q3 1 (by decide) (by decide) (by decide) (by decide)).trans (g4 1 (by decide) (by decide))
      have e7 : (eoP (stK (popP (rlP 1 (s.2 4) s)) 5 (s.2 5 - 1))).2 7 = s.2 7 := (q3 7 (by decide) (by decide) (by decide) (by decide)).trans (g4 7 (by decide) (by decide))
      show 2 * (eoP (stK (popP (rlP 1 (s.2 4) s)) 5 (s.2 5 - 1))).2 1 ≤ a + 1 ∧ (_ → 2 * (eoP (stK (popP (rlP 1 (s.2 4) s)) 5 (s.2 5 - 1))).2 1 + 1 ≤ a + 1) ∧ (eoP (stK (popP (rlP 1 (s.2 4) s)) 5 (s.2 5 - 1))).2 7 < 2
      rw [e, e7]
      exact ⟨by omega, fun _ => by omega, hl.2.2⟩
    · rw [if_neg h2]
      by_cases h3 : c = 63 ∧ s.2 5 = 0 ∧ s.2 7 = 0
      · rw [if_pos h3]
        refine ⟨rok_le (rok_k (rok_k (rok_k g1 (by decide) (by decide) (by decide)) (by decide) (by decide) (by decide)) (by decide) (by decide) (by decide)) (by omega), fun _ => ?_⟩
        have e := g4 1 (by decide) (by decide)
        unfold lnk
        show 2 * (rlP 1 (s.2 4) s).2 1 ≤ a + 1 ∧ ((1 : Nat) = 0 → 2 * (rlP 1 (s.2 4) s).2 1 + 1 ≤ a + 1) ∧ 1 < 2
        rw [e]
        exact ⟨by omega, fun _ => by omega, by decide⟩
      · rw [if_neg h3]
        by_cases h4 : c = 59 ∧ s.2 5 = 0
        · rw [if_pos h4]
          refine ⟨rok_le (rok_k (rok_k (rok_el g1) (by decide) (by decide) (by decide)) (by decide) (by decide) (by decide)) (by omega), fun _ => ?_⟩
          have e := g4 1 (by decide) (by decide)
          unfold lnk
          show 2 * ((rlP 1 (s.2 4) s).2 1 + 1) ≤ a + 1 ∧ ((1 : Nat) = 0 → 2 * ((rlP 1 (s.2 4) s).2 1 + 1) + 1 ≤ a + 1) ∧ 0 < 2
          rw [e]
          exact ⟨by omega, fun q => absurd q (by decide), by decide⟩
        · rw [if_neg h4]
          exact ⟨rok_le h (by omega), fun q => absurd q (Nat.lt_irrefl 0)⟩
theorem nu_1 {tl : Nat} {tp : Nat → Nat} {a : Nat} (ha : a < tl) (hd : dgB (tp a) = true) : 1 ≤ (nuL tl tp a 4 0 0).1 ∧ a + (nuL tl tp a 4 0 0).1 ≤ tl := by
  have hm : ∀ m j x, a + j ≤ tl → j ≤ (nuL tl tp a m j x).1 ∧ a + (nuL tl tp a m j x).1 ≤ tl := by
    intro m
    induction m with
    | zero => intro j x hj; exact ⟨Nat.le_refl _, hj⟩
    | succ m ih =>
      intro j x hj
      unfold nuL
      split
      · split
        · have := ih (j + 1) (x * 10 + tp (a + j) - 48) (by omega)
          exact ⟨by omega, this.2⟩
        · exact ⟨Nat.le_refl _, hj⟩
      · exact ⟨Nat.le_refl _, hj⟩
  have h1 : nuL tl tp a 4 0 0 = nuL tl tp a 3 1 (0 * 10 + tp a - 48) := by
    show (if a + 0 < tl then (if dgB (tp (a + 0)) = true then _ else _) else _) = _
    rw [Nat.add_zero, if_pos ha, if_pos hd]
  rw [h1]
  exact hm 3 1 _ (by omega)
theorem rok_opP {tl : Nat} {tp : Nat → Nat} {s : rT} {a : Nat} (h : rok s a) (hl : lnk s a) (ha : a < tl) (h1 : 0 < (opP tl tp a s).2) : rok (opP tl tp a s).1 (a + (opP tl tp a s).2) ∧ lnk (opP tl tp a s).1 (a + (opP tl tp a s).2) ∧ a + (opP tl tp a s).2 ≤ tl := by
  unfold opP at h1 ⊢
  by_cases hd : dgB (tp a) = true
  · rw [if_pos hd]
    have hn := nu_1 ha hd
    obtain ⟨q1, q2, q3⟩ := rok_eoP (rok_op (c := 1) (v := (nuL tl tp a 4 0 0).2) h)
    refine ⟨rok_le q1 (by show a + 1 ≤ a + (nuL tl tp a 4 0 0).1; omega), ?_, hn.2⟩
    unfold lnk
    have e := q3 1 (by decide) (by decide) (by decide) (by decide)
    have e7 := q3 7 (by decide) (by decide) (by decide) (by decide)
    show 2 * (eoP (addP s 1 (nuL tl tp a 4 0 0).2)).2 1 ≤ a + (nuL tl tp a 4 0 0).1 ∧ (_ → 2 * (eoP (addP s 1 (nuL tl tp a 4 0 0).2)).2 1 + 1 ≤ a + (nuL tl tp a 4 0 0).1) ∧ (eoP (addP s 1 (nuL tl tp a 4 0 0).2)).2 7 < 2
    rw [e, e7]
    have e2 : (addP s 1 (nuL tl tp a 4 0 0).2).2 1 = s.2 1 := rfl
    rw [e2]
    have := hl.1
    exact ⟨by omega, fun _ => by omega, hl.2.2⟩
  · rw [if_neg hd] at h1 ⊢
    by_cases hn : nmN (tp a) < 6
    · rw [if_pos hn]
      obtain ⟨q1, q2, q3⟩ := rok_eoP (rok_op (c := 2) (v := nmN (tp a)) h)
      refine ⟨q1, ?_, ha⟩
      unfold lnk
      have e := q3 1 (by decide) (by decide) (by decide) (by decide)
      have e7 := q3 7 (by decide) (by decide) (by decide) (by decide)
      show 2 * (eoP (addP s 2 (nmN (tp a)))).2 1 ≤ a + 1 ∧ (_ → 2 * (eoP (addP s 2 (nmN (tp a)))).2 1 + 1 ≤ a + 1) ∧ (eoP (addP s 2 (nmN (tp a)))).2 7 < 2
      rw [e, e7]
      have e2 : (addP s 2 (nmN (tp a))).2 1 = s.2 1 := rfl
      rw [e2]
      have := hl.1
      exact ⟨by omega, fun _ => by omega, hl.2.2⟩
    · rw [if_neg hn] at h1 ⊢
      by_cases hp : (tp a = 40 ∨ tp a = 33 ∨ tp a = 45) ∧ s.2 5 < 6
      · rw [if_pos hp]
        refine ⟨rok_psp h ?_, ?_, ha⟩
        · split
          · exact Or.inr (Or.inr rfl)
          · rcases hp.1 with e | e | e
            · exact Or.inl e
            · exact Or.inr (Or.inl e)
            · omega
        · unfold lnk
          show 2 * s.2 1 ≤ a + 1 ∧ (s.2 6 = 0 → 2 * s.2 1 + 1 ≤ a + 1) ∧ s.2 7 < 2
          have := hl.1
          exact ⟨by omega, fun q => by omega, hl.2.2⟩
      · rw [if_neg hp] at h1
        exact absurd h1 (Nat.lt_irrefl 0)
/-- the whole text: the fault's place, the draft -/
def rdF (tl : Nat) (tp : Nat → Nat) : Nat → Nat → rT → Option Nat × rT
  | 0, a, s => (some a, s)
  | m + 1, a, s => if a < tl then (if (if s.2 6 = 0 then siP s (tp a) else opP tl tp a s).2 < 1 then (some a, (if s.2 6 = 0 then siP s (tp a) else opP tl tp a s).1) else rdF tl tp m (a + (if s.2 6 = 0 then siP s (tp a) else opP tl tp a s).2) (if s.2 6 = 0 then siP s (tp a) else opP tl tp a s).1)
    else if s.2 6 = 0 ∧ s.2 5 = 0 then (none, elP (rlP 1 (s.2 4) s)) else (some tl, s)
def rs0 (k : Nat → Nat) : Nat → Nat := updN (updN (updN (updN (updN (updN (updN (updN k 0 0) 1 0) 2 0) 3 0) 4 0) 5 0) 6 1) 7 0
def fltI (r : Option Nat) : Int32 := match r with | none => -1 | some a => nI a
section CT35
variable {d : Nat} {X A : Nat → Nat → Int32} {L : Nat → Nat → Int64} {w : jW} {G tl : Nat} {tp : Nat → Nat} {s : rT}

set_option maxHeartbeats 200000 in
set_option maxRecDepth 100000 in
theorem c_joinAt (hB : isB G) {c a : Nat} (hok : rok s a) (ha : a < 120) (hc : 0 < sgN c) (hc2 : c < 2 ^ 31) : jMet (d + 2) yX4_joinAt cX4_joinAt 4 (some .boolean) 0 0 [.ref 16, .int (nI c), .ref G] (tw (rX X G s.2) (rA A G s.1) L) (jRi (bz (joP s c).2) (tw (rX X G (joP s c).1.2) (rA A G (joP s c).1.1) L)) := by
  refine jMet_of (by decide) (Nat.le_of_ble_eq_true rfl) none (Or.inl rfl) ?_
  show jWP none RX4 cX4_joinAt 4 (some .boolean) (d + 2) 0 0 0 [some (.ref 16), some (.int (nI c)), some (.ref G), none] [] (tw (rX X G s.2) (rA A G s.1) L) (jRi (bz (joP s c).2) (tw (rX X G (joP s c).1.2) (rA A G (joP s c).1.1) L))
  have hs5 := sgN_le c
  have hw : 1 ≤ (if sgN c = 3 then 4 else sgN c) := by split <;> omega
  obtain ⟨g1, g2, g3, g4, -⟩ := rl_ok hw (s.2 4) s hok
  have hle : (rlP (if sgN c = 3 then 4 else sgN c) (s.2 4) s).2 4 < 120 := by have := g1.1; omega
  refine j_iload_n dX4_joinAt_0 rfl rfl ?_
  refine j_callSi [.int _] [] dX4_joinAt_1 jlk_X4_84 rfl rfl (Nat.le_of_ble_eq_true rfl) (c_strength hc2) ?_
  refine j_istore_n (lv' := [some (.ref 16), some (.int _), some (.ref G), some (.int _)]) dX4_joinAt_4 rfl (by decide) rfl ?_
  refine j_aload_n dX4_joinAt_5 rfl rfl ?_
  refine j_iload_n dX4_joinAt_6 rfl rfl ?_
  refine j_iconst (v := nI 3) dX4_joinAt_7 rfl ?_
  refine jn_icmp_ne (tgt := 15) dX4_joinAt_8 (by decide) (by omega) (by omega) (fun h8 => ?_) (fun h8 => ?_)
  · refine j_iload_n dX4_joinAt_15 rfl rfl ?_
    refine j_aload_n dX4_joinAt_16 rfl rfl ?_
    refine j_ats (st' := [.ref G, .int (nI (if sgN c = 3 then 4 else sgN c)), .ref 16]) (by rw [if_neg h8]) ?_
    refine j_callVv [.int _, .ref G] [] dX4_joinAt_17 jlk_X4_47 rfl rfl rfl rfl (Nat.le_of_ble_eq_true rfl) (c_release (wk := (if sgN c = 3 then 4 else sgN c)) hB (by split <;> omega) (by have := hok.1; omega) hok.2.1) ?_
    refine j_iload_n dX4_joinAt_20 rfl rfl ?_
    refine j_iconst (v := nI 3) dX4_joinAt_21 rfl ?_
    refine jn_icmp_ne (tgt := 52) dX4_joinAt_22 (by decide) (by omega) (by omega) (fun h22 => ?_) (fun h22 => ?_)
    · refine j_aload_n dX4_joinAt_52 rfl rfl ?_
      refine j_iload_n dX4_joinAt_53 rfl rfl ?_
      refine j_callVv [.int _] [] dX4_joinAt_54 jlk_X4_80 rfl rfl rfl rfl (Nat.le_of_ble_eq_true rfl) (c_await (s := (rlP (if sgN c = 3 then 4 else sgN c) (s.2 4) s)) hB hle) ?_
      refine j_aload_n dX4_joinAt_57 rfl rfl ?_
      refine j_iconst (v := nI 1) dX4_joinAt_58 rfl ?_
      refine t_putI dX4_joinAt_59 jfl_X4_30 (fun _ _ _ => rfl) (fun _ _ => rfl) (Nat.le_of_ble_eq_true rfl) rfl rfl ?_
      rw [rX_p5 hB]
      refine j_iconst (v := nI 1) dX4_joinAt_62 rfl ?_
      refine j_zreturn dX4_joinAt_63 rfl (by decide) ?_
      have ej : joP s c = (stK (psP (rlP (if sgN c = 3 then 4 else sgN c) (s.2 4) s) c) 6 1, true) := by
        unfold joP
        rw [if_neg (fun q => h22 q.1)]
      rw [ej]
      exact ⟨rfl, rfl⟩
    · refine j_aload_n dX4_joinAt_25 rfl rfl ?_
      refine t_getI dX4_joinAt_26 jfl_X4_24 (fun _ _ _ => rfl) (fun _ => rfl) ?_
      refine j_topE (rX_3 hB) ?_
      refine jn_if_le (tgt := 52) dX4_joinAt_29 (by decide) (by omega) (fun h29 => ?_) (fun h29 => ?_)
      · refine j_aload_n dX4_joinAt_52 rfl rfl ?_
        refine j_iload_n dX4_joinAt_53 rfl rfl ?_
        refine j_callVv [.int _] [] dX4_joinAt_54 jlk_X4_80 rfl rfl rfl rfl (Nat.le_of_ble_eq_true rfl) (c_await (s := (rlP (if sgN c = 3 then 4 else sgN c) (s.2 4) s)) hB hle) ?_
        refine j_aload_n dX4_joinAt_57 rfl rfl ?_
        refine j_iconst (v := nI 1) dX4_joinAt_58 rfl ?_
        refine t_putI dX4_joinAt_59 jfl_X4_30 (fun _ _ _ => rfl) (fun _ _ => rfl) (Nat.le_of_ble_eq_true rfl) rfl rfl ?_
        rw [rX_p5 hB]
        refine j_iconst (v := nI 1) dX4_joinAt_62 rfl ?_
        refine j_zreturn dX4_joinAt_63 rfl (by decide) ?_
        have ej : joP s c = (stK (psP (rlP (if sgN c = 3 then 4 else sgN c) (s.2 4) s) c) 6 1, true) := by
          unfold joP
          rw [if_neg (fun q => absurd q.2.1 (by omega))]
        rw [ej]
        exact ⟨rfl, rfl⟩
      · refine j_aload_n dX4_joinAt_32 rfl rfl ?_
        refine t_getR (b := 18) dX4_joinAt_33 jfl_X4_21 (fun _ _ _ => rfl) rfl ?_
        refine j_aload_n dX4_joinAt_36 rfl rfl ?_
        refine t_getI dX4_joinAt_37 jfl_X4_24 (fun _ _ _ => rfl) (fun _ => rfl) ?_
        refine j_topE (rX_3 hB) ?_
        refine j_iconst (v := nI 1) dX4_joinAt_40 rfl ?_
        refine jn_isub dX4_joinAt_41 (by omega) ?_
        refine t_iaload dX4_joinAt_42 (fun _ _ _ => rfl) (by omega) (by decide) ?_
        refine j_topE (rA_18 hB) ?_
        refine j_callSi [.int _] [] dX4_joinAt_43 jlk_X4_84 rfl rfl (Nat.le_of_ble_eq_true rfl) (c_strength (g1.2.1 _)) ?_
        refine j_iconst (v := nI 3) dX4_joinAt_46 rfl ?_
        refine jn_icmp_ne (tgt := 52) dX4_joinAt_47 (by decide) (Nat.lt_of_le_of_lt (sgN_le _) (by decide)) (by omega) (fun h47 => ?_) (fun h47 => ?_)
        · refine j_aload_n dX4_joinAt_52 rfl rfl ?_
          refine j_iload_n dX4_joinAt_53 rfl rfl ?_
          refine j_callVv [.int _] [] dX4_joinAt_54 jlk_X4_80 rfl rfl rfl rfl (Nat.le_of_ble_eq_true rfl) (c_await (s := (rlP (if sgN c = 3 then 4 else sgN c) (s.2 4) s)) hB hle) ?_
          refine j_aload_n dX4_joinAt_57 rfl rfl ?_
          refine j_iconst (v := nI 1) dX4_joinAt_58 rfl ?_
          refine t_putI dX4_joinAt_59 jfl_X4_30 (fun _ _ _ => rfl) (fun _ _ => rfl) (Nat.le_of_ble_eq_true rfl) rfl rfl ?_
          rw [rX_p5 hB]
          refine j_iconst (v := nI 1) dX4_joinAt_62 rfl ?_
          refine j_zreturn dX4_joinAt_63 rfl (by decide) ?_
          have ej : joP s c = (stK (psP (rlP (if sgN c = 3 then 4 else sgN c) (s.2 4) s) c) 6 1, true) := by
            unfold joP
            rw [if_neg (fun q => h47 q.2.2)]
          rw [ej]
          exact ⟨rfl, rfl⟩
        · refine j_iconst (v := nI 0) dX4_joinAt_50 rfl ?_
          refine j_zreturn dX4_joinAt_51 rfl (by decide) ?_
          have ej : joP s c = ((rlP (if sgN c = 3 then 4 else sgN c) (s.2 4) s), false) := by
            unfold joP
            rw [if_pos ⟨h22, by omega, h47⟩]
          rw [ej]
          exact ⟨rfl, rfl⟩
  · refine j_iconst (v := nI 4) dX4_joinAt_11 rfl ?_
    refine j_goto (tgt := 16) dX4_joinAt_12 (by decide) ?_
    refine j_aload_n dX4_joinAt_16 rfl rfl ?_
    refine j_ats (st' := [.ref G, .int (nI (if sgN c = 3 then 4 else sgN c)), .ref 16]) (by rw [if_pos h8]) ?_
    refine j_callVv [.int _, .ref G] [] dX4_joinAt_17 jlk_X4_47 rfl rfl rfl rfl (Nat.le_of_ble_eq_true rfl) (c_release (wk := (if sgN c = 3 then 4 else sgN c)) hB (by split <;> omega) (by have := hok.1; omega) hok.2.1) ?_
    refine j_iload_n dX4_joinAt_20 rfl rfl ?_
    refine j_iconst (v := nI 3) dX4_joinAt_21 rfl ?_
    refine jn_icmp_ne (tgt := 52) dX4_joinAt_22 (by decide) (by omega) (by omega) (fun h22 => ?_) (fun h22 => ?_)
    · refine j_aload_n dX4_joinAt_52 rfl rfl ?_
      refine j_iload_n dX4_joinAt_53 rfl rfl ?_
      refine j_callVv [.int _] [] dX4_joinAt_54 jlk_X4_80 rfl rfl rfl rfl (Nat.le_of_ble_eq_true rfl) (c_await (s := (rlP (if sgN c = 3 then 4 else sgN c) (s.2 4) s)) hB hle) ?_
      refine j_aload_n dX4_joinAt_57 rfl rfl ?_
      refine j_iconst (v := nI 1) dX4_joinAt_58 rfl ?_
      refine t_putI dX4_joinAt_59 jfl_X4_30 (fun _ _ _ => rfl) (fun _ _ => rfl) (Nat.le_of_ble_eq_true rfl) rfl rfl ?_
      rw [rX_p5 hB]
      refine j_iconst (v := nI 1) dX4_joinAt_62 rfl ?_
      refine j_zreturn dX4_joinAt_63 rfl (by decide) ?_
      have ej : joP s c = (stK (psP (rlP (if sgN c = 3 then 4 else sgN c) (s.2 4) s) c) 6 1, true) := by
        unfold joP
        rw [if_neg (fun q => h22 q.1)]
      rw [ej]
      exact ⟨rfl, rfl⟩
    · refine j_aload_n dX4_joinAt_25 rfl rfl ?_
      refine t_getI dX4_joinAt_26 jfl_X4_24 (fun _ _ _ => rfl) (fun _ => rfl) ?_
      refine j_topE (rX_3 hB) ?_
      refine jn_if_le (tgt := 52) dX4_joinAt_29 (by decide) (by omega) (fun h29 => ?_) (fun h29 => ?_)
      · refine j_aload_n dX4_joinAt_52 rfl rfl ?_
        refine j_iload_n dX4_joinAt_53 rfl rfl ?_
        refine j_callVv [.int _] [] dX4_joinAt_54 jlk_X4_80 rfl rfl rfl rfl (Nat.le_of_ble_eq_true rfl) (c_await (s := (rlP (if sgN c = 3 then 4 else sgN c) (s.2 4) s)) hB hle) ?_
        refine j_aload_n dX4_joinAt_57 rfl rfl ?_
        refine j_iconst (v := nI 1) dX4_joinAt_58 rfl ?_
        refine t_putI dX4_joinAt_59 jfl_X4_30 (fun _ _ _ => rfl) (fun _ _ => rfl) (Nat.le_of_ble_eq_true rfl) rfl rfl ?_
        rw [rX_p5 hB]
        refine j_iconst (v := nI 1) dX4_joinAt_62 rfl ?_
        refine j_zreturn dX4_joinAt_63 rfl (by decide) ?_
        have ej : joP s c = (stK (psP (rlP (if sgN c = 3 then 4 else sgN c) (s.2 4) s) c) 6 1, true) := by
          unfold joP
          rw [if_neg (fun q => absurd q.2.1 (by omega))]
        rw [ej]
        exact ⟨rfl, rfl⟩
      · refine j_aload_n dX4_joinAt_32 rfl rfl ?_
        refine t_getR (b := 18) dX4_joinAt_33 jfl_X4_21 (fun _ _ _ => rfl) rfl ?_
        refine j_aload_n dX4_joinAt_36 rfl rfl ?_
        refine t_getI dX4_joinAt_37 jfl_X4_24 (fun _ _ _ => rfl) (fun _ => rfl) ?_
        refine j_topE (rX_3 hB) ?_
        refine j_iconst (v := nI 1) dX4_joinAt_40 rfl ?_
        refine jn_isub dX4_joinAt_41 (by omega) ?_
        refine t_iaload dX4_joinAt_42 (fun _ _ _ => rfl) (by omega) (by decide) ?_
        refine j_topE (rA_18 hB) ?_
        refine j_callSi [.int _] [] dX4_joinAt_43 jlk_X4_84 rfl rfl (Nat.le_of_ble_eq_true rfl) (c_strength (g1.2.1 _)) ?_
        refine j_iconst (v := nI 3) dX4_joinAt_46 rfl ?_
        refine jn_icmp_ne (tgt := 52) dX4_joinAt_47 (by decide) (Nat.lt_of_le_of_lt (sgN_le _) (by decide)) (by omega) (fun h47 => ?_) (fun h47 => ?_)
        · refine j_aload_n dX4_joinAt_52 rfl rfl ?_
          refine j_iload_n dX4_joinAt_53 rfl rfl ?_
          refine j_callVv [.int _] [] dX4_joinAt_54 jlk_X4_80 rfl rfl rfl rfl (Nat.le_of_ble_eq_true rfl) (c_await (s := (rlP (if sgN c = 3 then 4 else sgN c) (s.2 4) s)) hB hle) ?_
          refine j_aload_n dX4_joinAt_57 rfl rfl ?_
          refine j_iconst (v := nI 1) dX4_joinAt_58 rfl ?_
          refine t_putI dX4_joinAt_59 jfl_X4_30 (fun _ _ _ => rfl) (fun _ _ => rfl) (Nat.le_of_ble_eq_true rfl) rfl rfl ?_
          rw [rX_p5 hB]
          refine j_iconst (v := nI 1) dX4_joinAt_62 rfl ?_
          refine j_zreturn dX4_joinAt_63 rfl (by decide) ?_
          have ej : joP s c = (stK (psP (rlP (if sgN c = 3 then 4 else sgN c) (s.2 4) s) c) 6 1, true) := by
            unfold joP
            rw [if_neg (fun q => h47 q.2.2)]
          rw [ej]
          exact ⟨rfl, rfl⟩
        · refine j_iconst (v := nI 0) dX4_joinAt_50 rfl ?_
          refine j_zreturn dX4_joinAt_51 rfl (by decide) ?_
          have ej : joP s c = ((rlP (if sgN c = 3 then 4 else sgN c) (s.2 4) s), false) := by
            unfold joP
            rw [if_pos ⟨h22, by omega, h47⟩]
          rw [ej]
          exact ⟨rfl, rfl⟩

set_option maxHeartbeats 200000 in
set_option maxRecDepth 100000 in
theorem c_signAt (hB : isB G) (htl : X 16 1 = nI tl) (htl2 : tl ≤ 120) (htp : A 17 = nIf tp) (htp2 : ∀ i, tp i < 256) {a : Nat} (ha : a < tl) (hok : rok s a) (hln : lnk s a) (hw0 : s.2 6 = 0) : jMet (d + 3) yX4_signAt cX4_signAt 4 (some .int) 0 0 [.ref 16, .int (nI a), .ref G] (tw (rX X G s.2) (rA A G s.1) L) (jRi (nI (siP s (tp a)).2) (tw (rX X G (siP s (tp a)).1.2) (rA A G (siP s (tp a)).1.1) L)) := by
  refine jMet_of (by decide) (Nat.le_of_ble_eq_true rfl) none (Or.inl rfl) ?_
  show jWP none RX4 cX4_signAt 4 (some .int) (d + 3) 0 0 0 [some (.ref 16), some (.int (nI a)), some (.ref G), none] [] (tw (rX X G s.2) (rA A G s.1) L) (jRi (nI (siP s (tp a)).2) (tw (rX X G (siP s (tp a)).1.2) (rA A G (siP s (tp a)).1.1) L))
  have htpa := htp2 a
  have hs5 := sgN_le (tp a)
  obtain ⟨g1, g2, g3, g4, g5⟩ := rl_ok (Nat.le_refl 1) (s.2 4) s hok
  have e5 : (rlP 1 (s.2 4) s).2 5 = s.2 5 := g4 5 (by decide) (by decide)
  have e1 : (rlP 1 (s.2 4) s).2 1 = s.2 1 := g4 1 (by decide) (by decide)
  have ho6 : s.2 5 < 2 ^ 31 := by
    have h1 := hok.2.2.1
    have h2 := hok.1
    have h3 : ∀ n, oc (s.1 0) n ≤ n := by
      intro n
      induction n with
      | zero => exact Nat.le_refl _
      | succ n ih => unfold oc; split <;> omega
    have := h3 (s.2 4)
    omega
  refine j_aload_n dX4_signAt_0 rfl rfl ?_
  refine j_iload_n dX4_signAt_1 rfl rfl ?_
  refine j_callVi [.int _] [] dX4_signAt_2 jlk_X4_54 rfl rfl rfl rfl (Nat.le_of_ble_eq_true rfl) (c_letterAt hB htl htl2 htp ha) ?_
  refine j_istore_n (lv' := [some (.ref 16), some (.int _), some (.ref G), some (.int _)]) dX4_signAt_5 rfl (by decide) rfl ?_
  refine j_iload_n dX4_signAt_6 rfl rfl ?_
  refine j_callSi [.int _] [] dX4_signAt_7 jlk_X4_84 rfl rfl (Nat.le_of_ble_eq_true rfl) (c_strength (Nat.lt_trans htpa (by decide))) ?_
  refine jn_if_le (tgt := 28) dX4_signAt_10 (by decide) (by omega) (fun h10 => ?_) (fun h10 => ?_)
  · refine j_iload_n dX4_signAt_28 rfl rfl ?_
    refine j_bipush (v := nI 41) dX4_signAt_29 rfl ?_
    refine jn_icmp_ne (tgt := 74) dX4_signAt_31 (by decide) (by omega) (by omega) (fun h31 => ?_) (fun h31 => ?_)
    · refine j_iload_n dX4_signAt_74 rfl rfl ?_
      refine j_bipush (v := nI 63) dX4_signAt_75 rfl ?_
      refine jn_icmp_ne (tgt := 116) dX4_signAt_77 (by decide) (by omega) (by omega) (fun h77 => ?_) (fun h77 => ?_)
      · refine j_iload_n dX4_signAt_116 rfl rfl ?_
        refine j_bipush (v := nI 59) dX4_signAt_117 rfl ?_
        refine jn_icmp_ne (tgt := 151) dX4_signAt_119 (by decide) (by omega) (by omega) (fun h119 => ?_) (fun h119 => ?_)
        · refine j_iconst (v := nI 0) dX4_signAt_151 rfl ?_
          refine j_ireturn dX4_signAt_152 rfl ?_
          have es : siP s (tp a) = (s, 0) := by unfold siP; rw [if_neg (by omega), if_neg (fun q => h31 q.1), if_neg (fun q => h77 q.1), if_neg (fun q => h119 q.1)]
          rw [es]
          exact ⟨rfl, rfl⟩
        · refine j_aload_n dX4_signAt_122 rfl rfl ?_
          refine t_getI dX4_signAt_123 jfl_X4_27 (fun _ _ _ => rfl) (fun _ => rfl) ?_
          refine j_topE (rX_4 hB) ?_
          refine jn_if_ne (tgt := 151) dX4_signAt_126 (by decide) ho6 (fun h126 => ?_) (fun h126 => ?_)
          · refine j_iconst (v := nI 0) dX4_signAt_151 rfl ?_
            refine j_ireturn dX4_signAt_152 rfl ?_
            have es : siP s (tp a) = (s, 0) := by unfold siP; rw [if_neg (by omega), if_neg (fun q => h31 q.1), if_neg (fun q => h77 q.1), if_neg (fun q => absurd q.2 (by omega))]
            rw [es]
            exact ⟨rfl, rfl⟩
          · refine j_aload_n dX4_signAt_129 rfl rfl ?_
            refine j_iconst (v := nI 1) dX4_signAt_130 rfl ?_
            refine j_aload_n dX4_signAt_131 rfl rfl ?_
            refine j_callVv [.int _, .ref G] [] dX4_signAt_132 jlk_X4_47 rfl rfl rfl rfl (Nat.le_of_ble_eq_true rfl) (c_release (wk := 1) hB (by decide) (by have := hok.1; omega) hok.2.1) ?_
            refine j_aload_n dX4_signAt_135 rfl rfl ?_
            refine j_callVv [] [] dX4_signAt_136 jlk_X4_51 rfl rfl ((shB0 hB) _ _ _) rfl (Nat.le_of_ble_eq_true rfl) (c_endLineP (s := (rlP 1 (s.2 4) s)) hB (by have := hln.1; rw [e1]; omega)) ?_
            refine j_aload_n dX4_signAt_139 rfl rfl ?_
            refine j_iconst (v := nI 0) dX4_signAt_140 rfl ?_
            refine t_putI dX4_signAt_141 jfl_X4_34 (fun _ _ _ => rfl) (fun _ _ => rfl) (Nat.le_of_ble_eq_true rfl) rfl rfl ?_
            rw [rX_p6 hB]
            refine j_aload_n dX4_signAt_144 rfl rfl ?_
            refine j_iconst (v := nI 1) dX4_signAt_145 rfl ?_
            refine t_putI dX4_signAt_146 jfl_X4_30 (fun _ _ _ => rfl) (fun _ _ => rfl) (Nat.le_of_ble_eq_true rfl) rfl rfl ?_
            rw [rX_p5 hB]
            refine j_iconst (v := nI 1) dX4_signAt_149 rfl ?_
            refine j_ireturn dX4_signAt_150 rfl ?_
            have es : siP s (tp a) = (stK (stK (elP (rlP 1 (s.2 4) s)) 7 0) 6 1, 1) := by unfold siP; rw [if_neg (by omega), if_neg (fun q => h31 q.1), if_neg (fun q => h77 q.1), if_pos ⟨h119, h126⟩]
            rw [es]
            exact ⟨rfl, rfl⟩
      · refine j_aload_n dX4_signAt_80 rfl rfl ?_
        refine t_getI dX4_signAt_81 jfl_X4_27 (fun _ _ _ => rfl) (fun _ => rfl) ?_
        refine j_topE (rX_4 hB) ?_
        refine jn_if_ne (tgt := 116) dX4_signAt_84 (by decide) ho6 (fun h84 => ?_) (fun h84 => ?_)
        · refine j_iload_n dX4_signAt_116 rfl rfl ?_
          refine j_bipush (v := nI 59) dX4_signAt_117 rfl ?_
          refine jn_icmp_ne (tgt := 151) dX4_signAt_119 (by decide) (by omega) (by omega) (fun h119 => ?_) (fun h119 => ?_)
          · refine j_iconst (v := nI 0) dX4_signAt_151 rfl ?_
            refine j_ireturn dX4_signAt_152 rfl ?_
            have es : siP s (tp a) = (s, 0) := by unfold siP; rw [if_neg (by omega), if_neg (fun q => h31 q.1), if_neg (fun q => absurd q.2.1 (by omega)), if_neg (fun q => h119 q.1)]
            rw [es]
            exact ⟨rfl, rfl⟩
          · refine j_aload_n dX4_signAt_122 rfl rfl ?_
            refine t_getI dX4_signAt_123 jfl_X4_27 (fun _ _ _ => rfl) (fun _ => rfl) ?_
            refine j_topE (rX_4 hB) ?_
            refine jn_if_ne (tgt := 151) dX4_signAt_126 (by decide) ho6 (fun h126 => ?_) (fun h126 => ?_)
            · refine j_iconst (v := nI 0) dX4_signAt_151 rfl ?_
              refine j_ireturn dX4_signAt_152 rfl ?_
              have es : siP s (tp a) = (s, 0) := by unfold siP; rw [if_neg (by omega), if_neg (fun q => h31 q.1), if_neg (fun q => absurd q.2.1 (by omega)), if_neg (fun q => absurd q.2 (by omega))]
              rw [es]
              exact ⟨rfl, rfl⟩
            · refine j_aload_n dX4_signAt_129 rfl rfl ?_
              refine j_iconst (v := nI 1) dX4_signAt_130 rfl ?_
              refine j_aload_n dX4_signAt_131 rfl rfl ?_
              refine j_callVv [.int _, .ref G] [] dX4_signAt_132 jlk_X4_47 rfl rfl rfl rfl (Nat.le_of_ble_eq_true rfl) (c_release (wk := 1) hB (by decide) (by have := hok.1; omega) hok.2.1) ?_
              refine j_aload_n dX4_signAt_135 rfl rfl ?_
              refine j_callVv [] [] dX4_signAt_136 jlk_X4_51 rfl rfl ((shB0 hB) _ _ _) rfl (Nat.le_of_ble_eq_true rfl) (c_endLineP (s := (rlP 1 (s.2 4) s)) hB (by have := hln.1; rw [e1]; omega)) ?_
              refine j_aload_n dX4_signAt_139 rfl rfl ?_
              refine j_iconst (v := nI 0) dX4_signAt_140 rfl ?_
              refine t_putI dX4_signAt_141 jfl_X4_34 (fun _ _ _ => rfl) (fun _ _ => rfl) (Nat.le_of_ble_eq_true rfl) rfl rfl ?_
              rw [rX_p6 hB]
              refine j_aload_n dX4_signAt_144 rfl rfl ?_
              refine j_iconst (v := nI 1) dX4_signAt_145 rfl ?_
              refine t_putI dX4_signAt_146 jfl_X4_30 (fun _ _ _ => rfl) (fun _ _ => rfl) (Nat.le_of_ble_eq_true rfl) rfl rfl ?_
              rw [rX_p5 hB]
              refine j_iconst (v := nI 1) dX4_signAt_149 rfl ?_
              refine j_ireturn dX4_signAt_150 rfl ?_
              have es : siP s (tp a) = (stK (stK (elP (rlP 1 (s.2 4) s)) 7 0) 6 1, 1) := by unfold siP; rw [if_neg (by omega), if_neg (fun q => h31 q.1), if_neg (fun q => absurd q.2.1 (by omega)), if_pos ⟨h119, h126⟩]
              rw [es]
              exact ⟨rfl, rfl⟩
        · refine j_aload_n dX4_signAt_87 rfl rfl ?_
          refine t_getI dX4_signAt_88 jfl_X4_34 (fun _ _ _ => rfl) (fun _ => rfl) ?_
          refine j_topE (rX_6 hB) ?_
          refine jn_if_ne (tgt := 116) dX4_signAt_91 (by decide) (Nat.lt_trans hln.2.2 (by decide)) (fun h91 => ?_) (fun h91 => ?_)
          · refine j_iload_n dX4_signAt_116 rfl rfl ?_
            refine j_bipush (v := nI 59) dX4_signAt_117 rfl ?_
            refine jn_icmp_ne (tgt := 151) dX4_signAt_119 (by decide) (by omega) (by omega) (fun h119 => ?_) (fun h119 => ?_)
            · refine j_iconst (v := nI 0) dX4_signAt_151 rfl ?_
              refine j_ireturn dX4_signAt_152 rfl ?_
              have es : siP s (tp a) = (s, 0) := by unfold siP; rw [if_neg (by omega), if_neg (fun q => h31 q.1), if_neg (fun q => absurd q.2.2 (by omega)), if_neg (fun q => h119 q.1)]
              rw [es]
              exact ⟨rfl, rfl⟩
            · refine j_aload_n dX4_signAt_122 rfl rfl ?_
              refine t_getI dX4_signAt_123 jfl_X4_27 (fun _ _ _ => rfl) (fun _ => rfl) ?_
              refine j_topE (rX_4 hB) ?_
              refine jn_if_ne (tgt := 151) dX4_signAt_126 (by decide) ho6 (fun h126 => ?_) (fun h126 => ?_)
              · refine j_iconst (v := nI 0) dX4_signAt_151 rfl ?_
                refine j_ireturn dX4_signAt_152 rfl ?_
                have es : siP s (tp a) = (s, 0) := by unfold siP; rw [if_neg (by omega), if_neg (fun q => h31 q.1), if_neg (fun q => absurd q.2.2 (by omega)), if_neg (fun q => absurd q.2 (by omega))]
                rw [es]
                exact ⟨rfl, rfl⟩
              · refine j_aload_n dX4_signAt_129 rfl rfl ?_
                refine j_iconst (v := nI 1) dX4_signAt_130 rfl ?_
                refine j_aload_n dX4_signAt_131 rfl rfl ?_
                refine j_callVv [.int _, .ref G] [] dX4_signAt_132 jlk_X4_47 rfl rfl rfl rfl (Nat.le_of_ble_eq_true rfl) (c_release (wk := 1) hB (by decide) (by have := hok.1; omega) hok.2.1) ?_
                refine j_aload_n dX4_signAt_135 rfl rfl ?_
                refine j_callVv [] [] dX4_signAt_136 jlk_X4_51 rfl rfl ((shB0 hB) _ _ _) rfl (Nat.le_of_ble_eq_true rfl) (c_endLineP (s := (rlP 1 (s.2 4) s)) hB (by have := hln.1; rw [e1]; omega)) ?_
                refine j_aload_n dX4_signAt_139 rfl rfl ?_
                refine j_iconst (v := nI 0) dX4_signAt_140 rfl ?_
                refine t_putI dX4_signAt_141 jfl_X4_34 (fun _ _ _ => rfl) (fun _ _ => rfl) (Nat.le_of_ble_eq_true rfl) rfl rfl ?_
                rw [rX_p6 hB]
                refine j_aload_n dX4_signAt_144 rfl rfl ?_
                refine j_iconst (v := nI 1) dX4_signAt_145 rfl ?_
                refine t_putI dX4_signAt_146 jfl_X4_30 (fun _ _ _ => rfl) (fun _ _ => rfl) (Nat.le_of_ble_eq_true rfl) rfl rfl ?_
                rw [rX_p5 hB]
                refine j_iconst (v := nI 1) dX4_signAt_149 rfl ?_
                refine j_ireturn dX4_signAt_150 rfl ?_
                have es : siP s (tp a) = (stK (stK (elP (rlP 1 (s.2 4) s)) 7 0) 6 1, 1) := by unfold siP; rw [if_neg (by omega), if_neg (fun q => h31 q.1), if_neg (fun q => absurd q.2.2 (by omega)), if_pos ⟨h119, h126⟩]
                rw [es]
                exact ⟨rfl, rfl⟩
          · refine j_aload_n dX4_signAt_94 rfl rfl ?_
            refine j_iconst (v := nI 1) dX4_signAt_95 rfl ?_
            refine j_aload_n dX4_signAt_96 rfl rfl ?_
            refine j_callVv [.int _, .ref G] [] dX4_signAt_97 jlk_X4_47 rfl rfl rfl rfl (Nat.le_of_ble_eq_true rfl) (c_release (wk := 1) hB (by decide) (by have := hok.1; omega) hok.2.1) ?_
            refine j_aload_n dX4_signAt_100 rfl rfl ?_
            refine j_callVv [] [] dX4_signAt_101 jlk_X4_91 rfl rfl ((shB0 hB) _ _ _) rfl (Nat.le_of_ble_eq_true rfl) (c_endCondP (s := (rlP 1 (s.2 4) s)) hB) ?_
            refine j_aload_n dX4_signAt_104 rfl rfl ?_
            refine j_iconst (v := nI 1) dX4_signAt_105 rfl ?_
            refine t_putI dX4_signAt_106 jfl_X4_34 (fun _ _ _ => rfl) (fun _ _ => rfl) (Nat.le_of_ble_eq_true rfl) rfl rfl ?_
            rw [rX_p6 hB]
            refine j_aload_n dX4_signAt_109 rfl rfl ?_
            refine j_iconst (v := nI 1) dX4_signAt_110 rfl ?_
            refine t_putI dX4_signAt_111 jfl_X4_30 (fun _ _ _ => rfl) (fun _ _ => rfl) (Nat.le_of_ble_eq_true rfl) rfl rfl ?_
            rw [rX_p5 hB]
            refine j_iconst (v := nI 1) dX4_signAt_114 rfl ?_
            refine j_ireturn dX4_signAt_115 rfl ?_
            have es : siP s (tp a) = (stK (stK (stK (rlP 1 (s.2 4) s) 3 ((rlP 1 (s.2 4) s).2 0)) 7 1) 6 1, 1) := by unfold siP; rw [if_neg (by omega), if_neg (fun q => h31 q.1), if_pos ⟨h77, h84, h91⟩]
            rw [es]
            exact ⟨rfl, rfl⟩
    · refine j_aload_n dX4_signAt_34 rfl rfl ?_
      refine t_getI dX4_signAt_35 jfl_X4_27 (fun _ _ _ => rfl) (fun _ => rfl) ?_
      refine j_topE (rX_4 hB) ?_
      refine jn_if_le (tgt := 74) dX4_signAt_38 (by decide) ho6 (fun h38 => ?_) (fun h38 => ?_)
      · refine j_iload_n dX4_signAt_74 rfl rfl ?_
        refine j_bipush (v := nI 63) dX4_signAt_75 rfl ?_
        refine jn_icmp_ne (tgt := 116) dX4_signAt_77 (by decide) (by omega) (by omega) (fun h77 => ?_) (fun h77 => ?_)
        · refine j_iload_n dX4_signAt_116 rfl rfl ?_
          refine j_bipush (v := nI 59) dX4_signAt_117 rfl ?_
          refine jn_icmp_ne (tgt := 151) dX4_signAt_119 (by decide) (by omega) (by omega) (fun h119 => ?_) (fun h119 => ?_)
          · refine j_iconst (v := nI 0) dX4_signAt_151 rfl ?_
            refine j_ireturn dX4_signAt_152 rfl ?_
            have es : siP s (tp a) = (s, 0) := by unfold siP; rw [if_neg (by omega), if_neg (fun q => absurd q.2 (by omega)), if_neg (fun q => h77 q.1), if_neg (fun q => h119 q.1)]
            rw [es]
            exact ⟨rfl, rfl⟩
          · refine j_aload_n dX4_signAt_122 rfl rfl ?_
            refine t_getI dX4_signAt_123 jfl_X4_27 (fun _ _ _ => rfl) (fun _ => rfl) ?_
            refine j_topE (rX_4 hB) ?_
            refine jn_if_ne (tgt := 151) dX4_signAt_126 (by decide) ho6 (fun h126 => ?_) (fun h126 => ?_)
            · refine j_iconst (v := nI 0) dX4_signAt_151 rfl ?_
              refine j_ireturn dX4_signAt_152 rfl ?_
              have es : siP s (tp a) = (s, 0) := by unfold siP; rw [if_neg (by omega), if_neg (fun q => absurd q.2 (by omega)), if_neg (fun q => h77 q.1), if_neg (fun q => absurd q.2 (by omega))]
              rw [es]
              exact ⟨rfl, rfl⟩
            · refine j_aload_n dX4_signAt_129 rfl rfl ?_
              refine j_iconst (v := nI 1) dX4_signAt_130 rfl ?_
              refine j_aload_n dX4_signAt_131 rfl rfl ?_
              refine j_callVv [.int _, .ref G] [] dX4_signAt_132 jlk_X4_47 rfl rfl rfl rfl (Nat.le_of_ble_eq_true rfl) (c_release (wk := 1) hB (by decide) (by have := hok.1; omega) hok.2.1) ?_
              refine j_aload_n dX4_signAt_135 rfl rfl ?_
              refine j_callVv [] [] dX4_signAt_136 jlk_X4_51 rfl rfl ((shB0 hB) _ _ _) rfl (Nat.le_of_ble_eq_true rfl) (c_endLineP (s := (rlP 1 (s.2 4) s)) hB (by have := hln.1; rw [e1]; omega)) ?_
              refine j_aload_n dX4_signAt_139 rfl rfl ?_
              refine j_iconst (v := nI 0) dX4_signAt_140 rfl ?_
              refine t_putI dX4_signAt_141 jfl_X4_34 (fun _ _ _ => rfl) (fun _ _ => rfl) (Nat.le_of_ble_eq_true rfl) rfl rfl ?_
              rw [rX_p6 hB]
              refine j_aload_n dX4_signAt_144 rfl rfl ?_
              refine j_iconst (v := nI 1) dX4_signAt_145 rfl ?_
              refine t_putI dX4_signAt_146 jfl_X4_30 (fun _ _ _ => rfl) (fun _ _ => rfl) (Nat.le_of_ble_eq_true rfl) rfl rfl ?_
              rw [rX_p5 hB]
              refine j_iconst (v := nI 1) dX4_signAt_149 rfl ?_
              refine j_ireturn dX4_signAt_150 rfl ?_
              have es : siP s (tp a) = (stK (stK (elP (rlP 1 (s.2 4) s)) 7 0) 6 1, 1) := by unfold siP; rw [if_neg (by omega), if_neg (fun q => absurd q.2 (by omega)), if_neg (fun q => h77 q.1), if_pos ⟨h119, h126⟩]
              rw [es]
              exact ⟨rfl, rfl⟩
        · refine j_aload_n dX4_signAt_80 rfl rfl ?_
          refine t_getI dX4_signAt_81 jfl_X4_27 (fun _ _ _ => rfl) (fun _ => rfl) ?_
          refine j_topE (rX_4 hB) ?_
          refine jn_if_ne (tgt := 116) dX4_signAt_84 (by decide) ho6 (fun h84 => ?_) (fun h84 => ?_)
          · refine j_iload_n dX4_signAt_116 rfl rfl ?_
            refine j_bipush (v := nI 59) dX4_signAt_117 rfl ?_
            refine jn_icmp_ne (tgt := 151) dX4_signAt_119 (by decide) (by omega) (by omega) (fun h119 => ?_) (fun h119 => ?_)
            · refine j_iconst (v := nI 0) dX4_signAt_151 rfl ?_
              refine j_ireturn dX4_signAt_152 rfl ?_
              have es : siP s (tp a) = (s, 0) := by unfold siP; rw [if_neg (by omega), if_neg (fun q => absurd q.2 (by omega)), if_neg (fun q => absurd q.2.1 (by omega)), if_neg (fun q => h119 q.1)]
              rw [es]
              exact ⟨rfl, rfl⟩
            · refine j_aload_n dX4_signAt_122 rfl rfl ?_
              refine t_getI dX4_signAt_123 jfl_X4_27 (fun _ _ _ => rfl) (fun _ => rfl) ?_
              refine j_topE (rX_4 hB) ?_
              refine jn_if_ne (tgt := 151) dX4_signAt_126 (by decide) ho6 (fun h126 => ?_) (fun h126 => ?_)
              · refine j_iconst (v := nI 0) dX4_signAt_151 rfl ?_
                refine j_ireturn dX4_signAt_152 rfl ?_
                have es : siP s (tp a) = (s, 0) := by unfold siP; rw [if_neg (by omega), if_neg (fun q => absurd q.2 (by omega)), if_neg (fun q => absurd q.2.1 (by omega)), if_neg (fun q => absurd q.2 (by omega))]
                rw [es]
                exact ⟨rfl, rfl⟩
              · refine j_aload_n dX4_signAt_129 rfl rfl ?_
                refine j_iconst (v := nI 1) dX4_signAt_130 rfl ?_
                refine j_aload_n dX4_signAt_131 rfl rfl ?_
                refine j_callVv [.int _, .ref G] [] dX4_signAt_132 jlk_X4_47 rfl rfl rfl rfl (Nat.le_of_ble_eq_true rfl) (c_release (wk := 1) hB (by decide) (by have := hok.1; omega) hok.2.1) ?_
                refine j_aload_n dX4_signAt_135 rfl rfl ?_
                refine j_callVv [] [] dX4_signAt_136 jlk_X4_51 rfl rfl ((shB0 hB) _ _ _) rfl (Nat.le_of_ble_eq_true rfl) (c_endLineP (s := (rlP 1 (s.2 4) s)) hB (by have := hln.1; rw [e1]; omega)) ?_
                refine j_aload_n dX4_signAt_139 rfl rfl ?_
                refine j_iconst (v := nI 0) dX4_signAt_140 rfl ?_
                refine t_putI dX4_signAt_141 jfl_X4_34 (fun _ _ _ => rfl) (fun _ _ => rfl) (Nat.le_of_ble_eq_true rfl) rfl rfl ?_
                rw [rX_p6 hB]
                refine j_aload_n dX4_signAt_144 rfl rfl ?_
                refine j_iconst (v := nI 1) dX4_signAt_145 rfl ?_
                refine t_putI dX4_signAt_146 jfl_X4_30 (fun _ _ _ => rfl) (fun _ _ => rfl) (Nat.le_of_ble_eq_true rfl) rfl rfl ?_
                rw [rX_p5 hB]
                refine j_iconst (v := nI 1) dX4_signAt_149 rfl ?_
                refine j_ireturn dX4_signAt_150 rfl ?_
                have es : siP s (tp a) = (stK (stK (elP (rlP 1 (s.2 4) s)) 7 0) 6 1, 1) := by unfold siP; rw [if_neg (by omega), if_neg (fun q => absurd q.2 (by omega)), if_neg (fun q => absurd q.2.1 (by omega)), if_pos ⟨h119, h126⟩]
                rw [es]
                exact ⟨rfl, rfl⟩
          · refine j_aload_n dX4_signAt_87 rfl rfl ?_
            refine t_getI dX4_signAt_88 jfl_X4_34 (fun _ _ _ => rfl) (fun _ => rfl) ?_
            refine j_topE (rX_6 hB) ?_
            refine jn_if_ne (tgt := 116) dX4_signAt_91 (by decide) (Nat.lt_trans hln.2.2 (by decide)) (fun h91 => ?_) (fun h91 => ?_)
            · refine j_iload_n dX4_signAt_116 rfl rfl ?_
              refine j_bipush (v := nI 59) dX4_signAt_117 rfl ?_
              refine jn_icmp_ne (tgt := 151) dX4_signAt_119 (by decide) (by omega) (by omega) (fun h119 => ?_) (fun h119 => ?_)
              · refine j_iconst (v := nI 0) dX4_signAt_151 rfl ?_
                refine j_ireturn dX4_signAt_152 rfl ?_
                have es : siP s (tp a) = (s, 0) := by unfold siP; rw [if_neg (by omega), if_neg (fun q => absurd q.2 (by omega)), if_neg (fun q => absurd q.2.2 (by omega)), if_neg (fun q => h119 q.1)]
                rw [es]
                exact ⟨rfl, rfl⟩
              · refine j_aload_n dX4_signAt_122 rfl rfl ?_
                refine t_getI dX4_signAt_123 jfl_X4_27 (fun _ _ _ => rfl) (fun _ => rfl) ?_
                refine j_topE (rX_4 hB) ?_
                refine jn_if_ne (tgt := 151) dX4_signAt_126 (by decide) ho6 (fun h126 => ?_) (fun h126 => ?_)
                · refine j_iconst (v := nI 0) dX4_signAt_151 rfl ?_
                  refine j_ireturn dX4_signAt_152 rfl ?_
                  have es : siP s (tp a) = (s, 0) := by unfold siP; rw [if_neg (by omega), if_neg (fun q => absurd q.2 (by omega)), if_neg (fun q => absurd q.2.2 (by omega)), if_neg (fun q => absurd q.2 (by omega))]
                  rw [es]
                  exact ⟨rfl, rfl⟩
                · refine j_aload_n dX4_signAt_129 rfl rfl ?_
                  refine j_iconst (v := nI 1) dX4_signAt_130 rfl ?_
                  refine j_aload_n dX4_signAt_131 rfl rfl ?_
                  refine j_callVv [.int _, .ref G] [] dX4_signAt_132 jlk_X4_47 rfl rfl rfl rfl (Nat.le_of_ble_eq_true rfl) (c_release (wk := 1) hB (by decide) (by have := hok.1; omega) hok.2.1) ?_
                  refine j_aload_n dX4_signAt_135 rfl rfl ?_
                  refine j_callVv [] [] dX4_signAt_136 jlk_X4_51 rfl rfl ((shB0 hB) _ _ _) rfl (Nat.le_of_ble_eq_true rfl) (c_endLineP (s := (rlP 1 (s.2 4) s)) hB (by have := hln.1; rw [e1]; omega)) ?_
                  refine j_aload_n dX4_signAt_139 rfl rfl ?_
                  refine j_iconst (v := nI 0) dX4_signAt_140 rfl ?_
                  refine t_putI dX4_signAt_141 jfl_X4_34 (fun _ _ _ => rfl) (fun _ _ => rfl) (Nat.le_of_ble_eq_true rfl) rfl rfl ?_
                  rw [rX_p6 hB]
                  refine j_aload_n dX4_signAt_144 rfl rfl ?_
                  refine j_iconst (v := nI 1) dX4_signAt_145 rfl ?_
                  refine t_putI dX4_signAt_146 jfl_X4_30 (fun _ _ _ => rfl) (fun _ _ => rfl) (Nat.le_of_ble_eq_true rfl) rfl rfl ?_
                  rw [rX_p5 hB]
                  refine j_iconst (v := nI 1) dX4_signAt_149 rfl ?_
                  refine j_ireturn dX4_signAt_150 rfl ?_
                  have es : siP s (tp a) = (stK (stK (elP (rlP 1 (s.2 4) s)) 7 0) 6 1, 1) := by unfold siP; rw [if_neg (by omega), if_neg (fun q => absurd q.2 (by omega)), if_neg (fun q => absurd q.2.2 (by omega)), if_pos ⟨h119, h126⟩]
                  rw [es]
                  exact ⟨rfl, rfl⟩
            · refine j_aload_n dX4_signAt_94 rfl rfl ?_
              refine j_iconst (v := nI 1) dX4_signAt_95 rfl ?_
              refine j_aload_n dX4_signAt_96 rfl rfl ?_
              refine j_callVv [.int _, .ref G] [] dX4_signAt_97 jlk_X4_47 rfl rfl rfl rfl (Nat.le_of_ble_eq_true rfl) (c_release (wk := 1) hB (by decide) (by have := hok.1; omega) hok.2.1) ?_
              refine j_aload_n dX4_signAt_100 rfl rfl ?_
              refine j_callVv [] [] dX4_signAt_101 jlk_X4_91 rfl rfl ((shB0 hB) _ _ _) rfl (Nat.le_of_ble_eq_true rfl) (c_endCondP (s := (rlP 1 (s.2 4) s)) hB) ?_
              refine j_aload_n dX4_signAt_104 rfl rfl ?_
              refine j_iconst (v := nI 1) dX4_signAt_105 rfl ?_
              refine t_putI dX4_signAt_106 jfl_X4_34 (fun _ _ _ => rfl) (fun _ _ => rfl) (Nat.le_of_ble_eq_true rfl) rfl rfl ?_
              rw [rX_p6 hB]
              refine j_aload_n dX4_signAt_109 rfl rfl ?_
              refine j_iconst (v := nI 1) dX4_signAt_110 rfl ?_
              refine t_putI dX4_signAt_111 jfl_X4_30 (fun _ _ _ => rfl) (fun _ _ => rfl) (Nat.le_of_ble_eq_true rfl) rfl rfl ?_
              rw [rX_p5 hB]
              refine j_iconst (v := nI 1) dX4_signAt_114 rfl ?_
              refine j_ireturn dX4_signAt_115 rfl ?_
              have es : siP s (tp a) = (stK (stK (stK (rlP 1 (s.2 4) s) 3 ((rlP 1 (s.2 4) s).2 0)) 7 1) 6 1, 1) := by unfold siP; rw [if_neg (by omega), if_neg (fun q => absurd q.2 (by omega)), if_pos ⟨h77, h84, h91⟩]
              rw [es]
              exact ⟨rfl, rfl⟩
      · have hpop := rok_pop g1 (by rw [e5]; exact h38) (g5 (Nat.le_refl _))
        rw [e5] at hpop
        refine j_aload_n dX4_signAt_41 rfl rfl ?_
        refine j_iconst (v := nI 1) dX4_signAt_42 rfl ?_
        refine j_aload_n dX4_signAt_43 rfl rfl ?_
        refine j_callVv [.int _, .ref G] [] dX4_signAt_44 jlk_X4_47 rfl rfl rfl rfl (Nat.le_of_ble_eq_true rfl) (c_release (wk := 1) hB (by decide) (by have := hok.1; omega) hok.2.1) ?_
        refine j_aload_n dX4_signAt_47 rfl rfl ?_
        refine j_dup dX4_signAt_48 rfl ?_
        refine t_getI dX4_signAt_49 jfl_X4_24 (fun _ _ _ => rfl) (fun _ => rfl) ?_
        refine j_topE (rX_3 hB) ?_
        refine j_iconst (v := nI 1) dX4_signAt_52 rfl ?_
        refine jn_isub dX4_signAt_53 (by omega) ?_
        refine t_putI dX4_signAt_54 jfl_X4_24 (fun _ _ _ => rfl) (fun _ _ => rfl) (Nat.le_of_ble_eq_true rfl) rfl rfl ?_
        rw [rX_p3 hB]
        refine j_aload_n dX4_signAt_57 rfl rfl ?_
        refine j_dup dX4_signAt_58 rfl ?_
        refine t_getI dX4_signAt_59 jfl_X4_27 (fun _ _ _ => rfl) (fun _ => rfl) ?_
        refine j_topE (e' := nI (s.2 5)) ((rX_4 hB).trans (congrArg nI e5)) ?_
        refine j_iconst (v := nI 1) dX4_signAt_62 rfl ?_
        refine jn_isub dX4_signAt_63 (by omega) ?_
        refine t_putI dX4_signAt_64 jfl_X4_27 (fun _ _ _ => rfl) (fun _ _ => rfl) (Nat.le_of_ble_eq_true rfl) rfl rfl ?_
        rw [rX_p4 hB]
        refine j_aload_n dX4_signAt_67 rfl rfl ?_
        refine j_aload_n dX4_signAt_68 rfl rfl ?_
        refine j_callVv [.ref G] [] dX4_signAt_69 jlk_X4_76 rfl rfl rfl rfl (Nat.le_of_ble_eq_true rfl) (c_endOperand (s := stK (popP (rlP 1 (s.2 4) s)) 5 (s.2 5 - 1)) hB (by have := hpop.2.1; omega) hpop.2.2.1 hpop.2.2.2.1) ?_
        refine j_iconst (v := nI 1) dX4_signAt_72 rfl ?_
        refine j_ireturn dX4_signAt_73 rfl ?_
        have es : siP s (tp a) = (eoP (stK (popP (rlP 1 (s.2 4) s)) 5 (s.2 5 - 1)), 1) := by unfold siP; rw [if_neg (by omega), if_pos ⟨h31, h38⟩]
        rw [es]
        exact ⟨rfl, rfl⟩
  · refine j_aload_n dX4_signAt_13 rfl rfl ?_
    refine j_iload_n dX4_signAt_14 rfl rfl ?_
    refine j_aload_n dX4_signAt_15 rfl rfl ?_
    refine j_callVi [.int _, .ref G] [] dX4_signAt_16 jlk_X4_87 rfl rfl rfl rfl (Nat.le_of_ble_eq_true rfl) (c_joinAt hB hok (by omega) h10 (Nat.lt_trans htpa (by decide))) ?_
    refine j_if_eq (tgt := 26) dX4_signAt_19 (by decide) (fun h19 => ?_) (fun h19 => ?_)
    · refine j_iconst (v := nI 0) dX4_signAt_26 rfl ?_
      refine j_ireturn dX4_signAt_27 rfl ?_
      refine ⟨?_, ?_⟩
      · unfold siP; rw [if_pos h10]; exact congrArg (fun z => some (Value.int z)) (by rw [if_neg (by rw [bz_f h19]; decide)])
      · unfold siP; rw [if_pos h10]
    · refine j_iconst (v := nI 1) dX4_signAt_22 rfl ?_
      refine j_goto (tgt := 27) dX4_signAt_23 (by decide) ?_
      refine j_ireturn dX4_signAt_27 rfl ?_
      refine ⟨?_, ?_⟩
      · unfold siP; rw [if_pos h10]; exact congrArg (fun z => some (Value.int z)) (by rw [if_pos (bz_t h19)])
      · unfold siP; rw [if_pos h10]

end CT35