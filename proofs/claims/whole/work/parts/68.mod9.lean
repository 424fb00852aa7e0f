theorem ow_upd {O : Nat → Int32} (h : ow O) {j : Nat} {y : Int32} (hy : y = -1 ∨ 0 ≤ y) : ow (upd O j y) := by
  intro c hc
  by_cases e : c = j
  · subst e; rw [ud_s]; exact hy
  · rw [ud_n _ _ _ e]; exact h c hc
theorem ow_step {c : cS} (h : ow c.1) : ow (stepE c).1 := by
  unfold stepE
  split
  · exact h
  · exact ow_upd h (Or.inl rfl)
theorem stepE_z {c : cS} (h : zb 49 c.1 ∧ zb 49 c.2) : zb 49 (stepE c).1 ∧ zb 49 (stepE c).2 := winS_z h.1 h.2 1
theorem ow_win {c : cS} (h : ow c.1) : ∀ e, ow (winS e c).1
  | 0 => h
  | e + 1 => ow_step (ow_win h e)
theorem nxE_pos {O S : Nat → Int32} {j : Nat} (h : nxE O S = some j) : 0 < hN O := cnt_pos (nxE_held h).1 (nxE_held h).2
theorem stepE_none {c : cS} (h : nxE c.1 c.2 = none) : stepE c = c := by unfold stepE; rw [h]
/-- the most of n winters that leave x -/
def omF (a x : Int32) : Nat → Nat → cS → Int32 → Int32
  | 0, _, _, m => m
  | f + 1, i, c, m => omF a x f (i + 1) (stepE c) (if balS c.1 c.2 a 49 < x then m else nI i)
/-- in deed: the comb, its rows, what was led -/
def dA (A : Nat → Nat → Int32) (O S Z E : Nat → Int32) : Nat → Nat → Int32 := va_up (lA (eA A O S Z) O S) 94 E
theorem lA_vu (A : Nat → Nat → Int32) (O S u : Nat → Int32) {c : Nat} (h1 : c ≠ 82) (h2 : c ≠ 83) : va_up (lA A O S) c u = lA (va_up A c u) O S := by
  unfold lA
  rw [vu_comm _ _ _ (Ne.symm h2), vu_comm A _ _ (Ne.symm h1)]
theorem abS_ow {z m : Nat} {c : cS} (h : ow c.1) : ∀ i, ow (abS z m c i).1.1
  | 0 => h
  | i + 1 => by
    unfold abS
    split
    · exact ow_upd (abS_ow h i) (Or.inl rfl)
    · exact abS_ow h i
theorem abS_t {z m i : Nat} {c : cS} (h1 : heldB (abS z m c i).1.1 i = true) (h2 : dsN z i ≤ m) : abS z m c (i + 1) = (emS (abS z m c i).1 i, (abS z m c i).2 + 1) := by
  show (if (heldB (abS z m c i).1.1 i && decide (dsN z i ≤ m)) = true then _ else _) = _
  rw [if_pos (by rw [h1]; simp [h2])]
theorem abS_f {z m i : Nat} {c : cS} (h : heldB (abS z m c i).1.1 i = false ∨ ¬ dsN z i ≤ m) : abS z m c (i + 1) = abS z m c i := by
  show (if (heldB (abS z m c i).1.1 i && decide (dsN z i ≤ m)) = true then _ else _) = _
  rw [if_neg (by rcases h with q | q <;> simp [q])]
theorem abS_2 {z m : Nat} {c : cS} : ∀ i, (abS z m c i).2 ≤ i
  | 0 => Nat.le_refl _
  | i + 1 => by
    have := abS_2 (z := z) (m := m) (c := c) i
    unfold abS
    split
    · show (abS z m c i).2 + 1 ≤ i + 1; omega
    · omega
theorem wi_1 {j a b : Nat} {P K : Int64} (h1 : a ≤ j) (h : j ≤ b) (hk : b < 2 ^ 30) (hP : P = (nI a).toInt64) (hK : K = (nI b).toInt64) : wiJ (nI j).toInt64 P K = nI 1 := by
  unfold wiJ
  rw [hK, hP, if_neg (fun q => nI_nlt h1 (by omega) (l_lt.mp q)), if_neg (fun q => nI_nlt h (by omega) (l_lt.mp q))]
theorem wi_1g {e : Int32} {a b : Nat} {P K : Int64} (h : wiJ e.toInt64 P K ≠ nI 0) (hP : P = (nI a).toInt64) (hK : K = (nI b).toInt64) : ¬ e < nI a ∧ ¬ nI b < e := by
  unfold wiJ at h
  rw [hK, hP] at h
  by_cases h1 : e.toInt64 < (nI a).toInt64
  · rw [if_pos h1] at h; exact absurd rfl h
  · rw [if_neg h1] at h
    by_cases h2 : (nI b).toInt64 < e.toInt64
    · rw [if_pos h2] at h; exact absurd rfl h
    · exact ⟨fun q => h1 (l_lt.mpr q), fun q => h2 (l_lt.mpr q)⟩
section CT48
variable {d : Nat} {X A : Nat → Nat → Int32} {L : Nat → Nat → Int64} {w : jW} {na nb : Nat} {v kd : Nat → Nat}

set_option maxHeartbeats 200000 in
set_option maxRecDepth 100000 in
theorem l_winters (hw : ow (A 84)) {n : Nat} (hn : n < 2 ^ 31) : ∀ (m e : Nat) (Z : Nat → Int32), e ≤ n → e ≤ hN (A 84) → n - e < m → jWP none RX11 cX11_winters 3 (some .int) (d + 3) 0 0 2 [some (.ref 76), some (.int (nI n)), some (.int (nI e))] [] (tw X (eA A (winS e (A 84, A 85)).1 (winS e (A 84, A 85)).2 Z) L) ((fun z w => z = some (.int (nI (min n (hN (A 84))))) ∧ ∃ Z, w = tw X (eA A (winS (min n (hN (A 84))) (A 84, A 85)).1 (winS (min n (hN (A 84))) (A 84, A 85)).2 Z) L)) := by
  intro m
  induction m with
  | zero => intro e Z h1 h2 h3; omega
  | succ m ih =>
    intro e Z h1 h2 h3
    have hs2 : hN (A 84) ≤ 49 := cnt_le _ 49
    have hh : hN (winS e (A 84, A 85)).1 = hN (A 84) - e := winS_hN (A 84, A 85) e
    refine j_iload_n dX11_winters_2 rfl rfl ?_
    refine j_iload_n dX11_winters_3 rfl rfl ?_
    refine jn_icmp_ge (tgt := 20) dX11_winters_4 (by decide) (by omega) (by omega) (fun h4 => ?_) (fun h4 => ?_)
    · refine j_iload_n dX11_winters_20 rfl rfl ?_
      refine j_ireturn dX11_winters_21 rfl ?_
      have he : min n (hN (A 84)) = e := by omega
      rw [he]
      exact ⟨rfl, Z, rfl⟩
    · refine j_aload_n dX11_winters_7 rfl rfl ?_
      refine j_callV [] [] dX11_winters_8 jlk_X11_240 rfl rfl rfl rfl (Nat.le_of_ble_eq_true rfl) (m_eatsOne (by rw [eA_84]; exact ow_win hw e)) (fun r9 w9 h9 => ?_)
      obtain ⟨rfl, Z9, rfl⟩ := h9
      rw [eA_84, eA_85, eA_eA]
      refine j_atw (w' := tw X (eA A (stepE (winS e (A 84, A 85))).1 (stepE (winS e (A 84, A 85))).2 Z9) L) rfl ?_
      refine j_ats (st' := [.int _]) rfl ?_
      refine j_if_eq (tgt := 20) dX11_winters_11 (by decide) (fun h11 => ?_) (fun h11 => ?_)
      · have hx : nxE (winS e (A 84, A 85)).1 (winS e (A 84, A 85)).2 = none := by
          cases q : nxE (winS e (A 84, A 85)).1 (winS e (A 84, A 85)).2 with
          | none => rfl
          | some j => rw [q] at h11; exact absurd h11 (show ¬ nI 1 = 0 by decide)
        have h0 := nxE_none hx
        refine j_iload_n dX11_winters_20 rfl rfl ?_
        refine j_ireturn dX11_winters_21 rfl ?_
        have he : min n (hN (A 84)) = e := by omega
        rw [he, stepE_none hx]
        exact ⟨rfl, Z9, rfl⟩
      · have hx : ∃ j, nxE (winS e (A 84, A 85)).1 (winS e (A 84, A 85)).2 = some j := by
          cases q : nxE (winS e (A 84, A 85)).1 (winS e (A 84, A 85)).2 with
          | none => rw [q] at h11; exact absurd rfl h11
          | some j => exact ⟨j, rfl⟩
        obtain ⟨j, hj⟩ := hx
        have h0 := nxE_pos hj
        refine jn_iinc (lv' := [some (.ref 76), some (.int _), some (.int _)]) dX11_winters_14 rfl (by decide) rfl ?_
        refine j_goto (tgt := 2) dX11_winters_17 (by decide) ?_
        exact ih (e + 1) Z9 (by omega) (by omega) (by omega)

set_option maxHeartbeats 200000 in
set_option maxRecDepth 100000 in
theorem m_winters (hw : ow (A 84)) {n : Nat} (hn : n < 2 ^ 31) : jMet (d + 3) yX11_winters cX11_winters 3 (some .int) 0 0 [.ref 76, .int (nI n)] (tw X A L) ((fun z w => z = some (.int (nI (min n (hN (A 84))))) ∧ ∃ Z, w = tw X (eA A (winS (min n (hN (A 84))) (A 84, A 85)).1 (winS (min n (hN (A 84))) (A 84, A 85)).2 Z) L)) := by
  refine jMet_of (by decide) (Nat.le_of_ble_eq_true rfl) none (Or.inl rfl) ?_
  show jWP none RX11 cX11_winters 3 (some .int) (d + 3) 0 0 0 [some (.ref 76), some (.int (nI n)), none] [] (tw X A L) ((fun z w => z = some (.int (nI (min n (hN (A 84))))) ∧ ∃ Z, w = tw X (eA A (winS (min n (hN (A 84))) (A 84, A 85)).1 (winS (min n (hN (A 84))) (A 84, A 85)).2 Z) L))
  refine j_iconst (v := nI 0) dX11_winters_0 rfl ?_
  refine j_istore_n (lv' := [some (.ref 76), some (.int _), some (.int _)]) dX11_winters_1 rfl (by decide) rfl ?_
  refine j_atw (congrArg (fun z => tw X z L) (eA_self A).symm) (l_winters hw hn (n + 1) 0 (A 89) (by omega) (by omega) (by omega))

set_option maxHeartbeats 200000 in
set_option maxRecDepth 100000 in
theorem m_winter (hn : X 76 7 = nI na) (h6 : na ≤ 6) (z1 : zb 49 (A 82)) (z2 : zb 49 (A 83)) (z3 : zb 49 (A 84)) (z4 : zb 49 (A 85)) (hw : ow (A 82)) {n k : Nat} (hn50 : n < 50) (hk : k < na) : jMet (d + 4) yX11_winter cX11_winter 3 (some .int) 0 0 [.ref 76, .int (nI n), .int (nI k)] (tw X A L) ((fun z w => z = some (.int (balS (winS (min n (hN (A 82, A 83).1)) (A 82, A 83)).1 (winS (min n (hN (A 82, A 83).1)) (A 82, A 83)).2 (nI k) 49)) ∧ ∃ Z, w = tw X (eA A (winS (min n (hN (A 82, A 83).1)) (A 82, A 83)).1 (winS (min n (hN (A 82, A 83).1)) (A 82, A 83)).2 Z) L)) := by
  refine jMet_of (by decide) (Nat.le_of_ble_eq_true rfl) none (Or.inl rfl) ?_
  show jWP none RX11 cX11_winter 3 (some .int) (d + 4) 0 0 0 [some (.ref 76), some (.int (nI n)), some (.int (nI k))] [] (tw X A L) ((fun z w => z = some (.int (balS (winS (min n (hN (A 82, A 83).1)) (A 82, A 83)).1 (winS (min n (hN (A 82, A 83).1)) (A 82, A 83)).2 (nI k) 49)) ∧ ∃ Z, w = tw X (eA A (winS (min n (hN (A 82, A 83).1)) (A 82, A 83)).1 (winS (min n (hN (A 82, A 83).1)) (A 82, A 83)).2 Z) L))
  refine j_iload_n dX11_winter_0 rfl rfl ?_
  refine j_i2l dX11_winter_1 ?_
  refine j_lconst (v := 0) dX11_winter_2 rfl ?_
  refine j_ldc2 dX11_winter_3 jw_k_X11_244 ?_
  refine j_callSi [.long _, .long _, .long _] [] dX11_winter_6 jlk_X11_111 rfl rfl (Nat.le_of_ble_eq_true rfl) (jMet_i m_within (wi_in (k := 49) (by omega) (by decide) (by decide)) rfl) ?_
  refine j_if_eq (tgt := 21) dX11_winter_9 (by decide) (fun h => absurd h (by decide)) (fun _ => ?_)
  refine j_aload_n dX11_winter_12 rfl rfl ?_
  refine j_iload_n dX11_winter_13 rfl rfl ?_
  refine j_i2l dX11_winter_14 ?_
  refine j_callVi [.long _] [] dX11_winter_15 jlk_X11_128 rfl rfl rfl rfl (Nat.le_of_ble_eq_true rfl) (jMet_i (m_isAccount hn h6) (isA_in hk (by omega)) rfl) ?_
  refine j_if_ne (tgt := 23) dX11_winter_18 (by decide) (fun _ => ?_) (fun h => absurd h (by decide))
  refine j_aload_n dX11_winter_23 rfl rfl ?_
  refine j_callVv [] [] dX11_winter_24 jlk_X11_140 rfl rfl rfl rfl (Nat.le_of_ble_eq_true rfl) (m_begins1 z1 z2 z3 z4) ?_
  refine j_aload_n dX11_winter_27 rfl rfl ?_
  refine j_iload_n dX11_winter_28 rfl rfl ?_
  refine j_callV [.int _] [] dX11_winter_29 jlk_X11_246 rfl rfl rfl rfl (Nat.le_of_ble_eq_true rfl) (m_winters (by rw [mA_84]; exact hw) (by omega)) (fun r9 w9 h9 => ?_)
  obtain ⟨rfl, Z9, rfl⟩ := h9
  rw [mA_84, mA_85, mA_e]
  refine j_ats (st' := [.int _]) rfl ?_
  refine j_pop dX11_winter_32 rfl ?_
  refine j_aload_n dX11_winter_33 rfl rfl ?_
  refine j_iload_n dX11_winter_34 rfl rfl ?_
  refine j_callVi [.int _] [] dX11_winter_35 jlk_X11_143 rfl rfl rfl rfl (Nat.le_of_ble_eq_true rfl) (m_balanceOf) ?_
  rw [eA_84, eA_85]
  refine j_ireturn dX11_winter_38 rfl ?_
  exact ⟨rfl, Z9, rfl⟩

set_option maxHeartbeats 200000 in
set_option maxRecDepth 100000 in
theorem m_winter_no (hn : X 76 7 = nI na) (h6 : na ≤ 6) {c a : Int32} (h : isA 50 c = nI 0 ∨ isA na a = nI 0) : jMet (d + 4) yX11_winter cX11_winter 3 (some .int) 0 0 [.ref 76, .int c, .int a] (tw X A L) (jRi (-1) (tw X A L)) := by
  refine jMet_of (by decide) (Nat.le_of_ble_eq_true rfl) none (Or.inl rfl) ?_
  show jWP none RX11 cX11_winter 3 (some .int) (d + 4) 0 0 0 [some (.ref 76), some (.int c), some (.int a)] [] (tw X A L) (jRi (-1) (tw X A L))
  refine j_iload_n dX11_winter_0 rfl rfl ?_
  refine j_i2l dX11_winter_1 ?_
  refine j_lconst (v := 0) dX11_winter_2 rfl ?_
  refine j_ldc2 dX11_winter_3 jw_k_X11_244 ?_
  refine j_callSi [.long _, .long _, .long _] [] dX11_winter_6 jlk_X11_111 rfl rfl (Nat.le_of_ble_eq_true rfl) (jMet_i m_within (wi_A (k := 49) (by decide) (by decide)) rfl) ?_
  refine j_if_eq (tgt := 21) dX11_winter_9 (by decide) (fun h9 => ?_) (fun h9 => ?_)
  · refine j_iconst (v := (-1)) dX11_winter_21 rfl ?_
    refine j_ireturn dX11_winter_22 rfl ?_
    exact ⟨rfl, rfl⟩
  · refine j_aload_n dX11_winter_12 rfl rfl ?_
    refine j_iload_n dX11_winter_13 rfl rfl ?_
    refine j_i2l dX11_winter_14 ?_
    refine j_callVi [.long _] [] dX11_winter_15 jlk_X11_128 rfl rfl rfl rfl (Nat.le_of_ble_eq_true rfl) (m_isAccount hn h6) ?_
    refine j_if_ne (tgt := 23) dX11_winter_18 (by decide) (fun h18 => ?_) (fun h18 => ?_)
    · exact absurd h (fun q => q.elim h9 h18)
    · refine j_iconst (v := (-1)) dX11_winter_21 rfl ?_
      refine j_ireturn dX11_winter_22 rfl ?_
      exact ⟨rfl, rfl⟩

set_option maxHeartbeats 200000 in
set_option maxRecDepth 100000 in
theorem l_outlasts_m {k x : Int32} {r : Int32} : ∀ (m i : Nat) (c : cS) (y : Int32) (Z : Nat → Int32), i + m = 50 → (zb 49 c.1 ∧ zb 49 c.2) → ow c.1 → omF k x m i c y = r → jWP none RX11 cX11_outlasts 5 (some .int) (d + 3) 0 0 33 [some (.ref 76), some (.int k), some (.int x), some (.int y), some (.int (nI i))] [] (tw X (eA A c.1 c.2 Z) L) ((fun z w => z = some (.int r) ∧ ∃ (c : cS) (Z : Nat → Int32), (zb 49 c.1 ∧ zb 49 c.2) ∧ w = tw X (eA A c.1 c.2 Z) L)) := by
  intro m
  induction m with
  | zero =>
    intro i c y Z hi hz hw hr
    subst hr
    refine j_iload dX11_outlasts_33 rfl ?_
    refine j_bipush (v := nI 49) dX11_outlasts_35 rfl ?_
    refine jn_icmp_gt (tgt := 67) dX11_outlasts_37 (by decide) (by omega) (by omega) (fun h37 => ?_) (fun h37 => absurd h37 (by omega))
    refine j_iload_n dX11_outlasts_67 rfl rfl ?_
    refine j_ireturn dX11_outlasts_68 rfl ?_
    exact ⟨rfl, c, Z, hz, rfl⟩
  | succ m ih =>
    intro i c y Z hi hz hw hr
    refine j_iload dX11_outlasts_33 rfl ?_
    refine j_bipush (v := nI 49) dX11_outlasts_35 rfl ?_
    refine jn_icmp_gt (tgt := 67) dX11_outlasts_37 (by decide) (by omega) (by omega) (fun h37 => absurd h37 (by omega)) (fun h37 => ?_)
    refine j_aload_n dX11_outlasts_40 rfl rfl ?_
    refine j_iload_n dX11_outlasts_41 rfl rfl ?_
    refine j_callVi [.int _] [] dX11_outlasts_42 jlk_X11_143 rfl rfl rfl rfl (Nat.le_of_ble_eq_true rfl) (m_balanceOf) ?_
    rw [eA_84, eA_85]
    refine j_iload_n dX11_outlasts_45 rfl rfl ?_
    refine j_icmp_lt (tgt := 54) dX11_outlasts_46 (by decide) (fun h46 => ?_) (fun h46 => ?_)
    · refine j_iload_n dX11_outlasts_54 rfl rfl ?_
      refine j_istore_n (lv' := [some (.ref 76), some (.int _), some (.int _), some (.int _), some (.int _)]) dX11_outlasts_55 rfl (by decide) rfl ?_
      refine j_aload_n dX11_outlasts_56 rfl rfl ?_
      refine j_callV [] [] dX11_outlasts_57 jlk_X11_240 rfl rfl rfl rfl (Nat.le_of_ble_eq_true rfl) (m_eatsOne (by rw [eA_84]; exact hw)) (fun r9 w9 h9 => ?_)
      obtain ⟨rfl, Z9, rfl⟩ := h9
      rw [eA_84, eA_85, eA_eA]
      refine j_atw (w' := tw X (eA A (stepE c).1 (stepE c).2 Z9) L) rfl ?_
      refine j_ats (st' := [.int _]) rfl ?_
      refine j_pop dX11_outlasts_60 rfl ?_
      refine jn_iinc (lv' := [some (.ref 76), some (.int _), some (.int _), some (.int _), some (.int _)]) dX11_outlasts_61 rfl (by decide) rfl ?_
      refine j_goto (tgt := 33) dX11_outlasts_64 (by decide) ?_
      refine ih (i + 1) (stepE c) y Z9 (by omega) (stepE_z hz) (ow_step hw) ?_
      rw [← hr]
      show _ = omF k x m (i + 1) (stepE c) (if balS c.1 c.2 k 49 < x then y else nI i)
      rw [if_pos h46]
    · refine j_iload dX11_outlasts_49 rfl ?_
      refine j_goto (tgt := 55) dX11_outlasts_51 (by decide) ?_
      refine j_istore_n (lv' := [some (.ref 76), some (.int _), some (.int _), some (.int _), some (.int _)]) dX11_outlasts_55 rfl (by decide) rfl ?_
      refine j_aload_n dX11_outlasts_56 rfl rfl ?_
      refine j_callV [] [] dX11_outlasts_57 jlk_X11_240 rfl rfl rfl rfl (Nat.le_of_ble_eq_true rfl) (m_eatsOne (by rw [eA_84]; exact hw)) (fun r9 w9 h9 => ?_)
      obtain ⟨rfl, Z9, rfl⟩ := h9
      rw [eA_84, eA_85, eA_eA]
      refine j_atw (w' := tw X (eA A (stepE c).1 (stepE c).2 Z9) L) rfl ?_
      refine j_ats (st' := [.int _]) rfl ?_
      refine j_pop dX11_outlasts_60 rfl ?_
      refine jn_iinc (lv' := [some (.ref 76), some (.int _), some (.int _), some (.int _), some (.int _)]) dX11_outlasts_61 rfl (by decide) rfl ?_
      refine j_goto (tgt := 33) dX11_outlasts_64 (by decide) ?_
      refine ih (i + 1) (stepE c) (nI i) Z9 (by omega) (stepE_z hz) (ow_step hw) ?_
      rw [← hr]
      show _ = omF k x m (i + 1) (stepE c) (if balS c.1 c.2 k 49 < x then y else nI i)
      rw [if_neg h46]

set_option maxHeartbeats 200000 in
set_option maxRecDepth 100000 in
theorem m_outlasts (hn : X 76 7 = nI na) (h6 : na ≤ 6) (z1 : zb 49 (A 82)) (z2 : zb 49 (A 83)) (z3 : zb 49 (A 84)) (z4 : zb 49 (A 85)) (hw : ow (A 82)) {k x : Nat} (hk : k < na) (hx1 : 1 ≤ x) (hx : x ≤ 99) : jMet (d + 4) yX11_outlasts cX11_outlasts 5 (some .int) 0 0 [.ref 76, .int (nI k), .int (nI x)] (tw X A L) ((fun z w => z = some (.int (omF (nI k) (nI x) 50 0 (A 82, A 83) (-2))) ∧ ∃ (c : cS) (Z : Nat → Int32), (zb 49 c.1 ∧ zb 49 c.2) ∧ w = tw X (eA A c.1 c.2 Z) L)) := by
  refine jMet_of (by decide) (Nat.le_of_ble_eq_true rfl) none (Or.inl rfl) ?_
  show jWP none RX11 cX11_outlasts 5 (some .int) (d + 4) 0 0 0 [some (.ref 76), some (.int (nI k)), some (.int (nI x)), none, none] [] (tw X A L) ((fun z w => z = some (.int (omF (nI k) (nI x) 50 0 (A 82, A 83) (-2))) ∧ ∃ (c : cS) (Z : Nat → Int32), (zb 49 c.1 ∧ zb 49 c.2) ∧ w = tw X (eA A c.1 c.2 Z) L))
  refine j_aload_n dX11_outlasts_0 rfl rfl ?_
  refine j_iload_n dX11_outlasts_1 rfl rfl ?_
  refine j_i2l dX11_outlasts_2 ?_
  refine j_callVi [.long _] [] dX11_outlasts_3 jlk_X11_128 rfl rfl rfl rfl (Nat.le_of_ble_eq_true rfl) (jMet_i (m_isAccount hn h6) (isA_in hk (by omega)) rfl) ?_
  refine j_if_eq (tgt := 21) dX11_outlasts_6 (by decide) (fun h => absurd h (by decide)) (fun _ => ?_)
  refine j_iload_n dX11_outlasts_9 rfl rfl ?_
  refine j_i2l dX11_outlasts_10 ?_
  refine j_lconst (v := 1) dX11_outlasts_11 rfl ?_
  refine j_ldc2 dX11_outlasts_12 jw_k_X11_249 ?_
  refine j_callSi [.long _, .long _, .long _] [] dX11_outlasts_15 jlk_X11_111 rfl rfl (Nat.le_of_ble_eq_true rfl) (jMet_i m_within (wi_1 hx1 hx (by decide) (by decide) (by decide)) rfl) ?_
  refine j_if_ne (tgt := 23) dX11_outlasts_18 (by decide) (fun _ => ?_) (fun h => absurd h (by decide))
  refine j_aload_n dX11_outlasts_23 rfl rfl ?_
  refine j_callVv [] [] dX11_outlasts_24 jlk_X11_140 rfl rfl rfl rfl (Nat.le_of_ble_eq_true rfl) (m_begins1 z1 z2 z3 z4) ?_
  refine j_bipush (v := (-2)) dX11_outlasts_27 rfl ?_
  refine j_istore_n (lv' := [some (.ref 76), some (.int _), some (.int _), some (.int _), none]) dX11_outlasts_29 rfl (by decide) rfl ?_
  refine j_iconst (v := nI 0) dX11_outlasts_30 rfl ?_
  refine j_istore (lv' := [some (.ref 76), some (.int _), some (.int _), some (.int _), some (.int _)]) dX11_outlasts_31 (by decide) rfl ?_
  refine j_atw (congrArg (fun z => tw X z L) (mA_eA A (A 82) (A 83))) (l_outlasts_m 50 0 (A 82, A 83) (-2) (A 89) (by decide) ⟨z1, z2⟩ hw rfl)

set_option maxHeartbeats 200000 in
set_option maxRecDepth 100000 in
theorem m_outlasts_no (hn : X 76 7 = nI na) (h6 : na ≤ 6) {a x : Int32} (h : isA na a = nI 0 ∨ x < nI 1 ∨ nI 99 < x) : jMet (d + 4) yX11_outlasts cX11_outlasts 5 (some .int) 0 0 [.ref 76, .int a, .int x] (tw X A L) (jRi (-1) (tw X A L)) := by
  refine jMet_of (by decide) (Nat.le_of_ble_eq_true rfl) none (Or.inl rfl) ?_
  show jWP none RX11 cX11_outlasts 5 (some .int) (d + 4) 0 0 0 [some (.ref 76), some (.int a), some (.int x), none, none] [] (tw X A L) (jRi (-1) (tw X A L))
  refine j_aload_n dX11_outlasts_0 rfl rfl ?_
  refine j_iload_n dX11_outlasts_1 rfl rfl ?_
  refine j_i2l dX11_outlasts_2 ?_
  refine j_callVi [.long _] [] dX11_outlasts_3 jlk_X11_128 rfl rfl rfl rfl (Nat.le_of_ble_eq_true rfl) (m_isAccount hn h6) ?_
  refine j_if_eq (tgt := 21) dX11_outlasts_6 (by decide) (fun h6 => ?_) (fun h6 => ?_)
  · refine j_iconst (v := (-1)) dX11_outlasts_21 rfl ?_
    refine j_ireturn dX11_outlasts_22 rfl ?_
    exact ⟨rfl, rfl⟩
  · refine j_iload_n dX11_outlasts_9 rfl rfl ?_
    refine j_i2l dX11_outlasts_10 ?_
    refine j_lconst (v := 1) dX11_outlasts_11 rfl ?_
    refine j_ldc2 dX11_outlasts_12 jw_k_X11_249 ?_
    refine j_callSi [.long _, .long _, .long _] [] dX11_outlasts_15 jlk_X11_111 rfl rfl (Nat.le_of_ble_eq_true rfl) (m_within) ?_
    refine j_if_ne (tgt := 23) dX11_outlasts_18 (by decide) (fun h18 => ?_) (fun h18 => ?_)
    · exfalso
      have hw := wi_1g (a := 1) (b := 99) h18 (by decide) (by decide)
      rcases h with q | q | q
      · exact h6 q
      · exact hw.1 q
      · exact hw.2 q
    · refine j_iconst (v := (-1)) dX11_outlasts_21 rfl ?_
      refine j_ireturn dX11_outlasts_22 rfl ?_
      exact ⟨rfl, rfl⟩

set_option maxHeartbeats 200000 in
set_option maxRecDepth 100000 in
theorem l_swarms (hw : ow (A 84)) {z m : Nat} (hz : z < 49) (hm : m < 2 ^ 30) : ∀ (q i : Nat), i ≤ 49 → 49 - i < q → jWP none RX11 cX11_swarms 5 (some .int) (d + 1) 0 0 5 [some (.ref 76), some (.int (nI z)), some (.int (nI m)), some (.int (nI (abS z m (A 84, A 85) i).2)), some (.int (nI i))] [] (tw X (mA A (abS z m (A 84, A 85) i).1.1 (abS z m (A 84, A 85) i).1.2) L) (jRi (nI (abS z m (A 84, A 85) 49).2) (tw X (mA A (abS z m (A 84, A 85) 49).1.1 (abS z m (A 84, A 85) 49).1.2) L)) := by
  intro q
  induction q with
  | zero => intro i h1 h2; omega
  | succ q ih =>
    intro i hi hq
    refine j_iload dX11_swarms_5 rfl ?_
    refine j_bipush (v := nI 49) dX11_swarms_7 rfl ?_
    refine jn_icmp_ge (tgt := 62) dX11_swarms_9 (by decide) (by omega) (by omega) (fun h9 => ?_) (fun h9 => ?_)
    · refine j_iload_n dX11_swarms_62 rfl rfl ?_
      refine j_ireturn dX11_swarms_63 rfl ?_
      obtain rfl : i = 49 := by omega
      exact ⟨rfl, rfl⟩
    · refine j_aload_n dX11_swarms_12 rfl rfl ?_
      refine t_getR (b := 81) dX11_swarms_13 jfl_X11_24 (fun _ _ _ => rfl) rfl ?_
      refine j_bipush (v := nI 49) dX11_swarms_16 rfl ?_
      refine j_iload_n dX11_swarms_18 rfl rfl ?_
      refine jn_imul dX11_swarms_19 ?_
      refine j_iload dX11_swarms_20 rfl ?_
      refine jn_iadd dX11_swarms_22 ?_
      refine t_ialoadT dX11_swarms_23 (fun _ _ _ => rfl) (by omega) (by decide) ?_
      refine j_topE (e' := nI (dsN z i)) (by rw [Nat.mul_comm]; exact tDs_at (by omega)) ?_
      refine j_iload_n dX11_swarms_24 rfl rfl ?_
      refine jn_icmp_gt (tgt := 56) dX11_swarms_25 (by decide) (dsN_le hz (by omega)) (by omega) (fun h25 => ?_) (fun h25 => ?_)
      · refine jn_iinc (lv' := [some (.ref 76), some (.int _), some (.int _), some (.int _), some (.int _)]) dX11_swarms_56 rfl (by decide) rfl ?_
        refine j_goto (tgt := 5) dX11_swarms_59 (by decide) ?_
        refine j_sub ?_ (j_atw ?_ (ih (i + 1) (by omega) (by omega)))
        · rw [abS_f (Or.inr (by omega))]; exact ⟨rfl, rfl, rfl, rfl, rfl, trivial⟩
        · rw [abS_f (Or.inr (by omega))]
      · refine j_aload_n dX11_swarms_28 rfl rfl ?_
        refine j_iload dX11_swarms_29 rfl ?_
        refine j_callVi [.int _] [] dX11_swarms_31 jlk_X11_147 rfl rfl rfl rfl (Nat.le_of_ble_eq_true rfl) (m_holds (c := i) (show ow _ from by rw [mA_84]; exact abS_ow hw i) (by omega)) ?_
        rw [mA_84]
        refine j_if_eq (tgt := 56) dX11_swarms_34 (by decide) (fun h34 => ?_) (fun h34 => ?_)
        · have h34 := bz_f h34
          refine jn_iinc (lv' := [some (.ref 76), some (.int _), some (.int _), some (.int _), some (.int _)]) dX11_swarms_56 rfl (by decide) rfl ?_
          refine j_goto (tgt := 5) dX11_swarms_59 (by decide) ?_
          refine j_sub ?_ (j_atw ?_ (ih (i + 1) (by omega) (by omega)))
          · rw [abS_f (Or.inl h34)]; exact ⟨rfl, rfl, rfl, rfl, rfl, trivial⟩
          · rw [abS_f (Or.inl h34)]
        · have h34 := bz_t h34
          refine j_aload_n dX11_swarms_37 rfl rfl ?_
          refine t_getR (b := 84) dX11_swarms_38 jfl_X11_33 (fun _ _ _ => rfl) rfl ?_
          refine j_iload dX11_swarms_41 rfl ?_
          refine j_iconst (v := (-1)) dX11_swarms_43 rfl ?_
          refine t_iastore dX11_swarms_44 (fun _ _ _ => rfl) (by omega) (by decide) ?_
          refine j_aload_n dX11_swarms_45 rfl rfl ?_
          refine t_getR (b := 85) dX11_swarms_46 jfl_X11_36 (fun _ _ _ => rfl) rfl ?_
          refine j_iload dX11_swarms_49 rfl ?_
          refine j_iconst (v := nI 0) dX11_swarms_51 rfl ?_
          refine t_iastore dX11_swarms_52 (fun _ _ _ => rfl) (by omega) (by decide) ?_
          refine jn_iinc (lv' := [some (.ref 76), some (.int _), some (.int _), some (.int _), some (.int _)]) dX11_swarms_53 rfl (by decide) rfl ?_
          refine jn_iinc (lv' := [some (.ref 76), some (.int _), some (.int _), some (.int _), some (.int _)]) dX11_swarms_56 rfl (by decide) rfl ?_
          refine j_goto (tgt := 5) dX11_swarms_59 (by decide) ?_
          refine j_sub ?_ (j_atw ?_ (ih (i + 1) (by omega) (by omega)))
          · rw [abS_t h34 (by omega)]; exact ⟨rfl, rfl, rfl, rfl, rfl, trivial⟩
          · rw [abS_t h34 (by omega), mA_84, mA_p84, mA_85, mA_p85]; rfl

set_option maxHeartbeats 200000 in
set_option maxRecDepth 100000 in
theorem m_swarms (hw : ow (A 84)) {z m : Nat} (hz : z < 49) (hm : m < 2 ^ 30) : jMet (d + 1) yX11_swarms cX11_swarms 5 (some .int) 0 0 [.ref 76, .int (nI z), .int (nI m)] (tw X A L) (jRi (nI (abS z m (A 84, A 85) 49).2) (tw X (mA A (abS z m (A 84, A 85) 49).1.1 (abS z m (A 84, A 85) 49).1.2) L)) := by
  refine jMet_of (by decide) (Nat.le_of_ble_eq_true rfl) none (Or.inl rfl) ?_
  show jWP none RX11 cX11_swarms 5 (some .int) (d + 1) 0 0 0 [some (.ref 76), some (.int (nI z)), some (.int (nI m)), none, none] [] (tw X A L) (jRi (nI (abS z m (A 84, A 85) 49).2) (tw X (mA A (abS z m (A 84, A 85) 49).1.1 (abS z m (A 84, A 85) 49).1.2) L))
  refine j_iconst (v := nI 0) dX11_swarms_0 rfl ?_
  refine j_istore_n (lv' := [some (.ref 76), some (.int _), some (.int _), some (.int _), none]) dX11_swarms_1 rfl (by decide) rfl ?_
  refine j_iconst (v := nI 0) dX11_swarms_2 rfl ?_
  refine j_istore (lv' := [some (.ref 76), some (.int _), some (.int _), some (.int _), some (.int _)]) dX11_swarms_3 (by decide) rfl ?_
  refine j_atw (congrArg (fun z => tw X z L) (mA_self A).symm) (l_swarms hw hz hm 50 0 (by decide) (by decide))

set_option maxHeartbeats 200000 in
set_option maxRecDepth 100000 in
theorem m_isCm_neg {c : Int32} (h : c < 0) : jMet (d + 2) yX11_isCm cX11_isCm 1 (some .boolean) 0 0 [.int c] (w) (jRi (nI 0) w) := by
  refine jMet_of (by decide) (Nat.le_of_ble_eq_true rfl) none (Or.inl rfl) ?_
  show jWP none RX11 cX11_isCm 1 (some .boolean) (d + 2) 0 0 0 [some (.int c)] [] (w) (jRi (nI 0) w)
  refine j_iload_n dX11_isCm_0 rfl rfl ?_
  refine j_if_lt (tgt := 27) dX11_isCm_1 (by decide) (fun h1 => ?_) (fun h1 => absurd h h1)
  refine j_iconst (v := nI 0) dX11_isCm_27 rfl ?_
  refine j_zreturn dX11_isCm_28 rfl (by decide) ?_
  exact ⟨rfl, rfl⟩

set_option maxHeartbeats 200000 in
set_option maxRecDepth 100000 in
theorem m_isCm {k : Nat} (hk : k < 2 ^ 31) : jMet (d + 2) yX11_isCm cX11_isCm 1 (some .boolean) 0 0 [.int (nI k)] (w) (jRi (bz (swB k)) w) := by
  refine jMet_of (by decide) (Nat.le_of_ble_eq_true rfl) none (Or.inl rfl) ?_
  show jWP none RX11 cX11_isCm 1 (some .boolean) (d + 2) 0 0 0 [some (.int (nI k))] [] (w) (jRi (bz (swB k)) w)
  refine j_iload_n dX11_isCm_0 rfl rfl ?_
  refine jn_if_lt (tgt := 27) dX11_isCm_1 (by decide) hk ?_
  refine j_iload_n dX11_isCm_4 rfl rfl ?_
  refine j_bipush (v := nI 10) dX11_isCm_5 rfl ?_
  refine jn_idiv dX11_isCm_7 hk (by decide) (by decide) ?_
  refine j_i2l dX11_isCm_8 ?_
  refine j_callSi [.long _] [] dX11_isCm_9 jlk_X11_120 rfl rfl (Nat.le_of_ble_eq_true rfl) (m_isCell) ?_
  refine j_if_eq (tgt := 27) dX11_isCm_12 (by decide) (fun h12 => ?_) (fun h12 => ?_)
  · have h12 : ¬ k / 10 < 49 := fun q => by rw [isc_in q] at h12; exact absurd h12 (by decide)
    refine j_iconst (v := nI 0) dX11_isCm_27 rfl ?_
    refine j_zreturn dX11_isCm_28 rfl (by decide) ?_
    exact ⟨by simp [swB, bz, h12], rfl⟩
  · have h12 : k / 10 < 49 := by
      rcases isc_cases (nI (k / 10)) with q | ⟨j, hj, e⟩
      · exact absurd q h12
      · rw [(nI_eq (by omega) (by omega)).mp e]; exact hj
    refine j_iload_n dX11_isCm_15 rfl rfl ?_
    refine j_bipush (v := nI 10) dX11_isCm_16 rfl ?_
    refine jn_irem dX11_isCm_18 hk (by decide) (by decide) ?_
    refine j_iconst (v := nI 3) dX11_isCm_19 rfl ?_
    refine jn_icmp_gt (tgt := 27) dX11_isCm_20 (by decide) (by omega) (by omega) (fun h20 => ?_) (fun h20 => ?_)
    · refine j_iconst (v := nI 0) dX11_isCm_27 rfl ?_
      refine j_zreturn dX11_isCm_28 rfl (by decide) ?_
      exact ⟨by simp [swB, bz, h12, Nat.not_le.mpr h20], rfl⟩
    · refine j_iconst (v := nI 1) dX11_isCm_23 rfl ?_
      refine j_goto (tgt := 28) dX11_isCm_24 (by decide) ?_
      refine j_zreturn dX11_isCm_28 rfl (by decide) ?_
      exact ⟨by simp [swB, bz, h12, h20], rfl⟩

theorem m_isCm_b {k : Nat} (hk : k < 2 ^ 31) {b : Bool} (h : swB k = b) : jMet (d + 2) yX11_isCm cX11_isCm 1 (some .boolean) 0 0 [.int (nI k)] w (jRi (bz b) w) := h ▸ m_isCm hk

set_option maxHeartbeats 200000 in
set_option maxRecDepth 100000 in
theorem m_swarm_neg {c a : Int32} (h : c < 0) : jMet (d + 3) yX11_swarm cX11_swarm 4 (some .int) 0 0 [.ref 76, .int c, .int a] (tw X A L) (jRi (-1) (tw X A L)) := by
  refine jMet_of (by decide) (Nat.le_of_ble_eq_true rfl) none (Or.inl rfl) ?_
  show jWP none RX11 cX11_swarm 4 (some .int) (d + 3) 0 0 0 [some (.ref 76), some (.int c), some (.int a), none] [] (tw X A L) (jRi (-1) (tw X A L))
  refine j_iload_n dX11_swarm_0 rfl rfl ?_
  refine j_callSi [.int _] [] dX11_swarm_1 jlk_X11_264 rfl rfl (Nat.le_of_ble_eq_true rfl) (m_isCm_neg h) ?_
  refine j_if_eq (tgt := 21) dX11_swarm_4 (by decide) (fun _ => ?_) (fun h => absurd (by decide) h)
  refine j_iconst (v := (-1)) dX11_swarm_21 rfl ?_
  refine j_ireturn dX11_swarm_22 rfl ?_
  exact ⟨rfl, rfl⟩

set_option maxHeartbeats 200000 in
set_option maxRecDepth 100000 in
theorem m_swarm_no {k : Nat} (hk : k < 2 ^ 31) {a : Int32} (h : swB k = false) : jMet (d + 3) yX11_swarm cX11_swarm 4 (some .int) 0 0 [.ref 76, .int (nI k), .int a] (tw X A L) (jRi (-1) (tw X A L)) := by
  refine jMet_of (by decide) (Nat.le_of_ble_eq_true rfl) none (Or.inl rfl) ?_
  show jWP none RX11 cX11_swarm 4 (some .int) (d + 3) 0 0 0 [some (.ref 76), some (.int (nI k)), some (.int a), none] [] (tw X A L) (jRi (-1) (tw X A L))
  refine j_iload_n dX11_swarm_0 rfl rfl ?_
  refine j_callSi [.int _] [] dX11_swarm_1 jlk_X11_264 rfl rfl (Nat.le_of_ble_eq_true rfl) (m_isCm_b hk h) ?_
  refine j_if_eq (tgt := 21) dX11_swarm_4 (by decide) (fun _ => ?_) (fun h => absurd (by decide) h)
  refine j_iconst (v := (-1)) dX11_swarm_21 rfl ?_
  refine j_ireturn dX11_swarm_22 rfl ?_
  exact ⟨rfl, rfl⟩

set_option maxHeartbeats 200000 in
set_option maxRecDepth 100000 in
theorem m_swarm_no2 (hn : X 76 7 = nI na) (h6 : na ≤ 6) {k : Nat} (hk : k < 2 ^ 31) (h : swB k = true) {a : Int32} (h1 : a ≠ -1) (h2 : isA na a = nI 0) : jMet (d + 3) yX11_swarm cX11_swarm 4 (some .int) 0 0 [.ref 76, .int (nI k), .int a] (tw X A L) (jRi (-1) (tw X A L)) := by
  refine jMet_of (by decide) (Nat.le_of_ble_eq_true rfl) none (Or.inl rfl) ?_
  show jWP none RX11 cX11_swarm 4 (some .int) (d + 3) 0 0 0 [some (.ref 76), some (.int (nI k)), some (.int a), none] [] (tw X A L) (jRi (-1) (tw X A L))
  refine j_iload_n dX11_swarm_0 rfl rfl ?_
  refine j_callSi [.int _] [] dX11_swarm_1 jlk_X11_264 rfl rfl (Nat.le_of_ble_eq_true rfl) (m_isCm_b hk h) ?_
  refine j_if_eq (tgt := 21) dX11_swarm_4 (by decide) (fun h => absurd h (by decide)) (fun _ => ?_)
  refine j_iload_n dX11_swarm_7 rfl rfl ?_
  refine j_iconst (v := (-1)) dX11_swarm_8 rfl ?_
  refine j_icmp_eq (tgt := 23) dX11_swarm_9 (by decide) (fun h9 => absurd h9 h1) (fun h9 => ?_)
  refine j_aload_n dX11_swarm_12 rfl rfl ?_
  refine j_iload_n dX11_swarm_13 rfl rfl ?_
  refine j_i2l dX11_swarm_14 ?_
  refine j_callVi [.long _] [] dX11_swarm_15 jlk_X11_128 rfl rfl rfl rfl (Nat.le_of_ble_eq_true rfl) (jMet_i (m_isAccount hn h6) h2 rfl) ?_
  refine j_if_ne (tgt := 23) dX11_swarm_18 (by decide) (fun h => absurd (by decide) h) (fun _ => ?_)
  refine j_iconst (v := (-1)) dX11_swarm_21 rfl ?_
  refine j_ireturn dX11_swarm_22 rfl ?_
  exact ⟨rfl, rfl⟩

set_option maxHeartbeats 200000 in
set_option maxRecDepth 100000 in
theorem m_swarm_all (z1 : zb 49 (A 82)) (z2 : zb 49 (A 83)) (z3 : zb 49 (A 84)) (z4 : zb 49 (A 85)) (hw : ow (A 82)) {k : Nat} (hk : k < 2 ^ 31) (h : swB k = true) : jMet (d + 3) yX11_swarm cX11_swarm 4 (some .int) 0 0 [.ref 76, .int (nI k), .int (-1)] (tw X A L) (jRi (nI (abS (k / 10) (k % 10) (A 82, A 83) 49).2) (tw X (mA A (abS (k / 10) (k % 10) (A 82, A 83) 49).1.1 (abS (k / 10) (k % 10) (A 82, A 83) 49).1.2) L)) := by
  refine jMet_of (by decide) (Nat.le_of_ble_eq_true rfl) none (Or.inl rfl) ?_
  show jWP none RX11 cX11_swarm 4 (some .int) (d + 3) 0 0 0 [some (.ref 76), some (.int (nI k)), some (.int (-1)), none] [] (tw X A L) (jRi (nI (abS (k / 10) (k % 10) (A 82, A 83) 49).2) (tw X (mA A (abS (k / 10) (k % 10) (A 82, A 83) 49).1.1 (abS (k / 10) (k % 10) (A 82, A 83) 49).1.2) L))
  have hsw : k / 10 < 49 ∧ k % 10 ≤ 3 := by unfold swB at h; simpa using h
  refine j_iload_n dX11_swarm_0 rfl rfl ?_
  refine j_callSi [.int _] [] dX11_swarm_1 jlk_X11_264 rfl rfl (Nat.le_of_ble_eq_true rfl) (m_isCm_b hk h) ?_
  refine j_if_eq (tgt := 21) dX11_swarm_4 (by decide) (fun h => absurd h (by decide)) (fun _ => ?_)
  refine j_iload_n dX11_swarm_7 rfl rfl ?_
  refine j_iconst (v := (-1)) dX11_swarm_8 rfl ?_
  refine j_icmp_eq (tgt := 23) dX11_swarm_9 (by decide) (fun _ => ?_) (fun h => absurd (by decide) h)
  refine j_aload_n dX11_swarm_23 rfl rfl ?_
  refine j_callVv [] [] dX11_swarm_24 jlk_X11_140 rfl rfl rfl rfl (Nat.le_of_ble_eq_true rfl) (m_begins1 z1 z2 z3 z4) ?_
  refine j_aload_n dX11_swarm_27 rfl rfl ?_
  refine j_iload_n dX11_swarm_28 rfl rfl ?_
  refine j_bipush (v := nI 10) dX11_swarm_29 rfl ?_
  refine jn_idiv dX11_swarm_31 hk (by decide) (by decide) ?_
  refine j_iload_n dX11_swarm_32 rfl rfl ?_
  refine j_bipush (v := nI 10) dX11_swarm_33 rfl ?_
  refine jn_irem dX11_swarm_35 hk (by decide) (by decide) ?_
  refine j_callVi [.int _, .int _] [] dX11_swarm_36 jlk_X11_267 rfl rfl rfl rfl (Nat.le_of_ble_eq_true rfl) (m_swarms (by rw [mA_84]; exact hw) hsw.1 (by omega)) ?_
  rw [mA_84, mA_85, mA_mA]
  refine j_istore_n (lv' := [some (.ref 76), some (.int _), some (.int _), some (.int _)]) dX11_swarm_39 rfl (by decide) rfl ?_
  refine j_iload_n dX11_swarm_40 rfl rfl ?_
  refine j_if_ge (tgt := 48) dX11_swarm_41 (by decide) (fun h => absurd h (by decide)) (fun _ => ?_)
  refine j_iload_n dX11_swarm_44 rfl rfl ?_
  refine j_goto (tgt := 53) dX11_swarm_45 (by decide) ?_
  refine j_ireturn dX11_swarm_53 rfl ?_
  exact ⟨rfl, rfl⟩

set_option maxHeartbeats 200000 in
set_option maxRecDepth 100000 in
theorem m_swarm (hn : X 76 7 = nI na) (h6 : na ≤ 6) (z1 : zb 49 (A 82)) (z2 : zb 49 (A 83)) (z3 : zb 49 (A 84)) (z4 : zb 49 (A 85)) (hw : ow (A 82)) {k : Nat} (hk : k < 2 ^ 31) (h : swB k = true) {a : Nat} (ha : a < na) : jMet (d + 3) yX11_swarm cX11_swarm 4 (some .int) 0 0 [.ref 76, .int (nI k), .int (nI a)] (tw X A L) (jRi (balS (abS (k / 10) (k % 10) (A 82, A 83) 49).1.1 (abS (k / 10) (k % 10) (A 82, A 83) 49).1.2 (nI a) 49) (tw X (mA A (abS (k / 10) (k % 10) (A 82, A 83) 49).1.1 (abS (k / 10) (k % 10) (A 82, A 83) 49).1.2) L)) := by
  refine jMet_of (by decide) (Nat.le_of_ble_eq_true rfl) none (Or.inl rfl) ?_
  show jWP none RX11 cX11_swarm 4 (some .int) (d + 3) 0 0 0 [some (.ref 76), some (.int (nI k)), some (.int (nI a)), none] [] (tw X A L) (jRi (balS (abS (k / 10) (k % 10) (A 82, A 83) 49).1.1 (abS (k / 10) (k % 10) (A 82, A 83) 49).1.2 (nI a) 49) (tw X (mA A (abS (k / 10) (k % 10) (A 82, A 83) 49).1.1 (abS (k / 10) (k % 10) (A 82, A 83) 49).1.2) L))
  have hsw : k / 10 < 49 ∧ k % 10 ≤ 3 := by unfold swB at h; simpa using h
  refine j_iload_n dX11_swarm_0 rfl rfl ?_
  refine j_callSi [.int _] [] dX11_swarm_1 jlk_X11_264 rfl rfl (Nat.le_of_ble_eq_true rfl) (m_isCm_b hk h) ?_
  refine j_if_eq (tgt := 21) dX11_swarm_4 (by decide) (fun h => absurd h (by decide)) (fun _ => ?_)
  refine j_iload_n dX11_swarm_7 rfl rfl ?_
  refine j_iconst (v := (-1)) dX11_swarm_8 rfl ?_
  refine j_icmp_eq (tgt := 23) dX11_swarm_9 (by decide) (fun h9 => absurd h9 (nI_nm1 (by omega))) (fun h9 => ?_)
  refine j_aload_n dX11_swarm_12 rfl rfl ?_
  refine j_iload_n dX11_swarm_13 rfl rfl ?_
  refine j_i2l dX11_swarm_14 ?_
  refine j_callVi [.long _] [] dX11_swarm_15 jlk_X11_128 rfl rfl rfl rfl (Nat.le_of_ble_eq_true rfl) (jMet_i (m_isAccount hn h6) (isA_in ha (by omega)) rfl) ?_
  refine j_if_ne (tgt := 23) dX11_swarm_18 (by decide) (fun _ => ?_) (fun h => absurd h (by decide))
  refine j_aload_n dX11_swarm_23 rfl rfl ?_
  refine j_callVv [] [] dX11_swarm_24 jlk_X11_140 rfl rfl rfl rfl (Nat.le_of_ble_eq_true rfl) (m_begins1 z1 z2 z3 z4) ?_
  refine j_aload_n dX11_swarm_27 rfl rfl ?_
  refine j_iload_n dX11_swarm_28 rfl rfl ?_
  refine j_bipush (v := nI 10) dX11_swarm_29 rfl ?_
  refine jn_idiv dX11_swarm_31 hk (by decide) (by decide) ?_
  refine j_iload_n dX11_swarm_32 rfl rfl ?_
  refine j_bipush (v := nI 10) dX11_swarm_33 rfl ?_
  refine jn_irem dX11_swarm_35 hk (by decide) (by decide) ?_
  refine j_callVi [.int _, .int _] [] dX11_swarm_36 jlk_X11_267 rfl rfl rfl rfl (Nat.le_of_ble_eq_true rfl) (m_swarms (by rw [mA_84]; exact hw) hsw.1 (by omega)) ?_
  rw [mA_84, mA_85, mA_mA]
  refine j_istore_n (lv' := [some (.ref 76), some (.int _), some (.int _), some (.int _)]) dX11_swarm_39 rfl (by decide) rfl ?_
  refine j_iload_n dX11_swarm_40 rfl rfl ?_
  refine jn_if_ge (tgt := 48) dX11_swarm_41 (by decide) (by omega) ?_
  refine j_aload_n dX11_swarm_48 rfl rfl ?_
  refine j_iload_n dX11_swarm_49 rfl rfl ?_
  refine j_callVi [.int _] [] dX11_swarm_50 jlk_X11_143 rfl rfl rfl rfl (Nat.le_of_ble_eq_true rfl) (m_balanceOf) ?_
  rw [mA_84, mA_85]
  refine j_ireturn dX11_swarm_53 rfl ?_
  exact ⟨rfl, rfl⟩

set_option maxHeartbeats 200000 in
set_option maxRecDepth 100000 in
theorem m_fly_neg {c : Int32} (h : c < 0) : jMet (d + 3) yX11_fly cX11_fly 3 (some .int) 0 0 [.ref 76, .int c] (tw X A L) (jRi (-1) (tw X A L)) := by
  refine jMet_of (by decide) (Nat.le_of_ble_eq_true rfl) none (Or.inl rfl) ?_
  show jWP none RX11 cX11_fly 3 (some .int) (d + 3) 0 0 0 [some (.ref 76), some (.int c), none] [] (tw X A L) (jRi (-1) (tw X A L))
  refine j_iload_n dX11_fly_0 rfl rfl ?_
  refine j_callSi [.int _] [] dX11_fly_1 jlk_X11_264 rfl rfl (Nat.le_of_ble_eq_true rfl) (m_isCm_neg h) ?_
  refine j_if_ne (tgt := 9) dX11_fly_4 (by decide) (fun h => absurd (by decide) h) (fun _ => ?_)
  refine j_iconst (v := (-1)) dX11_fly_7 rfl ?_
  refine j_ireturn dX11_fly_8 rfl ?_
  exact ⟨rfl, rfl⟩

set_option maxHeartbeats 200000 in
set_option maxRecDepth 100000 in
theorem m_fly_no {k : Nat} (hk : k < 2 ^ 31) (h : swB k = false) : jMet (d + 3) yX11_fly cX11_fly 3 (some .int) 0 0 [.ref 76, .int (nI k)] (tw X A L) (jRi (-1) (tw X A L)) := by
  refine jMet_of (by decide) (Nat.le_of_ble_eq_true rfl) none (Or.inl rfl) ?_
  show jWP none RX11 cX11_fly 3 (some .int) (d + 3) 0 0 0 [some (.ref 76), some (.int (nI k)), none] [] (tw X A L) (jRi (-1) (tw X A L))
  refine j_iload_n dX11_fly_0 rfl rfl ?_
  refine j_callSi [.int _] [] dX11_fly_1 jlk_X11_264 rfl rfl (Nat.le_of_ble_eq_true rfl) (m_isCm_b hk h) ?_
  refine j_if_ne (tgt := 9) dX11_fly_4 (by decide) (fun h => absurd (by decide) h) (fun _ => ?_)
  refine j_iconst (v := (-1)) dX11_fly_7 rfl ?_
  refine j_ireturn dX11_fly_8 rfl ?_
  exact ⟨rfl, rfl⟩

set_option maxHeartbeats 200000 in
set_option maxRecDepth 100000 in
theorem m_fly (z1 : zb 49 (A 82)) (z2 : zb 49 (A 83)) (z3 : zb 49 (A 84)) (z4 : zb 49 (A 85)) (hw : ow (A 82)) {k : Nat} (hk : k < 2 ^ 31) (h : swB k = true) : jMet (d + 3) yX11_fly cX11_fly 3 (some .int) 0 0 [.ref 76, .int (nI k)] (tw X A L) (jRi (nI (abS (k / 10) (k % 10) (A 82, A 83) 49).2) (tw X (dA A (abS (k / 10) (k % 10) (A 82, A 83) 49).1.1 (abS (k / 10) (k % 10) (A 82, A 83) 49).1.2 (A 89) (upd (A 94) 4 (A 94 4 + nI (abS (k / 10) (k % 10) (A 82, A 83) 49).2))) L)) := by
  refine jMet_of (by decide) (Nat.le_of_ble_eq_true rfl) none (Or.inl rfl) ?_
  show jWP none RX11 cX11_fly 3 (some .int) (d + 3) 0 0 0 [some (.ref 76), some (.int (nI k)), none] [] (tw X A L) (jRi (nI (abS (k / 10) (k % 10) (A 82, A 83) 49).2) (tw X (dA A (abS (k / 10) (k % 10) (A 82, A 83) 49).1.1 (abS (k / 10) (k % 10) (A 82, A 83) 49).1.2 (A 89) (upd (A 94) 4 (A 94 4 + nI (abS (k / 10) (k % 10) (A 82, A 83) 49).2))) L))
  have hsw : k / 10 < 49 ∧ k % 10 ≤ 3 := by unfold swB at h; simpa using h
  refine j_iload_n dX11_fly_0 rfl rfl ?_
  refine j_callSi [.int _] [] dX11_fly_1 jlk_X11_264 rfl rfl (Nat.le_of_ble_eq_true rfl) (m_isCm_b hk h) ?_
  refine j_if_ne (tgt := 9) dX11_fly_4 (by decide) (fun _ => ?_) (fun h => absurd h (by decide))
  refine j_aload_n dX11_fly_9 rfl rfl ?_
  refine j_callVv [] [] dX11_fly_10 jlk_X11_140 rfl rfl rfl rfl (Nat.le_of_ble_eq_true rfl) (m_begins1 z1 z2 z3 z4) ?_
  refine j_aload_n dX11_fly_13 rfl rfl ?_
  refine j_iload_n dX11_fly_14 rfl rfl ?_
  refine j_bipush (v := nI 10) dX11_fly_15 rfl ?_
  refine jn_idiv dX11_fly_17 hk (by decide) (by decide) ?_
  refine j_iload_n dX11_fly_18 rfl rfl ?_
  refine j_bipush (v := nI 10) dX11_fly_19 rfl ?_
  refine jn_irem dX11_fly_21 hk (by decide) (by decide) ?_
  refine j_callVi [.int _, .int _] [] dX11_fly_22 jlk_X11_267 rfl rfl rfl rfl (Nat.le_of_ble_eq_true rfl) (m_swarms (by rw [mA_84]; exact hw) hsw.1 (by omega)) ?_
  rw [mA_84, mA_85, mA_mA]
  refine j_istore_n (lv' := [some (.ref 76), some (.int _), some (.int _)]) dX11_fly_25 rfl (by decide) rfl ?_
  refine j_aload_n dX11_fly_26 rfl rfl ?_
  refine j_callVv [] [] dX11_fly_27 jlk_X11_326 rfl rfl rfl rfl (Nat.le_of_ble_eq_true rfl) (m_lays (by rw [mA_n _ _ _ (by decide) (by decide)]; exact z1) (by rw [mA_n _ _ _ (by decide) (by decide)]; exact z2) (by rw [mA_84]; exact (abS_z z1 z2 49 (by decide)).1) (by rw [mA_85]; exact (abS_z z1 z2 49 (by decide)).2)) ?_
  refine j_aload_n dX11_fly_30 rfl rfl ?_
  refine t_getR (b := 94) dX11_fly_31 jfl_X11_64 (fun _ _ _ => rfl) rfl ?_
  refine j_iconst (v := nI 4) dX11_fly_34 rfl ?_
  refine j_dup2 dX11_fly_35 rfl rfl ?_
  refine t_iaload dX11_fly_36 (fun _ _ _ => rfl) (by omega) (by decide) ?_
  refine j_iload_n dX11_fly_37 rfl rfl ?_
  refine j_iadd dX11_fly_38 ?_
  refine t_iastore dX11_fly_39 (fun _ _ _ => rfl) (by omega) (by decide) ?_
  refine j_iload_n dX11_fly_40 rfl rfl ?_
  refine j_ireturn dX11_fly_41 rfl ?_
  refine ⟨rfl, tw_eq rfl ?_ rfl⟩
  unfold dA
  rw [mA_84, mA_85, lA_n _ _ _ (by decide) (by decide), mA_n _ _ _ (by decide) (by decide), ← mA_eA]

set_option maxHeartbeats 200000 in
set_option maxRecDepth 100000 in
theorem m_eat (z1 : zb 49 (A 82)) (z2 : zb 49 (A 83)) (z3 : zb 49 (A 84)) (z4 : zb 49 (A 85)) (hw : ow (A 82)) {n : Nat} (hn50 : n < 50) : jMet (d + 4) yX11_eat cX11_eat 3 (some .int) 0 0 [.ref 76, .int (nI n)] (tw X A L) ((fun z w => z = some (.int (nI (min n (hN (A 82))))) ∧ ∃ Z, w = tw X (dA A (winS (min n (hN (A 82, A 83).1)) (A 82, A 83)).1 (winS (min n (hN (A 82, A 83).1)) (A 82, A 83)).2 Z (upd (upd (A 94) 2 (A 94 2 + nI (min n (hN (A 82))))) 5 (A 94 5 + nI 1))) L)) := by
  refine jMet_of (by decide) (Nat.le_of_ble_eq_true rfl) none (Or.inl rfl) ?_
  show jWP none RX11 cX11_eat 3 (some .int) (d + 4) 0 0 0 [some (.ref 76), some (.int (nI n)), none] [] (tw X A L) ((fun z w => z = some (.int (nI (min n (hN (A 82))))) ∧ ∃ Z, w = tw X (dA A (winS (min n (hN (A 82, A 83).1)) (A 82, A 83)).1 (winS (min n (hN (A 82, A 83).1)) (A 82, A 83)).2 Z (upd (upd (A 94) 2 (A 94 2 + nI (min n (hN (A 82))))) 5 (A 94 5 + nI 1))) L))
  refine j_iload_n dX11_eat_0 rfl rfl ?_
  refine j_i2l dX11_eat_1 ?_
  refine j_lconst (v := 0) dX11_eat_2 rfl ?_
  refine j_ldc2 dX11_eat_3 jw_k_X11_244 ?_
  refine j_callSi [.long _, .long _, .long _] [] dX11_eat_6 jlk_X11_111 rfl rfl (Nat.le_of_ble_eq_true rfl) (jMet_i m_within (wi_in (k := 49) (by omega) (by decide) (by decide)) rfl) ?_
  refine j_if_ne (tgt := 14) dX11_eat_9 (by decide) (fun _ => ?_) (fun h => absurd h (by decide))
  refine j_aload_n dX11_eat_14 rfl rfl ?_
  refine j_callVv [] [] dX11_eat_15 jlk_X11_140 rfl rfl rfl rfl (Nat.le_of_ble_eq_true rfl) (m_begins1 z1 z2 z3 z4) ?_
  refine j_aload_n dX11_eat_18 rfl rfl ?_
  refine j_iload_n dX11_eat_19 rfl rfl ?_
  refine j_callV [.int _] [] dX11_eat_20 jlk_X11_246 rfl rfl rfl rfl (Nat.le_of_ble_eq_true rfl) (m_winters (by rw [mA_84]; exact hw) (by omega)) (fun r9 w9 h9 => ?_)
  obtain ⟨rfl, Z9, rfl⟩ := h9
  rw [mA_84, mA_85, mA_e]
  refine j_ats (st' := [.int _]) rfl ?_
  refine j_istore_n (lv' := [some (.ref 76), some (.int _), some (.int _)]) dX11_eat_23 rfl (by decide) rfl ?_
  refine j_aload_n dX11_eat_24 rfl rfl ?_
  refine j_callVv [] [] dX11_eat_25 jlk_X11_326 rfl rfl rfl rfl (Nat.le_of_ble_eq_true rfl) (m_lays (by rw [eA_n _ _ _ _ (by decide) (by decide) (by decide)]; exact z1) (by rw [eA_n _ _ _ _ (by decide) (by decide) (by decide)]; exact z2) (by rw [eA_84]; exact (winS_z (c := (A 82, A 83)) z1 z2 _).1) (by rw [eA_85]; exact (winS_z (c := (A 82, A 83)) z1 z2 _).2)) ?_
  refine j_aload_n dX11_eat_28 rfl rfl ?_
  refine t_getR (b := 94) dX11_eat_29 jfl_X11_64 (fun _ _ _ => rfl) rfl ?_
  refine j_iconst (v := nI 2) dX11_eat_32 rfl ?_
  refine j_dup2 dX11_eat_33 rfl rfl ?_
  refine t_iaload dX11_eat_34 (fun _ _ _ => rfl) (by omega) (by decide) ?_
  refine j_iload_n dX11_eat_35 rfl rfl ?_
  refine j_iadd dX11_eat_36 ?_
  refine t_iastore dX11_eat_37 (fun _ _ _ => rfl) (by omega) (by decide) ?_
  refine j_aload_n dX11_eat_38 rfl rfl ?_
  refine t_getR (b := 94) dX11_eat_39 jfl_X11_64 (fun _ _ _ => rfl) rfl ?_
  refine j_iconst (v := nI 5) dX11_eat_42 rfl ?_
  refine j_dup2 dX11_eat_43 rfl rfl ?_
  refine t_iaload dX11_eat_44 (fun _ _ _ => rfl) (by omega) (by decide) ?_
  refine j_iconst (v := nI 1) dX11_eat_45 rfl ?_
  refine j_iadd dX11_eat_46 ?_
  refine t_iastore dX11_eat_47 (fun _ _ _ => rfl) (by omega) (by decide) ?_
  refine j_iload_n dX11_eat_48 rfl rfl ?_
  refine j_ireturn dX11_eat_49 rfl ?_
  refine ⟨rfl, Z9, tw_eq rfl ?_ rfl⟩
  unfold dA
  rw [vu_s, vu_up, eA_84, eA_85, lA_n _ _ _ (by decide) (by decide), eA_n _ _ _ _ (by decide) (by decide) (by decide), ud_n _ _ _ (by decide)]

set_option maxHeartbeats 200000 in
set_option maxRecDepth 100000 in
theorem m_eat_no {c : Int32} (h : isA 50 c = nI 0) : jMet (d + 4) yX11_eat cX11_eat 3 (some .int) 0 0 [.ref 76, .int c] (tw X A L) (jRi (-1) (tw X A L)) := by
  refine jMet_of (by decide) (Nat.le_of_ble_eq_true rfl) none (Or.inl rfl) ?_
  show jWP none RX11 cX11_eat 3 (some .int) (d + 4) 0 0 0 [some (.ref 76), some (.int c), none] [] (tw X A L) (jRi (-1) (tw X A L))
  refine j_iload_n dX11_eat_0 rfl rfl ?_
  refine j_i2l dX11_eat_1 ?_
  refine j_lconst (v := 0) dX11_eat_2 rfl ?_
  refine j_ldc2 dX11_eat_3 jw_k_X11_244 ?_
  refine j_callSi [.long _, .long _, .long _] [] dX11_eat_6 jlk_X11_111 rfl rfl (Nat.le_of_ble_eq_true rfl) (jMet_i m_within ((wi_A (k := 49) (by decide) (by decide)).trans h) rfl) ?_
  refine j_if_ne (tgt := 14) dX11_eat_9 (by decide) (fun h => absurd (by decide) h) (fun _ => ?_)
  refine j_iconst (v := (-1)) dX11_eat_12 rfl ?_
  refine j_ireturn dX11_eat_13 rfl ?_
  exact ⟨rfl, rfl⟩

end CT48