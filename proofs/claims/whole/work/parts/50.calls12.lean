def acX (X : Nat → Nat → Int32) (m : Nat) : Nat → Nat → Int32 := va_up X 10 (upd (X 10) 1 (nI m))
def acA (A : Nat → Nat → Int32) (v : Nat → Nat) : Nat → Nat → Int32 := va_up A 11 (nIf v)
theorem acX_acX (X : Nat → Nat → Int32) (m m' : Nat) : va_up (acX X m) 10 (upd (acX X m 10) 1 (nI m')) = acX X m' := by
  unfold acX
  rw [vu_up, vu_s, ud_ud]
theorem acA_acA (A : Nat → Nat → Int32) (v v' : Nat → Nat) : va_up (acA A v) 11 (nIf v') = acA A v' := vu_up _ _ _ _
theorem rul_ac {B : Nat} {cd vl st an en : Nat → Nat} {n na : Nat} {v : Nat → Nat} {X A : Nat → Nat → Int32} (h : rul B cd vl st an en n na v X A) : X = acX X na ∧ A = acA A v := by
  obtain ⟨h1, h2, h3, h4, h5, h6, h7, h8, h9, h10, h11, h12, h13⟩ := h
  constructor
  · unfold acX
    rw [← h10, ud_self, vu_self]
  · unfold acA
    rw [← h12, vu_self]
theorem rul_add {B : Nat} {cd vl st an en : Nat → Nat} {n na : Nat} {v : Nat → Nat} {X A : Nat → Nat → Int32} (h : rul B cd vl st an en n na v X A) (hn : na < 6) {j : Nat} (hj : j < 49) : rul B cd vl st an en n (na + 1) (updN v na j) (acX X (na + 1)) (acA A (updN v na j)) := by
  obtain ⟨h1, h2, h3, h4, h5, h6, h7, h8, h9, h10, h11, h12, h13⟩ := h
  have hB := isB_34 h1
  unfold acX acA
  refine ⟨h1, ?_, ?_, ?_, ?_, ?_, ?_, ?_, h9, ?_, by omega, ?_, ?_⟩
  · rw [vu_n _ _ _ (by decide)]; exact h2
  · rw [vu_n _ _ _ (by omega)]; exact h3
  · rw [vu_n _ _ _ (by omega)]; exact h4
  · rw [vu_n _ _ _ (by omega)]; exact h5
  · rw [vu_n _ _ _ (by omega)]; exact h6
  · rw [vu_n _ _ _ (by omega)]; exact h7
  · rw [vu_n _ _ _ (by omega)]; exact h8
  · rw [vu_s, ud_s]
  · rw [vu_s]
  · intro i hi
    by_cases e : i = na
    · rw [e, updN_s]; exact hj
    · rw [updN_n _ _ _ e]; exact h13 i (by omega)
/-- accounts from a row's bytes: how many there are then, and the settings -/
def acF (ln : Nat) (E : Nat → Int32) : Nat → Nat → Nat → (Nat → Nat) → Nat × (Nat → Nat)
  | 0, _, na, v => (na, v)
  | m + 1, i, na, v => if i < ln then (if isc (E i) = nI 0 then (na, v) else if na = 6 then (na, v) else acF ln E m (i + 1) (na + 1) (updN v na (E i).toNatClampNeg)) else (na, v)
theorem acF_o {ln : Nat} {E : Nat → Int32} {m i na : Nat} {v : Nat → Nat} (h : ¬ i < ln) : acF ln E m i na v = (na, v) := by
  cases m with
  | zero => rfl
  | succ m => exact if_neg h
theorem acF_n {ln : Nat} {E : Nat → Int32} {m i na : Nat} {v : Nat → Nat} (h : isc (E i) = nI 0) : acF ln E m i na v = (na, v) := by
  cases m with
  | zero => rfl
  | succ m =>
    show (if i < ln then (if isc (E i) = nI 0 then (na, v) else _) else (na, v)) = _
    rw [if_pos h]
    split <;> rfl
theorem acF_6 {ln : Nat} {E : Nat → Int32} {m i : Nat} {v : Nat → Nat} : acF ln E m i 6 v = (6, v) := by
  cases m with
  | zero => rfl
  | succ m =>
    show (if i < ln then (if isc (E i) = nI 0 then (6, v) else if 6 = 6 then (6, v) else _) else (6, v)) = _
    rw [if_pos rfl]
    split
    · split <;> rfl
    · rfl
theorem acF_s {ln : Nat} {E : Nat → Int32} {m i na j : Nat} {v : Nat → Nat} (h : i < ln) (hj : E i = nI j) (hj2 : j < 49) (h6 : na < 6) : acF ln E (m + 1) i na v = acF ln E m (i + 1) (na + 1) (updN v na j) := by
  show (if i < ln then (if isc (E i) = nI 0 then (na, v) else if na = 6 then (na, v) else _) else (na, v)) = _
  rw [if_pos h, hj, isc_in hj2, if_neg (by decide), if_neg (by omega), nI_clamp (by omega)]
section CT31
variable {d : Nat} {X A : Nat → Nat → Int32} {L : Nat → Nat → Int64} {w : jW} {B : Nat} {cd vl st an en : Nat → Nat} {n na : Nat} {v : Nat → Nat} {nb : Nat} {kd : Nat → Nat}

set_option maxHeartbeats 200000 in
set_option maxRecDepth 100000 in
theorem l_accounts {n0 k : Nat} {r : Nat × (Nat → Nat)} (hk : k ≤ 6) {j : Nat} (hj : j < 6) (hh : X (64 + 2 * j) 0 = nI 2) {ln : Nat} (hln : X (64 + 2 * j) 3 = nI ln) (l60 : ln ≤ 60) : ∀ (m i0 c na : Nat) (v : Nat → Nat), rul B cd vl st an en n na v (acX X na) (acA A v) → c + m = k → na = n0 + c → i0 < 2 ^ 30 → acF ln (rE L (64 + 2 * j)) m i0 na v = r → ∀ i, i0 = i + c → jWP none RX10 cX10_accounts 6 (some .int) (d + 3) 0 0 52 [some (.ref 4), some (.int (nI j)), some (.int (nI i)), some (.int (nI k)), some (.ref (64 + 2 * j)), some (.int (nI c))] [] (tw (acX X na) (acA A v) L) ((fun z w => z = some (.int (nI (r.1 - n0))) ∧ w = tw (acX X r.1) (acA A r.2) L)) := by
  intro m
  induction m with
  | zero =>
    intro i0 c na v hr hc hna hi hf i hii
    subst hii
    have hX : ∀ q, acX X na (64 + 2 * j) q = X (64 + 2 * j) q := fun q => congrFun (vu_n _ _ _ (by omega)) q
    refine j_iload dX10_accounts_52 rfl ?_
    refine j_iload_n dX10_accounts_54 rfl rfl ?_
    refine jn_icmp_ge (tgt := 92) dX10_accounts_55 (by decide) (by omega) (by omega) (fun h55 => ?_) (fun h55 => absurd h55 (by omega))
    refine j_iload dX10_accounts_92 rfl ?_
    refine j_ireturn dX10_accounts_94 rfl ?_
    refine ⟨congrArg (fun z => some (Value.int (nI z))) ?_, tw_eq ?_ ?_ rfl⟩
    · rw [← hf]; show c = na - n0; omega
    · rw [← hf]; rfl
    · rw [← hf]; rfl
  | succ m ih =>
    intro i0 c na v hr hc hna hi hf i hii
    subst hii
    have hX : ∀ q, acX X na (64 + 2 * j) q = X (64 + 2 * j) q := fun q => congrFun (vu_n _ _ _ (by omega)) q
    obtain ⟨hB, r2, r3, r4, r5, r6, r7, r8, r9, r10, r11, r12, r13⟩ := id hr
    refine j_iload dX10_accounts_52 rfl ?_
    refine j_iload_n dX10_accounts_54 rfl rfl ?_
    refine jn_icmp_ge (tgt := 92) dX10_accounts_55 (by decide) (by omega) (by omega) (fun h55 => absurd h55 (by omega)) (fun h55 => ?_)
    refine j_aload dX10_accounts_58 rfl ?_
    refine j_iload_n dX10_accounts_60 rfl rfl ?_
    refine j_iload dX10_accounts_61 rfl ?_
    refine jn_iadd dX10_accounts_63 ?_
    refine j_callVi [.int _] [] dX10_accounts_64 jlk_X10_107 rfl rfl ((shS0 (sh_of hj)) _ _ _) rfl (Nat.le_of_ble_eq_true rfl) (c_X8_hasPlace (sh_of hj) ((hX 0).trans hh) (by decide) ((hX 3).trans hln) l60) ?_
    refine j_if_eq (tgt := 92) dX10_accounts_67 (by decide) (fun h67 => ?_) (fun h67 => ?_)
    · have h67 : ¬ i + c < ln := fun q => by rw [hpI_in q l60] at h67; exact absurd h67 (by decide)
      have ef := acF_o (E := rE L (64 + 2 * j)) (m := m + 1) (na := na) (v := v) h67
      refine j_iload dX10_accounts_92 rfl ?_
      refine j_ireturn dX10_accounts_94 rfl ?_
      refine ⟨congrArg (fun z => some (Value.int (nI z))) ?_, tw_eq ?_ ?_ rfl⟩
      · rw [← hf, ef]; omega
      · rw [← hf, ef]
      · rw [← hf, ef]
    · have h67 : i + c < ln := Nat.lt_of_not_le fun q => h67 (hpI_ge q (by omega))
      refine j_aload_n dX10_accounts_70 rfl rfl ?_
      refine j_aload dX10_accounts_71 rfl ?_
      refine j_iload_n dX10_accounts_73 rfl rfl ?_
      refine j_iload dX10_accounts_74 rfl ?_
      refine jn_iadd dX10_accounts_76 ?_
      refine j_callVi [.int _] [.ref 4] dX10_accounts_77 jlk_X10_110 rfl rfl ((shS0 (sh_of hj)) _ _ _) rfl (Nat.le_of_ble_eq_true rfl) (c_X8_byteAt (sh_of hj) ((hX 0).trans hh) ((hX 3).trans hln) l60 h67) ?_
      rcases isc_cases (rE L (64 + 2 * j) (i + c)) with e | ⟨q, hq, e⟩
      · have ef : acF ln (rE L (64 + 2 * j)) (m + 1) (i + c) na v = (na, v) := acF_n e
        refine j_callVi [.int _] [] dX10_accounts_80 jlk_X10_113 rfl rfl rfl rfl (Nat.le_of_ble_eq_true rfl) (c_account_no e) ?_
        refine j_if_lt (tgt := 92) dX10_accounts_83 (by decide) (fun h83 => ?_) (fun h83 => absurd h83 (by decide))
        refine j_iload dX10_accounts_92 rfl ?_
        refine j_ireturn dX10_accounts_94 rfl ?_
        refine ⟨congrArg (fun z => some (Value.int (nI z))) ?_, tw_eq ?_ ?_ rfl⟩
        · rw [← hf, ef]; omega
        · rw [← hf, ef]
        · rw [← hf, ef]
      refine j_ats (st' := [.int (nI q), .ref 4]) (by rw [← e]; rfl) ?_
      by_cases h6 : na = 6
      · have ef : acF ln (rE L (64 + 2 * j)) (m + 1) (i + c) na v = (na, v) := by subst h6; exact acF_6
        refine j_callVi [.int _] [] dX10_accounts_80 jlk_X10_113 rfl rfl rfl rfl (Nat.le_of_ble_eq_true rfl) (c_account_full hr h6 hq) ?_
        refine j_if_lt (tgt := 92) dX10_accounts_83 (by decide) (fun h83 => ?_) (fun h83 => absurd h83 (by decide))
        refine j_iload dX10_accounts_92 rfl ?_
        refine j_ireturn dX10_accounts_94 rfl ?_
        refine ⟨congrArg (fun z => some (Value.int (nI z))) ?_, tw_eq ?_ ?_ rfl⟩
        · rw [← hf, ef]; omega
        · rw [← hf, ef]
        · rw [← hf, ef]
      · have h6 : na < 6 := by omega
        refine j_callVi [.int _] [] dX10_accounts_80 jlk_X10_113 rfl rfl rfl rfl (Nat.le_of_ble_eq_true rfl) (c_account hr h6 hq) ?_
        rw [acX_acX, acA_acA]
        refine jn_if_lt (tgt := 92) dX10_accounts_83 (by decide) (by omega) ?_
        refine jn_iinc (lv' := [some (.ref 4), some (.int _), some (.int _), some (.int _), some (.ref (64 + 2 * j)), some (.int _)]) dX10_accounts_86 rfl (by decide) rfl ?_
        refine j_goto (tgt := 52) dX10_accounts_89 (by decide) ?_
        refine ih (i + c + 1) (c + 1) (na + 1) (updN v na q) ?_ (by omega) (by omega) (by omega) ?_ i (by omega)
        · have q1 := rul_add hr h6 hq
          unfold acX acA at q1 ⊢
          simp only [vu_up, vu_s, ud_ud] at q1
          exact q1
        · rw [← hf]; exact (acF_s h67 e hq h6).symm

set_option maxHeartbeats 200000 in
set_option maxRecDepth 100000 in
theorem c_accounts (hr : rul B cd vl st an en n na v X A) {j : Nat} (hj : j < 6) (hh : X (64 + 2 * j) 0 = nI 2) (hso : X (64 + 2 * j) 2 = nI 0) {ln : Nat} (hln : X (64 + 2 * j) 3 = nI ln) (l60 : ln ≤ 60) {i : Nat} (hi : i < 2 ^ 29) {m : Nat} (hm1 : 1 ≤ m) (hm6 : m ≤ 6) : jMet (d + 3) yX10_accounts cX10_accounts 6 (some .int) 0 0 [.ref 4, .int (nI j), .int (nI i), .int (nI m)] (tw X A L) ((fun z w => z = some (.int (nI ((acF ln (rE L (64 + 2 * j)) m i na v).1 - na))) ∧ w = tw (acX X (acF ln (rE L (64 + 2 * j)) m i na v).1) (acA A (acF ln (rE L (64 + 2 * j)) m i na v).2) L)) := by
  refine jMet_of (by decide) (Nat.le_of_ble_eq_true rfl) none (Or.inl rfl) ?_
  show jWP none RX10 cX10_accounts 6 (some .int) (d + 3) 0 0 0 [some (.ref 4), some (.int (nI j)), some (.int (nI i)), some (.int (nI m)), none, none] [] (tw X A L) ((fun z w => z = some (.int (nI ((acF ln (rE L (64 + 2 * j)) m i na v).1 - na))) ∧ w = tw (acX X (acF ln (rE L (64 + 2 * j)) m i na v).1) (acA A (acF ln (rE L (64 + 2 * j)) m i na v).2) L))
  refine j_iload_n dX10_accounts_0 rfl rfl ?_
  refine j_callSi [.int _] [] dX10_accounts_1 jlk_X10_96 rfl rfl (Nat.le_of_ble_eq_true rfl) (c_X10_isShelf_in hj) ?_
  refine j_if_eq (tgt := 18) dX10_accounts_4 (by decide) (fun h => absurd h (by decide)) (fun _ => ?_)
  refine j_iload_n dX10_accounts_7 rfl rfl ?_
  refine j_iconst (v := nI 1) dX10_accounts_8 rfl ?_
  refine jn_icmp_lt (tgt := 18) dX10_accounts_9 (by decide) (by omega) (by omega) (fun h9 => absurd h9 (by omega)) (fun h9 => ?_)
  refine j_iload_n dX10_accounts_12 rfl rfl ?_
  refine j_bipush (v := nI 6) dX10_accounts_13 rfl ?_
  refine jn_icmp_le (tgt := 20) dX10_accounts_15 (by decide) (by omega) (by omega) (fun h15 => ?_) (fun h15 => absurd h15 (by omega))
  refine j_aload_n dX10_accounts_20 rfl rfl ?_
  refine t_getR (b := 63) dX10_accounts_21 jfl_X10_83 (fun _ _ _ => rfl) rfl ?_
  refine j_iload_n dX10_accounts_24 rfl rfl ?_
  refine t_aaload dX10_accounts_25 (by omega) ?_
  refine j_astore (lv' := [some (.ref 4), some (.int _), some (.int _), some (.int _), some (.ref (64 + 2 * j)), none]) dX10_accounts_26 (by decide) rfl ?_
  refine j_aload dX10_accounts_28 rfl ?_
  refine j_callVi [] [] dX10_accounts_30 jlk_X10_99 rfl rfl ((shS0 (sh_of hj)) _ _ _) rfl (Nat.le_of_ble_eq_true rfl) (c_X8_holdsNothing (h := 2) (sh_of hj) hh (by decide)) ?_
  refine j_if_eq (tgt := 38) dX10_accounts_33 (by decide) (fun _ => ?_) (fun h => absurd (by decide) h)
  refine j_aload dX10_accounts_38 rfl ?_
  refine j_callVi [] [] dX10_accounts_40 jlk_X10_103 rfl rfl ((shS0 (sh_of hj)) _ _ _) rfl (Nat.le_of_ble_eq_true rfl) (jMet_i (c_X8_bytesFault (sh_of hj) hh (by decide) hso (by decide)) (show bfI 2 0 = nI 0 from rfl) rfl) ?_
  refine j_if_eq (tgt := 49) dX10_accounts_43 (by decide) (fun _ => ?_) (fun h => absurd (by decide) h)
  refine j_iconst (v := nI 0) dX10_accounts_49 rfl ?_
  refine j_istore (lv' := [some (.ref 4), some (.int _), some (.int _), some (.int _), some (.ref (64 + 2 * j)), some (.int _)]) dX10_accounts_50 (by decide) rfl ?_
  have hs := rul_ac hr
  have hr2 : rul B cd vl st an en n na v (acX X na) (acA A v) := by rw [← hs.1, ← hs.2]; exact hr
  exact j_atw (tw_eq hs.1 hs.2 rfl) (l_accounts hm6 hj hh hln l60 m i 0 na v hr2 (by omega) (by omega) (by omega) rfl i (by omega))

set_option maxHeartbeats 200000 in
set_option maxRecDepth 100000 in
theorem c_accounts_e {j : Nat} (hj : j < 6) (hh : X (64 + 2 * j) 0 = nI 2) (hso : X (64 + 2 * j) 2 = nI 0) {ln : Nat} (hln : X (64 + 2 * j) 3 = nI ln) (l60 : ln ≤ 60) {i : Int32} (hi : isA ln i = nI 0) {m : Nat} (hm1 : 1 ≤ m) (hm6 : m ≤ 6) : jMet (d + 3) yX10_accounts cX10_accounts 6 (some .int) 0 0 [.ref 4, .int (nI j), .int i, .int (nI m)] (tw X A L) (jRi (nI 0) (tw X A L)) := by
  refine jMet_of (by decide) (Nat.le_of_ble_eq_true rfl) none (Or.inl rfl) ?_
  show jWP none RX10 cX10_accounts 6 (some .int) (d + 3) 0 0 0 [some (.ref 4), some (.int (nI j)), some (.int i), some (.int (nI m)), none, none] [] (tw X A L) (jRi (nI 0) (tw X A L))
  refine j_iload_n dX10_accounts_0 rfl rfl ?_
  refine j_callSi [.int _] [] dX10_accounts_1 jlk_X10_96 rfl rfl (Nat.le_of_ble_eq_true rfl) (c_X10_isShelf_in hj) ?_
  refine j_if_eq (tgt := 18) dX10_accounts_4 (by decide) (fun h => absurd h (by decide)) (fun _ => ?_)
  refine j_iload_n dX10_accounts_7 rfl rfl ?_
  refine j_iconst (v := nI 1) dX10_accounts_8 rfl ?_
  refine jn_icmp_lt (tgt := 18) dX10_accounts_9 (by decide) (by omega) (by omega) (fun h9 => absurd h9 (by omega)) (fun h9 => ?_)
  refine j_iload_n dX10_accounts_12 rfl rfl ?_
  refine j_bipush (v := nI 6) dX10_accounts_13 rfl ?_
  refine jn_icmp_le (tgt := 20) dX10_accounts_15 (by decide) (by omega) (by omega) (fun h15 => ?_) (fun h15 => absurd h15 (by omega))
  refine j_aload_n dX10_accounts_20 rfl rfl ?_
  refine t_getR (b := 63) dX10_accounts_21 jfl_X10_83 (fun _ _ _ => rfl) rfl ?_
  refine j_iload_n dX10_accounts_24 rfl rfl ?_
  refine t_aaload dX10_accounts_25 (by omega) ?_
  refine j_astore (lv' := [some (.ref 4), some (.int _), some (.int _), some (.int _), some (.ref (64 + 2 * j)), none]) dX10_accounts_26 (by decide) rfl ?_
  refine j_aload dX10_accounts_28 rfl ?_
  refine j_callVi [] [] dX10_accounts_30 jlk_X10_99 rfl rfl ((shS0 (sh_of hj)) _ _ _) rfl (Nat.le_of_ble_eq_true rfl) (c_X8_holdsNothing (h := 2) (sh_of hj) hh (by decide)) ?_
  refine j_if_eq (tgt := 38) dX10_accounts_33 (by decide) (fun _ => ?_) (fun h => absurd (by decide) h)
  refine j_aload dX10_accounts_38 rfl ?_
  refine j_callVi [] [] dX10_accounts_40 jlk_X10_103 rfl rfl ((shS0 (sh_of hj)) _ _ _) rfl (Nat.le_of_ble_eq_true rfl) (jMet_i (c_X8_bytesFault (sh_of hj) hh (by decide) hso (by decide)) (show bfI 2 0 = nI 0 from rfl) rfl) ?_
  refine j_if_eq (tgt := 49) dX10_accounts_43 (by decide) (fun _ => ?_) (fun h => absurd (by decide) h)
  refine j_iconst (v := nI 0) dX10_accounts_49 rfl ?_
  refine j_istore (lv' := [some (.ref 4), some (.int _), some (.int _), some (.int _), some (.ref (64 + 2 * j)), some (.int _)]) dX10_accounts_50 (by decide) rfl ?_
  refine j_iload dX10_accounts_52 rfl ?_
  refine j_iload_n dX10_accounts_54 rfl rfl ?_
  refine jn_icmp_ge (tgt := 92) dX10_accounts_55 (by decide) (by omega) (by omega) (fun h55 => absurd h55 (by omega)) (fun h55 => ?_)
  refine j_aload dX10_accounts_58 rfl ?_
  refine j_iload_n dX10_accounts_60 rfl rfl ?_
  refine j_iload dX10_accounts_61 rfl ?_
  refine j_iadd dX10_accounts_63 ?_
  refine j_callVi [.int _] [] dX10_accounts_64 jlk_X10_107 rfl rfl ((shS0 (sh_of hj)) _ _ _) rfl (Nat.le_of_ble_eq_true rfl) (jMet_i (c_X8_hasPlace (sh_of hj) hh (by decide) hln l60) (show hpI 2 ln (i + nI 0) = nI 0 from by rw [show i + nI 0 = i from Int32.add_zero i]; unfold hpI; rw [if_pos rfl]; exact hi) rfl) ?_
  refine j_if_eq (tgt := 92) dX10_accounts_67 (by decide) (fun _ => ?_) (fun h => absurd (by decide) h)
  refine j_iload dX10_accounts_92 rfl ?_
  refine j_ireturn dX10_accounts_94 rfl ?_
  exact ⟨rfl, rfl⟩

end CT31