def amX (X : Nat → Nat → Int32) (m : Nat) : Nat → Nat → Int32 := va_up X 76 (upd (X 76) 7 (nI m))
def amA (A : Nat → Nat → Int32) (v : Nat → Nat) : Nat → Nat → Int32 := va_up A 77 (nIf v)
theorem amX_7 {X : Nat → Nat → Int32} {m : Nat} : amX X m 76 7 = nI m := by unfold amX; rw [vu_s, ud_s]
theorem amX_p {X : Nat → Nat → Int32} {m m' : Nat} : va_up (amX X m) 76 (upd (amX X m 76) 7 (nI m')) = amX X m' := by unfold amX; rw [vu_up, vu_s, ud_ud]
theorem amA_p {A : Nat → Nat → Int32} {v v' : Nat → Nat} : va_up (amA A v) 77 (nIf v') = amA A v' := vu_up _ _ _ _
theorem amA_77 {A : Nat → Nat → Int32} {v : Nat → Nat} : amA A v 77 = nIf v := vu_s _ _ _
theorem amA_n {A : Nat → Nat → Int32} {v : Nat → Nat} {c : Nat} (h : c ≠ 77) : amA A v c = A c := vu_n _ _ _ h
theorem lim_tab {ln c : Nat} (h1 : ln ≤ 60) (h2 : c ≤ 6) : if c + 1 ≤ ln then nI ln - nI 1 - nI c = nI (ln - 1 - c) else nI ln - nI 1 - nI c < 0 := by
  have q : (List.range 61).all (fun ln => (List.range 7).all fun c => decide (if c + 1 ≤ ln then nI ln - nI 1 - nI c = nI (ln - 1 - c) else nI ln - nI 1 - nI c < 0)) = true := by decide +kernel
  exact of_decide_eq_true (List.all_eq_true.mp (List.all_eq_true.mp q ln (List.mem_range.mpr (by omega))) c (List.mem_range.mpr (by omega)))
theorem lim_gt {ln c i : Nat} (h1 : ln ≤ 60) (h2 : c ≤ 6) (hi : i < 2 ^ 30) : (nI ln - nI 1 - nI c < nI i) ↔ ¬ i + c < ln := by
  have h := lim_tab h1 h2
  by_cases q : c + 1 ≤ ln
  · rw [if_pos q] at h
    rw [h, nI_ltI (by omega) (by omega)]
    omega
  · rw [if_neg q] at h
    constructor
    · intro _; omega
    · intro _; exact Int32.lt_of_lt_of_le h (Int32.not_lt.mp (nI_pos (by omega)))
theorem bits_tab {s : Nat} (h : s < 1024) (h0 : s ≠ 0) : pcN (s &&& (s - 1)) + 1 = pcN s ∧ (s &&& (s - 1)) < 1024 := by
  have q : (List.range 1024).all (fun s => decide (s = 0) || (decide (pcN (s &&& (s - 1)) + 1 = pcN s) && decide ((s &&& (s - 1)) < 1024))) = true := by decide +kernel
  have q2 := List.all_eq_true.mp q s (List.mem_range.mpr h)
  simp only [Bool.or_eq_true, Bool.and_eq_true, decide_eq_true_eq] at q2
  exact q2.elim (fun z => absurd z h0) id
theorem shl_tab {g : Nat} (h : g ≤ 10) : nI 1 <<< (nI g &&& 31) = nI (2 ^ g) := by
  have q : (List.range 11).all (fun g => decide (nI 1 <<< (nI g &&& 31) = nI (2 ^ g))) = true := by decide +kernel
  exact of_decide_eq_true (List.all_eq_true.mp q g (List.mem_range.mpr (by omega)))
theorem isB1_tb {s k : Nat} : isB1 s k = s.testBit k := by
  unfold isB1 bitN
  rw [Nat.testBit_eq_decide_div_mod_eq]
section CT63
variable {d : Nat} {X A : Nat → Nat → Int32} {L : Nat → Nat → Int64} {w : jW} {tx v : Nat → Nat} {na tm : Nat} {td : Bool}

theorem acF_e6 {ln : Nat} {E : Nat → Int32} {m i na : Nat} {v : Nat → Nat} (h : 6 = na) : acF ln E m i na v = (na, v) := by subst h; exact acF_6
set_option maxHeartbeats 200000 in
set_option maxRecDepth 100000 in
theorem l_accounts_m {n0 k j ln i : Nat} (hk : k ≤ 6) (hj : j < 6) {E : Nat → Int32} (hm : A 101 j = nI ln) (l60 : ln ≤ 60) (hE : ∀ i, i < ln → L 102 (60 * j + i) = (E i).toInt64) (hi : i < 2 ^ 29) {r : Nat × (Nat → Nat)} : ∀ (m c na : Nat) (v : Nat → Nat), c + m = k → na = n0 + c → na ≤ 6 → acF ln E m (i + c) na v = r → jWP none RX11 cX11_accounts 6 (some .int) (d + 2) 0 0 69 [some (.ref 76), some (.int (nI j)), some (.int (nI i)), some (.int (nI k)), some (.int (nI c)), some (.int (nI 1))] [] (tw (amX X na) (amA A v) L) ((fun z w => z = some (.int (nI (r.1 - n0))) ∧ w = tw (amX X r.1) (amA A r.2) L)) := by
  intro m
  induction m with
  | zero =>
    intro c na v hc hna h6 hf
    refine j_iload dX11_accounts_69 rfl ?_
    refine j_if_eq (tgt := 176) dX11_accounts_71 (by decide) (fun h => absurd h (by decide)) (fun _ => ?_)
    refine j_iload dX11_accounts_74 rfl ?_
    refine j_iload_n dX11_accounts_76 rfl rfl ?_
    refine jn_icmp_ge (tgt := 176) dX11_accounts_77 (by decide) (by omega) (by omega) (fun h77 => ?_) (fun h77 => absurd h77 (by omega))
    refine j_iload dX11_accounts_176 rfl ?_
    refine j_ireturn dX11_accounts_178 rfl ?_
    refine ⟨congrArg (fun z => some (Value.int (nI z))) ?_, tw_eq ?_ ?_ rfl⟩
    · rw [← hf, (show acF ln E 0 (i + c) na v = (na, v) from rfl)]; show c = na - n0; omega
    · rw [← hf, (show acF ln E 0 (i + c) na v = (na, v) from rfl)]
    · rw [← hf, (show acF ln E 0 (i + c) na v = (na, v) from rfl)]
  | succ m ih =>
    intro c na v hc hna h6 hf
    refine j_iload dX11_accounts_69 rfl ?_
    refine j_if_eq (tgt := 176) dX11_accounts_71 (by decide) (fun h => absurd h (by decide)) (fun _ => ?_)
    refine j_iload dX11_accounts_74 rfl ?_
    refine j_iload_n dX11_accounts_76 rfl rfl ?_
    refine jn_icmp_ge (tgt := 176) dX11_accounts_77 (by decide) (by omega) (by omega) (fun h77 => absurd h77 (by omega)) (fun h77 => ?_)
    refine j_iload_n dX11_accounts_80 rfl rfl ?_
    refine j_aload_n dX11_accounts_81 rfl rfl ?_
    refine t_getR (b := 101) dX11_accounts_82 jfl_X11_85 (fun _ _ _ => rfl) rfl ?_
    refine j_iload_n dX11_accounts_85 rfl rfl ?_
    refine t_iaload dX11_accounts_86 (fun _ _ _ => rfl) (by omega) (by decide) ?_
    refine j_topE (e' := nI ln) ((congrFun (amA_n (by decide)) j).trans hm) ?_
    refine j_iconst (v := nI 1) dX11_accounts_87 rfl ?_
    refine j_isub dX11_accounts_88 ?_
    refine j_iload dX11_accounts_89 rfl ?_
    refine j_isub dX11_accounts_91 ?_
    refine j_icmp_gt (tgt := 128) dX11_accounts_92 (by decide) (fun h92 => ?_) (fun h92 => ?_)
    · have h92 : ¬ i + c < ln := (lim_gt l60 (by omega) (by omega)).mp h92
      refine j_iconst (v := nI 0) dX11_accounts_128 rfl ?_
      refine j_istore (lv' := [some (.ref 76), some (.int _), some (.int _), some (.int _), some (.int _), some (.int _)]) dX11_accounts_129 (by decide) rfl ?_
      refine j_iload dX11_accounts_131 rfl ?_
      refine j_if_eq (tgt := 69) dX11_accounts_133 (by decide) (fun _ => ?_) (fun h => absurd (by decide) h)
      refine j_iload dX11_accounts_69 rfl ?_
      refine j_if_eq (tgt := 176) dX11_accounts_71 (by decide) (fun _ => ?_) (fun h => absurd (by decide) h)
      refine j_iload dX11_accounts_176 rfl ?_
      refine j_ireturn dX11_accounts_178 rfl ?_
      refine ⟨congrArg (fun z => some (Value.int (nI z))) ?_, tw_eq ?_ ?_ rfl⟩
      · rw [← hf, acF_o (by omega)]; show c = na - n0; omega
      · rw [← hf, acF_o (by omega)]
      · rw [← hf, acF_o (by omega)]
    · have h92 : i + c < ln := Classical.not_not.mp (fun z => h92 ((lim_gt l60 (by omega) (by omega)).mpr z))
      refine j_aload_n dX11_accounts_95 rfl rfl ?_
      refine t_getI dX11_accounts_96 jfl_X11_117 (fun _ _ _ => rfl) (fun _ => rfl) ?_
      refine j_topE (e' := nI na) amX_7 ?_
      refine j_bipush (v := nI 6) dX11_accounts_99 rfl ?_
      refine jn_icmp_ge (tgt := 128) dX11_accounts_101 (by decide) (by omega) (by omega) (fun h101 => ?_) (fun h101 => ?_)
      · refine j_iconst (v := nI 0) dX11_accounts_128 rfl ?_
        refine j_istore (lv' := [some (.ref 76), some (.int _), some (.int _), some (.int _), some (.int _), some (.int _)]) dX11_accounts_129 (by decide) rfl ?_
        refine j_iload dX11_accounts_131 rfl ?_
        refine j_if_eq (tgt := 69) dX11_accounts_133 (by decide) (fun _ => ?_) (fun h => absurd (by decide) h)
        refine j_iload dX11_accounts_69 rfl ?_
        refine j_if_eq (tgt := 176) dX11_accounts_71 (by decide) (fun _ => ?_) (fun h => absurd (by decide) h)
        refine j_iload dX11_accounts_176 rfl ?_
        refine j_ireturn dX11_accounts_178 rfl ?_
        refine ⟨congrArg (fun z => some (Value.int (nI z))) ?_, tw_eq ?_ ?_ rfl⟩
        · rw [← hf, acF_e6 (by omega)]; show c = na - n0; omega
        · rw [← hf, acF_e6 (by omega)]
        · rw [← hf, acF_e6 (by omega)]
      · refine j_aload_n dX11_accounts_104 rfl rfl ?_
        refine t_getR (b := 102) dX11_accounts_105 jfl_X11_88 (fun _ _ _ => rfl) rfl ?_
        refine j_bipush (v := nI 60) dX11_accounts_108 rfl ?_
        refine j_iload_n dX11_accounts_110 rfl rfl ?_
        refine jn_imul dX11_accounts_111 ?_
        refine j_iload_n dX11_accounts_112 rfl rfl ?_
        refine jn_iadd dX11_accounts_113 ?_
        refine j_iload dX11_accounts_114 rfl ?_
        refine jn_iadd dX11_accounts_116 ?_
        refine t_laload dX11_accounts_117 (fun _ _ _ => rfl) (by omega) (by decide) ?_
        refine j_ats (st' := [.long (E (i + c)).toInt64]) (by rw [← hE _ h92, Nat.add_assoc]) ?_
        refine j_callSi [.long _] [] dX11_accounts_118 jlk_X11_120 rfl rfl (Nat.le_of_ble_eq_true rfl) (m_isCell) ?_
        refine j_if_eq (tgt := 128) dX11_accounts_121 (by decide) (fun h121 => ?_) (fun h121 => ?_)
        · refine j_iconst (v := nI 0) dX11_accounts_128 rfl ?_
          refine j_istore (lv' := [some (.ref 76), some (.int _), some (.int _), some (.int _), some (.int _), some (.int _)]) dX11_accounts_129 (by decide) rfl ?_
          refine j_iload dX11_accounts_131 rfl ?_
          refine j_if_eq (tgt := 69) dX11_accounts_133 (by decide) (fun _ => ?_) (fun h => absurd (by decide) h)
          refine j_iload dX11_accounts_69 rfl ?_
          refine j_if_eq (tgt := 176) dX11_accounts_71 (by decide) (fun _ => ?_) (fun h => absurd (by decide) h)
          refine j_iload dX11_accounts_176 rfl ?_
          refine j_ireturn dX11_accounts_178 rfl ?_
          refine ⟨congrArg (fun z => some (Value.int (nI z))) ?_, tw_eq ?_ ?_ rfl⟩
          · rw [← hf, acF_n h121]; show c = na - n0; omega
          · rw [← hf, acF_n h121]
          · rw [← hf, acF_n h121]
        · obtain ⟨q, hq, hqe⟩ : ∃ q, q < 49 ∧ E (i + c) = nI q := (isc_cases (E (i + c))).elim (fun z => absurd z h121) id
          refine j_iconst (v := nI 1) dX11_accounts_124 rfl ?_
          refine j_goto (tgt := 129) dX11_accounts_125 (by decide) ?_
          refine j_istore (lv' := [some (.ref 76), some (.int _), some (.int _), some (.int _), some (.int _), some (.int _)]) dX11_accounts_129 (by decide) rfl ?_
          refine j_iload dX11_accounts_131 rfl ?_
          refine j_if_eq (tgt := 69) dX11_accounts_133 (by decide) (fun h => absurd h (by decide)) (fun _ => ?_)
          refine j_aload_n dX11_accounts_136 rfl rfl ?_
          refine t_getR (b := 77) dX11_accounts_137 jfl_X11_11 (fun _ _ _ => rfl) rfl ?_
          refine j_aload_n dX11_accounts_140 rfl rfl ?_
          refine t_getI dX11_accounts_141 jfl_X11_117 (fun _ _ _ => rfl) (fun _ => rfl) ?_
          refine j_topE (e' := nI na) amX_7 ?_
          refine j_aload_n dX11_accounts_144 rfl rfl ?_
          refine t_getR (b := 102) dX11_accounts_145 jfl_X11_88 (fun _ _ _ => rfl) rfl ?_
          refine j_bipush (v := nI 60) dX11_accounts_148 rfl ?_
          refine j_iload_n dX11_accounts_150 rfl rfl ?_
          refine jn_imul dX11_accounts_151 ?_
          refine j_iload_n dX11_accounts_152 rfl rfl ?_
          refine jn_iadd dX11_accounts_153 ?_
          refine j_iload dX11_accounts_154 rfl ?_
          refine jn_iadd dX11_accounts_156 ?_
          refine t_laload dX11_accounts_157 (fun _ _ _ => rfl) (by omega) (by decide) ?_
          refine j_l2i dX11_accounts_158 ?_
          refine j_ats (st' := [.int (nI q), .int (nI na), .ref 77]) (by rw [Nat.add_assoc, hE _ h92, l2i_id, hqe]) ?_
          refine t_iastore dX11_accounts_159 (fun _ _ _ => rfl) (by omega) (by decide) ?_
          rw [amA_77, upd_nIf, amA_p]
          refine j_aload_n dX11_accounts_160 rfl rfl ?_
          refine j_dup dX11_accounts_161 rfl ?_
          refine t_getI dX11_accounts_162 jfl_X11_117 (fun _ _ _ => rfl) (fun _ => rfl) ?_
          refine j_topE (e' := nI na) amX_7 ?_
          refine j_iconst (v := nI 1) dX11_accounts_165 rfl ?_
          refine jn_iadd dX11_accounts_166 ?_
          refine t_putI dX11_accounts_167 jfl_X11_117 (fun _ _ _ => rfl) (fun _ _ => rfl) (Nat.le_of_ble_eq_true rfl) rfl rfl ?_
          rw [amX_p]
          refine jn_iinc (lv' := [some (.ref 76), some (.int _), some (.int _), some (.int _), some (.int _), some (.int _)]) dX11_accounts_170 rfl (by decide) rfl ?_
          refine j_goto (tgt := 69) dX11_accounts_173 (by decide) ?_
          refine ih (c + 1) (na + 1) (updN v na q) (by omega) (by omega) (by omega) ?_
          rw [← hf]
          exact (acF_s (by omega) hqe hq (by omega)).symm

set_option maxHeartbeats 200000 in
set_option maxRecDepth 100000 in
theorem m_accounts (hn : X 76 7 = nI na) (h6 : na ≤ 6) (hv : A 77 = nIf v) {j ln : Nat} (hj : j < 6) {E : Nat → Int32} (hs : A 100 j = nI 50) (hm : A 101 j = nI ln) (l60 : ln ≤ 60) (hE : ∀ i, i < ln → L 102 (60 * j + i) = (E i).toInt64) {i k : Nat} (hi : i < 2 ^ 29) (hk1 : 1 ≤ k) (hk6 : k ≤ 6) : jMet (d + 2) yX11_accounts cX11_accounts 6 (some .int) 0 0 [.ref 76, .int (nI j), .int (nI i), .int (nI k)] (tw X A L) ((fun z w => z = some (.int (nI ((acF ln E k i na v).1 - na))) ∧ w = tw (amX X (acF ln E k i na v).1) (amA A (acF ln E k i na v).2) L)) := by
  refine jMet_of (by decide) (Nat.le_of_ble_eq_true rfl) none (Or.inl rfl) ?_
  show jWP none RX11 cX11_accounts 6 (some .int) (d + 2) 0 0 0 [some (.ref 76), some (.int (nI j)), some (.int (nI i)), some (.int (nI k)), none, none] [] (tw X A L) ((fun z w => z = some (.int (nI ((acF ln E k i na v).1 - na))) ∧ w = tw (amX X (acF ln E k i na v).1) (amA A (acF ln E k i na v).2) L))
  refine j_iload_n dX11_accounts_0 rfl rfl ?_
  refine j_callSi [.int _] [] dX11_accounts_1 jlk_X11_124 rfl rfl (Nat.le_of_ble_eq_true rfl) (jMet_i m_isSh (isA_in hj (by decide)) rfl) ?_
  refine j_if_eq (tgt := 19) dX11_accounts_4 (by decide) (fun h => absurd h (by decide)) (fun _ => ?_)
  refine j_iload_n dX11_accounts_7 rfl rfl ?_
  refine j_i2l dX11_accounts_8 ?_
  refine j_lconst (v := 1) dX11_accounts_9 rfl ?_
  refine j_ldc2 dX11_accounts_10 jw_k_X11_115 ?_
  refine j_callSi [.long _, .long _, .long _] [] dX11_accounts_13 jlk_X11_111 rfl rfl (Nat.le_of_ble_eq_true rfl) (jMet_i m_within (wi_1 hk1 hk6 (by decide) (by decide) (by decide)) rfl) ?_
  refine j_if_ne (tgt := 21) dX11_accounts_16 (by decide) (fun _ => ?_) (fun h => absurd h (by decide))
  refine j_aload_n dX11_accounts_21 rfl rfl ?_
  refine t_getR (b := 100) dX11_accounts_22 jfl_X11_82 (fun _ _ _ => rfl) rfl ?_
  refine j_iload_n dX11_accounts_25 rfl rfl ?_
  refine t_iaload dX11_accounts_26 (fun _ _ _ => rfl) (by omega) (by decide) ?_
  refine j_topE (e' := nI 50) hs ?_
  refine jn_if_lt (tgt := 44) dX11_accounts_27 (by decide) (by omega) ?_
  refine j_aload_n dX11_accounts_30 rfl rfl ?_
  refine t_getR (b := 100) dX11_accounts_31 jfl_X11_82 (fun _ _ _ => rfl) rfl ?_
  refine j_iload_n dX11_accounts_34 rfl rfl ?_
  refine t_iaload dX11_accounts_35 (fun _ _ _ => rfl) (by omega) (by decide) ?_
  refine j_topE (e' := nI 50) hs ?_
  refine j_bipush (v := nI 50) dX11_accounts_36 rfl ?_
  refine jn_icmp_eq (tgt := 44) dX11_accounts_38 (by decide) (by omega) (by omega) (fun h38 => ?_) (fun h38 => absurd rfl h38)
  refine j_iconst (v := nI 0) dX11_accounts_44 rfl ?_
  refine j_istore (lv' := [some (.ref 76), some (.int _), some (.int _), some (.int _), some (.int _), none]) dX11_accounts_45 (by decide) rfl ?_
  refine j_aload_n dX11_accounts_47 rfl rfl ?_
  refine t_getR (b := 100) dX11_accounts_48 jfl_X11_82 (fun _ _ _ => rfl) rfl ?_
  refine j_iload_n dX11_accounts_51 rfl rfl ?_
  refine t_iaload dX11_accounts_52 (fun _ _ _ => rfl) (by omega) (by decide) ?_
  refine j_topE (e' := nI 50) hs ?_
  refine j_bipush (v := nI 50) dX11_accounts_53 rfl ?_
  refine jn_icmp_ne (tgt := 66) dX11_accounts_55 (by decide) (by omega) (by omega) (fun h55 => absurd rfl h55) (fun h55 => ?_)
  refine j_iload_n dX11_accounts_58 rfl rfl ?_
  refine jn_if_lt (tgt := 66) dX11_accounts_59 (by decide) (by omega) ?_
  refine j_iconst (v := nI 1) dX11_accounts_62 rfl ?_
  refine j_goto (tgt := 67) dX11_accounts_63 (by decide) ?_
  refine j_istore (lv' := [some (.ref 76), some (.int _), some (.int _), some (.int _), some (.int _), some (.int _)]) dX11_accounts_67 (by decide) rfl ?_
  have eX : X = amX X na := by unfold amX; rw [← hn, ud_self, vu_self]
  have eA : A = amA A v := by unfold amA; rw [← hv, vu_self]
  exact j_atw (tw_eq eX eA rfl) (l_accounts_m hk6 hj hm l60 hE hi k 0 na v (by omega) (by omega) h6 rfl)

set_option maxHeartbeats 200000 in
set_option maxRecDepth 100000 in
theorem m_accounts_neg {j ln : Nat} (hj : j < 6) {E : Nat → Int32} (hs : A 100 j = nI 50) (hm : A 101 j = nI ln) (l60 : ln ≤ 60) (hE : ∀ i, i < ln → L 102 (60 * j + i) = (E i).toInt64) {i : Int32} {k : Nat} (hi : i < 0) (hk1 : 1 ≤ k) (hk6 : k ≤ 6) : jMet (d + 2) yX11_accounts cX11_accounts 6 (some .int) 0 0 [.ref 76, .int (nI j), .int i, .int (nI k)] (tw X A L) (jRi (nI 0) (tw X A L)) := by
  refine jMet_of (by decide) (Nat.le_of_ble_eq_true rfl) none (Or.inl rfl) ?_
  show jWP none RX11 cX11_accounts 6 (some .int) (d + 2) 0 0 0 [some (.ref 76), some (.int (nI j)), some (.int i), some (.int (nI k)), none, none] [] (tw X A L) (jRi (nI 0) (tw X A L))
  refine j_iload_n dX11_accounts_0 rfl rfl ?_
  refine j_callSi [.int _] [] dX11_accounts_1 jlk_X11_124 rfl rfl (Nat.le_of_ble_eq_true rfl) (jMet_i m_isSh (isA_in hj (by decide)) rfl) ?_
  refine j_if_eq (tgt := 19) dX11_accounts_4 (by decide) (fun h => absurd h (by decide)) (fun _ => ?_)
  refine j_iload_n dX11_accounts_7 rfl rfl ?_
  refine j_i2l dX11_accounts_8 ?_
  refine j_lconst (v := 1) dX11_accounts_9 rfl ?_
  refine j_ldc2 dX11_accounts_10 jw_k_X11_115 ?_
  refine j_callSi [.long _, .long _, .long _] [] dX11_accounts_13 jlk_X11_111 rfl rfl (Nat.le_of_ble_eq_true rfl) (jMet_i m_within (wi_1 hk1 hk6 (by decide) (by decide) (by decide)) rfl) ?_
  refine j_if_ne (tgt := 21) dX11_accounts_16 (by decide) (fun _ => ?_) (fun h => absurd h (by decide))
  refine j_aload_n dX11_accounts_21 rfl rfl ?_
  refine t_getR (b := 100) dX11_accounts_22 jfl_X11_82 (fun _ _ _ => rfl) rfl ?_
  refine j_iload_n dX11_accounts_25 rfl rfl ?_
  refine t_iaload dX11_accounts_26 (fun _ _ _ => rfl) (by omega) (by decide) ?_
  refine j_topE (e' := nI 50) hs ?_
  refine jn_if_lt (tgt := 44) dX11_accounts_27 (by decide) (by omega) ?_
  refine j_aload_n dX11_accounts_30 rfl rfl ?_
  refine t_getR (b := 100) dX11_accounts_31 jfl_X11_82 (fun _ _ _ => rfl) rfl ?_
  refine j_iload_n dX11_accounts_34 rfl rfl ?_
  refine t_iaload dX11_accounts_35 (fun _ _ _ => rfl) (by omega) (by decide) ?_
  refine j_topE (e' := nI 50) hs ?_
  refine j_bipush (v := nI 50) dX11_accounts_36 rfl ?_
  refine jn_icmp_eq (tgt := 44) dX11_accounts_38 (by decide) (by omega) (by omega) (fun h38 => ?_) (fun h38 => absurd rfl h38)
  refine j_iconst (v := nI 0) dX11_accounts_44 rfl ?_
  refine j_istore (lv' := [some (.ref 76), some (.int _), some (.int _), some (.int _), some (.int _), none]) dX11_accounts_45 (by decide) rfl ?_
  refine j_aload_n dX11_accounts_47 rfl rfl ?_
  refine t_getR (b := 100) dX11_accounts_48 jfl_X11_82 (fun _ _ _ => rfl) rfl ?_
  refine j_iload_n dX11_accounts_51 rfl rfl ?_
  refine t_iaload dX11_accounts_52 (fun _ _ _ => rfl) (by omega) (by decide) ?_
  refine j_topE (e' := nI 50) hs ?_
  refine j_bipush (v := nI 50) dX11_accounts_53 rfl ?_
  refine jn_icmp_ne (tgt := 66) dX11_accounts_55 (by decide) (by omega) (by omega) (fun h55 => absurd rfl h55) (fun h55 => ?_)
  refine j_iload_n dX11_accounts_58 rfl rfl ?_
  refine j_if_lt (tgt := 66) dX11_accounts_59 (by decide) (fun h59 => ?_) (fun h59 => absurd hi h59)
  refine j_iconst (v := nI 0) dX11_accounts_66 rfl ?_
  refine j_istore (lv' := [some (.ref 76), some (.int _), some (.int _), some (.int _), some (.int _), some (.int _)]) dX11_accounts_67 (by decide) rfl ?_
  refine j_iload dX11_accounts_69 rfl ?_
  refine j_if_eq (tgt := 176) dX11_accounts_71 (by decide) (fun _ => ?_) (fun h => absurd (by decide) h)
  refine j_iload dX11_accounts_176 rfl ?_
  refine j_ireturn dX11_accounts_178 rfl ?_
  exact ⟨rfl, rfl⟩

set_option maxHeartbeats 200000 in
set_option maxRecDepth 100000 in
theorem m_accounts_no {c i m : Int32} (h : isA 6 c = nI 0 ∨ m < nI 1 ∨ nI 6 < m) : jMet (d + 2) yX11_accounts cX11_accounts 6 (some .int) 0 0 [.ref 76, .int c, .int i, .int m] (tw X A L) (jRi (-1) (tw X A L)) := by
  refine jMet_of (by decide) (Nat.le_of_ble_eq_true rfl) none (Or.inl rfl) ?_
  show jWP none RX11 cX11_accounts 6 (some .int) (d + 2) 0 0 0 [some (.ref 76), some (.int c), some (.int i), some (.int m), none, none] [] (tw X A L) (jRi (-1) (tw X A L))
  refine j_iload_n dX11_accounts_0 rfl rfl ?_
  refine j_callSi [.int _] [] dX11_accounts_1 jlk_X11_124 rfl rfl (Nat.le_of_ble_eq_true rfl) (m_isSh) ?_
  refine j_if_eq (tgt := 19) dX11_accounts_4 (by decide) (fun h4 => ?_) (fun h4 => ?_)
  · refine j_iconst (v := (-1)) dX11_accounts_19 rfl ?_
    refine j_ireturn dX11_accounts_20 rfl ?_
    exact ⟨rfl, rfl⟩
  · refine j_iload_n dX11_accounts_7 rfl rfl ?_
    refine j_i2l dX11_accounts_8 ?_
    refine j_lconst (v := 1) dX11_accounts_9 rfl ?_
    refine j_ldc2 dX11_accounts_10 jw_k_X11_115 ?_
    refine j_callSi [.long _, .long _, .long _] [] dX11_accounts_13 jlk_X11_111 rfl rfl (Nat.le_of_ble_eq_true rfl) (m_within) ?_
    refine j_if_ne (tgt := 21) dX11_accounts_16 (by decide) (fun h16 => ?_) (fun h16 => ?_)
    · exfalso
      have hw := wi_1g (a := 1) (b := 6) h16 (by decide) (by decide)
      rcases h with q | q | q
      · exact h4 q
      · exact hw.1 q
      · exact hw.2 q
    · refine j_iconst (v := (-1)) dX11_accounts_19 rfl ?_
      refine j_ireturn dX11_accounts_20 rfl ?_
      exact ⟨rfl, rfl⟩

set_option maxHeartbeats 200000 in
set_option maxRecDepth 100000 in
theorem m_accounts_0 {j : Nat} (hj : j < 6) (hs : A 100 j = -1) {i : Int32} {k : Nat} (hk1 : 1 ≤ k) (hk6 : k ≤ 6) : jMet (d + 2) yX11_accounts cX11_accounts 6 (some .int) 0 0 [.ref 76, .int (nI j), .int i, .int (nI k)] (tw X A L) (jRi (nI 0) (tw X A L)) := by
  refine jMet_of (by decide) (Nat.le_of_ble_eq_true rfl) none (Or.inl rfl) ?_
  show jWP none RX11 cX11_accounts 6 (some .int) (d + 2) 0 0 0 [some (.ref 76), some (.int (nI j)), some (.int i), some (.int (nI k)), none, none] [] (tw X A L) (jRi (nI 0) (tw X A L))
  refine j_iload_n dX11_accounts_0 rfl rfl ?_
  refine j_callSi [.int _] [] dX11_accounts_1 jlk_X11_124 rfl rfl (Nat.le_of_ble_eq_true rfl) (jMet_i m_isSh (isA_in hj (by decide)) rfl) ?_
  refine j_if_eq (tgt := 19) dX11_accounts_4 (by decide) (fun h => absurd h (by decide)) (fun _ => ?_)
  refine j_iload_n dX11_accounts_7 rfl rfl ?_
  refine j_i2l dX11_accounts_8 ?_
  refine j_lconst (v := 1) dX11_accounts_9 rfl ?_
  refine j_ldc2 dX11_accounts_10 jw_k_X11_115 ?_
  refine j_callSi [.long _, .long _, .long _] [] dX11_accounts_13 jlk_X11_111 rfl rfl (Nat.le_of_ble_eq_true rfl) (jMet_i m_within (wi_1 hk1 hk6 (by decide) (by decide) (by decide)) rfl) ?_
  refine j_if_ne (tgt := 21) dX11_accounts_16 (by decide) (fun _ => ?_) (fun h => absurd h (by decide))
  refine j_aload_n dX11_accounts_21 rfl rfl ?_
  refine t_getR (b := 100) dX11_accounts_22 jfl_X11_82 (fun _ _ _ => rfl) rfl ?_
  refine j_iload_n dX11_accounts_25 rfl rfl ?_
  refine t_iaload dX11_accounts_26 (fun _ _ _ => rfl) (by omega) (by decide) ?_
  refine j_if_lt (tgt := 44) dX11_accounts_27 (by decide) (fun h27 => ?_) (fun h27 => absurd (show A 100 j < 0 from by rw [hs]; decide) h27)
  refine j_iconst (v := nI 0) dX11_accounts_44 rfl ?_
  refine j_istore (lv' := [some (.ref 76), some (.int _), some (.int _), some (.int _), some (.int _), none]) dX11_accounts_45 (by decide) rfl ?_
  refine j_aload_n dX11_accounts_47 rfl rfl ?_
  refine t_getR (b := 100) dX11_accounts_48 jfl_X11_82 (fun _ _ _ => rfl) rfl ?_
  refine j_iload_n dX11_accounts_51 rfl rfl ?_
  refine t_iaload dX11_accounts_52 (fun _ _ _ => rfl) (by omega) (by decide) ?_
  refine j_bipush (v := nI 50) dX11_accounts_53 rfl ?_
  refine j_icmp_ne (tgt := 66) dX11_accounts_55 (by decide) (fun h55 => ?_) (fun h55 => absurd (show A 100 j = nI 50 from by first | exact h55 | simpa using h55) (by rw [hs]; decide))
  refine j_iconst (v := nI 0) dX11_accounts_66 rfl ?_
  refine j_istore (lv' := [some (.ref 76), some (.int _), some (.int _), some (.int _), some (.int _), some (.int _)]) dX11_accounts_67 (by decide) rfl ?_
  refine j_iload dX11_accounts_69 rfl ?_
  refine j_if_eq (tgt := 176) dX11_accounts_71 (by decide) (fun _ => ?_) (fun h => absurd (by decide) h)
  refine j_iload dX11_accounts_176 rfl ?_
  refine j_ireturn dX11_accounts_178 rfl ?_
  exact ⟨rfl, rfl⟩

set_option maxHeartbeats 200000 in
set_option maxRecDepth 100000 in
theorem m_accounts_12 {j b : Nat} (hj : j < 6) (hs : A 100 j = nI b) (hb : b < 60) (hne : b ≠ 50) {i : Int32} {k : Nat} (hk1 : 1 ≤ k) (hk6 : k ≤ 6) : jMet (d + 2) yX11_accounts cX11_accounts 6 (some .int) 0 0 [.ref 76, .int (nI j), .int i, .int (nI k)] (tw X A L) (jRi (-12) (tw X A L)) := by
  refine jMet_of (by decide) (Nat.le_of_ble_eq_true rfl) none (Or.inl rfl) ?_
  show jWP none RX11 cX11_accounts 6 (some .int) (d + 2) 0 0 0 [some (.ref 76), some (.int (nI j)), some (.int i), some (.int (nI k)), none, none] [] (tw X A L) (jRi (-12) (tw X A L))
  refine j_iload_n dX11_accounts_0 rfl rfl ?_
  refine j_callSi [.int _] [] dX11_accounts_1 jlk_X11_124 rfl rfl (Nat.le_of_ble_eq_true rfl) (jMet_i m_isSh (isA_in hj (by decide)) rfl) ?_
  refine j_if_eq (tgt := 19) dX11_accounts_4 (by decide) (fun h => absurd h (by decide)) (fun _ => ?_)
  refine j_iload_n dX11_accounts_7 rfl rfl ?_
  refine j_i2l dX11_accounts_8 ?_
  refine j_lconst (v := 1) dX11_accounts_9 rfl ?_
  refine j_ldc2 dX11_accounts_10 jw_k_X11_115 ?_
  refine j_callSi [.long _, .long _, .long _] [] dX11_accounts_13 jlk_X11_111 rfl rfl (Nat.le_of_ble_eq_true rfl) (jMet_i m_within (wi_1 hk1 hk6 (by decide) (by decide) (by decide)) rfl) ?_
  refine j_if_ne (tgt := 21) dX11_accounts_16 (by decide) (fun _ => ?_) (fun h => absurd h (by decide))
  refine j_aload_n dX11_accounts_21 rfl rfl ?_
  refine t_getR (b := 100) dX11_accounts_22 jfl_X11_82 (fun _ _ _ => rfl) rfl ?_
  refine j_iload_n dX11_accounts_25 rfl rfl ?_
  refine t_iaload dX11_accounts_26 (fun _ _ _ => rfl) (by omega) (by decide) ?_
  refine j_topE (e' := nI b) hs ?_
  refine jn_if_lt (tgt := 44) dX11_accounts_27 (by decide) (by omega) ?_
  refine j_aload_n dX11_accounts_30 rfl rfl ?_
  refine t_getR (b := 100) dX11_accounts_31 jfl_X11_82 (fun _ _ _ => rfl) rfl ?_
  refine j_iload_n dX11_accounts_34 rfl rfl ?_
  refine t_iaload dX11_accounts_35 (fun _ _ _ => rfl) (by omega) (by decide) ?_
  refine j_topE (e' := nI b) hs ?_
  refine j_bipush (v := nI 50) dX11_accounts_36 rfl ?_
  refine jn_icmp_eq (tgt := 44) dX11_accounts_38 (by decide) (by omega) (by omega) (fun h38 => absurd h38 hne) (fun h38 => ?_)
  refine j_bipush (v := (-12)) dX11_accounts_41 rfl ?_
  refine j_ireturn dX11_accounts_43 rfl ?_
  exact ⟨rfl, rfl⟩

set_option maxHeartbeats 200000 in
set_option maxRecDepth 100000 in
theorem l_bitsOf {e : Int32} {r : Nat} : ∀ (m n s : Nat), s < 1024 → pcN s = m → n + m = r → jWP none RX11 cX11_bitsOf 3 (some .int) (d) 0 0 4 [some (.int e), some (.int (nI n)), some (.int (nI s))] [] (w) (jRi (nI r) w) := by
  intro m
  induction m with
  | zero =>
    intro n s hs hp hr
    have h0 : s = 0 := Classical.not_not.mp (fun q => by have := (bits_tab hs q).1; omega)
    refine j_iload_n dX11_bitsOf_4 rfl rfl ?_
    refine jn_if_eq (tgt := 20) dX11_bitsOf_5 (by decide) (by omega) (fun h5 => ?_) (fun h5 => absurd h0 (by omega))
    refine j_iload_n dX11_bitsOf_20 rfl rfl ?_
    refine j_ireturn dX11_bitsOf_21 rfl ?_
    exact ⟨by rw [← hr]; rfl, rfl⟩
  | succ m ih =>
    intro n s hs hp hr
    have h0 : ¬ s = 0 := fun q => by rw [q] at hp; exact absurd hp (show ¬ (0 = m + 1) by omega)
    refine j_iload_n dX11_bitsOf_4 rfl rfl ?_
    refine jn_if_eq (tgt := 20) dX11_bitsOf_5 (by decide) (by omega) (fun h5 => absurd h5 h0) (fun h5 => ?_)
    refine jn_iinc (lv' := [some (.int _), some (.int _), some (.int _)]) dX11_bitsOf_8 rfl (by decide) rfl ?_
    refine j_iload_n dX11_bitsOf_11 rfl rfl ?_
    refine j_iload_n dX11_bitsOf_12 rfl rfl ?_
    refine j_iconst (v := nI 1) dX11_bitsOf_13 rfl ?_
    refine jn_isub dX11_bitsOf_14 (by omega) ?_
    refine j_iand dX11_bitsOf_15 ?_
    refine j_topE (e' := nI (s &&& (s - 1))) (nI_and _ _) ?_
    refine j_istore_n (lv' := [some (.int _), some (.int _), some (.int _)]) dX11_bitsOf_16 rfl (by decide) rfl ?_
    refine j_goto (tgt := 4) dX11_bitsOf_17 (by decide) ?_
    have q := bits_tab hs h0
    exact ih (n + 1) (s &&& (s - 1)) q.2 (by omega) (by omega)

set_option maxHeartbeats 200000 in
set_option maxRecDepth 100000 in
theorem m_bitsOf {s : Nat} (hs : s < 1024) : jMet (d) yX11_bitsOf cX11_bitsOf 3 (some .int) 0 0 [.int (nI s)] (w) (jRi (nI (pcN s)) w) := by
  refine jMet_of (by decide) (Nat.le_of_ble_eq_true rfl) none (Or.inl rfl) ?_
  show jWP none RX11 cX11_bitsOf 3 (some .int) (d) 0 0 0 [some (.int (nI s)), none, none] [] (w) (jRi (nI (pcN s)) w)
  refine j_iconst (v := nI 0) dX11_bitsOf_0 rfl ?_
  refine j_istore_n (lv' := [some (.int _), some (.int _), none]) dX11_bitsOf_1 rfl (by decide) rfl ?_
  refine j_iload_n dX11_bitsOf_2 rfl rfl ?_
  refine j_istore_n (lv' := [some (.int _), some (.int _), some (.int _)]) dX11_bitsOf_3 rfl (by decide) rfl ?_
  exact l_bitsOf (pcN s) 0 s hs rfl (by omega)

end CT63