section CT51
variable {d : Nat} {X A : Nat → Nat → Int32} {L : Nat → Nat → Int64} {w : jW} {na nb : Nat} {v kd : Nat → Nat}

set_option maxHeartbeats 200000 in
set_option maxRecDepth 100000 in
theorem m_isIn {s k : Nat} (hs : s < 1024) (hk : k < 10) : jMet (d) yX11_isIn cX11_isIn 2 (some .boolean) 0 0 [.int (nI s), .int (nI k)] (w) (jRi (bz (isB1 s k)) w) := by
  refine jMet_of (by decide) (Nat.le_of_ble_eq_true rfl) none (Or.inl rfl) ?_
  show jWP none RX11 cX11_isIn 2 (some .boolean) (d) 0 0 0 [some (.int (nI s)), some (.int (nI k))] [] (w) (jRi (bz (isB1 s k)) w)
  refine j_iload_n dX11_isIn_0 rfl rfl ?_
  refine j_iload_n dX11_isIn_1 rfl rfl ?_
  refine j_ishr dX11_isIn_2 ?_
  refine j_iconst (v := nI 1) dX11_isIn_3 rfl ?_
  refine j_iand dX11_isIn_4 ?_
  refine j_topE (e' := nI (bitN s k)) (bit_tab hs hk) ?_
  refine j_iconst (v := nI 1) dX11_isIn_5 rfl ?_
  refine jn_icmp_ne (tgt := 13) dX11_isIn_6 (by decide) (Nat.lt_trans (Nat.mod_lt _ (by decide)) (by decide)) (by omega) (fun h6 => ?_) (fun h6 => ?_)
  · refine j_iconst (v := nI 0) dX11_isIn_13 rfl ?_
    refine j_zreturn dX11_isIn_14 rfl (by decide) ?_
    exact ⟨by unfold isB1; rw [decide_eq_false h6]; rfl, rfl⟩
  · refine j_iconst (v := nI 1) dX11_isIn_9 rfl ?_
    refine j_goto (tgt := 14) dX11_isIn_10 (by decide) ?_
    refine j_zreturn dX11_isIn_14 rfl (by decide) ?_
    exact ⟨by unfold isB1; rw [decide_eq_true h6]; rfl, rfl⟩

set_option maxHeartbeats 200000 in
set_option maxRecDepth 100000 in
theorem l_commonOf {p q : Int64} {g : Int64} : ∀ (m : Nat) (x y : Int64), gcO m x y = some g → jWP none RX11 cX11_commonOf 10 (some .long) (d) 0 0 6 [some (.long p), none, some (.long q), none, some (.long x), none, some (.long y), none, none, none] [] (w) (jRl g w) := by
  intro m
  induction m with
  | zero => intro x y h; cases h
  | succ m ih =>
    intro x y h
    refine j_lload dX11_commonOf_6 rfl ?_
    refine j_lconst (v := 0) dX11_commonOf_8 rfl ?_
    refine j_lcmp dX11_commonOf_9 ?_
    refine j_if_eq (tgt := 31) dX11_commonOf_10 (by decide) (fun h10 => ?_) (fun h10 => ?_)
    · have h10 : y = 0 := lcmp0.mp h10
      rw [gcO_t h10] at h
      cases h
      refine j_lload dX11_commonOf_31 rfl ?_
      refine j_lreturn dX11_commonOf_33 rfl ?_
      exact ⟨rfl, rfl⟩
    · have h10 : ¬ y = 0 := fun q => h10 (lcmp0.mpr q)
      rw [gcO_f h10] at h
      refine j_lload dX11_commonOf_13 rfl ?_
      refine j_lload dX11_commonOf_15 rfl ?_
      refine j_lrem dX11_commonOf_17 h10 ?_
      refine j_lstore (lv' := [some (.long _), none, some (.long _), none, some (.long _), none, some (.long _), none, some (.long _), none]) dX11_commonOf_18 (by decide) rfl ?_
      refine j_lload dX11_commonOf_20 rfl ?_
      refine j_lstore (lv' := [some (.long _), none, some (.long _), none, some (.long _), none, some (.long _), none, some (.long _), none]) dX11_commonOf_22 (by decide) rfl ?_
      refine j_lload dX11_commonOf_24 rfl ?_
      refine j_lstore (lv' := [some (.long _), none, some (.long _), none, some (.long _), none, some (.long _), none, some (.long _), none]) dX11_commonOf_26 (by decide) rfl ?_
      refine j_goto (tgt := 6) dX11_commonOf_28 (by decide) ?_
      exact j_sub (by exact ⟨rfl, rfl, rfl, rfl, trivial⟩) (ih y _ h)

set_option maxHeartbeats 200000 in
set_option maxRecDepth 100000 in
theorem m_commonOf {p q g : Int64} {m : Nat} (h : gcO m p q = some g) : jMet (d) yX11_commonOf cX11_commonOf 10 (some .long) 0 0 [.long p, .long q] (w) (jRl g w) := by
  refine jMet_of (by decide) (Nat.le_of_ble_eq_true rfl) none (Or.inl rfl) ?_
  show jWP none RX11 cX11_commonOf 10 (some .long) (d) 0 0 0 [some (.long p), none, some (.long q), none, none, none, none, none, none, none] [] (w) (jRl g w)
  refine j_lload_n dX11_commonOf_0 rfl rfl ?_
  refine j_lstore (lv' := [some (.long _), none, some (.long _), none, some (.long _), none, none, none, none, none]) dX11_commonOf_1 (by decide) rfl ?_
  refine j_lload_n dX11_commonOf_3 rfl rfl ?_
  refine j_lstore (lv' := [some (.long _), none, some (.long _), none, some (.long _), none, some (.long _), none, none, none]) dX11_commonOf_4 (by decide) rfl ?_
  exact l_commonOf m p q h

set_option maxHeartbeats 200000 in
set_option maxRecDepth 100000 in
theorem m_partOf {a b : Int64} {p : Int32} (hg : a ≠ 0 → ∃ g, gcO 200 b a = some g ∧ g ≠ 0) : jMet (d + 1) yX11_partOf cX11_partOf 7 (some .long) 0 0 [.long a, .long b, .int p] (w) (jRl (frM a b p) w) := by
  refine jMet_of (by decide) (Nat.le_of_ble_eq_true rfl) none (Or.inl rfl) ?_
  show jWP none RX11 cX11_partOf 7 (some .long) (d + 1) 0 0 0 [some (.long a), none, some (.long b), none, some (.int p), none, none] [] (w) (jRl (frM a b p) w)
  refine j_lload_n dX11_partOf_0 rfl rfl ?_
  refine j_lconst (v := 0) dX11_partOf_1 rfl ?_
  refine j_lcmp dX11_partOf_2 ?_
  refine j_if_ne (tgt := 10) dX11_partOf_3 (by decide) (fun h3 => ?_) (fun h3 => ?_)
  · have h3 : ¬ a = 0 := fun q => h3 (lcmp0.mpr q)
    obtain ⟨g, hg1, hg2⟩ := hg h3
    refine j_lload_n dX11_partOf_10 rfl rfl ?_
    refine j_lload_n dX11_partOf_11 rfl rfl ?_
    refine j_callSl [.long _, .long _] [] dX11_partOf_12 jlk_X11_272 rfl rfl (Nat.le_of_ble_eq_true rfl) (m_commonOf hg1) ?_
    refine j_lstore (lv' := [some (.long _), none, some (.long _), none, some (.int _), some (.long _), none]) dX11_partOf_15 (by decide) rfl ?_
    refine j_iload dX11_partOf_17 rfl ?_
    refine j_if_ne (tgt := 29) dX11_partOf_19 (by decide) (fun h19 => ?_) (fun h19 => ?_)
    · refine j_lload_n dX11_partOf_29 rfl rfl ?_
      refine j_lload dX11_partOf_30 rfl ?_
      refine j_ldiv dX11_partOf_32 hg2 ?_
      refine j_lreturn dX11_partOf_33 rfl ?_
      exact ⟨by unfold frM; rw [if_neg h3, hg1, if_neg h19]; rfl, rfl⟩
    · refine j_lload_n dX11_partOf_22 rfl rfl ?_
      refine j_lload dX11_partOf_23 rfl ?_
      refine j_ldiv dX11_partOf_25 hg2 ?_
      refine j_goto (tgt := 33) dX11_partOf_26 (by decide) ?_
      refine j_lreturn dX11_partOf_33 rfl ?_
      exact ⟨by unfold frM; rw [if_neg h3, hg1, if_pos (by first | exact h19 | simpa using h19)]; rfl, rfl⟩
  · have h3 : a = 0 := lcmp0.mp (by first | exact h3 | simpa using h3)
    refine j_iload dX11_partOf_6 rfl ?_
    refine j_i2l dX11_partOf_8 ?_
    refine j_lreturn dX11_partOf_9 rfl ?_
    exact ⟨by unfold frM; rw [if_pos h3], rfl⟩

theorem l2i_id {e : Int32} : (e.toInt64).toInt32 = e := by simp
theorem bz_inj {a b : Bool} (h : bz a = bz b) : a = b := by
  cases a <;> cases b
  · rfl
  · exact absurd h (by decide)
  · exact absurd h (by decide)
  · rfl
set_option maxHeartbeats 200000 in
set_option maxRecDepth 100000 in
theorem l_heardBy (hv : A 77 = nIf v) (hf : v 7 < 7) {h j : Nat} (hh : h < 8) (hj : j < 8) : ∀ (m k : Nat), k ≤ 3 → 3 - k < m → jWP none RX11 cX11_heardBy 8 (some .long) (d + 1) 0 0 6 [some (.ref 76), some (.int (nI j)), some (.long (nI h).toInt64), none, some (.long (hbJ (v 7) h j k)), none, some (.int (nI k)), none] [] (tw X A L) (jRl (hbJ (v 7) h j 3) (tw X A L)) := by
  intro m
  induction m with
  | zero => intro k h1 h2; omega
  | succ m ih =>
    intro k hk hm
    refine j_iload dX11_heardBy_6 rfl ?_
    refine j_iconst (v := nI 3) dX11_heardBy_8 rfl ?_
    refine jn_icmp_ge (tgt := 73) dX11_heardBy_9 (by decide) (by omega) (by omega) (fun h9 => ?_) (fun h9 => ?_)
    · refine j_lload dX11_heardBy_73 rfl ?_
      refine j_lreturn dX11_heardBy_75 rfl ?_
      obtain rfl : k = 3 := by omega
      exact ⟨rfl, rfl⟩
    · refine j_iload_n dX11_heardBy_12 rfl rfl ?_
      refine j_iload dX11_heardBy_13 rfl ?_
      refine j_callSi [.int _, .int _] [] dX11_heardBy_15 jlk_X11_254 rfl rfl (Nat.le_of_ble_eq_true rfl) (m_isIn (by omega) (by omega)) ?_
      refine j_lload_n dX11_heardBy_18 rfl rfl ?_
      refine j_l2i dX11_heardBy_19 ?_
      refine j_iload dX11_heardBy_20 rfl ?_
      refine j_ats (st' := [.int (nI k), .int (nI h), .int (bz (isB1 j k))]) (by rw [l2i_id]) ?_
      refine j_callSi [.int _, .int _] [.int _] dX11_heardBy_22 jlk_X11_254 rfl rfl (Nat.le_of_ble_eq_true rfl) (m_isIn (by omega) (by omega)) ?_
      refine j_icmp_eq (tgt := 32) dX11_heardBy_25 (by decide) (fun h25 => ?_) (fun h25 => ?_)
      · have h25 : isB1 j k = isB1 h k := bz_inj h25
        refine j_iconst (v := nI 0) dX11_heardBy_32 rfl ?_
        refine j_istore (lv' := [some (.ref 76), some (.int _), some (.long _), none, some (.long _), none, some (.int _), some (.int _)]) dX11_heardBy_33 (by decide) rfl ?_
        refine j_lload dX11_heardBy_35 rfl ?_
        refine j_iload dX11_heardBy_37 rfl ?_
        refine j_if_eq (tgt := 53) dX11_heardBy_39 (by decide) (fun _ => ?_) (fun h => absurd (by decide) h)
        refine j_bipush (v := nI 12) dX11_heardBy_53 rfl ?_
        refine j_aload_n dX11_heardBy_55 rfl rfl ?_
        refine t_getR (b := 77) dX11_heardBy_56 jfl_X11_11 (fun _ _ _ => rfl) rfl ?_
        refine j_bipush (v := nI 7) dX11_heardBy_59 rfl ?_
        refine t_iaload dX11_heardBy_61 (fun _ _ _ => rfl) (by omega) (by decide) ?_
        refine j_topE (e' := nI (v 7)) (by rw [hv]; rfl) ?_
        refine jn_isub dX11_heardBy_62 (by omega) ?_
        refine j_i2l dX11_heardBy_63 ?_
        refine j_lmul dX11_heardBy_64 ?_
        refine j_lstore (lv' := [some (.ref 76), some (.int _), some (.long _), none, some (.long _), none, some (.int _), some (.int _)]) dX11_heardBy_65 (by decide) rfl ?_
        refine jn_iinc (lv' := [some (.ref 76), some (.int _), some (.long _), none, some (.long _), none, some (.int _), some (.int _)]) dX11_heardBy_67 rfl (by decide) rfl ?_
        refine j_goto (tgt := 6) dX11_heardBy_70 (by decide) ?_
        refine j_sub ?_ (ih (k + 1) (by omega) (by omega))
        have e : hbJ (v 7) h j (k + 1) = hbJ (v 7) h j k * tbN (v 7) h j k := rfl
        rw [e]
        unfold tbN
        rw [if_pos h25]
        exact ⟨rfl, rfl, rfl, rfl, rfl, trivial⟩
      · have h25 : ¬ isB1 j k = isB1 h k := fun q => h25 (congrArg bz q)
        refine j_iconst (v := nI 1) dX11_heardBy_28 rfl ?_
        refine j_goto (tgt := 33) dX11_heardBy_29 (by decide) ?_
        refine j_istore (lv' := [some (.ref 76), some (.int _), some (.long _), none, some (.long _), none, some (.int _), some (.int _)]) dX11_heardBy_33 (by decide) rfl ?_
        refine j_lload dX11_heardBy_35 rfl ?_
        refine j_iload dX11_heardBy_37 rfl ?_
        refine j_if_eq (tgt := 53) dX11_heardBy_39 (by decide) (fun h => absurd h (by decide)) (fun _ => ?_)
        refine j_aload_n dX11_heardBy_42 rfl rfl ?_
        refine t_getR (b := 77) dX11_heardBy_43 jfl_X11_11 (fun _ _ _ => rfl) rfl ?_
        refine j_bipush (v := nI 7) dX11_heardBy_46 rfl ?_
        refine t_iaload dX11_heardBy_48 (fun _ _ _ => rfl) (by omega) (by decide) ?_
        refine j_topE (e' := nI (v 7)) (by rw [hv]; rfl) ?_
        refine j_i2l dX11_heardBy_49 ?_
        refine j_goto (tgt := 64) dX11_heardBy_50 (by decide) ?_
        refine j_lmul dX11_heardBy_64 ?_
        refine j_lstore (lv' := [some (.ref 76), some (.int _), some (.long _), none, some (.long _), none, some (.int _), some (.int _)]) dX11_heardBy_65 (by decide) rfl ?_
        refine jn_iinc (lv' := [some (.ref 76), some (.int _), some (.long _), none, some (.long _), none, some (.int _), some (.int _)]) dX11_heardBy_67 rfl (by decide) rfl ?_
        refine j_goto (tgt := 6) dX11_heardBy_70 (by decide) ?_
        refine j_sub ?_ (ih (k + 1) (by omega) (by omega))
        have e : hbJ (v 7) h j (k + 1) = hbJ (v 7) h j k * tbN (v 7) h j k := rfl
        rw [e]
        unfold tbN
        rw [if_neg h25]
        exact ⟨rfl, rfl, rfl, rfl, rfl, trivial⟩

set_option maxHeartbeats 200000 in
set_option maxRecDepth 100000 in
theorem m_heardBy0 (hv : A 77 = nIf v) (hf : v 7 < 7) {h j : Nat} (hh : h < 8) (hj : j < 8) : jMet (d + 1) yX11_heardBy cX11_heardBy 8 (some .long) 0 0 [.ref 76, .int (nI j), .long (nI h).toInt64] (tw X A L) (jRl (hbJ (v 7) h j 3) (tw X A L)) := by
  refine jMet_of (by decide) (Nat.le_of_ble_eq_true rfl) none (Or.inl rfl) ?_
  show jWP none RX11 cX11_heardBy 8 (some .long) (d + 1) 0 0 0 [some (.ref 76), some (.int (nI j)), some (.long (nI h).toInt64), none, none, none, none, none] [] (tw X A L) (jRl (hbJ (v 7) h j 3) (tw X A L))
  refine j_lconst (v := 1) dX11_heardBy_0 rfl ?_
  refine j_lstore (lv' := [some (.ref 76), some (.int _), some (.long _), none, some (.long _), none, none, none]) dX11_heardBy_1 (by decide) rfl ?_
  refine j_iconst (v := nI 0) dX11_heardBy_3 rfl ?_
  refine j_istore (lv' := [some (.ref 76), some (.int _), some (.long _), none, some (.long _), none, some (.int _), none]) dX11_heardBy_4 (by decide) rfl ?_
  exact l_heardBy hv hf hh hj 4 0 (by decide) (by decide)

theorem m_heardBy (hv : A 77 = nIf v) (hf : v 7 < 7) {h j : Nat} (hh : h < 8) (hj : j < 8) : jMet (d + 1) yX11_heardBy cX11_heardBy 8 (some .long) 0 0 [.ref 76, .int (nI j), .long (nI h).toInt64] (tw X A L) (jRl (hwJ (v 7) h j) (tw X A L)) := jMet_l (m_heardBy0 hv hf hh hj) (hbJ_tab hf hh hj) rfl

set_option maxHeartbeats 200000 in
set_option maxRecDepth 100000 in
theorem l_dance_m (hv : A 77 = nIf v) (hf : v 7 < 7) {h s : Nat} (hh : h < 8) (hs1 : 1 ≤ s) (hs6 : s ≤ 6) {p : Int32} (hg : hwJ (v 7) h s ≠ 0 → ∃ g, gcO 200 (hwS (v 7) h 6) (hwJ (v 7) h s) = some g ∧ g ≠ 0) : ∀ (m i : Nat), i ≤ 6 → 6 - i < m → jWP none RX11 cX11_dance 7 (some .long) (d + 2) 0 0 40 [some (.ref 76), some (.int (nI h)), some (.int (nI s)), some (.int p), some (.long (hwS (v 7) h i)), none, some (.int (nI (i + 1)))] [] (tw X A L) (jRl (if hwS (v 7) h 6 = 0 then (-2) else frM (hwJ (v 7) h s) (hwS (v 7) h 6) p) (tw X A L)) := by
  intro m
  induction m with
  | zero => intro i h1 h2; omega
  | succ m ih =>
    intro i hi hm
    refine j_iload dX11_dance_40 rfl ?_
    refine j_bipush (v := nI 6) dX11_dance_42 rfl ?_
    refine jn_icmp_gt (tgt := 66) dX11_dance_44 (by decide) (by omega) (by omega) (fun h44 => ?_) (fun h44 => ?_)
    · obtain rfl : i = 6 := by omega
      refine j_lload dX11_dance_66 rfl ?_
      refine j_lconst (v := 0) dX11_dance_68 rfl ?_
      refine j_lcmp dX11_dance_69 ?_
      refine j_if_ne (tgt := 79) dX11_dance_70 (by decide) (fun h70 => ?_) (fun h70 => ?_)
      · refine j_aload_n dX11_dance_79 rfl rfl ?_
        refine j_iload_n dX11_dance_80 rfl rfl ?_
        refine j_iload_n dX11_dance_81 rfl rfl ?_
        refine j_i2l dX11_dance_82 ?_
        refine j_callVl [.int _, .long _] [] dX11_dance_83 jlk_X11_280 rfl rfl rfl rfl (Nat.le_of_ble_eq_true rfl) (m_heardBy hv hf (by omega) (by omega)) ?_
        refine j_lload dX11_dance_86 rfl ?_
        refine j_iload_n dX11_dance_88 rfl rfl ?_
        refine j_callSl [.long _, .long _, .int _] [] dX11_dance_89 jlk_X11_286 rfl rfl (Nat.le_of_ble_eq_true rfl) (m_partOf hg) ?_
        refine j_lreturn dX11_dance_92 rfl ?_
        exact ⟨by rw [if_neg (fun q => h70 (lcmp0.mpr q))], rfl⟩
      · refine j_ldc2 dX11_dance_73 jw_k_X11_284 ?_
        refine j_goto (tgt := 92) dX11_dance_76 (by decide) ?_
        refine j_lreturn dX11_dance_92 rfl ?_
        exact ⟨by rw [if_pos (lcmp0.mp (by first | exact h70 | simpa using h70))], rfl⟩
    · refine j_lload dX11_dance_47 rfl ?_
      refine j_aload_n dX11_dance_49 rfl rfl ?_
      refine j_iload dX11_dance_50 rfl ?_
      refine j_iload_n dX11_dance_52 rfl rfl ?_
      refine j_i2l dX11_dance_53 ?_
      refine j_callVl [.int _, .long _] [.long _] dX11_dance_54 jlk_X11_280 rfl rfl rfl rfl (Nat.le_of_ble_eq_true rfl) (m_heardBy hv hf (by omega) (by omega)) ?_
      refine j_ladd dX11_dance_57 ?_
      refine j_lstore (lv' := [some (.ref 76), some (.int _), some (.int _), some (.int _), some (.long _), none, some (.int _)]) dX11_dance_58 (by decide) rfl ?_
      refine jn_iinc (lv' := [some (.ref 76), some (.int _), some (.int _), some (.int _), some (.long _), none, some (.int _)]) dX11_dance_60 rfl (by decide) rfl ?_
      refine j_goto (tgt := 40) dX11_dance_63 (by decide) ?_
      exact ih (i + 1) (by omega) (by omega)

set_option maxHeartbeats 200000 in
set_option maxRecDepth 100000 in
theorem m_dance (hv : A 77 = nIf v) (hf : v 7 < 7) {h s : Nat} (hh : h < 8) (hs1 : 1 ≤ s) (hs6 : s ≤ 6) {p : Int32} (hp : is01 p = nI 1) (hg : hwJ (v 7) h s ≠ 0 → ∃ g, gcO 200 (hwS (v 7) h 6) (hwJ (v 7) h s) = some g ∧ g ≠ 0) : jMet (d + 2) yX11_dance cX11_dance 7 (some .long) 0 0 [.ref 76, .int (nI h), .int (nI s), .int p] (tw X A L) (jRl (if hwS (v 7) h 6 = 0 then (-2) else frM (hwJ (v 7) h s) (hwS (v 7) h 6) p) (tw X A L)) := by
  refine jMet_of (by decide) (Nat.le_of_ble_eq_true rfl) none (Or.inl rfl) ?_
  show jWP none RX11 cX11_dance 7 (some .long) (d + 2) 0 0 0 [some (.ref 76), some (.int (nI h)), some (.int (nI s)), some (.int p), none, none, none] [] (tw X A L) (jRl (if hwS (v 7) h 6 = 0 then (-2) else frM (hwJ (v 7) h s) (hwS (v 7) h 6) p) (tw X A L))
  refine j_iload_n dX11_dance_0 rfl rfl ?_
  refine j_i2l dX11_dance_1 ?_
  refine j_lconst (v := 0) dX11_dance_2 rfl ?_
  refine j_ldc2 dX11_dance_3 jw_k_X11_276 ?_
  refine j_callSi [.long _, .long _, .long _] [] dX11_dance_6 jlk_X11_111 rfl rfl (Nat.le_of_ble_eq_true rfl) (jMet_i m_within (wi_in (k := 7) (by omega) (by decide) (by decide)) rfl) ?_
  refine j_if_eq (tgt := 30) dX11_dance_9 (by decide) (fun h => absurd h (by decide)) (fun _ => ?_)
  refine j_iload_n dX11_dance_12 rfl rfl ?_
  refine j_i2l dX11_dance_13 ?_
  refine j_callSi [.long _] [] dX11_dance_14 jlk_X11_215 rfl rfl (Nat.le_of_ble_eq_true rfl) (jMet_i m_isSum (is16_in hs1 hs6) rfl) ?_
  refine j_if_eq (tgt := 30) dX11_dance_17 (by decide) (fun h => absurd h (by decide)) (fun _ => ?_)
  refine j_iload_n dX11_dance_20 rfl rfl ?_
  refine j_i2l dX11_dance_21 ?_
  refine j_lconst (v := 0) dX11_dance_22 rfl ?_
  refine j_lconst (v := 1) dX11_dance_23 rfl ?_
  refine j_callSi [.long _, .long _, .long _] [] dX11_dance_24 jlk_X11_111 rfl rfl (Nat.le_of_ble_eq_true rfl) (jMet_i m_within (wi_p.trans hp) rfl) ?_
  refine j_if_ne (tgt := 34) dX11_dance_27 (by decide) (fun _ => ?_) (fun h => absurd h (by decide))
  refine j_lconst (v := 0) dX11_dance_34 rfl ?_
  refine j_lstore (lv' := [some (.ref 76), some (.int _), some (.int _), some (.int _), some (.long _), none, none]) dX11_dance_35 (by decide) rfl ?_
  refine j_iconst (v := nI 1) dX11_dance_37 rfl ?_
  refine j_istore (lv' := [some (.ref 76), some (.int _), some (.int _), some (.int _), some (.long _), none, some (.int _)]) dX11_dance_38 (by decide) rfl ?_
  exact l_dance_m hv hf hh hs1 hs6 hg 7 0 (by decide) (by decide)

set_option maxHeartbeats 200000 in
set_option maxRecDepth 100000 in
theorem m_dance_no {h s p : Int32} (hn : isA 8 h = nI 0 ∨ is16 s = nI 0 ∨ is01 p = nI 0) : jMet (d + 2) yX11_dance cX11_dance 7 (some .long) 0 0 [.ref 76, .int h, .int s, .int p] (tw X A L) (jRl (-9223372036854775808) (tw X A L)) := by
  refine jMet_of (by decide) (Nat.le_of_ble_eq_true rfl) none (Or.inl rfl) ?_
  show jWP none RX11 cX11_dance 7 (some .long) (d + 2) 0 0 0 [some (.ref 76), some (.int h), some (.int s), some (.int p), none, none, none] [] (tw X A L) (jRl (-9223372036854775808) (tw X A L))
  refine j_iload_n dX11_dance_0 rfl rfl ?_
  refine j_i2l dX11_dance_1 ?_
  refine j_lconst (v := 0) dX11_dance_2 rfl ?_
  refine j_ldc2 dX11_dance_3 jw_k_X11_276 ?_
  refine j_callSi [.long _, .long _, .long _] [] dX11_dance_6 jlk_X11_111 rfl rfl (Nat.le_of_ble_eq_true rfl) (jMet_i m_within (wi_A (k := 7) (by decide) (by decide)) rfl) ?_
  refine j_if_eq (tgt := 30) dX11_dance_9 (by decide) (fun h9 => ?_) (fun h9 => ?_)
  · refine j_ldc2 dX11_dance_30 jw_k_X11_278 ?_
    refine j_lreturn dX11_dance_33 rfl ?_
    exact ⟨rfl, rfl⟩
  · refine j_iload_n dX11_dance_12 rfl rfl ?_
    refine j_i2l dX11_dance_13 ?_
    refine j_callSi [.long _] [] dX11_dance_14 jlk_X11_215 rfl rfl (Nat.le_of_ble_eq_true rfl) (m_isSum) ?_
    refine j_if_eq (tgt := 30) dX11_dance_17 (by decide) (fun h17 => ?_) (fun h17 => ?_)
    · refine j_ldc2 dX11_dance_30 jw_k_X11_278 ?_
      refine j_lreturn dX11_dance_33 rfl ?_
      exact ⟨rfl, rfl⟩
    · refine j_iload_n dX11_dance_20 rfl rfl ?_
      refine j_i2l dX11_dance_21 ?_
      refine j_lconst (v := 0) dX11_dance_22 rfl ?_
      refine j_lconst (v := 1) dX11_dance_23 rfl ?_
      refine j_callSi [.long _, .long _, .long _] [] dX11_dance_24 jlk_X11_111 rfl rfl (Nat.le_of_ble_eq_true rfl) (jMet_i m_within wi_p rfl) ?_
      refine j_if_ne (tgt := 34) dX11_dance_27 (by decide) (fun h27 => ?_) (fun h27 => ?_)
      · exfalso
        rcases hn with q | q | q
        · exact h9 q
        · exact h17 q
        · exact h27 q
      · refine j_ldc2 dX11_dance_30 jw_k_X11_278 ?_
        refine j_lreturn dX11_dance_33 rfl ?_
        exact ⟨rfl, rfl⟩

set_option maxHeartbeats 200000 in
set_option maxRecDepth 100000 in
theorem m_right (hv : A 77 = nIf v) (hf : v 7 < 7) {s : Nat} (hs1 : 1 ≤ s) (hs6 : s ≤ 6) {p : Int32} (hp : is01 p = nI 1) (hg : hwJ (v 7) s s ≠ 0 → ∃ g, gcO 200 1728 (hwJ (v 7) s s) = some g ∧ g ≠ 0) : jMet (d + 2) yX11_right cX11_right 3 (some .long) 0 0 [.ref 76, .int (nI s), .int p] (tw X A L) (jRl (frM (hwJ (v 7) s s) 1728 p) (tw X A L)) := by
  refine jMet_of (by decide) (Nat.le_of_ble_eq_true rfl) none (Or.inl rfl) ?_
  show jWP none RX11 cX11_right 3 (some .long) (d + 2) 0 0 0 [some (.ref 76), some (.int (nI s)), some (.int p)] [] (tw X A L) (jRl (frM (hwJ (v 7) s s) 1728 p) (tw X A L))
  refine j_iload_n dX11_right_0 rfl rfl ?_
  refine j_i2l dX11_right_1 ?_
  refine j_callSi [.long _] [] dX11_right_2 jlk_X11_215 rfl rfl (Nat.le_of_ble_eq_true rfl) (jMet_i m_isSum (is16_in hs1 hs6) rfl) ?_
  refine j_if_eq (tgt := 35) dX11_right_5 (by decide) (fun h => absurd h (by decide)) (fun _ => ?_)
  refine j_iload_n dX11_right_8 rfl rfl ?_
  refine j_i2l dX11_right_9 ?_
  refine j_lconst (v := 0) dX11_right_10 rfl ?_
  refine j_lconst (v := 1) dX11_right_11 rfl ?_
  refine j_callSi [.long _, .long _, .long _] [] dX11_right_12 jlk_X11_111 rfl rfl (Nat.le_of_ble_eq_true rfl) (jMet_i m_within (wi_p.trans hp) rfl) ?_
  refine j_if_eq (tgt := 35) dX11_right_15 (by decide) (fun h => absurd h (by decide)) (fun _ => ?_)
  refine j_aload_n dX11_right_18 rfl rfl ?_
  refine j_iload_n dX11_right_19 rfl rfl ?_
  refine j_iload_n dX11_right_20 rfl rfl ?_
  refine j_i2l dX11_right_21 ?_
  refine j_callVl [.int _, .long _] [] dX11_right_22 jlk_X11_280 rfl rfl rfl rfl (Nat.le_of_ble_eq_true rfl) (m_heardBy hv hf (by omega) (by omega)) ?_
  refine j_ldc2 dX11_right_25 jw_k_X11_293 ?_
  refine j_iload_n dX11_right_28 rfl rfl ?_
  refine j_callSl [.long _, .long _, .int _] [] dX11_right_29 jlk_X11_286 rfl rfl (Nat.le_of_ble_eq_true rfl) (m_partOf hg) ?_
  refine j_goto (tgt := 38) dX11_right_32 (by decide) ?_
  refine j_lreturn dX11_right_38 rfl ?_
  exact ⟨rfl, rfl⟩

set_option maxHeartbeats 200000 in
set_option maxRecDepth 100000 in
theorem m_right_no {s p : Int32} (h : is16 s = nI 0 ∨ is01 p = nI 0) : jMet (d + 2) yX11_right cX11_right 3 (some .long) 0 0 [.ref 76, .int s, .int p] (tw X A L) (jRl (-9223372036854775808) (tw X A L)) := by
  refine jMet_of (by decide) (Nat.le_of_ble_eq_true rfl) none (Or.inl rfl) ?_
  show jWP none RX11 cX11_right 3 (some .long) (d + 2) 0 0 0 [some (.ref 76), some (.int s), some (.int p)] [] (tw X A L) (jRl (-9223372036854775808) (tw X A L))
  refine j_iload_n dX11_right_0 rfl rfl ?_
  refine j_i2l dX11_right_1 ?_
  refine j_callSi [.long _] [] dX11_right_2 jlk_X11_215 rfl rfl (Nat.le_of_ble_eq_true rfl) (m_isSum) ?_
  refine j_if_eq (tgt := 35) dX11_right_5 (by decide) (fun h5 => ?_) (fun h5 => ?_)
  · refine j_ldc2 dX11_right_35 jw_k_X11_278 ?_
    refine j_lreturn dX11_right_38 rfl ?_
    exact ⟨rfl, rfl⟩
  · refine j_iload_n dX11_right_8 rfl rfl ?_
    refine j_i2l dX11_right_9 ?_
    refine j_lconst (v := 0) dX11_right_10 rfl ?_
    refine j_lconst (v := 1) dX11_right_11 rfl ?_
    refine j_callSi [.long _, .long _, .long _] [] dX11_right_12 jlk_X11_111 rfl rfl (Nat.le_of_ble_eq_true rfl) (jMet_i m_within wi_p rfl) ?_
    refine j_if_eq (tgt := 35) dX11_right_15 (by decide) (fun h15 => ?_) (fun h15 => ?_)
    · refine j_ldc2 dX11_right_35 jw_k_X11_278 ?_
      refine j_lreturn dX11_right_38 rfl ?_
      exact ⟨rfl, rfl⟩
    · exact absurd h (fun q => q.elim h5 h15)

set_option maxHeartbeats 200000 in
set_option maxRecDepth 100000 in
theorem m_pass_1 (hv : A 77 = nIf v) (hv6 : v 6 ≤ 12) {m : Nat} (hm : m ≤ 8) {p : Int32} (hp : is01 p = nI 1) (hg : (nI (m * (12 - v 6))).toInt64 ≠ 0 → ∃ g, gcO 200 12 (nI (m * (12 - v 6))).toInt64 = some g ∧ g ≠ 0) : jMet (d + 2) yX11_pass cX11_pass 10 (some .long) 0 0 [.ref 76, .int (nI m), .int (nI 1), .int p] (tw X A L) (jRl (frM (nI (m * (12 - v 6))).toInt64 12 p) (tw X A L)) := by
  refine jMet_of (by decide) (Nat.le_of_ble_eq_true rfl) none (Or.inl rfl) ?_
  show jWP none RX11 cX11_pass 10 (some .long) (d + 2) 0 0 0 [some (.ref 76), some (.int (nI m)), some (.int (nI 1)), some (.int p), none, none, none, none, none, none] [] (tw X A L) (jRl (frM (nI (m * (12 - v 6))).toInt64 12 p) (tw X A L))
  refine j_iload_n dX11_pass_0 rfl rfl ?_
  refine j_i2l dX11_pass_1 ?_
  refine j_lconst (v := 0) dX11_pass_2 rfl ?_
  refine j_ldc2 dX11_pass_3 jw_k_X11_316 ?_
  refine j_callSi [.long _, .long _, .long _] [] dX11_pass_6 jlk_X11_111 rfl rfl (Nat.le_of_ble_eq_true rfl) (jMet_i m_within (wi_in (k := 8) hm (by decide) (by decide)) rfl) ?_
  refine j_if_eq (tgt := 32) dX11_pass_9 (by decide) (fun h => absurd h (by decide)) (fun _ => ?_)
  refine j_iload_n dX11_pass_12 rfl rfl ?_
  refine j_i2l dX11_pass_13 ?_
  refine j_lconst (v := 0) dX11_pass_14 rfl ?_
  refine j_lconst (v := 1) dX11_pass_15 rfl ?_
  refine j_callSi [.long _, .long _, .long _] [] dX11_pass_16 jlk_X11_111 rfl rfl (Nat.le_of_ble_eq_true rfl) (jMet_i m_within (wi_in (k := 1) (by decide) (by decide) (by decide)) rfl) ?_
  refine j_if_eq (tgt := 32) dX11_pass_19 (by decide) (fun h => absurd h (by decide)) (fun _ => ?_)
  refine j_iload_n dX11_pass_22 rfl rfl ?_
  refine j_i2l dX11_pass_23 ?_
  refine j_lconst (v := 0) dX11_pass_24 rfl ?_
  refine j_lconst (v := 1) dX11_pass_25 rfl ?_
  refine j_callSi [.long _, .long _, .long _] [] dX11_pass_26 jlk_X11_111 rfl rfl (Nat.le_of_ble_eq_true rfl) (jMet_i m_within (wi_p.trans hp) rfl) ?_
  refine j_if_ne (tgt := 36) dX11_pass_29 (by decide) (fun _ => ?_) (fun h => absurd h (by decide))
  refine j_bipush (v := nI 12) dX11_pass_36 rfl ?_
  refine j_aload_n dX11_pass_38 rfl rfl ?_
  refine t_getR (b := 77) dX11_pass_39 jfl_X11_11 (fun _ _ _ => rfl) rfl ?_
  refine j_bipush (v := nI 6) dX11_pass_42 rfl ?_
  refine t_iaload dX11_pass_44 (fun _ _ _ => rfl) (by omega) (by decide) ?_
  refine j_topE (e' := nI (v 6)) (by rw [hv]; rfl) ?_
  refine jn_isub dX11_pass_45 hv6 ?_
  refine j_istore (lv' := [some (.ref 76), some (.int _), some (.int _), some (.int _), some (.int _), none, none, none, none, none]) dX11_pass_46 (by decide) rfl ?_
  refine j_iload_n dX11_pass_48 rfl rfl ?_
  refine j_iconst (v := nI 1) dX11_pass_49 rfl ?_
  refine j_icmp_ne (tgt := 66) dX11_pass_50 (by decide) (fun h => absurd (by decide) h) (fun _ => ?_)
  refine j_iload_n dX11_pass_53 rfl rfl ?_
  refine j_iload dX11_pass_54 rfl ?_
  refine jn_imul dX11_pass_56 ?_
  refine j_i2l dX11_pass_57 ?_
  refine j_ldc2 dX11_pass_58 jw_k_X11_318 ?_
  refine j_iload_n dX11_pass_61 rfl rfl ?_
  refine j_callSl [.long _, .long _, .int _] [] dX11_pass_62 jlk_X11_286 rfl rfl (Nat.le_of_ble_eq_true rfl) (m_partOf hg) ?_
  refine j_lreturn dX11_pass_65 rfl ?_
  exact ⟨rfl, rfl⟩

set_option maxHeartbeats 200000 in
set_option maxRecDepth 100000 in
theorem l_pass (hv : A 77 = nIf v) (hv6 : v 6 ≤ 12) {m : Nat} (hm : m ≤ 8) {p : Int32} (hg : (pwJ (nI (12 - v 6)) m) ≠ 0 → ∃ g, gcO 200 (pw12 m) (pwJ (nI (12 - v 6)) m) = some g ∧ g ≠ 0) : ∀ (q i : Nat), i ≤ m → m - i < q → jWP none RX11 cX11_pass 10 (some .long) (d + 2) 0 0 75 [some (.ref 76), some (.int (nI m)), some (.int (nI 0)), some (.int p), some (.int (nI (12 - v 6))), some (.long (pwJ (nI (12 - v 6)) i)), none, some (.long (pw12 i)), none, some (.int (nI i))] [] (tw X A L) (jRl (frM (pwJ (nI (12 - v 6)) m) (pw12 m) p) (tw X A L)) := by
  intro q
  induction q with
  | zero => intro i h1 h2; omega
  | succ q ih =>
    intro i hi hq
    refine j_iload dX11_pass_75 rfl ?_
    refine j_iload_n dX11_pass_77 rfl rfl ?_
    refine jn_icmp_ge (tgt := 103) dX11_pass_78 (by decide) (by omega) (by omega) (fun h78 => ?_) (fun h78 => ?_)
    · obtain rfl : i = m := by omega
      refine j_lload dX11_pass_103 rfl ?_
      refine j_lload dX11_pass_105 rfl ?_
      refine j_iload_n dX11_pass_107 rfl rfl ?_
      refine j_callSl [.long _, .long _, .int _] [] dX11_pass_108 jlk_X11_286 rfl rfl (Nat.le_of_ble_eq_true rfl) (m_partOf hg) ?_
      refine j_lreturn dX11_pass_111 rfl ?_
      exact ⟨rfl, rfl⟩
    · refine j_lload dX11_pass_81 rfl ?_
      refine j_iload dX11_pass_83 rfl ?_
      refine j_i2l dX11_pass_85 ?_
      refine j_lmul dX11_pass_86 ?_
      refine j_lstore (lv' := [some (.ref 76), some (.int _), some (.int _), some (.int _), some (.int _), some (.long _), none, some (.long _), none, some (.int _)]) dX11_pass_87 (by decide) rfl ?_
      refine j_lload dX11_pass_89 rfl ?_
      refine j_ldc2 dX11_pass_91 jw_k_X11_318 ?_
      refine j_lmul dX11_pass_94 ?_
      refine j_lstore (lv' := [some (.ref 76), some (.int _), some (.int _), some (.int _), some (.int _), some (.long _), none, some (.long _), none, some (.int _)]) dX11_pass_95 (by decide) rfl ?_
      refine jn_iinc (lv' := [some (.ref 76), some (.int _), some (.int _), some (.int _), some (.int _), some (.long _), none, some (.long _), none, some (.int _)]) dX11_pass_97 rfl (by decide) rfl ?_
      refine j_goto (tgt := 75) dX11_pass_100 (by decide) ?_
      exact ih (i + 1) (by omega) (by omega)

set_option maxHeartbeats 200000 in
set_option maxRecDepth 100000 in
theorem m_pass_0 (hv : A 77 = nIf v) (hv6 : v 6 ≤ 12) {m : Nat} (hm : m ≤ 8) {p : Int32} (hp : is01 p = nI 1) (hg : (pwJ (nI (12 - v 6)) m) ≠ 0 → ∃ g, gcO 200 (pw12 m) (pwJ (nI (12 - v 6)) m) = some g ∧ g ≠ 0) : jMet (d + 2) yX11_pass cX11_pass 10 (some .long) 0 0 [.ref 76, .int (nI m), .int (nI 0), .int p] (tw X A L) (jRl (frM (pwJ (nI (12 - v 6)) m) (pw12 m) p) (tw X A L)) := by
  refine jMet_of (by decide) (Nat.le_of_ble_eq_true rfl) none (Or.inl rfl) ?_
  show jWP none RX11 cX11_pass 10 (some .long) (d + 2) 0 0 0 [some (.ref 76), some (.int (nI m)), some (.int (nI 0)), some (.int p), none, none, none, none, none, none] [] (tw X A L) (jRl (frM (pwJ (nI (12 - v 6)) m) (pw12 m) p) (tw X A L))
  refine j_iload_n dX11_pass_0 rfl rfl ?_
  refine j_i2l dX11_pass_1 ?_
  refine j_lconst (v := 0) dX11_pass_2 rfl ?_
  refine j_ldc2 dX11_pass_3 jw_k_X11_316 ?_
  refine j_callSi [.long _, .long _, .long _] [] dX11_pass_6 jlk_X11_111 rfl rfl (Nat.le_of_ble_eq_true rfl) (jMet_i m_within (wi_in (k := 8) hm (by decide) (by decide)) rfl) ?_
  refine j_if_eq (tgt := 32) dX11_pass_9 (by decide) (fun h => absurd h (by decide)) (fun _ => ?_)
  refine j_iload_n dX11_pass_12 rfl rfl ?_
  refine j_i2l dX11_pass_13 ?_
  refine j_lconst (v := 0) dX11_pass_14 rfl ?_
  refine j_lconst (v := 1) dX11_pass_15 rfl ?_
  refine j_callSi [.long _, .long _, .long _] [] dX11_pass_16 jlk_X11_111 rfl rfl (Nat.le_of_ble_eq_true rfl) (jMet_i m_within (wi_in (k := 1) (by decide) (by decide) (by decide)) rfl) ?_
  refine j_if_eq (tgt := 32) dX11_pass_19 (by decide) (fun h => absurd h (by decide)) (fun _ => ?_)
  refine j_iload_n dX11_pass_22 rfl rfl ?_
  refine j_i2l dX11_pass_23 ?_
  refine j_lconst (v := 0) dX11_pass_24 rfl ?_
  refine j_lconst (v := 1) dX11_pass_25 rfl ?_
  refine j_callSi [.long _, .long _, .long _] [] dX11_pass_26 jlk_X11_111 rfl rfl (Nat.le_of_ble_eq_true rfl) (jMet_i m_within (wi_p.trans hp) rfl) ?_
  refine j_if_ne (tgt := 36) dX11_pass_29 (by decide) (fun _ => ?_) (fun h => absurd h (by decide))
  refine j_bipush (v := nI 12) dX11_pass_36 rfl ?_
  refine j_aload_n dX11_pass_38 rfl rfl ?_
  refine t_getR (b := 77) dX11_pass_39 jfl_X11_11 (fun _ _ _ => rfl) rfl ?_
  refine j_bipush (v := nI 6) dX11_pass_42 rfl ?_
  refine t_iaload dX11_pass_44 (fun _ _ _ => rfl) (by omega) (by decide) ?_
  refine j_topE (e' := nI (v 6)) (by rw [hv]; rfl) ?_
  refine jn_isub dX11_pass_45 hv6 ?_
  refine j_istore (lv' := [some (.ref 76), some (.int _), some (.int _), some (.int _), some (.int _), none, none, none, none, none]) dX11_pass_46 (by decide) rfl ?_
  refine j_iload_n dX11_pass_48 rfl rfl ?_
  refine j_iconst (v := nI 1) dX11_pass_49 rfl ?_
  refine j_icmp_ne (tgt := 66) dX11_pass_50 (by decide) (fun _ => ?_) (fun h => absurd h (by decide))
  refine j_lconst (v := 1) dX11_pass_66 rfl ?_
  refine j_lstore (lv' := [some (.ref 76), some (.int _), some (.int _), some (.int _), some (.int _), some (.long _), none, none, none, none]) dX11_pass_67 (by decide) rfl ?_
  refine j_lconst (v := 1) dX11_pass_69 rfl ?_
  refine j_lstore (lv' := [some (.ref 76), some (.int _), some (.int _), some (.int _), some (.int _), some (.long _), none, some (.long _), none, none]) dX11_pass_70 (by decide) rfl ?_
  refine j_iconst (v := nI 0) dX11_pass_72 rfl ?_
  refine j_istore (lv' := [some (.ref 76), some (.int _), some (.int _), some (.int _), some (.int _), some (.long _), none, some (.long _), none, some (.int _)]) dX11_pass_73 (by decide) rfl ?_
  exact l_pass hv hv6 hm hg (m + 1) 0 (by omega) (by omega)

set_option maxHeartbeats 200000 in
set_option maxRecDepth 100000 in
theorem m_pass_no {c q p : Int32} (h : isA 9 c = nI 0 ∨ isA 2 q = nI 0 ∨ is01 p = nI 0) : jMet (d + 2) yX11_pass cX11_pass 10 (some .long) 0 0 [.ref 76, .int c, .int q, .int p] (tw X A L) (jRl (-9223372036854775808) (tw X A L)) := by
  refine jMet_of (by decide) (Nat.le_of_ble_eq_true rfl) none (Or.inl rfl) ?_
  show jWP none RX11 cX11_pass 10 (some .long) (d + 2) 0 0 0 [some (.ref 76), some (.int c), some (.int q), some (.int p), none, none, none, none, none, none] [] (tw X A L) (jRl (-9223372036854775808) (tw X A L))
  refine j_iload_n dX11_pass_0 rfl rfl ?_
  refine j_i2l dX11_pass_1 ?_
  refine j_lconst (v := 0) dX11_pass_2 rfl ?_
  refine j_ldc2 dX11_pass_3 jw_k_X11_316 ?_
  refine j_callSi [.long _, .long _, .long _] [] dX11_pass_6 jlk_X11_111 rfl rfl (Nat.le_of_ble_eq_true rfl) (jMet_i m_within (wi_A (k := 8) (by decide) (by decide)) rfl) ?_
  refine j_if_eq (tgt := 32) dX11_pass_9 (by decide) (fun h9 => ?_) (fun h9 => ?_)
  · refine j_ldc2 dX11_pass_32 jw_k_X11_278 ?_
    refine j_lreturn dX11_pass_35 rfl ?_
    exact ⟨rfl, rfl⟩
  · refine j_iload_n dX11_pass_12 rfl rfl ?_
    refine j_i2l dX11_pass_13 ?_
    refine j_lconst (v := 0) dX11_pass_14 rfl ?_
    refine j_lconst (v := 1) dX11_pass_15 rfl ?_
    refine j_callSi [.long _, .long _, .long _] [] dX11_pass_16 jlk_X11_111 rfl rfl (Nat.le_of_ble_eq_true rfl) (jMet_i m_within (wi_A (k := 1) (by decide) (by decide)) rfl) ?_
    refine j_if_eq (tgt := 32) dX11_pass_19 (by decide) (fun h19 => ?_) (fun h19 => ?_)
    · refine j_ldc2 dX11_pass_32 jw_k_X11_278 ?_
      refine j_lreturn dX11_pass_35 rfl ?_
      exact ⟨rfl, rfl⟩
    · refine j_iload_n dX11_pass_22 rfl rfl ?_
      refine j_i2l dX11_pass_23 ?_
      refine j_lconst (v := 0) dX11_pass_24 rfl ?_
      refine j_lconst (v := 1) dX11_pass_25 rfl ?_
      refine j_callSi [.long _, .long _, .long _] [] dX11_pass_26 jlk_X11_111 rfl rfl (Nat.le_of_ble_eq_true rfl) (jMet_i m_within wi_p rfl) ?_
      refine j_if_ne (tgt := 36) dX11_pass_29 (by decide) (fun h29 => ?_) (fun h29 => ?_)
      · exfalso
        rcases h with q | q | q
        · exact h9 q
        · exact h19 q
        · exact h29 q
      · refine j_ldc2 dX11_pass_32 jw_k_X11_278 ?_
        refine j_lreturn dX11_pass_35 rfl ?_
        exact ⟨rfl, rfl⟩

set_option maxHeartbeats 200000 in
set_option maxRecDepth 100000 in
theorem l_mostFalse_m (hv : A 77 = nIf v) (hv6 : v 6 ≤ 12) {x : Nat} (hx : x ≤ 12) : ∀ (q i : Nat), i ≤ 8 → 8 - i < q → jWP none RX11 cX11_mostFalse 8 (some .int) (d + 1) 0 0 24 [some (.ref 76), some (.int (nI x)), some (.int (mfM (v 6) x i)), some (.long (pwJ (nI (12 - v 6)) i)), none, some (.long (pw12 i)), none, some (.int (nI (i + 1)))] [] (tw X A L) (jRi (mfM (v 6) x 8) (tw X A L)) := by
  intro q
  induction q with
  | zero => intro i h1 h2; omega
  | succ q ih =>
    intro i hi hq
    refine j_iload dX11_mostFalse_24 rfl ?_
    refine j_bipush (v := nI 8) dX11_mostFalse_26 rfl ?_
    refine jn_icmp_gt (tgt := 80) dX11_mostFalse_28 (by decide) (by omega) (by omega) (fun h28 => ?_) (fun h28 => ?_)
    · obtain rfl : i = 8 := by omega
      refine j_iload_n dX11_mostFalse_80 rfl rfl ?_
      refine j_ireturn dX11_mostFalse_81 rfl ?_
      exact ⟨rfl, rfl⟩
    · refine j_lload_n dX11_mostFalse_31 rfl rfl ?_
      refine j_bipush (v := nI 12) dX11_mostFalse_32 rfl ?_
      refine j_aload_n dX11_mostFalse_34 rfl rfl ?_
      refine t_getR (b := 77) dX11_mostFalse_35 jfl_X11_11 (fun _ _ _ => rfl) rfl ?_
      refine j_bipush (v := nI 6) dX11_mostFalse_38 rfl ?_
      refine t_iaload dX11_mostFalse_40 (fun _ _ _ => rfl) (by omega) (by decide) ?_
      refine j_topE (e' := nI (v 6)) (by rw [hv]; rfl) ?_
      refine jn_isub dX11_mostFalse_41 hv6 ?_
      refine j_i2l dX11_mostFalse_42 ?_
      refine j_lmul dX11_mostFalse_43 ?_
      refine j_lstore_n (lv' := [some (.ref 76), some (.int _), some (.int _), some (.long _), none, some (.long _), none, some (.int _)]) dX11_mostFalse_44 rfl (by decide) rfl ?_
      refine j_lload dX11_mostFalse_45 rfl ?_
      refine j_ldc2 dX11_mostFalse_47 jw_k_X11_318 ?_
      refine j_lmul dX11_mostFalse_50 ?_
      refine j_lstore (lv' := [some (.ref 76), some (.int _), some (.int _), some (.long _), none, some (.long _), none, some (.int _)]) dX11_mostFalse_51 (by decide) rfl ?_
      refine j_ldc2 dX11_mostFalse_53 jw_k_X11_318 ?_
      refine j_lload_n dX11_mostFalse_56 rfl rfl ?_
      refine j_lmul dX11_mostFalse_57 ?_
      refine j_iload_n dX11_mostFalse_58 rfl rfl ?_
      refine j_i2l dX11_mostFalse_59 ?_
      refine j_lload dX11_mostFalse_60 rfl ?_
      refine j_lmul dX11_mostFalse_62 ?_
      refine j_lcmp dX11_mostFalse_63 ?_
      refine j_if_lt (tgt := 72) dX11_mostFalse_64 (by decide) (fun h64 => ?_) (fun h64 => ?_)
      · refine j_iload_n dX11_mostFalse_72 rfl rfl ?_
        refine j_istore_n (lv' := [some (.ref 76), some (.int _), some (.int _), some (.long _), none, some (.long _), none, some (.int _)]) dX11_mostFalse_73 rfl (by decide) rfl ?_
        refine jn_iinc (lv' := [some (.ref 76), some (.int _), some (.int _), some (.long _), none, some (.long _), none, some (.int _)]) dX11_mostFalse_74 rfl (by decide) rfl ?_
        refine j_goto (tgt := 24) dX11_mostFalse_77 (by decide) ?_
        refine j_sub ?_ (ih (i + 1) (by omega) (by omega))
        have e : mfM (v 6) x (i + 1) = if lg_cmp (12 * (pwJ (nI (12 - v 6)) (i + 1))) ((nI x).toInt64 * pw12 (i + 1)) < 0 then mfM (v 6) x i else nI (i + 1) := rfl
        have e2 : (pwJ (nI (12 - v 6)) (i + 1)) = (pwJ (nI (12 - v 6)) i) * (nI (12 - v 6)).toInt64 := rfl
        have e3 : pw12 (i + 1) = pw12 i * 12 := rfl
        rw [e2, e3] at e
        rw [e, if_pos h64]
        exact ⟨rfl, rfl, rfl, rfl, rfl, rfl, trivial⟩
      · refine j_iload dX11_mostFalse_67 rfl ?_
        refine j_goto (tgt := 73) dX11_mostFalse_69 (by decide) ?_
        refine j_istore_n (lv' := [some (.ref 76), some (.int _), some (.int _), some (.long _), none, some (.long _), none, some (.int _)]) dX11_mostFalse_73 rfl (by decide) rfl ?_
        refine jn_iinc (lv' := [some (.ref 76), some (.int _), some (.int _), some (.long _), none, some (.long _), none, some (.int _)]) dX11_mostFalse_74 rfl (by decide) rfl ?_
        refine j_goto (tgt := 24) dX11_mostFalse_77 (by decide) ?_
        refine j_sub ?_ (ih (i + 1) (by omega) (by omega))
        have e : mfM (v 6) x (i + 1) = if lg_cmp (12 * (pwJ (nI (12 - v 6)) (i + 1))) ((nI x).toInt64 * pw12 (i + 1)) < 0 then mfM (v 6) x i else nI (i + 1) := rfl
        have e2 : (pwJ (nI (12 - v 6)) (i + 1)) = (pwJ (nI (12 - v 6)) i) * (nI (12 - v 6)).toInt64 := rfl
        have e3 : pw12 (i + 1) = pw12 i * 12 := rfl
        rw [e2, e3] at e
        rw [e, if_neg (Int32.not_lt.mpr (by first | exact h64 | exact Int32.not_lt.mp h64))]
        exact ⟨rfl, rfl, rfl, rfl, rfl, rfl, trivial⟩

set_option maxHeartbeats 200000 in
set_option maxRecDepth 100000 in
theorem m_mostFalse (hv : A 77 = nIf v) (hv6 : v 6 ≤ 12) {x : Nat} (hx : x ≤ 12) : jMet (d + 1) yX11_mostFalse cX11_mostFalse 8 (some .int) 0 0 [.ref 76, .int (nI x)] (tw X A L) (jRi (mfM (v 6) x 8) (tw X A L)) := by
  refine jMet_of (by decide) (Nat.le_of_ble_eq_true rfl) none (Or.inl rfl) ?_
  show jWP none RX11 cX11_mostFalse 8 (some .int) (d + 1) 0 0 0 [some (.ref 76), some (.int (nI x)), none, none, none, none, none, none] [] (tw X A L) (jRi (mfM (v 6) x 8) (tw X A L))
  refine j_iload_n dX11_mostFalse_0 rfl rfl ?_
  refine j_i2l dX11_mostFalse_1 ?_
  refine j_lconst (v := 0) dX11_mostFalse_2 rfl ?_
  refine j_ldc2 dX11_mostFalse_3 jw_k_X11_318 ?_
  refine j_callSi [.long _, .long _, .long _] [] dX11_mostFalse_6 jlk_X11_111 rfl rfl (Nat.le_of_ble_eq_true rfl) (jMet_i m_within (wi_in (k := 12) hx (by decide) (by decide)) rfl) ?_
  refine j_if_ne (tgt := 14) dX11_mostFalse_9 (by decide) (fun _ => ?_) (fun h => absurd h (by decide))
  refine j_iconst (v := nI 0) dX11_mostFalse_14 rfl ?_
  refine j_istore_n (lv' := [some (.ref 76), some (.int _), some (.int _), none, none, none, none, none]) dX11_mostFalse_15 rfl (by decide) rfl ?_
  refine j_lconst (v := 1) dX11_mostFalse_16 rfl ?_
  refine j_lstore_n (lv' := [some (.ref 76), some (.int _), some (.int _), some (.long _), none, none, none, none]) dX11_mostFalse_17 rfl (by decide) rfl ?_
  refine j_lconst (v := 1) dX11_mostFalse_18 rfl ?_
  refine j_lstore (lv' := [some (.ref 76), some (.int _), some (.int _), some (.long _), none, some (.long _), none, none]) dX11_mostFalse_19 (by decide) rfl ?_
  refine j_iconst (v := nI 1) dX11_mostFalse_21 rfl ?_
  refine j_istore (lv' := [some (.ref 76), some (.int _), some (.int _), some (.long _), none, some (.long _), none, some (.int _)]) dX11_mostFalse_22 (by decide) rfl ?_
  exact l_mostFalse_m hv hv6 hx 9 0 (by decide) (by decide)

set_option maxHeartbeats 200000 in
set_option maxRecDepth 100000 in
theorem m_mostFalse_no {c : Int32} (h : isA 13 c = nI 0) : jMet (d + 1) yX11_mostFalse cX11_mostFalse 8 (some .int) 0 0 [.ref 76, .int c] (tw X A L) (jRi (-1) (tw X A L)) := by
  refine jMet_of (by decide) (Nat.le_of_ble_eq_true rfl) none (Or.inl rfl) ?_
  show jWP none RX11 cX11_mostFalse 8 (some .int) (d + 1) 0 0 0 [some (.ref 76), some (.int c), none, none, none, none, none, none] [] (tw X A L) (jRi (-1) (tw X A L))
  refine j_iload_n dX11_mostFalse_0 rfl rfl ?_
  refine j_i2l dX11_mostFalse_1 ?_
  refine j_lconst (v := 0) dX11_mostFalse_2 rfl ?_
  refine j_ldc2 dX11_mostFalse_3 jw_k_X11_318 ?_
  refine j_callSi [.long _, .long _, .long _] [] dX11_mostFalse_6 jlk_X11_111 rfl rfl (Nat.le_of_ble_eq_true rfl) (jMet_i m_within ((wi_A (k := 12) (by decide) (by decide)).trans h) rfl) ?_
  refine j_if_ne (tgt := 14) dX11_mostFalse_9 (by decide) (fun h => absurd (by decide) h) (fun _ => ?_)
  refine j_iconst (v := (-1)) dX11_mostFalse_12 rfl ?_
  refine j_ireturn dX11_mostFalse_13 rfl ?_
  exact ⟨rfl, rfl⟩

end CT51