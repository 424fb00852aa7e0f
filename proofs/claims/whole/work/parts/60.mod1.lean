theorem cmp_lt {x y : Int64} : lg_cmp x y < 0 ↔ x < y := by
  have h1 := @Int64.lt_iff_toInt_lt x y
  have h2 := @Int64.lt_iff_toInt_lt y x
  unfold lg_cmp
  by_cases a : x > y
  · rw [if_pos a]
    exact ⟨fun q => absurd q (by decide), fun q => by have a : y < x := a; rw [h2] at a; rw [h1] at q; omega⟩
  · rw [if_neg a]
    by_cases b : x = y
    · subst b; simp
    · rw [if_neg b]
      refine ⟨fun _ => h1.mpr ?_, fun _ => by decide⟩
      have a : ¬ y < x := a
      rw [h2] at a
      have : x.toInt ≠ y.toInt := fun q => b (Int64.toInt_inj.mp q)
      omega
theorem cmp_gt {x y : Int64} : 0 < lg_cmp x y ↔ y < x := by
  have h1 := @Int64.lt_iff_toInt_lt x y
  have h2 := @Int64.lt_iff_toInt_lt y x
  unfold lg_cmp
  by_cases a : x > y
  · rw [if_pos a]
    exact ⟨fun _ => a, fun _ => by decide⟩
  · rw [if_neg a]
    have a : ¬ y < x := a
    by_cases b : x = y
    · subst b; simp
    · rw [if_neg b]
      exact ⟨fun q => absurd q (by decide), fun q => absurd q a⟩
theorem l_lt {x y : Int32} : x.toInt64 < y.toInt64 ↔ x < y := by
  rw [Int64.lt_iff_toInt_lt, Int32.lt_iff_toInt_lt, Int32.toInt_toInt64, Int32.toInt_toInt64]
/-- whether a long lies between two -/
def wiJ (v a b : Int64) : Int32 := if v < a then nI 0 else if b < v then nI 0 else nI 1
theorem ltS {e : Int32} {k : Nat} (hk : k < 2 ^ 30) : nI k < e ↔ nI (k + 1) ≤ e := by
  rw [Int32.lt_iff_toInt_lt, Int32.le_iff_toInt_le, nI_toInt (by omega), nI_toInt (by omega)]
  omega
theorem wi_A {e : Int32} {k : Nat} {K : Int64} (hk : k < 2 ^ 30) (hK : K = (nI k).toInt64) : wiJ e.toInt64 0 K = isA (k + 1) e := by
  unfold wiJ isA
  rw [hK, show (0 : Int64) = (0 : Int32).toInt64 from by decide]
  have h1 := @l_lt e 0
  have h2 := @l_lt (nI k) e
  have h3 := @ltS e k hk
  simp only [h1, h2, h3]
theorem wi_N {e : Int32} {n : Nat} (hn : n ≤ 60) : wiJ e.toInt64 0 (nI n - nI 1).toInt64 = isA n e := by
  cases n with
  | zero =>
    unfold wiJ isA
    rw [show (0 : Int64) = (0 : Int32).toInt64 from by decide]
    have h1 := @l_lt e 0
    have h2 := @l_lt (nI 0 - nI 1) e
    simp only [h1, h2]
    by_cases q : e < 0
    · rw [if_pos q, if_pos q]
    · rw [if_neg q, if_neg q]
      have q2 : nI 0 ≤ e := Int32.not_lt.mp q
      have q3 : nI 0 - nI 1 < e := by
        rw [Int32.le_iff_toInt_le] at q2
        rw [Int32.lt_iff_toInt_lt]
        have e1 : (nI 0 - nI 1).toInt = -1 := by decide
        have e2 : (nI 0).toInt = 0 := by decide
        omega
      rw [if_pos q3, if_pos q2]
  | succ k =>
    have e1 : nI (k + 1) - nI 1 = nI k := by rw [pk_sub (by omega)]; rfl
    rw [e1]
    exact wi_A (by omega) rfl
theorem wi_16 {e : Int32} : wiJ e.toInt64 1 6 = is16 e := by
  unfold wiJ is16
  rw [show (1 : Int64) = (nI 1).toInt64 from by decide, show (6 : Int64) = (nI 6).toInt64 from by decide]
  have h1 := @l_lt e (nI 1)
  have h2 := @l_lt (nI 6) e
  simp only [h1, h2]
theorem wi_01 (v a b : Int64) : wiJ v a b = 0 ∨ wiJ v a b = 1 := by
  unfold wiJ
  split
  · exact Or.inl rfl
  · split
    · exact Or.inl rfl
    · exact Or.inr rfl
def nxI (a b : Nat) : Int32 :=
  if nI (b / 7) - nI (a / 7) = 0 then (if nI (b % 7) - nI (a % 7) = nI 1 then nI 1 else if nI (b % 7) - nI (a % 7) = -1 then nI 1 else nI 0)
  else if nI (b / 7) - nI (a / 7) = nI 1 ∨ nI (b / 7) - nI (a / 7) = -1 then (if nI (b % 7) - nI (a % 7) = 0 then nI 1 else if nI (b % 7) - nI (a % 7) = (if a / 7 % 2 = 0 then -1 else nI 1) then nI 1 else nI 0)
  else nI 0
theorem nx_tab {a b : Nat} (ha : a < 49) (hb : b < 49) : nxI a b = bz (isNx a b) := by
  have q : (List.range 49).all (fun a => (List.range 49).all fun b => decide (nxI a b = bz (isNx a b))) = true := by decide +kernel
  exact of_decide_eq_true (List.all_eq_true.mp (List.all_eq_true.mp q a (List.mem_range.mpr ha)) b (List.mem_range.mpr hb))
/-- owners: an account or nobody -/
def ow (O : Nat → Int32) : Prop := ∀ c, c < 49 → O c = -1 ∨ 0 ≤ O c
theorem ow_n {O : Nat → Int32} (h : ow O) {c : Nat} (hc : c < 49) (q : O c < 0) : heldB O c = false := by
  rcases h c hc with e | e
  · unfold heldB; rw [e]; rfl
  · exact absurd q (Int32.not_lt.mpr e)
theorem ow_p {O : Nat → Int32} {c : Nat} (q : ¬ O c < 0) : heldB O c = true := decide_eq_true (fun e => q (by rw [e]; decide))
def slF (O : Nat → Int32) (c : Nat) : Nat → Bool
  | 0 => heldB O c
  | i + 1 => slF O c i && (!isNx c i || heldB O i)
theorem slF_eq {O : Nat → Int32} {c : Nat} : slF O c 49 = slB O c := by
  have h : ∀ n, slF O c n = (heldB O c && (cnt (fun x => isNx c x && !heldB O x) n == 0)) := by
    intro n
    induction n with
    | zero => simp [slF, cnt]
    | succ n ih =>
      unfold slF cnt
      rw [ih]
      cases h1 : isNx c n <;> cases h2 : heldB O n <;> simp
  exact h 49
theorem bz01 (b : Bool) : bz b = 0 ∨ bz b = 1 := by cases b <;> decide
theorem bz_and (a b : Bool) : bz a &&& bz b = bz (a && b) := by cases a <;> cases b <;> decide
/-- the thought comb's rows -/
def mA (A : Nat → Nat → Int32) (O S : Nat → Int32) : Nat → Nat → Int32 := va_up (va_up A 84 O) 85 S
theorem mA_84 (A : Nat → Nat → Int32) (O S : Nat → Int32) : mA A O S 84 = O := by unfold mA; rw [vu_n _ _ _ (by decide), vu_s]
theorem mA_85 (A : Nat → Nat → Int32) (O S : Nat → Int32) : mA A O S 85 = S := vu_s _ _ _
theorem mA_n (A : Nat → Nat → Int32) (O S : Nat → Int32) {c : Nat} (h1 : c ≠ 84) (h2 : c ≠ 85) : mA A O S c = A c := by unfold mA; rw [vu_n _ _ _ h2, vu_n _ _ _ h1]
theorem mA_p84 (A : Nat → Nat → Int32) (O S O' : Nat → Int32) : va_up (mA A O S) 84 O' = mA A O' S := by unfold mA; rw [vu_comm _ _ _ (by decide), vu_up]
theorem mA_p85 (A : Nat → Nat → Int32) (O S S' : Nat → Int32) : va_up (mA A O S) 85 S' = mA A O S' := vu_up _ _ _ _
theorem mA_mA (A : Nat → Nat → Int32) (O S O' S' : Nat → Int32) : mA (mA A O S) O' S' = mA A O' S' := by
  show va_up (va_up (mA A O S) 84 O') 85 S' = _
  rw [mA_p84, mA_p85]
theorem mA_self (A : Nat → Nat → Int32) : mA A (A 84) (A 85) = A := by unfold mA; rw [vu_self]; exact vu_self A 85
theorem mA_vu (A : Nat → Nat → Int32) (O S u : Nat → Int32) {c : Nat} (h1 : c ≠ 84) (h2 : c ≠ 85) : va_up (mA A O S) c u = mA (va_up A c u) O S := by
  unfold mA
  rw [vu_comm _ _ _ (Ne.symm h2), vu_comm A _ _ (Ne.symm h1)]
def cpN (f g : Nat → Int32) (i : Nat) : Nat → Int32 := fun c => if c < i then f c else g c
theorem cpN_0 (f g : Nat → Int32) : cpN f g 0 = g := by funext c; simp [cpN]
theorem cpN_s (f g : Nat → Int32) (i : Nat) : upd (cpN f g i) i (f i) = cpN f g (i + 1) := by
  funext c
  by_cases h : c = i
  · subst h; rw [pk_us]; unfold cpN; rw [if_pos (by omega)]
  · rw [pk_un h]; unfold cpN
    by_cases q : c < i
    · rw [if_pos q, if_pos (by omega)]
    · rw [if_neg q, if_neg (by omega)]
theorem cpN_e {f g : Nat → Int32} {n : Nat} (h1 : zb n f) (h2 : zb n g) : cpN f g n = f := by
  funext c
  unfold cpN
  by_cases q : c < n
  · rw [if_pos q]
  · rw [if_neg q, h1 c (by omega), h2 c (by omega)]
section CT40
variable {d : Nat} {X A : Nat → Nat → Int32} {L : Nat → Nat → Int64} {w : jW}

set_option maxHeartbeats 200000 in
set_option maxRecDepth 100000 in
theorem m_within {v a b : Int64} : jMet (d) yX11_within cX11_within 6 (some .boolean) 0 0 [.long v, .long a, .long b] (w) (jRi (wiJ v a b) w) := by
  refine jMet_of (by decide) (Nat.le_of_ble_eq_true rfl) none (Or.inl rfl) ?_
  show jWP none RX11 cX11_within 6 (some .boolean) (d) 0 0 0 [some (.long v), none, some (.long a), none, some (.long b), none] [] (w) (jRi (wiJ v a b) w)
  refine j_lload_n dX11_within_0 rfl rfl ?_
  refine j_lload_n dX11_within_1 rfl rfl ?_
  refine j_lcmp dX11_within_2 ?_
  refine j_if_lt (tgt := 17) dX11_within_3 (by decide) (fun h3 => ?_) (fun h3 => ?_)
  · refine j_iconst (v := nI 0) dX11_within_17 rfl ?_
    refine j_zreturn dX11_within_18 rfl (by decide) ?_
    exact ⟨by unfold wiJ; rw [if_pos (cmp_lt.mp h3)], rfl⟩
  · refine j_lload_n dX11_within_6 rfl rfl ?_
    refine j_lload dX11_within_7 rfl ?_
    refine j_lcmp dX11_within_9 ?_
    refine j_if_gt (tgt := 17) dX11_within_10 (by decide) (fun h10 => ?_) (fun h10 => ?_)
    · refine j_iconst (v := nI 0) dX11_within_17 rfl ?_
      refine j_zreturn dX11_within_18 rfl (by decide) ?_
      exact ⟨by unfold wiJ; rw [if_neg (fun q => h3 (cmp_lt.mpr q)), if_pos (cmp_gt.mp h10)], rfl⟩
    · refine j_iconst (v := nI 1) dX11_within_13 rfl ?_
      refine j_goto (tgt := 18) dX11_within_14 (by decide) ?_
      refine j_zreturn dX11_within_18 rfl (by decide) ?_
      exact ⟨by unfold wiJ; rw [if_neg (fun q => h3 (cmp_lt.mpr q)), if_neg (fun q => h10 (cmp_gt.mpr q))], rfl⟩

set_option maxHeartbeats 200000 in
set_option maxRecDepth 100000 in
theorem m_isCellJ {v : Int64} : jMet (d + 1) yX11_isCell cX11_isCell 2 (some .boolean) 0 0 [.long v] (w) (jRi (wiJ v 0 48) w) := by
  refine jMet_of (by decide) (Nat.le_of_ble_eq_true rfl) none (Or.inl rfl) ?_
  show jWP none RX11 cX11_isCell 2 (some .boolean) (d + 1) 0 0 0 [some (.long v), none] [] (w) (jRi (wiJ v 0 48) w)
  refine j_lload_n dX11_isCell_0 rfl rfl ?_
  refine j_lconst (v := 0) dX11_isCell_1 rfl ?_
  refine j_ldc2 dX11_isCell_2 jw_k_X11_109 ?_
  refine j_callSi [.long _, .long _, .long _] [] dX11_isCell_5 jlk_X11_111 rfl rfl (Nat.le_of_ble_eq_true rfl) (m_within) ?_
  refine j_zreturn dX11_isCell_8 rfl (wi_01 _ _ _) ?_
  exact ⟨rfl, rfl⟩

set_option maxHeartbeats 200000 in
set_option maxRecDepth 100000 in
theorem m_isSumJ {v : Int64} : jMet (d + 1) yX11_isSum cX11_isSum 2 (some .boolean) 0 0 [.long v] (w) (jRi (wiJ v 1 6) w) := by
  refine jMet_of (by decide) (Nat.le_of_ble_eq_true rfl) none (Or.inl rfl) ?_
  show jWP none RX11 cX11_isSum 2 (some .boolean) (d + 1) 0 0 0 [some (.long v), none] [] (w) (jRi (wiJ v 1 6) w)
  refine j_lload_n dX11_isSum_0 rfl rfl ?_
  refine j_lconst (v := 1) dX11_isSum_1 rfl ?_
  refine j_ldc2 dX11_isSum_2 jw_k_X11_115 ?_
  refine j_callSi [.long _, .long _, .long _] [] dX11_isSum_5 jlk_X11_111 rfl rfl (Nat.le_of_ble_eq_true rfl) (m_within) ?_
  refine j_zreturn dX11_isSum_8 rfl (wi_01 _ _ _) ?_
  exact ⟨rfl, rfl⟩

set_option maxHeartbeats 200000 in
set_option maxRecDepth 100000 in
theorem m_isShelf {e : Int32} : jMet (d + 1) yX11_isShelf cX11_isShelf 1 (some .boolean) 0 0 [.int e] (w) (jRi (wiJ e.toInt64 0 5) w) := by
  refine jMet_of (by decide) (Nat.le_of_ble_eq_true rfl) none (Or.inl rfl) ?_
  show jWP none RX11 cX11_isShelf 1 (some .boolean) (d + 1) 0 0 0 [some (.int e)] [] (w) (jRi (wiJ e.toInt64 0 5) w)
  refine j_iload_n dX11_isShelf_0 rfl rfl ?_
  refine j_i2l dX11_isShelf_1 ?_
  refine j_lconst (v := 0) dX11_isShelf_2 rfl ?_
  refine j_ldc2 dX11_isShelf_3 jw_k_X11_329 ?_
  refine j_callSi [.long _, .long _, .long _] [] dX11_isShelf_6 jlk_X11_111 rfl rfl (Nat.le_of_ble_eq_true rfl) (m_within) ?_
  refine j_zreturn dX11_isShelf_9 rfl (wi_01 _ _ _) ?_
  exact ⟨rfl, rfl⟩

set_option maxHeartbeats 200000 in
set_option maxRecDepth 100000 in
theorem m_isAccountJ {na : Nat} (hn : X 76 7 = nI na) {v : Int64} : jMet (d + 1) yX11_isAccount cX11_isAccount 3 (some .boolean) 0 0 [.ref 76, .long v] (tw X A L) (jRi (wiJ v 0 (nI na - nI 1).toInt64) (tw X A L)) := by
  refine jMet_of (by decide) (Nat.le_of_ble_eq_true rfl) none (Or.inl rfl) ?_
  show jWP none RX11 cX11_isAccount 3 (some .boolean) (d + 1) 0 0 0 [some (.ref 76), some (.long v), none] [] (tw X A L) (jRi (wiJ v 0 (nI na - nI 1).toInt64) (tw X A L))
  refine j_lload_n dX11_isAccount_0 rfl rfl ?_
  refine j_lconst (v := 0) dX11_isAccount_1 rfl ?_
  refine j_aload_n dX11_isAccount_2 rfl rfl ?_
  refine t_getI dX11_isAccount_3 jfl_X11_117 (fun _ _ _ => rfl) (fun _ => rfl) ?_
  refine j_topE (e' := nI na) hn ?_
  refine j_iconst (v := nI 1) dX11_isAccount_6 rfl ?_
  refine j_isub dX11_isAccount_7 ?_
  refine j_i2l dX11_isAccount_8 ?_
  refine j_callSi [.long _, .long _, .long _] [] dX11_isAccount_9 jlk_X11_111 rfl rfl (Nat.le_of_ble_eq_true rfl) (m_within) ?_
  refine j_zreturn dX11_isAccount_12 rfl (wi_01 _ _ _) ?_
  exact ⟨rfl, rfl⟩

set_option maxHeartbeats 200000 in
set_option maxRecDepth 100000 in
theorem m_isBody {nb : Nat} (hn : X 76 36 = nI nb) {e : Int32} : jMet (d + 1) yX11_isBody cX11_isBody 2 (some .boolean) 0 0 [.ref 76, .int e] (tw X A L) (jRi (wiJ e.toInt64 0 (nI nb - nI 1).toInt64) (tw X A L)) := by
  refine jMet_of (by decide) (Nat.le_of_ble_eq_true rfl) none (Or.inl rfl) ?_
  show jWP none RX11 cX11_isBody 2 (some .boolean) (d + 1) 0 0 0 [some (.ref 76), some (.int e)] [] (tw X A L) (jRi (wiJ e.toInt64 0 (nI nb - nI 1).toInt64) (tw X A L))
  refine j_iload_n dX11_isBody_0 rfl rfl ?_
  refine j_i2l dX11_isBody_1 ?_
  refine j_lconst (v := 0) dX11_isBody_2 rfl ?_
  refine j_aload_n dX11_isBody_3 rfl rfl ?_
  refine t_getI dX11_isBody_4 jfl_X11_335 (fun _ _ _ => rfl) (fun _ => rfl) ?_
  refine j_topE (e' := nI nb) hn ?_
  refine j_iconst (v := nI 1) dX11_isBody_7 rfl ?_
  refine j_isub dX11_isBody_8 ?_
  refine j_i2l dX11_isBody_9 ?_
  refine j_callSi [.long _, .long _, .long _] [] dX11_isBody_10 jlk_X11_111 rfl rfl (Nat.le_of_ble_eq_true rfl) (m_within) ?_
  refine j_zreturn dX11_isBody_13 rfl (wi_01 _ _ _) ?_
  exact ⟨rfl, rfl⟩

theorem m_isCell {e : Int32} : jMet (d + 1) yX11_isCell cX11_isCell 2 (some .boolean) 0 0 [.long e.toInt64] w (jRi (isc e) w) := jMet_i m_isCellJ (wi_A (by decide) (by decide)) rfl
theorem m_isSum {e : Int32} : jMet (d + 1) yX11_isSum cX11_isSum 2 (some .boolean) 0 0 [.long e.toInt64] w (jRi (is16 e) w) := jMet_i m_isSumJ wi_16 rfl
theorem m_isSh {e : Int32} : jMet (d + 1) yX11_isShelf cX11_isShelf 1 (some .boolean) 0 0 [.int e] w (jRi (isA 6 e) w) := jMet_i m_isShelf (wi_A (by decide) (by decide)) rfl
theorem m_isAccount {na : Nat} (hn : X 76 7 = nI na) (h6 : na ≤ 6) {e : Int32} : jMet (d + 1) yX11_isAccount cX11_isAccount 3 (some .boolean) 0 0 [.ref 76, .long e.toInt64] (tw X A L) (jRi (isA na e) (tw X A L)) := jMet_i (m_isAccountJ hn) (wi_N (by omega)) rfl
theorem m_isBd {nb : Nat} (hn : X 76 36 = nI nb) (h50 : nb ≤ 50) {e : Int32} : jMet (d + 1) yX11_isBody cX11_isBody 2 (some .boolean) 0 0 [.ref 76, .int e] (tw X A L) (jRi (isA nb e) (tw X A L)) := jMet_i (m_isBody hn) (wi_N (by omega)) rfl

set_option maxHeartbeats 200000 in
set_option maxRecDepth 100000 in
theorem m_isNextI {a b : Nat} (ha : a < 49) (hb : b < 49) : jMet (d) yX11_isNext cX11_isNext 4 (some .boolean) 0 0 [.int (nI a), .int (nI b)] (w) (jRi (nxI a b) w) := by
  refine jMet_of (by decide) (Nat.le_of_ble_eq_true rfl) none (Or.inl rfl) ?_
  show jWP none RX11 cX11_isNext 4 (some .boolean) (d) 0 0 0 [some (.int (nI a)), some (.int (nI b)), none, none] [] (w) (jRi (nxI a b) w)
  refine j_iload_n dX11_isNext_0 rfl rfl ?_
  refine j_bipush (v := nI 7) dX11_isNext_1 rfl ?_
  refine jn_idiv dX11_isNext_3 (by omega) (by decide) (by decide) ?_
  refine j_iload_n dX11_isNext_4 rfl rfl ?_
  refine j_bipush (v := nI 7) dX11_isNext_5 rfl ?_
  refine jn_idiv dX11_isNext_7 (by omega) (by decide) (by decide) ?_
  refine j_isub dX11_isNext_8 ?_
  refine j_istore_n (lv' := [some (.int _), some (.int _), some (.int _), none]) dX11_isNext_9 rfl (by decide) rfl ?_
  refine j_iload_n dX11_isNext_10 rfl rfl ?_
  refine j_bipush (v := nI 7) dX11_isNext_11 rfl ?_
  refine jn_irem dX11_isNext_13 (by omega) (by decide) (by decide) ?_
  refine j_iload_n dX11_isNext_14 rfl rfl ?_
  refine j_bipush (v := nI 7) dX11_isNext_15 rfl ?_
  refine jn_irem dX11_isNext_17 (by omega) (by decide) (by decide) ?_
  refine j_isub dX11_isNext_18 ?_
  refine j_istore_n (lv' := [some (.int _), some (.int _), some (.int _), some (.int _)]) dX11_isNext_19 rfl (by decide) rfl ?_
  refine j_iload_n dX11_isNext_20 rfl rfl ?_
  refine j_if_ne (tgt := 40) dX11_isNext_21 (by decide) (fun h21 => ?_) (fun h21 => ?_)
  · refine j_iload_n dX11_isNext_40 rfl rfl ?_
    refine j_iconst (v := nI 1) dX11_isNext_41 rfl ?_
    refine j_icmp_eq (tgt := 52) dX11_isNext_42 (by decide) (fun h42 => ?_) (fun h42 => ?_)
    · refine j_iload_n dX11_isNext_52 rfl rfl ?_
      refine j_if_eq (tgt := 74) dX11_isNext_53 (by decide) (fun h53 => ?_) (fun h53 => ?_)
      · refine j_iconst (v := nI 1) dX11_isNext_74 rfl ?_
        refine j_goto (tgt := 79) dX11_isNext_75 (by decide) ?_
        refine j_zreturn dX11_isNext_79 rfl (by decide) ?_
        exact ⟨by unfold nxI; rw [if_neg h21, if_pos (Or.inl h42), if_pos h53], rfl⟩
      · refine j_iload_n dX11_isNext_56 rfl rfl ?_
        refine j_iload_n dX11_isNext_57 rfl rfl ?_
        refine j_bipush (v := nI 7) dX11_isNext_58 rfl ?_
        refine jn_idiv dX11_isNext_60 (by omega) (by decide) (by decide) ?_
        refine j_iconst (v := nI 2) dX11_isNext_61 rfl ?_
        refine jn_irem dX11_isNext_62 (by omega) (by decide) (by decide) ?_
        refine jn_if_ne (tgt := 70) dX11_isNext_63 (by decide) (by omega) (fun h63 => ?_) (fun h63 => ?_)
        · refine j_iconst (v := nI 1) dX11_isNext_70 rfl ?_
          refine j_icmp_ne (tgt := 78) dX11_isNext_71 (by decide) (fun h71 => ?_) (fun h71 => ?_)
          · refine j_iconst (v := nI 0) dX11_isNext_78 rfl ?_
            refine j_zreturn dX11_isNext_79 rfl (by decide) ?_
            exact ⟨by unfold nxI; rw [if_neg h21, if_pos (Or.inl h42), if_neg h53, if_neg (show ¬ a / 7 % 2 = 0 by omega), if_neg h71], rfl⟩
          · refine j_iconst (v := nI 1) dX11_isNext_74 rfl ?_
            refine j_goto (tgt := 79) dX11_isNext_75 (by decide) ?_
            refine j_zreturn dX11_isNext_79 rfl (by decide) ?_
            exact ⟨by unfold nxI; rw [if_neg h21, if_pos (Or.inl h42), if_neg h53, if_neg (show ¬ a / 7 % 2 = 0 by omega), if_pos (by first | exact h71 | simpa using h71)], rfl⟩
        · refine j_iconst (v := (-1)) dX11_isNext_66 rfl ?_
          refine j_goto (tgt := 71) dX11_isNext_67 (by decide) ?_
          refine j_icmp_ne (tgt := 78) dX11_isNext_71 (by decide) (fun h71 => ?_) (fun h71 => ?_)
          · refine j_iconst (v := nI 0) dX11_isNext_78 rfl ?_
            refine j_zreturn dX11_isNext_79 rfl (by decide) ?_
            exact ⟨by unfold nxI; rw [if_neg h21, if_pos (Or.inl h42), if_neg h53, if_pos (show a / 7 % 2 = 0 by omega), if_neg h71], rfl⟩
          · refine j_iconst (v := nI 1) dX11_isNext_74 rfl ?_
            refine j_goto (tgt := 79) dX11_isNext_75 (by decide) ?_
            refine j_zreturn dX11_isNext_79 rfl (by decide) ?_
            exact ⟨by unfold nxI; rw [if_neg h21, if_pos (Or.inl h42), if_neg h53, if_pos (show a / 7 % 2 = 0 by omega), if_pos (by first | exact h71 | simpa using h71)], rfl⟩
    · refine j_iload_n dX11_isNext_45 rfl rfl ?_
      refine j_iconst (v := (-1)) dX11_isNext_46 rfl ?_
      refine j_icmp_eq (tgt := 52) dX11_isNext_47 (by decide) (fun h47 => ?_) (fun h47 => ?_)
      · refine j_iload_n dX11_isNext_52 rfl rfl ?_
        refine j_if_eq (tgt := 74) dX11_isNext_53 (by decide) (fun h53 => ?_) (fun h53 => ?_)
        · refine j_iconst (v := nI 1) dX11_isNext_74 rfl ?_
          refine j_goto (tgt := 79) dX11_isNext_75 (by decide) ?_
          refine j_zreturn dX11_isNext_79 rfl (by decide) ?_
          exact ⟨by unfold nxI; rw [if_neg h21, if_pos (Or.inr h47), if_pos h53], rfl⟩
        · refine j_iload_n dX11_isNext_56 rfl rfl ?_
          refine j_iload_n dX11_isNext_57 rfl rfl ?_
          refine j_bipush (v := nI 7) dX11_isNext_58 rfl ?_
          refine jn_idiv dX11_isNext_60 (by omega) (by decide) (by decide) ?_
          refine j_iconst (v := nI 2) dX11_isNext_61 rfl ?_
          refine jn_irem dX11_isNext_62 (by omega) (by decide) (by decide) ?_
          refine jn_if_ne (tgt := 70) dX11_isNext_63 (by decide) (by omega) (fun h63 => ?_) (fun h63 => ?_)
          · refine j_iconst (v := nI 1) dX11_isNext_70 rfl ?_
            refine j_icmp_ne (tgt := 78) dX11_isNext_71 (by decide) (fun h71 => ?_) (fun h71 => ?_)
            · refine j_iconst (v := nI 0) dX11_isNext_78 rfl ?_
              refine j_zreturn dX11_isNext_79 rfl (by decide) ?_
              exact ⟨by unfold nxI; rw [if_neg h21, if_pos (Or.inr h47), if_neg h53, if_neg (show ¬ a / 7 % 2 = 0 by omega), if_neg h71], rfl⟩
            · refine j_iconst (v := nI 1) dX11_isNext_74 rfl ?_
              refine j_goto (tgt := 79) dX11_isNext_75 (by decide) ?_
              refine j_zreturn dX11_isNext_79 rfl (by decide) ?_
              exact ⟨by unfold nxI; rw [if_neg h21, if_pos (Or.inr h47), if_neg h53, if_neg (show ¬ a / 7 % 2 = 0 by omega), if_pos (by first | exact h71 | simpa using h71)], rfl⟩
          · refine j_iconst (v := (-1)) dX11_isNext_66 rfl ?_
            refine j_goto (tgt := 71) dX11_isNext_67 (by decide) ?_
            refine j_icmp_ne (tgt := 78) dX11_isNext_71 (by decide) (fun h71 => ?_) (fun h71 => ?_)
            · refine j_iconst (v := nI 0) dX11_isNext_78 rfl ?_
              refine j_zreturn dX11_isNext_79 rfl (by decide) ?_
              exact ⟨by unfold nxI; rw [if_neg h21, if_pos (Or.inr h47), if_neg h53, if_pos (show a / 7 % 2 = 0 by omega), if_neg h71], rfl⟩
            · refine j_iconst (v := nI 1) dX11_isNext_74 rfl ?_
              refine j_goto (tgt := 79) dX11_isNext_75 (by decide) ?_
              refine j_zreturn dX11_isNext_79 rfl (by decide) ?_
              exact ⟨by unfold nxI; rw [if_neg h21, if_pos (Or.inr h47), if_neg h53, if_pos (show a / 7 % 2 = 0 by omega), if_pos (by first | exact h71 | simpa using h71)], rfl⟩
      · refine j_iconst (v := nI 0) dX11_isNext_50 rfl ?_
        refine j_zreturn dX11_isNext_51 rfl (by decide) ?_
        exact ⟨by unfold nxI; rw [if_neg h21, if_neg (fun q => q.elim h42 h47)], rfl⟩
  · refine j_iload_n dX11_isNext_24 rfl rfl ?_
    refine j_iconst (v := nI 1) dX11_isNext_25 rfl ?_
    refine j_icmp_eq (tgt := 34) dX11_isNext_26 (by decide) (fun h26 => ?_) (fun h26 => ?_)
    · refine j_iconst (v := nI 1) dX11_isNext_34 rfl ?_
      refine j_goto (tgt := 39) dX11_isNext_35 (by decide) ?_
      refine j_zreturn dX11_isNext_39 rfl (by decide) ?_
      exact ⟨by unfold nxI; rw [if_pos (by first | exact h21 | simpa using h21), if_pos h26], rfl⟩
    · refine j_iload_n dX11_isNext_29 rfl rfl ?_
      refine j_iconst (v := (-1)) dX11_isNext_30 rfl ?_
      refine j_icmp_ne (tgt := 38) dX11_isNext_31 (by decide) (fun h31 => ?_) (fun h31 => ?_)
      · refine j_iconst (v := nI 0) dX11_isNext_38 rfl ?_
        refine j_zreturn dX11_isNext_39 rfl (by decide) ?_
        exact ⟨by unfold nxI; rw [if_pos (by first | exact h21 | simpa using h21), if_neg h26, if_neg h31], rfl⟩
      · refine j_iconst (v := nI 1) dX11_isNext_34 rfl ?_
        refine j_goto (tgt := 39) dX11_isNext_35 (by decide) ?_
        refine j_zreturn dX11_isNext_39 rfl (by decide) ?_
        exact ⟨by unfold nxI; rw [if_pos (by first | exact h21 | simpa using h21), if_neg h26, if_pos (by first | exact h31 | simpa using h31)], rfl⟩

theorem m_isNext {a b : Nat} (ha : a < 49) (hb : b < 49) : jMet d yX11_isNext cX11_isNext 4 (some .boolean) 0 0 [.int (nI a), .int (nI b)] w (jRi (bz (isNx a b)) w) := jMet_i (m_isNextI ha hb) (nx_tab ha hb) rfl

set_option maxHeartbeats 200000 in
set_option maxRecDepth 100000 in
theorem l_begins1  : ∀ (m i : Nat), i ≤ 49 → 49 - i < m → jWP none RX11 cX11_begins1 2 none (d) 0 0 2 [some (.ref 76), some (.int (nI i))] [] (tw X (mA A (cpN (A 82) (A 84) i) (cpN (A 83) (A 85) i)) L) (jRv (tw X (mA A (cpN (A 82) (A 84) 49) (cpN (A 83) (A 85) 49)) L)) := by
  intro m
  induction m with
  | zero => intro i h1 h2; omega
  | succ m ih =>
    intro i hi hm
    refine j_iload_n dX11_begins1_2 rfl rfl ?_
    refine j_bipush (v := nI 49) dX11_begins1_3 rfl ?_
    refine jn_icmp_ge (tgt := 38) dX11_begins1_5 (by decide) (by omega) (by omega) (fun h5 => ?_) (fun h5 => ?_)
    · refine j_return dX11_begins1_38 rfl ?_
      obtain rfl : i = 49 := by omega
      exact ⟨rfl, rfl⟩
    · refine j_aload_n dX11_begins1_8 rfl rfl ?_
      refine t_getR (b := 84) dX11_begins1_9 jfl_X11_33 (fun _ _ _ => rfl) rfl ?_
      refine j_iload_n dX11_begins1_12 rfl rfl ?_
      refine j_aload_n dX11_begins1_13 rfl rfl ?_
      refine t_getR (b := 82) dX11_begins1_14 jfl_X11_27 (fun _ _ _ => rfl) rfl ?_
      refine j_iload_n dX11_begins1_17 rfl rfl ?_
      refine t_iaload dX11_begins1_18 (fun _ _ _ => rfl) (by omega) (by decide) ?_
      refine t_iastore dX11_begins1_19 (fun _ _ _ => rfl) (by omega) (by decide) ?_
      refine j_aload_n dX11_begins1_20 rfl rfl ?_
      refine t_getR (b := 85) dX11_begins1_21 jfl_X11_36 (fun _ _ _ => rfl) rfl ?_
      refine j_iload_n dX11_begins1_24 rfl rfl ?_
      refine j_aload_n dX11_begins1_25 rfl rfl ?_
      refine t_getR (b := 83) dX11_begins1_26 jfl_X11_30 (fun _ _ _ => rfl) rfl ?_
      refine j_iload_n dX11_begins1_29 rfl rfl ?_
      refine t_iaload dX11_begins1_30 (fun _ _ _ => rfl) (by omega) (by decide) ?_
      refine t_iastore dX11_begins1_31 (fun _ _ _ => rfl) (by omega) (by decide) ?_
      refine jn_iinc (lv' := [some (.ref 76), some (.int _)]) dX11_begins1_32 rfl (by decide) rfl ?_
      refine j_goto (tgt := 2) dX11_begins1_35 (by decide) ?_
      rw [mA_84, mA_n (c := 82) _ _ _ (by decide) (by decide), cpN_s, mA_p84, mA_85, mA_n (c := 83) _ _ _ (by decide) (by decide), cpN_s, mA_p85]
      exact ih (i + 1) (by omega) (by omega)

set_option maxHeartbeats 200000 in
set_option maxRecDepth 100000 in
theorem m_begins1 (h1 : zb 49 (A 82)) (h2 : zb 49 (A 83)) (h3 : zb 49 (A 84)) (h4 : zb 49 (A 85)) : jMet (d) yX11_begins1 cX11_begins1 2 none 0 0 [.ref 76] (tw X A L) (jRv (tw X (mA A (A 82) (A 83)) L)) := by
  refine jMet_of (by decide) (Nat.le_of_ble_eq_true rfl) none (Or.inl rfl) ?_
  show jWP none RX11 cX11_begins1 2 none (d) 0 0 0 [some (.ref 76), none] [] (tw X A L) (jRv (tw X (mA A (A 82) (A 83)) L))
  refine j_iconst (v := nI 0) dX11_begins1_0 rfl ?_
  refine j_istore_n (lv' := [some (.ref 76), some (.int _)]) dX11_begins1_1 rfl (by decide) rfl ?_
  have h := l_begins1 (d := d) (X := X) (A := A) (L := L) 50 0 (by decide) (by decide)
  rw [cpN_0, cpN_0, mA_self, cpN_e h1 h3, cpN_e h2 h4] at h
  exact h

def lA (A : Nat → Nat → Int32) (O S : Nat → Int32) : Nat → Nat → Int32 := va_up (va_up A 82 O) 83 S
theorem lA_82 (A : Nat → Nat → Int32) (O S : Nat → Int32) : lA A O S 82 = O := by unfold lA; rw [vu_n _ _ _ (by decide), vu_s]
theorem lA_83 (A : Nat → Nat → Int32) (O S : Nat → Int32) : lA A O S 83 = S := vu_s _ _ _
theorem lA_n (A : Nat → Nat → Int32) (O S : Nat → Int32) {c : Nat} (h1 : c ≠ 82) (h2 : c ≠ 83) : lA A O S c = A c := by unfold lA; rw [vu_n _ _ _ h2, vu_n _ _ _ h1]
theorem lA_p82 (A : Nat → Nat → Int32) (O S O' : Nat → Int32) : va_up (lA A O S) 82 O' = lA A O' S := by unfold lA; rw [vu_comm _ _ _ (by decide), vu_up]
theorem lA_p83 (A : Nat → Nat → Int32) (O S S' : Nat → Int32) : va_up (lA A O S) 83 S' = lA A O S' := vu_up _ _ _ _
theorem lA_self (A : Nat → Nat → Int32) : lA A (A 82) (A 83) = A := by unfold lA; rw [vu_self]; exact vu_self A 83

set_option maxHeartbeats 200000 in
set_option maxRecDepth 100000 in
theorem l_lays  : ∀ (m i : Nat), i ≤ 49 → 49 - i < m → jWP none RX11 cX11_lays 2 none (d) 0 0 2 [some (.ref 76), some (.int (nI i))] [] (tw X (lA A (cpN (A 84) (A 82) i) (cpN (A 85) (A 83) i)) L) (jRv (tw X (lA A (cpN (A 84) (A 82) 49) (cpN (A 85) (A 83) 49)) L)) := by
  intro m
  induction m with
  | zero => intro i h1 h2; omega
  | succ m ih =>
    intro i hi hm
    refine j_iload_n dX11_lays_2 rfl rfl ?_
    refine j_bipush (v := nI 49) dX11_lays_3 rfl ?_
    refine jn_icmp_ge (tgt := 38) dX11_lays_5 (by decide) (by omega) (by omega) (fun h5 => ?_) (fun h5 => ?_)
    · refine j_return dX11_lays_38 rfl ?_
      obtain rfl : i = 49 := by omega
      exact ⟨rfl, rfl⟩
    · refine j_aload_n dX11_lays_8 rfl rfl ?_
      refine t_getR (b := 82) dX11_lays_9 jfl_X11_27 (fun _ _ _ => rfl) rfl ?_
      refine j_iload_n dX11_lays_12 rfl rfl ?_
      refine j_aload_n dX11_lays_13 rfl rfl ?_
      refine t_getR (b := 84) dX11_lays_14 jfl_X11_33 (fun _ _ _ => rfl) rfl ?_
      refine j_iload_n dX11_lays_17 rfl rfl ?_
      refine t_iaload dX11_lays_18 (fun _ _ _ => rfl) (by omega) (by decide) ?_
      refine t_iastore dX11_lays_19 (fun _ _ _ => rfl) (by omega) (by decide) ?_
      refine j_aload_n dX11_lays_20 rfl rfl ?_
      refine t_getR (b := 83) dX11_lays_21 jfl_X11_30 (fun _ _ _ => rfl) rfl ?_
      refine j_iload_n dX11_lays_24 rfl rfl ?_
      refine j_aload_n dX11_lays_25 rfl rfl ?_
      refine t_getR (b := 85) dX11_lays_26 jfl_X11_36 (fun _ _ _ => rfl) rfl ?_
      refine j_iload_n dX11_lays_29 rfl rfl ?_
      refine t_iaload dX11_lays_30 (fun _ _ _ => rfl) (by omega) (by decide) ?_
      refine t_iastore dX11_lays_31 (fun _ _ _ => rfl) (by omega) (by decide) ?_
      refine jn_iinc (lv' := [some (.ref 76), some (.int _)]) dX11_lays_32 rfl (by decide) rfl ?_
      refine j_goto (tgt := 2) dX11_lays_35 (by decide) ?_
      rw [lA_82, lA_n (c := 84) _ _ _ (by decide) (by decide), cpN_s, lA_p82, lA_83, lA_n (c := 85) _ _ _ (by decide) (by decide), cpN_s, lA_p83]
      exact ih (i + 1) (by omega) (by omega)

set_option maxHeartbeats 200000 in
set_option maxRecDepth 100000 in
theorem m_lays (h1 : zb 49 (A 82)) (h2 : zb 49 (A 83)) (h3 : zb 49 (A 84)) (h4 : zb 49 (A 85)) : jMet (d) yX11_lays cX11_lays 2 none 0 0 [.ref 76] (tw X A L) (jRv (tw X (lA A (A 84) (A 85)) L)) := by
  refine jMet_of (by decide) (Nat.le_of_ble_eq_true rfl) none (Or.inl rfl) ?_
  show jWP none RX11 cX11_lays 2 none (d) 0 0 0 [some (.ref 76), none] [] (tw X A L) (jRv (tw X (lA A (A 84) (A 85)) L))
  refine j_iconst (v := nI 0) dX11_lays_0 rfl ?_
  refine j_istore_n (lv' := [some (.ref 76), some (.int _)]) dX11_lays_1 rfl (by decide) rfl ?_
  have h := l_lays (d := d) (X := X) (A := A) (L := L) 50 0 (by decide) (by decide)
  rw [cpN_0, cpN_0, lA_self, cpN_e h3 h1, cpN_e h4 h2] at h
  exact h

set_option maxHeartbeats 200000 in
set_option maxRecDepth 100000 in
theorem m_holds (hw : ow (A 84)) {c : Nat} (hc : c < 49) : jMet (d) yX11_holds cX11_holds 2 (some .boolean) 0 0 [.ref 76, .int (nI c)] (tw X A L) (jRi (bz (heldB (A 84) c)) (tw X A L)) := by
  refine jMet_of (by decide) (Nat.le_of_ble_eq_true rfl) none (Or.inl rfl) ?_
  show jWP none RX11 cX11_holds 2 (some .boolean) (d) 0 0 0 [some (.ref 76), some (.int (nI c))] [] (tw X A L) (jRi (bz (heldB (A 84) c)) (tw X A L))
  refine j_aload_n dX11_holds_0 rfl rfl ?_
  refine t_getR (b := 84) dX11_holds_1 jfl_X11_33 (fun _ _ _ => rfl) rfl ?_
  refine j_iload_n dX11_holds_4 rfl rfl ?_
  refine t_iaload dX11_holds_5 (fun _ _ _ => rfl) (by omega) (by decide) ?_
  refine j_if_lt (tgt := 13) dX11_holds_6 (by decide) (fun h6 => ?_) (fun h6 => ?_)
  · refine j_iconst (v := nI 0) dX11_holds_13 rfl ?_
    refine j_zreturn dX11_holds_14 rfl (by decide) ?_
    exact ⟨by rw [ow_n hw hc h6]; rfl, rfl⟩
  · refine j_iconst (v := nI 1) dX11_holds_9 rfl ?_
    refine j_goto (tgt := 14) dX11_holds_10 (by decide) ?_
    refine j_zreturn dX11_holds_14 rfl (by decide) ?_
    exact ⟨by rw [ow_p h6]; rfl, rfl⟩

set_option maxHeartbeats 200000 in
set_option maxRecDepth 100000 in
theorem l_isSealed (hw : ow (A 84)) {c : Nat} (hc : c < 49) : ∀ (m i : Nat), i ≤ 49 → 49 - i < m → jWP none RX11 cX11_isSealed 4 (some .boolean) (d + 1) 0 0 8 [some (.ref 76), some (.int (nI c)), some (.int (bz (slF (A 84) c i))), some (.int (nI i))] [] (tw X A L) (jRi (bz (slB (A 84) c)) (tw X A L)) := by
  intro m
  induction m with
  | zero => intro i h1 h2; omega
  | succ m ih =>
    intro i hi hm
    refine j_iload_n dX11_isSealed_8 rfl rfl ?_
    refine j_bipush (v := nI 49) dX11_isSealed_9 rfl ?_
    refine jn_icmp_ge (tgt := 44) dX11_isSealed_11 (by decide) (by omega) (by omega) (fun h11 => ?_) (fun h11 => ?_)
    · refine j_iload_n dX11_isSealed_44 rfl rfl ?_
      refine j_zreturn dX11_isSealed_45 rfl (bz01 _) ?_
      obtain rfl : i = 49 := by omega
      exact ⟨by rw [slF_eq], rfl⟩
    · refine j_iload_n dX11_isSealed_14 rfl rfl ?_
      refine j_iload_n dX11_isSealed_15 rfl rfl ?_
      refine j_iload_n dX11_isSealed_16 rfl rfl ?_
      refine j_callSi [.int _, .int _] [.int _] dX11_isSealed_17 jlk_X11_99 rfl rfl (Nat.le_of_ble_eq_true rfl) (m_isNext hc (by omega)) ?_
      refine j_if_eq (tgt := 31) dX11_isSealed_20 (by decide) (fun h20 => ?_) (fun h20 => ?_)
      · have h20 := bz_f h20
        refine j_iconst (v := nI 1) dX11_isSealed_31 rfl ?_
        refine j_goto (tgt := 36) dX11_isSealed_32 (by decide) ?_
        refine j_iand dX11_isSealed_36 ?_
        refine j_istore_n (lv' := [some (.ref 76), some (.int _), some (.int _), some (.int _)]) dX11_isSealed_37 rfl (by decide) rfl ?_
        refine jn_iinc (lv' := [some (.ref 76), some (.int _), some (.int _), some (.int _)]) dX11_isSealed_38 rfl (by decide) rfl ?_
        refine j_goto (tgt := 8) dX11_isSealed_41 (by decide) ?_
        refine j_sub ?_ (ih (i + 1) (by omega) (by omega))
        show jsub [some (.ref 76), some (.int (nI c)), some (.int (bz (slF (A 84) c i && (!isNx c i || heldB (A 84) i)))), some (.int (nI (i + 1)))] _
        rw [h20, ← bz_and]
        exact ⟨rfl, rfl, rfl, rfl, trivial⟩
      · have h20 := bz_t h20
        refine j_aload_n dX11_isSealed_23 rfl rfl ?_
        refine j_iload_n dX11_isSealed_24 rfl rfl ?_
        refine j_callVi [.int _] [.int _] dX11_isSealed_25 jlk_X11_147 rfl rfl rfl rfl (Nat.le_of_ble_eq_true rfl) (m_holds hw (by omega)) ?_
        refine j_if_eq (tgt := 35) dX11_isSealed_28 (by decide) (fun h28 => ?_) (fun h28 => ?_)
        · have h28 := bz_f h28
          refine j_iconst (v := nI 0) dX11_isSealed_35 rfl ?_
          refine j_iand dX11_isSealed_36 ?_
          refine j_istore_n (lv' := [some (.ref 76), some (.int _), some (.int _), some (.int _)]) dX11_isSealed_37 rfl (by decide) rfl ?_
          refine jn_iinc (lv' := [some (.ref 76), some (.int _), some (.int _), some (.int _)]) dX11_isSealed_38 rfl (by decide) rfl ?_
          refine j_goto (tgt := 8) dX11_isSealed_41 (by decide) ?_
          refine j_sub ?_ (ih (i + 1) (by omega) (by omega))
          show jsub [some (.ref 76), some (.int (nI c)), some (.int (bz (slF (A 84) c i && (!isNx c i || heldB (A 84) i)))), some (.int (nI (i + 1)))] _
          rw [h20, h28, ← bz_and]
          exact ⟨rfl, rfl, rfl, rfl, trivial⟩
        · have h28 := bz_t h28
          refine j_iconst (v := nI 1) dX11_isSealed_31 rfl ?_
          refine j_goto (tgt := 36) dX11_isSealed_32 (by decide) ?_
          refine j_iand dX11_isSealed_36 ?_
          refine j_istore_n (lv' := [some (.ref 76), some (.int _), some (.int _), some (.int _)]) dX11_isSealed_37 rfl (by decide) rfl ?_
          refine jn_iinc (lv' := [some (.ref 76), some (.int _), some (.int _), some (.int _)]) dX11_isSealed_38 rfl (by decide) rfl ?_
          refine j_goto (tgt := 8) dX11_isSealed_41 (by decide) ?_
          refine j_sub ?_ (ih (i + 1) (by omega) (by omega))
          show jsub [some (.ref 76), some (.int (nI c)), some (.int (bz (slF (A 84) c i && (!isNx c i || heldB (A 84) i)))), some (.int (nI (i + 1)))] _
          rw [h20, h28, ← bz_and]
          exact ⟨rfl, rfl, rfl, rfl, trivial⟩

set_option maxHeartbeats 200000 in
set_option maxRecDepth 100000 in
theorem m_isSealed (hw : ow (A 84)) {c : Nat} (hc : c < 49) : jMet (d + 1) yX11_isSealed cX11_isSealed 4 (some .boolean) 0 0 [.ref 76, .int (nI c)] (tw X A L) (jRi (bz (slB (A 84) c)) (tw X A L)) := by
  refine jMet_of (by decide) (Nat.le_of_ble_eq_true rfl) none (Or.inl rfl) ?_
  show jWP none RX11 cX11_isSealed 4 (some .boolean) (d + 1) 0 0 0 [some (.ref 76), some (.int (nI c)), none, none] [] (tw X A L) (jRi (bz (slB (A 84) c)) (tw X A L))
  refine j_aload_n dX11_isSealed_0 rfl rfl ?_
  refine j_iload_n dX11_isSealed_1 rfl rfl ?_
  refine j_callVi [.int _] [] dX11_isSealed_2 jlk_X11_147 rfl rfl rfl rfl (Nat.le_of_ble_eq_true rfl) (m_holds hw hc) ?_
  refine j_istore_n (lv' := [some (.ref 76), some (.int _), some (.int _), none]) dX11_isSealed_5 rfl (by decide) rfl ?_
  refine j_iconst (v := nI 0) dX11_isSealed_6 rfl ?_
  refine j_istore_n (lv' := [some (.ref 76), some (.int _), some (.int _), some (.int _)]) dX11_isSealed_7 rfl (by decide) rfl ?_
  exact l_isSealed hw hc 50 0 (by decide) (by decide)

set_option maxHeartbeats 200000 in
set_option maxRecDepth 100000 in
theorem l_balanceOf {k : Int32} : ∀ (m i : Nat), i ≤ 49 → 49 - i < m → jWP none RX11 cX11_balanceOf 4 (some .int) (d) 0 0 4 [some (.ref 76), some (.int k), some (.int (balS (A 84) (A 85) k i)), some (.int (nI i))] [] (tw X A L) (jRi (balS (A 84) (A 85) k 49) (tw X A L)) := by
  intro m
  induction m with
  | zero => intro i h1 h2; omega
  | succ m ih =>
    intro i hi hm
    refine j_iload_n dX11_balanceOf_4 rfl rfl ?_
    refine j_bipush (v := nI 49) dX11_balanceOf_5 rfl ?_
    refine jn_icmp_ge (tgt := 39) dX11_balanceOf_7 (by decide) (by omega) (by omega) (fun h7 => ?_) (fun h7 => ?_)
    · refine j_iload_n dX11_balanceOf_39 rfl rfl ?_
      refine j_ireturn dX11_balanceOf_40 rfl ?_
      obtain rfl : i = 49 := by omega
      exact ⟨rfl, rfl⟩
    · refine j_iload_n dX11_balanceOf_10 rfl rfl ?_
      refine j_aload_n dX11_balanceOf_11 rfl rfl ?_
      refine t_getR (b := 84) dX11_balanceOf_12 jfl_X11_33 (fun _ _ _ => rfl) rfl ?_
      refine j_iload_n dX11_balanceOf_15 rfl rfl ?_
      refine t_iaload dX11_balanceOf_16 (fun _ _ _ => rfl) (by omega) (by decide) ?_
      refine j_iload_n dX11_balanceOf_17 rfl rfl ?_
      refine j_icmp_ne (tgt := 30) dX11_balanceOf_18 (by decide) (fun h18 => ?_) (fun h18 => ?_)
      · refine j_iconst (v := nI 0) dX11_balanceOf_30 rfl ?_
        refine j_iadd dX11_balanceOf_31 ?_
        refine j_istore_n (lv' := [some (.ref 76), some (.int _), some (.int _), some (.int _)]) dX11_balanceOf_32 rfl (by decide) rfl ?_
        refine jn_iinc (lv' := [some (.ref 76), some (.int _), some (.int _), some (.int _)]) dX11_balanceOf_33 rfl (by decide) rfl ?_
        refine j_goto (tgt := 4) dX11_balanceOf_36 (by decide) ?_
        refine j_sub ?_ (ih (i + 1) (by omega) (by omega))
        have e : balS (A 84) (A 85) k (i + 1) = (if A 84 i = k then balS (A 84) (A 85) k i + A 85 i else balS (A 84) (A 85) k i) := rfl
        rw [e, if_neg h18]
        exact ⟨rfl, rfl, congrArg (fun z => some (Value.int z)) (by first | exact Int32.add_zero _ | exact (Int32.add_zero _).symm), rfl, trivial⟩
      · refine j_aload_n dX11_balanceOf_21 rfl rfl ?_
        refine t_getR (b := 85) dX11_balanceOf_22 jfl_X11_36 (fun _ _ _ => rfl) rfl ?_
        refine j_iload_n dX11_balanceOf_25 rfl rfl ?_
        refine t_iaload dX11_balanceOf_26 (fun _ _ _ => rfl) (by omega) (by decide) ?_
        refine j_goto (tgt := 31) dX11_balanceOf_27 (by decide) ?_
        refine j_iadd dX11_balanceOf_31 ?_
        refine j_istore_n (lv' := [some (.ref 76), some (.int _), some (.int _), some (.int _)]) dX11_balanceOf_32 rfl (by decide) rfl ?_
        refine jn_iinc (lv' := [some (.ref 76), some (.int _), some (.int _), some (.int _)]) dX11_balanceOf_33 rfl (by decide) rfl ?_
        refine j_goto (tgt := 4) dX11_balanceOf_36 (by decide) ?_
        refine j_sub ?_ (ih (i + 1) (by omega) (by omega))
        have e : balS (A 84) (A 85) k (i + 1) = (if A 84 i = k then balS (A 84) (A 85) k i + A 85 i else balS (A 84) (A 85) k i) := rfl
        rw [e, if_pos (by first | exact h18 | simpa using h18)]
        exact ⟨rfl, rfl, rfl, rfl, trivial⟩

set_option maxHeartbeats 200000 in
set_option maxRecDepth 100000 in
theorem m_balanceOf {k : Int32} : jMet (d) yX11_balanceOf cX11_balanceOf 4 (some .int) 0 0 [.ref 76, .int k] (tw X A L) (jRi (balS (A 84) (A 85) k 49) (tw X A L)) := by
  refine jMet_of (by decide) (Nat.le_of_ble_eq_true rfl) none (Or.inl rfl) ?_
  show jWP none RX11 cX11_balanceOf 4 (some .int) (d) 0 0 0 [some (.ref 76), some (.int k), none, none] [] (tw X A L) (jRi (balS (A 84) (A 85) k 49) (tw X A L))
  refine j_iconst (v := nI 0) dX11_balanceOf_0 rfl ?_
  refine j_istore_n (lv' := [some (.ref 76), some (.int _), some (.int _), none]) dX11_balanceOf_1 rfl (by decide) rfl ?_
  refine j_iconst (v := nI 0) dX11_balanceOf_2 rfl ?_
  refine j_istore_n (lv' := [some (.ref 76), some (.int _), some (.int _), some (.int _)]) dX11_balanceOf_3 rfl (by decide) rfl ?_
  exact l_balanceOf 50 0 (by decide) (by decide)

end CT40