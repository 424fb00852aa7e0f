/-! shelves -/
theorem sw_out {x : Int32} {n : Nat} (h : x < 0 ∨ nI n ≤ x) (hn : n < 2 ^ 31) : x.toInt < 0 ∨ (n : Int) ≤ x.toInt := by
  rcases h with h | h
  · exact Or.inl (by have := Int32.lt_iff_toInt_lt.mp h; simpa using this)
  · exact Or.inr (by have := Int32.le_iff_toInt_le.mp h; rw [nI_toInt hn] at this; exact this)
def bfI (h so : Nat) : Int32 := if h = 0 then (-11) else if h = 2 then (if so = 0 then nI 0 else (-12)) else (-12)
def hpI (h ln : Nat) (i : Int32) : Int32 := if h = 2 then isA ln i else nI 0
theorem hpI_in {ln j : Nat} (h : j < ln) (hl : ln ≤ 60) : hpI 2 ln (nI j) = nI 1 := by unfold hpI; rw [if_pos rfl]; exact isA_in h hl
theorem hpI_ge {ln j : Nat} (h : ln ≤ j) (hj : j < 2 ^ 31) : hpI 2 ln (nI j) = nI 0 := by unfold hpI; rw [if_pos rfl]; exact isA_ge h hj
def pfI (h ln : Nat) (i : Int32) : Int32 := if h = 0 then (-11) else if h = 2 then (if isA ln i = 0 then (-13) else nI 0) else (-12)
def so04 (c : Int32) : Int32 := if c < 0 then nI 0 else if nI 4 < c then nI 0 else nI 1
/-- what a row of a sort keeps of a number -/
def lbJ (so : Nat) (v : Int64) : Int64 := match so with
  | 0 => v.toInt32.toInt8.toInt32.toInt64
  | 1 => v.toInt32.toInt16.toInt32.toInt64
  | 2 => v.toInt32.toInt64
  | 3 => v
  | _ => if v = 0 then 0 else 1
theorem lcmp0 {v : Int64} : (lg_cmp v 0 = 0) = (v = 0) := by
  unfold lg_cmp
  by_cases h : v = 0
  · subst h; simp
  · by_cases h2 : v > 0 <;> simp [h, h2]
def strI (h ln : Nat) (i n : Int32) : Int32 := if h = 2 then (if i < 0 then nI 0 else if n < 0 then nI 0 else if nI ln < i then nI 0 else if nI ln - i < n then nI 0 else nI 1) else nI 0
theorem strI_in {ln i n : Nat} (h : i + n ≤ ln) (hl : ln ≤ 60) : strI 2 ln (nI i) (nI n) = nI 1 := by
  unfold strI
  rw [if_pos rfl, if_neg (nI_pos (by omega)), if_neg (nI_pos (by omega)), if_neg (nI_nlt (by omega) (by omega)), pk_sub (by omega), if_neg (nI_nlt (by omega) (by omega))]
def zl (n : Nat) (f : Nat → Int64) : Prop := ∀ c, n ≤ c → f c = 0
/-- Arrays.fill with 0 -/
def flS (g : Nat → Int64) (v : Int64) : Nat → Nat → Int64
  | 0 => g
  | i + 1 => vp_updL (flS g v i) i v
theorem flS_at {g : Nat → Int64} {v : Int64} {c : Nat} : ∀ {i : Nat}, flS g v i c = if c < i then v else g c
  | 0 => by rw [if_neg (Nat.not_lt_zero c)]; rfl
  | i + 1 => by
    show vp_updL (flS g v i) i v c = _
    unfold vp_updL
    by_cases e : c = i
    · rw [if_pos e, if_pos (by omega)]
    · rw [if_neg e, flS_at]
      by_cases h : c < i
      · rw [if_pos h, if_pos (by omega)]
      · rw [if_neg h, if_neg (by omega)]
theorem flS_0 {g : Nat → Int64} (h : zl 60 g) : flS g 0 60 = fun _ => 0 := by
  funext c
  rw [flS_at]
  by_cases q : c < 60
  · rw [if_pos q]
  · rw [if_neg q, h c (by omega)]
theorem updL_s (f : Nat → Int64) (k : Nat) (v : Int64) : vp_updL f k v k = v := pk_uLs
theorem vuL_s {α : Type} (f : Nat → α) (k : Nat) (v : α) : va_up f k v k = v := vu_s f k v
section CT5
variable {d : Nat} {X A : Nat → Nat → Int32} {L : Nat → Nat → Int64} {w : jW} {S h so ln : Nat}

set_option maxHeartbeats 4000000 in
set_option maxRecDepth 100000 in
theorem c_X8_holdsNothing (hS : isSh S) (hh : X S 0 = nI h) (h2 : h ≤ 2) : jMet (d) yX8_holdsNothing cX8_holdsNothing 1 (some .boolean) 0 0 [.ref S] (tw X A L) (jRi (if h = 0 then nI 1 else nI 0) (tw X A L)) := by
  refine jMet_of (by decide) (Nat.le_of_ble_eq_true rfl) none (Or.inl rfl) ?_
  show jWP none RX8 cX8_holdsNothing 1 (some .boolean) (d) 0 0 0 [some (.ref S)] [] (tw X A L) (jRi (if h = 0 then nI 1 else nI 0) (tw X A L))
  refine j_aload_n dX8_holdsNothing_0 rfl rfl ?_
  refine t_getI dX8_holdsNothing_1 jfl_X8_11 (shS0 hS) (fun _ => rfl) ?_
  refine j_topE (e' := nI h) hh ?_
  refine jn_if_ne (tgt := 11) dX8_holdsNothing_4 (by decide) (by omega) (fun h4 => ?_) (fun h4 => ?_)
  · refine j_iconst (v := nI 0) dX8_holdsNothing_11 rfl ?_
    refine j_zreturn dX8_holdsNothing_12 rfl (by decide) ?_
    exact ⟨by rw [if_neg (by omega)], rfl⟩
  · refine j_iconst (v := nI 1) dX8_holdsNothing_7 rfl ?_
    refine j_goto (tgt := 12) dX8_holdsNothing_8 (by decide) ?_
    refine j_zreturn dX8_holdsNothing_12 rfl (by decide) ?_
    exact ⟨by rw [if_pos h4], rfl⟩

set_option maxHeartbeats 4000000 in
set_option maxRecDepth 100000 in
theorem c_X8_bytesFault (hS : isSh S) (hh : X S 0 = nI h) (h2 : h ≤ 2) (hso : X S 2 = nI so) (so4 : so ≤ 4) : jMet (d) yX8_bytesFault cX8_bytesFault 1 (some .int) 0 0 [.ref S] (tw X A L) (jRi (bfI h so) (tw X A L)) := by
  refine jMet_of (by decide) (Nat.le_of_ble_eq_true rfl) none (Or.inl rfl) ?_
  show jWP none RX8 cX8_bytesFault 1 (some .int) (d) 0 0 0 [some (.ref S)] [] (tw X A L) (jRi (bfI h so) (tw X A L))
  refine j_aload_n dX8_bytesFault_0 rfl rfl ?_
  refine t_getI dX8_bytesFault_1 jfl_X8_11 (shS0 hS) (fun _ => rfl) ?_
  refine j_topE (e' := nI h) hh ?_
  refine jn_if_ne (tgt := 12) dX8_bytesFault_4 (by decide) (by omega) (fun h4 => ?_) (fun h4 => ?_)
  · refine j_aload_n dX8_bytesFault_12 rfl rfl ?_
    refine t_getI dX8_bytesFault_13 jfl_X8_11 (shS0 hS) (fun _ => rfl) ?_
    refine j_topE (e' := nI h) hh ?_
    refine j_iconst (v := nI 2) dX8_bytesFault_16 rfl ?_
    refine jn_icmp_ne (tgt := 31) dX8_bytesFault_17 (by decide) (by omega) (by omega) (fun h17 => ?_) (fun h17 => ?_)
    · refine j_bipush (v := (-12)) dX8_bytesFault_31 rfl ?_
      refine j_ireturn dX8_bytesFault_33 rfl ?_
      exact ⟨by simp only [bfI, if_neg (show ¬ h = 0 by omega), if_neg h17], rfl⟩
    · refine j_aload_n dX8_bytesFault_20 rfl rfl ?_
      refine t_getI dX8_bytesFault_21 jfl_X8_18 (shS0 hS) (fun _ => rfl) ?_
      refine j_topE (e' := nI so) hso ?_
      refine jn_if_ne (tgt := 31) dX8_bytesFault_24 (by decide) (by omega) (fun h24 => ?_) (fun h24 => ?_)
      · refine j_bipush (v := (-12)) dX8_bytesFault_31 rfl ?_
        refine j_ireturn dX8_bytesFault_33 rfl ?_
        exact ⟨by simp only [bfI, if_neg (show ¬ h = 0 by omega), if_pos h17, if_neg (show ¬ so = 0 by omega)], rfl⟩
      · refine j_iconst (v := nI 0) dX8_bytesFault_27 rfl ?_
        refine j_goto (tgt := 33) dX8_bytesFault_28 (by decide) ?_
        refine j_ireturn dX8_bytesFault_33 rfl ?_
        exact ⟨by simp only [bfI, if_neg (show ¬ h = 0 by omega), if_pos h17, if_pos h24], rfl⟩
  · refine j_bipush (v := (-11)) dX8_bytesFault_7 rfl ?_
    refine j_goto (tgt := 33) dX8_bytesFault_9 (by decide) ?_
    refine j_ireturn dX8_bytesFault_33 rfl ?_
    exact ⟨by simp only [bfI, if_pos h4], rfl⟩

set_option maxHeartbeats 4000000 in
set_option maxRecDepth 100000 in
theorem c_X8_hasPlace (hS : isSh S) (hh : X S 0 = nI h) (h2 : h ≤ 2) (hln : X S 3 = nI ln) (l60 : ln ≤ 60) {i : Int32} : jMet (d) yX8_hasPlace cX8_hasPlace 2 (some .boolean) 0 0 [.ref S, .int i] (tw X A L) (jRi (hpI h ln i) (tw X A L)) := by
  refine jMet_of (by decide) (Nat.le_of_ble_eq_true rfl) none (Or.inl rfl) ?_
  show jWP none RX8 cX8_hasPlace 2 (some .boolean) (d) 0 0 0 [some (.ref S), some (.int i)] [] (tw X A L) (jRi (hpI h ln i) (tw X A L))
  refine j_aload_n dX8_hasPlace_0 rfl rfl ?_
  refine t_getI dX8_hasPlace_1 jfl_X8_11 (shS0 hS) (fun _ => rfl) ?_
  refine j_topE (e' := nI h) hh ?_
  refine j_iconst (v := nI 2) dX8_hasPlace_4 rfl ?_
  refine jn_icmp_ne (tgt := 24) dX8_hasPlace_5 (by decide) (by omega) (by omega) (fun h5 => ?_) (fun h5 => ?_)
  · refine j_iconst (v := nI 0) dX8_hasPlace_24 rfl ?_
    refine j_zreturn dX8_hasPlace_25 rfl (by decide) ?_
    exact ⟨by simp only [hpI, isA, if_neg h5], rfl⟩
  · refine j_iload_n dX8_hasPlace_8 rfl rfl ?_
    refine j_if_lt (tgt := 24) dX8_hasPlace_9 (by decide) (fun h9 => ?_) (fun h9 => ?_)
    · refine j_iconst (v := nI 0) dX8_hasPlace_24 rfl ?_
      refine j_zreturn dX8_hasPlace_25 rfl (by decide) ?_
      exact ⟨by simp only [hpI, isA, if_pos h5, if_pos h9], rfl⟩
    · refine j_iload_n dX8_hasPlace_12 rfl rfl ?_
      refine j_aload_n dX8_hasPlace_13 rfl rfl ?_
      refine t_getI dX8_hasPlace_14 jfl_X8_21 (shS0 hS) (fun _ => rfl) ?_
      refine j_topE (e' := nI ln) hln ?_
      refine j_icmp_ge (tgt := 24) dX8_hasPlace_17 (by decide) (fun h17 => ?_) (fun h17 => ?_)
      · refine j_iconst (v := nI 0) dX8_hasPlace_24 rfl ?_
        refine j_zreturn dX8_hasPlace_25 rfl (by decide) ?_
        exact ⟨by simp only [hpI, isA, if_pos h5, if_neg h9, if_pos h17], rfl⟩
      · refine j_iconst (v := nI 1) dX8_hasPlace_20 rfl ?_
        refine j_goto (tgt := 25) dX8_hasPlace_21 (by decide) ?_
        refine j_zreturn dX8_hasPlace_25 rfl (by decide) ?_
        exact ⟨by simp only [hpI, isA, if_pos h5, if_neg h9, if_neg h17], rfl⟩

theorem c_X8_hasPlace_in (hS : isSh S) (hh : X S 0 = nI 2) (hln : X S 3 = nI ln) (l60 : ln ≤ 60) {j : Nat} (hj : j < ln) : jMet d yX8_hasPlace cX8_hasPlace 2 (some .boolean) 0 0 [.ref S, .int (nI j)] (tw X A L) (jRi (nI 1) (tw X A L)) := jMet_i (c_X8_hasPlace hS hh (by decide) hln l60) (hpI_in hj l60) rfl
theorem c_X8_hasPlace_no (hS : isSh S) (hh : X S 0 = nI 2) (hln : X S 3 = nI ln) (l60 : ln ≤ 60) {j : Nat} (hj : ln ≤ j) (hj2 : j < 2 ^ 31) : jMet d yX8_hasPlace cX8_hasPlace 2 (some .boolean) 0 0 [.ref S, .int (nI j)] (tw X A L) (jRi (nI 0) (tw X A L)) := jMet_i (c_X8_hasPlace hS hh (by decide) hln l60) (hpI_ge hj hj2) rfl

set_option maxHeartbeats 4000000 in
set_option maxRecDepth 100000 in
theorem c_X8_elementAt (hS : isSh S) (hh : X S 0 = nI 2) (hln : X S 3 = nI ln) (l60 : ln ≤ 60) {j : Nat} (hj : j < ln) : jMet (d + 1) yX8_elementAt cX8_elementAt 2 (some .long) 0 0 [.ref S, .int (nI j)] (tw X A L) (jRl (L (S + 1) j) (tw X A L)) := by
  refine jMet_of (by decide) (Nat.le_of_ble_eq_true rfl) none (Or.inl rfl) ?_
  show jWP none RX8 cX8_elementAt 2 (some .long) (d + 1) 0 0 0 [some (.ref S), some (.int (nI j))] [] (tw X A L) (jRl (L (S + 1) j) (tw X A L))
  refine j_aload_n dX8_elementAt_0 rfl rfl ?_
  refine j_iload_n dX8_elementAt_1 rfl rfl ?_
  refine j_callVi [.int _] [] dX8_elementAt_2 jlk_X8_34 rfl rfl ((shS0 hS) _ _ _) rfl (Nat.le_of_ble_eq_true rfl) (c_X8_hasPlace_in hS hh hln l60 (by omega)) ?_
  refine j_if_eq (tgt := 17) dX8_elementAt_5 (by decide) (fun h => absurd h (by decide)) (fun _ => ?_)
  refine j_aload_n dX8_elementAt_8 rfl rfl ?_
  refine t_getR (b := (S + 1)) dX8_elementAt_9 jfl_X8_24 (shS0 hS) rfl ?_
  refine j_iload_n dX8_elementAt_12 rfl rfl ?_
  refine t_laload dX8_elementAt_13 (shS1 hS) (by omega) (by decide) ?_
  refine j_goto (tgt := 18) dX8_elementAt_14 (by decide) ?_
  refine j_lreturn dX8_elementAt_18 rfl ?_
  exact ⟨rfl, rfl⟩

set_option maxHeartbeats 4000000 in
set_option maxRecDepth 100000 in
theorem c_X8_byteAt (hS : isSh S) (hh : X S 0 = nI 2) (hln : X S 3 = nI ln) (l60 : ln ≤ 60) {j : Nat} (hj : j < ln) : jMet (d + 2) yX8_byteAt cX8_byteAt 2 (some .int) 0 0 [.ref S, .int (nI j)] (tw X A L) (jRi (L (S + 1) j).toInt32 (tw X A L)) := by
  refine jMet_of (by decide) (Nat.le_of_ble_eq_true rfl) none (Or.inl rfl) ?_
  show jWP none RX8 cX8_byteAt 2 (some .int) (d + 2) 0 0 0 [some (.ref S), some (.int (nI j))] [] (tw X A L) (jRi (L (S + 1) j).toInt32 (tw X A L))
  refine j_aload_n dX8_byteAt_0 rfl rfl ?_
  refine j_iload_n dX8_byteAt_1 rfl rfl ?_
  refine j_callVl [.int _] [] dX8_byteAt_2 jlk_X8_38 rfl rfl ((shS0 hS) _ _ _) rfl (Nat.le_of_ble_eq_true rfl) (c_X8_elementAt hS hh hln l60 (by omega)) ?_
  refine j_l2i dX8_byteAt_5 ?_
  refine j_ireturn dX8_byteAt_6 rfl ?_
  exact ⟨rfl, rfl⟩

set_option maxHeartbeats 4000000 in
set_option maxRecDepth 100000 in
theorem c_X8_placeFault (hS : isSh S) (hh : X S 0 = nI h) (h2 : h ≤ 2) (hln : X S 3 = nI ln) (l60 : ln ≤ 60) {i : Int32} : jMet (d + 1) yX8_placeFault cX8_placeFault 2 (some .int) 0 0 [.ref S, .int i] (tw X A L) (jRi (pfI h ln i) (tw X A L)) := by
  refine jMet_of (by decide) (Nat.le_of_ble_eq_true rfl) none (Or.inl rfl) ?_
  show jWP none RX8 cX8_placeFault 2 (some .int) (d + 1) 0 0 0 [some (.ref S), some (.int i)] [] (tw X A L) (jRi (pfI h ln i) (tw X A L))
  refine j_aload_n dX8_placeFault_0 rfl rfl ?_
  refine t_getI dX8_placeFault_1 jfl_X8_11 (shS0 hS) (fun _ => rfl) ?_
  refine j_topE (e' := nI h) hh ?_
  refine j_iconst (v := nI 2) dX8_placeFault_4 rfl ?_
  refine jn_icmp_eq (tgt := 23) dX8_placeFault_5 (by decide) (by omega) (by omega) (fun h5 => ?_) (fun h5 => ?_)
  · refine j_aload_n dX8_placeFault_23 rfl rfl ?_
    refine j_iload_n dX8_placeFault_24 rfl rfl ?_
    refine j_callVi [.int _] [] dX8_placeFault_25 jlk_X8_34 rfl rfl ((shS0 hS) _ _ _) rfl (Nat.le_of_ble_eq_true rfl) (c_X8_hasPlace hS hh h2 hln l60) ?_
    refine j_if_eq (tgt := 35) dX8_placeFault_28 (by decide) (fun h28 => ?_) (fun h28 => ?_)
    · have hz28 : isA ln i = 0 := by simpa [hpI, h5] using h28
      refine j_bipush (v := (-13)) dX8_placeFault_35 rfl ?_
      refine j_ireturn dX8_placeFault_37 rfl ?_
      exact ⟨by simp only [pfI, if_neg (show ¬ h = 0 by omega), if_pos h5, if_pos hz28], rfl⟩
    · have hz28 : ¬ isA ln i = 0 := by simpa [hpI, h5] using h28
      refine j_iconst (v := nI 0) dX8_placeFault_31 rfl ?_
      refine j_goto (tgt := 37) dX8_placeFault_32 (by decide) ?_
      refine j_ireturn dX8_placeFault_37 rfl ?_
      exact ⟨by simp only [pfI, if_neg (show ¬ h = 0 by omega), if_pos h5, if_neg hz28], rfl⟩
  · refine j_aload_n dX8_placeFault_8 rfl rfl ?_
    refine t_getI dX8_placeFault_9 jfl_X8_11 (shS0 hS) (fun _ => rfl) ?_
    refine j_topE (e' := nI h) hh ?_
    refine jn_if_ne (tgt := 20) dX8_placeFault_12 (by decide) (by omega) (fun h12 => ?_) (fun h12 => ?_)
    · refine j_bipush (v := (-12)) dX8_placeFault_20 rfl ?_
      refine j_ireturn dX8_placeFault_22 rfl ?_
      exact ⟨by simp only [pfI, if_neg (show ¬ h = 0 by omega), if_neg h5], rfl⟩
    · refine j_bipush (v := (-11)) dX8_placeFault_15 rfl ?_
      refine j_goto (tgt := 22) dX8_placeFault_17 (by decide) ?_
      refine j_ireturn dX8_placeFault_22 rfl ?_
      exact ⟨by simp only [pfI, if_pos h12], rfl⟩

set_option maxHeartbeats 4000000 in
set_option maxRecDepth 100000 in
theorem c_X8_hive (hS : isSh S) (hh : X S 0 = nI h) (h2 : h ≤ 2) : jMet (d) yX8_hive cX8_hive 1 (some .int) 0 0 [.ref S] (tw X A L) (jRi (if h = 1 then X S 1 else (-2)) (tw X A L)) := by
  refine jMet_of (by decide) (Nat.le_of_ble_eq_true rfl) none (Or.inl rfl) ?_
  show jWP none RX8 cX8_hive 1 (some .int) (d) 0 0 0 [some (.ref S)] [] (tw X A L) (jRi (if h = 1 then X S 1 else (-2)) (tw X A L))
  refine j_aload_n dX8_hive_0 rfl rfl ?_
  refine t_getI dX8_hive_1 jfl_X8_11 (shS0 hS) (fun _ => rfl) ?_
  refine j_topE (e' := nI h) hh ?_
  refine j_iconst (v := nI 1) dX8_hive_4 rfl ?_
  refine jn_icmp_ne (tgt := 15) dX8_hive_5 (by decide) (by omega) (by omega) (fun h5 => ?_) (fun h5 => ?_)
  · refine j_bipush (v := (-2)) dX8_hive_15 rfl ?_
    refine j_ireturn dX8_hive_17 rfl ?_
    exact ⟨by rw [if_neg h5], rfl⟩
  · refine j_aload_n dX8_hive_8 rfl rfl ?_
    refine t_getI dX8_hive_9 jfl_X8_15 (shS0 hS) (fun _ => rfl) ?_
    refine j_goto (tgt := 17) dX8_hive_12 (by decide) ?_
    refine j_ireturn dX8_hive_17 rfl ?_
    exact ⟨by rw [if_pos h5], rfl⟩

set_option maxHeartbeats 4000000 in
set_option maxRecDepth 100000 in
theorem c_X8_holdNothing (hS : isSh S) : jMet (d) yX8_holdNothing cX8_holdNothing 1 none 0 0 [.ref S] (tw X A L) (jRv (tw (va_up X S (upd (X S) 0 (nI 0))) A L)) := by
  refine jMet_of (by decide) (Nat.le_of_ble_eq_true rfl) none (Or.inl rfl) ?_
  show jWP none RX8 cX8_holdNothing 1 none (d) 0 0 0 [some (.ref S)] [] (tw X A L) (jRv (tw (va_up X S (upd (X S) 0 (nI 0))) A L))
  refine j_aload_n dX8_holdNothing_0 rfl rfl ?_
  refine j_iconst (v := nI 0) dX8_holdNothing_1 rfl ?_
  refine t_putI dX8_holdNothing_2 jfl_X8_11 (shS0 hS) (fun _ _ => rfl) (Nat.le_of_ble_eq_true rfl) rfl rfl ?_
  refine j_return dX8_holdNothing_5 rfl ?_
  exact ⟨rfl, rfl⟩

set_option maxHeartbeats 4000000 in
set_option maxRecDepth 100000 in
theorem c_X8_holdHive (hS : isSh S) {b : Int32} : jMet (d) yX8_holdHive cX8_holdHive 2 none 0 0 [.ref S, .int b] (tw X A L) (jRv (tw (va_up X S (upd (upd (X S) 0 (nI 1)) 1 b)) A L)) := by
  refine jMet_of (by decide) (Nat.le_of_ble_eq_true rfl) none (Or.inl rfl) ?_
  show jWP none RX8 cX8_holdHive 2 none (d) 0 0 0 [some (.ref S), some (.int b)] [] (tw X A L) (jRv (tw (va_up X S (upd (upd (X S) 0 (nI 1)) 1 b)) A L))
  refine j_aload_n dX8_holdHive_0 rfl rfl ?_
  refine j_iconst (v := nI 1) dX8_holdHive_1 rfl ?_
  refine t_putI dX8_holdHive_2 jfl_X8_11 (shS0 hS) (fun _ _ => rfl) (Nat.le_of_ble_eq_true rfl) rfl rfl ?_
  refine j_aload_n dX8_holdHive_5 rfl rfl ?_
  refine j_iload_n dX8_holdHive_6 rfl rfl ?_
  refine t_putI dX8_holdHive_7 jfl_X8_15 (shS0 hS) (fun _ _ => rfl) (Nat.le_of_ble_eq_true rfl) rfl rfl ?_
  refine j_return dX8_holdHive_10 rfl ?_
  refine ⟨rfl, ?_⟩
  simp only [vu_s, vu_up]

set_option maxHeartbeats 4000000 in
set_option maxRecDepth 100000 in
theorem c_X8_isSort {c : Int32} : jMet (d) yX8_isSort cX8_isSort 1 (some .boolean) 0 0 [.int c] (w) (jRi (so04 c) w) := by
  refine jMet_of (by decide) (Nat.le_of_ble_eq_true rfl) none (Or.inl rfl) ?_
  show jWP none RX8 cX8_isSort 1 (some .boolean) (d) 0 0 0 [some (.int c)] [] (w) (jRi (so04 c) w)
  refine j_iload_n dX8_isSort_0 rfl rfl ?_
  refine j_if_lt (tgt := 13) dX8_isSort_1 (by decide) (fun h1 => ?_) (fun h1 => ?_)
  · refine j_iconst (v := nI 0) dX8_isSort_13 rfl ?_
    refine j_zreturn dX8_isSort_14 rfl (by decide) ?_
    exact ⟨by simp only [so04, if_pos h1], rfl⟩
  · refine j_iload_n dX8_isSort_4 rfl rfl ?_
    refine j_iconst (v := nI 4) dX8_isSort_5 rfl ?_
    refine j_icmp_gt (tgt := 13) dX8_isSort_6 (by decide) (fun h6 => ?_) (fun h6 => ?_)
    · refine j_iconst (v := nI 0) dX8_isSort_13 rfl ?_
      refine j_zreturn dX8_isSort_14 rfl (by decide) ?_
      exact ⟨by simp only [so04, if_neg h1, if_pos h6], rfl⟩
    · refine j_iconst (v := nI 1) dX8_isSort_9 rfl ?_
      refine j_goto (tgt := 14) dX8_isSort_10 (by decide) ?_
      refine j_zreturn dX8_isSort_14 rfl (by decide) ?_
      exact ⟨by simp only [so04, if_neg h1, if_neg h6], rfl⟩

set_option maxHeartbeats 4000000 in
set_option maxRecDepth 100000 in
theorem l_J7_fill (hS : isSh S) {v : Int64} : ∀ (m i : Nat), i ≤ 60 → 60 - i < m → jWP none RJ7 cJ7_fill_d0a16 5 none (d) 0 0 6 [some (.ref (S + 1)), some (.long v), none, some (.int (nI i)), some (.int (nI 60))] [] (tw X A (va_up L (S + 1) (flS (L (S + 1)) v i))) (jRv (tw X (A) (va_up L (S + 1) (flS (L (S + 1)) v 60)))) := by
  intro m
  induction m with
  | zero => intro i h1 h2; omega
  | succ m ih =>
    intro i hi hm
    refine j_iload_n dJ7_fill_d0a16_6 rfl rfl ?_
    refine j_iload dJ7_fill_d0a16_7 rfl ?_
    refine jn_icmp_ge (tgt := 22) dJ7_fill_d0a16_9 (by decide) (by omega) (by omega) (fun h9 => ?_) (fun h9 => ?_)
    · refine j_return dJ7_fill_d0a16_22 rfl ?_
      obtain rfl : i = 60 := by omega
      exact ⟨rfl, rfl⟩
    · refine j_aload_n dJ7_fill_d0a16_12 rfl rfl ?_
      refine j_iload_n dJ7_fill_d0a16_13 rfl rfl ?_
      refine j_lload_n dJ7_fill_d0a16_14 rfl rfl ?_
      refine t_lastore dJ7_fill_d0a16_15 (shS1 hS) (by omega) (by decide) ?_
      refine jn_iinc (lv' := [some (.ref (S + 1)), some (.long _), none, some (.int _), some (.int _)]) dJ7_fill_d0a16_16 rfl (by decide) rfl ?_
      refine j_goto (tgt := 6) dJ7_fill_d0a16_19 (by decide) ?_
      refine j_atw ?_ (ih (i + 1) (by omega) (by omega))
      simp only [vu_s, vu_up, flS]

set_option maxHeartbeats 4000000 in
set_option maxRecDepth 100000 in
theorem c_J7_fill (hS : isSh S) {v : Int64} : jMet (d) yJ7_fill_d0a16 cJ7_fill_d0a16 5 none 0 0 [.ref (S + 1), .long v] (tw X A L) (jRv (tw X A (va_up L (S + 1) (flS (L (S + 1)) v 60)))) := by
  refine jMet_of (by decide) (Nat.le_of_ble_eq_true rfl) none (Or.inl rfl) ?_
  show jWP none RJ7 cJ7_fill_d0a16 5 none (d) 0 0 0 [some (.ref (S + 1)), some (.long v), none, none, none] [] (tw X A L) (jRv (tw X A (va_up L (S + 1) (flS (L (S + 1)) v 60))))
  refine j_iconst (v := nI 0) dJ7_fill_d0a16_0 rfl ?_
  refine j_istore_n (lv' := [some (.ref (S + 1)), some (.long _), none, some (.int _), none]) dJ7_fill_d0a16_1 rfl (by decide) rfl ?_
  refine j_aload_n dJ7_fill_d0a16_2 rfl rfl ?_
  refine j_alen_l dJ7_fill_d0a16_3 ((shS1 hS) _ _ _) ?_
  refine j_istore (lv' := [some (.ref (S + 1)), some (.long _), none, some (.int _), some (.int _)]) dJ7_fill_d0a16_4 (by decide) rfl ?_
  refine j_atw ?_ (l_J7_fill hS 61 0 (by omega) (by omega))
  simp only [flS, vu_self]

set_option maxHeartbeats 4000000 in
set_option maxRecDepth 100000 in
theorem c_X8_holdRow (hS : isSh S) (hz : zl 60 (L (S + 1))) {a b : Int32} : jMet (d + 1) yX8_holdRow cX8_holdRow 3 none 0 0 [.ref S, .int a, .int b] (tw X A L) (jRv (tw (va_up X S (upd (upd (upd (X S) 0 (nI 2)) 2 a) 3 b)) A (va_up L (S + 1) (fun _ => 0)))) := by
  refine jMet_of (by decide) (Nat.le_of_ble_eq_true rfl) none (Or.inl rfl) ?_
  show jWP none RX8 cX8_holdRow 3 none (d + 1) 0 0 0 [some (.ref S), some (.int a), some (.int b)] [] (tw X A L) (jRv (tw (va_up X S (upd (upd (upd (X S) 0 (nI 2)) 2 a) 3 b)) A (va_up L (S + 1) (fun _ => 0))))
  refine j_aload_n dX8_holdRow_0 rfl rfl ?_
  refine j_iconst (v := nI 2) dX8_holdRow_1 rfl ?_
  refine t_putI dX8_holdRow_2 jfl_X8_11 (shS0 hS) (fun _ _ => rfl) (Nat.le_of_ble_eq_true rfl) rfl rfl ?_
  refine j_aload_n dX8_holdRow_5 rfl rfl ?_
  refine j_iload_n dX8_holdRow_6 rfl rfl ?_
  refine t_putI dX8_holdRow_7 jfl_X8_18 (shS0 hS) (fun _ _ => rfl) (Nat.le_of_ble_eq_true rfl) rfl rfl ?_
  refine j_aload_n dX8_holdRow_10 rfl rfl ?_
  refine j_iload_n dX8_holdRow_11 rfl rfl ?_
  refine t_putI dX8_holdRow_12 jfl_X8_21 (shS0 hS) (fun _ _ => rfl) (Nat.le_of_ble_eq_true rfl) rfl rfl ?_
  refine j_aload_n dX8_holdRow_15 rfl rfl ?_
  refine t_getR (b := (S + 1)) dX8_holdRow_16 jfl_X8_24 (shS0 hS) rfl ?_
  refine j_lconst (v := 0) dX8_holdRow_19 rfl ?_
  refine j_callSv [.ref (S + 1), .long _] [] dX8_holdRow_20 jlk_X8_28 rfl rfl (Nat.le_of_ble_eq_true rfl) (c_J7_fill hS) ?_
  refine j_return dX8_holdRow_23 rfl ?_
  refine ⟨rfl, ?_⟩
  have hz : flS (L (S + 1)) 0 60 = fun _ => 0 := flS_0 hz
  rw [hz]
  simp only [vu_s, vu_up]

set_option maxHeartbeats 4000000 in
set_option maxRecDepth 100000 in
theorem c_X8_lowestBits (hS : isSh S) (hso : X S 2 = nI so) (so4 : so ≤ 4) {v : Int64} : jMet (d) yX8_lowestBits cX8_lowestBits 3 (some .long) 0 0 [.ref S, .long v] (tw X A L) (jRl (lbJ so v) (tw X A L)) := by
  refine jMet_of (by decide) (Nat.le_of_ble_eq_true rfl) none (Or.inl rfl) ?_
  show jWP none RX8 cX8_lowestBits 3 (some .long) (d) 0 0 0 [some (.ref S), some (.long v), none] [] (tw X A L) (jRl (lbJ so v) (tw X A L))
  refine j_aload_n dX8_lowestBits_0 rfl rfl ?_
  refine t_getI dX8_lowestBits_1 jfl_X8_18 (shS0 hS) (fun _ => rfl) ?_
  refine j_topE (e' := nI so) hso ?_
  rcases (show so = 0 ∨ so = 1 ∨ so = 2 ∨ so = 3 ∨ so = 4 by omega) with rfl | rfl | rfl | rfl | rfl
  · refine j_tableIn (off := 32) (tgt := 36) dX8_lowestBits_4 (by decide) (by decide) (by decide) (by decide) ?_
    refine j_lload_n dX8_lowestBits_36 rfl rfl ?_
    refine j_l2i dX8_lowestBits_37 ?_
    refine j_i2b dX8_lowestBits_38 ?_
    refine j_i2l dX8_lowestBits_39 ?_
    refine j_lreturn dX8_lowestBits_40 rfl ?_
    exact ⟨rfl, rfl⟩
  · refine j_tableIn (off := 37) (tgt := 41) dX8_lowestBits_4 (by decide) (by decide) (by decide) (by decide) ?_
    refine j_lload_n dX8_lowestBits_41 rfl rfl ?_
    refine j_l2i dX8_lowestBits_42 ?_
    refine j_i2s dX8_lowestBits_43 ?_
    refine j_i2l dX8_lowestBits_44 ?_
    refine j_lreturn dX8_lowestBits_45 rfl ?_
    exact ⟨rfl, rfl⟩
  · refine j_tableIn (off := 42) (tgt := 46) dX8_lowestBits_4 (by decide) (by decide) (by decide) (by decide) ?_
    refine j_lload_n dX8_lowestBits_46 rfl rfl ?_
    refine j_l2i dX8_lowestBits_47 ?_
    refine j_i2l dX8_lowestBits_48 ?_
    refine j_lreturn dX8_lowestBits_49 rfl ?_
    exact ⟨rfl, rfl⟩
  · refine j_tableIn (off := 46) (tgt := 50) dX8_lowestBits_4 (by decide) (by decide) (by decide) (by decide) ?_
    refine j_lload_n dX8_lowestBits_50 rfl rfl ?_
    refine j_lreturn dX8_lowestBits_51 rfl ?_
    exact ⟨rfl, rfl⟩
  · refine j_tableOut (tgt := 52) dX8_lowestBits_4 (by decide) (by decide) ?_
    refine j_lload_n dX8_lowestBits_52 rfl rfl ?_
    refine j_lconst (v := 0) dX8_lowestBits_53 rfl ?_
    refine j_lcmp dX8_lowestBits_54 ?_
    refine j_if_eq (tgt := 62) dX8_lowestBits_55 (by decide) (fun h55 => ?_) (fun h55 => ?_)
    · refine j_lconst (v := 0) dX8_lowestBits_62 rfl ?_
      refine j_lreturn dX8_lowestBits_63 rfl ?_
      exact ⟨by rw [lcmp0] at h55; simp [lbJ, h55], rfl⟩
    · refine j_lconst (v := 1) dX8_lowestBits_58 rfl ?_
      refine j_goto (tgt := 63) dX8_lowestBits_59 (by decide) ?_
      refine j_lreturn dX8_lowestBits_63 rfl ?_
      exact ⟨by rw [lcmp0] at h55; simp [lbJ, h55], rfl⟩

set_option maxHeartbeats 4000000 in
set_option maxRecDepth 100000 in
theorem c_X8_putIn (hS : isSh S) (hh : X S 0 = nI 2) (hso : X S 2 = nI so) (so4 : so ≤ 4) (hln : X S 3 = nI ln) (l60 : ln ≤ 60) {j : Nat} (hj : j < ln) {v : Int64} : jMet (d + 1) yX8_putIn cX8_putIn 4 none 0 0 [.ref S, .int (nI j), .long v] (tw X A L) (jRv (tw X A (va_up L (S + 1) (vp_updL (L (S + 1)) j (lbJ so v))))) := by
  refine jMet_of (by decide) (Nat.le_of_ble_eq_true rfl) none (Or.inl rfl) ?_
  show jWP none RX8 cX8_putIn 4 none (d + 1) 0 0 0 [some (.ref S), some (.int (nI j)), some (.long v), none] [] (tw X A L) (jRv (tw X A (va_up L (S + 1) (vp_updL (L (S + 1)) j (lbJ so v)))))
  refine j_aload_n dX8_putIn_0 rfl rfl ?_
  refine j_iload_n dX8_putIn_1 rfl rfl ?_
  refine j_callVi [.int _] [] dX8_putIn_2 jlk_X8_34 rfl rfl ((shS0 hS) _ _ _) rfl (Nat.le_of_ble_eq_true rfl) (c_X8_hasPlace_in hS hh hln l60 (by omega)) ?_
  refine j_if_eq (tgt := 19) dX8_putIn_5 (by decide) (fun h => absurd h (by decide)) (fun _ => ?_)
  refine j_aload_n dX8_putIn_8 rfl rfl ?_
  refine t_getR (b := (S + 1)) dX8_putIn_9 jfl_X8_24 (shS0 hS) rfl ?_
  refine j_iload_n dX8_putIn_12 rfl rfl ?_
  refine j_aload_n dX8_putIn_13 rfl rfl ?_
  refine j_lload_n dX8_putIn_14 rfl rfl ?_
  refine j_callVl [.long _] [.int _, .ref (S + 1)] dX8_putIn_15 jlk_X8_42 rfl rfl ((shS0 hS) _ _ _) rfl (Nat.le_of_ble_eq_true rfl) (c_X8_lowestBits hS hso so4) ?_
  refine t_lastore dX8_putIn_18 (shS1 hS) (by omega) (by decide) ?_
  refine j_return dX8_putIn_19 rfl ?_
  exact ⟨rfl, rfl⟩

set_option maxHeartbeats 4000000 in
set_option maxRecDepth 100000 in
theorem c_X8_isAlike (hS : isSh S) (hh : X S 0 = nI h) (h2 : h ≤ 2) (hso : X S 2 = nI so) (so4 : so ≤ 4) {T g sp : Nat} (hT : isSh T) (hg : X T 0 = nI g) (g2 : g ≤ 2) (hsp : X T 2 = nI sp) (sp4 : sp ≤ 4) : jMet (d) yX8_isAlike cX8_isAlike 2 (some .boolean) 0 0 [.ref S, .ref T] (tw X A L) (jRi (if h = 2 ∧ g = 2 ∧ so = sp then nI 1 else nI 0) (tw X A L)) := by
  refine jMet_of (by decide) (Nat.le_of_ble_eq_true rfl) none (Or.inl rfl) ?_
  show jWP none RX8 cX8_isAlike 2 (some .boolean) (d) 0 0 0 [some (.ref S), some (.ref T)] [] (tw X A L) (jRi (if h = 2 ∧ g = 2 ∧ so = sp then nI 1 else nI 0) (tw X A L))
  refine j_aload_n dX8_isAlike_0 rfl rfl ?_
  refine t_getI dX8_isAlike_1 jfl_X8_11 (shS0 hS) (fun _ => rfl) ?_
  refine j_topE (e' := nI h) hh ?_
  refine j_iconst (v := nI 2) dX8_isAlike_4 rfl ?_
  refine jn_icmp_ne (tgt := 31) dX8_isAlike_5 (by decide) (by omega) (by omega) (fun h5 => ?_) (fun h5 => ?_)
  · refine j_iconst (v := nI 0) dX8_isAlike_31 rfl ?_
    refine j_zreturn dX8_isAlike_32 rfl (by decide) ?_
    exact ⟨by simp [h5], rfl⟩
  · refine j_aload_n dX8_isAlike_8 rfl rfl ?_
    refine t_getI dX8_isAlike_9 jfl_X8_11 (shS0 hT) (fun _ => rfl) ?_
    refine j_topE (e' := nI g) hg ?_
    refine j_iconst (v := nI 2) dX8_isAlike_12 rfl ?_
    refine jn_icmp_ne (tgt := 31) dX8_isAlike_13 (by decide) (by omega) (by omega) (fun h13 => ?_) (fun h13 => ?_)
    · refine j_iconst (v := nI 0) dX8_isAlike_31 rfl ?_
      refine j_zreturn dX8_isAlike_32 rfl (by decide) ?_
      exact ⟨by simp [h5, h13], rfl⟩
    · refine j_aload_n dX8_isAlike_16 rfl rfl ?_
      refine t_getI dX8_isAlike_17 jfl_X8_18 (shS0 hS) (fun _ => rfl) ?_
      refine j_topE (e' := nI so) hso ?_
      refine j_aload_n dX8_isAlike_20 rfl rfl ?_
      refine t_getI dX8_isAlike_21 jfl_X8_18 (shS0 hT) (fun _ => rfl) ?_
      refine j_topE (e' := nI sp) hsp ?_
      refine jn_icmp_ne (tgt := 31) dX8_isAlike_24 (by decide) (by omega) (by omega) (fun h24 => ?_) (fun h24 => ?_)
      · refine j_iconst (v := nI 0) dX8_isAlike_31 rfl ?_
        refine j_zreturn dX8_isAlike_32 rfl (by decide) ?_
        exact ⟨by simp [h5, h13, h24], rfl⟩
      · refine j_iconst (v := nI 1) dX8_isAlike_27 rfl ?_
        refine j_goto (tgt := 32) dX8_isAlike_28 (by decide) ?_
        refine j_zreturn dX8_isAlike_32 rfl (by decide) ?_
        exact ⟨by simp [h5, h13, h24], rfl⟩

set_option maxHeartbeats 4000000 in
set_option maxRecDepth 100000 in
theorem c_X8_hasStretch (hS : isSh S) (hh : X S 0 = nI h) (h2 : h ≤ 2) (hln : X S 3 = nI ln) (l60 : ln ≤ 60) {i n : Int32} : jMet (d) yX8_hasStretch cX8_hasStretch 3 (some .boolean) 0 0 [.ref S, .int i, .int n] (tw X A L) (jRi (strI h ln i n) (tw X A L)) := by
  refine jMet_of (by decide) (Nat.le_of_ble_eq_true rfl) none (Or.inl rfl) ?_
  show jWP none RX8 cX8_hasStretch 3 (some .boolean) (d) 0 0 0 [some (.ref S), some (.int i), some (.int n)] [] (tw X A L) (jRi (strI h ln i n) (tw X A L))
  refine j_aload_n dX8_hasStretch_0 rfl rfl ?_
  refine t_getI dX8_hasStretch_1 jfl_X8_11 (shS0 hS) (fun _ => rfl) ?_
  refine j_topE (e' := nI h) hh ?_
  refine j_iconst (v := nI 2) dX8_hasStretch_4 rfl ?_
  refine jn_icmp_ne (tgt := 38) dX8_hasStretch_5 (by decide) (by omega) (by omega) (fun h5 => ?_) (fun h5 => ?_)
  · refine j_iconst (v := nI 0) dX8_hasStretch_38 rfl ?_
    refine j_zreturn dX8_hasStretch_39 rfl (by decide) ?_
    exact ⟨by simp only [strI, if_neg h5], rfl⟩
  · refine j_iload_n dX8_hasStretch_8 rfl rfl ?_
    refine j_if_lt (tgt := 38) dX8_hasStretch_9 (by decide) (fun h9 => ?_) (fun h9 => ?_)
    · refine j_iconst (v := nI 0) dX8_hasStretch_38 rfl ?_
      refine j_zreturn dX8_hasStretch_39 rfl (by decide) ?_
      exact ⟨by simp only [strI, if_pos h5, if_pos h9], rfl⟩
    · refine j_iload_n dX8_hasStretch_12 rfl rfl ?_
      refine j_if_lt (tgt := 38) dX8_hasStretch_13 (by decide) (fun h13 => ?_) (fun h13 => ?_)
      · refine j_iconst (v := nI 0) dX8_hasStretch_38 rfl ?_
        refine j_zreturn dX8_hasStretch_39 rfl (by decide) ?_
        exact ⟨by simp only [strI, if_pos h5, if_neg h9, if_pos h13], rfl⟩
      · refine j_iload_n dX8_hasStretch_16 rfl rfl ?_
        refine j_aload_n dX8_hasStretch_17 rfl rfl ?_
        refine t_getI dX8_hasStretch_18 jfl_X8_21 (shS0 hS) (fun _ => rfl) ?_
        refine j_topE (e' := nI ln) hln ?_
        refine j_icmp_gt (tgt := 38) dX8_hasStretch_21 (by decide) (fun h21 => ?_) (fun h21 => ?_)
        · refine j_iconst (v := nI 0) dX8_hasStretch_38 rfl ?_
          refine j_zreturn dX8_hasStretch_39 rfl (by decide) ?_
          exact ⟨by simp only [strI, if_pos h5, if_neg h9, if_neg h13, if_pos h21], rfl⟩
        · refine j_iload_n dX8_hasStretch_24 rfl rfl ?_
          refine j_aload_n dX8_hasStretch_25 rfl rfl ?_
          refine t_getI dX8_hasStretch_26 jfl_X8_21 (shS0 hS) (fun _ => rfl) ?_
          refine j_topE (e' := nI ln) hln ?_
          refine j_iload_n dX8_hasStretch_29 rfl rfl ?_
          refine j_isub dX8_hasStretch_30 ?_
          refine j_icmp_gt (tgt := 38) dX8_hasStretch_31 (by decide) (fun h31 => ?_) (fun h31 => ?_)
          · refine j_iconst (v := nI 0) dX8_hasStretch_38 rfl ?_
            refine j_zreturn dX8_hasStretch_39 rfl (by decide) ?_
            exact ⟨by simp only [strI, if_pos h5, if_neg h9, if_neg h13, if_neg h21, if_pos h31], rfl⟩
          · refine j_iconst (v := nI 1) dX8_hasStretch_34 rfl ?_
            refine j_goto (tgt := 39) dX8_hasStretch_35 (by decide) ?_
            refine j_zreturn dX8_hasStretch_39 rfl (by decide) ?_
            exact ⟨by simp only [strI, if_pos h5, if_neg h9, if_neg h13, if_neg h21, if_neg h31], rfl⟩

theorem c_X8_hasStretch_in (hS : isSh S) (hh : X S 0 = nI 2) (hln : X S 3 = nI ln) (l60 : ln ≤ 60) {i n : Nat} (hj : i + n ≤ ln) : jMet d yX8_hasStretch cX8_hasStretch 3 (some .boolean) 0 0 [.ref S, .int (nI i), .int (nI n)] (tw X A L) (jRi (nI 1) (tw X A L)) := jMet_i (c_X8_hasStretch hS hh (by decide) hln l60) (strI_in hj l60) rfl

set_option maxHeartbeats 4000000 in
set_option maxRecDepth 100000 in
theorem c_X8_takeFrom (hS : isSh S) (hh : X S 0 = nI 2) (hln : X S 3 = nI ln) (l60 : ln ≤ 60) {T lt : Nat} (hT : isSh T) (hg : X T 0 = nI 2) (hlt : X T 3 = nI lt) (t60 : lt ≤ 60) {i j n : Nat} (h1 : i + n ≤ lt) (h2 : j + n ≤ ln) : jMet (d + 1) yX8_takeFrom cX8_takeFrom 5 none 0 0 [.ref S, .ref T, .int (nI i), .int (nI j), .int (nI n)] (tw X A L) (jRv (tw X A (va_up L (S + 1) (va_cpy (L (T + 1)) (L (S + 1)) i j n)))) := by
  refine jMet_of (by decide) (Nat.le_of_ble_eq_true rfl) none (Or.inl rfl) ?_
  show jWP none RX8 cX8_takeFrom 5 none (d + 1) 0 0 0 [some (.ref S), some (.ref T), some (.int (nI i)), some (.int (nI j)), some (.int (nI n))] [] (tw X A L) (jRv (tw X A (va_up L (S + 1) (va_cpy (L (T + 1)) (L (S + 1)) i j n))))
  refine j_aload_n dX8_takeFrom_0 rfl rfl ?_
  refine j_iload_n dX8_takeFrom_1 rfl rfl ?_
  refine j_iload dX8_takeFrom_2 rfl ?_
  refine j_callVi [.int _, .int _] [] dX8_takeFrom_4 jlk_X8_46 rfl rfl ((shS0 hT) _ _ _) rfl (Nat.le_of_ble_eq_true rfl) (c_X8_hasStretch_in hT hg hlt t60 h1) ?_
  refine j_if_eq (tgt := 35) dX8_takeFrom_7 (by decide) (fun h => absurd h (by decide)) (fun _ => ?_)
  refine j_aload_n dX8_takeFrom_10 rfl rfl ?_
  refine j_iload_n dX8_takeFrom_11 rfl rfl ?_
  refine j_iload dX8_takeFrom_12 rfl ?_
  refine j_callVi [.int _, .int _] [] dX8_takeFrom_14 jlk_X8_46 rfl rfl ((shS0 hS) _ _ _) rfl (Nat.le_of_ble_eq_true rfl) (c_X8_hasStretch_in hS hh hln l60 h2) ?_
  refine j_if_eq (tgt := 35) dX8_takeFrom_17 (by decide) (fun h => absurd h (by decide)) (fun _ => ?_)
  refine j_aload_n dX8_takeFrom_20 rfl rfl ?_
  refine t_getR (b := (T + 1)) dX8_takeFrom_21 jfl_X8_24 (shS0 hT) rfl ?_
  refine j_iload_n dX8_takeFrom_24 rfl rfl ?_
  refine j_aload_n dX8_takeFrom_25 rfl rfl ?_
  refine t_getR (b := (S + 1)) dX8_takeFrom_26 jfl_X8_24 (shS0 hS) rfl ?_
  refine j_iload_n dX8_takeFrom_29 rfl rfl ?_
  refine j_iload dX8_takeFrom_30 rfl ?_
  refine t_copyl dX8_takeFrom_32 jlc_X8_50 (shS1 hT) (shS1 hS) (by omega) (by omega) (by decide) (by decide) (Nat.le_of_ble_eq_true rfl) ?_
  refine j_return dX8_takeFrom_35 rfl ?_
  exact ⟨rfl, rfl⟩

end CT5