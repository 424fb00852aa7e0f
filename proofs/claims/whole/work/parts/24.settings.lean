/-! settings: numbers as natural numbers -/
def nIf (v : Nat → Nat) : Nat → Int32 := fun j => nI (v j)
def updN (v : Nat → Nat) (i x : Nat) : Nat → Nat := fun j => if j = i then x else v j
theorem upd_nIf (v : Nat → Nat) (i x : Nat) : upd (nIf v) i (nI x) = nIf (updN v i x) := by
  funext j
  by_cases h : j = i
  · subst h; rw [pk_us]; simp [nIf, updN]
  · rw [pk_un h]; simp [nIf, updN, h]
theorem updN_s (v : Nat → Nat) (i x : Nat) : updN v i x i = x := by simp [updN]
theorem updN_n (v : Nat → Nat) (i x : Nat) {j : Nat} (h : j ≠ i) : updN v i x j = v j := by simp [updN, h]
def isA (n : Nat) (c : Int32) : Int32 := if c < 0 then nI 0 else if nI n ≤ c then nI 0 else nI 1
theorem isA_01 (n : Nat) (c : Int32) : isA n c = 0 ∨ isA n c = 1 := by
  unfold isA
  split
  · exact Or.inl rfl
  · split
    · exact Or.inl rfl
    · exact Or.inr rfl
theorem isA_in {n j : Nat} (h : j < n) (hn : n ≤ 60) : isA n (nI j) = nI 1 := by
  unfold isA
  rw [if_neg (nI_pos (by omega)), if_neg (fun q => by have := (nI_leI (by omega) (by omega)).mp q; omega)]
theorem isA_ge {n j : Nat} (h : n ≤ j) (hj : j < 2 ^ 31) : isA n (nI j) = nI 0 := by
  unfold isA
  rw [if_neg (nI_pos hj), if_pos ((nI_leI (by omega) hj).mpr h)]
theorem isA_cases {n : Nat} (hn : n ≤ 60) (c : Int32) : isA n c = nI 0 ∨ ∃ j, j < n ∧ c = nI j := by
  rcases pk_ix c (n := n) (by omega) with h | h | h
  · exact Or.inl (by unfold isA; rw [if_pos h])
  · refine Or.inl ?_
    unfold isA
    rw [if_pos h, ite_self]
  · exact Or.inr h
theorem isc_cases (c : Int32) : isc c = nI 0 ∨ ∃ j, j < 49 ∧ c = nI j := isA_cases (n := 49) (by decide) c
def isT (n : Nat) (c t : Int32) : Int32 := if t = 0 then isA n c else if t = nI 1 then (if c = 0 then nI 1 else nI 0) else if t = nI 2 then (if c = 0 then nI 1 else nI 0) else nI 0
/-- number j of kind t is there -/
def thr (n j t : Nat) : Prop := (t = 0 ∧ j < n) ∨ ((t = 1 ∨ t = 2) ∧ j = 0)
def pOf (j t : Nat) : Nat := if t = 0 then j else 5 + t
theorem isT_in {n j t : Nat} (h : thr n j t) (hn : n ≤ 6) : isT n (nI j) (nI t) = nI 1 := by
  rcases h with ⟨rfl, h⟩ | ⟨rfl | rfl, rfl⟩
  · unfold isT; rw [if_pos (show nI 0 = 0 from rfl)]; exact isA_in h (by omega)
  · rfl
  · rfl
theorem thr_lt {n j t : Nat} (h : thr n j t) (hn : n ≤ 6) : pOf j t < 8 ∧ j < 6 ∧ t ≤ 2 := by
  unfold thr at h
  unfold pOf
  split <;> omega
def mx (t : Nat) : Nat := if t = 0 then 48 else if t = 1 then 12 else 6
def mb (t : Nat) (v : Int32) : Int32 := if v < 0 then nI 0 else if nI (mx t) < v then nI 0 else nI 1
def shN (f : Nat → Nat) : Nat → Nat := fun k => if k < 39 then f (k + 1) else f k
theorem cpy_sh (f : Nat → Nat) : va_cpy (nIf f) (nIf f) 1 0 39 = nIf (shN f) := by
  funext k
  by_cases h : k < 39
  · rw [pk_cpy_in (by omega) (by omega)]
    simp [nIf, shN, h, Nat.add_comm]
  · rw [pk_cpy_out (by omega)]
    simp [nIf, shN, h]
def rm1 (f : Nat → Nat) (dn x : Nat) : Nat → Nat := if dn = 40 then updN (shN f) 39 x else updN f dn x
def rmd (dn : Nat) : Nat := if dn = 40 then 40 else dn + 1
section CT4
variable {d : Nat} {X A : Nat → Nat → Int32} {L : Nat → Nat → Int64} {w : jW} {n : Nat} {v : Nat → Nat}

set_option maxHeartbeats 4000000 in
set_option maxRecDepth 100000 in
theorem c_X7_isAccount (hn : X 10 1 = nI n) (hn6 : n ≤ 6) {c : Int32} : jMet (d) yX7_isAccount cX7_isAccount 2 (some .boolean) 0 0 [.ref 10, .int c] (tw X A L) (jRi (isA n c) (tw X A L)) := by
  refine jMet_of (by decide) (Nat.le_of_ble_eq_true rfl) none (Or.inl rfl) ?_
  show jWP none RX7 cX7_isAccount 2 (some .boolean) (d) 0 0 0 [some (.ref 10), some (.int c)] [] (tw X A L) (jRi (isA n c) (tw X A L))
  refine j_iload_n dX7_isAccount_0 rfl rfl ?_
  refine j_if_lt (tgt := 16) dX7_isAccount_1 (by decide) (fun h1 => ?_) (fun h1 => ?_)
  · refine j_iconst (v := nI 0) dX7_isAccount_16 rfl ?_
    refine j_zreturn dX7_isAccount_17 rfl (by decide) ?_
    exact ⟨by simp only [isA, if_pos h1], rfl⟩
  · refine j_iload_n dX7_isAccount_4 rfl rfl ?_
    refine j_aload_n dX7_isAccount_5 rfl rfl ?_
    refine t_getI dX7_isAccount_6 jfl_X7_15 (fun _ _ _ => rfl) (fun _ => rfl) ?_
    refine j_topE (e' := nI n) hn ?_
    refine j_icmp_ge (tgt := 16) dX7_isAccount_9 (by decide) (fun h9 => ?_) (fun h9 => ?_)
    · refine j_iconst (v := nI 0) dX7_isAccount_16 rfl ?_
      refine j_zreturn dX7_isAccount_17 rfl (by decide) ?_
      exact ⟨by simp only [isA, if_neg h1, if_pos h9], rfl⟩
    · refine j_iconst (v := nI 1) dX7_isAccount_12 rfl ?_
      refine j_goto (tgt := 17) dX7_isAccount_13 (by decide) ?_
      refine j_zreturn dX7_isAccount_17 rfl (by decide) ?_
      exact ⟨by simp only [isA, if_neg h1, if_neg h9], rfl⟩

theorem c_X7_isAccount_in (hn : X 10 1 = nI n) (hn6 : n ≤ 6) {j : Nat} (h : j < n) : jMet d yX7_isAccount cX7_isAccount 2 (some .boolean) 0 0 [.ref 10, .int (nI j)] (tw X A L) (jRi (nI 1) (tw X A L)) := jMet_i (c_X7_isAccount hn hn6) (isA_in h (by omega)) rfl

set_option maxHeartbeats 4000000 in
set_option maxRecDepth 100000 in
theorem c_X7_accountCount (hn : X 10 1 = nI n) (hn6 : n ≤ 6) : jMet (d) yX7_accountCount cX7_accountCount 1 (some .int) 0 0 [.ref 10] (tw X A L) (jRi (nI n) (tw X A L)) := by
  refine jMet_of (by decide) (Nat.le_of_ble_eq_true rfl) none (Or.inl rfl) ?_
  show jWP none RX7 cX7_accountCount 1 (some .int) (d) 0 0 0 [some (.ref 10)] [] (tw X A L) (jRi (nI n) (tw X A L))
  refine j_aload_n dX7_accountCount_0 rfl rfl ?_
  refine t_getI dX7_accountCount_1 jfl_X7_15 (fun _ _ _ => rfl) (fun _ => rfl) ?_
  refine j_topE (e' := nI n) hn ?_
  refine j_ireturn dX7_accountCount_4 rfl ?_
  exact ⟨rfl, rfl⟩

set_option maxHeartbeats 4000000 in
set_option maxRecDepth 100000 in
theorem c_X7_placeOf {j t : Nat} (ht : t < 2 ^ 31) : jMet (d) yX7_placeOf cX7_placeOf 2 (some .int) 0 0 [.int (nI j), .int (nI t)] (w) (jRi (nI (pOf j t)) w) := by
  refine jMet_of (by decide) (Nat.le_of_ble_eq_true rfl) none (Or.inl rfl) ?_
  show jWP none RX7 cX7_placeOf 2 (some .int) (d) 0 0 0 [some (.int (nI j)), some (.int (nI t))] [] (w) (jRi (nI (pOf j t)) w)
  refine j_iload_n dX7_placeOf_0 rfl rfl ?_
  refine jn_if_ne (tgt := 8) dX7_placeOf_1 (by decide) (by omega) (fun h1 => ?_) (fun h1 => ?_)
  · refine j_iconst (v := nI 5) dX7_placeOf_8 rfl ?_
    refine j_iload_n dX7_placeOf_9 rfl rfl ?_
    refine jn_iadd dX7_placeOf_10 ?_
    refine j_ireturn dX7_placeOf_11 rfl ?_
    exact ⟨by rw [pOf, if_neg (by omega)], rfl⟩
  · refine j_iload_n dX7_placeOf_4 rfl rfl ?_
    refine j_goto (tgt := 11) dX7_placeOf_5 (by decide) ?_
    refine j_ireturn dX7_placeOf_11 rfl ?_
    exact ⟨by rw [pOf, if_pos h1], rfl⟩

set_option maxHeartbeats 4000000 in
set_option maxRecDepth 100000 in
theorem c_X7_addAccount (hn : X 10 1 = nI n) (hn6 : n ≤ 6) (hv : A 11 = nIf v) (h : n < 6) {c : Nat} : jMet (d) yX7_addAccount cX7_addAccount 2 (some .int) 0 0 [.ref 10, .int (nI c)] (tw X A L) (jRi (nI n) (tw (va_up X 10 (upd (X 10) 1 (nI (n + 1)))) (va_up A 11 (nIf (updN v n c))) L)) := by
  refine jMet_of (by decide) (Nat.le_of_ble_eq_true rfl) none (Or.inl rfl) ?_
  show jWP none RX7 cX7_addAccount 2 (some .int) (d) 0 0 0 [some (.ref 10), some (.int (nI c))] [] (tw X A L) (jRi (nI n) (tw (va_up X 10 (upd (X 10) 1 (nI (n + 1)))) (va_up A 11 (nIf (updN v n c))) L))
  refine j_aload_n dX7_addAccount_0 rfl rfl ?_
  refine t_getI dX7_addAccount_1 jfl_X7_15 (fun _ _ _ => rfl) (fun _ => rfl) ?_
  refine j_topE (e' := nI n) hn ?_
  refine j_bipush (v := nI 6) dX7_addAccount_4 rfl ?_
  refine jn_icmp_lt (tgt := 12) dX7_addAccount_6 (by decide) (by omega) (by omega) (fun h6 => ?_) (fun h6 => by omega)
  refine j_aload_n dX7_addAccount_12 rfl rfl ?_
  refine t_getR (b := 11) dX7_addAccount_13 jfl_X7_11 (fun _ _ _ => rfl) rfl ?_
  refine j_aload_n dX7_addAccount_16 rfl rfl ?_
  refine t_getI dX7_addAccount_17 jfl_X7_15 (fun _ _ _ => rfl) (fun _ => rfl) ?_
  refine j_topE (e' := nI n) hn ?_
  refine j_iload_n dX7_addAccount_20 rfl rfl ?_
  refine t_iastore dX7_addAccount_21 (fun _ _ _ => rfl) (by omega) (by decide) ?_
  refine j_aload_n dX7_addAccount_22 rfl rfl ?_
  refine j_dup dX7_addAccount_23 rfl ?_
  refine t_getI dX7_addAccount_24 jfl_X7_15 (fun _ _ _ => rfl) (fun _ => rfl) ?_
  refine j_topE (e' := nI n) hn ?_
  refine j_iconst (v := nI 1) dX7_addAccount_27 rfl ?_
  refine jn_iadd dX7_addAccount_28 ?_
  refine t_putI dX7_addAccount_29 jfl_X7_15 (fun _ _ _ => rfl) (fun _ _ => rfl) (Nat.le_of_ble_eq_true rfl) rfl rfl ?_
  refine j_aload_n dX7_addAccount_32 rfl rfl ?_
  refine t_getI dX7_addAccount_33 jfl_X7_15 (fun _ _ _ => rfl) (fun _ => rfl) ?_
  refine j_topE (e' := nI (n + 1)) (by rw [vu_s]; exact pk_us) ?_
  refine j_iconst (v := nI 1) dX7_addAccount_36 rfl ?_
  refine jn_isub dX7_addAccount_37 (by omega) ?_
  refine j_ireturn dX7_addAccount_38 rfl ?_
  refine ⟨rfl, ?_⟩
  rw [hv, upd_nIf]

set_option maxHeartbeats 4000000 in
set_option maxRecDepth 100000 in
theorem c_X7_addAccount_full (hn : X 10 1 = nI n) (hn6 : n ≤ 6) (h : n = 6) {c : Nat} : jMet (d) yX7_addAccount cX7_addAccount 2 (some .int) 0 0 [.ref 10, .int (nI c)] (tw X A L) (jRi (-3) (tw X A L)) := by
  refine jMet_of (by decide) (Nat.le_of_ble_eq_true rfl) none (Or.inl rfl) ?_
  show jWP none RX7 cX7_addAccount 2 (some .int) (d) 0 0 0 [some (.ref 10), some (.int (nI c))] [] (tw X A L) (jRi (-3) (tw X A L))
  refine j_aload_n dX7_addAccount_0 rfl rfl ?_
  refine t_getI dX7_addAccount_1 jfl_X7_15 (fun _ _ _ => rfl) (fun _ => rfl) ?_
  refine j_topE (e' := nI n) hn ?_
  refine j_bipush (v := nI 6) dX7_addAccount_4 rfl ?_
  refine jn_icmp_lt (tgt := 12) dX7_addAccount_6 (by decide) (by omega) (by omega) (fun h6 => by omega) (fun h6 => ?_)
  refine j_bipush (v := (-3)) dX7_addAccount_9 rfl ?_
  refine j_ireturn dX7_addAccount_11 rfl ?_
  exact ⟨rfl, rfl⟩

set_option maxHeartbeats 4000000 in
set_option maxRecDepth 100000 in
theorem c_X7_isThere (hn : X 10 1 = nI n) (hn6 : n ≤ 6) {c t : Int32} : jMet (d + 1) yX7_isThere cX7_isThere 3 (some .boolean) 0 0 [.ref 10, .int c, .int t] (tw X A L) (jRi (isT n c t) (tw X A L)) := by
  refine jMet_of (by decide) (Nat.le_of_ble_eq_true rfl) none (Or.inl rfl) ?_
  show jWP none RX7 cX7_isThere 3 (some .boolean) (d + 1) 0 0 0 [some (.ref 10), some (.int c), some (.int t)] [] (tw X A L) (jRi (isT n c t) (tw X A L))
  refine j_iload_n dX7_isThere_0 rfl rfl ?_
  refine j_if_ne (tgt := 12) dX7_isThere_1 (by decide) (fun h1 => ?_) (fun h1 => ?_)
  · refine j_iload_n dX7_isThere_12 rfl rfl ?_
    refine j_iconst (v := nI 1) dX7_isThere_13 rfl ?_
    refine j_icmp_eq (tgt := 22) dX7_isThere_14 (by decide) (fun h14 => ?_) (fun h14 => ?_)
    · refine j_iload_n dX7_isThere_22 rfl rfl ?_
      refine j_if_ne (tgt := 30) dX7_isThere_23 (by decide) (fun h23 => ?_) (fun h23 => ?_)
      · refine j_iconst (v := nI 0) dX7_isThere_30 rfl ?_
        refine j_zreturn dX7_isThere_31 rfl (by first | decide | exact isA_01 _ _) ?_
        exact ⟨by simp only [isT, if_neg h1, if_pos h14, if_neg h23], rfl⟩
      · refine j_iconst (v := nI 1) dX7_isThere_26 rfl ?_
        refine j_goto (tgt := 31) dX7_isThere_27 (by decide) ?_
        refine j_zreturn dX7_isThere_31 rfl (by first | decide | exact isA_01 _ _) ?_
        exact ⟨by simp only [isT, if_neg h1, if_pos h14, if_pos h23], rfl⟩
    · refine j_iload_n dX7_isThere_17 rfl rfl ?_
      refine j_iconst (v := nI 2) dX7_isThere_18 rfl ?_
      refine j_icmp_ne (tgt := 30) dX7_isThere_19 (by decide) (fun h19 => ?_) (fun h19 => ?_)
      · refine j_iconst (v := nI 0) dX7_isThere_30 rfl ?_
        refine j_zreturn dX7_isThere_31 rfl (by first | decide | exact isA_01 _ _) ?_
        exact ⟨by simp only [isT, if_neg h1, if_neg h14, if_neg h19], rfl⟩
      · refine j_iload_n dX7_isThere_22 rfl rfl ?_
        refine j_if_ne (tgt := 30) dX7_isThere_23 (by decide) (fun h23 => ?_) (fun h23 => ?_)
        · refine j_iconst (v := nI 0) dX7_isThere_30 rfl ?_
          refine j_zreturn dX7_isThere_31 rfl (by first | decide | exact isA_01 _ _) ?_
          exact ⟨by simp only [isT, if_neg h1, if_neg h14, if_pos h19, if_neg h23], rfl⟩
        · refine j_iconst (v := nI 1) dX7_isThere_26 rfl ?_
          refine j_goto (tgt := 31) dX7_isThere_27 (by decide) ?_
          refine j_zreturn dX7_isThere_31 rfl (by first | decide | exact isA_01 _ _) ?_
          exact ⟨by simp only [isT, if_neg h1, if_neg h14, if_pos h19, if_pos h23], rfl⟩
  · refine j_aload_n dX7_isThere_4 rfl rfl ?_
    refine j_iload_n dX7_isThere_5 rfl rfl ?_
    refine j_callVi [.int _] [] dX7_isThere_6 jlk_X7_38 rfl rfl rfl rfl (Nat.le_of_ble_eq_true rfl) (c_X7_isAccount hn hn6) ?_
    refine j_goto (tgt := 31) dX7_isThere_9 (by decide) ?_
    refine j_zreturn dX7_isThere_31 rfl (by first | decide | exact isA_01 _ _) ?_
    exact ⟨by simp only [isT, if_pos h1], rfl⟩

theorem c_X7_isThere_in (hn : X 10 1 = nI n) (hn6 : n ≤ 6) {j t : Nat} (h : thr n j t) : jMet (d + 1) yX7_isThere cX7_isThere 3 (some .boolean) 0 0 [.ref 10, .int (nI j), .int (nI t)] (tw X A L) (jRi (nI 1) (tw X A L)) := jMet_i (c_X7_isThere hn hn6) (isT_in h hn6) rfl

set_option maxHeartbeats 4000000 in
set_option maxRecDepth 100000 in
theorem c_X7_mayBe {t : Nat} (ht : t ≤ 2) {x : Int32} : jMet (d) yX7_mayBe cX7_mayBe 3 (some .boolean) 0 0 [.int (nI t), .int x] (w) (jRi (mb t x) w) := by
  refine jMet_of (by decide) (Nat.le_of_ble_eq_true rfl) none (Or.inl rfl) ?_
  show jWP none RX7 cX7_mayBe 3 (some .boolean) (d) 0 0 0 [some (.int (nI t)), some (.int x), none] [] (w) (jRi (mb t x) w)
  refine j_iload_n dX7_mayBe_0 rfl rfl ?_
  refine jn_if_ne (tgt := 9) dX7_mayBe_1 (by decide) (by omega) (fun h1 => ?_) (fun h1 => ?_)
  · have ht0 : t ≠ 0 := by omega
    refine j_iload_n dX7_mayBe_9 rfl rfl ?_
    refine j_iconst (v := nI 1) dX7_mayBe_10 rfl ?_
    refine jn_icmp_ne (tgt := 19) dX7_mayBe_11 (by decide) (by omega) (by omega) (fun h11 => ?_) (fun h11 => ?_)
    · refine j_bipush (v := nI 6) dX7_mayBe_19 rfl ?_
      refine j_istore_n (lv' := [some (.int _), some (.int _), some (.int _)]) dX7_mayBe_21 rfl (by decide) rfl ?_
      refine j_iload_n dX7_mayBe_22 rfl rfl ?_
      refine j_if_lt (tgt := 35) dX7_mayBe_23 (by decide) (fun h23 => ?_) (fun h23 => ?_)
      · refine j_iconst (v := nI 0) dX7_mayBe_35 rfl ?_
        refine j_zreturn dX7_mayBe_36 rfl (by decide) ?_
        exact ⟨by simp [mb, mx, h1, h11, h23, ht0], rfl⟩
      · refine j_iload_n dX7_mayBe_26 rfl rfl ?_
        refine j_iload_n dX7_mayBe_27 rfl rfl ?_
        refine j_icmp_gt (tgt := 35) dX7_mayBe_28 (by decide) (fun h28 => ?_) (fun h28 => ?_)
        · refine j_iconst (v := nI 0) dX7_mayBe_35 rfl ?_
          refine j_zreturn dX7_mayBe_36 rfl (by decide) ?_
          exact ⟨by simp [mb, mx, h1, h11, h23, h28, ht0], rfl⟩
        · refine j_iconst (v := nI 1) dX7_mayBe_31 rfl ?_
          refine j_goto (tgt := 36) dX7_mayBe_32 (by decide) ?_
          refine j_zreturn dX7_mayBe_36 rfl (by decide) ?_
          exact ⟨by simp [mb, mx, h1, h11, h23, h28, ht0], rfl⟩
    · refine j_bipush (v := nI 12) dX7_mayBe_14 rfl ?_
      refine j_goto (tgt := 21) dX7_mayBe_16 (by decide) ?_
      refine j_istore_n (lv' := [some (.int _), some (.int _), some (.int _)]) dX7_mayBe_21 rfl (by decide) rfl ?_
      refine j_iload_n dX7_mayBe_22 rfl rfl ?_
      refine j_if_lt (tgt := 35) dX7_mayBe_23 (by decide) (fun h23 => ?_) (fun h23 => ?_)
      · refine j_iconst (v := nI 0) dX7_mayBe_35 rfl ?_
        refine j_zreturn dX7_mayBe_36 rfl (by decide) ?_
        exact ⟨by simp [mb, mx, h1, h11, h23, ht0], rfl⟩
      · refine j_iload_n dX7_mayBe_26 rfl rfl ?_
        refine j_iload_n dX7_mayBe_27 rfl rfl ?_
        refine j_icmp_gt (tgt := 35) dX7_mayBe_28 (by decide) (fun h28 => ?_) (fun h28 => ?_)
        · refine j_iconst (v := nI 0) dX7_mayBe_35 rfl ?_
          refine j_zreturn dX7_mayBe_36 rfl (by decide) ?_
          exact ⟨by simp [mb, mx, h1, h11, h23, h28, ht0], rfl⟩
        · refine j_iconst (v := nI 1) dX7_mayBe_31 rfl ?_
          refine j_goto (tgt := 36) dX7_mayBe_32 (by decide) ?_
          refine j_zreturn dX7_mayBe_36 rfl (by decide) ?_
          exact ⟨by simp [mb, mx, h1, h11, h23, h28, ht0], rfl⟩
  · refine j_bipush (v := nI 48) dX7_mayBe_4 rfl ?_
    refine j_goto (tgt := 21) dX7_mayBe_6 (by decide) ?_
    refine j_istore_n (lv' := [some (.int _), some (.int _), some (.int _)]) dX7_mayBe_21 rfl (by decide) rfl ?_
    refine j_iload_n dX7_mayBe_22 rfl rfl ?_
    refine j_if_lt (tgt := 35) dX7_mayBe_23 (by decide) (fun h23 => ?_) (fun h23 => ?_)
    · refine j_iconst (v := nI 0) dX7_mayBe_35 rfl ?_
      refine j_zreturn dX7_mayBe_36 rfl (by decide) ?_
      exact ⟨by simp [mb, mx, h1, h23], rfl⟩
    · refine j_iload_n dX7_mayBe_26 rfl rfl ?_
      refine j_iload_n dX7_mayBe_27 rfl rfl ?_
      refine j_icmp_gt (tgt := 35) dX7_mayBe_28 (by decide) (fun h28 => ?_) (fun h28 => ?_)
      · refine j_iconst (v := nI 0) dX7_mayBe_35 rfl ?_
        refine j_zreturn dX7_mayBe_36 rfl (by decide) ?_
        exact ⟨by simp [mb, mx, h1, h23, h28], rfl⟩
      · refine j_iconst (v := nI 1) dX7_mayBe_31 rfl ?_
        refine j_goto (tgt := 36) dX7_mayBe_32 (by decide) ?_
        refine j_zreturn dX7_mayBe_36 rfl (by decide) ?_
        exact ⟨by simp [mb, mx, h1, h23, h28], rfl⟩

set_option maxHeartbeats 4000000 in
set_option maxRecDepth 100000 in
theorem c_X7_valueOf (hn : X 10 1 = nI n) (hn6 : n ≤ 6) (hv : A 11 = nIf v) {j t : Nat} (h : thr n j t) : jMet (d + 2) yX7_valueOf cX7_valueOf 3 (some .int) 0 0 [.ref 10, .int (nI j), .int (nI t)] (tw X A L) (jRi (nI (v (pOf j t))) (tw X A L)) := by
  refine jMet_of (by decide) (Nat.le_of_ble_eq_true rfl) none (Or.inl rfl) ?_
  show jWP none RX7 cX7_valueOf 3 (some .int) (d + 2) 0 0 0 [some (.ref 10), some (.int (nI j)), some (.int (nI t))] [] (tw X A L) (jRi (nI (v (pOf j t))) (tw X A L))
  have hl := thr_lt h hn6
  refine j_aload_n dX7_valueOf_0 rfl rfl ?_
  refine j_iload_n dX7_valueOf_1 rfl rfl ?_
  refine j_iload_n dX7_valueOf_2 rfl rfl ?_
  refine j_callVi [.int _, .int _] [] dX7_valueOf_3 jlk_X7_42 rfl rfl rfl rfl (Nat.le_of_ble_eq_true rfl) (c_X7_isThere_in hn hn6 h) ?_
  refine j_if_eq (tgt := 22) dX7_valueOf_6 (by decide) (fun h => absurd h (by decide)) (fun _ => ?_)
  refine j_aload_n dX7_valueOf_9 rfl rfl ?_
  refine t_getR (b := 11) dX7_valueOf_10 jfl_X7_11 (fun _ _ _ => rfl) rfl ?_
  refine j_iload_n dX7_valueOf_13 rfl rfl ?_
  refine j_iload_n dX7_valueOf_14 rfl rfl ?_
  refine j_callSi [.int _, .int _] [.ref 11] dX7_valueOf_15 jlk_X7_34 rfl rfl (Nat.le_of_ble_eq_true rfl) (c_X7_placeOf (by omega)) ?_
  refine t_iaload dX7_valueOf_18 (fun _ _ _ => rfl) (by omega) (by decide) ?_
  refine j_goto (tgt := 23) dX7_valueOf_19 (by decide) ?_
  refine j_ireturn dX7_valueOf_23 rfl ?_
  exact ⟨by rw [hv]; rfl, rfl⟩

set_option maxHeartbeats 4000000 in
set_option maxRecDepth 100000 in
theorem c_X7_guards (hn : X 10 1 = nI n) (hn6 : n ≤ 6) (hv : A 11 = nIf v) : jMet (d + 3) yX7_guards cX7_guards 1 (some .int) 0 0 [.ref 10] (tw X A L) (jRi (nI (v 6)) (tw X A L)) := by
  refine jMet_of (by decide) (Nat.le_of_ble_eq_true rfl) none (Or.inl rfl) ?_
  show jWP none RX7 cX7_guards 1 (some .int) (d + 3) 0 0 0 [some (.ref 10)] [] (tw X A L) (jRi (nI (v 6)) (tw X A L))
  refine j_aload_n dX7_guards_0 rfl rfl ?_
  refine j_iconst (v := nI 0) dX7_guards_1 rfl ?_
  refine j_iconst (v := nI 1) dX7_guards_2 rfl ?_
  refine j_callVi [.int _, .int _] [] dX7_guards_3 jlk_X7_46 rfl rfl rfl rfl (Nat.le_of_ble_eq_true rfl) (c_X7_valueOf hn hn6 hv (Or.inr ⟨Or.inl rfl, rfl⟩)) ?_
  refine j_ireturn dX7_guards_6 rfl ?_
  exact ⟨rfl, rfl⟩

set_option maxHeartbeats 4000000 in
set_option maxRecDepth 100000 in
theorem c_X7_flip (hn : X 10 1 = nI n) (hn6 : n ≤ 6) (hv : A 11 = nIf v) : jMet (d + 3) yX7_flip cX7_flip 1 (some .int) 0 0 [.ref 10] (tw X A L) (jRi (nI (v 7)) (tw X A L)) := by
  refine jMet_of (by decide) (Nat.le_of_ble_eq_true rfl) none (Or.inl rfl) ?_
  show jWP none RX7 cX7_flip 1 (some .int) (d + 3) 0 0 0 [some (.ref 10)] [] (tw X A L) (jRi (nI (v 7)) (tw X A L))
  refine j_aload_n dX7_flip_0 rfl rfl ?_
  refine j_iconst (v := nI 0) dX7_flip_1 rfl ?_
  refine j_iconst (v := nI 2) dX7_flip_2 rfl ?_
  refine j_callVi [.int _, .int _] [] dX7_flip_3 jlk_X7_46 rfl rfl rfl rfl (Nat.le_of_ble_eq_true rfl) (c_X7_valueOf hn hn6 hv (Or.inr ⟨Or.inr rfl, rfl⟩)) ?_
  refine j_ireturn dX7_flip_6 rfl ?_
  exact ⟨rfl, rfl⟩

set_option maxHeartbeats 4000000 in
set_option maxRecDepth 100000 in
theorem c_X7_doorOf (hn : X 10 1 = nI n) (hn6 : n ≤ 6) (hv : A 11 = nIf v) {j : Nat} (h : j < n) : jMet (d + 1) yX7_doorOf cX7_doorOf 2 (some .int) 0 0 [.ref 10, .int (nI j)] (tw X A L) (jRi (nI (v j)) (tw X A L)) := by
  refine jMet_of (by decide) (Nat.le_of_ble_eq_true rfl) none (Or.inl rfl) ?_
  show jWP none RX7 cX7_doorOf 2 (some .int) (d + 1) 0 0 0 [some (.ref 10), some (.int (nI j))] [] (tw X A L) (jRi (nI (v j)) (tw X A L))
  refine j_aload_n dX7_doorOf_0 rfl rfl ?_
  refine j_iload_n dX7_doorOf_1 rfl rfl ?_
  refine j_callVi [.int _] [] dX7_doorOf_2 jlk_X7_38 rfl rfl rfl rfl (Nat.le_of_ble_eq_true rfl) (c_X7_isAccount_in hn hn6 h) ?_
  refine j_if_eq (tgt := 17) dX7_doorOf_5 (by decide) (fun h => absurd h (by decide)) (fun _ => ?_)
  refine j_aload_n dX7_doorOf_8 rfl rfl ?_
  refine t_getR (b := 11) dX7_doorOf_9 jfl_X7_11 (fun _ _ _ => rfl) rfl ?_
  refine j_iload_n dX7_doorOf_12 rfl rfl ?_
  refine t_iaload dX7_doorOf_13 (fun _ _ _ => rfl) (by omega) (by decide) ?_
  refine j_goto (tgt := 19) dX7_doorOf_14 (by decide) ?_
  refine j_ireturn dX7_doorOf_19 rfl ?_
  exact ⟨by rw [hv]; rfl, rfl⟩

set_option maxHeartbeats 4000000 in
set_option maxRecDepth 100000 in
theorem c_X7_remember  {dn : Nat} {pl bf af : Nat → Nat} (hd : X 10 5 = nI dn) (hd40 : dn ≤ 40) (h12 : A 12 = nIf pl) (h13 : A 13 = nIf bf) (h14 : A 14 = nIf af) {p b a : Nat} (hp : p < 2 ^ 31) : jMet (d + 1) yX7_remember cX7_remember 4 none 0 0 [.ref 10, .int (nI p), .int (nI b), .int (nI a)] (tw X A L) (jRv (tw (va_up X 10 (upd (upd (X 10) 5 (nI (rmd dn))) 6 (nI (rmd dn)))) (va_up (va_up (va_up A 12 (nIf (rm1 pl dn p))) 13 (nIf (rm1 bf dn b))) 14 (nIf (rm1 af dn a))) L)) := by
  refine jMet_of (by decide) (Nat.le_of_ble_eq_true rfl) none (Or.inl rfl) ?_
  show jWP none RX7 cX7_remember 4 none (d + 1) 0 0 0 [some (.ref 10), some (.int (nI p)), some (.int (nI b)), some (.int (nI a))] [] (tw X A L) (jRv (tw (va_up X 10 (upd (upd (X 10) 5 (nI (rmd dn))) 6 (nI (rmd dn)))) (va_up (va_up (va_up A 12 (nIf (rm1 pl dn p))) 13 (nIf (rm1 bf dn b))) 14 (nIf (rm1 af dn a))) L))
  refine j_aload_n dX7_remember_0 rfl rfl ?_
  refine t_getI dX7_remember_1 jfl_X7_28 (fun _ _ _ => rfl) (fun _ => rfl) ?_
  refine j_topE (e' := nI dn) hd ?_
  refine j_bipush (v := nI 40) dX7_remember_4 rfl ?_
  refine jn_icmp_lt (tgt := 60) dX7_remember_6 (by decide) (by omega) (by omega) (fun h6 => ?_) (fun h6 => ?_)
  · refine j_aload_n dX7_remember_60 rfl rfl ?_
    refine t_getR (b := 12) dX7_remember_61 jfl_X7_19 (fun _ _ _ => rfl) rfl ?_
    refine j_aload_n dX7_remember_64 rfl rfl ?_
    refine t_getI dX7_remember_65 jfl_X7_28 (fun _ _ _ => rfl) (fun _ => rfl) ?_
    refine j_topE (e' := nI dn) hd ?_
    refine j_iload_n dX7_remember_68 rfl rfl ?_
    refine t_iastore dX7_remember_69 (fun _ _ _ => rfl) (by omega) (by decide) ?_
    refine j_aload_n dX7_remember_70 rfl rfl ?_
    refine t_getR (b := 13) dX7_remember_71 jfl_X7_22 (fun _ _ _ => rfl) rfl ?_
    refine j_aload_n dX7_remember_74 rfl rfl ?_
    refine t_getI dX7_remember_75 jfl_X7_28 (fun _ _ _ => rfl) (fun _ => rfl) ?_
    refine j_topE (e' := nI dn) hd ?_
    refine j_iload_n dX7_remember_78 rfl rfl ?_
    refine t_iastore dX7_remember_79 (fun _ _ _ => rfl) (by omega) (by decide) ?_
    refine j_aload_n dX7_remember_80 rfl rfl ?_
    refine t_getR (b := 14) dX7_remember_81 jfl_X7_25 (fun _ _ _ => rfl) rfl ?_
    refine j_aload_n dX7_remember_84 rfl rfl ?_
    refine t_getI dX7_remember_85 jfl_X7_28 (fun _ _ _ => rfl) (fun _ => rfl) ?_
    refine j_topE (e' := nI dn) hd ?_
    refine j_iload_n dX7_remember_88 rfl rfl ?_
    refine t_iastore dX7_remember_89 (fun _ _ _ => rfl) (by omega) (by decide) ?_
    refine j_aload_n dX7_remember_90 rfl rfl ?_
    refine j_dup dX7_remember_91 rfl ?_
    refine t_getI dX7_remember_92 jfl_X7_28 (fun _ _ _ => rfl) (fun _ => rfl) ?_
    refine j_topE (e' := nI dn) hd ?_
    refine j_iconst (v := nI 1) dX7_remember_95 rfl ?_
    refine jn_iadd dX7_remember_96 ?_
    refine t_putI dX7_remember_97 jfl_X7_28 (fun _ _ _ => rfl) (fun _ _ => rfl) (Nat.le_of_ble_eq_true rfl) rfl rfl ?_
    refine j_aload_n dX7_remember_100 rfl rfl ?_
    refine j_aload_n dX7_remember_101 rfl rfl ?_
    refine t_getI dX7_remember_102 jfl_X7_28 (fun _ _ _ => rfl) (fun _ => rfl) ?_
    refine j_topE (e' := nI (dn + 1)) (by rw [vu_s]; exact pk_us) ?_
    refine t_putI dX7_remember_105 jfl_X7_31 (fun _ _ _ => rfl) (fun _ _ => rfl) (Nat.le_of_ble_eq_true rfl) rfl rfl ?_
    refine j_return dX7_remember_108 rfl ?_
    refine ⟨rfl, tw_eq ?_ ?_ rfl⟩
    · rw [rmd, if_neg (by omega)]; simp only [vu_s, vu_up]
    · simp only [rm1, if_neg (show ¬ dn = 40 by omega), ← upd_nIf, ← h12, ← h13, ← h14]
      rfl
  · refine j_aload_n dX7_remember_9 rfl rfl ?_
    refine t_getR (b := 12) dX7_remember_10 jfl_X7_19 (fun _ _ _ => rfl) rfl ?_
    refine j_iconst (v := nI 1) dX7_remember_13 rfl ?_
    refine j_aload_n dX7_remember_14 rfl rfl ?_
    refine t_getR (b := 12) dX7_remember_15 jfl_X7_19 (fun _ _ _ => rfl) rfl ?_
    refine j_iconst (v := nI 0) dX7_remember_18 rfl ?_
    refine j_bipush (v := nI 39) dX7_remember_19 rfl ?_
    refine t_copyi dX7_remember_21 jlc_X7_53 (fun _ _ _ => rfl) (fun _ _ _ => rfl) (by omega) (by omega) (by decide) (by decide) (Nat.le_of_ble_eq_true rfl) ?_
    refine j_aload_n dX7_remember_24 rfl rfl ?_
    refine t_getR (b := 13) dX7_remember_25 jfl_X7_22 (fun _ _ _ => rfl) rfl ?_
    refine j_iconst (v := nI 1) dX7_remember_28 rfl ?_
    refine j_aload_n dX7_remember_29 rfl rfl ?_
    refine t_getR (b := 13) dX7_remember_30 jfl_X7_22 (fun _ _ _ => rfl) rfl ?_
    refine j_iconst (v := nI 0) dX7_remember_33 rfl ?_
    refine j_bipush (v := nI 39) dX7_remember_34 rfl ?_
    refine t_copyi dX7_remember_36 jlc_X7_53 (fun _ _ _ => rfl) (fun _ _ _ => rfl) (by omega) (by omega) (by decide) (by decide) (Nat.le_of_ble_eq_true rfl) ?_
    refine j_aload_n dX7_remember_39 rfl rfl ?_
    refine t_getR (b := 14) dX7_remember_40 jfl_X7_25 (fun _ _ _ => rfl) rfl ?_
    refine j_iconst (v := nI 1) dX7_remember_43 rfl ?_
    refine j_aload_n dX7_remember_44 rfl rfl ?_
    refine t_getR (b := 14) dX7_remember_45 jfl_X7_25 (fun _ _ _ => rfl) rfl ?_
    refine j_iconst (v := nI 0) dX7_remember_48 rfl ?_
    refine j_bipush (v := nI 39) dX7_remember_49 rfl ?_
    refine t_copyi dX7_remember_51 jlc_X7_53 (fun _ _ _ => rfl) (fun _ _ _ => rfl) (by omega) (by omega) (by decide) (by decide) (Nat.le_of_ble_eq_true rfl) ?_
    refine j_aload_n dX7_remember_54 rfl rfl ?_
    refine j_bipush (v := nI 39) dX7_remember_55 rfl ?_
    refine t_putI dX7_remember_57 jfl_X7_28 (fun _ _ _ => rfl) (fun _ _ => rfl) (Nat.le_of_ble_eq_true rfl) rfl rfl ?_
    refine j_aload_n dX7_remember_60 rfl rfl ?_
    refine t_getR (b := 12) dX7_remember_61 jfl_X7_19 (fun _ _ _ => rfl) rfl ?_
    refine j_aload_n dX7_remember_64 rfl rfl ?_
    refine t_getI dX7_remember_65 jfl_X7_28 (fun _ _ _ => rfl) (fun _ => rfl) ?_
    refine j_topE (e' := nI 39) (by rw [vu_s]; exact pk_us) ?_
    refine j_iload_n dX7_remember_68 rfl rfl ?_
    refine t_iastore dX7_remember_69 (fun _ _ _ => rfl) (by omega) (by decide) ?_
    refine j_aload_n dX7_remember_70 rfl rfl ?_
    refine t_getR (b := 13) dX7_remember_71 jfl_X7_22 (fun _ _ _ => rfl) rfl ?_
    refine j_aload_n dX7_remember_74 rfl rfl ?_
    refine t_getI dX7_remember_75 jfl_X7_28 (fun _ _ _ => rfl) (fun _ => rfl) ?_
    refine j_topE (e' := nI 39) (by rw [vu_s]; exact pk_us) ?_
    refine j_iload_n dX7_remember_78 rfl rfl ?_
    refine t_iastore dX7_remember_79 (fun _ _ _ => rfl) (by omega) (by decide) ?_
    refine j_aload_n dX7_remember_80 rfl rfl ?_
    refine t_getR (b := 14) dX7_remember_81 jfl_X7_25 (fun _ _ _ => rfl) rfl ?_
    refine j_aload_n dX7_remember_84 rfl rfl ?_
    refine t_getI dX7_remember_85 jfl_X7_28 (fun _ _ _ => rfl) (fun _ => rfl) ?_
    refine j_topE (e' := nI 39) (by rw [vu_s]; exact pk_us) ?_
    refine j_iload_n dX7_remember_88 rfl rfl ?_
    refine t_iastore dX7_remember_89 (fun _ _ _ => rfl) (by omega) (by decide) ?_
    refine j_aload_n dX7_remember_90 rfl rfl ?_
    refine j_dup dX7_remember_91 rfl ?_
    refine t_getI dX7_remember_92 jfl_X7_28 (fun _ _ _ => rfl) (fun _ => rfl) ?_
    refine j_topE (e' := nI 39) (by rw [vu_s]; exact pk_us) ?_
    refine j_iconst (v := nI 1) dX7_remember_95 rfl ?_
    refine jn_iadd dX7_remember_96 ?_
    refine t_putI dX7_remember_97 jfl_X7_28 (fun _ _ _ => rfl) (fun _ _ => rfl) (Nat.le_of_ble_eq_true rfl) rfl rfl ?_
    refine j_aload_n dX7_remember_100 rfl rfl ?_
    refine j_aload_n dX7_remember_101 rfl rfl ?_
    refine t_getI dX7_remember_102 jfl_X7_28 (fun _ _ _ => rfl) (fun _ => rfl) ?_
    refine j_topE (e' := nI (39 + 1)) (by rw [vu_s]; exact pk_us) ?_
    refine t_putI dX7_remember_105 jfl_X7_31 (fun _ _ _ => rfl) (fun _ _ => rfl) (Nat.le_of_ble_eq_true rfl) rfl rfl ?_
    refine j_return dX7_remember_108 rfl ?_
    have e40 : dn = 40 := by omega
    refine ⟨rfl, tw_eq ?_ ?_ rfl⟩
    · rw [rmd, if_pos e40]; simp only [vu_s, vu_up, ud_ud]
    · simp only [rm1, if_pos e40, ← upd_nIf, ← cpy_sh, ← h12, ← h13, ← h14]
      funext c
      by_cases q1 : c = 12
      · subst q1; simp [va_up]
      · by_cases q2 : c = 13
        · subst q2; simp [va_up]
        · by_cases q3 : c = 14
          · subst q3; simp [va_up]
          · simp [va_up, q1, q2, q3]

set_option maxHeartbeats 4000000 in
set_option maxRecDepth 100000 in
theorem c_X7_change_same (hn : X 10 1 = nI n) (hn6 : n ≤ 6) (hv : A 11 = nIf v) {j t : Nat} (h : thr n j t) (hb : v (pOf j t) < 2 ^ 31) : jMet (d + 3) yX7_change cX7_change 5 (some .int) 0 0 [.ref 10, .int (nI j), .int (nI t), .int (nI (v (pOf j t)))] (tw X A L) (jRi (nI (v (pOf j t))) (tw X A L)) := by
  refine jMet_of (by decide) (Nat.le_of_ble_eq_true rfl) none (Or.inl rfl) ?_
  show jWP none RX7 cX7_change 5 (some .int) (d + 3) 0 0 0 [some (.ref 10), some (.int (nI j)), some (.int (nI t)), some (.int (nI (v (pOf j t)))), none] [] (tw X A L) (jRi (nI (v (pOf j t))) (tw X A L))
  have hl := thr_lt h hn6
  refine j_aload_n dX7_change_0 rfl rfl ?_
  refine j_iload_n dX7_change_1 rfl rfl ?_
  refine j_iload_n dX7_change_2 rfl rfl ?_
  refine j_callVi [.int _, .int _] [] dX7_change_3 jlk_X7_46 rfl rfl rfl rfl (Nat.le_of_ble_eq_true rfl) (c_X7_valueOf hn hn6 hv h) ?_
  refine j_istore (lv' := [some (.ref 10), some (.int _), some (.int _), some (.int _), some (.int _)]) dX7_change_6 (by decide) rfl ?_
  refine j_aload_n dX7_change_8 rfl rfl ?_
  refine j_iload_n dX7_change_9 rfl rfl ?_
  refine j_iload_n dX7_change_10 rfl rfl ?_
  refine j_callVi [.int _, .int _] [] dX7_change_11 jlk_X7_42 rfl rfl rfl rfl (Nat.le_of_ble_eq_true rfl) (c_X7_isThere_in hn hn6 h) ?_
  refine j_if_eq (tgt := 46) dX7_change_14 (by decide) (fun h => absurd h (by decide)) (fun _ => ?_)
  refine j_iload dX7_change_17 rfl ?_
  refine j_iload_n dX7_change_19 rfl rfl ?_
  refine jn_icmp_eq (tgt := 46) dX7_change_20 (by decide) (by omega) (by omega) (fun h20 => ?_) (fun h20 => absurd rfl h20)
  refine j_iload dX7_change_46 rfl ?_
  refine j_ireturn dX7_change_48 rfl ?_
  exact ⟨rfl, rfl⟩

set_option maxHeartbeats 4000000 in
set_option maxRecDepth 100000 in
theorem c_X7_change (hn : X 10 1 = nI n) (hn6 : n ≤ 6) (hv : A 11 = nIf v) {dn : Nat} {pl bf af : Nat → Nat} (hd : X 10 5 = nI dn) (hd40 : dn ≤ 40) (h12 : A 12 = nIf pl) (h13 : A 13 = nIf bf) (h14 : A 14 = nIf af) {j t x : Nat} (h : thr n j t) (hb : v (pOf j t) < 2 ^ 31) (hx : x < 2 ^ 31) (hne : v (pOf j t) ≠ x) : jMet (d + 3) yX7_change cX7_change 5 (some .int) 0 0 [.ref 10, .int (nI j), .int (nI t), .int (nI x)] (tw X A L) (jRi (nI (v (pOf j t))) (tw (va_up X 10 (upd (upd (X 10) 5 (nI (rmd dn))) 6 (nI (rmd dn)))) (va_up (va_up (va_up (va_up A 12 (nIf (rm1 pl dn (pOf j t)))) 13 (nIf (rm1 bf dn (v (pOf j t))))) 14 (nIf (rm1 af dn x))) 11 (nIf (updN v (pOf j t) x))) L)) := by
  refine jMet_of (by decide) (Nat.le_of_ble_eq_true rfl) none (Or.inl rfl) ?_
  show jWP none RX7 cX7_change 5 (some .int) (d + 3) 0 0 0 [some (.ref 10), some (.int (nI j)), some (.int (nI t)), some (.int (nI x)), none] [] (tw X A L) (jRi (nI (v (pOf j t))) (tw (va_up X 10 (upd (upd (X 10) 5 (nI (rmd dn))) 6 (nI (rmd dn)))) (va_up (va_up (va_up (va_up A 12 (nIf (rm1 pl dn (pOf j t)))) 13 (nIf (rm1 bf dn (v (pOf j t))))) 14 (nIf (rm1 af dn x))) 11 (nIf (updN v (pOf j t) x))) L))
  have hl := thr_lt h hn6
  refine j_aload_n dX7_change_0 rfl rfl ?_
  refine j_iload_n dX7_change_1 rfl rfl ?_
  refine j_iload_n dX7_change_2 rfl rfl ?_
  refine j_callVi [.int _, .int _] [] dX7_change_3 jlk_X7_46 rfl rfl rfl rfl (Nat.le_of_ble_eq_true rfl) (c_X7_valueOf hn hn6 hv h) ?_
  refine j_istore (lv' := [some (.ref 10), some (.int _), some (.int _), some (.int _), some (.int _)]) dX7_change_6 (by decide) rfl ?_
  refine j_aload_n dX7_change_8 rfl rfl ?_
  refine j_iload_n dX7_change_9 rfl rfl ?_
  refine j_iload_n dX7_change_10 rfl rfl ?_
  refine j_callVi [.int _, .int _] [] dX7_change_11 jlk_X7_42 rfl rfl rfl rfl (Nat.le_of_ble_eq_true rfl) (c_X7_isThere_in hn hn6 h) ?_
  refine j_if_eq (tgt := 46) dX7_change_14 (by decide) (fun h => absurd h (by decide)) (fun _ => ?_)
  refine j_iload dX7_change_17 rfl ?_
  refine j_iload_n dX7_change_19 rfl rfl ?_
  refine jn_icmp_eq (tgt := 46) dX7_change_20 (by decide) (by omega) (by omega) (fun h20 => absurd h20 hne) (fun h20 => ?_)
  refine j_aload_n dX7_change_23 rfl rfl ?_
  refine j_iload_n dX7_change_24 rfl rfl ?_
  refine j_iload_n dX7_change_25 rfl rfl ?_
  refine j_callSi [.int _, .int _] [.ref 10] dX7_change_26 jlk_X7_34 rfl rfl (Nat.le_of_ble_eq_true rfl) (c_X7_placeOf (by omega)) ?_
  refine j_iload dX7_change_29 rfl ?_
  refine j_iload_n dX7_change_31 rfl rfl ?_
  refine j_callVv [.int _, .int _, .int _] [] dX7_change_32 jlk_X7_49 rfl rfl rfl rfl (Nat.le_of_ble_eq_true rfl) (c_X7_remember hd hd40 h12 h13 h14 (by omega)) ?_
  refine j_aload_n dX7_change_35 rfl rfl ?_
  refine t_getR (b := 11) dX7_change_36 jfl_X7_11 (fun _ _ _ => rfl) rfl ?_
  refine j_iload_n dX7_change_39 rfl rfl ?_
  refine j_iload_n dX7_change_40 rfl rfl ?_
  refine j_callSi [.int _, .int _] [.ref 11] dX7_change_41 jlk_X7_34 rfl rfl (Nat.le_of_ble_eq_true rfl) (c_X7_placeOf (by omega)) ?_
  refine j_iload_n dX7_change_44 rfl rfl ?_
  refine t_iastore dX7_change_45 (fun _ _ _ => rfl) (by omega) (by decide) ?_
  refine j_iload dX7_change_46 rfl ?_
  refine j_ireturn dX7_change_48 rfl ?_
  refine ⟨rfl, tw_eq rfl ?_ rfl⟩
  rw [vu_n _ _ _ (show 11 ≠ 14 by decide), vu_n _ _ _ (show 11 ≠ 13 by decide), vu_n _ _ _ (show 11 ≠ 12 by decide), hv, upd_nIf]

set_option maxHeartbeats 4000000 in
set_option maxRecDepth 100000 in
theorem c_X7_undoable {dn : Nat} (hd : X 10 5 = nI dn) : jMet (d) yX7_undoable cX7_undoable 1 (some .int) 0 0 [.ref 10] (tw X A L) (jRi (nI dn) (tw X A L)) := by
  refine jMet_of (by decide) (Nat.le_of_ble_eq_true rfl) none (Or.inl rfl) ?_
  show jWP none RX7 cX7_undoable 1 (some .int) (d) 0 0 0 [some (.ref 10)] [] (tw X A L) (jRi (nI dn) (tw X A L))
  refine j_aload_n dX7_undoable_0 rfl rfl ?_
  refine t_getI dX7_undoable_1 jfl_X7_28 (fun _ _ _ => rfl) (fun _ => rfl) ?_
  refine j_topE (e' := nI dn) hd ?_
  refine j_ireturn dX7_undoable_4 rfl ?_
  exact ⟨rfl, rfl⟩

set_option maxHeartbeats 4000000 in
set_option maxRecDepth 100000 in
theorem c_X7_takeBack_no (hd : X 10 5 = nI 0) : jMet (d) yX7_takeBack cX7_takeBack 1 (some .int) 0 0 [.ref 10] (tw X A L) (jRi (-5) (tw X A L)) := by
  refine jMet_of (by decide) (Nat.le_of_ble_eq_true rfl) none (Or.inl rfl) ?_
  show jWP none RX7 cX7_takeBack 1 (some .int) (d) 0 0 0 [some (.ref 10)] [] (tw X A L) (jRi (-5) (tw X A L))
  refine j_aload_n dX7_takeBack_0 rfl rfl ?_
  refine t_getI dX7_takeBack_1 jfl_X7_28 (fun _ _ _ => rfl) (fun _ => rfl) ?_
  refine j_topE (e' := nI 0) hd ?_
  refine jn_if_gt (tgt := 10) dX7_takeBack_4 (by decide) (by omega) (fun h4 => by omega) (fun h4 => ?_)
  refine j_bipush (v := (-5)) dX7_takeBack_7 rfl ?_
  refine j_ireturn dX7_takeBack_9 rfl ?_
  exact ⟨rfl, rfl⟩

set_option maxHeartbeats 4000000 in
set_option maxRecDepth 100000 in
theorem c_X7_takeBack (hv : A 11 = nIf v) {dn : Nat} {pl bf af : Nat → Nat} (hd : X 10 5 = nI dn) (hd40 : dn ≤ 40) (h12 : A 12 = nIf pl) (h13 : A 13 = nIf bf) (h14 : A 14 = nIf af) (h0 : 0 < dn) (hp : pl (dn - 1) < 8) : jMet (d) yX7_takeBack cX7_takeBack 1 (some .int) 0 0 [.ref 10] (tw X A L) (jRi (nI (dn - 1)) (tw (va_up X 10 (upd (X 10) 5 (nI (dn - 1)))) (va_up A 11 (nIf (updN v (pl (dn - 1)) (bf (dn - 1))))) L)) := by
  refine jMet_of (by decide) (Nat.le_of_ble_eq_true rfl) none (Or.inl rfl) ?_
  show jWP none RX7 cX7_takeBack 1 (some .int) (d) 0 0 0 [some (.ref 10)] [] (tw X A L) (jRi (nI (dn - 1)) (tw (va_up X 10 (upd (X 10) 5 (nI (dn - 1)))) (va_up A 11 (nIf (updN v (pl (dn - 1)) (bf (dn - 1))))) L))
  refine j_aload_n dX7_takeBack_0 rfl rfl ?_
  refine t_getI dX7_takeBack_1 jfl_X7_28 (fun _ _ _ => rfl) (fun _ => rfl) ?_
  refine j_topE (e' := nI dn) hd ?_
  refine jn_if_gt (tgt := 10) dX7_takeBack_4 (by decide) (by omega) (fun h4 => ?_) (fun h4 => by omega)
  refine j_aload_n dX7_takeBack_10 rfl rfl ?_
  refine j_dup dX7_takeBack_11 rfl ?_
  refine t_getI dX7_takeBack_12 jfl_X7_28 (fun _ _ _ => rfl) (fun _ => rfl) ?_
  refine j_topE (e' := nI dn) hd ?_
  refine j_iconst (v := nI 1) dX7_takeBack_15 rfl ?_
  refine jn_isub dX7_takeBack_16 (by omega) ?_
  refine t_putI dX7_takeBack_17 jfl_X7_28 (fun _ _ _ => rfl) (fun _ _ => rfl) (Nat.le_of_ble_eq_true rfl) rfl rfl ?_
  refine j_aload_n dX7_takeBack_20 rfl rfl ?_
  refine t_getR (b := 11) dX7_takeBack_21 jfl_X7_11 (fun _ _ _ => rfl) rfl ?_
  refine j_aload_n dX7_takeBack_24 rfl rfl ?_
  refine t_getR (b := 12) dX7_takeBack_25 jfl_X7_19 (fun _ _ _ => rfl) rfl ?_
  refine j_aload_n dX7_takeBack_28 rfl rfl ?_
  refine t_getI dX7_takeBack_29 jfl_X7_28 (fun _ _ _ => rfl) (fun _ => rfl) ?_
  refine j_topE (e' := nI (dn - 1)) (by rw [vu_s]; exact pk_us) ?_
  refine t_iaload dX7_takeBack_32 (fun _ _ _ => rfl) (by omega) (by decide) ?_
  refine j_topE (e' := nI (pl (dn - 1))) (by rw [h12]; rfl) ?_
  refine j_aload_n dX7_takeBack_33 rfl rfl ?_
  refine t_getR (b := 13) dX7_takeBack_34 jfl_X7_22 (fun _ _ _ => rfl) rfl ?_
  refine j_aload_n dX7_takeBack_37 rfl rfl ?_
  refine t_getI dX7_takeBack_38 jfl_X7_28 (fun _ _ _ => rfl) (fun _ => rfl) ?_
  refine j_topE (e' := nI (dn - 1)) (by rw [vu_s]; exact pk_us) ?_
  refine t_iaload dX7_takeBack_41 (fun _ _ _ => rfl) (by omega) (by decide) ?_
  refine j_topE (e' := nI (bf (dn - 1))) (by rw [h13]; rfl) ?_
  refine t_iastore dX7_takeBack_42 (fun _ _ _ => rfl) (by omega) (by decide) ?_
  refine j_aload_n dX7_takeBack_43 rfl rfl ?_
  refine t_getI dX7_takeBack_44 jfl_X7_28 (fun _ _ _ => rfl) (fun _ => rfl) ?_
  refine j_topE (e' := nI (dn - 1)) (by rw [vu_s]; exact pk_us) ?_
  refine j_ireturn dX7_takeBack_47 rfl ?_
  refine ⟨rfl, tw_eq rfl ?_ rfl⟩
  rw [hv, upd_nIf]

set_option maxHeartbeats 4000000 in
set_option maxRecDepth 100000 in
theorem c_X7_doAgain_no {dn : Nat} (hd : X 10 5 = nI dn) (hk : X 10 6 = nI dn) (h4 : dn ≤ 40) : jMet (d) yX7_doAgain cX7_doAgain 1 (some .int) 0 0 [.ref 10] (tw X A L) (jRi (-5) (tw X A L)) := by
  refine jMet_of (by decide) (Nat.le_of_ble_eq_true rfl) none (Or.inl rfl) ?_
  show jWP none RX7 cX7_doAgain 1 (some .int) (d) 0 0 0 [some (.ref 10)] [] (tw X A L) (jRi (-5) (tw X A L))
  refine j_aload_n dX7_doAgain_0 rfl rfl ?_
  refine t_getI dX7_doAgain_1 jfl_X7_28 (fun _ _ _ => rfl) (fun _ => rfl) ?_
  refine j_topE (e' := nI dn) hd ?_
  refine j_aload_n dX7_doAgain_4 rfl rfl ?_
  refine t_getI dX7_doAgain_5 jfl_X7_31 (fun _ _ _ => rfl) (fun _ => rfl) ?_
  refine j_topE (e' := nI dn) hk ?_
  refine jn_icmp_lt (tgt := 14) dX7_doAgain_8 (by decide) (by omega) (by omega) (fun h8 => by omega) (fun h8 => ?_)
  refine j_bipush (v := (-5)) dX7_doAgain_11 rfl ?_
  refine j_ireturn dX7_doAgain_13 rfl ?_
  exact ⟨rfl, rfl⟩

set_option maxHeartbeats 4000000 in
set_option maxRecDepth 100000 in
theorem c_X7_doAgain (hv : A 11 = nIf v) {dn : Nat} {pl bf af : Nat → Nat} (hd : X 10 5 = nI dn) (hd40 : dn ≤ 40) (h12 : A 12 = nIf pl) (h13 : A 13 = nIf bf) (h14 : A 14 = nIf af) {kp : Nat} (hk : X 10 6 = nI kp) (hk2 : kp ≤ 40) (h0 : dn < kp) (hp : pl dn < 8) : jMet (d) yX7_doAgain cX7_doAgain 1 (some .int) 0 0 [.ref 10] (tw X A L) (jRi (nI (kp - (dn + 1))) (tw (va_up X 10 (upd (X 10) 5 (nI (dn + 1)))) (va_up A 11 (nIf (updN v (pl dn) (af dn)))) L)) := by
  refine jMet_of (by decide) (Nat.le_of_ble_eq_true rfl) none (Or.inl rfl) ?_
  show jWP none RX7 cX7_doAgain 1 (some .int) (d) 0 0 0 [some (.ref 10)] [] (tw X A L) (jRi (nI (kp - (dn + 1))) (tw (va_up X 10 (upd (X 10) 5 (nI (dn + 1)))) (va_up A 11 (nIf (updN v (pl dn) (af dn)))) L))
  refine j_aload_n dX7_doAgain_0 rfl rfl ?_
  refine t_getI dX7_doAgain_1 jfl_X7_28 (fun _ _ _ => rfl) (fun _ => rfl) ?_
  refine j_topE (e' := nI dn) hd ?_
  refine j_aload_n dX7_doAgain_4 rfl rfl ?_
  refine t_getI dX7_doAgain_5 jfl_X7_31 (fun _ _ _ => rfl) (fun _ => rfl) ?_
  refine j_topE (e' := nI kp) hk ?_
  refine jn_icmp_lt (tgt := 14) dX7_doAgain_8 (by decide) (by omega) (by omega) (fun h8 => ?_) (fun h8 => by omega)
  refine j_aload_n dX7_doAgain_14 rfl rfl ?_
  refine t_getR (b := 11) dX7_doAgain_15 jfl_X7_11 (fun _ _ _ => rfl) rfl ?_
  refine j_aload_n dX7_doAgain_18 rfl rfl ?_
  refine t_getR (b := 12) dX7_doAgain_19 jfl_X7_19 (fun _ _ _ => rfl) rfl ?_
  refine j_aload_n dX7_doAgain_22 rfl rfl ?_
  refine t_getI dX7_doAgain_23 jfl_X7_28 (fun _ _ _ => rfl) (fun _ => rfl) ?_
  refine j_topE (e' := nI dn) hd ?_
  refine t_iaload dX7_doAgain_26 (fun _ _ _ => rfl) (by omega) (by decide) ?_
  refine j_topE (e' := nI (pl dn)) (by rw [h12]; rfl) ?_
  refine j_aload_n dX7_doAgain_27 rfl rfl ?_
  refine t_getR (b := 14) dX7_doAgain_28 jfl_X7_25 (fun _ _ _ => rfl) rfl ?_
  refine j_aload_n dX7_doAgain_31 rfl rfl ?_
  refine t_getI dX7_doAgain_32 jfl_X7_28 (fun _ _ _ => rfl) (fun _ => rfl) ?_
  refine j_topE (e' := nI dn) hd ?_
  refine t_iaload dX7_doAgain_35 (fun _ _ _ => rfl) (by omega) (by decide) ?_
  refine j_topE (e' := nI (af dn)) (by rw [h14]; rfl) ?_
  refine t_iastore dX7_doAgain_36 (fun _ _ _ => rfl) (by omega) (by decide) ?_
  refine j_aload_n dX7_doAgain_37 rfl rfl ?_
  refine j_dup dX7_doAgain_38 rfl ?_
  refine t_getI dX7_doAgain_39 jfl_X7_28 (fun _ _ _ => rfl) (fun _ => rfl) ?_
  refine j_topE (e' := nI dn) hd ?_
  refine j_iconst (v := nI 1) dX7_doAgain_42 rfl ?_
  refine jn_iadd dX7_doAgain_43 ?_
  refine t_putI dX7_doAgain_44 jfl_X7_28 (fun _ _ _ => rfl) (fun _ _ => rfl) (Nat.le_of_ble_eq_true rfl) rfl rfl ?_
  refine j_aload_n dX7_doAgain_47 rfl rfl ?_
  refine t_getI dX7_doAgain_48 jfl_X7_31 (fun _ _ _ => rfl) (fun _ => rfl) ?_
  refine j_topE (e' := nI kp) (by rw [vu_s, pk_un (by decide)]; exact hk) ?_
  refine j_aload_n dX7_doAgain_51 rfl rfl ?_
  refine t_getI dX7_doAgain_52 jfl_X7_28 (fun _ _ _ => rfl) (fun _ => rfl) ?_
  refine j_topE (e' := nI (dn + 1)) (by rw [vu_s]; exact pk_us) ?_
  refine jn_isub dX7_doAgain_55 (by omega) ?_
  refine j_ireturn dX7_doAgain_56 rfl ?_
  refine ⟨rfl, tw_eq rfl ?_ rfl⟩
  rw [hv, upd_nIf]

end CT4