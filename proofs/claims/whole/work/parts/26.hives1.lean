/-! hives -/
def abv (a : Nat) : Option Nat := [none, some 0, some 0, some 2, some 1, some 3, some 0, some 4].getD a none
def oA : Option Nat → Int32
  | none => (-1)
  | some m => nI m
theorem jAbove_at {a : Nat} (h : a < 8) : jAbove a = oA (abv a) := by
  rcases (show a = 0 ∨ a = 1 ∨ a = 2 ∨ a = 3 ∨ a = 4 ∨ a = 5 ∨ a = 6 ∨ a = 7 by omega) with rfl | rfl | rfl | rfl | rfl | rfl | rfl | rfl <;> rfl
def ownN (i : Nat) : Nat := [1, 10, 11, 2, 20, 0, 0, 0, 0, 30, 0, 0, 0, 41, 40, 0, 0, 0, 50, 0, 0, 0, 0, 60, 70, 0, 0, 0, 0, 80, 0, 81].getD i 0
theorem jOwn_at : ∀ {i : Nat}, i < 32 → jOwn i = nI (ownN i) := by
  have h : (List.range 32).all (fun i => decide (jOwn i = nI (ownN i))) = true := by decide +kernel
  intro i hi
  exact of_decide_eq_true (List.all_eq_true.mp h i (List.mem_range.mpr hi))
theorem ownN_lt (i : Nat) : ownN i < 2 ^ 31 := by
  unfold ownN
  rw [List.getD_eq_getElem?_getD]
  cases h : ([1, 10, 11, 2, 20, 0, 0, 0, 0, 30, 0, 0, 0, 41, 40, 0, 0, 0, 50, 0, 0, 0, 0, 60, 70, 0, 0, 0, 0, 80, 0, 81] : List Nat)[i]? with
  | none => decide
  | some v =>
    have hm := List.mem_of_getElem? h
    simp only [List.mem_cons, List.not_mem_nil, or_false] at hm
    show v < 2 ^ 31
    omega
/-- the kind whose body runs, from a kind on -/
def kact (k t : Nat) : Nat := [0, 0, 0, 0, 1, 0, 0, 0, 0, 2, 0, 0, 0, 3, 3, 0, 1, 0, 4, 0, 0, 3, 3, 5, 6, 0, 0, 0, 1, 7, 4, 7].getD (k * 4 + t) 0
def hgt (a : Nat) : Nat := [0, 1, 1, 2, 2, 3, 1, 3].getD a 0
def kok (a t : Nat) : Bool := if ownN (a * 4 + t) = 0 then (match abv a with | none => false | some b => decide (b < 8) && decide (kact b t = kact a t) && decide (hgt b < hgt a)) else decide (kact a t = a)
theorem kact_ok {a t : Nat} (ha : a < 8) (ht : t < 4) : kok a t = true ∧ hgt a ≤ 3 ∧ kact a t < 8 ∧ ownN (kact a t * 4 + t) ≠ 0 := by
  have h : (List.range 8).all (fun a => (List.range 4).all fun t => kok a t && decide (hgt a ≤ 3) && decide (kact a t < 8) && decide (ownN (kact a t * 4 + t) ≠ 0)) = true := by decide +kernel
  have h1 := List.all_eq_true.mp (List.all_eq_true.mp h a (List.mem_range.mpr ha)) t (List.mem_range.mpr ht)
  simp only [Bool.and_eq_true, decide_eq_true_eq] at h1
  exact ⟨h1.1.1.1, h1.1.1.2, h1.1.2, h1.2⟩
theorem kact_up {a t : Nat} (ha : a < 8) (ht : t < 4) (h0 : ownN (a * 4 + t) = 0) : ∃ b, abv a = some b ∧ b < 8 ∧ kact b t = kact a t ∧ hgt b < hgt a := by
  have h := (kact_ok ha ht).1
  unfold kok at h
  rw [if_pos h0] at h
  cases e : abv a with
  | none => rw [e] at h; cases h
  | some b =>
    rw [e] at h
    simp only [Bool.and_eq_true, decide_eq_true_eq] at h
    exact ⟨b, rfl, h.1.1, h.1.2, h.2⟩
theorem kact_own {a t : Nat} (ha : a < 8) (ht : t < 4) (h0 : 0 < ownN (a * 4 + t)) : kact a t = a := by
  have h := (kact_ok ha ht).1
  unfold kok at h
  rw [if_neg (by omega)] at h
  exact of_decide_eq_true h
def undB (a : Option Nat) (t : Nat) : Bool := match a with
  | none => false
  | some a => [true, false, false, false, false, false, false, false, true, true, false, false, false, false, false, false, true, false, true, false, false, false, false, false, true, false, true, true, false, false, false, false, true, true, false, false, true, false, false, false, true, false, true, true, false, true, false, false, true, false, false, false, false, false, true, false, true, true, false, false, true, false, false, true].getD (a * 8 + t) false
theorem und_ok {a t : Nat} (ha : a < 8) (ht : t < 8) : (a = t → undB (some a) t = true) ∧ (a ≠ t → undB (abv a) t = undB (some a) t) ∧ (∀ b, abv a = some b → b < 8 ∧ hgt b < hgt a) ∧ hgt a ≤ 3 := by
  have h : (List.range 8).all (fun a => (List.range 8).all fun t => (if a = t then undB (some a) t else undB (abv a) t == undB (some a) t) && (match abv a with | none => true | some b => decide (b < 8) && decide (hgt b < hgt a)) && decide (hgt a ≤ 3)) = true := by decide +kernel
  have h1 := List.all_eq_true.mp (List.all_eq_true.mp h a (List.mem_range.mpr ha)) t (List.mem_range.mpr ht)
  simp only [Bool.and_eq_true, decide_eq_true_eq] at h1
  refine ⟨fun e => ?_, fun e => ?_, fun b hb => ?_, h1.2⟩
  · have := h1.1.1; rw [if_pos e] at this; exact this
  · have := h1.1.1; rw [if_neg e] at this; exact eq_of_beq this
  · have := h1.1.2; rw [hb] at this; simp only [Bool.and_eq_true, decide_eq_true_eq] at this; exact this
/-- acts: the answer and the numbers that are noted -/
def acS : Nat → Nat → Int32 → Nat → Nat → Int32 → Option (Int32 × List Int32)
  | 0, _, _, _, _, _ => none
  | f + 1, ks, n, k, t, x => match ownN (kact k t * 4 + t) with
    | 1 => some (x + n, [nI 1])
    | 2 => (acS f ks n ks 1 x).bind fun a => (acS f ks n ks 2 (nI 1)).bind fun b => some (a.1 - b.1, nI 2 :: (a.2 ++ b.2))
    | 10 => (acS f ks n ks 0 x).bind fun a => some (a.1 * nI 2, nI 10 :: a.2)
    | 11 => some (x ^^^ n, [nI 11])
    | 20 => (acS f ks n 0 0 x).bind fun a => some (a.1 + nI 3, nI 20 :: a.2)
    | 30 => (acS f ks n 0 1 x).bind fun a => some (-a.1, nI 30 :: a.2)
    | 40 => (acS f ks n 2 2 x).bind fun a => some (a.1 * nI 3, nI 40 :: a.2)
    | 41 => (acS f ks n 2 1 (x + nI 1)).bind fun a => some (a.1, nI 41 :: a.2)
    | 50 => (acS f ks n 1 2 x).bind fun a => (acS f ks n ks 0 (nI 2)).bind fun b => some (a.1 - b.1, nI 50 :: (a.2 ++ b.2))
    | 60 => (acS f ks n 3 3 x).bind fun a => some (a.1 ^^^ nI 5, nI 60 :: a.2)
    | 70 => (acS f ks n 0 0 x).bind fun a => some (a.1 * nI 2, nI 70 :: a.2)
    | 80 => (acS f ks n 4 1 x).bind fun a => (acS f ks n ks 2 (nI 2)).bind fun b => some (a.1 + b.1, nI 80 :: (a.2 ++ b.2))
    | 81 => (acS f ks n 4 3 x).bind fun a => some (a.1 - nI 1, nI 81 :: a.2)
    | _ => none
theorem acS_some {ks t : Nat} (n x : Int32) (h : ks < 8) (ht : t < 4) : ∃ r, acS 8 ks n ks t x = some r := by
  rcases (show ks = 0 ∨ ks = 1 ∨ ks = 2 ∨ ks = 3 ∨ ks = 4 ∨ ks = 5 ∨ ks = 6 ∨ ks = 7 by omega) with rfl | rfl | rfl | rfl | rfl | rfl | rfl | rfl <;>
  rcases (show t = 0 ∨ t = 1 ∨ t = 2 ∨ t = 3 by omega) with rfl | rfl | rfl | rfl <;> exact ⟨_, rfl⟩
theorem acS_len : ∀ {f ks : Nat} {n : Int32} {k t : Nat} {x : Int32} {r : Int32 × List Int32}, acS f ks n k t x = some r → r.2.length < 2 ^ f
  | 0, _, _, _, _, _, _, h => by cases h
  | f + 1, ks, n, k, t, x, r, h => by
    have hp : 2 ^ (f + 1) = 2 ^ f * 2 := Nat.pow_succ 2 f
    have h1 : 1 ≤ 2 ^ f := Nat.one_le_two_pow
    unfold acS at h
    split at h <;> first
      | cases h; done
      | (cases h; simp only [List.length_singleton]; omega)
      | (obtain ⟨a, ha, hb⟩ := Option.bind_eq_some_iff.mp h
         have l1 := acS_len ha
         first
         | (obtain ⟨b, hb1, hb2⟩ := Option.bind_eq_some_iff.mp hb
            have l2 := acS_len hb1
            cases hb2
            simp only [List.length_cons, List.length_append]
            omega)
         | (cases hb
            simp only [List.length_cons]
            omega))
def noteT : Nat → (Nat → Int32) → List Int32 → (Nat → Int32)
  | _, tr, [] => tr
  | r, tr, m :: ns => noteT (r + 1) (if r < 24 then upd tr r m else tr) ns
theorem noteT_app : ∀ (a : List Int32) (r : Nat) (tr : Nat → Int32) (b : List Int32), noteT r tr (a ++ b) = noteT (r + a.length) (noteT r tr a) b
  | [], _, _, _ => rfl
  | m :: a, r, tr, b => by
    show noteT (r + 1) _ (a ++ b) = _
    rw [noteT_app a, List.length_cons, show r + (a.length + 1) = r + 1 + a.length by omega]
    rfl
/-- the world of the hives: so many noted, the trace, who acts -/
def hX (X : Nat → Nat → Int32) (r : Nat) : Nat → Nat → Int32 := va_up X 60 (upd (X 60) 3 (nI r))
theorem hX_3 (X : Nat → Nat → Int32) (r : Nat) : hX X r 60 3 = nI r := by unfold hX; rw [vu_s]; exact pk_us
theorem hX_n (X : Nat → Nat → Int32) (r : Nat) {q : Nat} (h : q ≠ 3) : hX X r 60 q = X 60 q := by unfold hX; rw [vu_s]; exact pk_un h
theorem hX_hX (X : Nat → Nat → Int32) (r r' : Nat) : hX (hX X r) r' = hX X r' := by unfold hX; rw [vu_up, vu_s, ud_ud]
section CT6
variable {d : Nat} {X A : Nat → Nat → Int32} {L : Nat → Nat → Int64} {w : jW} {nb : Nat} {kd : Nat → Nat}

set_option maxHeartbeats 4000000 in
set_option maxRecDepth 100000 in
theorem c_X2_isKind {c : Int32} : jMet (d) yX2_isKind cX2_isKind 1 (some .boolean) 0 0 [.int c] (w) (jRi (isA 8 c) w) := by
  refine jMet_of (by decide) (Nat.le_of_ble_eq_true rfl) none (Or.inl rfl) ?_
  show jWP none RX2 cX2_isKind 1 (some .boolean) (d) 0 0 0 [some (.int c)] [] (w) (jRi (isA 8 c) w)
  refine j_iload_n dX2_isKind_0 rfl rfl ?_
  refine j_if_lt (tgt := 14) dX2_isKind_1 (by decide) (fun h1 => ?_) (fun h1 => ?_)
  · refine j_iconst (v := nI 0) dX2_isKind_14 rfl ?_
    refine j_zreturn dX2_isKind_15 rfl (by decide) ?_
    exact ⟨by simp only [isA, if_pos h1], rfl⟩
  · refine j_iload_n dX2_isKind_4 rfl rfl ?_
    refine j_bipush (v := nI 8) dX2_isKind_5 rfl ?_
    refine j_icmp_ge (tgt := 14) dX2_isKind_7 (by decide) (fun h7 => ?_) (fun h7 => ?_)
    · refine j_iconst (v := nI 0) dX2_isKind_14 rfl ?_
      refine j_zreturn dX2_isKind_15 rfl (by decide) ?_
      exact ⟨by simp only [isA, if_neg h1, if_pos h7], rfl⟩
    · refine j_iconst (v := nI 1) dX2_isKind_10 rfl ?_
      refine j_goto (tgt := 15) dX2_isKind_11 (by decide) ?_
      refine j_zreturn dX2_isKind_15 rfl (by decide) ?_
      exact ⟨by simp only [isA, if_neg h1, if_neg h7], rfl⟩

set_option maxHeartbeats 4000000 in
set_option maxRecDepth 100000 in
theorem c_X2_isBody (hb : X 60 1 = nI nb) (hb50 : nb ≤ 50) {c : Int32} : jMet (d) yX2_isBody cX2_isBody 2 (some .boolean) 0 0 [.ref 60, .int c] (tw X A L) (jRi (isA nb c) (tw X A L)) := by
  refine jMet_of (by decide) (Nat.le_of_ble_eq_true rfl) none (Or.inl rfl) ?_
  show jWP none RX2 cX2_isBody 2 (some .boolean) (d) 0 0 0 [some (.ref 60), some (.int c)] [] (tw X A L) (jRi (isA nb c) (tw X A L))
  refine j_iload_n dX2_isBody_0 rfl rfl ?_
  refine j_if_lt (tgt := 16) dX2_isBody_1 (by decide) (fun h1 => ?_) (fun h1 => ?_)
  · refine j_iconst (v := nI 0) dX2_isBody_16 rfl ?_
    refine j_zreturn dX2_isBody_17 rfl (by decide) ?_
    exact ⟨by simp only [isA, if_pos h1], rfl⟩
  · refine j_iload_n dX2_isBody_4 rfl rfl ?_
    refine j_aload_n dX2_isBody_5 rfl rfl ?_
    refine t_getI dX2_isBody_6 jfl_X2_15 (fun _ _ _ => rfl) (fun _ => rfl) ?_
    refine j_topE (e' := nI nb) hb ?_
    refine j_icmp_ge (tgt := 16) dX2_isBody_9 (by decide) (fun h9 => ?_) (fun h9 => ?_)
    · refine j_iconst (v := nI 0) dX2_isBody_16 rfl ?_
      refine j_zreturn dX2_isBody_17 rfl (by decide) ?_
      exact ⟨by simp only [isA, if_neg h1, if_pos h9], rfl⟩
    · refine j_iconst (v := nI 1) dX2_isBody_12 rfl ?_
      refine j_goto (tgt := 17) dX2_isBody_13 (by decide) ?_
      refine j_zreturn dX2_isBody_17 rfl (by decide) ?_
      exact ⟨by simp only [isA, if_neg h1, if_neg h9], rfl⟩

theorem c_X2_isBody_in (hb : X 60 1 = nI nb) (hb50 : nb ≤ 50) {j : Nat} (h : j < nb) : jMet d yX2_isBody cX2_isBody 2 (some .boolean) 0 0 [.ref 60, .int (nI j)] (tw X A L) (jRi (nI 1) (tw X A L)) := jMet_i (c_X2_isBody hb hb50) (isA_in h (by omega)) rfl
theorem c_X2_isKind_in {j : Nat} (h : j < 8) : jMet d yX2_isKind cX2_isKind 1 (some .boolean) 0 0 [.int (nI j)] w (jRi (nI 1) w) := jMet_i c_X2_isKind (isA_in h (by omega)) rfl

set_option maxHeartbeats 4000000 in
set_option maxRecDepth 100000 in
theorem c_X2_bodyCount  : jMet (d) yX2_bodyCount cX2_bodyCount 1 (some .int) 0 0 [.ref 60] (tw X A L) (jRi (X 60 1) (tw X A L)) := by
  refine jMet_of (by decide) (Nat.le_of_ble_eq_true rfl) none (Or.inl rfl) ?_
  show jWP none RX2 cX2_bodyCount 1 (some .int) (d) 0 0 0 [some (.ref 60)] [] (tw X A L) (jRi (X 60 1) (tw X A L))
  refine j_aload_n dX2_bodyCount_0 rfl rfl ?_
  refine t_getI dX2_bodyCount_1 jfl_X2_15 (fun _ _ _ => rfl) (fun _ => rfl) ?_
  refine j_ireturn dX2_bodyCount_4 rfl ?_
  exact ⟨rfl, rfl⟩

set_option maxHeartbeats 4000000 in
set_option maxRecDepth 100000 in
theorem c_X2_ranCount  : jMet (d) yX2_ranCount cX2_ranCount 1 (some .int) 0 0 [.ref 60] (tw X A L) (jRi (X 60 3) (tw X A L)) := by
  refine jMet_of (by decide) (Nat.le_of_ble_eq_true rfl) none (Or.inl rfl) ?_
  show jWP none RX2 cX2_ranCount 1 (some .int) (d) 0 0 0 [some (.ref 60)] [] (tw X A L) (jRi (X 60 3) (tw X A L))
  refine j_aload_n dX2_ranCount_0 rfl rfl ?_
  refine t_getI dX2_ranCount_1 jfl_X2_22 (fun _ _ _ => rfl) (fun _ => rfl) ?_
  refine j_ireturn dX2_ranCount_4 rfl ?_
  exact ⟨rfl, rfl⟩

set_option maxHeartbeats 4000000 in
set_option maxRecDepth 100000 in
theorem c_X2_kindOf (hb : X 60 1 = nI nb) (hb50 : nb ≤ 50) (hk : A 61 = nIf kd) {j : Nat} (h : j < nb) : jMet (d + 1) yX2_kindOf cX2_kindOf 2 (some .int) 0 0 [.ref 60, .int (nI j)] (tw X A L) (jRi (nI (kd j)) (tw X A L)) := by
  refine jMet_of (by decide) (Nat.le_of_ble_eq_true rfl) none (Or.inl rfl) ?_
  show jWP none RX2 cX2_kindOf 2 (some .int) (d + 1) 0 0 0 [some (.ref 60), some (.int (nI j))] [] (tw X A L) (jRi (nI (kd j)) (tw X A L))
  refine j_aload_n dX2_kindOf_0 rfl rfl ?_
  refine j_iload_n dX2_kindOf_1 rfl rfl ?_
  refine j_callVi [.int _] [] dX2_kindOf_2 jlk_X2_28 rfl rfl rfl rfl (Nat.le_of_ble_eq_true rfl) (c_X2_isBody_in hb hb50 h) ?_
  refine j_if_eq (tgt := 17) dX2_kindOf_5 (by decide) (fun h => absurd h (by decide)) (fun _ => ?_)
  refine j_aload_n dX2_kindOf_8 rfl rfl ?_
  refine t_getR (b := 61) dX2_kindOf_9 jfl_X2_11 (fun _ _ _ => rfl) rfl ?_
  refine j_iload_n dX2_kindOf_12 rfl rfl ?_
  refine t_iaload dX2_kindOf_13 (fun _ _ _ => rfl) (by omega) (by decide) ?_
  refine j_goto (tgt := 19) dX2_kindOf_14 (by decide) ?_
  refine j_ireturn dX2_kindOf_19 rfl ?_
  exact ⟨by rw [hk]; rfl, rfl⟩

set_option maxHeartbeats 4000000 in
set_option maxRecDepth 100000 in
theorem c_X2_kindOf_no (hb : X 60 1 = nI nb) (hb50 : nb ≤ 50) {c : Int32} (h : isA nb c = nI 0) : jMet (d + 1) yX2_kindOf cX2_kindOf 2 (some .int) 0 0 [.ref 60, .int c] (tw X A L) (jRi (-2) (tw X A L)) := by
  refine jMet_of (by decide) (Nat.le_of_ble_eq_true rfl) none (Or.inl rfl) ?_
  show jWP none RX2 cX2_kindOf 2 (some .int) (d + 1) 0 0 0 [some (.ref 60), some (.int c)] [] (tw X A L) (jRi (-2) (tw X A L))
  refine j_aload_n dX2_kindOf_0 rfl rfl ?_
  refine j_iload_n dX2_kindOf_1 rfl rfl ?_
  refine j_callVi [.int _] [] dX2_kindOf_2 jlk_X2_28 rfl rfl rfl rfl (Nat.le_of_ble_eq_true rfl) (c_X2_isBody hb hb50) ?_
  refine j_if_eq (tgt := 17) dX2_kindOf_5 (by decide) (fun h5 => ?_) (fun h5 => absurd h h5)
  refine j_bipush (v := (-2)) dX2_kindOf_17 rfl ?_
  refine j_ireturn dX2_kindOf_19 rfl ?_
  exact ⟨rfl, rfl⟩

set_option maxHeartbeats 4000000 in
set_option maxRecDepth 100000 in
theorem c_X2_add (hb : X 60 1 = nI nb) (hb50 : nb ≤ 50) (hk : A 61 = nIf kd) (h : nb < 50) {k : Nat} : jMet (d) yX2_add cX2_add 2 (some .int) 0 0 [.ref 60, .int (nI k)] (tw X A L) (jRi (nI nb) (tw (va_up X 60 (upd (X 60) 1 (nI (nb + 1)))) (va_up A 61 (nIf (updN kd nb k))) L)) := by
  refine jMet_of (by decide) (Nat.le_of_ble_eq_true rfl) none (Or.inl rfl) ?_
  show jWP none RX2 cX2_add 2 (some .int) (d) 0 0 0 [some (.ref 60), some (.int (nI k))] [] (tw X A L) (jRi (nI nb) (tw (va_up X 60 (upd (X 60) 1 (nI (nb + 1)))) (va_up A 61 (nIf (updN kd nb k))) L))
  refine j_aload_n dX2_add_0 rfl rfl ?_
  refine t_getI dX2_add_1 jfl_X2_15 (fun _ _ _ => rfl) (fun _ => rfl) ?_
  refine j_topE (e' := nI nb) hb ?_
  refine j_bipush (v := nI 50) dX2_add_4 rfl ?_
  refine jn_icmp_lt (tgt := 12) dX2_add_6 (by decide) (by omega) (by omega) (fun h6 => ?_) (fun h6 => by omega)
  refine j_aload_n dX2_add_12 rfl rfl ?_
  refine t_getR (b := 61) dX2_add_13 jfl_X2_11 (fun _ _ _ => rfl) rfl ?_
  refine j_aload_n dX2_add_16 rfl rfl ?_
  refine t_getI dX2_add_17 jfl_X2_15 (fun _ _ _ => rfl) (fun _ => rfl) ?_
  refine j_topE (e' := nI nb) hb ?_
  refine j_iload_n dX2_add_20 rfl rfl ?_
  refine t_iastore dX2_add_21 (fun _ _ _ => rfl) (by omega) (by decide) ?_
  refine j_aload_n dX2_add_22 rfl rfl ?_
  refine j_dup dX2_add_23 rfl ?_
  refine t_getI dX2_add_24 jfl_X2_15 (fun _ _ _ => rfl) (fun _ => rfl) ?_
  refine j_topE (e' := nI nb) hb ?_
  refine j_iconst (v := nI 1) dX2_add_27 rfl ?_
  refine jn_iadd dX2_add_28 ?_
  refine t_putI dX2_add_29 jfl_X2_15 (fun _ _ _ => rfl) (fun _ _ => rfl) (Nat.le_of_ble_eq_true rfl) rfl rfl ?_
  refine j_aload_n dX2_add_32 rfl rfl ?_
  refine t_getI dX2_add_33 jfl_X2_15 (fun _ _ _ => rfl) (fun _ => rfl) ?_
  refine j_topE (e' := nI (nb + 1)) (by rw [vu_s]; exact pk_us) ?_
  refine j_iconst (v := nI 1) dX2_add_36 rfl ?_
  refine jn_isub dX2_add_37 (by omega) ?_
  refine j_ireturn dX2_add_38 rfl ?_
  refine ⟨rfl, ?_⟩
  rw [hk, upd_nIf]

set_option maxHeartbeats 4000000 in
set_option maxRecDepth 100000 in
theorem c_X2_add_full (hb : X 60 1 = nI 50) {k : Nat} : jMet (d) yX2_add cX2_add 2 (some .int) 0 0 [.ref 60, .int (nI k)] (tw X A L) (jRi (-3) (tw X A L)) := by
  refine jMet_of (by decide) (Nat.le_of_ble_eq_true rfl) none (Or.inl rfl) ?_
  show jWP none RX2 cX2_add 2 (some .int) (d) 0 0 0 [some (.ref 60), some (.int (nI k))] [] (tw X A L) (jRi (-3) (tw X A L))
  refine j_aload_n dX2_add_0 rfl rfl ?_
  refine t_getI dX2_add_1 jfl_X2_15 (fun _ _ _ => rfl) (fun _ => rfl) ?_
  refine j_topE (e' := nI 50) hb ?_
  refine j_bipush (v := nI 50) dX2_add_4 rfl ?_
  refine jn_icmp_lt (tgt := 12) dX2_add_6 (by decide) (by omega) (by omega) (fun h6 => by omega) (fun h6 => ?_)
  refine j_bipush (v := (-3)) dX2_add_9 rfl ?_
  refine j_ireturn dX2_add_11 rfl ?_
  exact ⟨rfl, rfl⟩

set_option maxHeartbeats 4000000 in
set_option maxRecDepth 100000 in
theorem c_X2_note {r : Nat} (hr : X 60 3 = nI r) (hr2 : r < 2 ^ 30) {m : Int32} : jMet (d) yX2_note cX2_note 2 none 0 0 [.ref 60, .int m] (tw X A L) (jRv (tw (hX X (r + 1)) (va_up A 62 (noteT r (A 62) [m])) L)) := by
  refine jMet_of (by decide) (Nat.le_of_ble_eq_true rfl) none (Or.inl rfl) ?_
  show jWP none RX2 cX2_note 2 none (d) 0 0 0 [some (.ref 60), some (.int m)] [] (tw X A L) (jRv (tw (hX X (r + 1)) (va_up A 62 (noteT r (A 62) [m])) L))
  refine j_aload_n dX2_note_0 rfl rfl ?_
  refine t_getI dX2_note_1 jfl_X2_22 (fun _ _ _ => rfl) (fun _ => rfl) ?_
  refine j_topE (e' := nI r) hr ?_
  refine j_bipush (v := nI 24) dX2_note_4 rfl ?_
  refine jn_icmp_ge (tgt := 19) dX2_note_6 (by decide) (by omega) (by omega) (fun h6 => ?_) (fun h6 => ?_)
  · refine j_aload_n dX2_note_19 rfl rfl ?_
    refine j_dup dX2_note_20 rfl ?_
    refine t_getI dX2_note_21 jfl_X2_22 (fun _ _ _ => rfl) (fun _ => rfl) ?_
    refine j_topE (e' := nI r) hr ?_
    refine j_iconst (v := nI 1) dX2_note_24 rfl ?_
    refine jn_iadd dX2_note_25 ?_
    refine t_putI dX2_note_26 jfl_X2_22 (fun _ _ _ => rfl) (fun _ _ => rfl) (Nat.le_of_ble_eq_true rfl) rfl rfl ?_
    refine j_return dX2_note_29 rfl ?_
    refine ⟨rfl, tw_eq rfl ?_ rfl⟩
    simp only [noteT, if_neg (show ¬ r < 24 by omega), vu_self]
  · refine j_aload_n dX2_note_9 rfl rfl ?_
    refine t_getR (b := 62) dX2_note_10 jfl_X2_19 (fun _ _ _ => rfl) rfl ?_
    refine j_aload_n dX2_note_13 rfl rfl ?_
    refine t_getI dX2_note_14 jfl_X2_22 (fun _ _ _ => rfl) (fun _ => rfl) ?_
    refine j_topE (e' := nI r) hr ?_
    refine j_iload_n dX2_note_17 rfl rfl ?_
    refine t_iastore dX2_note_18 (fun _ _ _ => rfl) (by omega) (by decide) ?_
    refine j_aload_n dX2_note_19 rfl rfl ?_
    refine j_dup dX2_note_20 rfl ?_
    refine t_getI dX2_note_21 jfl_X2_22 (fun _ _ _ => rfl) (fun _ => rfl) ?_
    refine j_topE (e' := nI r) hr ?_
    refine j_iconst (v := nI 1) dX2_note_24 rfl ?_
    refine jn_iadd dX2_note_25 ?_
    refine t_putI dX2_note_26 jfl_X2_22 (fun _ _ _ => rfl) (fun _ _ => rfl) (Nat.le_of_ble_eq_true rfl) rfl rfl ?_
    refine j_return dX2_note_29 rfl ?_
    refine ⟨rfl, tw_eq rfl ?_ rfl⟩
    simp only [noteT, if_pos (show r < 24 by omega)]

set_option maxHeartbeats 4000000 in
set_option maxRecDepth 100000 in
theorem l_X2_kindActing {k t : Nat} (ht : t < 4) : ∀ (m a i : Nat), a < 8 → i + hgt a ≤ 4 → kact a t = kact k t → 8 - i < m → jWP none RX2 cX2_kindActing 4 (some .int) (d + 1) 0 0 4 [some (.int (nI k)), some (.int (nI t)), some (.int (nI a)), some (.int (nI i))] [] (w) (jRi (nI (kact k t)) w) := by
  intro m
  induction m with
  | zero => intro a i h1 h2 h3 h4; omega
  | succ m ih =>
    intro a i ha hi hk hm
    have hko := kact_ok ha ht
    refine j_iload_n dX2_kindActing_4 rfl rfl ?_
    refine j_bipush (v := nI 8) dX2_kindActing_5 rfl ?_
    refine jn_icmp_ge (tgt := 43) dX2_kindActing_7 (by decide) (by omega) (by omega) (fun h7 => by omega) (fun h7 => ?_)
    refine j_iload_n dX2_kindActing_10 rfl rfl ?_
    refine j_callSi [.int _] [] dX2_kindActing_11 jlk_X2_32 rfl rfl (Nat.le_of_ble_eq_true rfl) (c_X2_isKind_in (by omega)) ?_
    refine j_if_eq (tgt := 43) dX2_kindActing_14 (by decide) (fun h => absurd h (by decide)) (fun _ => ?_)
    refine j_gets_own rfl dX2_kindActing_17 jw_st_X2_42 ?_
    refine j_iload_n dX2_kindActing_20 rfl rfl ?_
    refine j_iconst (v := nI 4) dX2_kindActing_21 rfl ?_
    refine jn_imul dX2_kindActing_22 ?_
    refine j_iload_n dX2_kindActing_23 rfl rfl ?_
    refine jn_iadd dX2_kindActing_24 ?_
    refine jr_iaload dX2_kindActing_25 rfl (by omega) (by decide) ?_
    refine j_topE (e' := nI (ownN (a * 4 + t))) (jOwn_at (by omega)) ?_
    refine jn_if_eq (tgt := 31) dX2_kindActing_26 (by decide) (ownN_lt _) (fun h26 => ?_) (fun h26 => ?_)
    · obtain ⟨b, hb1, hb2, hb3, hb4⟩ := kact_up ha ht h26
      refine j_gets_above rfl dX2_kindActing_31 jw_st_X2_35 ?_
      refine j_iload_n dX2_kindActing_34 rfl rfl ?_
      refine jr_iaload dX2_kindActing_35 rfl (by omega) (by decide) ?_
      refine j_topE (e' := nI b) (by rw [jAbove_at ha, hb1]; rfl) ?_
      refine j_istore_n (lv' := [some (.int _), some (.int _), some (.int _), some (.int _)]) dX2_kindActing_36 rfl (by decide) rfl ?_
      refine jn_iinc (lv' := [some (.int _), some (.int _), some (.int _), some (.int _)]) dX2_kindActing_37 rfl (by decide) rfl ?_
      refine j_goto (tgt := 4) dX2_kindActing_40 (by decide) ?_
      exact ih b (i + 1) hb2 (by omega) (by rw [hb3, hk]) (by omega)
    · have hown := kact_own ha ht h26
      refine j_iload_n dX2_kindActing_29 rfl rfl ?_
      refine j_ireturn dX2_kindActing_30 rfl ?_
      exact ⟨by rw [← hk, hown], rfl⟩

set_option maxHeartbeats 4000000 in
set_option maxRecDepth 100000 in
theorem c_X2_kindActing {k t : Nat} (hk : k < 8) (ht : t < 4) : jMet (d + 1) yX2_kindActing cX2_kindActing 4 (some .int) 0 0 [.int (nI k), .int (nI t)] (w) (jRi (nI (kact k t)) w) := by
  refine jMet_of (by decide) (Nat.le_of_ble_eq_true rfl) none (Or.inl rfl) ?_
  show jWP none RX2 cX2_kindActing 4 (some .int) (d + 1) 0 0 0 [some (.int (nI k)), some (.int (nI t)), none, none] [] (w) (jRi (nI (kact k t)) w)
  have hko := kact_ok hk ht
  refine j_iload_n dX2_kindActing_0 rfl rfl ?_
  refine j_istore_n (lv' := [some (.int _), some (.int _), some (.int _), none]) dX2_kindActing_1 rfl (by decide) rfl ?_
  refine j_iconst (v := nI 0) dX2_kindActing_2 rfl ?_
  refine j_istore_n (lv' := [some (.int _), some (.int _), some (.int _), some (.int _)]) dX2_kindActing_3 rfl (by decide) rfl ?_
  exact l_X2_kindActing ht 9 k 0 hk (by omega) rfl (by omega)

set_option maxHeartbeats 4000000 in
set_option maxRecDepth 100000 in
theorem l_X2_isUnder {k : Int32} {t : Nat} (ht : t < 8) {res : Bool} : ∀ (m : Nat) (a : Option Nat) (i : Nat), i ≤ 5 → (∀ b, a = some b → b < 8 ∧ i + hgt b ≤ 4) → undB a t = res → 9 - i < m → jWP none RX2 cX2_isUnder 4 (some .boolean) (d + 1) 0 0 4 [some (.int k), some (.int (nI t)), some (.int (oA a)), some (.int (nI i))] [] (w) (jRi (bz res) w) := by
  intro m
  induction m with
  | zero => intro a i h0 h1 h2 h3; omega
  | succ m ih =>
    intro a i hi ha hu hm
    rcases a with _ | a1
    · refine j_at (lv' := [some (.int k), some (.int (nI t)), some (.int (-1)), some (.int (nI i))]) rfl ?_
      refine j_iload_n dX2_isUnder_4 rfl rfl ?_
      refine j_bipush (v := nI 8) dX2_isUnder_5 rfl ?_
      refine jn_icmp_ge (tgt := 36) dX2_isUnder_7 (by decide) (by omega) (by omega) (fun h7 => ?_) (fun h7 => ?_)
      · refine j_iconst (v := nI 0) dX2_isUnder_36 rfl ?_
        refine j_zreturn dX2_isUnder_37 rfl (by decide) ?_
        exact ⟨by rw [← hu]; rfl, rfl⟩
      · refine j_iload_n dX2_isUnder_10 rfl rfl ?_
        refine j_callSi [.int _] [] dX2_isUnder_11 jlk_X2_32 rfl rfl (Nat.le_of_ble_eq_true rfl) (jMet_i c_X2_isKind (show isA 8 (-1) = nI 0 by decide) rfl) ?_
        refine j_if_eq (tgt := 36) dX2_isUnder_14 (by decide) (fun _ => ?_) (fun h => absurd (by decide) h)
        refine j_iconst (v := nI 0) dX2_isUnder_36 rfl ?_
        refine j_zreturn dX2_isUnder_37 rfl (by decide) ?_
        exact ⟨by rw [← hu]; rfl, rfl⟩
    · refine j_at (lv' := [some (.int k), some (.int (nI t)), some (.int (nI a1)), some (.int (nI i))]) rfl ?_
      obtain ⟨ha1, ha2⟩ := ha a1 rfl
      have hko := und_ok ha1 ht
      refine j_iload_n dX2_isUnder_4 rfl rfl ?_
      refine j_bipush (v := nI 8) dX2_isUnder_5 rfl ?_
      refine jn_icmp_ge (tgt := 36) dX2_isUnder_7 (by decide) (by omega) (by omega) (fun h7 => ?_) (fun h7 => ?_)
      · refine j_iconst (v := nI 0) dX2_isUnder_36 rfl ?_
        refine j_zreturn dX2_isUnder_37 rfl (by decide) ?_
        exact absurd h7 (by omega)
      · refine j_iload_n dX2_isUnder_10 rfl rfl ?_
        refine j_callSi [.int _] [] dX2_isUnder_11 jlk_X2_32 rfl rfl (Nat.le_of_ble_eq_true rfl) (c_X2_isKind_in (by omega)) ?_
        refine j_if_eq (tgt := 36) dX2_isUnder_14 (by decide) (fun h => absurd h (by decide)) (fun _ => ?_)
        refine j_iload_n dX2_isUnder_17 rfl rfl ?_
        refine j_iload_n dX2_isUnder_18 rfl rfl ?_
        refine jn_icmp_ne (tgt := 24) dX2_isUnder_19 (by decide) (by omega) (by omega) (fun h19 => ?_) (fun h19 => ?_)
        · refine j_gets_above rfl dX2_isUnder_24 jw_st_X2_35 ?_
          refine j_iload_n dX2_isUnder_27 rfl rfl ?_
          refine jr_iaload dX2_isUnder_28 rfl (by omega) (by decide) ?_
          refine j_topE (e' := oA (abv a1)) (jAbove_at ha1) ?_
          refine j_istore_n (lv' := [some (.int _), some (.int _), some (.int _), some (.int _)]) dX2_isUnder_29 rfl (by decide) rfl ?_
          refine jn_iinc (lv' := [some (.int _), some (.int _), some (.int _), some (.int _)]) dX2_isUnder_30 rfl (by decide) rfl ?_
          refine j_goto (tgt := 4) dX2_isUnder_33 (by decide) ?_
          exact ih (abv a1) (i + 1) (by omega) (fun b hb => by have := hko.2.2.1 b hb; omega) (by rw [hko.2.1 h19]; exact hu) (by omega)
        · refine j_iconst (v := nI 1) dX2_isUnder_22 rfl ?_
          refine j_zreturn dX2_isUnder_23 rfl (by decide) ?_
          exact ⟨by rw [← hu, hko.1 h19]; rfl, rfl⟩

end CT6