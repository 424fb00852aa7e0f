/-- whether an int is a cell's number -/
def isc (c : Int32) : Int32 := if c < 0 then nI 0 else if nI 49 ≤ c then nI 0 else nI 1
theorem isc_in {j : Nat} (h : j < 49) : isc (nI j) = nI 1 := by
  unfold isc
  rw [if_neg (nI_pos (by omega)), if_neg (fun q => by have := (nI_leI (a := 49) (by decide) (by omega)).mp q; omega)]
def bz (b : Bool) : Int32 := if b then nI 1 else nI 0
def nb (a k : Nat) : Nat := (nbL a).getD k 0
def dg (a : Nat) : Nat := (nbL a).length
theorem nbL_lt (a : Nat) : ∀ o ∈ nbL a, o < 49 := fun o h => List.mem_range.mp (List.mem_filter.mp h).1
theorem dg_le : ∀ a, a < 49 → dg a ≤ 6 := by
  have : (List.range 49).all (fun a => decide (dg a ≤ 6)) = true := by decide +kernel
  intro a ha
  exact of_decide_eq_true (List.all_eq_true.mp this a (List.mem_range.mpr ha))
theorem nb_lt {a k : Nat} : nb a k < 49 := by
  unfold nb
  rw [List.getD_eq_getElem?_getD]
  cases h : (nbL a)[k]? with
  | none => decide
  | some v => exact nbL_lt a v (List.mem_of_getElem? h)
theorem tDg_at {j : Nat} : tDg j = nI (dg j) := rfl
theorem tNb_at {j k : Nat} (hk : k < 6) : tNb (j * 6 + k) = nI (nb j k) := by
  unfold tNb nb
  rw [show (j * 6 + k) / 6 = j by omega, show (j * 6 + k) % 6 = k by omega]
theorem tDs_at {a b : Nat} (hb : b < 49) : tDs (a * 49 + b) = nI (dsN a b) := by
  unfold tDs
  rw [show (a * 49 + b) / 49 = a by omega, show (a * 49 + b) % 49 = b by omega]
theorem dsN_le {a b : Nat} (ha : a < 49) (hb : b < 49) : dsN a b < 2 ^ 31 := by
  unfold dsN
  simp only
  omega
/-- a sum over the first n places of what is the account's -/
def balS (O S : Nat → Int32) (a : Int32) : Nat → Int32
  | 0 => nI 0
  | n + 1 => if O n = a then balS O S a n + S n else balS O S a n
def allS (S : Nat → Int32) : Nat → Int32
  | 0 => nI 0
  | n + 1 => allS S n + S n
def cnt (p : Nat → Bool) : Nat → Nat
  | 0 => 0
  | n + 1 => if p n = true then cnt p n + 1 else cnt p n
theorem cnt_le (p : Nat → Bool) : ∀ n, cnt p n ≤ n
  | 0 => Nat.le_refl _
  | n + 1 => by
    have := cnt_le p n
    unfold cnt
    split <;> omega
def heldB (O : Nat → Int32) (c : Nat) : Bool := decide (O c ≠ -1)
/-- how many neighbours hold nothing -/
def eN (O : Nat → Int32) (c : Nat) : Nat := cnt (fun x => isNx c x && !heldB O x) 49
theorem cnt_filter (p : Nat → Bool) : ∀ n, ((List.range n).filter p).length = cnt p n
  | 0 => rfl
  | n + 1 => by
    rw [List.range_succ, List.filter_append, List.length_append, cnt_filter p n]
    show _ = if p n = true then cnt p n + 1 else cnt p n
    by_cases h : p n = true <;> simp [h]
theorem cnt_mono {p q : Nat → Bool} (h : ∀ x, p x = true → q x = true) : ∀ n, cnt p n ≤ cnt q n
  | 0 => Nat.le_refl _
  | n + 1 => by
    have := cnt_mono h n
    unfold cnt
    by_cases h1 : p n = true
    · rw [if_pos h1, if_pos (h n h1)]; omega
    · rw [if_neg h1]; split <;> omega
theorem dg_cnt (a : Nat) : dg a = cnt (isNx a) 49 := cnt_filter (isNx a) 49
theorem eN_dg (O : Nat → Int32) (c : Nat) : eN O c ≤ dg c := by
  rw [dg_cnt]
  exact cnt_mono (fun x h => by simp at h; exact h.1) 49
def eOf (O : Nat → Int32) (c : Nat) : Int32 := if c < 49 then nI (eN O c) else 0
def hN (O : Nat → Int32) : Nat := cnt (heldB O) 49
def hOf (O : Nat → Int32) : Int32 := nI (hN O)
def slB (O : Nat → Int32) (c : Nat) : Bool := heldB O c && eN O c == 0
theorem eN_le {O : Nat → Int32} {c : Nat} (h : c < 49) : eN O c ≤ 6 := Nat.le_trans (eN_dg O c) (dg_le c h)
def zb (n : Nat) (f : Nat → Int32) : Prop := ∀ c, n ≤ c → f c = 0
/-- a comb in order -/
def cok (X A : Nat → Nat → Int32) (K : Nat) : Prop := zb 49 (A (K + 1)) ∧ zb 49 (A (K + 2)) ∧ A (K + 3) = eOf (A (K + 1)) ∧ X K 4 = hOf (A (K + 1))
theorem cokE {X A : Nat → Nat → Int32} {K j : Nat} (h : cok X A K) (hj : j < 49) : A (K + 3) j = nI (eN (A (K + 1)) j) := by rw [h.2.2.1]; exact if_pos hj
theorem cokH {X A : Nat → Nat → Int32} {K : Nat} (h : cok X A K) : X K 4 = nI (hN (A (K + 1))) := h.2.2.2
def cA (A : Nat → Nat → Int32) (K : Nat) (O S : Nat → Int32) : Nat → Nat → Int32 := va_up (va_up (va_up A (K + 1) O) (K + 2) S) (K + 3) (eOf O)
def cX (X : Nat → Nat → Int32) (K : Nat) (O : Nat → Int32) : Nat → Nat → Int32 := va_up X K (upd (X K) 4 (hOf O))
section CT0
variable {d : Nat} {X A : Nat → Nat → Int32} {L : Nat → Nat → Int64} {w : jW}

set_option maxHeartbeats 4000000 in
set_option maxRecDepth 100000 in
theorem c_X1_isCell {c : Int32} : jMet (d) yX1_isCell cX1_isCell 1 (some .boolean) 0 0 [.int c] (w) (jRi (isc c) w) := by
  refine jMet_of (by decide) (Nat.le_of_ble_eq_true rfl) none (Or.inl rfl) ?_
  show jWP none RX1 cX1_isCell 1 (some .boolean) (d) 0 0 0 [some (.int c)] [] (w) (jRi (isc c) w)
  refine j_iload_n dX1_isCell_0 rfl rfl ?_
  refine j_if_lt (tgt := 14) dX1_isCell_1 (by decide) (fun h1 => ?_) (fun h1 => ?_)
  · refine j_iconst (v := nI 0) dX1_isCell_14 rfl ?_
    refine j_zreturn dX1_isCell_15 rfl (by decide) ?_
    exact ⟨by simp only [isc, if_pos h1], rfl⟩
  · refine j_iload_n dX1_isCell_4 rfl rfl ?_
    refine j_bipush (v := nI 49) dX1_isCell_5 rfl ?_
    refine j_icmp_ge (tgt := 14) dX1_isCell_7 (by decide) (fun h7 => ?_) (fun h7 => ?_)
    · refine j_iconst (v := nI 0) dX1_isCell_14 rfl ?_
      refine j_zreturn dX1_isCell_15 rfl (by decide) ?_
      exact ⟨by simp only [isc, if_neg h1, if_pos h7], rfl⟩
    · refine j_iconst (v := nI 1) dX1_isCell_10 rfl ?_
      refine j_goto (tgt := 15) dX1_isCell_11 (by decide) ?_
      refine j_zreturn dX1_isCell_15 rfl (by decide) ?_
      exact ⟨by simp only [isc, if_neg h1, if_neg h7], rfl⟩

theorem c_X1_isCell_in {j : Nat} (h : j < 49) : jMet d yX1_isCell cX1_isCell 1 (some .boolean) 0 0 [.int (nI j)] w (jRi (nI 1) w) := jMet_i c_X1_isCell (isc_in h) rfl

set_option maxHeartbeats 4000000 in
set_option maxRecDepth 100000 in
theorem c_X1_lineOf {j : Nat} (h : j < 49) : jMet (d) yX1_lineOf cX1_lineOf 1 (some .int) 0 0 [.int (nI j)] (w) (jRi (nI (j / 7)) w) := by
  refine jMet_of (by decide) (Nat.le_of_ble_eq_true rfl) none (Or.inl rfl) ?_
  show jWP none RX1 cX1_lineOf 1 (some .int) (d) 0 0 0 [some (.int (nI j))] [] (w) (jRi (nI (j / 7)) w)
  refine j_iload_n dX1_lineOf_0 rfl rfl ?_
  refine j_bipush (v := nI 7) dX1_lineOf_1 rfl ?_
  refine jn_idiv dX1_lineOf_3 (by omega) (by decide) (by decide) ?_
  refine j_ireturn dX1_lineOf_4 rfl ?_
  exact ⟨rfl, rfl⟩

set_option maxHeartbeats 4000000 in
set_option maxRecDepth 100000 in
theorem c_X1_degree {j : Nat} (h : j < 49) : jMet (d + 1) yX1_degree cX1_degree 2 (some .int) 0 0 [.ref 5, .int (nI j)] (tw X A L) (jRi (nI (dg j)) (tw X A L)) := by
  refine jMet_of (by decide) (Nat.le_of_ble_eq_true rfl) none (Or.inl rfl) ?_
  show jWP none RX1 cX1_degree 2 (some .int) (d + 1) 0 0 0 [some (.ref 5), some (.int (nI j))] [] (tw X A L) (jRi (nI (dg j)) (tw X A L))
  refine j_iload_n dX1_degree_0 rfl rfl ?_
  refine j_callSi [.int _] [] dX1_degree_1 jlk_X1_33 rfl rfl (Nat.le_of_ble_eq_true rfl) (c_X1_isCell_in (by omega)) ?_
  refine j_if_eq (tgt := 16) dX1_degree_4 (by decide) (fun h => absurd h (by decide)) (fun _ => ?_)
  refine j_aload_n dX1_degree_7 rfl rfl ?_
  refine t_getR (b := 7) dX1_degree_8 jfl_X1_15 (fun _ _ _ => rfl) rfl ?_
  refine j_iload_n dX1_degree_11 rfl rfl ?_
  refine t_ialoadT dX1_degree_12 (fun _ _ _ => rfl) (by omega) (by decide) ?_
  refine j_goto (tgt := 17) dX1_degree_13 (by decide) ?_
  refine j_ireturn dX1_degree_17 rfl ?_
  exact ⟨rfl, rfl⟩

set_option maxHeartbeats 4000000 in
set_option maxRecDepth 100000 in
theorem c_X1_neighbour {j k : Nat} (h : j < 49) (hk : k < dg j) : jMet (d + 1) yX1_neighbour cX1_neighbour 3 (some .int) 0 0 [.ref 5, .int (nI j), .int (nI k)] (tw X A L) (jRi (nI (nb j k)) (tw X A L)) := by
  refine jMet_of (by decide) (Nat.le_of_ble_eq_true rfl) none (Or.inl rfl) ?_
  show jWP none RX1 cX1_neighbour 3 (some .int) (d + 1) 0 0 0 [some (.ref 5), some (.int (nI j)), some (.int (nI k))] [] (tw X A L) (jRi (nI (nb j k)) (tw X A L))
  have hd6 := dg_le j h
  refine j_iload_n dX1_neighbour_0 rfl rfl ?_
  refine j_callSi [.int _] [] dX1_neighbour_1 jlk_X1_33 rfl rfl (Nat.le_of_ble_eq_true rfl) (c_X1_isCell_in (by omega)) ?_
  refine j_if_eq (tgt := 35) dX1_neighbour_4 (by decide) (fun h => absurd h (by decide)) (fun _ => ?_)
  refine j_iload_n dX1_neighbour_7 rfl rfl ?_
  refine jn_if_lt (tgt := 35) dX1_neighbour_8 (by decide) (by omega) ?_
  refine j_iload_n dX1_neighbour_11 rfl rfl ?_
  refine j_aload_n dX1_neighbour_12 rfl rfl ?_
  refine t_getR (b := 7) dX1_neighbour_13 jfl_X1_15 (fun _ _ _ => rfl) rfl ?_
  refine j_iload_n dX1_neighbour_16 rfl rfl ?_
  refine t_ialoadT dX1_neighbour_17 (fun _ _ _ => rfl) (by omega) (by decide) ?_
  refine j_topE tDg_at ?_
  refine jn_icmp_ge (tgt := 35) dX1_neighbour_18 (by decide) (by omega) (by omega) (fun h18 => by omega) (fun h18 => ?_)
  refine j_aload_n dX1_neighbour_21 rfl rfl ?_
  refine t_getR (b := 6) dX1_neighbour_22 jfl_X1_11 (fun _ _ _ => rfl) rfl ?_
  refine j_iload_n dX1_neighbour_25 rfl rfl ?_
  refine j_bipush (v := nI 6) dX1_neighbour_26 rfl ?_
  refine jn_imul dX1_neighbour_28 ?_
  refine j_iload_n dX1_neighbour_29 rfl rfl ?_
  refine jn_iadd dX1_neighbour_30 ?_
  refine t_ialoadT dX1_neighbour_31 (fun _ _ _ => rfl) (by omega) (by decide) ?_
  refine j_topE (tNb_at (by omega)) ?_
  refine j_goto (tgt := 37) dX1_neighbour_32 (by decide) ?_
  refine j_ireturn dX1_neighbour_37 rfl ?_
  exact ⟨rfl, rfl⟩

set_option maxHeartbeats 4000000 in
set_option maxRecDepth 100000 in
theorem c_X1_neighbour_out {j k : Nat} (h : j < 49) (hk : dg j ≤ k) (hk2 : k < 2 ^ 31) : jMet (d + 1) yX1_neighbour cX1_neighbour 3 (some .int) 0 0 [.ref 5, .int (nI j), .int (nI k)] (tw X A L) (jRi (-2) (tw X A L)) := by
  refine jMet_of (by decide) (Nat.le_of_ble_eq_true rfl) none (Or.inl rfl) ?_
  show jWP none RX1 cX1_neighbour 3 (some .int) (d + 1) 0 0 0 [some (.ref 5), some (.int (nI j)), some (.int (nI k))] [] (tw X A L) (jRi (-2) (tw X A L))
  have hd6 := dg_le j h
  refine j_iload_n dX1_neighbour_0 rfl rfl ?_
  refine j_callSi [.int _] [] dX1_neighbour_1 jlk_X1_33 rfl rfl (Nat.le_of_ble_eq_true rfl) (c_X1_isCell_in (by omega)) ?_
  refine j_if_eq (tgt := 35) dX1_neighbour_4 (by decide) (fun h => absurd h (by decide)) (fun _ => ?_)
  refine j_iload_n dX1_neighbour_7 rfl rfl ?_
  refine jn_if_lt (tgt := 35) dX1_neighbour_8 (by decide) (by omega) ?_
  refine j_iload_n dX1_neighbour_11 rfl rfl ?_
  refine j_aload_n dX1_neighbour_12 rfl rfl ?_
  refine t_getR (b := 7) dX1_neighbour_13 jfl_X1_15 (fun _ _ _ => rfl) rfl ?_
  refine j_iload_n dX1_neighbour_16 rfl rfl ?_
  refine t_ialoadT dX1_neighbour_17 (fun _ _ _ => rfl) (by omega) (by decide) ?_
  refine j_topE tDg_at ?_
  refine jn_icmp_ge (tgt := 35) dX1_neighbour_18 (by decide) (by omega) (by omega) (fun h18 => ?_) (fun h18 => by omega)
  refine j_bipush (v := (-2)) dX1_neighbour_35 rfl ?_
  refine j_ireturn dX1_neighbour_37 rfl ?_
  exact ⟨rfl, rfl⟩

set_option maxHeartbeats 4000000 in
set_option maxRecDepth 100000 in
theorem c_X1_distance {a b : Nat} (ha : a < 49) (hb : b < 49) : jMet (d + 1) yX1_distance cX1_distance 3 (some .int) 0 0 [.ref 5, .int (nI a), .int (nI b)] (tw X A L) (jRi (nI (dsN a b)) (tw X A L)) := by
  refine jMet_of (by decide) (Nat.le_of_ble_eq_true rfl) none (Or.inl rfl) ?_
  show jWP none RX1 cX1_distance 3 (some .int) (d + 1) 0 0 0 [some (.ref 5), some (.int (nI a)), some (.int (nI b))] [] (tw X A L) (jRi (nI (dsN a b)) (tw X A L))
  refine j_iload_n dX1_distance_0 rfl rfl ?_
  refine j_callSi [.int _] [] dX1_distance_1 jlk_X1_33 rfl rfl (Nat.le_of_ble_eq_true rfl) (c_X1_isCell_in (by omega)) ?_
  refine j_if_eq (tgt := 28) dX1_distance_4 (by decide) (fun h => absurd h (by decide)) (fun _ => ?_)
  refine j_iload_n dX1_distance_7 rfl rfl ?_
  refine j_callSi [.int _] [] dX1_distance_8 jlk_X1_33 rfl rfl (Nat.le_of_ble_eq_true rfl) (c_X1_isCell_in (by omega)) ?_
  refine j_if_eq (tgt := 28) dX1_distance_11 (by decide) (fun h => absurd h (by decide)) (fun _ => ?_)
  refine j_aload_n dX1_distance_14 rfl rfl ?_
  refine t_getR (b := 8) dX1_distance_15 jfl_X1_18 (fun _ _ _ => rfl) rfl ?_
  refine j_iload_n dX1_distance_18 rfl rfl ?_
  refine j_bipush (v := nI 49) dX1_distance_19 rfl ?_
  refine jn_imul dX1_distance_21 ?_
  refine j_iload_n dX1_distance_22 rfl rfl ?_
  refine jn_iadd dX1_distance_23 ?_
  refine t_ialoadT dX1_distance_24 (fun _ _ _ => rfl) (by omega) (by decide) ?_
  refine j_goto (tgt := 29) dX1_distance_25 (by decide) ?_
  refine j_ireturn dX1_distance_29 rfl ?_
  exact ⟨by rw [tDs_at hb], rfl⟩

set_option maxHeartbeats 4000000 in
set_option maxRecDepth 100000 in
theorem c_X0_holds {K : Nat} (hK : isK K) {j : Nat} (h : j < 49) : jMet (d + 1) yX0_holds cX0_holds 2 (some .boolean) 0 0 [.ref K, .int (nI j)] (tw X A L) (jRi (bz (heldB (A (K + 1)) j)) (tw X A L)) := by
  refine jMet_of (by decide) (Nat.le_of_ble_eq_true rfl) none (Or.inl rfl) ?_
  show jWP none RX0 cX0_holds 2 (some .boolean) (d + 1) 0 0 0 [some (.ref K), some (.int (nI j))] [] (tw X A L) (jRi (bz (heldB (A (K + 1)) j)) (tw X A L))
  refine j_iload_n dX0_holds_0 rfl rfl ?_
  refine j_callSi [.int _] [] dX0_holds_1 jlk_X0_41 rfl rfl (Nat.le_of_ble_eq_true rfl) (c_X1_isCell_in (by omega)) ?_
  refine j_if_eq (tgt := 21) dX0_holds_4 (by decide) (fun h => absurd h (by decide)) (fun _ => ?_)
  refine j_aload_n dX0_holds_7 rfl rfl ?_
  refine t_getR (b := (K + 1)) dX0_holds_8 jfl_X0_9 (shK0 hK) rfl ?_
  refine j_iload_n dX0_holds_11 rfl rfl ?_
  refine t_iaload dX0_holds_12 (shK1 hK) (by omega) (by decide) ?_
  refine j_iconst (v := (-1)) dX0_holds_13 rfl ?_
  refine j_icmp_eq (tgt := 21) dX0_holds_14 (by decide) (fun h14 => ?_) (fun h14 => ?_)
  · refine j_iconst (v := nI 0) dX0_holds_21 rfl ?_
    refine j_zreturn dX0_holds_22 rfl (by decide) ?_
    exact ⟨by simp [bz, heldB, h14], rfl⟩
  · refine j_iconst (v := nI 1) dX0_holds_17 rfl ?_
    refine j_goto (tgt := 22) dX0_holds_18 (by decide) ?_
    refine j_zreturn dX0_holds_22 rfl (by decide) ?_
    exact ⟨by simp [bz, heldB, h14], rfl⟩

set_option maxHeartbeats 4000000 in
set_option maxRecDepth 100000 in
theorem c_X0_holds_out {K : Nat} (hK : isK K) {c : Int32} (h : isc c = nI 0) : jMet (d + 1) yX0_holds cX0_holds 2 (some .boolean) 0 0 [.ref K, .int c] (tw X A L) (jRi (nI 0) (tw X A L)) := by
  refine jMet_of (by decide) (Nat.le_of_ble_eq_true rfl) none (Or.inl rfl) ?_
  show jWP none RX0 cX0_holds 2 (some .boolean) (d + 1) 0 0 0 [some (.ref K), some (.int c)] [] (tw X A L) (jRi (nI 0) (tw X A L))
  refine j_iload_n dX0_holds_0 rfl rfl ?_
  refine j_callSi [.int _] [] dX0_holds_1 jlk_X0_41 rfl rfl (Nat.le_of_ble_eq_true rfl) (c_X1_isCell) ?_
  refine j_if_eq (tgt := 21) dX0_holds_4 (by decide) (fun h4 => ?_) (fun h4 => absurd h h4)
  refine j_iconst (v := nI 0) dX0_holds_21 rfl ?_
  refine j_zreturn dX0_holds_22 rfl (by decide) ?_
  exact ⟨rfl, rfl⟩

set_option maxHeartbeats 4000000 in
set_option maxRecDepth 100000 in
theorem c_X0_ownerOf {K : Nat} (hK : isK K) {j : Nat} (h : j < 49) : jMet (d + 1) yX0_ownerOf cX0_ownerOf 2 (some .int) 0 0 [.ref K, .int (nI j)] (tw X A L) (jRi (A (K + 1) j) (tw X A L)) := by
  refine jMet_of (by decide) (Nat.le_of_ble_eq_true rfl) none (Or.inl rfl) ?_
  show jWP none RX0 cX0_ownerOf 2 (some .int) (d + 1) 0 0 0 [some (.ref K), some (.int (nI j))] [] (tw X A L) (jRi (A (K + 1) j) (tw X A L))
  refine j_iload_n dX0_ownerOf_0 rfl rfl ?_
  refine j_callSi [.int _] [] dX0_ownerOf_1 jlk_X0_41 rfl rfl (Nat.le_of_ble_eq_true rfl) (c_X1_isCell_in (by omega)) ?_
  refine j_if_eq (tgt := 16) dX0_ownerOf_4 (by decide) (fun h => absurd h (by decide)) (fun _ => ?_)
  refine j_aload_n dX0_ownerOf_7 rfl rfl ?_
  refine t_getR (b := (K + 1)) dX0_ownerOf_8 jfl_X0_9 (shK0 hK) rfl ?_
  refine j_iload_n dX0_ownerOf_11 rfl rfl ?_
  refine t_iaload dX0_ownerOf_12 (shK1 hK) (by omega) (by decide) ?_
  refine j_goto (tgt := 17) dX0_ownerOf_13 (by decide) ?_
  refine j_ireturn dX0_ownerOf_17 rfl ?_
  exact ⟨rfl, rfl⟩

set_option maxHeartbeats 4000000 in
set_option maxRecDepth 100000 in
theorem c_X0_sumOf {K : Nat} (hK : isK K) {j : Nat} (h : j < 49) : jMet (d + 1) yX0_sumOf cX0_sumOf 2 (some .int) 0 0 [.ref K, .int (nI j)] (tw X A L) (jRi (A (K + 2) j) (tw X A L)) := by
  refine jMet_of (by decide) (Nat.le_of_ble_eq_true rfl) none (Or.inl rfl) ?_
  show jWP none RX0 cX0_sumOf 2 (some .int) (d + 1) 0 0 0 [some (.ref K), some (.int (nI j))] [] (tw X A L) (jRi (A (K + 2) j) (tw X A L))
  refine j_iload_n dX0_sumOf_0 rfl rfl ?_
  refine j_callSi [.int _] [] dX0_sumOf_1 jlk_X0_41 rfl rfl (Nat.le_of_ble_eq_true rfl) (c_X1_isCell_in (by omega)) ?_
  refine j_if_eq (tgt := 16) dX0_sumOf_4 (by decide) (fun h => absurd h (by decide)) (fun _ => ?_)
  refine j_aload_n dX0_sumOf_7 rfl rfl ?_
  refine t_getR (b := (K + 2)) dX0_sumOf_8 jfl_X0_15 (shK0 hK) rfl ?_
  refine j_iload_n dX0_sumOf_11 rfl rfl ?_
  refine t_iaload dX0_sumOf_12 (shK2 hK) (by omega) (by decide) ?_
  refine j_goto (tgt := 17) dX0_sumOf_13 (by decide) ?_
  refine j_ireturn dX0_sumOf_17 rfl ?_
  exact ⟨rfl, rfl⟩

set_option maxHeartbeats 4000000 in
set_option maxRecDepth 100000 in
theorem c_X0_fullSidesOf {K : Nat} (hK : isK K) {j : Nat} (h : j < 49) (hc : cok X A K) : jMet (d + 2) yX0_fullSidesOf cX0_fullSidesOf 2 (some .int) 0 0 [.ref K, .int (nI j)] (tw X A L) (jRi (nI (dg j - eN (A (K + 1)) j)) (tw X A L)) := by
  refine jMet_of (by decide) (Nat.le_of_ble_eq_true rfl) none (Or.inl rfl) ?_
  show jWP none RX0 cX0_fullSidesOf 2 (some .int) (d + 2) 0 0 0 [some (.ref K), some (.int (nI j))] [] (tw X A L) (jRi (nI (dg j - eN (A (K + 1)) j)) (tw X A L))
  have he : eN (A (K + 1)) j ≤ dg j := eN_dg _ _
  refine j_iload_n dX0_fullSidesOf_0 rfl rfl ?_
  refine j_callSi [.int _] [] dX0_fullSidesOf_1 jlk_X0_41 rfl rfl (Nat.le_of_ble_eq_true rfl) (c_X1_isCell_in (by omega)) ?_
  refine j_if_eq (tgt := 25) dX0_fullSidesOf_4 (by decide) (fun h => absurd h (by decide)) (fun _ => ?_)
  refine j_aload_n dX0_fullSidesOf_7 rfl rfl ?_
  refine t_getR (b := 5) dX0_fullSidesOf_8 jfl_X0_25 (shK0 hK) rfl ?_
  refine j_iload_n dX0_fullSidesOf_11 rfl rfl ?_
  refine j_callVi [.int _] [] dX0_fullSidesOf_12 jlk_X0_29 rfl rfl rfl rfl (Nat.le_of_ble_eq_true rfl) (c_X1_degree (by omega)) ?_
  refine j_aload_n dX0_fullSidesOf_15 rfl rfl ?_
  refine t_getR (b := (K + 3)) dX0_fullSidesOf_16 jfl_X0_18 (shK0 hK) rfl ?_
  refine j_iload_n dX0_fullSidesOf_19 rfl rfl ?_
  refine t_iaload dX0_fullSidesOf_20 (shK3 hK) (by omega) (by decide) ?_
  refine j_topE (cokE hc h) ?_
  refine jn_isub dX0_fullSidesOf_21 he ?_
  refine j_goto (tgt := 26) dX0_fullSidesOf_22 (by decide) ?_
  refine j_ireturn dX0_fullSidesOf_26 rfl ?_
  exact ⟨rfl, rfl⟩

set_option maxHeartbeats 4000000 in
set_option maxRecDepth 100000 in
theorem c_X0_isSealed {K : Nat} (hK : isK K) {j : Nat} (h : j < 49) (hc : cok X A K) : jMet (d + 1) yX0_isSealed cX0_isSealed 2 (some .boolean) 0 0 [.ref K, .int (nI j)] (tw X A L) (jRi (bz (slB (A (K + 1)) j)) (tw X A L)) := by
  refine jMet_of (by decide) (Nat.le_of_ble_eq_true rfl) none (Or.inl rfl) ?_
  show jWP none RX0 cX0_isSealed 2 (some .boolean) (d + 1) 0 0 0 [some (.ref K), some (.int (nI j))] [] (tw X A L) (jRi (bz (slB (A (K + 1)) j)) (tw X A L))
  have he := eN_le (O := A (K + 1)) h
  refine j_iload_n dX0_isSealed_0 rfl rfl ?_
  refine j_callSi [.int _] [] dX0_isSealed_1 jlk_X0_41 rfl rfl (Nat.le_of_ble_eq_true rfl) (c_X1_isCell_in (by omega)) ?_
  refine j_if_eq (tgt := 30) dX0_isSealed_4 (by decide) (fun h => absurd h (by decide)) (fun _ => ?_)
  refine j_aload_n dX0_isSealed_7 rfl rfl ?_
  refine t_getR (b := (K + 1)) dX0_isSealed_8 jfl_X0_9 (shK0 hK) rfl ?_
  refine j_iload_n dX0_isSealed_11 rfl rfl ?_
  refine t_iaload dX0_isSealed_12 (shK1 hK) (by omega) (by decide) ?_
  refine j_iconst (v := (-1)) dX0_isSealed_13 rfl ?_
  refine j_icmp_eq (tgt := 30) dX0_isSealed_14 (by decide) (fun h14 => ?_) (fun h14 => ?_)
  · refine j_iconst (v := nI 0) dX0_isSealed_30 rfl ?_
    refine j_zreturn dX0_isSealed_31 rfl (by decide) ?_
    exact ⟨by simp [bz, slB, heldB, h14] <;> omega, rfl⟩
  · refine j_aload_n dX0_isSealed_17 rfl rfl ?_
    refine t_getR (b := (K + 3)) dX0_isSealed_18 jfl_X0_18 (shK0 hK) rfl ?_
    refine j_iload_n dX0_isSealed_21 rfl rfl ?_
    refine t_iaload dX0_isSealed_22 (shK3 hK) (by omega) (by decide) ?_
    refine j_topE (cokE hc h) ?_
    refine jn_if_ne (tgt := 30) dX0_isSealed_23 (by decide) (by omega) (fun h23 => ?_) (fun h23 => ?_)
    · refine j_iconst (v := nI 0) dX0_isSealed_30 rfl ?_
      refine j_zreturn dX0_isSealed_31 rfl (by decide) ?_
      exact ⟨by simp [bz, slB, heldB, h14, h23] <;> omega, rfl⟩
    · refine j_iconst (v := nI 1) dX0_isSealed_26 rfl ?_
      refine j_goto (tgt := 31) dX0_isSealed_27 (by decide) ?_
      refine j_zreturn dX0_isSealed_31 rfl (by decide) ?_
      exact ⟨by simp [bz, slB, heldB, h14, h23] <;> omega, rfl⟩

set_option maxHeartbeats 4000000 in
set_option maxRecDepth 100000 in
theorem c_X0_heldCount {K : Nat} (hK : isK K) (hc : cok X A K) : jMet (d) yX0_heldCount cX0_heldCount 1 (some .int) 0 0 [.ref K] (tw X A L) (jRi (nI (hN (A (K + 1)))) (tw X A L)) := by
  refine jMet_of (by decide) (Nat.le_of_ble_eq_true rfl) none (Or.inl rfl) ?_
  show jWP none RX0 cX0_heldCount 1 (some .int) (d) 0 0 0 [some (.ref K)] [] (tw X A L) (jRi (nI (hN (A (K + 1)))) (tw X A L))
  refine j_aload_n dX0_heldCount_0 rfl rfl ?_
  refine t_getI dX0_heldCount_1 jfl_X0_21 (shK0 hK) (fun _ => rfl) ?_
  refine j_topE (cokH hc) ?_
  refine j_ireturn dX0_heldCount_4 rfl ?_
  exact ⟨rfl, rfl⟩

set_option maxHeartbeats 4000000 in
set_option maxRecDepth 100000 in
theorem l_X0_balanceOf {K : Nat} (hK : isK K) {a : Int32} : ∀ (m i : Nat), i ≤ 49 → 49 - i < m → jWP none RX0 cX0_balanceOf 4 (some .int) (d) 0 0 4 [some (.ref K), some (.int a), some (.int (balS (A (K + 1)) (A (K + 2)) a i)), some (.int (nI i))] [] (tw X A L) (jRi (balS (A (K + 1)) (A (K + 2)) a 49) (tw X A L)) := by
  intro m
  induction m with
  | zero => intro i h1 h2; omega
  | succ m ih =>
    intro i hi hm
    refine j_iload_n dX0_balanceOf_4 rfl rfl ?_
    refine j_bipush (v := nI 49) dX0_balanceOf_5 rfl ?_
    refine jn_icmp_ge (tgt := 35) dX0_balanceOf_7 (by decide) (by omega) (by omega) (fun h7 => ?_) (fun h7 => ?_)
    · refine j_iload_n dX0_balanceOf_35 rfl rfl ?_
      refine j_ireturn dX0_balanceOf_36 rfl ?_
      exact ⟨by rw [show i = 49 by omega], rfl⟩
    · refine j_aload_n dX0_balanceOf_10 rfl rfl ?_
      refine t_getR (b := (K + 1)) dX0_balanceOf_11 jfl_X0_9 (shK0 hK) rfl ?_
      refine j_iload_n dX0_balanceOf_14 rfl rfl ?_
      refine t_iaload dX0_balanceOf_15 (shK1 hK) (by omega) (by decide) ?_
      refine j_iload_n dX0_balanceOf_16 rfl rfl ?_
      refine j_icmp_ne (tgt := 29) dX0_balanceOf_17 (by decide) (fun h17 => ?_) (fun h17 => ?_)
      · refine jn_iinc (lv' := [some (.ref K), some (.int _), some (.int _), some (.int _)]) dX0_balanceOf_29 rfl (by decide) rfl ?_
        refine j_goto (tgt := 4) dX0_balanceOf_32 (by decide) ?_
        refine j_sub ?_ (ih (i + 1) (by omega) (by omega))
        simp only [jsub, balS, if_neg h17, and_self]
      · refine j_iload_n dX0_balanceOf_20 rfl rfl ?_
        refine j_aload_n dX0_balanceOf_21 rfl rfl ?_
        refine t_getR (b := (K + 2)) dX0_balanceOf_22 jfl_X0_15 (shK0 hK) rfl ?_
        refine j_iload_n dX0_balanceOf_25 rfl rfl ?_
        refine t_iaload dX0_balanceOf_26 (shK2 hK) (by omega) (by decide) ?_
        refine j_iadd dX0_balanceOf_27 ?_
        refine j_istore_n (lv' := [some (.ref K), some (.int _), some (.int _), some (.int _)]) dX0_balanceOf_28 rfl (by decide) rfl ?_
        refine jn_iinc (lv' := [some (.ref K), some (.int _), some (.int _), some (.int _)]) dX0_balanceOf_29 rfl (by decide) rfl ?_
        refine j_goto (tgt := 4) dX0_balanceOf_32 (by decide) ?_
        refine j_sub ?_ (ih (i + 1) (by omega) (by omega))
        simp only [jsub, balS, if_pos h17, and_self]

set_option maxHeartbeats 4000000 in
set_option maxRecDepth 100000 in
theorem c_X0_balanceOf {K : Nat} (hK : isK K) {a : Int32} : jMet (d) yX0_balanceOf cX0_balanceOf 4 (some .int) 0 0 [.ref K, .int a] (tw X A L) (jRi (balS (A (K + 1)) (A (K + 2)) a 49) (tw X A L)) := by
  refine jMet_of (by decide) (Nat.le_of_ble_eq_true rfl) none (Or.inl rfl) ?_
  show jWP none RX0 cX0_balanceOf 4 (some .int) (d) 0 0 0 [some (.ref K), some (.int a), none, none] [] (tw X A L) (jRi (balS (A (K + 1)) (A (K + 2)) a 49) (tw X A L))
  refine j_iconst (v := nI 0) dX0_balanceOf_0 rfl ?_
  refine j_istore_n (lv' := [some (.ref K), some (.int _), some (.int _), none]) dX0_balanceOf_1 rfl (by decide) rfl ?_
  refine j_iconst (v := nI 0) dX0_balanceOf_2 rfl ?_
  refine j_istore_n (lv' := [some (.ref K), some (.int _), some (.int _), some (.int _)]) dX0_balanceOf_3 rfl (by decide) rfl ?_
  exact l_X0_balanceOf hK 50 0 (by omega) (by omega)

set_option maxHeartbeats 4000000 in
set_option maxRecDepth 100000 in
theorem l_X0_allBalances {K : Nat} (hK : isK K) : ∀ (m i : Nat), i ≤ 49 → 49 - i < m → jWP none RX0 cX0_allBalances 3 (some .int) (d) 0 0 4 [some (.ref K), some (.int (allS (A (K + 2)) i)), some (.int (nI i))] [] (tw X A L) (jRi (allS (A (K + 2)) 49) (tw X A L)) := by
  intro m
  induction m with
  | zero => intro i h1 h2; omega
  | succ m ih =>
    intro i hi hm
    refine j_iload_n dX0_allBalances_4 rfl rfl ?_
    refine j_bipush (v := nI 49) dX0_allBalances_5 rfl ?_
    refine jn_icmp_ge (tgt := 25) dX0_allBalances_7 (by decide) (by omega) (by omega) (fun h7 => ?_) (fun h7 => ?_)
    · refine j_iload_n dX0_allBalances_25 rfl rfl ?_
      refine j_ireturn dX0_allBalances_26 rfl ?_
      exact ⟨by rw [show i = 49 by omega], rfl⟩
    · refine j_iload_n dX0_allBalances_10 rfl rfl ?_
      refine j_aload_n dX0_allBalances_11 rfl rfl ?_
      refine t_getR (b := (K + 2)) dX0_allBalances_12 jfl_X0_15 (shK0 hK) rfl ?_
      refine j_iload_n dX0_allBalances_15 rfl rfl ?_
      refine t_iaload dX0_allBalances_16 (shK2 hK) (by omega) (by decide) ?_
      refine j_iadd dX0_allBalances_17 ?_
      refine j_istore_n (lv' := [some (.ref K), some (.int _), some (.int _)]) dX0_allBalances_18 rfl (by decide) rfl ?_
      refine jn_iinc (lv' := [some (.ref K), some (.int _), some (.int _)]) dX0_allBalances_19 rfl (by decide) rfl ?_
      refine j_goto (tgt := 4) dX0_allBalances_22 (by decide) ?_
      refine j_sub ?_ (ih (i + 1) (by omega) (by omega))
      exact ⟨rfl, rfl, rfl, trivial⟩

set_option maxHeartbeats 4000000 in
set_option maxRecDepth 100000 in
theorem c_X0_allBalances {K : Nat} (hK : isK K) : jMet (d) yX0_allBalances cX0_allBalances 3 (some .int) 0 0 [.ref K] (tw X A L) (jRi (allS (A (K + 2)) 49) (tw X A L)) := by
  refine jMet_of (by decide) (Nat.le_of_ble_eq_true rfl) none (Or.inl rfl) ?_
  show jWP none RX0 cX0_allBalances 3 (some .int) (d) 0 0 0 [some (.ref K), none, none] [] (tw X A L) (jRi (allS (A (K + 2)) 49) (tw X A L))
  refine j_iconst (v := nI 0) dX0_allBalances_0 rfl ?_
  refine j_istore_n (lv' := [some (.ref K), some (.int _), none]) dX0_allBalances_1 rfl (by decide) rfl ?_
  refine j_iconst (v := nI 0) dX0_allBalances_2 rfl ?_
  refine j_istore_n (lv' := [some (.ref K), some (.int _), some (.int _)]) dX0_allBalances_3 rfl (by decide) rfl ?_
  exact l_X0_allBalances hK 50 0 (by omega) (by omega)

theorem bz_t {b : Bool} (h : ¬ bz b = 0) : b = true := by cases b <;> first | rfl | exact absurd rfl h
theorem bz_f {b : Bool} (h : bz b = 0) : b = false := by cases b <;> first | rfl | exact absurd h (by decide)

set_option maxHeartbeats 4000000 in
set_option maxRecDepth 100000 in
theorem l_X0_sealedCount {K : Nat} (hK : isK K) (hc : cok X A K) : ∀ (m i : Nat), i ≤ 49 → 49 - i < m → jWP none RX0 cX0_sealedCount 3 (some .int) (d + 2) 0 0 4 [some (.ref K), some (.int (nI (cnt (slB (A (K + 1))) i))), some (.int (nI i))] [] (tw X A L) (jRi (nI (cnt (slB (A (K + 1))) 49)) (tw X A L)) := by
  intro m
  induction m with
  | zero => intro i h1 h2; omega
  | succ m ih =>
    intro i hi hm
    refine j_iload_n dX0_sealedCount_4 rfl rfl ?_
    refine j_bipush (v := nI 49) dX0_sealedCount_5 rfl ?_
    refine jn_icmp_ge (tgt := 27) dX0_sealedCount_7 (by decide) (by omega) (by omega) (fun h7 => ?_) (fun h7 => ?_)
    · refine j_iload_n dX0_sealedCount_27 rfl rfl ?_
      refine j_ireturn dX0_sealedCount_28 rfl ?_
      exact ⟨by rw [show i = 49 by omega], rfl⟩
    · refine j_aload_n dX0_sealedCount_10 rfl rfl ?_
      refine j_iload_n dX0_sealedCount_11 rfl rfl ?_
      refine j_callVi [.int _] [] dX0_sealedCount_12 jlk_X0_45 rfl rfl ((shK0 hK) _ _ _) rfl (Nat.le_of_ble_eq_true rfl) (c_X0_isSealed hK (by omega) hc) ?_
      refine j_if_eq (tgt := 21) dX0_sealedCount_15 (by decide) (fun h15 => ?_) (fun h15 => ?_)
      · have h15 := bz_f h15
        refine jn_iinc (lv' := [some (.ref K), some (.int _), some (.int _)]) dX0_sealedCount_21 rfl (by decide) rfl ?_
        refine j_goto (tgt := 4) dX0_sealedCount_24 (by decide) ?_
        refine j_sub ?_ (ih (i + 1) (by omega) (by omega))
        simp [jsub, cnt, h7, h15]
      · have h15 := bz_t h15
        refine jn_iinc (lv' := [some (.ref K), some (.int _), some (.int _)]) dX0_sealedCount_18 rfl (by decide) rfl ?_
        refine jn_iinc (lv' := [some (.ref K), some (.int _), some (.int _)]) dX0_sealedCount_21 rfl (by decide) rfl ?_
        refine j_goto (tgt := 4) dX0_sealedCount_24 (by decide) ?_
        refine j_sub ?_ (ih (i + 1) (by omega) (by omega))
        simp [jsub, cnt, h7, h15]

set_option maxHeartbeats 4000000 in
set_option maxRecDepth 100000 in
theorem c_X0_sealedCount {K : Nat} (hK : isK K) (hc : cok X A K) : jMet (d + 2) yX0_sealedCount cX0_sealedCount 3 (some .int) 0 0 [.ref K] (tw X A L) (jRi (nI (cnt (slB (A (K + 1))) 49)) (tw X A L)) := by
  refine jMet_of (by decide) (Nat.le_of_ble_eq_true rfl) none (Or.inl rfl) ?_
  show jWP none RX0 cX0_sealedCount 3 (some .int) (d + 2) 0 0 0 [some (.ref K), none, none] [] (tw X A L) (jRi (nI (cnt (slB (A (K + 1))) 49)) (tw X A L))
  refine j_iconst (v := nI 0) dX0_sealedCount_0 rfl ?_
  refine j_istore_n (lv' := [some (.ref K), some (.int _), none]) dX0_sealedCount_1 rfl (by decide) rfl ?_
  refine j_iconst (v := nI 0) dX0_sealedCount_2 rfl ?_
  refine j_istore_n (lv' := [some (.ref K), some (.int _), some (.int _)]) dX0_sealedCount_3 rfl (by decide) rfl ?_
  exact l_X0_sealedCount hK hc 50 0 (by omega) (by omega)

end CT0