/-- whether an int is a cell's number -/
def isc (c : Int32) : Int32 := if c < 0 then nI 0 else if nI 49 ≤ c then nI 0 else nI 1
theorem isc_in {j : Nat} (h : j < 49) : isc (nI j) = nI 1 := by
  unfold isc
  rw [if_neg (nI_pos (by omega)), if_neg (fun q => by have := (nI_leI (a := 49) (by decide) (by omega)).mp q; omega)]
section CT0
variable {d : Nat} {X A : Nat → Nat → Int32} {L : Nat → Nat → Int64} {w : jW}

set_option maxHeartbeats 4000000 in
set_option maxRecDepth 100000 in
theorem c_X1_isCell {c : Int32} : jMet (d) yX1_isCell cX1_isCell 1 (some .boolean) 0 0 [.int c] (w) (jRi (isc c) w) := by
  refine jMet_of (by decide) (Nat.le_of_ble_eq_true rfl) none (Or.inl rfl) ?_
  show jWP none RX1 cX1_isCell 1 (some .boolean) (d) 0 0 0 [some (.int c)] [] (w) (jRi (isc c) w)
  refine j_iload_n dX1_isCell_0 rfl rfl ?_
  refine j_if_lt (tgt := 14) dX1_isCell_1 (by decide) (fun h1 => ?_) (fun h1 => ?_)
  · refine j_iconst (v := nI 0) dX1_isCell_14 rfl ?_
    refine j_zreturn dX1_isCell_15 rfl (by decide) ?_
    exact ⟨by simp only [isc, if_pos h1], rfl⟩
  · refine j_iload_n dX1_isCell_4 rfl rfl ?_
    refine j_bipush (v := nI 49) dX1_isCell_5 rfl ?_
    refine j_icmp_ge (tgt := 14) dX1_isCell_7 (by decide) (fun h7 => ?_) (fun h7 => ?_)
    · refine j_iconst (v := nI 0) dX1_isCell_14 rfl ?_
      refine j_zreturn dX1_isCell_15 rfl (by decide) ?_
      exact ⟨by simp only [isc, if_neg h1, if_pos h7], rfl⟩
    · refine j_iconst (v := nI 1) dX1_isCell_10 rfl ?_
      refine j_goto (tgt := 15) dX1_isCell_11 (by decide) ?_
      refine j_zreturn dX1_isCell_15 rfl (by decide) ?_
      exact ⟨by simp only [isc, if_neg h1, if_neg h7], rfl⟩

theorem c_X1_isCell_in {j : Nat} (h : j < 49) : jMet d yX1_isCell cX1_isCell 1 (some .boolean) 0 0 [.int (nI j)] w (jRi (nI 1) w) := jMet_i c_X1_isCell (isc_in h) rfl

/-- a sum over the first n places of what is the account's -/
def balS (O S : Nat → Int32) (a : Int32) : Nat → Int32
  | 0 => nI 0
  | n + 1 => if O n = a then balS O S a n + S n else balS O S a n

set_option maxHeartbeats 4000000 in
set_option maxRecDepth 100000 in
theorem l_X0_balanceOf {K : Nat} (hK : isK K) {a : Int32} : ∀ (m i : Nat), i ≤ 49 → 49 - i < m → jWP none RX0 cX0_balanceOf 4 (some .int) (d) 0 0 4 [some (.ref K), some (.int a), some (.int (balS (A (K + 1)) (A (K + 2)) a i)), some (.int (nI i))] [] (tw X A L) (jRi (balS (A (K + 1)) (A (K + 2)) a 49) (tw X A L)) := by
  intro m
  induction m with
  | zero => intro i h1 h2; omega
  | succ m ih =>
    intro i hi hm
    refine j_iload_n dX0_balanceOf_4 rfl rfl ?_
    refine j_bipush (v := nI 49) dX0_balanceOf_5 rfl ?_
    refine jn_icmp_ge (tgt := 35) dX0_balanceOf_7 (by decide) (by omega) (by omega) (fun h7 => ?_) (fun h7 => ?_)
    · refine j_iload_n dX0_balanceOf_35 rfl rfl ?_
      refine j_ireturn dX0_balanceOf_36 rfl ?_
      exact ⟨by rw [show i = 49 by omega], rfl⟩
    · refine j_aload_n dX0_balanceOf_10 rfl rfl ?_
      refine t_getR (b := (K + 1)) dX0_balanceOf_11 jfl_X0_9 (shK0 hK) rfl ?_
      refine j_iload_n dX0_balanceOf_14 rfl rfl ?_
      refine t_iaload dX0_balanceOf_15 (shK1 hK) (by omega) (by decide) ?_
      refine j_iload_n dX0_balanceOf_16 rfl rfl ?_
      refine j_icmp_ne (tgt := 29) dX0_balanceOf_17 (by decide) (fun h17 => ?_) (fun h17 => ?_)
      · refine jn_iinc (lv' := [some (.ref K), some (.int _), some (.int _), some (.int _)]) dX0_balanceOf_29 rfl (by decide) rfl ?_
        refine j_goto (tgt := 4) dX0_balanceOf_32 (by decide) ?_
        refine j_at ?_ (ih (i + 1) (by omega) (by omega))
        simp only [balS, if_neg h17]
      · refine j_iload_n dX0_balanceOf_20 rfl rfl ?_
        refine j_aload_n dX0_balanceOf_21 rfl rfl ?_
        refine t_getR (b := (K + 2)) dX0_balanceOf_22 jfl_X0_15 (shK0 hK) rfl ?_
        refine j_iload_n dX0_balanceOf_25 rfl rfl ?_
        refine t_iaload dX0_balanceOf_26 (shK2 hK) (by omega) (by decide) ?_
        refine j_iadd dX0_balanceOf_27 ?_
        refine j_istore_n (lv' := [some (.ref K), some (.int _), some (.int _), some (.int _)]) dX0_balanceOf_28 rfl (by decide) rfl ?_
        refine jn_iinc (lv' := [some (.ref K), some (.int _), some (.int _), some (.int _)]) dX0_balanceOf_29 rfl (by decide) rfl ?_
        refine j_goto (tgt := 4) dX0_balanceOf_32 (by decide) ?_
        refine j_at ?_ (ih (i + 1) (by omega) (by omega))
        simp only [balS, if_pos h17]

set_option maxHeartbeats 4000000 in
set_option maxRecDepth 100000 in
theorem c_X0_balanceOf {K : Nat} (hK : isK K) {a : Int32} : jMet (d) yX0_balanceOf cX0_balanceOf 4 (some .int) 0 0 [.ref K, .int a] (tw X A L) (jRi (balS (A (K + 1)) (A (K + 2)) a 49) (tw X A L)) := by
  refine jMet_of (by decide) (Nat.le_of_ble_eq_true rfl) none (Or.inl rfl) ?_
  show jWP none RX0 cX0_balanceOf 4 (some .int) (d) 0 0 0 [some (.ref K), some (.int a), none, none] [] (tw X A L) (jRi (balS (A (K + 1)) (A (K + 2)) a 49) (tw X A L))
  refine j_iconst (v := nI 0) dX0_balanceOf_0 rfl ?_
  refine j_istore_n (lv' := [some (.ref K), some (.int _), some (.int _), none]) dX0_balanceOf_1 rfl (by decide) rfl ?_
  refine j_iconst (v := nI 0) dX0_balanceOf_2 rfl ?_
  refine j_istore_n (lv' := [some (.ref K), some (.int _), some (.int _), some (.int _)]) dX0_balanceOf_3 rfl (by decide) rfl ?_
  exact l_X0_balanceOf hK 50 0 (by omega) (by omega)

end CT0