def e1S (c : cS) : cS := winS (min 1 (hN c.1)) c
def olF (a x : Int32) : Nat → Nat → cS → Int32 → Int32
  | 0, _, _, m => m
  | f + 1, i, c, m => if balS c.1 c.2 a 49 < x then m else olF a x f (i + 1) (e1S c) (nI i)
theorem olF_t {a x : Int32} {f i : Nat} {c : cS} {m : Int32} (h : balS c.1 c.2 a 49 < x) : olF a x (f + 1) i c m = m := if_pos h
theorem olF_f {a x : Int32} {f i : Nat} {c : cS} {m : Int32} (h : ¬ balS c.1 c.2 a 49 < x) : olF a x (f + 1) i c m = olF a x f (i + 1) (e1S c) (nI i) := if_neg h
theorem e1S_z {c : cS} (h : zb 49 c.1 ∧ zb 49 c.2) : zb 49 (e1S c).1 ∧ zb 49 (e1S c).2 := winS_z (c := c) h.1 h.2 _
section CT25
variable {d : Nat} {X A : Nat → Nat → Int32} {L : Nat → Nat → Int64} {w : jW} {B : Nat} {cd vl st an en : Nat → Nat} {n na : Nat} {v : Nat → Nat} {nb : Nat} {kd : Nat → Nat}

set_option maxHeartbeats 200000 in
set_option maxRecDepth 100000 in
theorem l_outlasts {k : Nat} {x : Int32} {r : Int32} : ∀ (f i : Nat) (c : cS) (m : Int32), i + f = 50 → zb 49 c.1 ∧ zb 49 c.2 → olF (nI k) x f i c m = r → jWP none RX10 cX10_outlasts 5 (some .int) (d + 5) 0 0 41 [some (.ref 4), some (.int (nI k)), some (.int x), some (.int m), some (.int (nI i))] [] (tw (cX X 47 c.1) (cA A 47 c.1 c.2) L) ((fun z w => z = some (.int r) ∧ ∃ c : cS, (zb 49 c.1 ∧ zb 49 c.2) ∧ w = tw (cX X 47 c.1) (cA A 47 c.1 c.2) L)) := by
  intro f
  induction f with
  | zero =>
    intro i c m hi hz hr
    refine j_iload dX10_outlasts_41 rfl ?_
    refine j_bipush (v := nI 49) dX10_outlasts_43 rfl ?_
    refine jn_icmp_gt (tgt := 78) dX10_outlasts_45 (by decide) (by omega) (by omega) (fun h45 => ?_) (fun h45 => absurd h45 (by omega))
    refine j_iload_n dX10_outlasts_78 rfl rfl ?_
    refine j_ireturn dX10_outlasts_79 rfl ?_
    exact ⟨by rw [← hr]; rfl, c, hz, rfl⟩
  | succ f ih =>
    intro i c m hi hz hr
    refine j_iload dX10_outlasts_41 rfl ?_
    refine j_bipush (v := nI 49) dX10_outlasts_43 rfl ?_
    refine jn_icmp_gt (tgt := 78) dX10_outlasts_45 (by decide) (by omega) (by omega) (fun h45 => absurd h45 (by omega)) (fun h45 => ?_)
    refine j_aload_n dX10_outlasts_48 rfl rfl ?_
    refine t_getR (b := 47) dX10_outlasts_49 jfl_X10_50 (fun _ _ _ => rfl) rfl ?_
    refine j_iload_n dX10_outlasts_52 rfl rfl ?_
    refine j_callVi [.int _] [] dX10_outlasts_53 jlk_X10_130 rfl rfl rfl rfl (Nat.le_of_ble_eq_true rfl) (c_X0_balanceOf (Or.inr (Or.inr (Or.inl rfl)))) ?_
    rw [cA_1, cA_2]
    refine j_iload_n dX10_outlasts_56 rfl rfl ?_
    refine j_icmp_lt (tgt := 78) dX10_outlasts_57 (by decide) (fun h57 => ?_) (fun h57 => ?_)
    · refine j_iload_n dX10_outlasts_78 rfl rfl ?_
      refine j_ireturn dX10_outlasts_79 rfl ?_
      exact ⟨by rw [← hr]; rw [olF_t h57], c, hz, rfl⟩
    · refine j_iload dX10_outlasts_60 rfl ?_
      refine j_istore_n (lv' := [some (.ref 4), some (.int _), some (.int _), some (.int _), some (.int _)]) dX10_outlasts_62 rfl (by decide) rfl ?_
      refine j_aload_n dX10_outlasts_63 rfl rfl ?_
      refine t_getR (b := 47) dX10_outlasts_64 jfl_X10_50 (fun _ _ _ => rfl) rfl ?_
      refine j_iconst (v := nI 1) dX10_outlasts_67 rfl ?_
      refine j_callVi [.int _] [] dX10_outlasts_68 jlk_X10_185 rfl rfl rfl rfl (Nat.le_of_ble_eq_true rfl) (c_X0_eatCells (Or.inr (Or.inr (Or.inl rfl))) (cok_c hz.1 hz.2) (by decide)) ?_
      rw [cA_1, cA_2, cX_cX, cA_cA]
      refine j_pop dX10_outlasts_71 rfl ?_
      refine jn_iinc (lv' := [some (.ref 4), some (.int _), some (.int _), some (.int _), some (.int _)]) dX10_outlasts_72 rfl (by decide) rfl ?_
      refine j_goto (tgt := 41) dX10_outlasts_75 (by decide) ?_
      refine ih (i + 1) (e1S c) (nI i) (by omega) (e1S_z hz) ?_
      rw [← hr]
      exact (olF_f h57).symm

set_option maxHeartbeats 200000 in
set_option maxRecDepth 100000 in
theorem c_outlasts_no (hr : rul B cd vl st an en n na v X A) {a x : Int32} (h : isA na a = nI 0 ∨ x < nI 1 ∨ nI 99 < x) : jMet (d + 5) yX10_outlasts cX10_outlasts 5 (some .int) 0 0 [.ref 4, .int a, .int x] (tw X A L) (jRi (-1) (tw X A L)) := by
  refine jMet_of (by decide) (Nat.le_of_ble_eq_true rfl) none (Or.inl rfl) ?_
  show jWP none RX10 cX10_outlasts 5 (some .int) (d + 5) 0 0 0 [some (.ref 4), some (.int a), some (.int x), none, none] [] (tw X A L) (jRi (-1) (tw X A L))
  obtain ⟨hB, r2, r3, r4, r5, r6, r7, r8, r9, r10, r11, r12, r13⟩ := id hr
  refine j_aload_n dX10_outlasts_0 rfl rfl ?_
  refine t_getR (b := 10) dX10_outlasts_1 jfl_X10_19 (fun _ _ _ => rfl) rfl ?_
  refine j_iload_n dX10_outlasts_4 rfl rfl ?_
  refine j_callVi [.int _] [] dX10_outlasts_5 jlk_X10_127 rfl rfl rfl rfl (Nat.le_of_ble_eq_true rfl) (c_X7_isAccount r10 r11) ?_
  refine j_if_eq (tgt := 22) dX10_outlasts_8 (by decide) (fun h8 => ?_) (fun h8 => ?_)
  · refine j_iconst (v := (-1)) dX10_outlasts_22 rfl ?_
    refine j_ireturn dX10_outlasts_23 rfl ?_
    exact ⟨rfl, rfl⟩
  · refine j_iload_n dX10_outlasts_11 rfl rfl ?_
    refine j_iconst (v := nI 1) dX10_outlasts_12 rfl ?_
    refine j_icmp_lt (tgt := 22) dX10_outlasts_13 (by decide) (fun h13 => ?_) (fun h13 => ?_)
    · refine j_iconst (v := (-1)) dX10_outlasts_22 rfl ?_
      refine j_ireturn dX10_outlasts_23 rfl ?_
      exact ⟨rfl, rfl⟩
    · refine j_iload_n dX10_outlasts_16 rfl rfl ?_
      refine j_bipush (v := nI 99) dX10_outlasts_17 rfl ?_
      refine j_icmp_le (tgt := 24) dX10_outlasts_19 (by decide) (fun h19 => ?_) (fun h19 => ?_)
      · exfalso
        rcases h with h | h | h
        · exact h8 h
        · exact h13 h
        · exact Int32.not_lt.mpr h19 h
      · refine j_iconst (v := (-1)) dX10_outlasts_22 rfl ?_
        refine j_ireturn dX10_outlasts_23 rfl ?_
        exact ⟨rfl, rfl⟩

set_option maxHeartbeats 200000 in
set_option maxRecDepth 100000 in
theorem c_outlasts (hr : rul B cd vl st an en n na v X A) (hc : cok X A 43) (hc47 : cok X A 47) {k x : Nat} (hk : k < na) (hx1 : 1 ≤ x) (hx : x ≤ 99) : jMet (d + 5) yX10_outlasts cX10_outlasts 5 (some .int) 0 0 [.ref 4, .int (nI k), .int (nI x)] (tw X A L) ((fun z w => z = some (.int (olF (nI k) (nI x) 50 0 (A 44, A 45) (-2))) ∧ ∃ c : cS, (zb 49 c.1 ∧ zb 49 c.2) ∧ w = tw (cX X 47 c.1) (cA A 47 c.1 c.2) L)) := by
  refine jMet_of (by decide) (Nat.le_of_ble_eq_true rfl) none (Or.inl rfl) ?_
  show jWP none RX10 cX10_outlasts 5 (some .int) (d + 5) 0 0 0 [some (.ref 4), some (.int (nI k)), some (.int (nI x)), none, none] [] (tw X A L) ((fun z w => z = some (.int (olF (nI k) (nI x) 50 0 (A 44, A 45) (-2))) ∧ ∃ c : cS, (zb 49 c.1 ∧ zb 49 c.2) ∧ w = tw (cX X 47 c.1) (cA A 47 c.1 c.2) L))
  obtain ⟨hB, r2, r3, r4, r5, r6, r7, r8, r9, r10, r11, r12, r13⟩ := id hr
  refine j_aload_n dX10_outlasts_0 rfl rfl ?_
  refine t_getR (b := 10) dX10_outlasts_1 jfl_X10_19 (fun _ _ _ => rfl) rfl ?_
  refine j_iload_n dX10_outlasts_4 rfl rfl ?_
  refine j_callVi [.int _] [] dX10_outlasts_5 jlk_X10_127 rfl rfl rfl rfl (Nat.le_of_ble_eq_true rfl) (c_X7_isAccount_in r10 r11 hk) ?_
  refine j_if_eq (tgt := 22) dX10_outlasts_8 (by decide) (fun h => absurd h (by decide)) (fun _ => ?_)
  refine j_iload_n dX10_outlasts_11 rfl rfl ?_
  refine j_iconst (v := nI 1) dX10_outlasts_12 rfl ?_
  refine jn_icmp_lt (tgt := 22) dX10_outlasts_13 (by decide) (by omega) (by omega) (fun h13 => absurd h13 (by omega)) (fun h13 => ?_)
  refine j_iload_n dX10_outlasts_16 rfl rfl ?_
  refine j_bipush (v := nI 99) dX10_outlasts_17 rfl ?_
  refine jn_icmp_le (tgt := 24) dX10_outlasts_19 (by decide) (by omega) (by omega) (fun h19 => ?_) (fun h19 => absurd h19 (by omega))
  refine j_aload_n dX10_outlasts_24 rfl rfl ?_
  refine t_getR (b := 47) dX10_outlasts_25 jfl_X10_50 (fun _ _ _ => rfl) rfl ?_
  refine j_aload_n dX10_outlasts_28 rfl rfl ?_
  refine t_getR (b := 43) dX10_outlasts_29 jfl_X10_46 (fun _ _ _ => rfl) rfl ?_
  refine j_callVv [.ref 43] [] dX10_outlasts_32 jlk_X10_181 rfl rfl rfl rfl (Nat.le_of_ble_eq_true rfl) (c_X0_become (Or.inr (Or.inr (Or.inl rfl))) (Or.inr (Or.inl rfl)) hc47 hc) ?_
  rw [show (43 + 1 : Nat) = 44 from rfl, show (43 + 2 : Nat) = 45 from rfl]
  refine j_bipush (v := (-2)) dX10_outlasts_35 rfl ?_
  refine j_istore_n (lv' := [some (.ref 4), some (.int _), some (.int _), some (.int _), none]) dX10_outlasts_37 rfl (by decide) rfl ?_
  refine j_iconst (v := nI 0) dX10_outlasts_38 rfl ?_
  refine j_istore (lv' := [some (.ref 4), some (.int _), some (.int _), some (.int _), some (.int _)]) dX10_outlasts_39 (by decide) rfl ?_
  exact l_outlasts 50 0 (A 44, A 45) (-2) (by decide) ⟨hc.1, hc.2.1⟩ rfl

def pwJ (b : Int32) : Nat → Int64
  | 0 => 1
  | i + 1 => pwJ b i * b.toInt64

set_option maxHeartbeats 200000 in
set_option maxRecDepth 100000 in
theorem l_power {b : Int32} {t : Nat} (ht : t < 2 ^ 31) : ∀ (m i : Nat), i ≤ t → t - i < m → jWP none RX10 cX10_power 5 (some .long) (d) 0 0 5 [some (.int b), some (.int (nI t)), some (.long (pwJ b i)), none, some (.int (nI i))] [] (w) (jRl (pwJ b t) w) := by
  intro m
  induction m with
  | zero => intro i h1 h2; omega
  | succ m ih =>
    intro i hi hm
    refine j_iload dX10_power_5 rfl ?_
    refine j_iload_n dX10_power_7 rfl rfl ?_
    refine jn_icmp_ge (tgt := 22) dX10_power_8 (by decide) (by omega) (by omega) (fun h8 => ?_) (fun h8 => ?_)
    · refine j_lload_n dX10_power_22 rfl rfl ?_
      refine j_lreturn dX10_power_23 rfl ?_
      obtain rfl : i = t := by omega
      exact ⟨rfl, rfl⟩
    · refine j_lload_n dX10_power_11 rfl rfl ?_
      refine j_iload_n dX10_power_12 rfl rfl ?_
      refine j_i2l dX10_power_13 ?_
      refine j_lmul dX10_power_14 ?_
      refine j_lstore_n (lv' := [some (.int _), some (.int _), some (.long _), none, some (.int _)]) dX10_power_15 rfl (by decide) rfl ?_
      refine jn_iinc (lv' := [some (.int _), some (.int _), some (.long _), none, some (.int _)]) dX10_power_16 rfl (by decide) rfl ?_
      refine j_goto (tgt := 5) dX10_power_19 (by decide) ?_
      exact j_sub (by exact ⟨rfl, rfl, rfl, rfl, trivial⟩) (ih (i + 1) (by omega) (by omega))

set_option maxHeartbeats 200000 in
set_option maxRecDepth 100000 in
theorem c_power {b : Int32} {t : Nat} (ht : t < 2 ^ 31) : jMet (d) yX10_power cX10_power 5 (some .long) 0 0 [.int b, .int (nI t)] (w) (jRl (pwJ b t) w) := by
  refine jMet_of (by decide) (Nat.le_of_ble_eq_true rfl) none (Or.inl rfl) ?_
  show jWP none RX10 cX10_power 5 (some .long) (d) 0 0 0 [some (.int b), some (.int (nI t)), none, none, none] [] (w) (jRl (pwJ b t) w)
  refine j_lconst (v := 1) dX10_power_0 rfl ?_
  refine j_lstore_n (lv' := [some (.int _), some (.int _), some (.long _), none, none]) dX10_power_1 rfl (by decide) rfl ?_
  refine j_iconst (v := nI 0) dX10_power_2 rfl ?_
  refine j_istore (lv' := [some (.int _), some (.int _), some (.long _), none, some (.int _)]) dX10_power_3 (by decide) rfl ?_
  exact l_power ht (t + 1) 0 (by omega) (by omega)

end CT25