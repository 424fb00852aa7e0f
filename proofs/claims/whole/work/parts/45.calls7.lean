def gcJ : Nat → Int64 → Int64 → Int64
  | 0, x, _ => x
  | f + 1, x, y => if y = 0 then x else gcJ f y (x - x / y * y)
theorem gcJ_t {f : Nat} {x y : Int64} (h : y = 0) : gcJ (f + 1) x y = x := if_pos h
theorem gcJ_f {f : Nat} {x y : Int64} (h : ¬ y = 0) : gcJ (f + 1) x y = gcJ f y (x - x / y * y) := if_neg h
def frJ (a b : Int64) (p : Int32) : Int64 := if gcJ 200 a b = 0 then 0 else (if p = 0 then a else b) / gcJ 200 a b
section CT26
variable {d : Nat} {X A : Nat → Nat → Int32} {L : Nat → Nat → Int64} {w : jW} {B : Nat} {cd vl st an en : Nat → Nat} {n na : Nat} {v : Nat → Nat} {nb : Nat} {kd : Nat → Nat}

set_option maxHeartbeats 200000 in
set_option maxRecDepth 100000 in
theorem l_fraction {a b : Int64} {p : Int32} {g : Int64} (hg : gcJ 200 a b = g) : ∀ (m i : Nat) (x y : Int64), i + m = 200 → gcJ m x y = g → jWP none RX10 cX10_fraction 12 (some .long) (d) 0 0 9 [some (.long a), none, some (.long b), none, some (.int p), some (.long x), none, some (.long y), none, some (.int (nI i)), none, none] [] (w) (jRl (frJ a b p) w) := by
  intro m
  induction m with
  | zero =>
    intro i x y hi hr
    refine j_iload dX10_fraction_9 rfl ?_
    refine j_sipush (v := nI 200) dX10_fraction_11 rfl ?_
    refine jn_icmp_ge (tgt := 45) dX10_fraction_14 (by decide) (by omega) (by omega) (fun h14 => ?_) (fun h14 => absurd h14 (by omega))
    obtain rfl : g = x := hr.symm
    refine j_lload dX10_fraction_45 rfl ?_
    refine j_lconst (v := 0) dX10_fraction_47 rfl ?_
    refine j_lcmp dX10_fraction_48 ?_
    refine j_if_ne (tgt := 54) dX10_fraction_49 (by decide) (fun h49 => ?_) (fun h49 => ?_)
    · have h49 : ¬ g = 0 := fun q => h49 (lcmp0.mpr q)
      refine j_iload dX10_fraction_54 rfl ?_
      refine j_if_ne (tgt := 63) dX10_fraction_56 (by decide) (fun h56 => ?_) (fun h56 => ?_)
      · refine j_lload_n dX10_fraction_63 rfl rfl ?_
        refine j_lload dX10_fraction_64 rfl ?_
        refine j_ldiv dX10_fraction_66 h49 ?_
        refine j_lreturn dX10_fraction_67 rfl ?_
        refine ⟨?_, rfl⟩
        unfold frJ
        rw [hg, if_neg h49, if_neg h56]
      · refine j_lload_n dX10_fraction_59 rfl rfl ?_
        refine j_goto (tgt := 64) dX10_fraction_60 (by decide) ?_
        refine j_lload dX10_fraction_64 rfl ?_
        refine j_ldiv dX10_fraction_66 h49 ?_
        refine j_lreturn dX10_fraction_67 rfl ?_
        refine ⟨?_, rfl⟩
        unfold frJ
        rw [hg, if_neg h49, if_pos (by first | exact h56 | simpa using h56)]
    · have h49 : g = 0 := lcmp0.mp (by first | exact h49 | simpa using h49)
      refine j_lconst (v := 0) dX10_fraction_52 rfl ?_
      refine j_lreturn dX10_fraction_53 rfl ?_
      refine ⟨?_, rfl⟩
      unfold frJ
      rw [hg, if_pos h49]
  | succ m ih =>
    intro i x y hi hr
    refine j_iload dX10_fraction_9 rfl ?_
    refine j_sipush (v := nI 200) dX10_fraction_11 rfl ?_
    refine jn_icmp_ge (tgt := 45) dX10_fraction_14 (by decide) (by omega) (by omega) (fun h14 => absurd h14 (by omega)) (fun h14 => ?_)
    refine j_lload dX10_fraction_17 rfl ?_
    refine j_lconst (v := 0) dX10_fraction_19 rfl ?_
    refine j_lcmp dX10_fraction_20 ?_
    refine j_if_eq (tgt := 45) dX10_fraction_21 (by decide) (fun h21 => ?_) (fun h21 => ?_)
    · have h21 : y = 0 := lcmp0.mp h21
      obtain rfl : g = x := by rw [← hr]; exact gcJ_t h21
      refine j_lload dX10_fraction_45 rfl ?_
      refine j_lconst (v := 0) dX10_fraction_47 rfl ?_
      refine j_lcmp dX10_fraction_48 ?_
      refine j_if_ne (tgt := 54) dX10_fraction_49 (by decide) (fun h49 => ?_) (fun h49 => ?_)
      · have h49 : ¬ g = 0 := fun q => h49 (lcmp0.mpr q)
        refine j_iload dX10_fraction_54 rfl ?_
        refine j_if_ne (tgt := 63) dX10_fraction_56 (by decide) (fun h56 => ?_) (fun h56 => ?_)
        · refine j_lload_n dX10_fraction_63 rfl rfl ?_
          refine j_lload dX10_fraction_64 rfl ?_
          refine j_ldiv dX10_fraction_66 h49 ?_
          refine j_lreturn dX10_fraction_67 rfl ?_
          refine ⟨?_, rfl⟩
          unfold frJ
          rw [hg, if_neg h49, if_neg h56]
        · refine j_lload_n dX10_fraction_59 rfl rfl ?_
          refine j_goto (tgt := 64) dX10_fraction_60 (by decide) ?_
          refine j_lload dX10_fraction_64 rfl ?_
          refine j_ldiv dX10_fraction_66 h49 ?_
          refine j_lreturn dX10_fraction_67 rfl ?_
          refine ⟨?_, rfl⟩
          unfold frJ
          rw [hg, if_neg h49, if_pos (by first | exact h56 | simpa using h56)]
      · have h49 : g = 0 := lcmp0.mp (by first | exact h49 | simpa using h49)
        refine j_lconst (v := 0) dX10_fraction_52 rfl ?_
        refine j_lreturn dX10_fraction_53 rfl ?_
        refine ⟨?_, rfl⟩
        unfold frJ
        rw [hg, if_pos h49]
    · have h21 : ¬ y = 0 := fun q => h21 (lcmp0.mpr q)
      refine j_lload dX10_fraction_24 rfl ?_
      refine j_lload dX10_fraction_26 rfl ?_
      refine j_lrem dX10_fraction_28 h21 ?_
      refine j_lstore (lv' := [some (.long _), none, some (.long _), none, some (.int _), some (.long _), none, some (.long _), none, some (.int _), some (.long _), none]) dX10_fraction_29 (by decide) rfl ?_
      refine j_lload dX10_fraction_31 rfl ?_
      refine j_lstore (lv' := [some (.long _), none, some (.long _), none, some (.int _), some (.long _), none, some (.long _), none, some (.int _), some (.long _), none]) dX10_fraction_33 (by decide) rfl ?_
      refine j_lload dX10_fraction_35 rfl ?_
      refine j_lstore (lv' := [some (.long _), none, some (.long _), none, some (.int _), some (.long _), none, some (.long _), none, some (.int _), some (.long _), none]) dX10_fraction_37 (by decide) rfl ?_
      refine jn_iinc (lv' := [some (.long _), none, some (.long _), none, some (.int _), some (.long _), none, some (.long _), none, some (.int _), some (.long _), none]) dX10_fraction_39 rfl (by decide) rfl ?_
      refine j_goto (tgt := 9) dX10_fraction_42 (by decide) ?_
      refine j_sub (by exact ⟨rfl, rfl, rfl, rfl, rfl, rfl, trivial⟩) (ih (i + 1) y _ (by omega) ?_)
      rw [← hr]
      exact (gcJ_f h21).symm

set_option maxHeartbeats 200000 in
set_option maxRecDepth 100000 in
theorem c_fraction {a b : Int64} {p : Int32} : jMet (d) yX10_fraction cX10_fraction 12 (some .long) 0 0 [.long a, .long b, .int p] (w) (jRl (frJ a b p) w) := by
  refine jMet_of (by decide) (Nat.le_of_ble_eq_true rfl) none (Or.inl rfl) ?_
  show jWP none RX10 cX10_fraction 12 (some .long) (d) 0 0 0 [some (.long a), none, some (.long b), none, some (.int p), none, none, none, none, none, none, none] [] (w) (jRl (frJ a b p) w)
  refine j_lload_n dX10_fraction_0 rfl rfl ?_
  refine j_lstore (lv' := [some (.long _), none, some (.long _), none, some (.int _), some (.long _), none, none, none, none, none, none]) dX10_fraction_1 (by decide) rfl ?_
  refine j_lload_n dX10_fraction_3 rfl rfl ?_
  refine j_lstore (lv' := [some (.long _), none, some (.long _), none, some (.int _), some (.long _), none, some (.long _), none, none, none, none]) dX10_fraction_4 (by decide) rfl ?_
  refine j_iconst (v := nI 0) dX10_fraction_6 rfl ?_
  refine j_istore (lv' := [some (.long _), none, some (.long _), none, some (.int _), some (.long _), none, some (.long _), none, some (.int _), none, none]) dX10_fraction_7 (by decide) rfl ?_
  exact l_fraction rfl 200 0 a b (by decide) rfl

end CT26