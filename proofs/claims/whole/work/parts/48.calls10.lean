def lsT (O S : Nat → Int32) (a : Int32) (x m c : Nat) (s : Int32 × Int32 × Int32) : Int32 × Int32 × Int32 :=
  if cnt (fun i => heldB O i && decide (dsN c i ≤ m)) 49 < x then s else if lossS O S c m a 49 < 0 then s else if s.1 < 0 then (lossS O S c m a 49, nI c, nI m) else if s.1 ≤ lossS O S c m a 49 then s else (lossS O S c m a 49, nI c, nI m)
def lsI (O S : Nat → Int32) (a : Int32) (x m : Nat) (s : Int32 × Int32 × Int32) : Nat → Int32 × Int32 × Int32
  | 0 => s
  | c + 1 => lsT O S a x m c (lsI O S a x m s c)
def lsO (O S : Nat → Int32) (a : Int32) (x : Nat) : Nat → Int32 × Int32 × Int32
  | 0 => (-2, -2, -2)
  | m + 1 => lsI O S a x m (lsO O S a x m) 49
section CT29
variable {d : Nat} {X A : Nat → Nat → Int32} {L : Nat → Nat → Int64} {w : jW} {B : Nat} {cd vl st an en : Nat → Nat} {n na : Nat} {v : Nat → Nat} {nb : Nat} {kd : Nat → Nat}

set_option maxHeartbeats 200000 in
set_option maxRecDepth 100000 in
theorem l_least_57 {k x m : Nat} {y : Int32} {s : Int32 × Int32 × Int32} {post : Option Value → jW → Prop} (hm : m < 4) (hx : x < 100) (kk : jWP none RX10 cX10_least 10 (some .int) (d + 3) 0 0 48 [some (.ref 4), some (.int (nI k)), some (.int (nI x)), some (.int y), some (.int (lsI (A 44) (A 45) (nI k) x m s 49).1), some (.int (lsI (A 44) (A 45) (nI k) x m s 49).2.1), some (.int (lsI (A 44) (A 45) (nI k) x m s 49).2.2), some (.int (nI (m + 1))), none, none] [] (tw X A L) post) : ∀ (q i : Nat), i ≤ 49 → 49 - i < q → jWP none RX10 cX10_least 10 (some .int) (d + 3) 0 0 57 [some (.ref 4), some (.int (nI k)), some (.int (nI x)), some (.int y), some (.int (lsI (A 44) (A 45) (nI k) x m s i).1), some (.int (lsI (A 44) (A 45) (nI k) x m s i).2.1), some (.int (lsI (A 44) (A 45) (nI k) x m s i).2.2), some (.int (nI m)), some (.int (nI i)), none] [] (tw X A L) (post) := by
  intro q
  induction q with
  | zero => intro i h1 h2; omega
  | succ q ih =>
    intro i hi hq
    have hc49 := cnt_le (fun j => heldB (A 44) j && decide (dsN i j ≤ m)) 49
    have hst : (lsI (A 44) (A 45) (nI k) x m s (i + 1)) = lsT (A 44) (A 45) (nI k) x m i (lsI (A 44) (A 45) (nI k) x m s i) := rfl
    refine j_iload dX10_least_57 rfl ?_
    refine j_bipush (v := nI 49) dX10_least_59 rfl ?_
    refine jn_icmp_ge (tgt := 133) dX10_least_61 (by decide) (by omega) (by omega) (fun h61 => ?_) (fun h61 => ?_)
    · refine jn_iinc (lv' := [some (.ref 4), some (.int _), some (.int _), some (.int _), some (.int _), some (.int _), some (.int _), some (.int _), some (.int _), none]) dX10_least_133 rfl (by decide) rfl ?_
      refine j_goto (tgt := 48) dX10_least_136 (by decide) ?_
      obtain rfl : i = 49 := by omega
      exact j_sub (by exact ⟨rfl, rfl, rfl, rfl, rfl, rfl, rfl, rfl, trivial⟩) kk
    · refine j_aload_n dX10_least_64 rfl rfl ?_
      refine t_getR (b := 43) dX10_least_65 jfl_X10_46 (fun _ _ _ => rfl) rfl ?_
      refine j_iload dX10_least_68 rfl ?_
      refine j_iload dX10_least_70 rfl ?_
      refine j_callVi [.int _, .int _] [] dX10_least_72 jlk_X10_204 rfl rfl rfl rfl (Nat.le_of_ble_eq_true rfl) (c_X0_heldAbout (Or.inr (Or.inl rfl)) (by omega) (by omega)) ?_
      refine j_iload_n dX10_least_75 rfl rfl ?_
      refine jn_icmp_lt (tgt := 94) dX10_least_76 (by decide) (Nat.lt_of_le_of_lt (cnt_le _ 49) (by decide)) (by omega) (fun h76 => ?_) (fun h76 => ?_)
      · refine j_bipush (v := (-2)) dX10_least_94 rfl ?_
        refine j_istore (lv' := [some (.ref 4), some (.int _), some (.int _), some (.int _), some (.int _), some (.int _), some (.int _), some (.int _), some (.int _), some (.int _)]) dX10_least_96 (by decide) rfl ?_
        refine j_iload dX10_least_98 rfl ?_
        refine j_if_lt (tgt := 127) dX10_least_100 (by decide) (fun _ => ?_) (fun h => absurd (by decide) h)
        refine jn_iinc (lv' := [some (.ref 4), some (.int _), some (.int _), some (.int _), some (.int _), some (.int _), some (.int _), some (.int _), some (.int _), some (.int _)]) dX10_least_127 rfl (by decide) rfl ?_
        refine j_goto (tgt := 57) dX10_least_130 (by decide) ?_
        refine j_sub ?_ (ih (i + 1) (by omega) (by omega))
        rw [hst]
        unfold lsT
        rw [if_pos (show cnt (fun j => heldB (A 44) j && decide (dsN i j ≤ m)) 49 < x from h76)]
        exact ⟨rfl, rfl, rfl, rfl, rfl, rfl, rfl, rfl, rfl, trivial⟩
      · refine j_aload_n dX10_least_79 rfl rfl ?_
        refine t_getR (b := 43) dX10_least_80 jfl_X10_46 (fun _ _ _ => rfl) rfl ?_
        refine j_iload dX10_least_83 rfl ?_
        refine j_iload dX10_least_85 rfl ?_
        refine j_iload_n dX10_least_87 rfl rfl ?_
        refine j_callVi [.int _, .int _, .int _] [] dX10_least_88 jlk_X10_207 rfl rfl rfl rfl (Nat.le_of_ble_eq_true rfl) (c_X0_lossAbout (Or.inr (Or.inl rfl)) (by omega) (by omega)) ?_
        refine j_goto (tgt := 96) dX10_least_91 (by decide) ?_
        refine j_istore (lv' := [some (.ref 4), some (.int _), some (.int _), some (.int _), some (.int _), some (.int _), some (.int _), some (.int _), some (.int _), some (.int _)]) dX10_least_96 (by decide) rfl ?_
        refine j_iload dX10_least_98 rfl ?_
        refine j_if_lt (tgt := 127) dX10_least_100 (by decide) (fun h100 => ?_) (fun h100 => ?_)
        · refine jn_iinc (lv' := [some (.ref 4), some (.int _), some (.int _), some (.int _), some (.int _), some (.int _), some (.int _), some (.int _), some (.int _), some (.int _)]) dX10_least_127 rfl (by decide) rfl ?_
          refine j_goto (tgt := 57) dX10_least_130 (by decide) ?_
          refine j_sub ?_ (ih (i + 1) (by omega) (by omega))
          rw [hst]
          unfold lsT
          rw [if_neg (show ¬ cnt (fun j => heldB (A 44) j && decide (dsN i j ≤ m)) 49 < x from Nat.not_lt.mpr h76), if_pos (show lossS (A 44) (A 45) i m (nI k) 49 < 0 from h100)]
          exact ⟨rfl, rfl, rfl, rfl, rfl, rfl, rfl, rfl, rfl, trivial⟩
        · refine j_iload dX10_least_103 rfl ?_
          refine j_if_lt (tgt := 115) dX10_least_105 (by decide) (fun h105 => ?_) (fun h105 => ?_)
          · refine j_iload dX10_least_115 rfl ?_
            refine j_istore (lv' := [some (.ref 4), some (.int _), some (.int _), some (.int _), some (.int _), some (.int _), some (.int _), some (.int _), some (.int _), some (.int _)]) dX10_least_117 (by decide) rfl ?_
            refine j_iload dX10_least_119 rfl ?_
            refine j_istore (lv' := [some (.ref 4), some (.int _), some (.int _), some (.int _), some (.int _), some (.int _), some (.int _), some (.int _), some (.int _), some (.int _)]) dX10_least_121 (by decide) rfl ?_
            refine j_iload dX10_least_123 rfl ?_
            refine j_istore (lv' := [some (.ref 4), some (.int _), some (.int _), some (.int _), some (.int _), some (.int _), some (.int _), some (.int _), some (.int _), some (.int _)]) dX10_least_125 (by decide) rfl ?_
            refine jn_iinc (lv' := [some (.ref 4), some (.int _), some (.int _), some (.int _), some (.int _), some (.int _), some (.int _), some (.int _), some (.int _), some (.int _)]) dX10_least_127 rfl (by decide) rfl ?_
            refine j_goto (tgt := 57) dX10_least_130 (by decide) ?_
            refine j_sub ?_ (ih (i + 1) (by omega) (by omega))
            rw [hst]
            unfold lsT
            rw [if_neg (show ¬ cnt (fun j => heldB (A 44) j && decide (dsN i j ≤ m)) 49 < x from Nat.not_lt.mpr h76), if_neg (show ¬ lossS (A 44) (A 45) i m (nI k) 49 < 0 from h100), if_pos h105]
            exact ⟨rfl, rfl, rfl, rfl, rfl, rfl, rfl, rfl, rfl, trivial⟩
          · refine j_iload dX10_least_108 rfl ?_
            refine j_iload dX10_least_110 rfl ?_
            refine j_icmp_ge (tgt := 127) dX10_least_112 (by decide) (fun h112 => ?_) (fun h112 => ?_)
            · refine jn_iinc (lv' := [some (.ref 4), some (.int _), some (.int _), some (.int _), some (.int _), some (.int _), some (.int _), some (.int _), some (.int _), some (.int _)]) dX10_least_127 rfl (by decide) rfl ?_
              refine j_goto (tgt := 57) dX10_least_130 (by decide) ?_
              refine j_sub ?_ (ih (i + 1) (by omega) (by omega))
              rw [hst]
              unfold lsT
              rw [if_neg (show ¬ cnt (fun j => heldB (A 44) j && decide (dsN i j ≤ m)) 49 < x from Nat.not_lt.mpr h76), if_neg (show ¬ lossS (A 44) (A 45) i m (nI k) 49 < 0 from h100), if_neg h105, if_pos (show _ ≤ lossS (A 44) (A 45) i m (nI k) 49 from h112)]
              exact ⟨rfl, rfl, rfl, rfl, rfl, rfl, rfl, rfl, rfl, trivial⟩
            · refine j_iload dX10_least_115 rfl ?_
              refine j_istore (lv' := [some (.ref 4), some (.int _), some (.int _), some (.int _), some (.int _), some (.int _), some (.int _), some (.int _), some (.int _), some (.int _)]) dX10_least_117 (by decide) rfl ?_
              refine j_iload dX10_least_119 rfl ?_
              refine j_istore (lv' := [some (.ref 4), some (.int _), some (.int _), some (.int _), some (.int _), some (.int _), some (.int _), some (.int _), some (.int _), some (.int _)]) dX10_least_121 (by decide) rfl ?_
              refine j_iload dX10_least_123 rfl ?_
              refine j_istore (lv' := [some (.ref 4), some (.int _), some (.int _), some (.int _), some (.int _), some (.int _), some (.int _), some (.int _), some (.int _), some (.int _)]) dX10_least_125 (by decide) rfl ?_
              refine jn_iinc (lv' := [some (.ref 4), some (.int _), some (.int _), some (.int _), some (.int _), some (.int _), some (.int _), some (.int _), some (.int _), some (.int _)]) dX10_least_127 rfl (by decide) rfl ?_
              refine j_goto (tgt := 57) dX10_least_130 (by decide) ?_
              refine j_sub ?_ (ih (i + 1) (by omega) (by omega))
              rw [hst]
              unfold lsT
              rw [if_neg (show ¬ cnt (fun j => heldB (A 44) j && decide (dsN i j ≤ m)) 49 < x from Nat.not_lt.mpr h76), if_neg (show ¬ lossS (A 44) (A 45) i m (nI k) 49 < 0 from h100), if_neg h105, if_neg (show ¬ _ ≤ lossS (A 44) (A 45) i m (nI k) 49 from h112)]
              exact ⟨rfl, rfl, rfl, rfl, rfl, rfl, rfl, rfl, rfl, trivial⟩

set_option maxHeartbeats 200000 in
set_option maxRecDepth 100000 in
theorem l_least_48 {k x : Nat} {y : Int32} (hx : x < 100) : ∀ (q i : Nat), i ≤ 4 → 4 - i < q → jWP none RX10 cX10_least 10 (some .int) (d + 3) 0 0 48 [some (.ref 4), some (.int (nI k)), some (.int (nI x)), some (.int y), some (.int (lsO (A 44) (A 45) (nI k) x i).1), some (.int (lsO (A 44) (A 45) (nI k) x i).2.1), some (.int (lsO (A 44) (A 45) (nI k) x i).2.2), some (.int (nI i)), none, none] [] (tw X A L) (jRi (if y = 0 then (lsO (A 44) (A 45) (nI k) x 4).1 else if y = nI 1 then (lsO (A 44) (A 45) (nI k) x 4).2.1 else (lsO (A 44) (A 45) (nI k) x 4).2.2) (tw X A L)) := by
  intro q
  induction q with
  | zero => intro i h1 h2; omega
  | succ q ih =>
    intro i hi hq
    refine j_iload dX10_least_48 rfl ?_
    refine j_iconst (v := nI 3) dX10_least_50 rfl ?_
    refine jn_icmp_gt (tgt := 139) dX10_least_51 (by decide) (by omega) (by omega) (fun h51 => ?_) (fun h51 => ?_)
    · obtain rfl : i = 4 := by omega
      refine j_iload_n dX10_least_139 rfl rfl ?_
      refine j_if_ne (tgt := 148) dX10_least_140 (by decide) (fun h140 => ?_) (fun h140 => ?_)
      · refine j_iload_n dX10_least_148 rfl rfl ?_
        refine j_iconst (v := nI 1) dX10_least_149 rfl ?_
        refine j_icmp_ne (tgt := 158) dX10_least_150 (by decide) (fun h150 => ?_) (fun h150 => ?_)
        · refine j_iload dX10_least_158 rfl ?_
          refine j_ireturn dX10_least_160 rfl ?_
          exact ⟨by rw [if_neg (fun q => h140 q), if_neg (fun q => h150 q)], rfl⟩
        · refine j_iload dX10_least_153 rfl ?_
          refine j_goto (tgt := 160) dX10_least_155 (by decide) ?_
          refine j_ireturn dX10_least_160 rfl ?_
          exact ⟨by rw [if_neg (fun q => h140 q), if_pos (by first | exact h150 | simpa using h150)], rfl⟩
      · refine j_iload dX10_least_143 rfl ?_
        refine j_goto (tgt := 160) dX10_least_145 (by decide) ?_
        refine j_ireturn dX10_least_160 rfl ?_
        exact ⟨by rw [if_pos (by first | exact h140 | simpa using h140)], rfl⟩
    · refine j_iconst (v := nI 0) dX10_least_54 rfl ?_
      refine j_istore (lv' := [some (.ref 4), some (.int _), some (.int _), some (.int _), some (.int _), some (.int _), some (.int _), some (.int _), some (.int _), none]) dX10_least_55 (by decide) rfl ?_
      exact l_least_57 (by omega) hx (ih (i + 1) (by omega) (by omega)) 50 0 (by decide) (by decide)

set_option maxHeartbeats 200000 in
set_option maxRecDepth 100000 in
theorem c_least (hr : rul B cd vl st an en n na v X A) {k x : Nat} {y : Int32} (hk : k < na) (hx1 : 1 ≤ x) (hx : x ≤ 37) (hy : isA 3 y ≠ nI 0) : jMet (d + 3) yX10_least cX10_least 10 (some .int) 0 0 [.ref 4, .int (nI k), .int (nI x), .int y] (tw X A L) (jRi (if y = 0 then (lsO (A 44) (A 45) (nI k) x 4).1 else if y = nI 1 then (lsO (A 44) (A 45) (nI k) x 4).2.1 else (lsO (A 44) (A 45) (nI k) x 4).2.2) (tw X A L)) := by
  refine jMet_of (by decide) (Nat.le_of_ble_eq_true rfl) none (Or.inl rfl) ?_
  show jWP none RX10 cX10_least 10 (some .int) (d + 3) 0 0 0 [some (.ref 4), some (.int (nI k)), some (.int (nI x)), some (.int y), none, none, none, none, none, none] [] (tw X A L) (jRi (if y = 0 then (lsO (A 44) (A 45) (nI k) x 4).1 else if y = nI 1 then (lsO (A 44) (A 45) (nI k) x 4).2.1 else (lsO (A 44) (A 45) (nI k) x 4).2.2) (tw X A L))
  obtain ⟨hB, r2, r3, r4, r5, r6, r7, r8, r9, r10, r11, r12, r13⟩ := id hr
  have hy2 : ¬ y < 0 ∧ y ≤ nI 2 := by
    rcases isA_cases (n := 3) (by decide) y with q | ⟨i, hi, rfl⟩
    · exact absurd q hy
    · exact ⟨nI_pos (by omega), nI_le (by omega) (by decide)⟩
  refine j_aload_n dX10_least_0 rfl rfl ?_
  refine t_getR (b := 10) dX10_least_1 jfl_X10_19 (fun _ _ _ => rfl) rfl ?_
  refine j_iload_n dX10_least_4 rfl rfl ?_
  refine j_callVi [.int _] [] dX10_least_5 jlk_X10_127 rfl rfl rfl rfl (Nat.le_of_ble_eq_true rfl) (c_X7_isAccount_in r10 r11 hk) ?_
  refine j_if_eq (tgt := 31) dX10_least_8 (by decide) (fun h => absurd h (by decide)) (fun _ => ?_)
  refine j_iload_n dX10_least_11 rfl rfl ?_
  refine j_iconst (v := nI 1) dX10_least_12 rfl ?_
  refine jn_icmp_lt (tgt := 31) dX10_least_13 (by decide) (by omega) (by omega) (fun h13 => absurd h13 (by omega)) (fun h13 => ?_)
  refine j_iload_n dX10_least_16 rfl rfl ?_
  refine j_bipush (v := nI 37) dX10_least_17 rfl ?_
  refine jn_icmp_gt (tgt := 31) dX10_least_19 (by decide) (by omega) (by omega) (fun h19 => absurd h19 (by omega)) (fun h19 => ?_)
  refine j_iload_n dX10_least_22 rfl rfl ?_
  refine j_if_lt (tgt := 31) dX10_least_23 (by decide) (fun h23 => absurd h23 hy2.1) (fun h23 => ?_)
  refine j_iload_n dX10_least_26 rfl rfl ?_
  refine j_iconst (v := nI 2) dX10_least_27 rfl ?_
  refine j_icmp_le (tgt := 33) dX10_least_28 (by decide) (fun h28 => ?_) (fun h28 => absurd hy2.2 h28)
  refine j_bipush (v := (-2)) dX10_least_33 rfl ?_
  refine j_istore (lv' := [some (.ref 4), some (.int _), some (.int _), some (.int _), some (.int _), none, none, none, none, none]) dX10_least_35 (by decide) rfl ?_
  refine j_bipush (v := (-2)) dX10_least_37 rfl ?_
  refine j_istore (lv' := [some (.ref 4), some (.int _), some (.int _), some (.int _), some (.int _), some (.int _), none, none, none, none]) dX10_least_39 (by decide) rfl ?_
  refine j_bipush (v := (-2)) dX10_least_41 rfl ?_
  refine j_istore (lv' := [some (.ref 4), some (.int _), some (.int _), some (.int _), some (.int _), some (.int _), some (.int _), none, none, none]) dX10_least_43 (by decide) rfl ?_
  refine j_iconst (v := nI 0) dX10_least_45 rfl ?_
  refine j_istore (lv' := [some (.ref 4), some (.int _), some (.int _), some (.int _), some (.int _), some (.int _), some (.int _), some (.int _), none, none]) dX10_least_46 (by decide) rfl ?_
  exact l_least_48 (by omega) 5 0 (by decide) (by decide)

end CT29