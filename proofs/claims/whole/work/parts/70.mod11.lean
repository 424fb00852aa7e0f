def lmT (O S : Nat → Int32) (a : Int32) (x m c : Nat) (s : Int32 × Int32) : Int32 × Int32 :=
  if (abS c m (O, S) 49).2 < x then s else if s.1 < 0 then (nI (10 * c + m), balS O S a 49 - balS (abS c m (O, S) 49).1.1 (abS c m (O, S) 49).1.2 a 49) else if s.2 ≤ balS O S a 49 - balS (abS c m (O, S) 49).1.1 (abS c m (O, S) 49).1.2 a 49 then s else (nI (10 * c + m), balS O S a 49 - balS (abS c m (O, S) 49).1.1 (abS c m (O, S) 49).1.2 a 49)
def lmI (O S : Nat → Int32) (a : Int32) (x m : Nat) (s : Int32 × Int32) : Nat → Int32 × Int32
  | 0 => s
  | c + 1 => lmT O S a x m c (lmI O S a x m s c)
def lmO (O S : Nat → Int32) (a : Int32) (x : Nat) : Nat → Int32 × Int32
  | 0 => (-2, -2)
  | m + 1 => lmI O S a x m (lmO O S a x m) 49
theorem isA2_01 (e : Int32) : isA 2 e = is01 e := by
  rcases isA_cases (n := 2) (by decide) e with h | ⟨j, hj, rfl⟩
  · rw [h]
    unfold is01
    have h0 : e ≠ 0 := fun q => by rw [q] at h; exact absurd h (by decide)
    have h1 : e ≠ nI 1 := fun q => by rw [q] at h; exact absurd h (by decide)
    rw [if_neg h0, if_neg h1]
  · rcases (show j = 0 ∨ j = 1 by omega) with rfl | rfl <;> decide
theorem wi_p {e : Int32} : wiJ e.toInt64 0 1 = is01 e := (wi_A (k := 1) (by decide) (by decide)).trans (isA2_01 e)
/-- a bit -/
def bitN (s k : Nat) : Nat := s / 2 ^ k % 2
theorem bit_tab {s k : Nat} (hs : s < 1024) (hk : k < 10) : (nI s >>> (nI k &&& 31)) &&& nI 1 = nI (bitN s k) := by
  have q : (List.range 1024).all (fun s => (List.range 10).all fun k => decide ((nI s >>> (nI k &&& 31)) &&& nI 1 = nI (bitN s k))) = true := by decide +kernel
  exact of_decide_eq_true (List.all_eq_true.mp (List.all_eq_true.mp q s (List.mem_range.mpr hs)) k (List.mem_range.mpr hk))
def isB1 (s k : Nat) : Bool := decide (bitN s k = 1)
def gcO : Nat → Int64 → Int64 → Option Int64
  | 0, _, _ => none
  | m + 1, x, y => if y = 0 then some x else gcO m y (x - x / y * y)
theorem gcO_t {m : Nat} {x y : Int64} (h : y = 0) : gcO (m + 1) x y = some x := if_pos h
theorem gcO_f {m : Nat} {x y : Int64} (h : ¬ y = 0) : gcO (m + 1) x y = gcO m y (x - x / y * y) := if_neg h
def frM (a b : Int64) (p : Int32) : Int64 := if a = 0 then p.toInt64 else (if p = 0 then a else b) / (gcO 200 b a).getD 1
def tbN (fl h j k : Nat) : Int64 := if isB1 j k = isB1 h k then (nI (12 - fl)).toInt64 else (nI fl).toInt64
def hbJ (fl h j : Nat) : Nat → Int64
  | 0 => 1
  | k + 1 => hbJ fl h j k * tbN fl h j k
theorem hbJ_tab {fl h j : Nat} (hf : fl < 7) (hh : h < 8) (hj : j < 8) : hbJ fl h j 3 = hwJ fl h j := by
  have q : (List.range 7).all (fun fl => (List.range 8).all fun h => (List.range 8).all fun j => decide (hbJ fl h j 3 = hwJ fl h j)) = true := by decide +kernel
  exact of_decide_eq_true (List.all_eq_true.mp (List.all_eq_true.mp (List.all_eq_true.mp q fl (List.mem_range.mpr hf)) h (List.mem_range.mpr hh)) j (List.mem_range.mpr hj))
/-- the likeliest by the reference -/
def bsM (W : Nat → Int64) : Nat → Nat
  | 0 => 1
  | s + 1 => if lg_cmp (W (s + 1)) (W (bsM W s)) ≤ 0 then bsM W s else s + 1
def suW (W : Nat → Int64) : Nat → Int64
  | 0 => 0
  | s + 1 => suW W s + W (s + 1)
theorem bsM_le (W : Nat → Int64) : ∀ s, 1 ≤ bsM W s ∧ bsM W s ≤ s + 1
  | 0 => ⟨Nat.le_refl 1, Nat.le_refl 1⟩
  | s + 1 => by
    have := bsM_le W s
    unfold bsM
    split <;> omega
def pw12 : Nat → Int64
  | 0 => 1
  | i + 1 => pw12 i * 12
def mfM (g x : Nat) : Nat → Int32
  | 0 => nI 0
  | i + 1 => if lg_cmp (12 * pwJ (nI (12 - g)) (i + 1)) ((nI x).toInt64 * pw12 (i + 1)) < 0 then mfM g x i else nI (i + 1)
section CT50
variable {d : Nat} {X A : Nat → Nat → Int32} {L : Nat → Nat → Int64} {w : jW} {na nb : Nat} {v kd : Nat → Nat}

set_option maxHeartbeats 200000 in
set_option maxRecDepth 100000 in
theorem l_least_in (z1 : zb 49 (A 82)) (z2 : zb 49 (A 83)) (hw : ow (A 82)) {k x m : Nat} {y : Int32} {s : Int32 × Int32} {post : Option Value → jW → Prop} (hm : m < 4) (hx : x < 100) (kk : ∀ P Q : Nat → Int32, zb 49 P → zb 49 Q → jWP none RX11 cX11_least 11 (some .int) (d + 3) 0 0 131 [some (.ref 76), some (.int (nI k)), some (.int (nI x)), some (.int y), some (.int (lmI (A 82) (A 83) (nI k) x m s 49).1), some (.int (lmI (A 82) (A 83) (nI k) x m s 49).2), some (.int (nI m)), some (.int (nI 49)), none, none, none] [] (tw X (mA A P Q) L) post) : ∀ (q c : Nat) (P Q : Nat → Int32), c ≤ 49 → 49 - c < q → zb 49 P → zb 49 Q → jWP none RX11 cX11_least 11 (some .int) (d + 3) 0 0 55 [some (.ref 76), some (.int (nI k)), some (.int (nI x)), some (.int y), some (.int (lmI (A 82) (A 83) (nI k) x m s c).1), some (.int (lmI (A 82) (A 83) (nI k) x m s c).2), some (.int (nI m)), some (.int (nI c)), none, none, none] [] (tw X (mA A P Q) L) (post) := by
  intro q
  induction q with
  | zero => intro c P Q h1 h2; omega
  | succ q ih =>
    intro c P Q hc hq hP hQ
    have hn := abS_2 (z := c) (m := m) (c := (A 82, A 83)) 49
    have hst : (lmI (A 82) (A 83) (nI k) x m s (c + 1)) = lmT (A 82) (A 83) (nI k) x m c (lmI (A 82) (A 83) (nI k) x m s c) := rfl
    refine j_iload dX11_least_55 rfl ?_
    refine j_bipush (v := nI 49) dX11_least_57 rfl ?_
    refine jn_icmp_ge (tgt := 131) dX11_least_59 (by decide) (by omega) (by omega) (fun h59 => ?_) (fun h59 => ?_)
    · obtain rfl : c = 49 := by omega
      exact j_sub (by exact ⟨rfl, rfl, rfl, rfl, rfl, rfl, rfl, rfl, trivial⟩) (kk P Q hP hQ)
    · refine j_aload_n dX11_least_62 rfl rfl ?_
      refine j_callVv [] [] dX11_least_63 jlk_X11_140 rfl rfl rfl rfl (Nat.le_of_ble_eq_true rfl) (m_begins1 (by rw [mA_n _ _ _ (by decide) (by decide)]; exact z1) (by rw [mA_n _ _ _ (by decide) (by decide)]; exact z2) (by rw [mA_84]; exact hP) (by rw [mA_85]; exact hQ)) ?_
      rw [mA_n (c := 82) _ _ _ (by decide) (by decide), mA_n (c := 83) _ _ _ (by decide) (by decide), mA_mA]
      refine j_aload_n dX11_least_66 rfl rfl ?_
      refine j_iload_n dX11_least_67 rfl rfl ?_
      refine j_callVi [.int _] [] dX11_least_68 jlk_X11_143 rfl rfl rfl rfl (Nat.le_of_ble_eq_true rfl) (m_balanceOf) ?_
      rw [mA_84, mA_85]
      refine j_istore (lv' := [some (.ref 76), some (.int _), some (.int _), some (.int _), some (.int _), some (.int _), some (.int _), some (.int _), some (.int _), none, none]) dX11_least_71 (by decide) rfl ?_
      refine j_aload_n dX11_least_73 rfl rfl ?_
      refine j_iload dX11_least_74 rfl ?_
      refine j_iload dX11_least_76 rfl ?_
      refine j_callVi [.int _, .int _] [] dX11_least_78 jlk_X11_267 rfl rfl rfl rfl (Nat.le_of_ble_eq_true rfl) (m_swarms (by rw [mA_84]; exact hw) (by omega) (by omega)) ?_
      rw [mA_84, mA_85, mA_mA]
      refine j_istore (lv' := [some (.ref 76), some (.int _), some (.int _), some (.int _), some (.int _), some (.int _), some (.int _), some (.int _), some (.int _), some (.int _), none]) dX11_least_81 (by decide) rfl ?_
      refine j_iload dX11_least_83 rfl ?_
      refine j_aload_n dX11_least_85 rfl rfl ?_
      refine j_iload_n dX11_least_86 rfl rfl ?_
      refine j_callVi [.int _] [.int _] dX11_least_87 jlk_X11_143 rfl rfl rfl rfl (Nat.le_of_ble_eq_true rfl) (m_balanceOf) ?_
      rw [mA_84, mA_85]
      refine j_isub dX11_least_90 ?_
      refine j_istore (lv' := [some (.ref 76), some (.int _), some (.int _), some (.int _), some (.int _), some (.int _), some (.int _), some (.int _), some (.int _), some (.int _), some (.int _)]) dX11_least_91 (by decide) rfl ?_
      refine j_iload dX11_least_93 rfl ?_
      refine j_iload_n dX11_least_95 rfl rfl ?_
      refine jn_icmp_lt (tgt := 125) dX11_least_96 (by decide) (by omega) (by omega) (fun h96 => ?_) (fun h96 => ?_)
      · refine jn_iinc (lv' := [some (.ref 76), some (.int _), some (.int _), some (.int _), some (.int _), some (.int _), some (.int _), some (.int _), some (.int _), some (.int _), some (.int _)]) dX11_least_125 rfl (by decide) rfl ?_
        refine j_goto (tgt := 55) dX11_least_128 (by decide) ?_
        have hz := abS_z (z := c) (m := m) (c := (A 82, A 83)) z1 z2 49 (by decide)
        refine j_sub ?_ (ih (c + 1) (abS c m (A 82, A 83) 49).1.1 (abS c m (A 82, A 83) 49).1.2 (by omega) (by omega) hz.1 hz.2)
        rw [hst]
        unfold lmT
        rw [if_pos h96]
        exact ⟨rfl, rfl, rfl, rfl, rfl, rfl, rfl, rfl, trivial⟩
      · refine j_iload dX11_least_99 rfl ?_
        refine j_if_lt (tgt := 111) dX11_least_101 (by decide) (fun h101 => ?_) (fun h101 => ?_)
        · refine j_bipush (v := nI 10) dX11_least_111 rfl ?_
          refine j_iload dX11_least_113 rfl ?_
          refine jn_imul dX11_least_115 ?_
          refine j_iload dX11_least_116 rfl ?_
          refine jn_iadd dX11_least_118 ?_
          refine j_istore (lv' := [some (.ref 76), some (.int _), some (.int _), some (.int _), some (.int _), some (.int _), some (.int _), some (.int _), some (.int _), some (.int _), some (.int _)]) dX11_least_119 (by decide) rfl ?_
          refine j_iload dX11_least_121 rfl ?_
          refine j_istore (lv' := [some (.ref 76), some (.int _), some (.int _), some (.int _), some (.int _), some (.int _), some (.int _), some (.int _), some (.int _), some (.int _), some (.int _)]) dX11_least_123 (by decide) rfl ?_
          refine jn_iinc (lv' := [some (.ref 76), some (.int _), some (.int _), some (.int _), some (.int _), some (.int _), some (.int _), some (.int _), some (.int _), some (.int _), some (.int _)]) dX11_least_125 rfl (by decide) rfl ?_
          refine j_goto (tgt := 55) dX11_least_128 (by decide) ?_
          have hz := abS_z (z := c) (m := m) (c := (A 82, A 83)) z1 z2 49 (by decide)
          refine j_sub ?_ (ih (c + 1) (abS c m (A 82, A 83) 49).1.1 (abS c m (A 82, A 83) 49).1.2 (by omega) (by omega) hz.1 hz.2)
          rw [hst]
          unfold lmT
          rw [if_neg (show ¬ (abS c m (A 82, A 83) 49).2 < x by omega), if_pos h101]
          exact ⟨rfl, rfl, rfl, rfl, rfl, rfl, rfl, rfl, trivial⟩
        · refine j_iload dX11_least_104 rfl ?_
          refine j_iload dX11_least_106 rfl ?_
          refine j_icmp_ge (tgt := 125) dX11_least_108 (by decide) (fun h108 => ?_) (fun h108 => ?_)
          · refine jn_iinc (lv' := [some (.ref 76), some (.int _), some (.int _), some (.int _), some (.int _), some (.int _), some (.int _), some (.int _), some (.int _), some (.int _), some (.int _)]) dX11_least_125 rfl (by decide) rfl ?_
            refine j_goto (tgt := 55) dX11_least_128 (by decide) ?_
            have hz := abS_z (z := c) (m := m) (c := (A 82, A 83)) z1 z2 49 (by decide)
            refine j_sub ?_ (ih (c + 1) (abS c m (A 82, A 83) 49).1.1 (abS c m (A 82, A 83) 49).1.2 (by omega) (by omega) hz.1 hz.2)
            rw [hst]
            unfold lmT
            rw [if_neg (show ¬ (abS c m (A 82, A 83) 49).2 < x by omega), if_neg h101, if_pos h108]
            exact ⟨rfl, rfl, rfl, rfl, rfl, rfl, rfl, rfl, trivial⟩
          · refine j_bipush (v := nI 10) dX11_least_111 rfl ?_
            refine j_iload dX11_least_113 rfl ?_
            refine jn_imul dX11_least_115 ?_
            refine j_iload dX11_least_116 rfl ?_
            refine jn_iadd dX11_least_118 ?_
            refine j_istore (lv' := [some (.ref 76), some (.int _), some (.int _), some (.int _), some (.int _), some (.int _), some (.int _), some (.int _), some (.int _), some (.int _), some (.int _)]) dX11_least_119 (by decide) rfl ?_
            refine j_iload dX11_least_121 rfl ?_
            refine j_istore (lv' := [some (.ref 76), some (.int _), some (.int _), some (.int _), some (.int _), some (.int _), some (.int _), some (.int _), some (.int _), some (.int _), some (.int _)]) dX11_least_123 (by decide) rfl ?_
            refine jn_iinc (lv' := [some (.ref 76), some (.int _), some (.int _), some (.int _), some (.int _), some (.int _), some (.int _), some (.int _), some (.int _), some (.int _), some (.int _)]) dX11_least_125 rfl (by decide) rfl ?_
            refine j_goto (tgt := 55) dX11_least_128 (by decide) ?_
            have hz := abS_z (z := c) (m := m) (c := (A 82, A 83)) z1 z2 49 (by decide)
            refine j_sub ?_ (ih (c + 1) (abS c m (A 82, A 83) 49).1.1 (abS c m (A 82, A 83) 49).1.2 (by omega) (by omega) hz.1 hz.2)
            rw [hst]
            unfold lmT
            rw [if_neg (show ¬ (abS c m (A 82, A 83) 49).2 < x by omega), if_neg h101, if_neg h108]
            exact ⟨rfl, rfl, rfl, rfl, rfl, rfl, rfl, rfl, trivial⟩

set_option maxHeartbeats 200000 in
set_option maxRecDepth 100000 in
theorem l_least_out (z1 : zb 49 (A 82)) (z2 : zb 49 (A 83)) (hw : ow (A 82)) {k x : Nat} {y : Int32} (hx : x < 100) : ∀ (q m : Nat) (P Q : Nat → Int32), m ≤ 4 → 4 - m < q → zb 49 P → zb 49 Q → jWP none RX11 cX11_least 11 (some .int) (d + 3) 0 0 46 [some (.ref 76), some (.int (nI k)), some (.int (nI x)), some (.int y), some (.int (lmO (A 82) (A 83) (nI k) x m).1), some (.int (lmO (A 82) (A 83) (nI k) x m).2), some (.int (nI m)), none, none, none, none] [] (tw X (mA A P Q) L) ((fun z w => z = some (.int (if y = 0 ∨ (lmO (A 82) (A 83) (nI k) x 4).1 < 0 then (lmO (A 82) (A 83) (nI k) x 4).2 else if y = nI 1 then (lmO (A 82) (A 83) (nI k) x 4).1 / nI 10 else (lmO (A 82) (A 83) (nI k) x 4).1 - (lmO (A 82) (A 83) (nI k) x 4).1 / nI 10 * nI 10)) ∧ ∃ P Q : Nat → Int32, (zb 49 P ∧ zb 49 Q) ∧ w = tw X (mA A P Q) L)) := by
  intro q
  induction q with
  | zero => intro m P Q h1 h2; omega
  | succ q ih =>
    intro m P Q hm hq hP hQ
    refine j_iload dX11_least_46 rfl ?_
    refine j_iconst (v := nI 3) dX11_least_48 rfl ?_
    refine jn_icmp_gt (tgt := 137) dX11_least_49 (by decide) (by omega) (by omega) (fun h49 => ?_) (fun h49 => ?_)
    · obtain rfl : m = 4 := by omega
      refine j_iload_n dX11_least_137 rfl rfl ?_
      refine j_if_eq (tgt := 146) dX11_least_138 (by decide) (fun h138 => ?_) (fun h138 => ?_)
      · refine j_iload dX11_least_146 rfl ?_
        refine j_goto (tgt := 169) dX11_least_148 (by decide) ?_
        refine j_ireturn dX11_least_169 rfl ?_
        refine ⟨congrArg (fun z => some (Value.int z)) ?_, P, Q, ⟨hP, hQ⟩, rfl⟩
        rw [if_pos (Or.inl (by first | exact h138 | simpa using h138))]
      · refine j_iload dX11_least_141 rfl ?_
        refine j_if_ge (tgt := 151) dX11_least_143 (by decide) (fun h143 => ?_) (fun h143 => ?_)
        · refine j_iload_n dX11_least_151 rfl rfl ?_
          refine j_iconst (v := nI 1) dX11_least_152 rfl ?_
          refine j_icmp_ne (tgt := 164) dX11_least_153 (by decide) (fun h153 => ?_) (fun h153 => ?_)
          · refine j_iload dX11_least_164 rfl ?_
            refine j_bipush (v := nI 10) dX11_least_166 rfl ?_
            refine j_irem dX11_least_168 (by decide) ?_
            refine j_ireturn dX11_least_169 rfl ?_
            refine ⟨congrArg (fun z => some (Value.int z)) ?_, P, Q, ⟨hP, hQ⟩, rfl⟩
            rw [if_neg (fun q => q.elim h138 (Int32.not_lt.mpr h143)), if_neg h153]
          · refine j_iload dX11_least_156 rfl ?_
            refine j_bipush (v := nI 10) dX11_least_158 rfl ?_
            refine j_idiv dX11_least_160 (by decide) ?_
            refine j_goto (tgt := 169) dX11_least_161 (by decide) ?_
            refine j_ireturn dX11_least_169 rfl ?_
            refine ⟨congrArg (fun z => some (Value.int z)) ?_, P, Q, ⟨hP, hQ⟩, rfl⟩
            rw [if_neg (fun q => q.elim h138 (Int32.not_lt.mpr h143)), if_pos (by first | exact h153 | simpa using h153)]
        · refine j_iload dX11_least_146 rfl ?_
          refine j_goto (tgt := 169) dX11_least_148 (by decide) ?_
          refine j_ireturn dX11_least_169 rfl ?_
          refine ⟨congrArg (fun z => some (Value.int z)) ?_, P, Q, ⟨hP, hQ⟩, rfl⟩
          rw [if_pos (Or.inr (Int32.not_le.mp h143))]
    · refine j_iconst (v := nI 0) dX11_least_52 rfl ?_
      refine j_istore (lv' := [some (.ref 76), some (.int _), some (.int _), some (.int _), some (.int _), some (.int _), some (.int _), some (.int _), none, none, none]) dX11_least_53 (by decide) rfl ?_
      refine l_least_in z1 z2 hw (by omega) hx ?_ 50 0 P Q (by decide) (by decide) hP hQ
      intro P Q hP hQ
      refine jn_iinc (lv' := [some (.ref 76), some (.int _), some (.int _), some (.int _), some (.int _), some (.int _), some (.int _), some (.int _), none, none, none]) dX11_least_131 rfl (by decide) rfl ?_
      refine j_goto (tgt := 46) dX11_least_134 (by decide) ?_
      exact j_sub (by exact ⟨rfl, rfl, rfl, rfl, rfl, rfl, rfl, trivial⟩) (ih (m + 1) P Q (by omega) (by omega) hP hQ)

set_option maxHeartbeats 200000 in
set_option maxRecDepth 100000 in
theorem m_least (hn : X 76 7 = nI na) (h6 : na ≤ 6) (z1 : zb 49 (A 82)) (z2 : zb 49 (A 83)) (z3 : zb 49 (A 84)) (z4 : zb 49 (A 85)) (hw : ow (A 82)) {k x : Nat} {y : Int32} (hk : k < na) (hx1 : 1 ≤ x) (hx : x ≤ 37) (hy : isA 3 y ≠ nI 0) : jMet (d + 3) yX11_least cX11_least 11 (some .int) 0 0 [.ref 76, .int (nI k), .int (nI x), .int y] (tw X A L) ((fun z w => z = some (.int (if y = 0 ∨ (lmO (A 82) (A 83) (nI k) x 4).1 < 0 then (lmO (A 82) (A 83) (nI k) x 4).2 else if y = nI 1 then (lmO (A 82) (A 83) (nI k) x 4).1 / nI 10 else (lmO (A 82) (A 83) (nI k) x 4).1 - (lmO (A 82) (A 83) (nI k) x 4).1 / nI 10 * nI 10)) ∧ ∃ P Q : Nat → Int32, (zb 49 P ∧ zb 49 Q) ∧ w = tw X (mA A P Q) L)) := by
  refine jMet_of (by decide) (Nat.le_of_ble_eq_true rfl) none (Or.inl rfl) ?_
  show jWP none RX11 cX11_least 11 (some .int) (d + 3) 0 0 0 [some (.ref 76), some (.int (nI k)), some (.int (nI x)), some (.int y), none, none, none, none, none, none, none] [] (tw X A L) ((fun z w => z = some (.int (if y = 0 ∨ (lmO (A 82) (A 83) (nI k) x 4).1 < 0 then (lmO (A 82) (A 83) (nI k) x 4).2 else if y = nI 1 then (lmO (A 82) (A 83) (nI k) x 4).1 / nI 10 else (lmO (A 82) (A 83) (nI k) x 4).1 - (lmO (A 82) (A 83) (nI k) x 4).1 / nI 10 * nI 10)) ∧ ∃ P Q : Nat → Int32, (zb 49 P ∧ zb 49 Q) ∧ w = tw X (mA A P Q) L))
  refine j_aload_n dX11_least_0 rfl rfl ?_
  refine j_iload_n dX11_least_1 rfl rfl ?_
  refine j_i2l dX11_least_2 ?_
  refine j_callVi [.long _] [] dX11_least_3 jlk_X11_128 rfl rfl rfl rfl (Nat.le_of_ble_eq_true rfl) (jMet_i (m_isAccount hn h6) (isA_in hk (by omega)) rfl) ?_
  refine j_if_eq (tgt := 33) dX11_least_6 (by decide) (fun h => absurd h (by decide)) (fun _ => ?_)
  refine j_iload_n dX11_least_9 rfl rfl ?_
  refine j_i2l dX11_least_10 ?_
  refine j_lconst (v := 1) dX11_least_11 rfl ?_
  refine j_ldc2 dX11_least_12 jw_k_X11_270 ?_
  refine j_callSi [.long _, .long _, .long _] [] dX11_least_15 jlk_X11_111 rfl rfl (Nat.le_of_ble_eq_true rfl) (jMet_i m_within (wi_1 hx1 hx (by decide) (by decide) (by decide)) rfl) ?_
  refine j_if_eq (tgt := 33) dX11_least_18 (by decide) (fun h => absurd h (by decide)) (fun _ => ?_)
  refine j_iload_n dX11_least_21 rfl rfl ?_
  refine j_i2l dX11_least_22 ?_
  refine j_lconst (v := 0) dX11_least_23 rfl ?_
  refine j_ldc2 dX11_least_24 jw_k_X11_131 ?_
  refine j_callSi [.long _, .long _, .long _] [] dX11_least_27 jlk_X11_111 rfl rfl (Nat.le_of_ble_eq_true rfl) (jMet_i m_within (wi_A (k := 2) (by decide) (by decide)) rfl) ?_
  refine j_if_ne (tgt := 35) dX11_least_30 (by decide) (fun h30 => ?_) (fun h30 => absurd (by first | exact h30 | simpa using h30) hy)
  refine j_bipush (v := (-2)) dX11_least_35 rfl ?_
  refine j_istore (lv' := [some (.ref 76), some (.int _), some (.int _), some (.int _), some (.int _), none, none, none, none, none, none]) dX11_least_37 (by decide) rfl ?_
  refine j_bipush (v := (-2)) dX11_least_39 rfl ?_
  refine j_istore (lv' := [some (.ref 76), some (.int _), some (.int _), some (.int _), some (.int _), some (.int _), none, none, none, none, none]) dX11_least_41 (by decide) rfl ?_
  refine j_iconst (v := nI 0) dX11_least_43 rfl ?_
  refine j_istore (lv' := [some (.ref 76), some (.int _), some (.int _), some (.int _), some (.int _), some (.int _), some (.int _), none, none, none, none]) dX11_least_44 (by decide) rfl ?_
  refine j_atw (congrArg (fun z => tw X z L) (mA_self A).symm) (l_least_out z1 z2 hw (by omega) 5 0 (A 84) (A 85) (by decide) (by decide) z3 z4)

set_option maxHeartbeats 200000 in
set_option maxRecDepth 100000 in
theorem m_least_no (hn : X 76 7 = nI na) (h6 : na ≤ 6) {a x y : Int32} (h : isA na a = nI 0 ∨ x < nI 1 ∨ nI 37 < x ∨ isA 3 y = nI 0) : jMet (d + 3) yX11_least cX11_least 11 (some .int) 0 0 [.ref 76, .int a, .int x, .int y] (tw X A L) (jRi (-1) (tw X A L)) := by
  refine jMet_of (by decide) (Nat.le_of_ble_eq_true rfl) none (Or.inl rfl) ?_
  show jWP none RX11 cX11_least 11 (some .int) (d + 3) 0 0 0 [some (.ref 76), some (.int a), some (.int x), some (.int y), none, none, none, none, none, none, none] [] (tw X A L) (jRi (-1) (tw X A L))
  refine j_aload_n dX11_least_0 rfl rfl ?_
  refine j_iload_n dX11_least_1 rfl rfl ?_
  refine j_i2l dX11_least_2 ?_
  refine j_callVi [.long _] [] dX11_least_3 jlk_X11_128 rfl rfl rfl rfl (Nat.le_of_ble_eq_true rfl) (m_isAccount hn h6) ?_
  have h6_ := h6
  refine j_if_eq (tgt := 33) dX11_least_6 (by decide) (fun h6 => ?_) (fun h6 => ?_)
  · refine j_iconst (v := (-1)) dX11_least_33 rfl ?_
    refine j_ireturn dX11_least_34 rfl ?_
    exact ⟨rfl, rfl⟩
  · refine j_iload_n dX11_least_9 rfl rfl ?_
    refine j_i2l dX11_least_10 ?_
    refine j_lconst (v := 1) dX11_least_11 rfl ?_
    refine j_ldc2 dX11_least_12 jw_k_X11_270 ?_
    refine j_callSi [.long _, .long _, .long _] [] dX11_least_15 jlk_X11_111 rfl rfl (Nat.le_of_ble_eq_true rfl) (m_within) ?_
    refine j_if_eq (tgt := 33) dX11_least_18 (by decide) (fun h18 => ?_) (fun h18 => ?_)
    · refine j_iconst (v := (-1)) dX11_least_33 rfl ?_
      refine j_ireturn dX11_least_34 rfl ?_
      exact ⟨rfl, rfl⟩
    · refine j_iload_n dX11_least_21 rfl rfl ?_
      refine j_i2l dX11_least_22 ?_
      refine j_lconst (v := 0) dX11_least_23 rfl ?_
      refine j_ldc2 dX11_least_24 jw_k_X11_131 ?_
      refine j_callSi [.long _, .long _, .long _] [] dX11_least_27 jlk_X11_111 rfl rfl (Nat.le_of_ble_eq_true rfl) (jMet_i m_within (wi_A (k := 2) (by decide) (by decide)) rfl) ?_
      refine j_if_ne (tgt := 35) dX11_least_30 (by decide) (fun h30 => ?_) (fun h30 => ?_)
      · exfalso
        have hw := wi_1g (a := 1) (b := 37) h18 (by decide) (by decide)
        rcases h with q | q | q | q
        · exact h6 q
        · exact hw.1 q
        · exact hw.2 q
        · exact h30 q
      · refine j_iconst (v := (-1)) dX11_least_33 rfl ?_
        refine j_ireturn dX11_least_34 rfl ?_
        exact ⟨rfl, rfl⟩

end CT50