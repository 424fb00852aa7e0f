theorem stepL_congr {nm nm' : Nat → Int32} (h : ∀ i, i < 6 → nm i = nm' i) (c v : Nat) (l : List Int32) : stepL nm c v l = stepL nm' c v l := by
  unfold stepL
  by_cases q : c = 2 ∧ v < 6
  · rw [if_pos q, if_pos q, h v q.2]
  · rw [if_neg q, if_neg q]
theorem evN_congr {cd vl : Nat → Nat} {nm nm' : Nat → Int32} (h : ∀ i, i < 6 → nm i = nm' i) (fr : Nat) : ∀ k, evN cd vl nm fr k = evN cd vl nm' fr k
  | 0 => rfl
  | k + 1 => by
    unfold evN
    rw [evN_congr h fr k, stepL_congr h]
theorem evV_congr {cd vl : Nat → Nat} {nm nm' : Nat → Int32} (h : ∀ i, i < 6 → nm i = nm' i) (fr to : Nat) : evV cd vl nm fr to = evV cd vl nm' fr to := by unfold evV; rw [evN_congr h]
theorem rkF_congr {cd vl st an en : Nat → Nat} {nm nm' : Nat → Int32} (h : ∀ i, i < 6 → nm i = nm' i) : ∀ m i, rkF cd vl st an en nm m i = rkF cd vl st an en nm' m i
  | 0, _ => rfl
  | m + 1, i => by
    unfold rkF
    rw [evV_congr h, evV_congr h (st i), rkF_congr h m]
def nmC (a b c d e f : Int32) (i : Nat) : Int32 := [a, b, c, d, e, f].getD i 0
theorem nm6_at {a b c d e f : Int32} {g : Nat → Int32} : ∀ i, i < 6 → nm6 a b c d e f g i = nmC a b c d e f i := by
  intro i hi
  rcases (show i = 0 ∨ i = 1 ∨ i = 2 ∨ i = 3 ∨ i = 4 ∨ i = 5 by omega) with rfl | rfl | rfl | rfl | rfl | rfl <;> simp [nm6, nmC, upd]
/-- a law in order: its rows as natural numbers -/
def lwf (cd vl st an en : Nat → Nat) (n : Nat) : Prop := (∀ i, cd i < 2 ^ 31) ∧ (∀ i, vl i < 2 ^ 31) ∧ n ≤ 61 ∧ ∀ i, i < n → st i ≤ an i ∧ an i ≤ en i ∧ en i ≤ 120
def scr (A : Nat → Nat → Int32) (B : Nat) (f g : Nat → Int32) : Nat → Nat → Int32 := va_up (va_up A (B + 6) f) (B + 7) g
theorem scr_n (A : Nat → Nat → Int32) (B : Nat) (f g : Nat → Int32) {c : Nat} (h1 : c ≠ B + 6) (h2 : c ≠ B + 7) : scr A B f g c = A c := by simp [scr, va_up, h1, h2]
theorem scr_6 (A : Nat → Nat → Int32) (B : Nat) (f g : Nat → Int32) : scr A B f g (B + 6) = f := by simp [scr, va_up]
theorem scr_7 (A : Nat → Nat → Int32) (B : Nat) (f g : Nat → Int32) : scr A B f g (B + 7) = g := by simp [scr, va_up]
theorem scr_scr (A : Nat → Nat → Int32) (B : Nat) (f g f' g' : Nat → Int32) : scr (scr A B f g) B f' g' = scr A B f' g' := by
  funext c
  by_cases h2 : c = B + 7
  · subst h2; simp [scr, va_up]
  · by_cases h1 : c = B + 6
    · subst h1; simp [scr, va_up]
    · simp [scr, va_up, h1, h2]
theorem scr_self (A : Nat → Nat → Int32) (B : Nat) : scr A B (A (B + 6)) (A (B + 7)) = A := by
  funext c
  by_cases h2 : c = B + 7
  · subst h2; simp [scr, va_up]
  · by_cases h1 : c = B + 6
    · subst h1; simp [scr, va_up]
    · simp [scr, va_up, h1, h2]
section CT11
variable {d : Nat} {X A : Nat → Nat → Int32} {L : Nat → Nat → Int64} {w : jW} {B : Nat}

set_option maxHeartbeats 4000000 in
set_option maxRecDepth 100000 in
theorem c_X3_isTold (hB : isB B) {n : Nat} (hn : X B 6 = nI n) (hn2 : n < 2 ^ 31) : jMet (d) yX3_isTold cX3_isTold 1 (some .boolean) 0 0 [.ref B] (tw X A L) (jRi (if n = 0 then nI 0 else nI 1) (tw X A L)) := by
  refine jMet_of (by decide) (Nat.le_of_ble_eq_true rfl) none (Or.inl rfl) ?_
  show jWP none RX3 cX3_isTold 1 (some .boolean) (d) 0 0 0 [some (.ref B)] [] (tw X A L) (jRi (if n = 0 then nI 0 else nI 1) (tw X A L))
  refine j_aload_n dX3_isTold_0 rfl rfl ?_
  refine t_getI dX3_isTold_1 jfl_X3_29 (shB0 hB) (fun _ => rfl) ?_
  refine j_topE (e' := nI n) hn ?_
  refine jn_if_le (tgt := 11) dX3_isTold_4 (by decide) (by omega) (fun h4 => ?_) (fun h4 => ?_)
  · refine j_iconst (v := nI 0) dX3_isTold_11 rfl ?_
    refine j_zreturn dX3_isTold_12 rfl (by decide) ?_
    exact ⟨by rw [if_pos h4], rfl⟩
  · refine j_iconst (v := nI 1) dX3_isTold_7 rfl ?_
    refine j_goto (tgt := 12) dX3_isTold_8 (by decide) ?_
    refine j_zreturn dX3_isTold_12 rfl (by decide) ?_
    exact ⟨by rw [if_neg (by omega)], rfl⟩

set_option maxHeartbeats 4000000 in
set_option maxRecDepth 100000 in
theorem l_X3_rank (hB : isB B) {cd vl st an en : Nat → Nat} {n : Nat} (h1 : A (B + 1) = nIf cd) (h2 : A (B + 2) = nIf vl) (h3 : A (B + 3) = nIf st) (h4 : A (B + 4) = nIf an) (h5 : A (B + 5) = nIf en) (hn : X B 6 = nI n) (hw : lwf cd vl st an en n) {a b c s k r : Int32} : ∀ (m i : Nat) (f g : Nat → Int32), i ≤ n → n - i < m → (∀ j, j < 6 → f j = nmC a b c s k r j) → rkF cd vl st an en (nmC a b c s k r) (n - i) i = (rkF cd vl st an en (nmC a b c s k r) n 0) → jWP none RX3 cX3_rank 9 (some .int) (d + 2) 0 0 48 [some (.ref B), some (.int a), some (.int b), some (.int c), some (.int s), some (.int k), some (.int r), some (.int (nI i)), none] [] (tw X (scr A B f g) L) ((fun z w => z = some (.int (rkF cd vl st an en (nmC a b c s k r) n 0)) ∧ ∃ f g, w = tw X (scr A B f g) L)) := by
  have q1 : B + 1 ≠ B + 6 := by omega
  have q2 : B + 2 ≠ B + 6 := by omega
  have q3 : B + 3 ≠ B + 6 := by omega
  have q4 : B + 4 ≠ B + 6 := by omega
  have q5 : B + 5 ≠ B + 6 := by omega
  have p1 : B + 1 ≠ B + 7 := by omega
  have p2 : B + 2 ≠ B + 7 := by omega
  have p3 : B + 3 ≠ B + 7 := by omega
  have p4 : B + 4 ≠ B + 7 := by omega
  have p5 : B + 5 ≠ B + 7 := by omega
  obtain ⟨hcd, hvl, hn61, hbd⟩ := id hw
  intro m
  induction m with
  | zero => intro i f g h1 h2; omega
  | succ m ih =>
    intro i f g hi hm hf hrk
    have g1 : (scr A B f g) (B + 1) = nIf cd := by rw [scr_n A B f g q1 p1]; exact h1
    have g2 : (scr A B f g) (B + 2) = nIf vl := by rw [scr_n A B f g q2 p2]; exact h2
    have g3 : (scr A B f g) (B + 3) = nIf st := by rw [scr_n A B f g q3 p3]; exact h3
    have g4 : (scr A B f g) (B + 4) = nIf an := by rw [scr_n A B f g q4 p4]; exact h4
    have g5 : (scr A B f g) (B + 5) = nIf en := by rw [scr_n A B f g q5 p5]; exact h5
    have hii : i < n → st i ≤ an i ∧ an i ≤ en i ∧ en i ≤ 120 := hbd i
    refine j_iload dX3_rank_48 rfl ?_
    refine j_aload_n dX3_rank_50 rfl rfl ?_
    refine t_getI dX3_rank_51 jfl_X3_29 (shB0 hB) (fun _ => rfl) ?_
    refine j_topE (e' := nI n) hn ?_
    refine jn_icmp_ge (tgt := 132) dX3_rank_54 (by decide) (by omega) (by omega) (fun h54 => ?_) (fun h54 => ?_)
    · refine j_iconst (v := nI 0) dX3_rank_132 rfl ?_
      refine j_ireturn dX3_rank_133 rfl ?_
      have e : i = n := by omega
      subst e
      refine ⟨?_, f, g, rfl⟩
      rw [← hrk, Nat.sub_self]
      rfl
    · obtain ⟨hb1, hb2, hb3⟩ := hii h54
      have hstep : rkF cd vl st an en (nmC a b c s k r) (n - i) i = if st i = an i then evV cd vl (nmC a b c s k r) (an i) (en i) else if evV cd vl (nmC a b c s k r) (st i) (an i) = 0 then rkF cd vl st an en (nmC a b c s k r) (n - (i + 1)) (i + 1) else evV cd vl (nmC a b c s k r) (an i) (en i) := by rw [show n - i = (n - (i + 1)) + 1 by omega]; rfl
      refine j_aload_n dX3_rank_57 rfl rfl ?_
      refine t_getR (b := (B + 3)) dX3_rank_58 jfl_X3_20 (shB0 hB) rfl ?_
      refine j_iload dX3_rank_61 rfl ?_
      refine t_iaload dX3_rank_63 (shB3 hB) (by omega) (by decide) ?_
      refine j_topE (e' := nI (st i)) (by rw [g3]; rfl) ?_
      refine j_aload_n dX3_rank_64 rfl rfl ?_
      refine t_getR (b := (B + 4)) dX3_rank_65 jfl_X3_23 (shB0 hB) rfl ?_
      refine j_iload dX3_rank_68 rfl ?_
      refine t_iaload dX3_rank_70 (shB4 hB) (by omega) (by decide) ?_
      refine j_topE (e' := nI (an i)) (by rw [g4]; rfl) ?_
      refine jn_icmp_ne (tgt := 78) dX3_rank_71 (by decide) (by omega) (by omega) (fun h71 => ?_) (fun h71 => ?_)
      · refine j_iconst (v := nI 0) dX3_rank_78 rfl ?_
        refine j_istore (lv' := [some (.ref B), some (.int _), some (.int _), some (.int _), some (.int _), some (.int _), some (.int _), some (.int _), some (.int _)]) dX3_rank_79 (by decide) rfl ?_
        refine j_iload dX3_rank_81 rfl ?_
        refine j_if_ne (tgt := 107) dX3_rank_83 (by decide) (fun h => absurd (by decide) h) (fun _ => ?_)
        refine j_aload_n dX3_rank_86 rfl rfl ?_
        refine j_aload_n dX3_rank_87 rfl rfl ?_
        refine t_getR (b := (B + 3)) dX3_rank_88 jfl_X3_20 (shB0 hB) rfl ?_
        refine j_iload dX3_rank_91 rfl ?_
        refine t_iaload dX3_rank_93 (shB3 hB) (by omega) (by decide) ?_
        refine j_topE (e' := nI (st i)) (by rw [g3]; rfl) ?_
        refine j_aload_n dX3_rank_94 rfl rfl ?_
        refine t_getR (b := (B + 4)) dX3_rank_95 jfl_X3_23 (shB0 hB) rfl ?_
        refine j_iload dX3_rank_98 rfl ?_
        refine t_iaload dX3_rank_100 (shB4 hB) (by omega) (by decide) ?_
        refine j_topE (e' := nI (an i)) (by rw [g4]; rfl) ?_
        refine j_callV [.int _, .int _] [] dX3_rank_101 jlk_X3_44 rfl rfl ((shB0 hB) _ _ _) rfl (Nat.le_of_ble_eq_true rfl) (c_X3_workedOut (fr := st i) (to := an i) hB g1 g2 (scr_6 A B _ _) hcd hvl (by omega) (by omega)) (fun r9 w9 h9 => ?_)
        obtain ⟨rfl, g9, rfl⟩ := h9
        rw [evV_congr hf]
        refine j_atw (w' := tw X (scr A B f g9) L) (tw_eq rfl (by unfold scr; rw [vu_up]) rfl) ?_
        have g4 : (scr A B f g9) (B + 4) = nIf an := by rw [scr_n A B f g9 q4 p4]; exact h4
        have g5 : (scr A B f g9) (B + 5) = nIf en := by rw [scr_n A B f g9 q5 p5]; exact h5
        have g1 : (scr A B f g9) (B + 1) = nIf cd := by rw [scr_n A B f g9 q1 p1]; exact h1
        have g2 : (scr A B f g9) (B + 2) = nIf vl := by rw [scr_n A B f g9 q2 p2]; exact h2
        refine j_ats (st' := [.int _]) rfl ?_
        refine j_if_eq (tgt := 126) dX3_rank_104 (by decide) (fun h104 => ?_) (fun h104 => ?_)
        · refine jn_iinc (lv' := [some (.ref B), some (.int _), some (.int _), some (.int _), some (.int _), some (.int _), some (.int _), some (.int _), some (.int _)]) dX3_rank_126 rfl (by decide) rfl ?_
          refine j_goto (tgt := 48) dX3_rank_129 (by decide) ?_
          refine j_sub (by exact ⟨rfl, rfl, rfl, rfl, rfl, rfl, rfl, rfl, trivial⟩) (ih (i + 1) f g9 (by omega) (by omega) hf ?_)
          rw [← hrk, hstep, if_neg h71, if_pos h104]
        · refine j_aload_n dX3_rank_107 rfl rfl ?_
          refine j_aload_n dX3_rank_108 rfl rfl ?_
          refine t_getR (b := (B + 4)) dX3_rank_109 jfl_X3_23 (shB0 hB) rfl ?_
          refine j_iload dX3_rank_112 rfl ?_
          refine t_iaload dX3_rank_114 (shB4 hB) (by omega) (by decide) ?_
          refine j_topE (e' := nI (an i)) (by rw [g4]; rfl) ?_
          refine j_aload_n dX3_rank_115 rfl rfl ?_
          refine t_getR (b := (B + 5)) dX3_rank_116 jfl_X3_26 (shB0 hB) rfl ?_
          refine j_iload dX3_rank_119 rfl ?_
          refine t_iaload dX3_rank_121 (shB5 hB) (by omega) (by decide) ?_
          refine j_topE (e' := nI (en i)) (by rw [g5]; rfl) ?_
          refine j_callV [.int _, .int _] [] dX3_rank_122 jlk_X3_44 rfl rfl ((shB0 hB) _ _ _) rfl (Nat.le_of_ble_eq_true rfl) (c_X3_workedOut (fr := an i) (to := en i) hB g1 g2 (scr_6 A B _ _) hcd hvl (by omega) (by omega)) (fun r9 w9 h9 => ?_)
          obtain ⟨rfl, g9, rfl⟩ := h9
          rw [evV_congr hf]
          refine j_atw (w' := tw X (scr A B f g9) L) (tw_eq rfl (by unfold scr; rw [vu_up]) rfl) ?_
          refine j_ats (st' := [.int _]) rfl ?_
          refine j_ireturn dX3_rank_125 rfl ?_
          refine ⟨?_, f, g9, rfl⟩
          rw [← hrk, hstep, if_neg h71, if_neg h104]
      · refine j_iconst (v := nI 1) dX3_rank_74 rfl ?_
        refine j_goto (tgt := 79) dX3_rank_75 (by decide) ?_
        refine j_istore (lv' := [some (.ref B), some (.int _), some (.int _), some (.int _), some (.int _), some (.int _), some (.int _), some (.int _), some (.int _)]) dX3_rank_79 (by decide) rfl ?_
        refine j_iload dX3_rank_81 rfl ?_
        refine j_if_ne (tgt := 107) dX3_rank_83 (by decide) (fun _ => ?_) (fun h => absurd h (by decide))
        refine j_aload_n dX3_rank_107 rfl rfl ?_
        refine j_aload_n dX3_rank_108 rfl rfl ?_
        refine t_getR (b := (B + 4)) dX3_rank_109 jfl_X3_23 (shB0 hB) rfl ?_
        refine j_iload dX3_rank_112 rfl ?_
        refine t_iaload dX3_rank_114 (shB4 hB) (by omega) (by decide) ?_
        refine j_topE (e' := nI (an i)) (by rw [g4]; rfl) ?_
        refine j_aload_n dX3_rank_115 rfl rfl ?_
        refine t_getR (b := (B + 5)) dX3_rank_116 jfl_X3_26 (shB0 hB) rfl ?_
        refine j_iload dX3_rank_119 rfl ?_
        refine t_iaload dX3_rank_121 (shB5 hB) (by omega) (by decide) ?_
        refine j_topE (e' := nI (en i)) (by rw [g5]; rfl) ?_
        refine j_callV [.int _, .int _] [] dX3_rank_122 jlk_X3_44 rfl rfl ((shB0 hB) _ _ _) rfl (Nat.le_of_ble_eq_true rfl) (c_X3_workedOut (fr := an i) (to := en i) hB g1 g2 (scr_6 A B _ _) hcd hvl (by omega) (by omega)) (fun r9 w9 h9 => ?_)
        obtain ⟨rfl, g9, rfl⟩ := h9
        rw [evV_congr hf]
        refine j_atw (w' := tw X (scr A B f g9) L) (tw_eq rfl (by unfold scr; rw [vu_up]) rfl) ?_
        refine j_ats (st' := [.int _]) rfl ?_
        refine j_ireturn dX3_rank_125 rfl ?_
        refine ⟨?_, f, g9, rfl⟩
        rw [← hrk, hstep, if_pos h71]

set_option maxHeartbeats 4000000 in
set_option maxRecDepth 100000 in
theorem c_X3_rank (hB : isB B) {cd vl st an en : Nat → Nat} {n : Nat} (h1 : A (B + 1) = nIf cd) (h2 : A (B + 2) = nIf vl) (h3 : A (B + 3) = nIf st) (h4 : A (B + 4) = nIf an) (h5 : A (B + 5) = nIf en) (hn : X B 6 = nI n) (hw : lwf cd vl st an en n) {a b c s k r : Int32} : jMet (d + 2) yX3_rank cX3_rank 9 (some .int) 0 0 [.ref B, .int a, .int b, .int c, .int s, .int k, .int r] (tw X A L) ((fun z w => z = some (.int (rkF cd vl st an en (nmC a b c s k r) n 0)) ∧ ∃ f g, w = tw X (scr A B f g) L)) := by
  refine jMet_of (by decide) (Nat.le_of_ble_eq_true rfl) none (Or.inl rfl) ?_
  show jWP none RX3 cX3_rank 9 (some .int) (d + 2) 0 0 0 [some (.ref B), some (.int a), some (.int b), some (.int c), some (.int s), some (.int k), some (.int r), none, none] [] (tw X A L) ((fun z w => z = some (.int (rkF cd vl st an en (nmC a b c s k r) n 0)) ∧ ∃ f g, w = tw X (scr A B f g) L))
  refine j_aload_n dX3_rank_0 rfl rfl ?_
  refine t_getR (b := (B + 6)) dX3_rank_1 jfl_X3_38 (shB0 hB) rfl ?_
  refine j_iconst (v := nI 0) dX3_rank_4 rfl ?_
  refine j_iload_n dX3_rank_5 rfl rfl ?_
  refine t_iastore dX3_rank_6 (shB6 hB) (by omega) (by decide) ?_
  refine j_aload_n dX3_rank_7 rfl rfl ?_
  refine t_getR (b := (B + 6)) dX3_rank_8 jfl_X3_38 (shB0 hB) rfl ?_
  refine j_iconst (v := nI 1) dX3_rank_11 rfl ?_
  refine j_iload_n dX3_rank_12 rfl rfl ?_
  refine t_iastore dX3_rank_13 (shB6 hB) (by omega) (by decide) ?_
  refine j_aload_n dX3_rank_14 rfl rfl ?_
  refine t_getR (b := (B + 6)) dX3_rank_15 jfl_X3_38 (shB0 hB) rfl ?_
  refine j_iconst (v := nI 2) dX3_rank_18 rfl ?_
  refine j_iload_n dX3_rank_19 rfl rfl ?_
  refine t_iastore dX3_rank_20 (shB6 hB) (by omega) (by decide) ?_
  refine j_aload_n dX3_rank_21 rfl rfl ?_
  refine t_getR (b := (B + 6)) dX3_rank_22 jfl_X3_38 (shB0 hB) rfl ?_
  refine j_iconst (v := nI 3) dX3_rank_25 rfl ?_
  refine j_iload dX3_rank_26 rfl ?_
  refine t_iastore dX3_rank_28 (shB6 hB) (by omega) (by decide) ?_
  refine j_aload_n dX3_rank_29 rfl rfl ?_
  refine t_getR (b := (B + 6)) dX3_rank_30 jfl_X3_38 (shB0 hB) rfl ?_
  refine j_iconst (v := nI 4) dX3_rank_33 rfl ?_
  refine j_iload dX3_rank_34 rfl ?_
  refine t_iastore dX3_rank_36 (shB6 hB) (by omega) (by decide) ?_
  refine j_aload_n dX3_rank_37 rfl rfl ?_
  refine t_getR (b := (B + 6)) dX3_rank_38 jfl_X3_38 (shB0 hB) rfl ?_
  refine j_iconst (v := nI 5) dX3_rank_41 rfl ?_
  refine j_iload dX3_rank_42 rfl ?_
  refine t_iastore dX3_rank_44 (shB6 hB) (by omega) (by decide) ?_
  refine j_iconst (v := nI 0) dX3_rank_45 rfl ?_
  refine j_istore (lv' := [some (.ref B), some (.int _), some (.int _), some (.int _), some (.int _), some (.int _), some (.int _), some (.int _), none]) dX3_rank_46 (by decide) rfl ?_
  refine j_sub (by exact ⟨rfl, rfl, rfl, rfl, rfl, rfl, rfl, rfl, trivial⟩) (j_atw ?_ (l_X3_rank (a := a) (b := b) (c := c) (s := s) (k := k) (r := r) hB h1 h2 h3 h4 h5 hn hw (n + 1) 0 (nm6 a b c s k r (A (B + 6))) (A (B + 7)) (by omega) (by omega) nm6_at (by rw [Nat.sub_zero])))
  refine tw_eq rfl ?_ rfl
  simp only [vu_s, vu_up]
  unfold scr nm6
  rw [← vu_n A (B + 6) (upd (upd (upd (upd (upd (upd (A (B + 6)) 0 a) 1 b) 2 c) 3 s) 4 k) 5 r) (show B + 7 ≠ B + 6 by omega), vu_self]

set_option maxHeartbeats 4000000 in
set_option maxRecDepth 100000 in
theorem c_X3_clear (hB : isB B) : jMet (d) yX3_clear cX3_clear 1 none 0 0 [.ref B] (tw X A L) (jRv (tw (va_up X B (upd (upd (upd (upd (X B) 2 (nI 0)) 6 (nI 0)) 7 (nI 0)) 8 (nI 0))) A L)) := by
  refine jMet_of (by decide) (Nat.le_of_ble_eq_true rfl) none (Or.inl rfl) ?_
  show jWP none RX3 cX3_clear 1 none (d) 0 0 0 [some (.ref B)] [] (tw X A L) (jRv (tw (va_up X B (upd (upd (upd (upd (X B) 2 (nI 0)) 6 (nI 0)) 7 (nI 0)) 8 (nI 0))) A L))
  refine j_aload_n dX3_clear_0 rfl rfl ?_
  refine j_iconst (v := nI 0) dX3_clear_1 rfl ?_
  refine t_putI dX3_clear_2 jfl_X3_16 (shB0 hB) (fun _ _ => rfl) (Nat.le_of_ble_eq_true rfl) rfl rfl ?_
  refine j_aload_n dX3_clear_5 rfl rfl ?_
  refine j_iconst (v := nI 0) dX3_clear_6 rfl ?_
  refine t_putI dX3_clear_7 jfl_X3_29 (shB0 hB) (fun _ _ => rfl) (Nat.le_of_ble_eq_true rfl) rfl rfl ?_
  refine j_aload_n dX3_clear_10 rfl rfl ?_
  refine j_iconst (v := nI 0) dX3_clear_11 rfl ?_
  refine t_putI dX3_clear_12 jfl_X3_32 (shB0 hB) (fun _ _ => rfl) (Nat.le_of_ble_eq_true rfl) rfl rfl ?_
  refine j_aload_n dX3_clear_15 rfl rfl ?_
  refine j_iconst (v := nI 0) dX3_clear_16 rfl ?_
  refine t_putI dX3_clear_17 jfl_X3_35 (shB0 hB) (fun _ _ => rfl) (Nat.le_of_ble_eq_true rfl) rfl rfl ?_
  refine j_return dX3_clear_20 rfl ?_
  refine ⟨rfl, ?_⟩
  simp only [vu_s, vu_up]

set_option maxHeartbeats 4000000 in
set_option maxRecDepth 100000 in
theorem c_X3_add (hB : isB B) {cd vl : Nat → Nat} {ln : Nat} (h1 : A (B + 1) = nIf cd) (h2 : A (B + 2) = nIf vl) (hln : X B 2 = nI ln) (hl : ln < 120) {c v : Nat} : jMet (d) yX3_add cX3_add 3 none 0 0 [.ref B, .int (nI c), .int (nI v)] (tw X A L) (jRv (tw (va_up X B (upd (X B) 2 (nI (ln + 1)))) (va_up (va_up A (B + 1) (nIf (updN cd ln c))) (B + 2) (nIf (updN vl ln v))) L)) := by
  refine jMet_of (by decide) (Nat.le_of_ble_eq_true rfl) none (Or.inl rfl) ?_
  show jWP none RX3 cX3_add 3 none (d) 0 0 0 [some (.ref B), some (.int (nI c)), some (.int (nI v))] [] (tw X A L) (jRv (tw (va_up X B (upd (X B) 2 (nI (ln + 1)))) (va_up (va_up A (B + 1) (nIf (updN cd ln c))) (B + 2) (nIf (updN vl ln v))) L))
  refine j_aload_n dX3_add_0 rfl rfl ?_
  refine t_getI dX3_add_1 jfl_X3_16 (shB0 hB) (fun _ => rfl) ?_
  refine j_topE (e' := nI ln) hln ?_
  refine j_bipush (v := nI 120) dX3_add_4 rfl ?_
  refine jn_icmp_ge (tgt := 39) dX3_add_6 (by decide) (by omega) (by omega) (fun h6 => absurd h6 (by omega)) (fun h6 => ?_)
  refine j_aload_n dX3_add_9 rfl rfl ?_
  refine t_getR (b := (B + 1)) dX3_add_10 jfl_X3_9 (shB0 hB) rfl ?_
  refine j_aload_n dX3_add_13 rfl rfl ?_
  refine t_getI dX3_add_14 jfl_X3_16 (shB0 hB) (fun _ => rfl) ?_
  refine j_topE (e' := nI ln) hln ?_
  refine j_iload_n dX3_add_17 rfl rfl ?_
  refine t_iastore dX3_add_18 (shB1 hB) (by omega) (by decide) ?_
  refine j_aload_n dX3_add_19 rfl rfl ?_
  refine t_getR (b := (B + 2)) dX3_add_20 jfl_X3_13 (shB0 hB) rfl ?_
  refine j_aload_n dX3_add_23 rfl rfl ?_
  refine t_getI dX3_add_24 jfl_X3_16 (shB0 hB) (fun _ => rfl) ?_
  refine j_topE (e' := nI ln) hln ?_
  refine j_iload_n dX3_add_27 rfl rfl ?_
  refine t_iastore dX3_add_28 (shB2 hB) (by omega) (by decide) ?_
  refine j_aload_n dX3_add_29 rfl rfl ?_
  refine j_dup dX3_add_30 rfl ?_
  refine t_getI dX3_add_31 jfl_X3_16 (shB0 hB) (fun _ => rfl) ?_
  refine j_topE (e' := nI ln) hln ?_
  refine j_iconst (v := nI 1) dX3_add_34 rfl ?_
  refine jn_iadd dX3_add_35 ?_
  refine t_putI dX3_add_36 jfl_X3_16 (shB0 hB) (fun _ _ => rfl) (Nat.le_of_ble_eq_true rfl) rfl rfl ?_
  refine j_return dX3_add_39 rfl ?_
  refine ⟨rfl, tw_eq rfl ?_ rfl⟩
  rw [vu_n _ _ _ (show B + 2 ≠ B + 1 by omega), h1, h2, upd_nIf, upd_nIf]

set_option maxHeartbeats 4000000 in
set_option maxRecDepth 100000 in
theorem c_X3_endCondition (hB : isB B) : jMet (d) yX3_endCondition cX3_endCondition 1 none 0 0 [.ref B] (tw X A L) (jRv (tw (va_up X B (upd (X B) 8 (X B 2))) A L)) := by
  refine jMet_of (by decide) (Nat.le_of_ble_eq_true rfl) none (Or.inl rfl) ?_
  show jWP none RX3 cX3_endCondition 1 none (d) 0 0 0 [some (.ref B)] [] (tw X A L) (jRv (tw (va_up X B (upd (X B) 8 (X B 2))) A L))
  refine j_aload_n dX3_endCondition_0 rfl rfl ?_
  refine j_aload_n dX3_endCondition_1 rfl rfl ?_
  refine t_getI dX3_endCondition_2 jfl_X3_16 (shB0 hB) (fun _ => rfl) ?_
  refine t_putI dX3_endCondition_5 jfl_X3_35 (shB0 hB) (fun _ _ => rfl) (Nat.le_of_ble_eq_true rfl) rfl rfl ?_
  refine j_return dX3_endCondition_8 rfl ?_
  exact ⟨rfl, rfl⟩

set_option maxHeartbeats 4000000 in
set_option maxRecDepth 100000 in
theorem c_X3_endLine (hB : isB B) {st an en : Nat → Nat} {n s0 a0 ln : Nat} (h3 : A (B + 3) = nIf st) (h4 : A (B + 4) = nIf an) (h5 : A (B + 5) = nIf en) (hn : X B 6 = nI n) (hn61 : n < 61) (hs : X B 7 = nI s0) (ha : X B 8 = nI a0) (hln : X B 2 = nI ln) : jMet (d) yX3_endLine cX3_endLine 1 none 0 0 [.ref B] (tw X A L) (jRv (tw (va_up X B (upd (upd (upd (X B) 6 (nI (n + 1))) 7 (nI ln)) 8 (nI ln))) (va_up (va_up (va_up A (B + 3) (nIf (updN st n s0))) (B + 4) (nIf (updN an n a0))) (B + 5) (nIf (updN en n ln))) L)) := by
  refine jMet_of (by decide) (Nat.le_of_ble_eq_true rfl) none (Or.inl rfl) ?_
  show jWP none RX3 cX3_endLine 1 none (d) 0 0 0 [some (.ref B)] [] (tw X A L) (jRv (tw (va_up X B (upd (upd (upd (X B) 6 (nI (n + 1))) 7 (nI ln)) 8 (nI ln))) (va_up (va_up (va_up A (B + 3) (nIf (updN st n s0))) (B + 4) (nIf (updN an n a0))) (B + 5) (nIf (updN en n ln))) L))
  refine j_aload_n dX3_endLine_0 rfl rfl ?_
  refine t_getI dX3_endLine_1 jfl_X3_29 (shB0 hB) (fun _ => rfl) ?_
  refine j_topE (e' := nI n) hn ?_
  refine j_bipush (v := nI 61) dX3_endLine_4 rfl ?_
  refine jn_icmp_ge (tgt := 58) dX3_endLine_6 (by decide) (by omega) (by omega) (fun h6 => absurd h6 (by omega)) (fun h6 => ?_)
  refine j_aload_n dX3_endLine_9 rfl rfl ?_
  refine t_getR (b := (B + 3)) dX3_endLine_10 jfl_X3_20 (shB0 hB) rfl ?_
  refine j_aload_n dX3_endLine_13 rfl rfl ?_
  refine t_getI dX3_endLine_14 jfl_X3_29 (shB0 hB) (fun _ => rfl) ?_
  refine j_topE (e' := nI n) hn ?_
  refine j_aload_n dX3_endLine_17 rfl rfl ?_
  refine t_getI dX3_endLine_18 jfl_X3_32 (shB0 hB) (fun _ => rfl) ?_
  refine j_topE (e' := nI s0) hs ?_
  refine t_iastore dX3_endLine_21 (shB3 hB) (by omega) (by decide) ?_
  refine j_aload_n dX3_endLine_22 rfl rfl ?_
  refine t_getR (b := (B + 4)) dX3_endLine_23 jfl_X3_23 (shB0 hB) rfl ?_
  refine j_aload_n dX3_endLine_26 rfl rfl ?_
  refine t_getI dX3_endLine_27 jfl_X3_29 (shB0 hB) (fun _ => rfl) ?_
  refine j_topE (e' := nI n) hn ?_
  refine j_aload_n dX3_endLine_30 rfl rfl ?_
  refine t_getI dX3_endLine_31 jfl_X3_35 (shB0 hB) (fun _ => rfl) ?_
  refine j_topE (e' := nI a0) ha ?_
  refine t_iastore dX3_endLine_34 (shB4 hB) (by omega) (by decide) ?_
  refine j_aload_n dX3_endLine_35 rfl rfl ?_
  refine t_getR (b := (B + 5)) dX3_endLine_36 jfl_X3_26 (shB0 hB) rfl ?_
  refine j_aload_n dX3_endLine_39 rfl rfl ?_
  refine t_getI dX3_endLine_40 jfl_X3_29 (shB0 hB) (fun _ => rfl) ?_
  refine j_topE (e' := nI n) hn ?_
  refine j_aload_n dX3_endLine_43 rfl rfl ?_
  refine t_getI dX3_endLine_44 jfl_X3_16 (shB0 hB) (fun _ => rfl) ?_
  refine j_topE (e' := nI ln) hln ?_
  refine t_iastore dX3_endLine_47 (shB5 hB) (by omega) (by decide) ?_
  refine j_aload_n dX3_endLine_48 rfl rfl ?_
  refine j_dup dX3_endLine_49 rfl ?_
  refine t_getI dX3_endLine_50 jfl_X3_29 (shB0 hB) (fun _ => rfl) ?_
  refine j_topE (e' := nI n) hn ?_
  refine j_iconst (v := nI 1) dX3_endLine_53 rfl ?_
  refine jn_iadd dX3_endLine_54 ?_
  refine t_putI dX3_endLine_55 jfl_X3_29 (shB0 hB) (fun _ _ => rfl) (Nat.le_of_ble_eq_true rfl) rfl rfl ?_
  refine j_aload_n dX3_endLine_58 rfl rfl ?_
  refine j_aload_n dX3_endLine_59 rfl rfl ?_
  refine t_getI dX3_endLine_60 jfl_X3_16 (shB0 hB) (fun _ => rfl) ?_
  refine j_topE (e' := nI ln) (by rw [vu_s, pk_un (by decide)]; exact hln) ?_
  refine t_putI dX3_endLine_63 jfl_X3_32 (shB0 hB) (fun _ _ => rfl) (Nat.le_of_ble_eq_true rfl) rfl rfl ?_
  refine j_aload_n dX3_endLine_66 rfl rfl ?_
  refine j_aload_n dX3_endLine_67 rfl rfl ?_
  refine t_getI dX3_endLine_68 jfl_X3_16 (shB0 hB) (fun _ => rfl) ?_
  refine j_topE (e' := nI ln) (by simp only [vu_s, vu_up]; rw [pk_un (by decide), pk_un (by decide)]; exact hln) ?_
  refine t_putI dX3_endLine_71 jfl_X3_35 (shB0 hB) (fun _ _ => rfl) (Nat.le_of_ble_eq_true rfl) rfl rfl ?_
  refine j_return dX3_endLine_74 rfl ?_
  refine ⟨rfl, tw_eq ?_ ?_ rfl⟩
  · simp only [vu_s, vu_up]
  · rw [vu_n _ _ _ (show B + 4 ≠ B + 3 by omega), vu_n _ _ _ (show B + 5 ≠ B + 4 by omega), vu_n _ _ _ (show B + 5 ≠ B + 3 by omega), h3, h4, h5, upd_nIf, upd_nIf, upd_nIf]

end CT11