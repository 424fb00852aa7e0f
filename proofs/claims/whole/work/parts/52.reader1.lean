/-! the law's reader and its draft: rows f (0 waiting, 1 codes, 2 values, 3 starts, 4 answers, 5 ends), numbers k (0 length, 1 lines, 2 start, 3 answer, 4 waits, 5 opened, 6 wants, 7 a condition came) -/
abbrev rT : Type := (Nat → Nat → Nat) × (Nat → Nat)
def r16 (x : Nat → Int32) (k : Nat → Nat) : Nat → Int32 := fun q => if q = 3 then nI (k 4) else if q = 4 then nI (k 5) else if q = 5 then nI (k 6) else if q = 6 then nI (k 7) else x q
def rG (x : Nat → Int32) (k : Nat → Nat) : Nat → Int32 := fun q => if q = 2 then nI (k 0) else if q = 6 then nI (k 1) else if q = 7 then nI (k 2) else if q = 8 then nI (k 3) else x q
def rX (X : Nat → Nat → Int32) (G : Nat) (k : Nat → Nat) : Nat → Nat → Int32 := va_up (va_up X 16 (r16 (X 16) k)) G (rG (X G) k)
def rA (A : Nat → Nat → Int32) (G : Nat) (f : Nat → Nat → Nat) : Nat → Nat → Int32 := fun c => if c = 18 then nIf (f 0) else if c = G + 1 then nIf (f 1) else if c = G + 2 then nIf (f 2) else if c = G + 3 then nIf (f 3) else if c = G + 4 then nIf (f 4) else if c = G + 5 then nIf (f 5) else A c
def stR (f : Nat → Nat → Nat) (r i x : Nat) : Nat → Nat → Nat := fun r' => if r' = r then updN (f r) i x else f r'
theorem rX_at16 {X : Nat → Nat → Int32} {G : Nat} {k : Nat → Nat} (hB : isB G) : rX X G k 16 = r16 (X 16) k := by
  unfold rX
  rcases hB with rfl | rfl
  · rw [vu_n _ _ _ (by decide), vu_s]
  · rw [vu_n _ _ _ (by decide), vu_s]
theorem rX_atG {X : Nat → Nat → Int32} {G : Nat} {k : Nat → Nat} : rX X G k G = rG (X G) k := vu_s _ _ _
section RX
variable {X A : Nat → Nat → Int32} {G : Nat} {k : Nat → Nat} {f : Nat → Nat → Nat}
theorem rX_3 (hB : isB G) : rX X G k 16 3 = nI (k 4) := by rw [rX_at16 hB]; rfl
theorem rX_4 (hB : isB G) : rX X G k 16 4 = nI (k 5) := by rw [rX_at16 hB]; rfl
theorem rX_5 (hB : isB G) : rX X G k 16 5 = nI (k 6) := by rw [rX_at16 hB]; rfl
theorem rX_6 (hB : isB G) : rX X G k 16 6 = nI (k 7) := by rw [rX_at16 hB]; rfl
theorem rX_1 {tl : Nat} (hB : isB G) (htl : X 16 1 = nI tl) : rX X G k 16 1 = nI tl := by rw [rX_at16 hB]; exact htl
theorem rX_G2 : rX X G k G 2 = nI (k 0) := by rw [rX_atG]; rfl
theorem rX_G6 : rX X G k G 6 = nI (k 1) := by rw [rX_atG]; rfl
theorem rX_G7 : rX X G k G 7 = nI (k 2) := by rw [rX_atG]; rfl
theorem rX_G8 : rX X G k G 8 = nI (k 3) := by rw [rX_atG]; rfl
theorem r16_u {x : Nat → Int32} {j y : Nat} (h1 : j < 4) : upd (r16 x k) (j + 3) (nI y) = r16 x (updN k (j + 4) y) := by
  funext q
  unfold r16 updN upd
  rcases (show j = 0 ∨ j = 1 ∨ j = 2 ∨ j = 3 by omega) with rfl | rfl | rfl | rfl <;> by_cases h3 : q = 3 <;> by_cases h4 : q = 4 <;> by_cases h5 : q = 5 <;> by_cases h6 : q = 6 <;> simp_all
theorem rG_u {x : Nat → Int32} {y : Nat} : upd (rG x k) 2 (nI y) = rG x (updN k 0 y) ∧ upd (rG x k) 6 (nI y) = rG x (updN k 1 y) ∧ upd (rG x k) 7 (nI y) = rG x (updN k 2 y) ∧ upd (rG x k) 8 (nI y) = rG x (updN k 3 y) := by
  refine ⟨?_, ?_, ?_, ?_⟩ <;> (funext q; unfold rG updN upd; by_cases h2 : q = 2 <;> by_cases h6 : q = 6 <;> by_cases h7 : q = 7 <;> by_cases h8 : q = 8 <;> simp_all)
theorem rX_set16 {k' : Nat → Nat} (hB : isB G) (h : ∀ q, q < 4 → k' q = k q) : va_up (rX X G k) 16 (r16 (X 16) k') = rX X G k' := by
  unfold rX
  rw [vu_comm _ _ _ (show G ≠ 16 from by rcases hB with rfl | rfl <;> decide), vu_up]
  refine congrArg _ ?_
  funext q
  unfold rG
  rw [h 0 (by decide), h 1 (by decide), h 2 (by decide), h 3 (by decide)]
theorem rX_setG {k' : Nat → Nat} (h : ∀ q, 4 ≤ q → k' q = k q) : va_up (rX X G k) G (rG (X G) k') = rX X G k' := by
  unfold rX
  rw [vu_up]
  refine congrArg (fun z => va_up (va_up X 16 z) G _) ?_
  funext q
  unfold r16
  rw [h 4 (by decide), h 5 (by decide), h 6 (by decide), h 7 (by decide)]
theorem rX_p16 {j y : Nat} (hB : isB G) (h : j < 4) : va_up (rX X G k) 16 (upd (rX X G k 16) (j + 3) (nI y)) = rX X G (updN k (j + 4) y) := by
  rw [rX_at16 hB, r16_u h]
  exact rX_set16 hB (fun q hq => updN_n _ _ _ (by omega))
theorem rX_p3 {y : Nat} (hB : isB G) : va_up (rX X G k) 16 (upd (rX X G k 16) 3 (nI y)) = rX X G (updN k 4 y) := rX_p16 (j := 0) hB (by decide)
theorem rX_p4 {y : Nat} (hB : isB G) : va_up (rX X G k) 16 (upd (rX X G k 16) 4 (nI y)) = rX X G (updN k 5 y) := rX_p16 (j := 1) hB (by decide)
theorem rX_p5 {y : Nat} (hB : isB G) : va_up (rX X G k) 16 (upd (rX X G k 16) 5 (nI y)) = rX X G (updN k 6 y) := rX_p16 (j := 2) hB (by decide)
theorem rX_p6 {y : Nat} (hB : isB G) : va_up (rX X G k) 16 (upd (rX X G k 16) 6 (nI y)) = rX X G (updN k 7 y) := rX_p16 (j := 3) hB (by decide)
theorem rA_r {r : Nat} (h : r < 6) (hB : isB G) : rA A G f (if r = 0 then 18 else G + r) = nIf (f r) := by
  rcases (show r = 0 ∨ r = 1 ∨ r = 2 ∨ r = 3 ∨ r = 4 ∨ r = 5 by omega) with rfl | rfl | rfl | rfl | rfl | rfl <;> rcases hB with rfl | rfl <;> rfl
theorem rA_set {r i x : Nat} (h : r < 6) (hB : isB G) : va_up (rA A G f) (if r = 0 then 18 else G + r) (nIf (updN (f r) i x)) = rA A G (stR f r i x) := by
  have := isB_34 hB
  have hB2 := id hB
  unfold isB at hB2
  funext c
  unfold va_up rA stR
  rcases (show r = 0 ∨ r = 1 ∨ r = 2 ∨ r = 3 ∨ r = 4 ∨ r = 5 by omega) with rfl | rfl | rfl | rfl | rfl | rfl
  all_goals (rcases hB2 with rfl | rfl <;> (by_cases e0 : c = 18 <;> simp_all <;> split <;> simp_all))
theorem rA_18 {i : Nat} (hB : isB G) : rA A G f 18 i = nI (f 0 i) := by rw [show rA A G f 18 = nIf (f 0) from rA_r (r := 0) (by decide) hB]; rfl
theorem rA_17 {tp : Nat → Nat} {i : Nat} (hB : isB G) (htp : A 17 = nIf tp) : rA A G f 17 i = nI (tp i) := by
  have := isB_34 hB
  have hB2 := id hB
  unfold isB at hB2
  unfold rA
  rw [if_neg (by decide), if_neg (by omega), if_neg (by omega), if_neg (by omega), if_neg (by omega), if_neg (by omega), htp]
  rfl
theorem rA_p18 {i c : Nat} (hB : isB G) : va_up (rA A G f) 18 (upd (rA A G f 18) i (nI c)) = rA A G (stR f 0 i c) := by
  rw [show rA A G f 18 = nIf (f 0) from rA_r (r := 0) (by decide) hB, upd_nIf]
  exact rA_set (r := 0) (by decide) hB
end RX
/-- how tightly a sign joins -/
def sgN (c : Nat) : Nat := if c = 124 then 1 else if c = 38 then 2 else if c = 60 ∨ c = 61 ∨ c = 62 then 3 else if c = 43 ∨ c = 45 then 4 else if c = 42 ∨ c = 47 ∨ c = 37 then 5 else 0
theorem sgN_le (c : Nat) : sgN c ≤ 5 := by unfold sgN; split <;> (try split) <;> (try split) <;> (try split) <;> (try split) <;> decide
def dgB (c : Nat) : Bool := decide (48 ≤ c) && decide (c ≤ 57)
def addP (s : rT) (c v : Nat) : rT := (stR (stR s.1 1 (s.2 0) c) 2 (s.2 0) v, updN s.2 0 (s.2 0 + 1))
def popP (s : rT) : rT := (s.1, updN s.2 4 (s.2 4 - 1))
def topP (s : rT) : Nat := s.1 0 (s.2 4 - 1)
def psP (s : rT) (c : Nat) : rT := (stR s.1 0 (s.2 4) c, updN s.2 4 (s.2 4 + 1))
def stK (s : rT) (j x : Nat) : rT := (s.1, updN s.2 j x)
/-- what waits and joins as tightly comes out -/
def rlP (wk : Nat) : Nat → rT → rT
  | 0, s => s
  | m + 1, s => if s.2 4 = 0 then s else if sgN (topP s) < wk then s else rlP wk m (addP (popP s) (topP s) 0)
/-- an operand has come -/
def eoL : Nat → rT → rT
  | 0, s => s
  | m + 1, s => if s.2 4 = 0 then s else if topP s = 33 ∨ topP s = 3 then eoL m (stK (addP (popP s) (topP s) 0) 5 (s.2 5 - 1)) else s
def eoP (s : rT) : rT := eoL (s.2 4) (stK s 6 0)
def elP (s : rT) : rT := (stR (stR (stR s.1 3 (s.2 1) (s.2 2)) 4 (s.2 1) (s.2 3)) 5 (s.2 1) (s.2 0), updN (updN (updN s.2 1 (s.2 1 + 1)) 2 (s.2 0)) 3 (s.2 0))
/-- how many stand open -/
def oc (f : Nat → Nat) : Nat → Nat
  | 0 => 0
  | n + 1 => if f n = 40 ∨ f n = 33 ∨ f n = 3 then oc f n + 1 else oc f n
theorem rlP_0 {wk m : Nat} {s : rT} (h : s.2 4 = 0) : rlP wk m s = s := by
  cases m with
  | zero => rfl
  | succ m => exact if_pos h
theorem rlP_n {wk m : Nat} {s : rT} (h : ¬ s.2 4 = 0) (h2 : sgN (topP s) < wk) : rlP wk (m + 1) s = s := (if_neg h).trans (if_pos h2)
theorem rlP_s {wk m : Nat} {s : rT} (h : ¬ s.2 4 = 0) (h2 : ¬ sgN (topP s) < wk) : rlP wk (m + 1) s = rlP wk m (addP (popP s) (topP s) 0) := (if_neg h).trans (if_neg h2)
theorem eoL_0 {m : Nat} {s : rT} (h : s.2 4 = 0) : eoL m s = s := by
  cases m with
  | zero => rfl
  | succ m => exact if_pos h
theorem eoL_n {m : Nat} {s : rT} (h : ¬ s.2 4 = 0) (h2 : ¬ (topP s = 33 ∨ topP s = 3)) : eoL (m + 1) s = s := (if_neg h).trans (if_neg h2)
theorem eoL_s {m : Nat} {s : rT} (h : ¬ s.2 4 = 0) (h2 : topP s = 33 ∨ topP s = 3) : eoL (m + 1) s = eoL m (stK (addP (popP s) (topP s) 0) 5 (s.2 5 - 1)) := (if_neg h).trans (if_pos h2)
section CT33
variable {d : Nat} {X A : Nat → Nat → Int32} {L : Nat → Nat → Int64} {w : jW} {G tl : Nat} {tp : Nat → Nat} {s : rT}

set_option maxHeartbeats 200000 in
set_option maxRecDepth 100000 in
theorem c_X4_isDigit {c : Nat} (hc : c < 2 ^ 31) : jMet (d) yX4_isDigit cX4_isDigit 1 (some .boolean) 0 0 [.int (nI c)] (w) (jRi (bz (dgB c)) w) := by
  refine jMet_of (by decide) (Nat.le_of_ble_eq_true rfl) none (Or.inl rfl) ?_
  show jWP none RX4 cX4_isDigit 1 (some .boolean) (d) 0 0 0 [some (.int (nI c))] [] (w) (jRi (bz (dgB c)) w)
  refine j_iload_n dX4_isDigit_0 rfl rfl ?_
  refine j_bipush (v := nI 48) dX4_isDigit_1 rfl ?_
  refine jn_icmp_lt (tgt := 16) dX4_isDigit_3 (by decide) (by omega) (by omega) (fun h3 => ?_) (fun h3 => ?_)
  · refine j_iconst (v := nI 0) dX4_isDigit_16 rfl ?_
    refine j_zreturn dX4_isDigit_17 rfl (by decide) ?_
    exact ⟨by simp [dgB, bz, Nat.not_le.mpr h3], rfl⟩
  · refine j_iload_n dX4_isDigit_6 rfl rfl ?_
    refine j_bipush (v := nI 57) dX4_isDigit_7 rfl ?_
    refine jn_icmp_gt (tgt := 16) dX4_isDigit_9 (by decide) (by omega) (by omega) (fun h9 => ?_) (fun h9 => ?_)
    · refine j_iconst (v := nI 0) dX4_isDigit_16 rfl ?_
      refine j_zreturn dX4_isDigit_17 rfl (by decide) ?_
      exact ⟨by simp [dgB, bz, h3, Nat.not_le.mpr h9], rfl⟩
    · refine j_iconst (v := nI 1) dX4_isDigit_12 rfl ?_
      refine j_goto (tgt := 17) dX4_isDigit_13 (by decide) ?_
      refine j_zreturn dX4_isDigit_17 rfl (by decide) ?_
      exact ⟨by simp [dgB, bz, h3, h9], rfl⟩

set_option maxHeartbeats 200000 in
set_option maxRecDepth 100000 in
theorem c_X4_isDigit_m  : jMet (d) yX4_isDigit cX4_isDigit 1 (some .boolean) 0 0 [.int (-1)] (w) (jRi (nI 0) w) := by
  refine jMet_of (by decide) (Nat.le_of_ble_eq_true rfl) none (Or.inl rfl) ?_
  show jWP none RX4 cX4_isDigit 1 (some .boolean) (d) 0 0 0 [some (.int (-1))] [] (w) (jRi (nI 0) w)
  refine j_iload_n dX4_isDigit_0 rfl rfl ?_
  refine j_bipush (v := nI 48) dX4_isDigit_1 rfl ?_
  refine j_icmp_lt (tgt := 16) dX4_isDigit_3 (by decide) (fun _ => ?_) (fun h => absurd (by decide) h)
  refine j_iconst (v := nI 0) dX4_isDigit_16 rfl ?_
  refine j_zreturn dX4_isDigit_17 rfl (by decide) ?_
  exact ⟨rfl, rfl⟩

set_option maxHeartbeats 200000 in
set_option maxRecDepth 100000 in
theorem c_strength {c : Nat} (hc : c < 2 ^ 31) : jMet (d) yX4_strengthOf cX4_strengthOf 1 (some .int) 0 0 [.int (nI c)] (w) (jRi (nI (sgN c)) w) := by
  refine jMet_of (by decide) (Nat.le_of_ble_eq_true rfl) none (Or.inl rfl) ?_
  show jWP none RX4 cX4_strengthOf 1 (some .int) (d) 0 0 0 [some (.int (nI c))] [] (w) (jRi (nI (sgN c)) w)
  refine j_iload_n dX4_strengthOf_0 rfl rfl ?_
  by_cases e37 : c = 37
  · subst e37
    refine j_lookup (off := 99) (tgt := 100) dX4_strengthOf_1 (by decide) (by decide) (by decide) ?_
    refine j_iconst (v := nI 5) dX4_strengthOf_100 rfl ?_
    refine j_ireturn dX4_strengthOf_101 rfl ?_
    exact ⟨rfl, rfl⟩
  by_cases e38 : c = 38
  · subst e38
    refine j_lookup (off := 93) (tgt := 94) dX4_strengthOf_1 (by decide) (by decide) (by decide) ?_
    refine j_iconst (v := nI 2) dX4_strengthOf_94 rfl ?_
    refine j_ireturn dX4_strengthOf_95 rfl ?_
    exact ⟨rfl, rfl⟩
  by_cases e42 : c = 42
  · subst e42
    refine j_lookup (off := 99) (tgt := 100) dX4_strengthOf_1 (by decide) (by decide) (by decide) ?_
    refine j_iconst (v := nI 5) dX4_strengthOf_100 rfl ?_
    refine j_ireturn dX4_strengthOf_101 rfl ?_
    exact ⟨rfl, rfl⟩
  by_cases e43 : c = 43
  · subst e43
    refine j_lookup (off := 97) (tgt := 98) dX4_strengthOf_1 (by decide) (by decide) (by decide) ?_
    refine j_iconst (v := nI 4) dX4_strengthOf_98 rfl ?_
    refine j_ireturn dX4_strengthOf_99 rfl ?_
    exact ⟨rfl, rfl⟩
  by_cases e45 : c = 45
  · subst e45
    refine j_lookup (off := 97) (tgt := 98) dX4_strengthOf_1 (by decide) (by decide) (by decide) ?_
    refine j_iconst (v := nI 4) dX4_strengthOf_98 rfl ?_
    refine j_ireturn dX4_strengthOf_99 rfl ?_
    exact ⟨rfl, rfl⟩
  by_cases e47 : c = 47
  · subst e47
    refine j_lookup (off := 99) (tgt := 100) dX4_strengthOf_1 (by decide) (by decide) (by decide) ?_
    refine j_iconst (v := nI 5) dX4_strengthOf_100 rfl ?_
    refine j_ireturn dX4_strengthOf_101 rfl ?_
    exact ⟨rfl, rfl⟩
  by_cases e60 : c = 60
  · subst e60
    refine j_lookup (off := 95) (tgt := 96) dX4_strengthOf_1 (by decide) (by decide) (by decide) ?_
    refine j_iconst (v := nI 3) dX4_strengthOf_96 rfl ?_
    refine j_ireturn dX4_strengthOf_97 rfl ?_
    exact ⟨rfl, rfl⟩
  by_cases e61 : c = 61
  · subst e61
    refine j_lookup (off := 95) (tgt := 96) dX4_strengthOf_1 (by decide) (by decide) (by decide) ?_
    refine j_iconst (v := nI 3) dX4_strengthOf_96 rfl ?_
    refine j_ireturn dX4_strengthOf_97 rfl ?_
    exact ⟨rfl, rfl⟩
  by_cases e62 : c = 62
  · subst e62
    refine j_lookup (off := 95) (tgt := 96) dX4_strengthOf_1 (by decide) (by decide) (by decide) ?_
    refine j_iconst (v := nI 3) dX4_strengthOf_96 rfl ?_
    refine j_ireturn dX4_strengthOf_97 rfl ?_
    exact ⟨rfl, rfl⟩
  by_cases e124 : c = 124
  · subst e124
    refine j_lookup (off := 91) (tgt := 92) dX4_strengthOf_1 (by decide) (by decide) (by decide) ?_
    refine j_iconst (v := nI 1) dX4_strengthOf_92 rfl ?_
    refine j_ireturn dX4_strengthOf_93 rfl ?_
    exact ⟨rfl, rfl⟩
  refine j_lookup (off := 101) (tgt := 102) dX4_strengthOf_1 (by decide) (by rw [lv_osw (k := nI 37) (fun q => e37 ((nI_eq hc (by decide)).mp q)) (by decide), lv_osw (k := nI 38) (fun q => e38 ((nI_eq hc (by decide)).mp q)) (by decide), lv_osw (k := nI 42) (fun q => e42 ((nI_eq hc (by decide)).mp q)) (by decide), lv_osw (k := nI 43) (fun q => e43 ((nI_eq hc (by decide)).mp q)) (by decide), lv_osw (k := nI 45) (fun q => e45 ((nI_eq hc (by decide)).mp q)) (by decide), lv_osw (k := nI 47) (fun q => e47 ((nI_eq hc (by decide)).mp q)) (by decide), lv_osw (k := nI 60) (fun q => e60 ((nI_eq hc (by decide)).mp q)) (by decide), lv_osw (k := nI 61) (fun q => e61 ((nI_eq hc (by decide)).mp q)) (by decide), lv_osw (k := nI 62) (fun q => e62 ((nI_eq hc (by decide)).mp q)) (by decide), lv_osw (k := nI 124) (fun q => e124 ((nI_eq hc (by decide)).mp q)) (by decide)]; rfl) (by decide) ?_
  refine j_iconst (v := nI 0) dX4_strengthOf_102 rfl ?_
  refine j_ireturn dX4_strengthOf_103 rfl ?_
  exact ⟨by simp [sgN, e37, e38, e42, e43, e45, e47, e60, e61, e62, e124], rfl⟩

set_option maxHeartbeats 200000 in
set_option maxRecDepth 100000 in
theorem c_letterAt (hB : isB G) (htl : X 16 1 = nI tl) (htl2 : tl ≤ 120) (htp : A 17 = nIf tp) {a : Nat} (ha : a < tl) : jMet (d) yX4_letterAt cX4_letterAt 2 (some .int) 0 0 [.ref 16, .int (nI a)] (tw (rX X G s.2) (rA A G s.1) L) (jRi (nI (tp a)) (tw (rX X G s.2) (rA A G s.1) L)) := by
  refine jMet_of (by decide) (Nat.le_of_ble_eq_true rfl) none (Or.inl rfl) ?_
  show jWP none RX4 cX4_letterAt 2 (some .int) (d) 0 0 0 [some (.ref 16), some (.int (nI a))] [] (tw (rX X G s.2) (rA A G s.1) L) (jRi (nI (tp a)) (tw (rX X G s.2) (rA A G s.1) L))
  refine j_iload_n dX4_letterAt_0 rfl rfl ?_
  refine jn_if_lt (tgt := 21) dX4_letterAt_1 (by decide) (by omega) ?_
  refine j_iload_n dX4_letterAt_4 rfl rfl ?_
  refine j_aload_n dX4_letterAt_5 rfl rfl ?_
  refine t_getI dX4_letterAt_6 jfl_X4_17 (fun _ _ _ => rfl) (fun _ => rfl) ?_
  refine j_topE (rX_1 hB htl) ?_
  refine jn_icmp_ge (tgt := 21) dX4_letterAt_9 (by decide) (by omega) (by omega) (fun h9 => absurd h9 (by omega)) (fun h9 => ?_)
  refine j_aload_n dX4_letterAt_12 rfl rfl ?_
  refine t_getR (b := 17) dX4_letterAt_13 jfl_X4_11 (fun _ _ _ => rfl) rfl ?_
  refine j_iload_n dX4_letterAt_16 rfl rfl ?_
  refine t_iaload dX4_letterAt_17 (fun _ _ _ => rfl) (by omega) (by decide) ?_
  refine j_topE (rA_17 hB htp) ?_
  refine j_goto (tgt := 22) dX4_letterAt_18 (by decide) ?_
  refine j_ireturn dX4_letterAt_22 rfl ?_
  exact ⟨rfl, rfl⟩

set_option maxHeartbeats 200000 in
set_option maxRecDepth 100000 in
theorem c_letterAt_o (hB : isB G) (htl : X 16 1 = nI tl) (htl2 : tl ≤ 120) {a : Nat} (ha : tl ≤ a) (ha2 : a < 2 ^ 31) : jMet (d) yX4_letterAt cX4_letterAt 2 (some .int) 0 0 [.ref 16, .int (nI a)] (tw (rX X G s.2) (rA A G s.1) L) (jRi (-1) (tw (rX X G s.2) (rA A G s.1) L)) := by
  refine jMet_of (by decide) (Nat.le_of_ble_eq_true rfl) none (Or.inl rfl) ?_
  show jWP none RX4 cX4_letterAt 2 (some .int) (d) 0 0 0 [some (.ref 16), some (.int (nI a))] [] (tw (rX X G s.2) (rA A G s.1) L) (jRi (-1) (tw (rX X G s.2) (rA A G s.1) L))
  refine j_iload_n dX4_letterAt_0 rfl rfl ?_
  refine jn_if_lt (tgt := 21) dX4_letterAt_1 (by decide) (by omega) ?_
  refine j_iload_n dX4_letterAt_4 rfl rfl ?_
  refine j_aload_n dX4_letterAt_5 rfl rfl ?_
  refine t_getI dX4_letterAt_6 jfl_X4_17 (fun _ _ _ => rfl) (fun _ => rfl) ?_
  refine j_topE (rX_1 hB htl) ?_
  refine jn_icmp_ge (tgt := 21) dX4_letterAt_9 (by decide) (by omega) (by omega) (fun h9 => ?_) (fun h9 => absurd h9 (by omega))
  refine j_iconst (v := (-1)) dX4_letterAt_21 rfl ?_
  refine j_ireturn dX4_letterAt_22 rfl ?_
  exact ⟨rfl, rfl⟩

theorem c_addP (hB : isB G) {c v ln : Nat} (hl : s.2 0 = ln) (h : ln < 120) : jMet (d) yX3_add cX3_add 3 none 0 0 [.ref G, .int (nI c), .int (nI v)] (tw (rX X G s.2) (rA A G s.1) L) (jRv (tw (rX X G (updN s.2 0 (ln + 1))) (rA A G (stR (stR s.1 1 ln c) 2 ln v)) L)) := by
  refine jMet_v (c_X3_add hB (show rA A G s.1 (G + 1) = _ from rA_r (r := 1) (by decide) hB) (show rA A G s.1 (G + 2) = _ from rA_r (r := 2) (by decide) hB) (rX_G2.trans (congrArg nI hl)) h) (tw_eq ?_ ?_ rfl)
  · rw [rX_atG, rG_u.1]
    exact rX_setG (fun q hq => updN_n _ _ _ (by omega))
  · rw [show va_up (rA A G s.1) (G + 1) (nIf (updN (s.1 1) ln c)) = rA A G (stR s.1 1 ln c) from rA_set (r := 1) (by decide) hB]
    exact rA_set (f := stR s.1 1 ln c) (r := 2) (by decide) hB
theorem c_endLineP (hB : isB G) (h : s.2 1 < 61) : jMet (d) yX3_endLine cX3_endLine 1 none 0 0 [.ref G] (tw (rX X G s.2) (rA A G s.1) L) (jRv (tw (rX X G (elP s).2) (rA A G (elP s).1) L)) := by
  refine jMet_v (c_X3_endLine hB (show rA A G s.1 (G + 3) = _ from rA_r (r := 3) (by decide) hB) (show rA A G s.1 (G + 4) = _ from rA_r (r := 4) (by decide) hB) (show rA A G s.1 (G + 5) = _ from rA_r (r := 5) (by decide) hB) rX_G6 h rX_G7 rX_G8 rX_G2) (tw_eq ?_ ?_ rfl)
  · rw [rX_atG, rG_u.2.1, rG_u.2.2.1, rG_u.2.2.2]
    exact rX_setG (fun q hq => by rw [updN_n _ _ _ (by omega), updN_n _ _ _ (by omega), updN_n _ _ _ (by omega)])
  · rw [show va_up (rA A G s.1) (G + 3) (nIf (updN (s.1 3) (s.2 1) (s.2 2))) = rA A G (stR s.1 3 (s.2 1) (s.2 2)) from rA_set (r := 3) (by decide) hB]
    rw [show va_up (rA A G (stR s.1 3 (s.2 1) (s.2 2))) (G + 4) (nIf (updN (s.1 4) (s.2 1) (s.2 3))) = rA A G (stR (stR s.1 3 (s.2 1) (s.2 2)) 4 (s.2 1) (s.2 3)) from rA_set (f := stR s.1 3 (s.2 1) (s.2 2)) (r := 4) (by decide) hB]
    exact rA_set (f := stR (stR s.1 3 (s.2 1) (s.2 2)) 4 (s.2 1) (s.2 3)) (r := 5) (by decide) hB
theorem c_endCondP (hB : isB G) : jMet (d) yX3_endCondition cX3_endCondition 1 none 0 0 [.ref G] (tw (rX X G s.2) (rA A G s.1) L) (jRv (tw (rX X G (updN s.2 3 (s.2 0))) (rA A G s.1) L)) := by
  refine jMet_v (c_X3_endCondition hB) (tw_eq ?_ rfl rfl)
  rw [rX_G2, rX_atG, rG_u.2.2.2]
  exact rX_setG (fun q hq => updN_n _ _ _ (by omega))
theorem c_clearP (hB : isB G) : jMet (d) yX3_clear cX3_clear 1 none 0 0 [.ref G] (tw (rX X G s.2) (rA A G s.1) L) (jRv (tw (rX X G (updN (updN (updN (updN s.2 0 0) 1 0) 2 0) 3 0)) (rA A G s.1) L)) := by
  refine jMet_v (c_X3_clear hB) (tw_eq ?_ rfl rfl)
  rw [rX_atG, rG_u.1, rG_u.2.1, rG_u.2.2.1, rG_u.2.2.2]
  exact rX_setG (fun q hq => by rw [updN_n _ _ _ (by omega), updN_n _ _ _ (by omega), updN_n _ _ _ (by omega), updN_n _ _ _ (by omega)])

set_option maxHeartbeats 200000 in
set_option maxRecDepth 100000 in
theorem l_release {wk : Nat} (hwk : wk < 2 ^ 31) (hB : isB G) : ∀ (m : Nat) (s r : rT), s.2 4 ≤ m → s.2 0 + s.2 4 ≤ 120 → (∀ i, s.1 0 i < 2 ^ 31) → rlP wk m s = r → jWP none RX4 cX4_release 3 none (d + 1) 0 0 0 [some (.ref 16), some (.int (nI wk)), some (.ref G)] [] (tw (rX X G s.2) (rA A G s.1) L) (jRv (tw (rX X G r.2) (rA A G r.1) L)) := by
  intro m
  induction m with
  | zero =>
    intro s r h4 hl hw hr
    subst hr
    refine j_aload_n dX4_release_0 rfl rfl ?_
    refine t_getI dX4_release_1 jfl_X4_24 (fun _ _ _ => rfl) (fun _ => rfl) ?_
    refine j_topE (rX_3 hB) ?_
    refine jn_if_le (tgt := 52) dX4_release_4 (by decide) (by omega) (fun h44 => ?_) (fun h44 => absurd h44 (by omega))
    refine j_return dX4_release_52 rfl ?_
    exact ⟨rfl, rfl⟩
  | succ m ih =>
    intro s r h4 hl hw hr
    refine j_aload_n dX4_release_0 rfl rfl ?_
    refine t_getI dX4_release_1 jfl_X4_24 (fun _ _ _ => rfl) (fun _ => rfl) ?_
    refine j_topE (rX_3 hB) ?_
    refine jn_if_le (tgt := 52) dX4_release_4 (by decide) (by omega) (fun h4 => ?_) (fun h4 => ?_)
    · refine j_return dX4_release_52 rfl ?_
      refine ⟨rfl, ?_⟩
      rw [← hr, rlP_0 (by omega)]
    · refine j_aload_n dX4_release_7 rfl rfl ?_
      refine t_getR (b := 18) dX4_release_8 jfl_X4_21 (fun _ _ _ => rfl) rfl ?_
      refine j_aload_n dX4_release_11 rfl rfl ?_
      refine t_getI dX4_release_12 jfl_X4_24 (fun _ _ _ => rfl) (fun _ => rfl) ?_
      refine j_topE (rX_3 hB) ?_
      refine j_iconst (v := nI 1) dX4_release_15 rfl ?_
      refine jn_isub dX4_release_16 (by omega) ?_
      refine t_iaload dX4_release_17 (fun _ _ _ => rfl) (by omega) (by decide) ?_
      refine j_topE (rA_18 hB) ?_
      refine j_callSi [.int _] [] dX4_release_18 jlk_X4_84 rfl rfl (Nat.le_of_ble_eq_true rfl) (c_strength (hw _)) ?_
      refine j_iload_n dX4_release_21 rfl rfl ?_
      refine jn_icmp_lt (tgt := 52) dX4_release_22 (by decide) (Nat.lt_of_le_of_lt (sgN_le _) (by decide)) hwk (fun h22 => ?_) (fun h22 => ?_)
      · refine j_return dX4_release_52 rfl ?_
        refine ⟨rfl, ?_⟩
        rw [← hr, rlP_n (by omega) (show sgN (topP s) < wk from h22)]
      · refine j_aload_n dX4_release_25 rfl rfl ?_
        refine j_dup dX4_release_26 rfl ?_
        refine t_getI dX4_release_27 jfl_X4_24 (fun _ _ _ => rfl) (fun _ => rfl) ?_
        refine j_topE (rX_3 hB) ?_
        refine j_iconst (v := nI 1) dX4_release_30 rfl ?_
        refine jn_isub dX4_release_31 (by omega) ?_
        refine t_putI dX4_release_32 jfl_X4_24 (fun _ _ _ => rfl) (fun _ _ => rfl) (Nat.le_of_ble_eq_true rfl) rfl rfl ?_
        rw [rX_p3 hB]
        refine j_aload_n dX4_release_35 rfl rfl ?_
        refine j_aload_n dX4_release_36 rfl rfl ?_
        refine t_getR (b := 18) dX4_release_37 jfl_X4_21 (fun _ _ _ => rfl) rfl ?_
        refine j_aload_n dX4_release_40 rfl rfl ?_
        refine t_getI dX4_release_41 jfl_X4_24 (fun _ _ _ => rfl) (fun _ => rfl) ?_
        refine j_topE (e' := nI (s.2 4 - 1)) (rX_3 hB) ?_
        refine t_iaload dX4_release_44 (fun _ _ _ => rfl) (by omega) (by decide) ?_
        refine j_topE (rA_18 hB) ?_
        refine j_iconst (v := nI 0) dX4_release_45 rfl ?_
        refine j_callVv [.int _, .int _] [] dX4_release_46 jlk_X4_72 rfl rfl ((shB0 hB) _ _ _) rfl (Nat.le_of_ble_eq_true rfl) (c_addP (s := popP s) hB rfl (show s.2 0 < 120 by omega)) ?_
        refine j_goto (tgt := 0) dX4_release_49 (by decide) ?_
        refine ih (addP (popP s) (topP s) 0) r ?_ ?_ ?_ ?_
        · show s.2 4 - 1 ≤ m; omega
        · show s.2 0 + 1 + (s.2 4 - 1) ≤ 120; omega
        · exact hw
        · rw [← hr]; exact (rlP_s (by omega) (show ¬ sgN (topP s) < wk from Nat.not_lt.mpr h22)).symm

theorem c_release (hB : isB G) {wk : Nat} (hwk : wk < 2 ^ 31) (hl : s.2 0 + s.2 4 ≤ 120) (hw : ∀ i, s.1 0 i < 2 ^ 31) : jMet (d + 1) yX4_release cX4_release 3 none 0 0 [.ref 16, .int (nI wk), .ref G] (tw (rX X G s.2) (rA A G s.1) L) (jRv (tw (rX X G (rlP wk (s.2 4) s).2) (rA A G (rlP wk (s.2 4) s).1) L)) := by
  refine jMet_of (by decide) (Nat.le_of_ble_eq_true rfl) none (Or.inl rfl) ?_
  exact l_release hwk hB _ s _ (Nat.le_refl _) hl hw rfl

set_option maxHeartbeats 200000 in
set_option maxRecDepth 100000 in
theorem c_await (hB : isB G) (h : s.2 4 < 120) {c : Nat} : jMet (d) yX4_await cX4_await 2 none 0 0 [.ref 16, .int (nI c)] (tw (rX X G s.2) (rA A G s.1) L) (jRv (tw (rX X G (psP s c).2) (rA A G (psP s c).1) L)) := by
  refine jMet_of (by decide) (Nat.le_of_ble_eq_true rfl) none (Or.inl rfl) ?_
  show jWP none RX4 cX4_await 2 none (d) 0 0 0 [some (.ref 16), some (.int (nI c))] [] (tw (rX X G s.2) (rA A G s.1) L) (jRv (tw (rX X G (psP s c).2) (rA A G (psP s c).1) L))
  refine j_aload_n dX4_await_0 rfl rfl ?_
  refine t_getI dX4_await_1 jfl_X4_24 (fun _ _ _ => rfl) (fun _ => rfl) ?_
  refine j_topE (rX_3 hB) ?_
  refine j_bipush (v := nI 120) dX4_await_4 rfl ?_
  refine jn_icmp_ge (tgt := 29) dX4_await_6 (by decide) (by omega) (by omega) (fun h6 => absurd h6 (by omega)) (fun h6 => ?_)
  refine j_aload_n dX4_await_9 rfl rfl ?_
  refine t_getR (b := 18) dX4_await_10 jfl_X4_21 (fun _ _ _ => rfl) rfl ?_
  refine j_aload_n dX4_await_13 rfl rfl ?_
  refine t_getI dX4_await_14 jfl_X4_24 (fun _ _ _ => rfl) (fun _ => rfl) ?_
  refine j_topE (rX_3 hB) ?_
  refine j_iload_n dX4_await_17 rfl rfl ?_
  refine t_iastore dX4_await_18 (fun _ _ _ => rfl) (by omega) (by decide) ?_
  rw [rA_p18 hB]
  refine j_aload_n dX4_await_19 rfl rfl ?_
  refine j_dup dX4_await_20 rfl ?_
  refine t_getI dX4_await_21 jfl_X4_24 (fun _ _ _ => rfl) (fun _ => rfl) ?_
  refine j_topE (rX_3 hB) ?_
  refine j_iconst (v := nI 1) dX4_await_24 rfl ?_
  refine jn_iadd dX4_await_25 ?_
  refine t_putI dX4_await_26 jfl_X4_24 (fun _ _ _ => rfl) (fun _ _ => rfl) (Nat.le_of_ble_eq_true rfl) rfl rfl ?_
  rw [rX_p3 hB]
  refine j_return dX4_await_29 rfl ?_
  exact ⟨rfl, rfl⟩

set_option maxHeartbeats 200000 in
set_option maxRecDepth 100000 in
theorem l_endOperand (hB : isB G) : ∀ (m : Nat) (s r : rT), s.2 4 ≤ m → s.2 0 + s.2 4 ≤ 120 → (∀ i, s.1 0 i < 2 ^ 31) → s.2 5 = oc (s.1 0) (s.2 4) → eoL m s = r → jWP none RX4 cX4_endOperand 2 none (d + 1) 0 0 5 [some (.ref 16), some (.ref G)] [] (tw (rX X G s.2) (rA A G s.1) L) (jRv (tw (rX X G r.2) (rA A G r.1) L)) := by
  intro m
  induction m with
  | zero =>
    intro s r h4 hl hw ho hr
    subst hr
    refine j_aload_n dX4_endOperand_5 rfl rfl ?_
    refine t_getI dX4_endOperand_6 jfl_X4_24 (fun _ _ _ => rfl) (fun _ => rfl) ?_
    refine j_topE (rX_3 hB) ?_
    refine jn_if_le (tgt := 80) dX4_endOperand_9 (by decide) (by omega) (fun h9 => ?_) (fun h9 => absurd h9 (by omega))
    refine j_return dX4_endOperand_80 rfl ?_
    exact ⟨rfl, rfl⟩
  | succ m ih =>
    intro s r h4 hl hw ho hr
    refine j_aload_n dX4_endOperand_5 rfl rfl ?_
    refine t_getI dX4_endOperand_6 jfl_X4_24 (fun _ _ _ => rfl) (fun _ => rfl) ?_
    refine j_topE (rX_3 hB) ?_
    refine jn_if_le (tgt := 80) dX4_endOperand_9 (by decide) (by omega) (fun h9 => ?_) (fun h9 => ?_)
    · refine j_return dX4_endOperand_80 rfl ?_
      refine ⟨rfl, ?_⟩
      rw [← hr, eoL_0 (by omega)]
    · refine j_aload_n dX4_endOperand_12 rfl rfl ?_
      refine t_getR (b := 18) dX4_endOperand_13 jfl_X4_21 (fun _ _ _ => rfl) rfl ?_
      refine j_aload_n dX4_endOperand_16 rfl rfl ?_
      refine t_getI dX4_endOperand_17 jfl_X4_24 (fun _ _ _ => rfl) (fun _ => rfl) ?_
      refine j_topE (rX_3 hB) ?_
      refine j_iconst (v := nI 1) dX4_endOperand_20 rfl ?_
      refine jn_isub dX4_endOperand_21 (by omega) ?_
      refine t_iaload dX4_endOperand_22 (fun _ _ _ => rfl) (by omega) (by decide) ?_
      refine j_topE (rA_18 hB) ?_
      refine j_bipush (v := nI 33) dX4_endOperand_23 rfl ?_
      refine jn_icmp_eq (tgt := 43) dX4_endOperand_25 (by decide) (hw _) (by omega) (fun h25 => ?_) (fun h25 => ?_)
      · have htop : topP s = 33 ∨ topP s = 3 := Or.inl h25
        have hoc : s.2 5 = oc (s.1 0) (s.2 4 - 1) + 1 := by
          rw [ho]
          obtain ⟨q, hq⟩ : ∃ q, s.2 4 = q + 1 := ⟨s.2 4 - 1, by omega⟩
          unfold topP at htop
          rw [hq] at htop ⊢
          exact if_pos (by rcases htop with e | e; exact Or.inr (Or.inl e); exact Or.inr (Or.inr e))
        refine j_aload_n dX4_endOperand_43 rfl rfl ?_
        refine j_dup dX4_endOperand_44 rfl ?_
        refine t_getI dX4_endOperand_45 jfl_X4_24 (fun _ _ _ => rfl) (fun _ => rfl) ?_
        refine j_topE (rX_3 hB) ?_
        refine j_iconst (v := nI 1) dX4_endOperand_48 rfl ?_
        refine jn_isub dX4_endOperand_49 (by omega) ?_
        refine t_putI dX4_endOperand_50 jfl_X4_24 (fun _ _ _ => rfl) (fun _ _ => rfl) (Nat.le_of_ble_eq_true rfl) rfl rfl ?_
        rw [rX_p3 hB]
        refine j_aload_n dX4_endOperand_53 rfl rfl ?_
        refine j_aload_n dX4_endOperand_54 rfl rfl ?_
        refine t_getR (b := 18) dX4_endOperand_55 jfl_X4_21 (fun _ _ _ => rfl) rfl ?_
        refine j_aload_n dX4_endOperand_58 rfl rfl ?_
        refine t_getI dX4_endOperand_59 jfl_X4_24 (fun _ _ _ => rfl) (fun _ => rfl) ?_
        refine j_topE (e' := nI (s.2 4 - 1)) (rX_3 hB) ?_
        refine t_iaload dX4_endOperand_62 (fun _ _ _ => rfl) (by omega) (by decide) ?_
        refine j_topE (rA_18 hB) ?_
        refine j_iconst (v := nI 0) dX4_endOperand_63 rfl ?_
        refine j_callVv [.int _, .int _] [] dX4_endOperand_64 jlk_X4_72 rfl rfl ((shB0 hB) _ _ _) rfl (Nat.le_of_ble_eq_true rfl) (c_addP (s := popP s) hB rfl (show s.2 0 < 120 by omega)) ?_
        refine j_aload_n dX4_endOperand_67 rfl rfl ?_
        refine j_dup dX4_endOperand_68 rfl ?_
        refine t_getI dX4_endOperand_69 jfl_X4_27 (fun _ _ _ => rfl) (fun _ => rfl) ?_
        refine j_topE (e' := nI (s.2 5)) (rX_4 hB) ?_
        refine j_iconst (v := nI 1) dX4_endOperand_72 rfl ?_
        refine jn_isub dX4_endOperand_73 (show 1 ≤ s.2 5 by omega) ?_
        refine t_putI dX4_endOperand_74 jfl_X4_27 (fun _ _ _ => rfl) (fun _ _ => rfl) (Nat.le_of_ble_eq_true rfl) rfl rfl ?_
        rw [rX_p4 hB]
        refine j_goto (tgt := 5) dX4_endOperand_77 (by decide) ?_
        refine ih (stK (addP (popP s) (topP s) 0) 5 (s.2 5 - 1)) r ?_ ?_ ?_ ?_ ?_
        · show s.2 4 - 1 ≤ m; omega
        · show s.2 0 + 1 + (s.2 4 - 1) ≤ 120; omega
        · exact hw
        · show s.2 5 - 1 = oc (s.1 0) (s.2 4 - 1); omega
        · rw [← hr]; exact (eoL_s (by omega) htop).symm
      · refine j_aload_n dX4_endOperand_28 rfl rfl ?_
        refine t_getR (b := 18) dX4_endOperand_29 jfl_X4_21 (fun _ _ _ => rfl) rfl ?_
        refine j_aload_n dX4_endOperand_32 rfl rfl ?_
        refine t_getI dX4_endOperand_33 jfl_X4_24 (fun _ _ _ => rfl) (fun _ => rfl) ?_
        refine j_topE (rX_3 hB) ?_
        refine j_iconst (v := nI 1) dX4_endOperand_36 rfl ?_
        refine jn_isub dX4_endOperand_37 (by omega) ?_
        refine t_iaload dX4_endOperand_38 (fun _ _ _ => rfl) (by omega) (by decide) ?_
        refine j_topE (rA_18 hB) ?_
        refine j_iconst (v := nI 3) dX4_endOperand_39 rfl ?_
        refine jn_icmp_ne (tgt := 80) dX4_endOperand_40 (by decide) (hw _) (by omega) (fun h40 => ?_) (fun h40 => ?_)
        · refine j_return dX4_endOperand_80 rfl ?_
          refine ⟨rfl, ?_⟩
          rw [← hr, eoL_n (by omega) (fun q => q.elim h25 h40)]
        · have htop : topP s = 33 ∨ topP s = 3 := Or.inr h40
          have hoc : s.2 5 = oc (s.1 0) (s.2 4 - 1) + 1 := by
            rw [ho]
            obtain ⟨q, hq⟩ : ∃ q, s.2 4 = q + 1 := ⟨s.2 4 - 1, by omega⟩
            unfold topP at htop
            rw [hq] at htop ⊢
            exact if_pos (by rcases htop with e | e; exact Or.inr (Or.inl e); exact Or.inr (Or.inr e))
          refine j_aload_n dX4_endOperand_43 rfl rfl ?_
          refine j_dup dX4_endOperand_44 rfl ?_
          refine t_getI dX4_endOperand_45 jfl_X4_24 (fun _ _ _ => rfl) (fun _ => rfl) ?_
          refine j_topE (rX_3 hB) ?_
          refine j_iconst (v := nI 1) dX4_endOperand_48 rfl ?_
          refine jn_isub dX4_endOperand_49 (by omega) ?_
          refine t_putI dX4_endOperand_50 jfl_X4_24 (fun _ _ _ => rfl) (fun _ _ => rfl) (Nat.le_of_ble_eq_true rfl) rfl rfl ?_
          rw [rX_p3 hB]
          refine j_aload_n dX4_endOperand_53 rfl rfl ?_
          refine j_aload_n dX4_endOperand_54 rfl rfl ?_
          refine t_getR (b := 18) dX4_endOperand_55 jfl_X4_21 (fun _ _ _ => rfl) rfl ?_
          refine j_aload_n dX4_endOperand_58 rfl rfl ?_
          refine t_getI dX4_endOperand_59 jfl_X4_24 (fun _ _ _ => rfl) (fun _ => rfl) ?_
          refine j_topE (e' := nI (s.2 4 - 1)) (rX_3 hB) ?_
          refine t_iaload dX4_endOperand_62 (fun _ _ _ => rfl) (by omega) (by decide) ?_
          refine j_topE (rA_18 hB) ?_
          refine j_iconst (v := nI 0) dX4_endOperand_63 rfl ?_
          refine j_callVv [.int _, .int _] [] dX4_endOperand_64 jlk_X4_72 rfl rfl ((shB0 hB) _ _ _) rfl (Nat.le_of_ble_eq_true rfl) (c_addP (s := popP s) hB rfl (show s.2 0 < 120 by omega)) ?_
          refine j_aload_n dX4_endOperand_67 rfl rfl ?_
          refine j_dup dX4_endOperand_68 rfl ?_
          refine t_getI dX4_endOperand_69 jfl_X4_27 (fun _ _ _ => rfl) (fun _ => rfl) ?_
          refine j_topE (e' := nI (s.2 5)) (rX_4 hB) ?_
          refine j_iconst (v := nI 1) dX4_endOperand_72 rfl ?_
          refine jn_isub dX4_endOperand_73 (show 1 ≤ s.2 5 by omega) ?_
          refine t_putI dX4_endOperand_74 jfl_X4_27 (fun _ _ _ => rfl) (fun _ _ => rfl) (Nat.le_of_ble_eq_true rfl) rfl rfl ?_
          rw [rX_p4 hB]
          refine j_goto (tgt := 5) dX4_endOperand_77 (by decide) ?_
          refine ih (stK (addP (popP s) (topP s) 0) 5 (s.2 5 - 1)) r ?_ ?_ ?_ ?_ ?_
          · show s.2 4 - 1 ≤ m; omega
          · show s.2 0 + 1 + (s.2 4 - 1) ≤ 120; omega
          · exact hw
          · show s.2 5 - 1 = oc (s.1 0) (s.2 4 - 1); omega
          · rw [← hr]; exact (eoL_s (by omega) htop).symm

set_option maxHeartbeats 200000 in
set_option maxRecDepth 100000 in
theorem c_endOperand (hB : isB G) (hl : s.2 0 + s.2 4 ≤ 120) (hw : ∀ i, s.1 0 i < 2 ^ 31) (ho : s.2 5 = oc (s.1 0) (s.2 4)) : jMet (d + 1) yX4_endOperand cX4_endOperand 2 none 0 0 [.ref 16, .ref G] (tw (rX X G s.2) (rA A G s.1) L) (jRv (tw (rX X G (eoP s).2) (rA A G (eoP s).1) L)) := by
  refine jMet_of (by decide) (Nat.le_of_ble_eq_true rfl) none (Or.inl rfl) ?_
  show jWP none RX4 cX4_endOperand 2 none (d + 1) 0 0 0 [some (.ref 16), some (.ref G)] [] (tw (rX X G s.2) (rA A G s.1) L) (jRv (tw (rX X G (eoP s).2) (rA A G (eoP s).1) L))
  refine j_aload_n dX4_endOperand_0 rfl rfl ?_
  refine j_iconst (v := nI 0) dX4_endOperand_1 rfl ?_
  refine t_putI dX4_endOperand_2 jfl_X4_30 (fun _ _ _ => rfl) (fun _ _ => rfl) (Nat.le_of_ble_eq_true rfl) rfl rfl ?_
  rw [rX_p5 hB]
  exact l_endOperand hB (s.2 4) (stK s 6 0) _ (Nat.le_refl _) hl hw ho rfl

end CT33