/-- orders: both programs try the same, one after another -/
def lf (l : List Nat) : Nat → Nat := fun i => l.getD i 0
def pl (m : Nat) (p : Nat → Nat) : List Nat := (List.range m).map p
def eqm (m : Nat) (p p' : Nat → Nat) : Prop := ∀ i, i < m → p i = p' i
theorem lf_pl {m : Nat} {p : Nat → Nat} : eqm m (lf (pl m p)) p := fun i hi => by
  unfold lf pl
  rw [List.getD_eq_getElem?_getD, List.getElem?_map, List.getElem?_range hi]
  rfl
theorem pl_eq {m : Nat} {p p' : Nat → Nat} (h : eqm m p p') : pl m p = pl m p' := List.map_congr_left fun i hi => h i (List.mem_range.mp hi)
theorem pl_eqm {m : Nat} {p p' : Nat → Nat} (h : pl m p = pl m p') : eqm m p p' := fun i hi => by rw [← lf_pl (p := p) i hi, h, lf_pl i hi]
/-- all orders behind what is used -/
def gL (m : Nat) : Nat → Nat → List (List Nat)
  | 0, _ => [[]]
  | D + 1, u => (List.range m).flatMap fun p => if isB1 u p = true then [] else (gL m D (u ||| 2 ^ p)).map (p :: ·)
def stO (m : Nat) (ou : (Nat → Nat) → Int32) (s : Int32 × (Nat → Int32)) (l : List Nat) : Int32 × (Nat → Int32) := (if ou (lf l) ≤ s.1 then s.1 else ou (lf l), if ou (lf l) ≤ s.1 then s.2 else cpN (nIf (lf l)) s.2 m)
def oum (m : Nat) (ou : (Nat → Nat) → Int32) : Prop := ∀ p p', eqm m p p' → ou p = ou p'
theorem cpN_cg {m : Nat} {p p' : Nat → Nat} {q : Nat → Int32} (h : eqm m p p') : cpN (nIf p) q m = cpN (nIf p') q m := by
  funext c
  unfold cpN
  by_cases l : c < m
  · rw [if_pos l, if_pos l]; exact congrArg nI (h c l)
  · rw [if_neg l, if_neg l]
theorem cpy_cpN {f g : Nat → Int32} {m : Nat} : va_cpy f g 0 0 m = cpN f g m := by
  funext c
  unfold cpN
  by_cases h : c < m
  · rw [pk_cpy_in (by omega) (by omega), if_pos h]; exact congrArg f (by omega)
  · rw [pk_cpy_out (by omega), if_neg h]
theorem pl_s {k : Nat} {p : Nat → Nat} : pl (k + 1) p = pl k p ++ [p k] := by unfold pl; rw [List.range_succ, List.map_append]; rfl
theorem updN_lo {k x : Nat} {p : Nat → Nat} : eqm k (updN p k x) p := fun i hi => by unfold updN; rw [if_neg (by omega)]
theorem ooF_1 {m : Nat} {ou : (Nat → Nat) → Int32} : ∀ {D k u : Nat} {s : oS}, eqm k (ooF m ou D k u s).1 s.1
  | 0, _, _, _ => fun _ _ => rfl
  | D + 1, k, u, s => by
    have q : ∀ n, eqm k (ooI (ooF m ou D (k + 1)) k u n s).1 s.1 := by
      intro n
      induction n with
      | zero => exact fun _ _ => rfl
      | succ n ih =>
        show eqm k (if isB1 u n = true then ooI (ooF m ou D (k + 1)) k u n s else ooF m ou D (k + 1) (u ||| 2 ^ n) (updN (ooI (ooF m ou D (k + 1)) k u n s).1 k n, (ooI (ooF m ou D (k + 1)) k u n s).2)).1 s.1
        split
        · exact ih
        · exact fun i hi => (ooF_1 (D := D) (k := k + 1) i (by omega)).trans ((updN_lo i hi).trans (ih i hi))
    exact q m
theorem ooF_L {m : Nat} {ou : (Nat → Nat) → Int32} (ho : oum m ou) : ∀ {D k u : Nat} {s : oS}, k + D = m → (ooF m ou D k u s).2 = (gL m D u).foldl (fun b x => stO m ou b (pl k s.1 ++ x)) s.2
  | 0, k, u, s, hk => by
    have e : k = m := by omega
    subst e
    have h1 : ou (lf (pl k s.1 ++ [])) = ou s.1 := ho _ _ (by rw [List.append_nil]; exact lf_pl)
    have h2 : cpN (nIf (lf (pl k s.1 ++ []))) s.2.2 k = cpN (nIf s.1) s.2.2 k := cpN_cg (by rw [List.append_nil]; exact lf_pl)
    show (if ou s.1 ≤ s.2.1 then s.2.1 else ou s.1, if ou s.1 ≤ s.2.1 then s.2.2 else cpN (nIf s.1) s.2.2 k) = stO k ou s.2 (pl k s.1 ++ [])
    unfold stO
    rw [h1, h2]
  | D + 1, k, u, s, hk => by
    have q : ∀ n, (ooI (ooF m ou D (k + 1)) k u n s).2 = ((List.range n).flatMap fun p => if isB1 u p = true then [] else (gL m D (u ||| 2 ^ p)).map (p :: ·)).foldl (fun b x => stO m ou b (pl k s.1 ++ x)) s.2 ∧ eqm k (ooI (ooF m ou D (k + 1)) k u n s).1 s.1 := by
      intro n
      induction n with
      | zero => exact ⟨rfl, fun _ _ => rfl⟩
      | succ n ih =>
        rw [List.range_succ, List.flatMap_append, List.foldl_append, ← ih.1]
        show (if isB1 u n = true then ooI (ooF m ou D (k + 1)) k u n s else ooF m ou D (k + 1) (u ||| 2 ^ n) (updN (ooI (ooF m ou D (k + 1)) k u n s).1 k n, (ooI (ooF m ou D (k + 1)) k u n s).2)).2 = _ ∧ eqm k (if isB1 u n = true then ooI (ooF m ou D (k + 1)) k u n s else ooF m ou D (k + 1) (u ||| 2 ^ n) (updN (ooI (ooF m ou D (k + 1)) k u n s).1 k n, (ooI (ooF m ou D (k + 1)) k u n s).2)).1 s.1
        rw [List.flatMap_singleton]
        by_cases h : isB1 u n = true
        · rw [if_pos h, if_pos h]; exact ⟨rfl, ih.2⟩
        · rw [if_neg h, if_neg h, List.foldl_map]
          refine ⟨?_, fun i hi => (ooF_1 (D := D) (k := k + 1) i (by omega)).trans ((updN_lo i hi).trans (ih.2 i hi))⟩
          rw [ooF_L ho (D := D) (k := k + 1) (by omega)]
          have e : pl (k + 1) (updN (ooI (ooF m ou D (k + 1)) k u n s).1 k n) = pl k s.1 ++ [n] := by
            rw [pl_s, pl_eq (fun i hi => (updN_lo i hi).trans (ih.2 i hi)), updN_s]
          simp only [e, List.append_assoc, List.singleton_append]
    exact (q m).1
/-- the class's way from one order to the next is the list's -/
theorem riF_cg {m : Nat} {p p' : Nat → Nat} (h : eqm m p p') : ∀ {k : Nat}, k < m → riF p k = riF p' k
  | 0, _ => rfl
  | k + 1, hk => by
    show (if p (k + 1) < p k then riF p k else some k) = if p' (k + 1) < p' k then riF p' k else some k
    rw [h (k + 1) hk, h k (by omega), riF_cg h (by omega)]
theorem grF_cg {m : Nat} {p p' : Nat → Nat} (h : eqm m p p') {r : Nat} (hr : r < m) : ∀ {g : Nat}, g < m → grF p r g = grF p' r g
  | 0, _ => rfl
  | g + 1, hg => by
    show (if r < g + 1 then (if p r ≤ p (g + 1) then g + 1 else grF p r g) else g + 1) = if r < g + 1 then (if p' r ≤ p' (g + 1) then g + 1 else grF p' r g) else g + 1
    rw [h r hr, h (g + 1) hg, grF_cg h hr (by omega)]
theorem swN_cg {m : Nat} {p p' : Nat → Nat} (h : eqm m p p') {a b : Nat} (ha : a < m) (hb : b < m) : eqm m (swN p a b) (swN p' a b) := fun i hi => by
  unfold swN updN
  rw [h a ha, h b hb, h i hi]
theorem rvF_cg {m : Nat} : ∀ {f : Nat} {p p' : Nat → Nat} {l t : Nat}, eqm m p p' → t < m → eqm m (rvF f p l t) (rvF f p' l t)
  | 0, _, _, _, _, h, _ => h
  | f + 1, p, p', l, t, h, ht => by
    show eqm m (if l < t then rvF f (swN p l t) (l + 1) (t - 1) else p) (if l < t then rvF f (swN p' l t) (l + 1) (t - 1) else p')
    by_cases q : l < t
    · rw [if_pos q, if_pos q]; exact rvF_cg (swN_cg h (by omega) ht) (by omega)
    · rw [if_neg q, if_neg q]; exact h
theorem nxO_cg {m : Nat} {p p' : Nat → Nat} (h : eqm m p p') : (nxO m p).map (pl m) = (nxO m p').map (pl m) := by
  unfold nxO
  by_cases h2 : m < 2
  · rw [if_pos h2, if_pos h2]
  · rw [if_neg h2, if_neg h2, riF_cg h (by omega)]
    cases e : riF p' (m - 1) with
    | none => rfl
    | some r =>
      have hr := riF_lt e
      have hg := grF_le (p := p') (r := r) (m - 1)
      have eg : grF p r (m - 1) = grF p' r (m - 1) := grF_cg h (by omega) (by omega)
      show some (pl m (rvF 5 (swN p r (grF p r (m - 1))) (r + 1) (m - 1))) = some (pl m (rvF 5 (swN p' r (grF p' r (m - 1))) (r + 1) (m - 1)))
      rw [eg]
      exact congrArg some (pl_eq (rvF_cg (swN_cg h (by omega) (by omega)) (by omega)))
def chk (m : Nat) : List (List Nat) → Bool
  | [] => false
  | [x] => (nxO m (lf x)).isNone
  | x :: y :: t => decide ((nxO m (lf x)).map (pl m) = some y) && chk m (y :: t)
theorem skF_L {m : Nat} {ou : (Nat → Nat) → Int32} (ho : oum m ou) : ∀ {t : List (List Nat)} {x : List Nat} {k : Nat} {p : Nat → Nat} {b : Int32} {q : Nat → Int32}, chk m (x :: t) = true → eqm m p (lf x) → t.length < k → eqm m p (lf x) → skF m ou k p b q = (x :: t).foldl (stO m ou) (b, q)
  | [], x, k + 1, p, b, q, hc, hp, _, _ => by
    have hn : nxO m p = none := by
      have := nxO_cg hp
      have hc' : (nxO m (lf x)).isNone = true := hc
      rw [Option.isNone_iff_eq_none.mp hc'] at this
      cases e : nxO m p with
      | none => rfl
      | some r => rw [e] at this; cases this
    rw [skF_n hn]
    show _ = stO m ou (b, q) x
    unfold stO
    rw [ho _ _ hp]
    exact Prod.ext rfl (by
      show (if ou (lf x) ≤ b then q else va_cpy (nIf p) q 0 0 m) = if ou (lf x) ≤ b then q else cpN (nIf (lf x)) q m
      split
      · rfl
      · rw [← cpN_cg hp]; exact cpy_cpN)
  | y :: t, x, k + 1, p, b, q, hc, hp, hk, _ => by
    have hc1 : decide ((nxO m (lf x)).map (pl m) = some y) = true ∧ chk m (y :: t) = true := by
      have hc' : (decide ((nxO m (lf x)).map (pl m) = some y) && chk m (y :: t)) = true := hc
      rw [Bool.and_eq_true] at hc'; exact hc'
    have hy := (nxO_cg hp).trans (of_decide_eq_true hc1.1)
    cases e : nxO m p with
    | none => rw [e] at hy; cases hy
    | some p' =>
      rw [e] at hy
      have hy2 : pl m p' = y := Option.some.inj hy
      rw [skF_s e]
      have hp' : eqm m p' (lf y) := fun i hi => by rw [← hy2]; exact (lf_pl i hi).symm
      rw [skF_L ho hc1.2 hp' (by simp at hk; omega) hp']
      show _ = (y :: t).foldl (stO m ou) (stO m ou (b, q) x)
      refine congrArg (fun z => (y :: t).foldl (stO m ou) z) ?_
      unfold stO
      rw [ho _ _ hp]
      exact Prod.ext rfl (by
        show (if ou (lf x) ≤ b then q else va_cpy (nIf p) q 0 0 m) = if ou (lf x) ≤ b then q else cpN (nIf (lf x)) q m
        split
        · rfl
        · rw [← cpN_cg hp]; exact cpy_cpN)
theorem chk_all {m : Nat} (h : m ≤ 5) : chk m (gL m m 0) = true ∧ (gL m m 0).length ≤ 120 ∧ (gL m m 0).head? = some (List.range m) := by
  rcases (show m = 0 ∨ m = 1 ∨ m = 2 ∨ m = 3 ∨ m = 4 ∨ m = 5 by omega) with rfl | rfl | rfl | rfl | rfl | rfl
  · exact ⟨by decide +kernel, by decide +kernel, by decide +kernel⟩
  · exact ⟨by decide +kernel, by decide +kernel, by decide +kernel⟩
  · exact ⟨by decide +kernel, by decide +kernel, by decide +kernel⟩
  · exact ⟨by decide +kernel, by decide +kernel, by decide +kernel⟩
  · exact ⟨by decide +kernel, by decide +kernel, by decide +kernel⟩
  · exact ⟨by decide +kernel, by decide +kernel, by decide +kernel⟩
/-- as good below m -/
def bqR (m : Nat) (s t : Int32 × (Nat → Int32)) : Prop := s.1 = t.1 ∧ ∀ i, i < m → s.2 i = t.2 i
theorem stO_R {m : Nat} {ou : (Nat → Nat) → Int32} {s t : Int32 × (Nat → Int32)} {l : List Nat} (h : bqR m s t) : bqR m (stO m ou s l) (stO m ou t l) := by
  unfold stO
  rw [h.1]
  refine ⟨rfl, fun i hi => ?_⟩
  show (if ou (lf l) ≤ t.1 then s.2 else cpN (nIf (lf l)) s.2 m) i = (if ou (lf l) ≤ t.1 then t.2 else cpN (nIf (lf l)) t.2 m) i
  by_cases q : ou (lf l) ≤ t.1
  · rw [if_pos q, if_pos q]; exact h.2 i hi
  · rw [if_neg q, if_neg q, cpN_at hi, cpN_at hi]
theorem fold_R {m : Nat} {ou : (Nat → Nat) → Int32} : ∀ {t : List (List Nat)} {r s : Int32 × (Nat → Int32)}, bqR m r s → bqR m (t.foldl (stO m ou) r) (t.foldl (stO m ou) s)
  | [], _, _, h => h
  | x :: t, _, _, h => fold_R (t := t) (stO_R h)
theorem orders_eq {m : Nat} (hm : m ≤ 5) {ou : (Nat → Nat) → Int32} (ho : oum m ou) (h0 : 0 ≤ ou (lf (List.range m))) {p0 r0 : Nat → Nat} {q q' : Nat → Int32} : bqR m (skF m ou 120 (idN p0 m) (-2) q) (ooF m ou m 0 0 (r0, -1, q')).2 := by
  have hc := chk_all hm
  rw [ooF_L ho (D := m) (k := 0) (by omega)]
  have e0 : (gL m m 0).foldl (fun b x => stO m ou b (pl 0 r0 ++ x)) (-1, q') = (gL m m 0).foldl (stO m ou) (-1, q') := rfl
  show bqR m _ ((gL m m 0).foldl (fun b x => stO m ou b (pl 0 r0 ++ x)) (-1, q'))
  rw [e0]
  cases hg : gL m m 0 with
  | nil => rw [hg] at hc; exact absurd hc.1 (show ¬ (false = true) by decide)
  | cons x t =>
    rw [hg] at hc
    have hx : x = List.range m := Option.some.inj hc.2.2
    have hid : eqm m (idN p0 m) (lf x) := fun i hi => by
      rw [idN_at p0 hi, hx]
      unfold lf
      rw [List.getD_eq_getElem?_getD, List.getElem?_range hi]; rfl
    rw [skF_L ho hc.1 hid (by have := hc.2.1; simp at this; omega) hid]
    refine fold_R (t := t) ?_
    have n2 : ¬ ou (lf (List.range m)) ≤ (-2 : Int32) := fun w => absurd (Int32.le_trans h0 w) (by decide)
    have n1 : ¬ ou (lf (List.range m)) ≤ (-1 : Int32) := fun w => absurd (Int32.le_trans h0 w) (by decide)
    rw [hx]
    have e2 : stO m ou (-2, q) (List.range m) = (ou (lf (List.range m)), cpN (nIf (lf (List.range m))) q m) := Prod.ext (if_neg n2) (if_neg n2)
    have e1 : stO m ou (-1, q') (List.range m) = (ou (lf (List.range m)), cpN (nIf (lf (List.range m))) q' m) := Prod.ext (if_neg n1) (if_neg n1)
    rw [e1, e2]
    refine ⟨rfl, fun i hi => ?_⟩
    show cpN (nIf (lf (List.range m))) q m i = cpN (nIf (lf (List.range m))) q' m i
    rw [cpN_at hi, cpN_at hi]
