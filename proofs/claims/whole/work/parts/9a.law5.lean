section LW5
variable {n : Nat} {tx : Nat → Nat} {nm : Nat → Int32} {s s' s'' t : rT} {E E' : List Int32} {W W' W2 V : List Nat} {o a p : Nat} {gv : Bool} {g : Int32}
/-- the lines, from the first on: whether one has answered, with what -/
def lnA (cd vl st an : Nat → Nat) (nm : Nat → Int32) (i : Nat) : Bool := decide (st i = an i) || decide (evV cd vl nm (st i) (an i) ≠ 0)
def gvG (cd vl st an en : Nat → Nat) (nm : Nat → Int32) : Nat → Bool × Int32
  | 0 => (false, nI 0)
  | k + 1 => if (gvG cd vl st an en nm k).1 = true then gvG cd vl st an en nm k else if lnA cd vl st an nm k = true then (true, evV cd vl nm (an k) (en k)) else gvG cd vl st an en nm k
theorem gv_0 {cd vl st an en : Nat → Nat} : ∀ {k : Nat}, (gvG cd vl st an en nm k).1 = false → gvG cd vl st an en nm k = (false, nI 0)
  | 0, _ => rfl
  | k + 1, h => by
    have e : gvG cd vl st an en nm (k + 1) = if (gvG cd vl st an en nm k).1 = true then gvG cd vl st an en nm k else if lnA cd vl st an nm k = true then (true, evV cd vl nm (an k) (en k)) else gvG cd vl st an en nm k := rfl
    rw [e] at h ⊢
    by_cases h1 : (gvG cd vl st an en nm k).1 = true
    · rw [if_pos h1] at h; rw [h] at h1; cases h1
    · rw [if_neg h1] at h ⊢
      by_cases h2 : lnA cd vl st an nm k = true
      · rw [if_pos h2] at h; cases h
      · rw [if_neg h2] at h ⊢
        exact gv_0 h
theorem gv_stay {cd vl st an en : Nat → Nat} {i : Nat} (h : (gvG cd vl st an en nm i).1 = true) : ∀ m, gvG cd vl st an en nm (i + m) = gvG cd vl st an en nm i
  | 0 => rfl
  | m + 1 => by
    have ih := gv_stay h m
    show (if (gvG cd vl st an en nm (i + m)).1 = true then gvG cd vl st an en nm (i + m) else _) = _
    rw [ih, if_pos h]
theorem rk_gv {cd vl st an en : Nat → Nat} : ∀ {m i : Nat}, (gvG cd vl st an en nm i).1 = false → rkF cd vl st an en nm m i = (gvG cd vl st an en nm (i + m)).2
  | 0, i, h => by
    rw [Nat.add_zero, gv_0 h]; rfl
  | m + 1, i, h => by
    have e : gvG cd vl st an en nm (i + 1) = if lnA cd vl st an nm i = true then (true, evV cd vl nm (an i) (en i)) else gvG cd vl st an en nm i := if_neg (by rw [h]; decide)
    show (if st i = an i then evV cd vl nm (an i) (en i) else if evV cd vl nm (st i) (an i) = 0 then rkF cd vl st an en nm m (i + 1) else evV cd vl nm (an i) (en i)) = _
    rw [show i + (m + 1) = (i + 1) + m by omega]
    by_cases h1 : st i = an i
    · have hl : lnA cd vl st an nm i = true := by unfold lnA; rw [decide_eq_true h1]; rfl
      rw [if_pos hl] at e
      rw [if_pos h1, gv_stay (by rw [e]), e]
    · rw [if_neg h1]
      by_cases h2 : evV cd vl nm (st i) (an i) = 0
      · have hl : lnA cd vl st an nm i = false := by unfold lnA; rw [decide_eq_false h1, decide_eq_false (fun q => q h2)]; rfl
        rw [if_neg (by rw [hl]; decide)] at e
        rw [if_pos h2]
        exact rk_gv (by rw [e]; exact h)
      · have hl : lnA cd vl st an nm i = true := by unfold lnA; rw [decide_eq_true h2, Bool.or_true]
        rw [if_pos hl] at e
        rw [if_neg h2, gv_stay (by rw [e]), e]
theorem evV_cg {cd cd' vl vl' : Nat → Nat} {fr to : Nat} (h : ∀ j, j < to → cd j = cd' j ∧ vl j = vl' j) : evV cd vl nm fr to = evV cd' vl' nm fr to := by
  unfold evV
  rw [evN_cg fun j h1 h2 => h j (by omega)]
theorem gv_cg {cd cd' vl vl' st st' an an' en en' : Nat → Nat} {K : Nat} (h : ∀ j, j < K → cd j = cd' j ∧ vl j = vl' j) : ∀ {k : Nat}, (∀ i, i < k → st i = st' i ∧ an i = an' i ∧ en i = en' i ∧ st i ≤ an i ∧ an i ≤ en i ∧ en i ≤ K) → gvG cd vl st an en nm k = gvG cd' vl' st' an' en' nm k
  | 0, _ => rfl
  | k + 1, hk => by
    have ih := gv_cg h (st := st) (st' := st') (an := an) (an' := an') (en := en) (en' := en') (k := k) (fun i hi => hk i (by omega))
    obtain ⟨q1, q2, q3, q4, q5, q6⟩ := hk k (by omega)
    unfold gvG
    rw [ih]
    have el : lnA cd vl st an nm k = lnA cd' vl' st' an' nm k := by
      unfold lnA
      rw [← q1, ← q2, evV_cg fun j hj => h j (by omega)]
    rw [el, ← q2, ← q3, evV_cg fun j hj => h j (by omega)]
def LN (nm : Nat → Int32) (s : rT) (gv : Bool) (g : Int32) : Prop := (∀ i, i < s.2 1 → s.1 3 i ≤ s.1 4 i ∧ s.1 4 i ≤ s.1 5 i ∧ s.1 5 i ≤ s.2 0) ∧ gvG (s.1 1) (s.1 2) (s.1 3) (s.1 4) (s.1 5) nm (s.2 1) = (gv, g)
theorem LN_fr (h : LN nm s gv g) (hf : fr s s') : LN nm s' gv g := by
  obtain ⟨h1, h2⟩ := h
  obtain ⟨a1, a2, a3, a4, a5, a6, a7, a8, a9⟩ := hf
  refine ⟨fun i hi => ?_, ?_⟩
  · rw [a1] at hi
    rw [a5, a6, a7]
    have := h1 i hi
    exact ⟨this.1, this.2.1, by omega⟩
  · rw [a1, ← h2, a5, a6, a7]
    exact (gv_cg (K := s.2 0) (fun j hj => ⟨(a9 j hj).1.symm, (a9 j hj).2.symm⟩) (fun i hi => ⟨rfl, rfl, rfl, h1 i hi⟩)).symm
theorem el_LN (h : LN nm t gv g) (h1 : t.2 2 ≤ t.2 3) (h2 : t.2 3 ≤ t.2 0) : LN nm (elP t) (if gv = true then gv else if t.2 2 = t.2 3 ∨ evV (t.1 1) (t.1 2) nm (t.2 2) (t.2 3) ≠ 0 then true else gv) (if gv = true then g else if t.2 2 = t.2 3 ∨ evV (t.1 1) (t.1 2) nm (t.2 2) (t.2 3) ≠ 0 then evV (t.1 1) (t.1 2) nm (t.2 3) (t.2 0) else g) := by
  obtain ⟨a1, a2⟩ := h
  have r3 : (elP t).1 3 = updN (t.1 3) (t.2 1) (t.2 2) := rfl
  have r4 : (elP t).1 4 = updN (t.1 4) (t.2 1) (t.2 3) := rfl
  have r5 : (elP t).1 5 = updN (t.1 5) (t.2 1) (t.2 0) := rfl
  have r1 : (elP t).1 1 = t.1 1 := rfl
  have r2 : (elP t).1 2 = t.1 2 := rfl
  have k1 : (elP t).2 1 = t.2 1 + 1 := rfl
  have k0 : (elP t).2 0 = t.2 0 := rfl
  refine ⟨fun i hi => ?_, ?_⟩
  · rw [r3, r4, r5, k0, updN_at, updN_at, updN_at]
    rw [k1] at hi
    by_cases e : i = t.2 1
    · rw [if_pos e, if_pos e, if_pos e]; exact ⟨h1, h2, Nat.le_refl _⟩
    · rw [if_neg e, if_neg e, if_neg e]; exact a1 i (by omega)
  · rw [k1, r1, r2, r3, r4, r5]
    have eg : gvG (t.1 1) (t.1 2) (updN (t.1 3) (t.2 1) (t.2 2)) (updN (t.1 4) (t.2 1) (t.2 3)) (updN (t.1 5) (t.2 1) (t.2 0)) nm (t.2 1) = (gv, g) := by
      rw [← a2]
      refine (gv_cg (K := t.2 0) (fun j hj => ⟨rfl, rfl⟩) (fun i hi => ?_)).symm
      rw [updN_at, updN_at, updN_at, if_neg (by omega), if_neg (by omega), if_neg (by omega)]
      exact ⟨rfl, rfl, rfl, a1 i hi⟩
    unfold gvG
    rw [eg]
    have el : lnA (t.1 1) (t.1 2) (updN (t.1 3) (t.2 1) (t.2 2)) (updN (t.1 4) (t.2 1) (t.2 3)) nm (t.2 1) = true ↔ (t.2 2 = t.2 3 ∨ evV (t.1 1) (t.1 2) nm (t.2 2) (t.2 3) ≠ 0) := by
      unfold lnA
      rw [updN_at, updN_at, if_pos rfl, if_pos rfl, Bool.or_eq_true, decide_eq_true_eq, decide_eq_true_eq]
    rw [updN_at, updN_at, if_pos rfl, if_pos rfl]
    cases gv with
    | true => rfl
    | false =>
      rw [if_neg (show ¬ (false = true) by decide), if_neg (show ¬ (false = true) by decide), if_neg (show ¬ (false = true) by decide)]
      by_cases q : t.2 2 = t.2 3 ∨ evV (t.1 1) (t.1 2) nm (t.2 2) (t.2 3) ≠ 0
      · rw [if_pos (el.mpr q), if_pos q, if_pos q]
      · rw [if_neg (fun w => q (el.mp w)), if_neg q, if_neg q]
/-- at the head of a line -/
def QL (nm : Nat → Int32) (s : rT) (gv : Bool) (g : Int32) : Prop := s.2 3 = s.2 0 ∧ s.2 2 = s.2 0 ∧ s.2 4 = 0 ∧ s.2 5 = 0 ∧ s.2 6 = 1 ∧ s.2 7 = 0 ∧ LN nm s gv g
theorem QL_Ab (h : QL nm s gv g) : Ab nm s [] [] 0 := by
  obtain ⟨h3, h2, h4, h5, h6, h7, _⟩ := h
  exact ⟨by omega, by rw [show s.2 0 - s.2 3 = 0 by omega]; rfl, by rw [h4]; rfl, h5⟩
/-- a line's end -/
theorem ln_end {v : Int32} {gv' : Bool} {g' : Int32} (hp : p ≤ n) (hA : Ab nm s E V 0) (hw : s.2 6 = 0) (hV : ∀ c ∈ V, 1 ≤ sgN c) (hr : relL nm 1 E V = ([v], [])) (hn : nxK 1 (byN n tx p) V) (hL : LN nm s gv g) (h23 : s.2 2 ≤ s.2 3) (h63 : byN n tx p = 63 → s.2 7 ≠ 0)
    (hg : (gv', g') = if gv = true then (gv, g) else if s.2 2 = s.2 3 ∨ evV (s.1 1) (s.1 2) nm (s.2 2) (s.2 3) ≠ 0 then (true, v) else (gv, g)) :
    (byN n tx p = 59 → p < n ∧ ∃ s', QL nm s' gv' g' ∧ Rd n tx p s = Rd n tx (p + 1) s') ∧ (byN n tx p ≠ 59 → p < n → (Rd n tx p s).1 = some p) ∧ (p = n → (Rd n tx p s).1 = none ∧ LN nm (Rd n tx p s).2 gv' g') := by
  obtain ⟨r1, r2, r3⟩ := rl_Ab (wk := 1) (m := s.2 4) hA (by rw [Ab_len hA]; exact Nat.le_refl _)
  rw [hr] at r1
  have h5 := hA.2.2.2
  have hk3 : (rlP 1 (s.2 4) s).2 3 = s.2 3 := r2.2.2.1
  have hk2 : (rlP 1 (s.2 4) s).2 2 = s.2 2 := r2.2.1
  have hv : evV ((rlP 1 (s.2 4) s).1 1) ((rlP 1 (s.2 4) s).1 2) nm ((rlP 1 (s.2 4) s).2 3) ((rlP 1 (s.2 4) s).2 0) = v := by
    unfold evV
    rw [r1.2.1]; rfl
  have hc : evV ((rlP 1 (s.2 4) s).1 1) ((rlP 1 (s.2 4) s).1 2) nm (s.2 2) (s.2 3) = evV (s.1 1) (s.1 2) nm (s.2 2) (s.2 3) := evV_cg fun j hj => r2.2.2.2.2.2.2.2.2 j (by have := hA.1; omega)
  have hE := el_LN (LN_fr hL r2) (by rw [hk2, hk3]; exact h23) r1.1
  rw [hv, hk2, hk3, hc] at hE
  have e1 : (if gv = true then gv else if s.2 2 = s.2 3 ∨ evV (s.1 1) (s.1 2) nm (s.2 2) (s.2 3) ≠ 0 then true else gv) = gv' := by
    have q := congrArg Prod.fst hg
    rw [show gv' = (gv', g').1 from rfl, hg]
    split
    · rfl
    · split <;> rfl
  have e2 : (if gv = true then g else if s.2 2 = s.2 3 ∨ evV (s.1 1) (s.1 2) nm (s.2 2) (s.2 3) ≠ 0 then v else g) = g' := by
    rw [show g' = (gv', g').2 from rfl, hg]
    split
    · rfl
    · split <;> rfl
  rw [e1, e2] at hE
  refine ⟨fun h59 => ?_, fun h59 hpn => ?_, fun hpn => ?_⟩
  · obtain ⟨hpn, etx⟩ := byN_eq (n := n) (tx := tx) (p := p) (by omega)
    have es : stp n tx p s = (stK (stK (elP (rlP 1 (s.2 4) s)) 7 0) 6 1, 1) := by
      unfold stp siP
      rw [if_pos hw, etx, h59, if_neg (by decide), if_neg (fun q => absurd q.1 (by decide)), if_neg (fun q => absurd q.1 (by decide)), if_pos (show (59 : Nat) = 59 ∧ s.2 5 = 0 from ⟨rfl, h5⟩)]
    refine ⟨hpn, stK (stK (elP (rlP 1 (s.2 4) s)) 7 0) 6 1, ⟨rfl, rfl, ?_, ?_, rfl, rfl, hE⟩, ?_⟩
    · show (rlP 1 (s.2 4) s).2 4 = 0
      exact Ab_len r1
    · show (rlP 1 (s.2 4) s).2 5 = 0
      exact r1.2.2.2
    · rw [Rd_go hpn (by rw [es]; exact (show ¬ 1 < 1 by decide)), es]
  · have eb : byN n tx p = tx p := if_pos hpn
    rw [eb] at h59 hn h63
    rcases hn with h | ⟨h1, h2, h3⟩
    · refine Rd_st hpn ?_
      unfold stp siP
      rw [if_pos hw, if_neg (by omega), if_neg (fun q => by omega), if_neg (fun q => h63 q.1 q.2.2), if_neg (fun q => h59 q.1)]
      exact Nat.zero_lt_one
    · exact sign_st (W := []) hpn h2 (by rw [List.append_nil]; exact hA) hw h3
  · rw [Rd_end (by omega), if_pos ⟨hw, h5⟩]
    exact ⟨rfl, hE⟩
end LW5
