section LW6
variable {n : Nat} {tx : Nat → Nat} {nm : Nat → Int32} {s s' s'' t : rT} {E E' : List Int32} {W W' W2 V : List Nat} {o a p : Nat} {gv : Bool} {g : Int32}
/-- behind a condition -/
theorem cond_go {v : Int32} (hp : p < n) (hc : tx p = 63) (hA : Ab nm s E V 0) (hw : s.2 6 = 0) (h7 : s.2 7 = 0) (hr : relL nm 1 E V = ([v], [])) (hL : LN nm s gv g) (h23 : s.2 2 = s.2 3) :
    ∃ s4, Ab nm s4 [] [] 0 ∧ s4.2 6 = 1 ∧ s4.2 7 = 1 ∧ LN nm s4 gv g ∧ s4.2 2 < s4.2 3 ∧ s4.2 3 = s4.2 0 ∧ evV (s4.1 1) (s4.1 2) nm (s4.2 2) (s4.2 3) = v ∧ Rd n tx p s = Rd n tx (p + 1) s4 := by
  obtain ⟨r1, r2, r3⟩ := rl_Ab (wk := 1) (m := s.2 4) hA (by rw [Ab_len hA]; exact Nat.le_refl _)
  rw [hr] at r1
  have h5 := hA.2.2.2
  have hk3 : (rlP 1 (s.2 4) s).2 3 = s.2 3 := r2.2.2.1
  have hk2 : (rlP 1 (s.2 4) s).2 2 = s.2 2 := r2.2.1
  have hLt := LN_fr hL r2
  have es : stp n tx p s = (stK (stK (stK (rlP 1 (s.2 4) s) 3 ((rlP 1 (s.2 4) s).2 0)) 7 1) 6 1, 1) := by
    unfold stp siP
    rw [if_pos hw, hc, if_neg (by decide), if_neg (fun q => absurd q.1 (by decide)), if_pos (show (63 : Nat) = 63 ∧ s.2 5 = 0 ∧ s.2 7 = 0 from ⟨rfl, h5, h7⟩)]
  refine ⟨stK (stK (stK (rlP 1 (s.2 4) s) 3 ((rlP 1 (s.2 4) s).2 0)) 7 1) 6 1, ⟨Nat.le_refl _, ?_, r1.2.2.1, r1.2.2.2⟩, rfl, rfl, hLt, ?_, rfl, ?_, ?_⟩
  · show evN _ _ nm ((rlP 1 (s.2 4) s).2 0) ((rlP 1 (s.2 4) s).2 0 - (rlP 1 (s.2 4) s).2 0) = []
    rw [Nat.sub_self]; rfl
  · show (rlP 1 (s.2 4) s).2 2 < (rlP 1 (s.2 4) s).2 0
    rw [hk2, h23, ← hk3]
    have q := r1.2.1
    by_cases l : (rlP 1 (s.2 4) s).2 3 < (rlP 1 (s.2 4) s).2 0
    · exact l
    · rw [show (rlP 1 (s.2 4) s).2 0 - (rlP 1 (s.2 4) s).2 3 = 0 by omega] at q
      cases q
  · show evV ((rlP 1 (s.2 4) s).1 1) ((rlP 1 (s.2 4) s).1 2) nm ((rlP 1 (s.2 4) s).2 2) ((rlP 1 (s.2 4) s).2 0) = v
    rw [hk2, h23, ← hk3]
    unfold evV
    rw [r1.2.1]; rfl
  · rw [Rd_go hp (by rw [es]; exact (show ¬ 1 < 1 by decide)), es]
/-- what a text's reading comes to -/
def wkR (n : Nat) (tx : Nat → Nat) (nm : Nat → Int32) (a : Nat) (s : rT) (r : Int32 × pS) : Prop :=
  (∀ b, r.2.2.1 = some b → (Rd n tx a s).1 = some b) ∧ (r.2.2.1 = none → r.2.1 ≤ n ∧ (r.2.1 < n → (Rd n tx a s).1 = some r.2.1) ∧ (r.2.1 = n → (Rd n tx a s).1 = none ∧ ∃ gv', LN nm (Rd n tx a s).2 gv' r.1))
theorem tk_59 {c : Nat} {q : pS} : tkB n tx c q = true ↔ q.2.1 = none ∧ byN n tx q.1 = c := by
  unfold tkB
  rw [Bool.and_eq_true, Option.isNone_iff_eq_none, decide_eq_true_eq]
theorem K_tail {m : Nat} {gv' : Bool} {g' : Int32} (ih : ∀ (a : Nat) (s : rT) (gv : Bool) (g : Int32), a ≤ n → n - a < m → QL nm s gv g → wkR n tx nm a s (wkL (exT n tx nm) n tx m gv g (a, none, 0))) (hp : p ≤ n) (hap : n - p < m + 1)
    (h1 : byN n tx p = 59 → p < n ∧ ∃ s', QL nm s' gv' g' ∧ Rd n tx p s = Rd n tx (p + 1) s') (h2 : byN n tx p ≠ 59 → p < n → (Rd n tx p s).1 = some p) (h3 : p = n → (Rd n tx p s).1 = none ∧ LN nm (Rd n tx p s).2 gv' g')
    {q : Bool × Int32 × pS} (hq : q = (gv', g', (p, none, 0))) : wkR n tx nm p s (if tkB n tx 59 q.2.2 = true then wkL (exT n tx nm) n tx m q.1 q.2.1 (adP q.2.2) else (q.2.1, q.2.2)) := by
  subst hq
  by_cases h : byN n tx p = 59
  · rw [if_pos (tk_59.mpr ⟨rfl, h⟩)]
    obtain ⟨hpn, s', hQ, hR⟩ := h1 h
    have w := ih (p + 1) s' gv' g' hpn (by omega) hQ
    unfold wkR at w ⊢
    rw [hR]
    exact w
  · rw [if_neg (fun w => h (tk_59.mp w).2)]
    exact ⟨(fun b hb => by cases hb), fun _ => ⟨hp, fun l => h2 h l, fun e => ⟨(h3 e).1, gv', (h3 e).2⟩⟩⟩
theorem wkR_eq {r : Int32 × pS} (h : Rd n tx a s = Rd n tx p s') (w : wkR n tx nm p s' r) : wkR n tx nm a s r := by
  unfold wkR at w ⊢
  rw [h]; exact w
theorem K_wk : ∀ (m : Nat) (a : Nat) (s : rT) (gv : Bool) (g : Int32), a ≤ n → n - a < m → QL nm s gv g → wkR n tx nm a s (wkL (exT n tx nm) n tx m gv g (a, none, 0)) := by
  intro m
  induction m with
  | zero => intro a s gv g _ h; omega
  | succ m ih =>
    intro a s gv g ha hm hQ
    have hpok : pok n (a, (none : Option Nat), 0) := ⟨ha, (fun b hb => by cases hb), Nat.zero_le 6⟩
    obtain ⟨g1, g2, g3, g4⟩ := g_exT (n := n) (tx := tx) (nm := nm) (a, none, 0) hpok (fun _ => rfl)
    obtain ⟨k1, k2⟩ := K_exT (n := n) (tx := tx) (nm := nm) s a [] [] ha (QL_Ab hQ) hQ.2.2.2.2.1 trivial
    obtain ⟨q3, q2, q4, q5, q6, q7, hLN⟩ := hQ
    show wkR n tx nm a s (if tkB n tx 59 (wkS (exT n tx nm) n tx gv g (a, none, 0)).2.2 = true then wkL (exT n tx nm) n tx m (wkS (exT n tx nm) n tx gv g (a, none, 0)).1 (wkS (exT n tx nm) n tx gv g (a, none, 0)).2.1 (adP (wkS (exT n tx nm) n tx gv g (a, none, 0)).2.2) else ((wkS (exT n tx nm) n tx gv g (a, none, 0)).2.1, (wkS (exT n tx nm) n tx gv g (a, none, 0)).2.2))
    have eS : wkS (exT n tx nm) n tx gv g (a, none, 0) = if tkB n tx 63 (exT n tx nm (a, none, 0)).2 = true then (if (exT n tx nm (adP (exT n tx nm (a, none, 0)).2)).2.2.1 = none ∧ (exT n tx nm (a, none, 0)).1 ≠ 0 ∧ gv = false then (true, (exT n tx nm (adP (exT n tx nm (a, none, 0)).2)).1, (exT n tx nm (adP (exT n tx nm (a, none, 0)).2)).2) else (gv, g, (exT n tx nm (adP (exT n tx nm (a, none, 0)).2)).2)) else (if (exT n tx nm (a, none, 0)).2.2.1 = none ∧ gv = false then (true, (exT n tx nm (a, none, 0)).1, (exT n tx nm (a, none, 0)).2) else (gv, g, (exT n tx nm (a, none, 0)).2)) := rfl
    generalize exT n tx nm (a, none, 0) = r1 at *
    cases hf : r1.2.2.1 with
    | some b =>
      have e : wkS (exT n tx nm) n tx gv g (a, none, 0) = (gv, g, r1.2) := by
        rw [eS, if_neg (fun q => by have := (tk_59.mp q).1; rw [hf] at this; cases this), if_neg (fun q => by rw [hf] at q; cases q.1)]
      rw [e, if_neg (fun q => by have := (tk_59.mp q).1; have this : r1.2.2.1 = none := this; rw [hf] at this; cases this)]
      exact ⟨fun b' hb' => k1 b' hb', fun q => by have q : r1.2.2.1 = none := q; rw [hf] at q; cases q⟩
    | none =>
      obtain ⟨s3, V, E3, b1, b2, b3, b4, b5, b6, b7⟩ := k2 hf
      rw [List.append_nil] at b1
      have hpl : r1.2 = (r1.2.1, none, 0) := Prod.ext rfl (Prod.ext hf (g3 hf).1)
      have hap : a ≤ r1.2.1 := g2
      have hpn : r1.2.1 ≤ n := g1.1
      have hL3 := LN_fr hLN b3
      have e23 : s3.2 2 = s3.2 3 := by rw [b3.2.1, b3.2.2.1, q2, q3]
      refine wkR_eq b4 ?_
      by_cases h63 : byN n tx r1.2.1 = 63
      · obtain ⟨hpn2, etx⟩ := byN_eq (n := n) (tx := tx) (p := r1.2.1) (by omega)
        obtain ⟨s4, c1, c2, c3, c4, c5, c6, c7, c8⟩ := cond_go (n := n) (tx := tx) hpn2 (etx.trans h63) b1 b2 (by rw [b3.2.2.2.1, q7]) b6 hL3 e23
        rw [if_pos (tk_59.mpr ⟨hf, h63⟩), show adP r1.2 = (r1.2.1 + 1, none, 0) by rw [hpl]; rfl] at eS
        have hpok2 : pok n (r1.2.1 + 1, (none : Option Nat), 0) := ⟨hpn2, (fun b hb => by cases hb), Nat.zero_le 6⟩
        obtain ⟨u1, u2, u3, u4⟩ := g_exT (n := n) (tx := tx) (nm := nm) (r1.2.1 + 1, none, 0) hpok2 (fun _ => rfl)
        obtain ⟨j1, j2⟩ := K_exT (n := n) (tx := tx) (nm := nm) s4 (r1.2.1 + 1) [] [] hpn2 c1 c2 trivial
        refine wkR_eq c8 ?_
        generalize exT n tx nm (r1.2.1 + 1, none, 0) = r2 at *
        cases hf2 : r2.2.2.1 with
        | some b =>
          have e : wkS (exT n tx nm) n tx gv g (a, none, 0) = (gv, g, r2.2) := by
            rw [eS, if_neg (fun q => by rw [hf2] at q; cases q.1)]
          rw [e, if_neg (fun q => by have := (tk_59.mp q).1; have this : r2.2.2.1 = none := this; rw [hf2] at this; cases this)]
          exact ⟨fun b' hb' => j1 b' hb', fun q => by have q : r2.2.2.1 = none := q; rw [hf2] at q; cases q⟩
        | none =>
          obtain ⟨s5, V5, E5, d1, d2, d3, d4, d5, d6, d7⟩ := j2 hf2
          rw [List.append_nil] at d1
          have hpl2 : r2.2 = (r2.2.1, none, 0) := Prod.ext rfl (Prod.ext hf2 (u3 hf2).1)
          have hap2 : r1.2.1 + 1 ≤ r2.2.1 := u2
          have e2 : s5.2 2 = s4.2 2 := d3.2.1
          have e3 : s5.2 3 = s4.2 3 := d3.2.2.1
          have ec : evV (s5.1 1) (s5.1 2) nm (s5.2 2) (s5.2 3) = r1.1 := by
            rw [e2, e3, ← c7]
            exact evV_cg fun j hj => d3.2.2.2.2.2.2.2.2 j (by omega)
          have hcond : (s5.2 2 = s5.2 3 ∨ evV (s5.1 1) (s5.1 2) nm (s5.2 2) (s5.2 3) ≠ 0) ↔ r1.1 ≠ 0 := by
            rw [ec, e2, e3]
            exact ⟨fun q => q.elim (fun w => by omega) id, Or.inr⟩
          have hstep : wkS (exT n tx nm) n tx gv g (a, none, 0) = ((if gv = true then (gv, g) else if s5.2 2 = s5.2 3 ∨ evV (s5.1 1) (s5.1 2) nm (s5.2 2) (s5.2 3) ≠ 0 then (true, r2.1) else (gv, g)).1, (if gv = true then (gv, g) else if s5.2 2 = s5.2 3 ∨ evV (s5.1 1) (s5.1 2) nm (s5.2 2) (s5.2 3) ≠ 0 then (true, r2.1) else (gv, g)).2, (r2.2.1, none, 0)) := by
            rw [eS, ← hpl2]
            by_cases hv : r1.1 ≠ 0
            · rw [if_pos (hcond.mpr hv)]
              cases gv with
              | true => rw [if_neg (fun q => by cases q.2.2)]; rfl
              | false => rw [if_pos ⟨hf2, hv, rfl⟩]; rfl
            · rw [if_neg (fun q => hv (hcond.mp q)), if_neg (fun q => hv q.2.1)]
              cases gv <;> rfl
          have hend := ln_end (n := n) (tx := tx) (p := r2.2.1) u1.1 d1 d2 d5 d6 d7 (LN_fr c4 d3) (by rw [e2, e3]; omega) (fun _ => by rw [d3.2.2.2.1, c3]; decide) (gv' := (if gv = true then (gv, g) else if s5.2 2 = s5.2 3 ∨ evV (s5.1 1) (s5.1 2) nm (s5.2 2) (s5.2 3) ≠ 0 then (true, r2.1) else (gv, g)).1) (g' := (if gv = true then (gv, g) else if s5.2 2 = s5.2 3 ∨ evV (s5.1 1) (s5.1 2) nm (s5.2 2) (s5.2 3) ≠ 0 then (true, r2.1) else (gv, g)).2) rfl
          exact wkR_eq d4 (K_tail ih u1.1 (by omega) hend.1 hend.2.1 hend.2.2 hstep)
      · rw [if_neg (fun q => h63 (tk_59.mp q).2)] at eS
        have hstep : wkS (exT n tx nm) n tx gv g (a, none, 0) = ((if gv = true then (gv, g) else if s3.2 2 = s3.2 3 ∨ evV (s3.1 1) (s3.1 2) nm (s3.2 2) (s3.2 3) ≠ 0 then (true, r1.1) else (gv, g)).1, (if gv = true then (gv, g) else if s3.2 2 = s3.2 3 ∨ evV (s3.1 1) (s3.1 2) nm (s3.2 2) (s3.2 3) ≠ 0 then (true, r1.1) else (gv, g)).2, (r1.2.1, none, 0)) := by
          rw [eS, ← hpl, if_pos (Or.inl e23)]
          cases gv with
          | true => rw [if_neg (fun q => by cases q.2)]; rfl
          | false => rw [if_pos ⟨hf, rfl⟩]; rfl
        have hend := ln_end (n := n) (tx := tx) (p := r1.2.1) hpn b1 b2 b5 b6 b7 hL3 (Nat.le_of_eq e23) (fun q => absurd q h63) (gv' := (if gv = true then (gv, g) else if s3.2 2 = s3.2 3 ∨ evV (s3.1 1) (s3.1 2) nm (s3.2 2) (s3.2 3) ≠ 0 then (true, r1.1) else (gv, g)).1) (g' := (if gv = true then (gv, g) else if s3.2 2 = s3.2 3 ∨ evV (s3.1 1) (s3.1 2) nm (s3.2 2) (s3.2 3) ≠ 0 then (true, r1.1) else (gv, g)).2) rfl
        exact K_tail ih hpn (by omega) hend.1 hend.2.1 hend.2.2 hstep
end LW6
