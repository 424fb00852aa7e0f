section LW3
variable {n : Nat} {tx : Nat → Nat} {nm : Nat → Int32} {s s' s'' : rT} {E E' : List Int32} {W W' W2 : List Nat} {o a : Nat}
/-- a comparison -/
theorem K_cmF {nxt : pS → Int32 × pS} (hg : gP n nxt o) (ho : o ≤ 6) (hK : LvK n tx nm 4 o nxt) : LvK n tx nm 3 o (cmF n tx nxt) := by
  intro s a E W ha hA hw ht
  have hpok : pok n (a, (none : Option Nat), o) := ⟨ha, (fun b hb => by cases hb), ho⟩
  obtain ⟨g1, g2, g3, g4⟩ := hg (a, none, o) hpok (fun _ => rfl)
  obtain ⟨k1, k2⟩ := hK s a E W ha hA hw (top_le ht (by decide))
  cases hf : (nxt (a, none, o)).2.2.1 with
  | some b =>
    have e : cmF n tx nxt (a, none, o) = nxt (a, none, o) := if_neg (fun q => by rw [hf] at q; cases q.1)
    rw [e]
    exact ⟨k1, fun q => by rw [hf] at q; cases q⟩
  | none =>
    obtain ⟨s3, V, E3, b1, b2, b3, b4, b5, b6, b7⟩ := k2 hf
    have hb7 : sgN (byN n tx (nxt (a, none, o)).2.1) < 4 := by
      rcases b7 with h | ⟨h1, _⟩
      · exact h
      · omega
    by_cases hc : sgN (byN n tx (nxt (a, none, o)).2.1) = 3
    · have e : cmF n tx nxt (a, none, o) = (joinI (byN n tx (nxt (a, none, o)).2.1) (nxt (a, none, o)).1 (nxt (adP (nxt (a, none, o)).2)).1, (nxt (adP (nxt (a, none, o)).2)).2) := if_pos ⟨hf, hc⟩
      rw [e]
      have hpl : (nxt (a, none, o)).2 = ((nxt (a, none, o)).2.1, none, o) := Prod.ext rfl (Prod.ext hf (g3 hf).1)
      rw [hpl]
      generalize (nxt (a, none, o)).2.1 = p at *
      generalize (nxt (a, none, o)).1 = v at *
      obtain ⟨hpn, etx⟩ := byN_eq (n := n) (tx := tx) (p := p) (sg_ne0 (by omega))
      obtain ⟨s2, a1, a2, a3, a4⟩ := sign_go (n := n) (tx := tx) (l := 3) hpn etx hc (by decide) b1 b2 (by rw [if_pos rfl]; exact b5) (by rw [if_pos rfl]; exact b6) ht
      obtain ⟨j1, j2⟩ := hK s2 (p + 1) (v :: E) (byN n tx p :: W) hpn a1 a2 (top_sg (by omega) (by omega))
      show outK n tx nm 3 o s a E W (joinI (byN n tx p) v (nxt (p + 1, none, o)).1, (nxt (p + 1, none, o)).2)
      refine ⟨fun b hb => by rw [b4, a4]; exact j1 b hb, fun hn => ?_⟩
      obtain ⟨s5, V5, E5, c1, c2, c3, c4, c5, c6, c7⟩ := j2 hn
      refine ⟨s5, V5 ++ [byN n tx p], E5, by rw [List.append_assoc]; exact c1, c2, fr_t b3 (fr_t a3 c3), by rw [b4, a4]; exact c4, fun x hx => ?_, ?_, ?_⟩
      · rcases List.mem_append.mp hx with w | w
        · have := c5 x w; omega
        · rw [List.mem_singleton.mp w]; omega
      · rw [relL_app (fun x hx => by have := c5 x hx; omega), relL_lv (by decide : 3 ≤ 4) c5, c6]
        show (if sgN (byN n tx p) < 3 then _ else relL nm 3 (stepL nm (byN n tx p) 0 ((nxt (p + 1, none, o)).1 :: v :: E)) []) = _
        rw [if_neg (by omega), step_jo (by omega)]
        rfl
      · show nxK 3 (byN n tx (nxt (p + 1, none, o)).2.1) (V5 ++ [byN n tx p])
        rcases c7 with h | ⟨h1, _⟩
        · by_cases q : sgN (byN n tx (nxt (p + 1, none, o)).2.1) = 3
          · exact Or.inr ⟨by decide, q, V5, byN n tx p, [], rfl, c5, hc⟩
          · exact Or.inl (by omega)
        · omega
    · have e : cmF n tx nxt (a, none, o) = nxt (a, none, o) := if_neg (fun q => hc q.2)
      rw [e]
      refine ⟨k1, fun _ => ⟨s3, V, E3, b1, b2, b3, b4, fun x hx => by have := b5 x hx; omega, by rw [relL_lv (by decide : 3 ≤ 4) b5]; exact b6, Or.inl (by omega)⟩⟩
/-- an operand -/
def OnK (n : Nat) (tx : Nat → Nat) (nm : Nat → Int32) (o : Nat) (nxt : pS → Int32 × pS) : Prop := ∀ (s : rT) (a : Nat) (E : List Int32) (W : List Nat), a ≤ n → Ab nm s E W o → s.2 6 = 1 →
  (∀ b, (nxt (a, none, o)).2.2.1 = some b → (Rd n tx a s).1 = some b) ∧ ((nxt (a, none, o)).2.2.1 = none → ∃ s' : rT, Ab nm s' (eoLL nm ((nxt (a, none, o)).1 :: E) W o).1 (eoLL nm ((nxt (a, none, o)).1 :: E) W o).2.1 (eoLL nm ((nxt (a, none, o)).1 :: E) W o).2.2 ∧ s'.2 6 = 0 ∧ fr s s' ∧ Rd n tx a s = Rd n tx (nxt (a, none, o)).2.1 s')
theorem eoLL_top {l : Nat} (h : top l W) : eoLL nm E W o = (E, W, o) := by
  cases W with
  | nil => rfl
  | cons c W => exact if_neg (fun q => q.elim h.2.1 h.2.2)
theorem K_on6 {nxt : pS → Int32 × pS} (h : OnK n tx nm o nxt) : LvK n tx nm 6 o nxt := by
  intro s a E W ha hA hw ht
  obtain ⟨k1, k2⟩ := h s a E W ha hA hw
  refine ⟨k1, fun hn => ?_⟩
  obtain ⟨s', a1, a2, a3, a4⟩ := k2 hn
  rw [eoLL_top ht] at a1
  exact ⟨s', [], _, a1, a2, a3, a4, (fun c hc => by cases hc), rfl, Or.inl (by have := sgN_le (byN n tx (nxt (a, none, o)).2.1); omega)⟩
theorem K_ex {nxt : pS → Int32 × pS} (hg : gP n nxt o) (ho : o ≤ 6) (h : OnK n tx nm o nxt) : LvK n tx nm 1 o (exF n tx nxt) := by
  have h5 := K_lvF hg ho (by decide) (by decide) (K_on6 h) (l := 5)
  have g5 := g_lvF (tx := tx) hg (show 1 ≤ 5 by decide)
  have h4 := K_lvF g5 ho (by decide) (by decide) h5 (l := 4)
  have g4 := g_lvF (tx := tx) g5 (show 1 ≤ 4 by decide)
  have h3 := K_cmF g4 ho h4
  have g3 := g_cmF (tx := tx) g4
  have h2 := K_lvF g3 ho (by decide) (by decide) h3 (l := 2)
  have g2 := g_lvF (tx := tx) g3 (show 1 ≤ 2 by decide)
  exact K_lvF g2 ho (by decide) (by decide) h2 (l := 1)
theorem nuL_ge : ∀ {m j x : Nat}, j ≤ (nuL n tx a m j x).1
  | 0, _, _ => Nat.le_refl _
  | m + 1, j, x => by
    unfold nuL
    split
    · split
      · exact Nat.le_trans (Nat.le_succ j) nuL_ge
      · exact Nat.le_refl _
    · exact Nat.le_refl _
theorem nuL_4 (h : a < n) (hd : dgB (tx a) = true) : 0 < (nuL n tx a 4 0 0).1 := by
  show 0 < (if a + 0 < n then (if dgB (tx (a + 0)) = true then nuL n tx a 3 (0 + 1) (0 * 10 + tx (a + 0) - 48) else (0, 0)) else (0, 0)).1
  rw [Nat.add_zero, if_pos h, if_pos hd]
  exact nuL_ge (j := 1)
theorem nuL_40 (h : ¬ (a < n ∧ dgB (tx a) = true)) : (nuL n tx a 4 0 0).1 = 0 := by
  show (if a + 0 < n then (if dgB (tx (a + 0)) = true then nuL n tx a 3 (0 + 1) (0 * 10 + tx (a + 0) - 48) else (0, 0)) else (0, 0)).1 = 0
  rw [Nat.add_zero]
  by_cases q : a < n
  · rw [if_pos q, if_neg (fun w => h ⟨q, w⟩)]
  · rw [if_neg q]
theorem nm_dg {c : Nat} (h : nmN c < 6) : dgB c = false := by
  unfold dgB
  by_cases q : c ≤ 57
  · exfalso
    unfold nmN at h
    rw [if_neg (by omega), if_neg (by omega), if_neg (by omega), if_neg (by omega), if_neg (by omega), if_neg (by omega)] at h
    omega
  · rw [decide_eq_false q, Bool.and_false]
theorem step_1 {v : Nat} : stepL nm 1 v E = nI v :: E := if_pos rfl
theorem step_2 {v : Nat} (h : v < 6) : stepL nm 2 v E = nm v :: E := by
  unfold stepL
  rw [if_neg (by decide), if_pos ⟨rfl, h⟩]
/-- a place where an operand is asked and none comes -/
theorem op_st (hA : Ab nm s E W o) (hw : s.2 6 = 1) (ha : a < n) (h1 : dgB (tx a) = false) (h2 : ¬ nmN (tx a) < 6) (h3 : (tx a = 40 ∨ tx a = 33 ∨ tx a = 45) → o = 6) : (Rd n tx a s).1 = some a := by
  refine Rd_st ha ?_
  have e : opP n tx a s = (s, 0) := by
    unfold opP
    rw [if_neg (by rw [h1]; decide), if_neg h2, if_neg (fun q => by have := h3 q.1; have := hA.2.2.2; omega)]
  unfold stp
  rw [if_neg (by rw [hw]; decide), e]
  exact Nat.zero_lt_one
theorem op_pre {c : Nat} (hA : Ab nm s E W o) (hw : s.2 6 = 1) (ha : a < n) (hc : tx a = c) (h : c = 40 ∨ c = 33 ∨ c = 45) (ho : o < 6) : ∃ s2, Ab nm s2 E ((if c = 45 then 3 else c) :: W) (o + 1) ∧ s2.2 6 = 1 ∧ fr s s2 ∧ Rd n tx a s = Rd n tx (a + 1) s2 := by
  have e : opP n tx a s = (psP (stK s 5 (s.2 5 + 1)) (if c = 45 then 3 else c), 1) := by
    unfold opP
    rw [hc, if_neg (by rcases h with rfl | rfl | rfl <;> decide), if_neg (by rcases h with rfl | rfl | rfl <;> decide), if_pos ⟨h, by rw [hA.2.2.2]; exact ho⟩]
  have e2 : stp n tx a s = (psP (stK s 5 (s.2 5 + 1)) (if c = 45 then 3 else c), 1) := by
    unfold stp
    rw [if_neg (by rw [hw]; decide), e]
  obtain ⟨q1, q2, q3⟩ := st5_Ab hA (x := s.2 5 + 1)
  obtain ⟨p1, p2, p3⟩ := ps_Ab q1 (c := if c = 45 then 3 else c)
  rw [hA.2.2.2] at p1 p2 p3 q2 q3 e2
  refine ⟨_, p1, p3.trans (q3.trans hw), fr_t q2 p2, ?_⟩
  rw [Rd_go ha (by rw [e2]; exact (show ¬ 1 < 1 by decide)), e2]
/-- behind an expression in brackets -/
theorem cl_go {p : Nat} {v : Int32} (hA : Ab nm s E' (W2 ++ 40 :: W) (o + 1)) (hw : s.2 6 = 0) (hp : p < n) (hc : tx p = 41) (hW : ∀ c ∈ W2, 1 ≤ sgN c) (hr : relL nm 1 E' W2 = (v :: E, [])) : ∃ s2, Ab nm s2 (eoLL nm (v :: E) W o).1 (eoLL nm (v :: E) W o).2.1 (eoLL nm (v :: E) W o).2.2 ∧ s2.2 6 = 0 ∧ fr s s2 ∧ Rd n tx p s = Rd n tx (p + 1) s2 := by
  obtain ⟨r1, r2, r3⟩ := rl_Ab (wk := 1) (m := s.2 4) hA (by rw [Ab_len hA]; exact Nat.le_refl _)
  have e : relL nm 1 E' (W2 ++ 40 :: W) = (v :: E, 40 :: W) := by
    rw [relL_app hW, hr]
    exact if_pos (by decide)
  rw [e] at r1
  obtain ⟨p1, _, _⟩ := pop_Ab r1
  obtain ⟨q1, q2, q3⟩ := st5_Ab p1 (x := s.2 5 - 1)
  have h5 := hA.2.2.2
  rw [show s.2 5 - 1 = o by omega] at q1 q2 q3
  obtain ⟨t1, t2, t3⟩ := eoP_Ab q1
  have e2 : stp n tx p s = (eoP (stK (popP (rlP 1 (s.2 4) s)) 5 o), 1) := by
    unfold stp siP
    rw [if_pos hw, hc, if_neg (by decide), if_pos ⟨rfl, by omega⟩, show s.2 5 - 1 = o by omega]
  refine ⟨_, t1, t3, fr_t r2 (fr_t (s' := popP (rlP 1 (s.2 4) s)) ⟨rfl, rfl, rfl, rfl, rfl, rfl, rfl, Nat.le_refl _, fun _ _ => ⟨rfl, rfl⟩⟩ (fr_t q2 t2)), ?_⟩
  rw [Rd_go hp (by rw [e2]; exact (show ¬ 1 < 1 by decide)), e2]
theorem cl_st {p : Nat} (hA : Ab nm s E' (W2 ++ 40 :: W) (o + 1)) (hw : s.2 6 = 0) (hp : p ≤ n) (hc : byN n tx p ≠ 41) (hn : nxK 1 (byN n tx p) W2) : (Rd n tx p s).1 = some p := by
  have h5 := hA.2.2.2
  by_cases hpn : p < n
  · have eb : byN n tx p = tx p := if_pos hpn
    rw [eb] at hc hn
    rcases hn with h | ⟨h1, h2, h3⟩
    · refine Rd_st hpn ?_
      unfold stp siP
      rw [if_pos hw, if_neg (by omega), if_neg (fun q => hc q.1), if_neg (fun q => by omega), if_neg (fun q => by omega)]
      exact Nat.zero_lt_one
    · exact sign_st hpn h2 hA hw h3
  · rw [Rd_end hpn, if_neg (fun q => by omega), show p = n by omega]
end LW3
