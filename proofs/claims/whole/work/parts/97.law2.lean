section LW2
variable {n : Nat} {tx : Nat → Nat} {nm : Nat → Int32} {s s' s'' : rT} {E E' : List Int32} {W W' W2 : List Nat} {o a : Nat}
/-- what a level may be read upon -/
def top (l : Nat) : List Nat → Prop
  | [] => True
  | c :: _ => sgN c < l ∧ c ≠ 33 ∧ c ≠ 3
theorem top_le {l k : Nat} (h : top l W) (hk : l ≤ k) : top k W := by
  cases W with
  | nil => trivial
  | cons c W => exact ⟨Nat.lt_of_lt_of_le h.1 hk, h.2⟩
theorem top_sg {c l : Nat} (h0 : 0 < sgN c) (h : sgN c < l) : top l (c :: W) := ⟨h, fun q => sg_pre h0 (Or.inr (Or.inl q)), fun q => sg_pre h0 (Or.inr (Or.inr q))⟩
theorem relL_top {wk : Nat} (h : top wk W) : relL nm wk E W = (E, W) := by
  cases W with
  | nil => rfl
  | cons c W => exact if_pos h.1
theorem relL_app {wk : Nat} : ∀ {W2 : List Nat} {E : List Int32}, (∀ c ∈ W2, wk ≤ sgN c) → relL nm wk E (W2 ++ W) = relL nm wk (relL nm wk E W2).1 W
  | [], _, _ => rfl
  | c :: W2, E, h => by
    have hc := h c (List.mem_cons_self ..)
    show (if sgN c < wk then _ else relL nm wk (stepL nm c 0 E) (W2 ++ W)) = relL nm wk (if sgN c < wk then (E, c :: W2) else relL nm wk (stepL nm c 0 E) W2).1 W
    rw [if_neg (by omega), if_neg (by omega)]
    exact relL_app fun x hx => h x (List.mem_cons_of_mem _ hx)
theorem relL_lv {l wk : Nat} (hw : wk ≤ l) : ∀ {W2 : List Nat} {E : List Int32}, (∀ c ∈ W2, l ≤ sgN c) → relL nm wk E W2 = relL nm l E W2
  | [], _, _ => rfl
  | c :: W2, E, h => by
    have hc := h c (List.mem_cons_self ..)
    show (if sgN c < wk then _ else relL nm wk (stepL nm c 0 E) W2) = if sgN c < l then _ else relL nm l (stepL nm c 0 E) W2
    rw [if_neg (by omega), if_neg (by omega)]
    exact relL_lv hw fun x hx => h x (List.mem_cons_of_mem _ hx)
theorem step_jo {c : Nat} (h0 : 0 < sgN c) {x y : Int32} {l : List Int32} : stepL nm c 0 (x :: y :: l) = joinI c y x :: l := by
  have hp := sg_pre h0
  exact stepL_j (fun q => by rw [q] at h0; exact absurd h0 (by decide)) (fun q => by rw [q.1] at h0; exact absurd h0 (by decide)) (fun q => hp (Or.inr (Or.inr q))) (fun q => hp (Or.inr (Or.inl q)))
/-- what the next sign may be behind a level -/
def nxK (l c : Nat) (W2 : List Nat) : Prop := sgN c < l ∨ (l ≤ 3 ∧ sgN c = 3 ∧ ∃ (Wa : List Nat) (c' : Nat) (Wb : List Nat), W2 = Wa ++ c' :: Wb ∧ (∀ x ∈ Wa, 4 ≤ sgN x) ∧ sgN c' = 3)
theorem nxK_app {l c : Nat} {V : List Nat} (h : nxK l c W2) : nxK l c (W2 ++ V) := by
  rcases h with h | ⟨h1, h2, Wa, c', Wb, rfl, h3, h4⟩
  · exact Or.inl h
  · exact Or.inr ⟨h1, h2, Wa, c', Wb ++ V, by rw [List.append_assoc]; rfl, h3, h4⟩
/-- the behaviour of a part of the text that has been read: the machine stands behind it -/
def outK (n : Nat) (tx : Nat → Nat) (nm : Nat → Int32) (l o : Nat) (s : rT) (a : Nat) (E : List Int32) (W : List Nat) (r : Int32 × pS) : Prop :=
  (∀ b, r.2.2.1 = some b → (Rd n tx a s).1 = some b) ∧ (r.2.2.1 = none → ∃ (s' : rT) (W2 : List Nat) (E' : List Int32), Ab nm s' E' (W2 ++ W) o ∧ s'.2 6 = 0 ∧ fr s s' ∧ Rd n tx a s = Rd n tx r.2.1 s' ∧ (∀ c ∈ W2, l ≤ sgN c) ∧ relL nm l E' W2 = (r.1 :: E, []) ∧ nxK l (byN n tx r.2.1) W2)
def LvK (n : Nat) (tx : Nat → Nat) (nm : Nat → Int32) (l o : Nat) (nxt : pS → Int32 × pS) : Prop := ∀ (s : rT) (a : Nat) (E : List Int32) (W : List Nat), a ≤ n → Ab nm s E W o → s.2 6 = 1 → top l W → outK n tx nm l o s a E W (nxt (a, none, o))
/-- a sign that joins -/
theorem sign_go {p c l : Nat} (hp : p < n) (hc : tx p = c) (hl : sgN c = l) (hl0 : 0 < l) {v : Int32} (h : Ab nm s E' (W2 ++ W) o) (hw : s.2 6 = 0) (hW : ∀ x ∈ W2, (if l = 3 then 4 else l) ≤ sgN x) (hr : relL nm (if l = 3 then 4 else l) E' W2 = (v :: E, [])) (ht : top l W) :
    ∃ s2, Ab nm s2 (v :: E) (c :: W) o ∧ s2.2 6 = 1 ∧ fr s s2 ∧ Rd n tx p s = Rd n tx (p + 1) s2 := by
  have hle : l ≤ (if l = 3 then 4 else l) := by split <;> omega
  have hrel : relL nm (if l = 3 then 4 else l) E' (W2 ++ W) = (v :: E, W) := by rw [relL_app hW, hr, relL_top (top_le ht hle)]
  obtain ⟨r1, r2, r3⟩ := rl_Ab (wk := if l = 3 then 4 else l) (m := s.2 4) h (by rw [Ab_len h]; exact Nat.le_refl _)
  rw [hrel] at r1
  have hjo : joP s c = (stK (psP (rlP (if l = 3 then 4 else l) (s.2 4) s) c) 6 1, true) := by
    unfold joP
    rw [hl]
    refine if_neg ?_
    rintro ⟨e3, hne, htop⟩
    cases W with
    | nil => exact hne (Ab_len r1)
    | cons x W =>
      have q := (pop_Ab r1).2.1
      rw [q] at htop
      have := ht.1
      omega
  have hst : stp n tx p s = (stK (psP (rlP (if l = 3 then 4 else l) (s.2 4) s) c) 6 1, 1) := by
    unfold stp siP
    rw [if_pos hw, hc, if_pos (by omega), hjo]
    rfl
  obtain ⟨p1, p2, p3⟩ := ps_Ab r1 (c := c)
  obtain ⟨q1, q2, q3⟩ := st6_Ab p1 (x := 1)
  refine ⟨_, q1, q3, fr_t r2 (fr_t p2 q2), ?_⟩
  rw [Rd_go hp (by rw [hst]; exact (show ¬ 1 < 1 by decide)), hst]
/-- a comparison behind a comparison is a fault in both -/
theorem sign_st {p : Nat} (hp : p < n) (hl : sgN (tx p) = 3) (h : Ab nm s E' (W2 ++ W) o) (hw : s.2 6 = 0) (h2 : ∃ (Wa : List Nat) (c' : Nat) (Wb : List Nat), W2 = Wa ++ c' :: Wb ∧ (∀ x ∈ Wa, 4 ≤ sgN x) ∧ sgN c' = 3) : (Rd n tx p s).1 = some p := by
  obtain ⟨Wa, c', Wb, rfl, h3, h4⟩ := h2
  obtain ⟨r1, _, _⟩ := rl_Ab (wk := 4) (m := s.2 4) h (by rw [Ab_len h]; exact Nat.le_refl _)
  rw [List.append_assoc, relL_app h3] at r1
  have e : relL nm 4 (relL nm 4 E' Wa).1 (c' :: Wb ++ W) = ((relL nm 4 E' Wa).1, c' :: (Wb ++ W)) := if_pos (by omega)
  rw [e] at r1
  obtain ⟨_, q2, q3⟩ := pop_Ab r1
  have hjo : (joP s (tx p)).2 = false := by
    unfold joP
    rw [if_pos hl, if_pos ⟨hl, q3, by rw [q2]; exact h4⟩]
  refine Rd_st hp ?_
  unfold stp siP
  rw [if_pos hw, if_pos (by omega)]
  show (if (joP s (tx p)).2 = true then 1 else 0) < 1
  rw [hjo]
  decide
theorem byN_eq {p : Nat} (h : byN n tx p ≠ 0) : p < n ∧ tx p = byN n tx p := by
  have hp := byN_in h
  exact ⟨hp, (if_pos hp).symm⟩
theorem sg_ne0 {c : Nat} (h : 0 < sgN c) : c ≠ 0 := fun q => by rw [q] at h; exact absurd h (by decide)
/-- a level's loop -/
theorem K_lvL {l : Nat} {nxt : pS → Int32 × pS} (hg : gP n nxt o) (ho : o ≤ 6) (hl0 : 0 < l) (hl3 : l ≠ 3) (hK : LvK n tx nm (l + 1) o nxt) (ht : top l W) : ∀ (m : Nat) (v : Int32) (p : Nat) (s : rT) (W2 : List Nat) (E' : List Int32), p ≤ n → n - p < m → Ab nm s E' (W2 ++ W) o → s.2 6 = 0 → (∀ c ∈ W2, l ≤ sgN c) → relL nm l E' W2 = (v :: E, []) → nxK (l + 1) (byN n tx p) W2 → outK n tx nm l o s p E W (lvL n tx l nxt m v (p, none, o)) := by
  intro m
  induction m with
  | zero => intro v p s W2 E' _ h; omega
  | succ m ih =>
    intro v p s W2 E' hp hm hA hw hW hr hn
    by_cases hc : sgN (byN n tx p) = l
    · obtain ⟨hpn, etx⟩ := byN_eq (n := n) (tx := tx) (p := p) (sg_ne0 (by omega))
      obtain ⟨s2, a1, a2, a3, a4⟩ := sign_go (n := n) (tx := tx) hpn etx hc hl0 hA hw (by rw [if_neg hl3]; exact hW) (by rw [if_neg hl3]; exact hr) ht
      rw [lvL_t (s := (p, none, o)) rfl hc]
      have hpok : pok n (p + 1, (none : Option Nat), o) := ⟨hpn, (fun b hb => by cases hb), ho⟩
      obtain ⟨g1, g2, g3, g4⟩ := hg (p + 1, none, o) hpok (fun _ => rfl)
      obtain ⟨k1, k2⟩ := hK s2 (p + 1) (v :: E) (byN n tx p :: W) hpn a1 a2 (top_sg (by omega) (by omega))
      show outK n tx nm l o s p E W (lvL n tx l nxt m (joinI (byN n tx p) v (nxt (p + 1, none, o)).1) (nxt (p + 1, none, o)).2)
      cases hf : (nxt (p + 1, none, o)).2.2.1 with
      | some b =>
        have e : lvL n tx l nxt m (joinI (byN n tx p) v (nxt (p + 1, none, o)).1) (nxt (p + 1, none, o)).2 = (joinI (byN n tx p) v (nxt (p + 1, none, o)).1, (nxt (p + 1, none, o)).2) := by
          cases m with
          | zero => rfl
          | succ m => exact lvL_f (fun q => by rw [hf] at q; cases q.1)
        rw [e]
        refine ⟨fun b' hb' => ?_, fun q => ?_⟩
        · have hb' : (nxt (p + 1, none, o)).2.2.1 = some b' := hb'
          rw [a4]; exact k1 b' hb'
        · have q : (nxt (p + 1, none, o)).2.2.1 = none := q
          rw [hf] at q; cases q
      | none =>
        obtain ⟨s3, V, E3, b1, b2, b3, b4, b5, b6, b7⟩ := k2 hf
        have hpl : (nxt (p + 1, none, o)).2 = ((nxt (p + 1, none, o)).2.1, none, o) := Prod.ext rfl (Prod.ext hf (g3 hf).1)
        have g2 : p + 1 ≤ (nxt (p + 1, none, o)).2.1 := g2
        have q := ih (joinI (byN n tx p) v (nxt (p + 1, none, o)).1) (nxt (p + 1, none, o)).2.1 s3 (V ++ [byN n tx p]) E3 g1.1 (by omega) (by rw [List.append_assoc]; exact b1) b2
          (fun x hx => by
            rcases List.mem_append.mp hx with w | w
            · have := b5 x w; omega
            · rw [List.mem_singleton.mp w]; omega)
          (by
            rw [relL_app (fun x hx => by have := b5 x hx; omega), relL_lv (Nat.le_succ l) b5, b6]
            show (if sgN (byN n tx p) < l then _ else relL nm l (stepL nm (byN n tx p) 0 ((nxt (p + 1, none, o)).1 :: v :: E)) []) = _
            rw [if_neg (by omega), step_jo (by omega)]
            rfl)
          (nxK_app b7)
        rw [hpl]
        refine ⟨fun b hb => ?_, fun hn2 => ?_⟩
        · rw [a4, b4]; exact q.1 b hb
        · obtain ⟨s4, V2, E4, c1, c2, c3, c4, c5⟩ := q.2 hn2
          exact ⟨s4, V2, E4, c1, c2, fr_t a3 (fr_t b3 c3), by rw [a4, b4]; exact c4, c5⟩
    · rw [lvL_f (s := (p, none, o)) (fun q => hc q.2)]
      refine ⟨(fun b hb => by cases hb), fun _ => ⟨s, W2, E', hA, hw, fr_r s, rfl, hW, hr, ?_⟩⟩
      show nxK l (byN n tx p) W2
      rcases hn with h | ⟨h1, h2⟩
      · exact Or.inl (by omega)
      · exact Or.inr ⟨by omega, h2⟩
theorem K_lvF {l : Nat} {nxt : pS → Int32 × pS} (hg : gP n nxt o) (ho : o ≤ 6) (hl0 : 0 < l) (hl3 : l ≠ 3) (hK : LvK n tx nm (l + 1) o nxt) : LvK n tx nm l o (lvF n tx l nxt) := by
  intro s a E W ha hA hw ht
  have hpok : pok n (a, (none : Option Nat), o) := ⟨ha, (fun b hb => by cases hb), ho⟩
  obtain ⟨g1, g2, g3, g4⟩ := hg (a, none, o) hpok (fun _ => rfl)
  obtain ⟨k1, k2⟩ := hK s a E W ha hA hw (top_le ht (Nat.le_succ l))
  show outK n tx nm l o s a E W (lvL n tx l nxt (n + 1) (nxt (a, none, o)).1 (nxt (a, none, o)).2)
  cases hf : (nxt (a, none, o)).2.2.1 with
  | some b =>
    rw [lvL_f (fun q => by rw [hf] at q; cases q.1)]
    refine ⟨fun b' hb' => k1 b' hb', fun q => ?_⟩
    have q : (nxt (a, none, o)).2.2.1 = none := q
    rw [hf] at q; cases q
  | none =>
    obtain ⟨s3, V, E3, b1, b2, b3, b4, b5, b6, b7⟩ := k2 hf
    have hpl : (nxt (a, none, o)).2 = ((nxt (a, none, o)).2.1, none, o) := Prod.ext rfl (Prod.ext hf (g3 hf).1)
    have q := K_lvL (E := E) hg ho hl0 hl3 hK ht (n + 1) (nxt (a, none, o)).1 (nxt (a, none, o)).2.1 s3 V E3 g1.1 (by omega) b1 b2 (fun x hx => by have := b5 x hx; omega) (by rw [relL_lv (Nat.le_succ l) b5]; exact b6) b7
    rw [hpl]
    refine ⟨fun b hb => ?_, fun hn2 => ?_⟩
    · rw [b4]; exact q.1 b hb
    · obtain ⟨s4, V2, E4, c1, c2, c3, c4, c5⟩ := q.2 hn2
      exact ⟨s4, V2, E4, c1, c2, fr_t b3 c3, by rw [b4]; exact c4, c5⟩
end LW2
