section LW4
variable {n : Nat} {tx : Nat → Nat} {nm : Nat → Int32} {s s' s'' : rT} {E E' : List Int32} {W W' W2 : List Nat} {o a : Nat}
theorem onF_6 {D : Nat} (hc : byN n tx a = 33 ∨ byN n tx a = 45 ∨ byN n tx a = 40) (h6 : o = 6) : onF n tx nm (D + 1) (a, none, o) = (0, wrP (a, none, o)) := by
  refine (if_neg (fun q => q rfl)).trans ((if_pos hc).trans (if_pos h6))
theorem onF_br {D : Nat} (hc : byN n tx a = 40) (h6 : o ≠ 6) : onF n tx nm (D + 1) (a, none, o) = if tkB n tx 41 (exF n tx (onF n tx nm D) (a + 1, none, o + 1)).2 = true then ((exF n tx (onF n tx nm D) (a + 1, none, o + 1)).1, ((exF n tx (onF n tx nm D) (a + 1, none, o + 1)).2.1 + 1, (exF n tx (onF n tx nm D) (a + 1, none, o + 1)).2.2.1, (exF n tx (onF n tx nm D) (a + 1, none, o + 1)).2.2.2 - 1)) else (0, wrP (exF n tx (onF n tx nm D) (a + 1, none, o + 1)).2) := by
  refine (if_neg (fun q => q rfl)).trans ((if_pos (Or.inr (Or.inr hc))).trans ((if_neg h6).trans (if_pos hc)))
theorem onF_pre {D : Nat} (hc : byN n tx a = 33 ∨ byN n tx a = 45) (h6 : o ≠ 6) : onF n tx nm (D + 1) (a, none, o) = ((if byN n tx a = 45 then -(onF n tx nm D (a + 1, none, o + 1)).1 else if (onF n tx nm D (a + 1, none, o + 1)).1 = 0 then nI 1 else nI 0), ((onF n tx nm D (a + 1, none, o + 1)).2.1, (onF n tx nm D (a + 1, none, o + 1)).2.2.1, (onF n tx nm D (a + 1, none, o + 1)).2.2.2 - 1)) := by
  refine (if_neg (fun q => q rfl)).trans ((if_pos (hc.elim Or.inl fun w => Or.inr (Or.inl w))).trans ((if_neg h6).trans (if_neg (fun q => hc.elim (fun w => absurd (w.symm.trans q) (by decide)) (fun w => absurd (w.symm.trans q) (by decide))))))
theorem onF_nm {D : Nat} (hc : ¬ (byN n tx a = 33 ∨ byN n tx a = 45 ∨ byN n tx a = 40)) (h : nmN (byN n tx a) < 6) : onF n tx nm (D + 1) (a, none, o) = (nm (nmN (byN n tx a)), (a + 1, none, o)) := by
  refine (if_neg (fun q => q rfl)).trans ((if_neg hc).trans (if_pos h))
theorem onF_nu {D : Nat} (hc : ¬ (byN n tx a = 33 ∨ byN n tx a = 45 ∨ byN n tx a = 40)) (h : ¬ nmN (byN n tx a) < 6) : onF n tx nm (D + 1) (a, none, o) = if (nuL n tx a 4 0 0).1 = 0 then (0, wrP (a, none, o)) else (nI (nuL n tx a 4 0 0).2, (a + (nuL n tx a 4 0 0).1, none, o)) := by
  refine (if_neg (fun q => q rfl)).trans ((if_neg hc).trans (if_neg h))
theorem tk_41 {p : pS} : tkB n tx 41 p = true ↔ p.2.1 = none ∧ byN n tx p.1 = 41 := by
  unfold tkB
  rw [Bool.and_eq_true, Option.isNone_iff_eq_none, decide_eq_true_eq]
theorem K_on : ∀ (D o : Nat), 1 ≤ D → o + D = 7 → OnK n tx nm o (onF n tx nm D)
  | 0, _, h, _ => by omega
  | D + 1, o, _, hD => by
    intro s a E W ha hA hw
    by_cases hc : byN n tx a = 33 ∨ byN n tx a = 45 ∨ byN n tx a = 40
    · obtain ⟨han, etx⟩ := byN_eq (n := n) (tx := tx) (p := a) (by omega)
      by_cases h6 : o = 6
      · rw [onF_6 hc h6]
        refine ⟨fun b hb => ?_, fun q => by cases q⟩
        have hb : some a = some b := hb
        rw [← hb]
        exact op_st hA hw han (by rw [etx]; rcases hc with w | w | w <;> rw [w] <;> decide) (by rw [etx]; rcases hc with w | w | w <;> rw [w] <;> decide) (fun _ => h6)
      · obtain ⟨s2, a1, a2, a3, a4⟩ := op_pre (n := n) (tx := tx) hA hw han etx (by omega) (by omega)
        have ih := K_on D (o + 1) (by omega) (by omega)
        have hg := g_onF (n := n) (tx := tx) (nm := nm) D (o + 1) (by omega)
        have hpok : pok n (a + 1, (none : Option Nat), o + 1) := ⟨han, (fun b hb => by cases hb), by show o + 1 ≤ 6; omega⟩
        by_cases hb : byN n tx a = 40
        · rw [onF_br hb h6]
          rw [hb, if_neg (by decide)] at a1
          obtain ⟨g1, g2, g3, g4⟩ := g_exF hg (a + 1, none, o + 1) hpok (fun _ => rfl)
          obtain ⟨k1, k2⟩ := K_ex hg (by omega) ih s2 (a + 1) E (40 :: W) han a1 a2 (by exact ⟨by decide, by decide, by decide⟩)
          generalize exF n tx (onF n tx nm D) (a + 1, none, o + 1) = r at *
          cases hf : r.2.2.1 with
          | some b =>
            rw [if_neg (fun q => by have := (tk_41.mp q).1; rw [hf] at this; cases this)]
            refine ⟨fun b' hb' => ?_, fun q => by cases q⟩
            have hb' : some (r.2.2.1.getD r.2.1) = some b' := hb'
            rw [hf] at hb'
            rw [a4, ← hb']
            exact k1 b hf
          | none =>
            obtain ⟨s3, V, E3, b1, b2, b3, b4, b5, b6, b7⟩ := k2 hf
            by_cases h41 : byN n tx r.2.1 = 41
            · rw [if_pos (tk_41.mpr ⟨hf, h41⟩)]
              obtain ⟨hpn, etx2⟩ := byN_eq (n := n) (tx := tx) (p := r.2.1) (by omega)
              obtain ⟨s4, c1, c2, c3, c4⟩ := cl_go (n := n) (tx := tx) b1 b2 hpn (etx2.trans h41) b5 b6
              exact ⟨(fun b' hb' => by cases hb'), fun _ => ⟨s4, c1, c2, fr_t a3 (fr_t b3 c3), by rw [a4, b4]; exact c4⟩⟩
            · rw [if_neg (fun q => h41 (tk_41.mp q).2)]
              refine ⟨fun b' hb' => ?_, fun q => by cases q⟩
              have hb' : some (r.2.2.1.getD r.2.1) = some b' := hb'
              rw [hf] at hb'
              rw [a4, b4, ← hb']
              exact cl_st b1 b2 g1.1 h41 b7
        · have hc2 : byN n tx a = 33 ∨ byN n tx a = 45 := by omega
          rw [onF_pre hc2 h6]
          obtain ⟨k1, k2⟩ := ih s2 (a + 1) E ((if byN n tx a = 45 then 3 else byN n tx a) :: W) han a1 a2
          refine ⟨fun b' hb' => by rw [a4]; exact k1 b' hb', fun hn => ?_⟩
          obtain ⟨s3, b1, b2, b3, b4⟩ := k2 hn
          generalize onF n tx nm D (a + 1, none, o + 1) = r at *
          refine ⟨s3, ?_, b2, fr_t a3 b3, by rw [a4]; exact b4⟩
          have e : eoLL nm (r.1 :: E) ((if byN n tx a = 45 then 3 else byN n tx a) :: W) (o + 1) = eoLL nm ((if byN n tx a = 45 then -r.1 else if r.1 = 0 then nI 1 else nI 0) :: E) W o := by
            rcases hc2 with w | w
            · rw [w]; rfl
            · rw [w]; rfl
          rw [← e]
          exact b1
    · by_cases hm : nmN (byN n tx a) < 6
      · obtain ⟨han, etx⟩ := byN_eq (n := n) (tx := tx) (p := a) (fun q => by rw [q] at hm; exact absurd hm (by decide))
        rw [onF_nm hc hm]
        refine ⟨(fun b hb => by cases hb), fun _ => ?_⟩
        rw [← etx] at hm ⊢
        obtain ⟨q1, q2, q3⟩ := add_Ab hA (c := 2) (v := nmN (tx a))
        rw [step_2 hm] at q1
        obtain ⟨t1, t2, t3⟩ := eoP_Ab q1
        have e2 : stp n tx a s = (eoP (addP s 2 (nmN (tx a))), 1) := by
          unfold stp opP
          rw [if_neg (by rw [hw]; decide), if_neg (by rw [nm_dg hm]; decide), if_pos hm]
        refine ⟨_, t1, t3, fr_t q2 t2, ?_⟩
        rw [Rd_go han (by rw [e2]; exact (show ¬ 1 < 1 by decide)), e2]
      · rw [onF_nu hc hm]
        by_cases hd : a < n ∧ dgB (tx a) = true
        · have h4 := nuL_4 hd.1 hd.2
          rw [if_neg (by omega)]
          refine ⟨(fun b hb => by cases hb), fun _ => ?_⟩
          obtain ⟨q1, q2, q3⟩ := add_Ab hA (c := 1) (v := (nuL n tx a 4 0 0).2)
          rw [step_1] at q1
          obtain ⟨t1, t2, t3⟩ := eoP_Ab q1
          have e2 : stp n tx a s = (eoP (addP s 1 (nuL n tx a 4 0 0).2), (nuL n tx a 4 0 0).1) := by
            unfold stp opP
            rw [if_neg (by rw [hw]; decide), if_pos hd.2]
          refine ⟨_, t1, t3, fr_t q2 t2, ?_⟩
          rw [Rd_go hd.1 (by rw [e2]; show ¬ (nuL n tx a 4 0 0).1 < 1; omega), e2]
        · rw [if_pos (nuL_40 hd)]
          refine ⟨fun b hb => ?_, fun q => by cases q⟩
          have hb : some a = some b := hb
          rw [← hb]
          by_cases han : a < n
          · have eb : byN n tx a = tx a := if_pos han
            rw [eb] at hc hm
            exact op_st hA hw han (by
              cases hdd : dgB (tx a) with
              | false => rfl
              | true => exact absurd ⟨han, hdd⟩ hd) hm (fun q => absurd (by omega) hc)
          · rw [Rd_end han, if_neg (fun q => by rw [hw] at q; exact absurd q.1 (by decide)), show a = n by omega]
theorem K_exT : LvK n tx nm 1 0 (exT n tx nm) := K_ex (g_onF (n := n) (tx := tx) (nm := nm) 7 0 rfl) (by decide) (K_on 7 0 (by decide) rfl)
end LW4
