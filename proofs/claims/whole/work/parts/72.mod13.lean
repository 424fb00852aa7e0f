/-! the reference's laws: place, fault, how many stand open -/
abbrev pS : Type := Nat × Option Nat × Nat
def pX (X : Nat → Nat → Int32) (s : pS) : Nat → Nat → Int32 := va_up X 76 (upd (upd (upd (X 76) 17 (nI s.1)) 19 (fltI s.2.1)) 20 (nI s.2.2))
section PX
variable {X A : Nat → Nat → Int32} {s : pS}
theorem pX_17 : pX X s 76 17 = nI s.1 := by unfold pX; rw [vu_s, ud_n _ _ _ (by decide), ud_n _ _ _ (by decide), ud_s]
theorem pX_19 : pX X s 76 19 = fltI s.2.1 := by unfold pX; rw [vu_s, ud_n _ _ _ (by decide), ud_s]
theorem pX_20 : pX X s 76 20 = nI s.2.2 := by unfold pX; rw [vu_s, ud_s]
theorem pX_n {q : Nat} (h1 : q ≠ 17) (h2 : q ≠ 19) (h3 : q ≠ 20) : pX X s 76 q = X 76 q := by unfold pX; rw [vu_s, ud_n _ _ _ h3, ud_n _ _ _ h2, ud_n _ _ _ h1]
theorem upd_c (f : Nat → Int32) {k j : Nat} (y z : Int32) (h : k ≠ j) : upd (upd f k y) j z = upd (upd f j z) k y := by
  funext i
  unfold upd
  by_cases h1 : i = k
  · subst h1; simp [h]
  · by_cases h2 : i = j
    · subst h2; simp [h1]
    · simp [h1, h2]
theorem pX_p17 {a : Nat} : va_up (pX X s) 76 (upd (pX X s 76) 17 (nI a)) = pX X (a, s.2) := by
  unfold pX
  rw [vu_up, vu_s, upd_c _ _ _ (show (20 : Nat) ≠ 17 by decide), upd_c _ _ _ (show (19 : Nat) ≠ 17 by decide), ud_ud]
theorem pX_p19 {f : Option Nat} : va_up (pX X s) 76 (upd (pX X s 76) 19 (fltI f)) = pX X (s.1, f, s.2.2) := by
  unfold pX
  rw [vu_up, vu_s, upd_c _ _ _ (show (20 : Nat) ≠ 19 by decide), ud_ud]
theorem pX_p20 {a : Nat} : va_up (pX X s) 76 (upd (pX X s 76) 20 (nI a)) = pX X (s.1, s.2.1, a) := by
  unfold pX
  rw [vu_up, vu_s, ud_ud]
end PX
def byN (n : Nat) (tx : Nat → Nat) (a : Nat) : Nat := if a < n then tx a else 0
def wrP (s : pS) : pS := (s.1, some (s.2.1.getD s.1), s.2.2)
def adP (s : pS) : pS := (s.1 + 1, s.2)
def tkB (n : Nat) (tx : Nat → Nat) (c : Nat) (s : pS) : Bool := s.2.1.isNone && decide (byN n tx s.1 = c)
def pok (n : Nat) (s : pS) : Prop := s.1 ≤ n ∧ (∀ b, s.2.1 = some b → b ≤ n) ∧ s.2.2 ≤ 6
def pwO (X A : Nat → Nat → Int32) (n : Nat) (tx : Nat → Nat) : Prop := n ≤ 120 ∧ (∀ i, tx i < 256) ∧ X 76 18 = nI n ∧ ((X 76 16 = -1 ∧ A 86 = nIf tx) ∨ (X 76 16 = nI 0 ∧ A 87 = nIf tx))
theorem byN_lt {n : Nat} {tx : Nat → Nat} (h : ∀ i, tx i < 256) (a : Nat) : byN n tx a < 256 := by
  unfold byN
  split
  · exact h a
  · decide
theorem byN_in {n : Nat} {tx : Nat → Nat} {a : Nat} (h : byN n tx a ≠ 0) : a < n := by
  unfold byN at h
  by_cases q : a < n
  · exact q
  · rw [if_neg q] at h; exact absurd rfl h
theorem flt_lt {n : Nat} {s : pS} (hn : n ≤ 120) (h : pok n s) (q : fltI s.2.1 < 0) : s.2.1 = none := flt_n q (fun a ha => by have := h.2.1 a ha; omega)
theorem flt_ge {s : pS} (q : ¬ fltI s.2.1 < 0) : s.2.1 ≠ none := fun e => q (by rw [e]; decide)
section LV
variable (n : Nat) (tx : Nat → Nat)
/-- a level's loop -/
def lvL (l : Nat) (nxt : pS → Int32 × pS) : Nat → Int32 → pS → Int32 × pS
  | 0, v, s => (v, s)
  | m + 1, v, s => if s.2.1 = none ∧ sgN (byN n tx s.1) = l then lvL l nxt m (joinI (byN n tx s.1) v (nxt (adP s)).1) (nxt (adP s)).2 else (v, s)
def lvF (l : Nat) (nxt : pS → Int32 × pS) (s : pS) : Int32 × pS := lvL n tx l nxt (n + 1) (nxt s).1 (nxt s).2
def cmF (nxt : pS → Int32 × pS) (s : pS) : Int32 × pS :=
  if (nxt s).2.2.1 = none ∧ sgN (byN n tx (nxt s).2.1) = 3 then (joinI (byN n tx (nxt s).2.1) (nxt s).1 (nxt (adP (nxt s).2)).1, (nxt (adP (nxt s).2)).2) else nxt s
def exF (one : pS → Int32 × pS) : pS → Int32 × pS := lvF n tx 1 (lvF n tx 2 (cmF n tx (lvF n tx 4 (lvF n tx 5 one))))
def onF (nm : Nat → Int32) : Nat → pS → Int32 × pS
  | 0, s => (0, s)
  | D + 1, s => if s.2.1 ≠ none then (0, s) else
    if byN n tx s.1 = 33 ∨ byN n tx s.1 = 45 ∨ byN n tx s.1 = 40 then
      (if s.2.2 = 6 then (0, wrP s)
       else if byN n tx s.1 = 40 then (if tkB n tx 41 (exF n tx (onF nm D) (s.1 + 1, s.2.1, s.2.2 + 1)).2 = true then ((exF n tx (onF nm D) (s.1 + 1, s.2.1, s.2.2 + 1)).1, ((exF n tx (onF nm D) (s.1 + 1, s.2.1, s.2.2 + 1)).2.1 + 1, (exF n tx (onF nm D) (s.1 + 1, s.2.1, s.2.2 + 1)).2.2.1, (exF n tx (onF nm D) (s.1 + 1, s.2.1, s.2.2 + 1)).2.2.2 - 1)) else (0, wrP (exF n tx (onF nm D) (s.1 + 1, s.2.1, s.2.2 + 1)).2))
       else ((if byN n tx s.1 = 45 then -(onF nm D (s.1 + 1, s.2.1, s.2.2 + 1)).1 else if (onF nm D (s.1 + 1, s.2.1, s.2.2 + 1)).1 = 0 then nI 1 else nI 0), ((onF nm D (s.1 + 1, s.2.1, s.2.2 + 1)).2.1, (onF nm D (s.1 + 1, s.2.1, s.2.2 + 1)).2.2.1, (onF nm D (s.1 + 1, s.2.1, s.2.2 + 1)).2.2.2 - 1)))
    else if nmN (byN n tx s.1) < 6 then (nm (nmN (byN n tx s.1)), adP s)
    else if (nuL n tx s.1 4 0 0).1 = 0 then (0, wrP s) else (nI (nuL n tx s.1 4 0 0).2, (s.1 + (nuL n tx s.1 4 0 0).1, s.2))
/-- what a level keeps -/
def gP (nxt : pS → Int32 × pS) (o : Nat) : Prop := ∀ s, pok n s → (s.2.1 = none → s.2.2 = o) → pok n (nxt s).2 ∧ s.1 ≤ (nxt s).2.1 ∧ ((nxt s).2.2.1 = none → (nxt s).2.2.2 = o ∧ s.2.1 = none) ∧ s.2.2 ≤ (nxt s).2.2.2
end LV
section GP
variable {n : Nat} {tx : Nat → Nat} {nxt : pS → Int32 × pS} {o : Nat}
theorem lvL_t {l m : Nat} {v : Int32} {s : pS} (h1 : s.2.1 = none) (h2 : sgN (byN n tx s.1) = l) : lvL n tx l nxt (m + 1) v s = lvL n tx l nxt m (joinI (byN n tx s.1) v (nxt (adP s)).1) (nxt (adP s)).2 := if_pos ⟨h1, h2⟩
theorem lvL_f {l m : Nat} {v : Int32} {s : pS} (h : ¬ (s.2.1 = none ∧ sgN (byN n tx s.1) = l)) : lvL n tx l nxt (m + 1) v s = (v, s) := if_neg h
theorem pok_ad {s : pS} (h : pok n s) (hb : byN n tx s.1 ≠ 0) : pok n (adP s) := ⟨byN_in hb, h.2.1, h.2.2⟩
theorem sg_0 {c l : Nat} (h : sgN c = l) (hl : 1 ≤ l) : c ≠ 0 := fun q => by rw [q] at h; have : sgN 0 = 0 := rfl; omega
theorem g_lvL (hg : gP n nxt o) {l : Nat} (hl : 1 ≤ l) : ∀ (m : Nat) (v : Int32) (s : pS), pok n s → (s.2.1 = none → s.2.2 = o) → pok n (lvL n tx l nxt m v s).2 ∧ s.1 ≤ (lvL n tx l nxt m v s).2.1 ∧ ((lvL n tx l nxt m v s).2.2.1 = none → (lvL n tx l nxt m v s).2.2.2 = o ∧ s.2.1 = none) ∧ s.2.2 ≤ (lvL n tx l nxt m v s).2.2.2 := by
  intro m
  induction m with
  | zero => intro v s h1 h2; exact ⟨h1, Nat.le_refl _, fun q => ⟨h2 q, q⟩, Nat.le_refl _⟩
  | succ m ih =>
    intro v s h1 h2
    by_cases hc : s.2.1 = none ∧ sgN (byN n tx s.1) = l
    · rw [lvL_t hc.1 hc.2]
      obtain ⟨g1, g2, g3, g4⟩ := hg (adP s) (pok_ad h1 (sg_0 hc.2 hl)) h2
      obtain ⟨k1, k2, k3, k4⟩ := ih (joinI (byN n tx s.1) v (nxt (adP s)).1) (nxt (adP s)).2 g1 (fun q => (g3 q).1)
      refine ⟨k1, ?_, fun q => ⟨(k3 q).1, hc.1⟩, Nat.le_trans (show s.2.2 ≤ _ from g4) k4⟩
      have g2 : s.1 + 1 ≤ (nxt (adP s)).2.1 := g2
      omega
    · rw [lvL_f hc]
      exact ⟨h1, Nat.le_refl _, fun q => ⟨h2 q, q⟩, Nat.le_refl _⟩
theorem g_lvF (hg : gP n nxt o) {l : Nat} (hl : 1 ≤ l) : gP n (lvF n tx l nxt) o := by
  intro s h1 h2
  obtain ⟨g1, g2, g3, g4⟩ := hg s h1 h2
  obtain ⟨k1, k2, k3, k4⟩ := g_lvL (tx := tx) hg hl (n + 1) (nxt s).1 (nxt s).2 g1 (fun q => (g3 q).1)
  exact ⟨k1, Nat.le_trans g2 k2, fun q => ⟨(k3 q).1, (g3 (k3 q).2).2⟩, Nat.le_trans g4 k4⟩
theorem g_cmF (hg : gP n nxt o) : gP n (cmF n tx nxt) o := by
  intro s h1 h2
  obtain ⟨g1, g2, g3, g4⟩ := hg s h1 h2
  unfold cmF
  by_cases hc : (nxt s).2.2.1 = none ∧ sgN (byN n tx (nxt s).2.1) = 3
  · rw [if_pos hc]
    obtain ⟨k1, k2, k3, k4⟩ := hg (adP (nxt s).2) (pok_ad g1 (sg_0 hc.2 (by decide))) (fun q => (g3 q).1)
    refine ⟨k1, ?_, fun q => ⟨(k3 q).1, (g3 hc.1).2⟩, Nat.le_trans g4 k4⟩
    have k2 : (nxt s).2.1 + 1 ≤ (nxt (adP (nxt s).2)).2.1 := k2
    show s.1 ≤ (nxt (adP (nxt s).2)).2.1
    omega
  · rw [if_neg hc]
    exact ⟨g1, g2, g3, g4⟩
theorem g_exF (hg : gP n nxt o) : gP n (exF n tx nxt) o := g_lvF (g_lvF (g_cmF (g_lvF (g_lvF hg (by decide)) (by decide))) (by decide)) (by decide)
theorem pok_wr {s : pS} (h : pok n s) : pok n (wrP s) := by
  refine ⟨h.1, ?_, h.2.2⟩
  intro b hb
  have hb : some (s.2.1.getD s.1) = some b := hb
  cases hb
  cases hf : s.2.1 with
  | none => exact h.1
  | some c => exact h.2.1 c hf
theorem g_onF {nm : Nat → Int32} : ∀ (D o : Nat), o + D = 7 → gP n (onF n tx nm D) o
  | 0, o, ho => by
    intro s h1 h2
    exact ⟨h1, Nat.le_refl _, fun q => ⟨h2 q, q⟩, Nat.le_refl _⟩
  | D + 1, o, ho => by
    intro s h1 h2
    unfold onF
    by_cases hf : s.2.1 ≠ none
    · rw [if_pos hf]
      exact ⟨h1, Nat.le_refl _, fun q => absurd q hf, Nat.le_refl _⟩
    · rw [if_neg hf]
      have hf : s.2.1 = none := Classical.not_not.mp hf
      have hs := h2 hf
      have wr : ∀ t : pS, pok n t → s.1 ≤ t.1 → s.2.2 ≤ t.2.2 → pok n (wrP t) ∧ s.1 ≤ (wrP t).1 ∧ ((wrP t).2.1 = none → (wrP t).2.2 = o ∧ s.2.1 = none) ∧ s.2.2 ≤ (wrP t).2.2 := fun t a b c => ⟨pok_wr a, b, fun q => absurd (show some _ = none from q) (by simp), c⟩
      by_cases hc : byN n tx s.1 = 33 ∨ byN n tx s.1 = 45 ∨ byN n tx s.1 = 40
      · rw [if_pos hc]
        have h0 : byN n tx s.1 ≠ 0 := by rcases hc with q | q | q <;> omega
        by_cases h6 : s.2.2 = 6
        · rw [if_pos h6]
          exact wr s h1 (Nat.le_refl _) (Nat.le_refl _)
        · rw [if_neg h6]
          have hp : pok n (s.1 + 1, s.2.1, s.2.2 + 1) := ⟨byN_in h0, h1.2.1, by have := h1.2.2; show s.2.2 + 1 ≤ 6; omega⟩
          have ih := g_onF (nm := nm) D (o + 1) (by omega)
          by_cases h4 : byN n tx s.1 = 40
          · rw [if_pos h4]
            obtain ⟨g1, g2, g3, g4⟩ := (g_exF (tx := tx) ih) (s.1 + 1, s.2.1, s.2.2 + 1) hp (fun _ => by show s.2.2 + 1 = o + 1; omega)
            have g2 : s.1 + 1 ≤ (exF n tx (onF n tx nm D) (s.1 + 1, s.2.1, s.2.2 + 1)).2.1 := g2
            have g4 : s.2.2 + 1 ≤ (exF n tx (onF n tx nm D) (s.1 + 1, s.2.1, s.2.2 + 1)).2.2.2 := g4
            by_cases ht : tkB n tx 41 (exF n tx (onF n tx nm D) (s.1 + 1, s.2.1, s.2.2 + 1)).2 = true
            · rw [if_pos ht]
              unfold tkB at ht
              simp only [Bool.and_eq_true, decide_eq_true_eq] at ht
              have h41 : byN n tx (exF n tx (onF n tx nm D) (s.1 + 1, s.2.1, s.2.2 + 1)).2.1 ≠ 0 := by rw [ht.2]; decide
              have hne : (exF n tx (onF n tx nm D) (s.1 + 1, s.2.1, s.2.2 + 1)).2.2.1 = none := by simpa using ht.1
              have ho2 := (g3 hne).1
              refine ⟨⟨byN_in h41, g1.2.1, by have := g1.2.2; show _ - 1 ≤ 6; omega⟩, ?_, fun _ => ⟨?_, hf⟩, ?_⟩
              · show s.1 ≤ (exF n tx (onF n tx nm D) (s.1 + 1, s.2.1, s.2.2 + 1)).2.1 + 1
                omega
              · show (exF n tx (onF n tx nm D) (s.1 + 1, s.2.1, s.2.2 + 1)).2.2.2 - 1 = o
                omega
              · show s.2.2 ≤ (exF n tx (onF n tx nm D) (s.1 + 1, s.2.1, s.2.2 + 1)).2.2.2 - 1
                omega
            · rw [if_neg ht]
              exact wr _ g1 (by omega) (by omega)
          · rw [if_neg h4]
            obtain ⟨g1, g2, g3, g4⟩ := ih (s.1 + 1, s.2.1, s.2.2 + 1) hp (fun _ => by show s.2.2 + 1 = o + 1; omega)
            have g2 : s.1 + 1 ≤ (onF n tx nm D (s.1 + 1, s.2.1, s.2.2 + 1)).2.1 := g2
            have g4 : s.2.2 + 1 ≤ (onF n tx nm D (s.1 + 1, s.2.1, s.2.2 + 1)).2.2.2 := g4
            refine ⟨⟨g1.1, g1.2.1, by have := g1.2.2; show _ - 1 ≤ 6; omega⟩, ?_, fun q => ⟨?_, hf⟩, ?_⟩
            · show s.1 ≤ (onF n tx nm D (s.1 + 1, s.2.1, s.2.2 + 1)).2.1
              omega
            · show (onF n tx nm D (s.1 + 1, s.2.1, s.2.2 + 1)).2.2.2 - 1 = o
              have := (g3 q).1
              omega
            · show s.2.2 ≤ (onF n tx nm D (s.1 + 1, s.2.1, s.2.2 + 1)).2.2.2 - 1
              omega
      · rw [if_neg hc]
        by_cases hn : nmN (byN n tx s.1) < 6
        · rw [if_pos hn]
          have h0 : byN n tx s.1 ≠ 0 := fun q => by rw [q] at hn; exact absurd hn (by decide)
          exact ⟨pok_ad h1 h0, Nat.le_succ _, fun q => ⟨hs, hf⟩, Nat.le_refl _⟩
        · rw [if_neg hn]
          by_cases hd : (nuL n tx s.1 4 0 0).1 = 0
          · rw [if_pos hd]
            exact wr s h1 (Nat.le_refl _) (Nat.le_refl _)
          · rw [if_neg hd]
            have hin : s.1 + (nuL n tx s.1 4 0 0).1 ≤ n := by
              by_cases q : s.1 < n
              · by_cases q2 : dgB (tx s.1) = true
                · exact (nu_1 q q2).2
                · exact absurd (show (nuL n tx s.1 4 0 0).1 = 0 from by
                    show (if s.1 + 0 < n then (if dgB (tx (s.1 + 0)) = true then nuL n tx s.1 3 1 _ else (0, 0)) else (0, 0)).1 = 0
                    rw [Nat.add_zero, if_pos q, if_neg q2]) hd
              · exact absurd (show (nuL n tx s.1 4 0 0).1 = 0 from by
                  show (if s.1 + 0 < n then _ else (0, 0)).1 = 0
                  rw [Nat.add_zero, if_neg q]) hd
            exact ⟨⟨hin, h1.2.1, h1.2.2⟩, Nat.le_add_right _ _, fun q => ⟨hs, hf⟩, Nat.le_refl _⟩
end GP
section CT52
variable {d : Nat} {X A : Nat → Nat → Int32} {L : Nat → Nat → Int64} {w : jW} {n : Nat} {tx : Nat → Nat} {s : pS} {nxt : pS → Int32 × pS} {o : Nat}

set_option maxHeartbeats 200000 in
set_option maxRecDepth 100000 in
theorem m_byteAt_t (hw : pwO X A n tx) (hs : pok n s) (hb : X 76 16 = -1) (ht : A 86 = nIf tx) : jMet (d) yX11_byteAt cX11_byteAt 1 (some .int) 0 0 [.ref 76] (tw (pX X s) A L) (jRi (nI (byN n tx s.1)) (tw (pX X s) A L)) := by
  refine jMet_of (by decide) (Nat.le_of_ble_eq_true rfl) none (Or.inl rfl) ?_
  show jWP none RX11 cX11_byteAt 1 (some .int) (d) 0 0 0 [some (.ref 76)] [] (tw (pX X s) A L) (jRi (nI (byN n tx s.1)) (tw (pX X s) A L))
  have hn120 := hw.1
  have hs1 := hs.1
  have hs6 := hs.2.2
  refine j_aload_n dX11_byteAt_0 rfl rfl ?_
  refine t_getI dX11_byteAt_1 jfl_X11_160 (fun _ _ _ => rfl) (fun _ => rfl) ?_
  refine j_topE pX_17 ?_
  refine j_aload_n dX11_byteAt_4 rfl rfl ?_
  refine t_getI dX11_byteAt_5 jfl_X11_163 (fun _ _ _ => rfl) (fun _ => rfl) ?_
  refine j_topE (e' := nI n) ((pX_n (by decide) (by decide) (by decide)).trans hw.2.2.1) ?_
  refine jn_icmp_ge (tgt := 47) dX11_byteAt_8 (by decide) (by omega) (by omega) (fun h8 => ?_) (fun h8 => ?_)
  · refine j_iconst (v := nI 0) dX11_byteAt_47 rfl ?_
    refine j_ireturn dX11_byteAt_48 rfl ?_
    exact ⟨by unfold byN; rw [if_neg (by omega)], rfl⟩
  · refine j_aload_n dX11_byteAt_11 rfl rfl ?_
    refine t_getI dX11_byteAt_12 jfl_X11_166 (fun _ _ _ => rfl) (fun _ => rfl) ?_
    refine j_topE (e' := -1) ((pX_n (by decide) (by decide) (by decide)).trans hb) ?_
    refine j_if_ge (tgt := 30) dX11_byteAt_15 (by decide) (fun h15 => absurd h15 (by decide)) (fun h15 => ?_)
    refine j_aload_n dX11_byteAt_18 rfl rfl ?_
    refine t_getR (b := 86) dX11_byteAt_19 jfl_X11_39 (fun _ _ _ => rfl) rfl ?_
    refine j_aload_n dX11_byteAt_22 rfl rfl ?_
    refine t_getI dX11_byteAt_23 jfl_X11_160 (fun _ _ _ => rfl) (fun _ => rfl) ?_
    refine j_topE pX_17 ?_
    refine t_iaload dX11_byteAt_26 (fun _ _ _ => rfl) (by omega) (by decide) ?_
    refine j_topE (e' := nI (tx s.1)) (by rw [ht]; rfl) ?_
    refine j_goto (tgt := 48) dX11_byteAt_27 (by decide) ?_
    refine j_ireturn dX11_byteAt_48 rfl ?_
    exact ⟨by unfold byN; rw [if_pos h8], rfl⟩

set_option maxHeartbeats 200000 in
set_option maxRecDepth 100000 in
theorem m_byteAt_x (hw : pwO X A n tx) (hs : pok n s) (hb : X 76 16 = nI 0) (ht : A 87 = nIf tx) : jMet (d) yX11_byteAt cX11_byteAt 1 (some .int) 0 0 [.ref 76] (tw (pX X s) A L) (jRi (nI (byN n tx s.1)) (tw (pX X s) A L)) := by
  refine jMet_of (by decide) (Nat.le_of_ble_eq_true rfl) none (Or.inl rfl) ?_
  show jWP none RX11 cX11_byteAt 1 (some .int) (d) 0 0 0 [some (.ref 76)] [] (tw (pX X s) A L) (jRi (nI (byN n tx s.1)) (tw (pX X s) A L))
  have hn120 := hw.1
  have hs1 := hs.1
  have hs6 := hs.2.2
  refine j_aload_n dX11_byteAt_0 rfl rfl ?_
  refine t_getI dX11_byteAt_1 jfl_X11_160 (fun _ _ _ => rfl) (fun _ => rfl) ?_
  refine j_topE pX_17 ?_
  refine j_aload_n dX11_byteAt_4 rfl rfl ?_
  refine t_getI dX11_byteAt_5 jfl_X11_163 (fun _ _ _ => rfl) (fun _ => rfl) ?_
  refine j_topE (e' := nI n) ((pX_n (by decide) (by decide) (by decide)).trans hw.2.2.1) ?_
  refine jn_icmp_ge (tgt := 47) dX11_byteAt_8 (by decide) (by omega) (by omega) (fun h8 => ?_) (fun h8 => ?_)
  · refine j_iconst (v := nI 0) dX11_byteAt_47 rfl ?_
    refine j_ireturn dX11_byteAt_48 rfl ?_
    exact ⟨by unfold byN; rw [if_neg (by omega)], rfl⟩
  · refine j_aload_n dX11_byteAt_11 rfl rfl ?_
    refine t_getI dX11_byteAt_12 jfl_X11_166 (fun _ _ _ => rfl) (fun _ => rfl) ?_
    refine j_topE (e' := nI 0) ((pX_n (by decide) (by decide) (by decide)).trans hb) ?_
    refine jn_if_ge (tgt := 30) dX11_byteAt_15 (by decide) (by omega) ?_
    refine j_aload_n dX11_byteAt_30 rfl rfl ?_
    refine t_getR (b := 87) dX11_byteAt_31 jfl_X11_42 (fun _ _ _ => rfl) rfl ?_
    refine j_aload_n dX11_byteAt_34 rfl rfl ?_
    refine t_getI dX11_byteAt_35 jfl_X11_166 (fun _ _ _ => rfl) (fun _ => rfl) ?_
    refine j_topE (e' := nI 0) ((pX_n (by decide) (by decide) (by decide)).trans hb) ?_
    refine j_aload_n dX11_byteAt_38 rfl rfl ?_
    refine t_getI dX11_byteAt_39 jfl_X11_160 (fun _ _ _ => rfl) (fun _ => rfl) ?_
    refine j_topE pX_17 ?_
    refine jn_iadd dX11_byteAt_42 ?_
    refine t_iaload dX11_byteAt_43 (fun _ _ _ => rfl) (by omega) (by decide) ?_
    refine j_topE (e' := nI (tx s.1)) (by rw [ht, Nat.zero_add]; rfl) ?_
    refine j_goto (tgt := 48) dX11_byteAt_44 (by decide) ?_
    refine j_ireturn dX11_byteAt_48 rfl ?_
    exact ⟨by unfold byN; rw [if_pos h8], rfl⟩

theorem m_byteAt (hw : pwO X A n tx) (hs : pok n s) : jMet d yX11_byteAt cX11_byteAt 1 (some .int) 0 0 [.ref 76] (tw (pX X s) A L) (jRi (nI (byN n tx s.1)) (tw (pX X s) A L)) := by
  rcases hw.2.2.2 with ⟨h1, h2⟩ | ⟨h1, h2⟩
  · exact m_byteAt_t hw hs h1 h2
  · exact m_byteAt_x hw hs h1 h2

set_option maxHeartbeats 200000 in
set_option maxRecDepth 100000 in
theorem m_wrong (hw : pwO X A n tx) (hs : pok n s) : jMet (d) yX11_wrong cX11_wrong 1 (some .int) 0 0 [.ref 76] (tw (pX X s) A L) (jRi (nI 0) (tw (pX X (wrP s)) A L)) := by
  refine jMet_of (by decide) (Nat.le_of_ble_eq_true rfl) none (Or.inl rfl) ?_
  show jWP none RX11 cX11_wrong 1 (some .int) (d) 0 0 0 [some (.ref 76)] [] (tw (pX X s) A L) (jRi (nI 0) (tw (pX X (wrP s)) A L))
  have hn120 := hw.1
  have hs1 := hs.1
  have hs6 := hs.2.2
  refine j_aload_n dX11_wrong_0 rfl rfl ?_
  refine j_aload_n dX11_wrong_1 rfl rfl ?_
  refine t_getI dX11_wrong_2 jfl_X11_169 (fun _ _ _ => rfl) (fun _ => rfl) ?_
  refine j_topE pX_19 ?_
  refine j_if_ge (tgt := 15) dX11_wrong_5 (by decide) (fun h5 => ?_) (fun h5 => ?_)
  · have hf : fltI s.2.1 = fltI (some (s.2.1.getD s.1)) := by
      obtain ⟨b, hb⟩ := flt_s (Int32.not_lt.mpr h5)
      rw [hb]; rfl
    refine j_aload_n dX11_wrong_15 rfl rfl ?_
    refine t_getI dX11_wrong_16 jfl_X11_169 (fun _ _ _ => rfl) (fun _ => rfl) ?_
    refine j_topE pX_19 ?_
    refine t_putI dX11_wrong_19 jfl_X11_169 (fun _ _ _ => rfl) (fun _ _ => rfl) (Nat.le_of_ble_eq_true rfl) rfl rfl ?_
    skip
    refine j_iconst (v := nI 0) dX11_wrong_22 rfl ?_
    refine j_ireturn dX11_wrong_23 rfl ?_
    refine ⟨rfl, tw_eq ?_ rfl rfl⟩
    rw [hf, pX_p19]
    rfl
  · have hf : nI s.1 = fltI (some (s.2.1.getD s.1)) := by
      rw [flt_lt hn120 hs (Int32.not_le.mp h5)]; rfl
    refine j_aload_n dX11_wrong_8 rfl rfl ?_
    refine t_getI dX11_wrong_9 jfl_X11_160 (fun _ _ _ => rfl) (fun _ => rfl) ?_
    refine j_topE pX_17 ?_
    refine j_goto (tgt := 19) dX11_wrong_12 (by decide) ?_
    refine t_putI dX11_wrong_19 jfl_X11_169 (fun _ _ _ => rfl) (fun _ _ => rfl) (Nat.le_of_ble_eq_true rfl) rfl rfl ?_
    skip
    refine j_iconst (v := nI 0) dX11_wrong_22 rfl ?_
    refine j_ireturn dX11_wrong_23 rfl ?_
    refine ⟨rfl, tw_eq ?_ rfl rfl⟩
    rw [hf, pX_p19]
    rfl

set_option maxHeartbeats 200000 in
set_option maxRecDepth 100000 in
theorem m_takes (hw : pwO X A n tx) (hs : pok n s) {c : Nat} (hc : c < 256) : jMet (d + 1) yX11_takes cX11_takes 2 (some .boolean) 0 0 [.ref 76, .int (nI c)] (tw (pX X s) A L) (jRi (bz (tkB n tx c s)) (tw (pX X (if tkB n tx c s = true then adP s else s)) A L)) := by
  refine jMet_of (by decide) (Nat.le_of_ble_eq_true rfl) none (Or.inl rfl) ?_
  show jWP none RX11 cX11_takes 2 (some .boolean) (d + 1) 0 0 0 [some (.ref 76), some (.int (nI c))] [] (tw (pX X s) A L) (jRi (bz (tkB n tx c s)) (tw (pX X (if tkB n tx c s = true then adP s else s)) A L))
  have hn120 := hw.1
  have hs1 := hs.1
  have hs6 := hs.2.2
  have hby := byN_lt (n := n) hw.2.1 s.1
  refine j_aload_n dX11_takes_0 rfl rfl ?_
  refine t_getI dX11_takes_1 jfl_X11_169 (fun _ _ _ => rfl) (fun _ => rfl) ?_
  refine j_topE pX_19 ?_
  refine j_if_ge (tgt := 15) dX11_takes_4 (by decide) (fun h4 => ?_) (fun h4 => ?_)
  · refine j_iconst (v := nI 0) dX11_takes_15 rfl ?_
    refine j_zreturn dX11_takes_16 rfl (by decide) ?_
    have ht : tkB n tx c s = false := by
      unfold tkB
      cases hf : s.2.1 with
      | none => rw [hf] at h4; exact absurd h4 (by decide)
      | some b => rfl
    rw [ht]
    exact ⟨rfl, rfl⟩
  · refine j_aload_n dX11_takes_7 rfl rfl ?_
    refine j_callVi [] [] dX11_takes_8 jlk_X11_172 rfl rfl rfl rfl (Nat.le_of_ble_eq_true rfl) (m_byteAt hw hs) ?_
    refine j_iload_n dX11_takes_11 rfl rfl ?_
    refine jn_icmp_eq (tgt := 17) dX11_takes_12 (by decide) (by omega) (by omega) (fun h12 => ?_) (fun h12 => ?_)
    · refine j_aload_n dX11_takes_17 rfl rfl ?_
      refine j_dup dX11_takes_18 rfl ?_
      refine t_getI dX11_takes_19 jfl_X11_160 (fun _ _ _ => rfl) (fun _ => rfl) ?_
      refine j_topE pX_17 ?_
      refine j_iconst (v := nI 1) dX11_takes_22 rfl ?_
      refine jn_iadd dX11_takes_23 ?_
      refine t_putI dX11_takes_24 jfl_X11_160 (fun _ _ _ => rfl) (fun _ _ => rfl) (Nat.le_of_ble_eq_true rfl) rfl rfl ?_
      rw [pX_p17]
      refine j_iconst (v := nI 1) dX11_takes_27 rfl ?_
      refine j_zreturn dX11_takes_28 rfl (by decide) ?_
      have ht : tkB n tx c s = true := by
        unfold tkB
        rw [flt_lt hn120 hs (Int32.not_le.mp h4)]; simp [h12]
      rw [ht]
      exact ⟨rfl, rfl⟩
    · refine j_iconst (v := nI 0) dX11_takes_15 rfl ?_
      refine j_zreturn dX11_takes_16 rfl (by decide) ?_
      have ht : tkB n tx c s = false := by
        unfold tkB
        rw [flt_lt hn120 hs (Int32.not_le.mp h4)]; simp [h12]
      rw [ht]
      exact ⟨rfl, rfl⟩

end CT52