def wkS (ex : pS → Int32 × pS) (n : Nat) (tx : Nat → Nat) (gv : Bool) (g : Int32) (s : pS) : Bool × Int32 × pS :=
  if tkB n tx 63 (ex s).2 = true then (if (ex (adP (ex s).2)).2.2.1 = none ∧ (ex s).1 ≠ 0 ∧ gv = false then (true, (ex (adP (ex s).2)).1, (ex (adP (ex s).2)).2) else (gv, g, (ex (adP (ex s).2)).2))
  else (if (ex s).2.2.1 = none ∧ gv = false then (true, (ex s).1, (ex s).2) else (gv, g, (ex s).2))
def wkL (ex : pS → Int32 × pS) (n : Nat) (tx : Nat → Nat) : Nat → Bool → Int32 → pS → Int32 × pS
  | 0, _, g, s => (g, s)
  | m + 1, gv, g, s => if tkB n tx 59 (wkS ex n tx gv g s).2.2 = true then wkL ex n tx m (wkS ex n tx gv g s).1 (wkS ex n tx gv g s).2.1 (adP (wkS ex n tx gv g s).2.2) else ((wkS ex n tx gv g s).2.1, (wkS ex n tx gv g s).2.2)
def wkF (n : Nat) (tx : Nat → Nat) (nm : Nat → Int32) : Int32 × pS :=
  if (wkL (exT n tx nm) n tx (n + 1) false (nI 0) (0, none, 0)).2.2.1 = none ∧ (wkL (exT n tx nm) n tx (n + 1) false (nI 0) (0, none, 0)).2.1 < n then (0, wrP (wkL (exT n tx nm) n tx (n + 1) false (nI 0) (0, none, 0)).2) else wkL (exT n tx nm) n tx (n + 1) false (nI 0) (0, none, 0)
section WK
variable {n : Nat} {tx : Nat → Nat} {ex : pS → Int32 × pS} {gv : Bool} {g : Int32} {s : pS}
theorem tk_1 {c : Nat} (h : tkB n tx c s = true) (hc : c ≠ 0) : s.2.1 = none ∧ byN n tx s.1 = c ∧ s.1 < n := by
  unfold tkB at h
  simp only [Bool.and_eq_true, decide_eq_true_eq] at h
  have h1 : s.2.1 = none := by simpa using h.1
  exact ⟨h1, h.2, byN_in (by rw [h.2]; exact hc)⟩
theorem pok_tk {c : Nat} (hs : pok n s) (h : tkB n tx c s = true) (hc : c ≠ 0) : pok n (adP s) := ⟨(tk_1 h hc).2.2, hs.2.1, hs.2.2⟩
theorem g_wkS (hg : gP n ex 0) (hs : pok n s) (h0 : s.2.1 = none → s.2.2 = 0) : pok n (wkS ex n tx gv g s).2.2 ∧ s.1 ≤ (wkS ex n tx gv g s).2.2.1 ∧ ((wkS ex n tx gv g s).2.2.2.1 = none → (wkS ex n tx gv g s).2.2.2.2 = 0) := by
  obtain ⟨g1, g2, g3, g4⟩ := hg s hs h0
  unfold wkS
  by_cases h1 : tkB n tx 63 (ex s).2 = true
  · rw [if_pos h1]
    have h2 := tk_1 h1 (by decide)
    obtain ⟨k1, k2, k3, k4⟩ := hg (adP (ex s).2) (pok_tk g1 h1 (by decide)) (fun q => (g3 q).1)
    have k2 : (ex s).2.1 + 1 ≤ (ex (adP (ex s).2)).2.1 := k2
    split
    · exact ⟨k1, (show s.1 ≤ (ex (adP (ex s).2)).2.1 by omega), fun q => (k3 q).1⟩
    · exact ⟨k1, (show s.1 ≤ (ex (adP (ex s).2)).2.1 by omega), fun q => (k3 q).1⟩
  · rw [if_neg h1]
    split
    · exact ⟨g1, g2, fun q => (g3 q).1⟩
    · exact ⟨g1, g2, fun q => (g3 q).1⟩
theorem wkL_t {m : Nat} (h : tkB n tx 59 (wkS ex n tx gv g s).2.2 = true) : wkL ex n tx (m + 1) gv g s = wkL ex n tx m (wkS ex n tx gv g s).1 (wkS ex n tx gv g s).2.1 (adP (wkS ex n tx gv g s).2.2) := if_pos h
theorem wkL_f {m : Nat} (h : tkB n tx 59 (wkS ex n tx gv g s).2.2 = false) : wkL ex n tx (m + 1) gv g s = ((wkS ex n tx gv g s).2.1, (wkS ex n tx gv g s).2.2) := if_neg (by rw [h]; decide)
theorem wkS_a (h1 : tkB n tx 63 (ex s).2 = true) (h2 : (ex (adP (ex s).2)).2.2.1 = none) (h3 : (ex s).1 ≠ 0) (h4 : gv = false) : wkS ex n tx gv g s = (true, (ex (adP (ex s).2)).1, (ex (adP (ex s).2)).2) := by
  unfold wkS
  rw [if_pos h1, if_pos ⟨h2, h3, h4⟩]
theorem wkS_b (h1 : tkB n tx 63 (ex s).2 = true) (h2 : ¬ ((ex (adP (ex s).2)).2.2.1 = none ∧ (ex s).1 ≠ 0 ∧ gv = false)) : wkS ex n tx gv g s = (gv, g, (ex (adP (ex s).2)).2) := by
  unfold wkS
  rw [if_pos h1, if_neg h2]
theorem wkS_c (h1 : tkB n tx 63 (ex s).2 = false) (h2 : (ex s).2.2.1 = none) (h4 : gv = false) : wkS ex n tx gv g s = (true, (ex s).1, (ex s).2) := by
  unfold wkS
  rw [if_neg (by rw [h1]; decide), if_pos ⟨h2, h4⟩]
theorem wkS_d (h1 : tkB n tx 63 (ex s).2 = false) (h2 : ¬ ((ex s).2.2.1 = none ∧ gv = false)) : wkS ex n tx gv g s = (gv, g, (ex s).2) := by
  unfold wkS
  rw [if_neg (by rw [h1]; decide), if_neg h2]
end WK
/-- which text is read, how long it is -/
def bX (X : Nat → Nat → Int32) (b : Int32) (n : Nat) : Nat → Nat → Int32 := va_up X 76 (upd (upd (X 76) 16 b) 18 (nI n))
theorem bX_16 {X : Nat → Nat → Int32} {b : Int32} {n : Nat} : bX X b n 76 16 = b := by unfold bX; rw [vu_s, ud_n _ _ _ (by decide), ud_s]
theorem bX_18 {X : Nat → Nat → Int32} {b : Int32} {n : Nat} : bX X b n 76 18 = nI n := by unfold bX; rw [vu_s, ud_s]
theorem bX_n {X : Nat → Nat → Int32} {b : Int32} {n q : Nat} (h1 : q ≠ 16) (h2 : q ≠ 18) : bX X b n 76 q = X 76 q := by unfold bX; rw [vu_s, ud_n _ _ _ h2, ud_n _ _ _ h1]
theorem pwO_b {X A : Nat → Nat → Int32} {b : Int32} {n : Nat} {tx : Nat → Nat} (hn : n ≤ 120) (ht : ∀ i, tx i < 256) (h : (b = -1 ∧ A 86 = nIf tx) ∨ (b = nI 0 ∧ A 87 = nIf tx)) : pwO (bX X b n) A n tx := by
  refine ⟨hn, ht, bX_18, ?_⟩
  rw [bX_16]
  exact h
theorem wk_start (X : Nat → Nat → Int32) (b : Int32) (n : Nat) : va_up (va_up (va_up (va_up (va_up X 76 (upd (X 76) 16 b)) 76 (upd (va_up X 76 (upd (X 76) 16 b) 76) 17 (nI 0))) 76 (upd (va_up (va_up X 76 (upd (X 76) 16 b)) 76 (upd (va_up X 76 (upd (X 76) 16 b) 76) 17 (nI 0)) 76) 18 (nI n))) 76 (upd (va_up (va_up (va_up X 76 (upd (X 76) 16 b)) 76 (upd (va_up X 76 (upd (X 76) 16 b) 76) 17 (nI 0))) 76 (upd (va_up (va_up X 76 (upd (X 76) 16 b)) 76 (upd (va_up X 76 (upd (X 76) 16 b) 76) 17 (nI 0)) 76) 18 (nI n)) 76) 19 (-1))) 76 (upd (va_up (va_up (va_up (va_up X 76 (upd (X 76) 16 b)) 76 (upd (va_up X 76 (upd (X 76) 16 b) 76) 17 (nI 0))) 76 (upd (va_up (va_up X 76 (upd (X 76) 16 b)) 76 (upd (va_up X 76 (upd (X 76) 16 b) 76) 17 (nI 0)) 76) 18 (nI n))) 76 (upd (va_up (va_up (va_up X 76 (upd (X 76) 16 b)) 76 (upd (va_up X 76 (upd (X 76) 16 b) 76) 17 (nI 0))) 76 (upd (va_up (va_up X 76 (upd (X 76) 16 b)) 76 (upd (va_up X 76 (upd (X 76) 16 b) 76) 17 (nI 0)) 76) 18 (nI n)) 76) 19 (-1)) 76) 20 (nI 0)) = pX (bX X b n) (0, none, 0) := by
  unfold pX bX
  simp only [vu_s, vu_up]
  rw [upd_c (upd (X 76) 16 b) _ _ (show (17 : Nat) ≠ 18 by decide)]
  rfl
section CT55
variable {d : Nat} {X A : Nat → Nat → Int32} {L : Nat → Nat → Int64} {w : jW} {n : Nat} {tx : Nat → Nat} {s : pS} {nm : Nat → Int32}

set_option maxHeartbeats 200000 in
set_option maxRecDepth 100000 in
theorem l_workOut (hw : pwO X A n tx) (hnm : A 88 = nm) {b : Int32} : ∀ (m : Nat) (gv : Bool) (g : Int32) (s : pS) (r : Int32 × pS), pok n s → (s.2.1 = none → s.2.2 = 0) → n - s.1 < m → wkL (exT n tx nm) n tx m gv g s = r → jWP none RX11 cX11_workOut 8 (some .int) (d + 50) 0 0 33 [some (.ref 76), some (.int b), some (.int (nI n)), some (.int (bz gv)), some (.int g), some (.int (nI 1)), none, none] [] (tw (pX X s) A L) (jRi (if r.2.2.1 = none ∧ r.2.1 < n then (0, wrP r.2) else r).1 (tw (pX X (if r.2.2.1 = none ∧ r.2.1 < n then (0, wrP r.2) else r).2) A L)) := by
  intro m
  induction m with
  | zero => intro gv g s r hs h0 hm; omega
  | succ m ih =>
    intro gv g s r hs h0 hm hr
    have hn120 := hw.1
    obtain ⟨g1, g2, g3, g4⟩ := g_exT (tx := tx) (nm := nm) s hs h0
    refine j_iload dX11_workOut_33 rfl ?_
    refine j_if_eq (tgt := 107) dX11_workOut_35 (by decide) (fun h => absurd h (by decide)) (fun _ => ?_)
    refine j_aload_n dX11_workOut_38 rfl rfl ?_
    refine j_callVi [] [] dX11_workOut_39 jlk_X11_199 rfl rfl rfl rfl (Nat.le_of_ble_eq_true rfl) (m_exT hw hnm hs h0) ?_
    refine j_istore (lv' := [some (.ref 76), some (.int _), some (.int _), some (.int _), some (.int _), some (.int _), some (.int _), none]) dX11_workOut_42 (by decide) rfl ?_
    refine j_iconst (v := nI 1) dX11_workOut_44 rfl ?_
    refine j_istore (lv' := [some (.ref 76), some (.int _), some (.int _), some (.int _), some (.int _), some (.int _), some (.int _), some (.int _)]) dX11_workOut_45 (by decide) rfl ?_
    refine j_aload_n dX11_workOut_47 rfl rfl ?_
    refine j_bipush (v := nI 63) dX11_workOut_48 rfl ?_
    refine j_callVi [.int _] [] dX11_workOut_50 jlk_X11_179 rfl rfl rfl rfl (Nat.le_of_ble_eq_true rfl) (m_takes (d := d + 48) hw g1 (by decide)) ?_
    refine j_if_eq (tgt := 74) dX11_workOut_53 (by decide) (fun h53 => ?_) (fun h53 => ?_)
    · have ht := bz_f h53
      rw [ht, if_neg (by decide)]
      refine j_aload_n dX11_workOut_74 rfl rfl ?_
      refine t_getI dX11_workOut_75 jfl_X11_169 (fun _ _ _ => rfl) (fun _ => rfl) ?_
      refine j_topE pX_19 ?_
      refine j_if_ge (tgt := 96) dX11_workOut_78 (by decide) (fun h78 => ?_) (fun h78 => ?_)
      · refine j_aload_n dX11_workOut_96 rfl rfl ?_
        refine j_bipush (v := nI 59) dX11_workOut_97 rfl ?_
        refine j_callVi [.int _] [] dX11_workOut_99 jlk_X11_179 rfl rfl rfl rfl (Nat.le_of_ble_eq_true rfl) (m_takes (d := d + 48) hw g1 (by decide)) ?_
        refine j_istore (lv' := [some (.ref 76), some (.int _), some (.int _), some (.int _), some (.int _), some (.int _), some (.int _), some (.int _)]) dX11_workOut_102 (by decide) rfl ?_
        refine j_goto (tgt := 33) dX11_workOut_104 (by decide) ?_
        have es : (wkS (exT n tx nm) n tx gv g s) = (gv, g, (exT n tx nm s).2) := wkS_d ht (fun q => absurd q.1 (flt_ge (Int32.not_lt.mpr h78)))
        obtain ⟨k1, k2, k3⟩ := g_wkS (tx := tx) (gv := gv) (g := g) g_exT hs h0
        rw [es] at k1 k2 k3
        have k4 : (exT n tx nm s).2.1 ≤ n := k1.1
        cases hm : tkB n tx 59 (exT n tx nm s).2
        · have el := wkL_f (m := m) (show tkB n tx 59 (wkS (exT n tx nm) n tx gv g s).2.2 = false from by rw [es]; exact hm)
          rw [es] at el
          rw [el] at hr
          subst hr
          rw [if_neg (show ¬ false = true by decide)]
          refine j_iload dX11_workOut_33 rfl ?_
          refine j_if_eq (tgt := 107) dX11_workOut_35 (by decide) (fun _ => ?_) (fun h => absurd (by decide) h)
          refine j_aload_n dX11_workOut_107 rfl rfl ?_
          refine t_getI dX11_workOut_108 jfl_X11_169 (fun _ _ _ => rfl) (fun _ => rfl) ?_
          refine j_topE pX_19 ?_
          refine j_if_ge (tgt := 130) dX11_workOut_111 (by decide) (fun h111 => ?_) (fun h111 => ?_)
          · refine j_iload dX11_workOut_130 rfl ?_
            refine j_ireturn dX11_workOut_132 rfl ?_
            rw [if_neg (fun q => absurd q.1 (flt_ge (Int32.not_lt.mpr h111)))]
            exact ⟨rfl, rfl⟩
          · refine j_aload_n dX11_workOut_114 rfl rfl ?_
            refine t_getI dX11_workOut_115 jfl_X11_160 (fun _ _ _ => rfl) (fun _ => rfl) ?_
            refine j_topE pX_17 ?_
            refine j_aload_n dX11_workOut_118 rfl rfl ?_
            refine t_getI dX11_workOut_119 jfl_X11_163 (fun _ _ _ => rfl) (fun _ => rfl) ?_
            refine j_topE (e' := nI n) ((pX_n (by decide) (by decide) (by decide)).trans hw.2.2.1) ?_
            refine jn_icmp_ge (tgt := 130) dX11_workOut_122 (by decide) (by omega) (by omega) (fun h122 => ?_) (fun h122 => ?_)
            · refine j_iload dX11_workOut_130 rfl ?_
              refine j_ireturn dX11_workOut_132 rfl ?_
              rw [if_neg (fun q => by have q2 : (exT n tx nm s).2.1 < n := q.2; omega)]
              exact ⟨rfl, rfl⟩
            · refine j_aload_n dX11_workOut_125 rfl rfl ?_
              refine j_callVi [] [] dX11_workOut_126 jlk_X11_196 rfl rfl rfl rfl (Nat.le_of_ble_eq_true rfl) (m_wrong hw k1) ?_
              refine j_ireturn dX11_workOut_129 rfl ?_
              rw [if_pos ⟨flt_lt hn120 k1 (Int32.not_le.mp h111), h122⟩]
              exact ⟨rfl, rfl⟩
        · have el := wkL_t (m := m) (show tkB n tx 59 (wkS (exT n tx nm) n tx gv g s).2.2 = true from by rw [es]; exact hm)
          rw [es] at el
          rw [el] at hr
          have htk := tk_1 hm (by decide)
          refine j_sub (by exact ⟨rfl, rfl, rfl, rfl, rfl, rfl, trivial⟩) (ih gv g (adP (exT n tx nm s).2) r (pok_tk k1 hm (by decide)) (fun q => k3 q) ?_ hr)
          have k2 : s.1 ≤ (exT n tx nm s).2.1 := k2
          show n - ((exT n tx nm s).2.1 + 1) < m
          omega
      · refine j_iload dX11_workOut_81 rfl ?_
        refine j_if_eq (tgt := 96) dX11_workOut_83 (by decide) (fun h => absurd h (by decide)) (fun _ => ?_)
        refine j_iload_n dX11_workOut_86 rfl rfl ?_
        refine j_if_ne (tgt := 96) dX11_workOut_87 (by decide) (fun h87 => ?_) (fun h87 => ?_)
        · refine j_aload_n dX11_workOut_96 rfl rfl ?_
          refine j_bipush (v := nI 59) dX11_workOut_97 rfl ?_
          refine j_callVi [.int _] [] dX11_workOut_99 jlk_X11_179 rfl rfl rfl rfl (Nat.le_of_ble_eq_true rfl) (m_takes (d := d + 48) hw g1 (by decide)) ?_
          refine j_istore (lv' := [some (.ref 76), some (.int _), some (.int _), some (.int _), some (.int _), some (.int _), some (.int _), some (.int _)]) dX11_workOut_102 (by decide) rfl ?_
          refine j_goto (tgt := 33) dX11_workOut_104 (by decide) ?_
          have es : (wkS (exT n tx nm) n tx gv g s) = (gv, g, (exT n tx nm s).2) := wkS_d ht (fun q => by rw [q.2] at h87; exact h87 rfl)
          obtain ⟨k1, k2, k3⟩ := g_wkS (tx := tx) (gv := gv) (g := g) g_exT hs h0
          rw [es] at k1 k2 k3
          have k4 : (exT n tx nm s).2.1 ≤ n := k1.1
          cases hm : tkB n tx 59 (exT n tx nm s).2
          · have el := wkL_f (m := m) (show tkB n tx 59 (wkS (exT n tx nm) n tx gv g s).2.2 = false from by rw [es]; exact hm)
            rw [es] at el
            rw [el] at hr
            subst hr
            rw [if_neg (show ¬ false = true by decide)]
            refine j_iload dX11_workOut_33 rfl ?_
            refine j_if_eq (tgt := 107) dX11_workOut_35 (by decide) (fun _ => ?_) (fun h => absurd (by decide) h)
            refine j_aload_n dX11_workOut_107 rfl rfl ?_
            refine t_getI dX11_workOut_108 jfl_X11_169 (fun _ _ _ => rfl) (fun _ => rfl) ?_
            refine j_topE pX_19 ?_
            refine j_if_ge (tgt := 130) dX11_workOut_111 (by decide) (fun h111 => ?_) (fun h111 => ?_)
            · refine j_iload dX11_workOut_130 rfl ?_
              refine j_ireturn dX11_workOut_132 rfl ?_
              rw [if_neg (fun q => absurd q.1 (flt_ge (Int32.not_lt.mpr h111)))]
              exact ⟨rfl, rfl⟩
            · refine j_aload_n dX11_workOut_114 rfl rfl ?_
              refine t_getI dX11_workOut_115 jfl_X11_160 (fun _ _ _ => rfl) (fun _ => rfl) ?_
              refine j_topE pX_17 ?_
              refine j_aload_n dX11_workOut_118 rfl rfl ?_
              refine t_getI dX11_workOut_119 jfl_X11_163 (fun _ _ _ => rfl) (fun _ => rfl) ?_
              refine j_topE (e' := nI n) ((pX_n (by decide) (by decide) (by decide)).trans hw.2.2.1) ?_
              refine jn_icmp_ge (tgt := 130) dX11_workOut_122 (by decide) (by omega) (by omega) (fun h122 => ?_) (fun h122 => ?_)
              · refine j_iload dX11_workOut_130 rfl ?_
                refine j_ireturn dX11_workOut_132 rfl ?_
                rw [if_neg (fun q => by have q2 : (exT n tx nm s).2.1 < n := q.2; omega)]
                exact ⟨rfl, rfl⟩
              · refine j_aload_n dX11_workOut_125 rfl rfl ?_
                refine j_callVi [] [] dX11_workOut_126 jlk_X11_196 rfl rfl rfl rfl (Nat.le_of_ble_eq_true rfl) (m_wrong hw k1) ?_
                refine j_ireturn dX11_workOut_129 rfl ?_
                rw [if_pos ⟨flt_lt hn120 k1 (Int32.not_le.mp h111), h122⟩]
                exact ⟨rfl, rfl⟩
          · have el := wkL_t (m := m) (show tkB n tx 59 (wkS (exT n tx nm) n tx gv g s).2.2 = true from by rw [es]; exact hm)
            rw [es] at el
            rw [el] at hr
            have htk := tk_1 hm (by decide)
            refine j_sub (by exact ⟨rfl, rfl, rfl, rfl, rfl, rfl, trivial⟩) (ih gv g (adP (exT n tx nm s).2) r (pok_tk k1 hm (by decide)) (fun q => k3 q) ?_ hr)
            have k2 : s.1 ≤ (exT n tx nm s).2.1 := k2
            show n - ((exT n tx nm s).2.1 + 1) < m
            omega
        · have hgv : gv = false := by
            cases gv with
            | false => rfl
            | true => exact absurd (show bz true = 0 from by first | exact h87 | simpa using h87) (by decide)
          refine j_iconst (v := nI 1) dX11_workOut_90 rfl ?_
          refine j_istore_n (lv' := [some (.ref 76), some (.int _), some (.int _), some (.int _), some (.int _), some (.int _), some (.int _), some (.int _)]) dX11_workOut_91 rfl (by decide) rfl ?_
          refine j_iload dX11_workOut_92 rfl ?_
          refine j_istore (lv' := [some (.ref 76), some (.int _), some (.int _), some (.int _), some (.int _), some (.int _), some (.int _), some (.int _)]) dX11_workOut_94 (by decide) rfl ?_
          refine j_aload_n dX11_workOut_96 rfl rfl ?_
          refine j_bipush (v := nI 59) dX11_workOut_97 rfl ?_
          refine j_callVi [.int _] [] dX11_workOut_99 jlk_X11_179 rfl rfl rfl rfl (Nat.le_of_ble_eq_true rfl) (m_takes (d := d + 48) hw g1 (by decide)) ?_
          refine j_istore (lv' := [some (.ref 76), some (.int _), some (.int _), some (.int _), some (.int _), some (.int _), some (.int _), some (.int _)]) dX11_workOut_102 (by decide) rfl ?_
          refine j_goto (tgt := 33) dX11_workOut_104 (by decide) ?_
          have es : (wkS (exT n tx nm) n tx gv g s) = (true, (exT n tx nm s).1, (exT n tx nm s).2) := wkS_c ht (flt_lt hn120 g1 (Int32.not_le.mp h78)) hgv
          obtain ⟨k1, k2, k3⟩ := g_wkS (tx := tx) (gv := gv) (g := g) g_exT hs h0
          rw [es] at k1 k2 k3
          have k4 : (exT n tx nm s).2.1 ≤ n := k1.1
          cases hm : tkB n tx 59 (exT n tx nm s).2
          · have el := wkL_f (m := m) (show tkB n tx 59 (wkS (exT n tx nm) n tx gv g s).2.2 = false from by rw [es]; exact hm)
            rw [es] at el
            rw [el] at hr
            subst hr
            rw [if_neg (show ¬ false = true by decide)]
            refine j_iload dX11_workOut_33 rfl ?_
            refine j_if_eq (tgt := 107) dX11_workOut_35 (by decide) (fun _ => ?_) (fun h => absurd (by decide) h)
            refine j_aload_n dX11_workOut_107 rfl rfl ?_
            refine t_getI dX11_workOut_108 jfl_X11_169 (fun _ _ _ => rfl) (fun _ => rfl) ?_
            refine j_topE pX_19 ?_
            refine j_if_ge (tgt := 130) dX11_workOut_111 (by decide) (fun h111 => ?_) (fun h111 => ?_)
            · refine j_iload dX11_workOut_130 rfl ?_
              refine j_ireturn dX11_workOut_132 rfl ?_
              rw [if_neg (fun q => absurd q.1 (flt_ge (Int32.not_lt.mpr h111)))]
              exact ⟨rfl, rfl⟩
            · refine j_aload_n dX11_workOut_114 rfl rfl ?_
              refine t_getI dX11_workOut_115 jfl_X11_160 (fun _ _ _ => rfl) (fun _ => rfl) ?_
              refine j_topE pX_17 ?_
              refine j_aload_n dX11_workOut_118 rfl rfl ?_
              refine t_getI dX11_workOut_119 jfl_X11_163 (fun _ _ _ => rfl) (fun _ => rfl) ?_
              refine j_topE (e' := nI n) ((pX_n (by decide) (by decide) (by decide)).trans hw.2.2.1) ?_
              refine jn_icmp_ge (tgt := 130) dX11_workOut_122 (by decide) (by omega) (by omega) (fun h122 => ?_) (fun h122 => ?_)
              · refine j_iload dX11_workOut_130 rfl ?_
                refine j_ireturn dX11_workOut_132 rfl ?_
                rw [if_neg (fun q => by have q2 : (exT n tx nm s).2.1 < n := q.2; omega)]
                exact ⟨rfl, rfl⟩
              · refine j_aload_n dX11_workOut_125 rfl rfl ?_
                refine j_callVi [] [] dX11_workOut_126 jlk_X11_196 rfl rfl rfl rfl (Nat.le_of_ble_eq_true rfl) (m_wrong hw k1) ?_
                refine j_ireturn dX11_workOut_129 rfl ?_
                rw [if_pos ⟨flt_lt hn120 k1 (Int32.not_le.mp h111), h122⟩]
                exact ⟨rfl, rfl⟩
          · have el := wkL_t (m := m) (show tkB n tx 59 (wkS (exT n tx nm) n tx gv g s).2.2 = true from by rw [es]; exact hm)
            rw [es] at el
            rw [el] at hr
            have htk := tk_1 hm (by decide)
            refine j_sub (by exact ⟨rfl, rfl, rfl, rfl, rfl, rfl, trivial⟩) (ih true (exT n tx nm s).1 (adP (exT n tx nm s).2) r (pok_tk k1 hm (by decide)) (fun q => k3 q) ?_ hr)
            have k2 : s.1 ≤ (exT n tx nm s).2.1 := k2
            show n - ((exT n tx nm s).2.1 + 1) < m
            omega
    · have ht := bz_t h53
      rw [ht, if_pos rfl]
      obtain ⟨j1, j2, j3, j4⟩ := g_exT (tx := tx) (nm := nm) (adP (exT n tx nm s).2) (pok_tk g1 ht (by decide)) (fun q => (g3 q).1)
      refine j_iload dX11_workOut_56 rfl ?_
      refine j_if_eq (tgt := 65) dX11_workOut_58 (by decide) (fun h58 => ?_) (fun h58 => ?_)
      · refine j_iconst (v := nI 0) dX11_workOut_65 rfl ?_
        refine j_istore (lv' := [some (.ref 76), some (.int _), some (.int _), some (.int _), some (.int _), some (.int _), some (.int _), some (.int _)]) dX11_workOut_66 (by decide) rfl ?_
        refine j_aload_n dX11_workOut_68 rfl rfl ?_
        refine j_callVi [] [] dX11_workOut_69 jlk_X11_199 rfl rfl rfl rfl (Nat.le_of_ble_eq_true rfl) (m_exT hw hnm (pok_tk g1 ht (by decide)) (fun q => (g3 q).1)) ?_
        refine j_istore (lv' := [some (.ref 76), some (.int _), some (.int _), some (.int _), some (.int _), some (.int _), some (.int _), some (.int _)]) dX11_workOut_72 (by decide) rfl ?_
        refine j_aload_n dX11_workOut_74 rfl rfl ?_
        refine t_getI dX11_workOut_75 jfl_X11_169 (fun _ _ _ => rfl) (fun _ => rfl) ?_
        refine j_topE pX_19 ?_
        refine j_if_ge (tgt := 96) dX11_workOut_78 (by decide) (fun h78 => ?_) (fun h78 => ?_)
        · refine j_aload_n dX11_workOut_96 rfl rfl ?_
          refine j_bipush (v := nI 59) dX11_workOut_97 rfl ?_
          refine j_callVi [.int _] [] dX11_workOut_99 jlk_X11_179 rfl rfl rfl rfl (Nat.le_of_ble_eq_true rfl) (m_takes (d := d + 48) hw j1 (by decide)) ?_
          refine j_istore (lv' := [some (.ref 76), some (.int _), some (.int _), some (.int _), some (.int _), some (.int _), some (.int _), some (.int _)]) dX11_workOut_102 (by decide) rfl ?_
          refine j_goto (tgt := 33) dX11_workOut_104 (by decide) ?_
          have es : (wkS (exT n tx nm) n tx gv g s) = (gv, g, (exT n tx nm (adP (exT n tx nm s).2)).2) := wkS_b ht (fun q => absurd q.1 (flt_ge (Int32.not_lt.mpr h78)))
          obtain ⟨k1, k2, k3⟩ := g_wkS (tx := tx) (gv := gv) (g := g) g_exT hs h0
          rw [es] at k1 k2 k3
          have k4 : (exT n tx nm (adP (exT n tx nm s).2)).2.1 ≤ n := k1.1
          cases hm : tkB n tx 59 (exT n tx nm (adP (exT n tx nm s).2)).2
          · have el := wkL_f (m := m) (show tkB n tx 59 (wkS (exT n tx nm) n tx gv g s).2.2 = false from by rw [es]; exact hm)
            rw [es] at el
            rw [el] at hr
            subst hr
            rw [if_neg (show ¬ false = true by decide)]
            refine j_iload dX11_workOut_33 rfl ?_
            refine j_if_eq (tgt := 107) dX11_workOut_35 (by decide) (fun _ => ?_) (fun h => absurd (by decide) h)
            refine j_aload_n dX11_workOut_107 rfl rfl ?_
            refine t_getI dX11_workOut_108 jfl_X11_169 (fun _ _ _ => rfl) (fun _ => rfl) ?_
            refine j_topE pX_19 ?_
            refine j_if_ge (tgt := 130) dX11_workOut_111 (by decide) (fun h111 => ?_) (fun h111 => ?_)
            · refine j_iload dX11_workOut_130 rfl ?_
              refine j_ireturn dX11_workOut_132 rfl ?_
              rw [if_neg (fun q => absurd q.1 (flt_ge (Int32.not_lt.mpr h111)))]
              exact ⟨rfl, rfl⟩
            · refine j_aload_n dX11_workOut_114 rfl rfl ?_
              refine t_getI dX11_workOut_115 jfl_X11_160 (fun _ _ _ => rfl) (fun _ => rfl) ?_
              refine j_topE pX_17 ?_
              refine j_aload_n dX11_workOut_118 rfl rfl ?_
              refine t_getI dX11_workOut_119 jfl_X11_163 (fun _ _ _ => rfl) (fun _ => rfl) ?_
              refine j_topE (e' := nI n) ((pX_n (by decide) (by decide) (by decide)).trans hw.2.2.1) ?_
              refine jn_icmp_ge (tgt := 130) dX11_workOut_122 (by decide) (by omega) (by omega) (fun h122 => ?_) (fun h122 => ?_)
              · refine j_iload dX11_workOut_130 rfl ?_
                refine j_ireturn dX11_workOut_132 rfl ?_
                rw [if_neg (fun q => by have q2 : (exT n tx nm (adP (exT n tx nm s).2)).2.1 < n := q.2; omega)]
                exact ⟨rfl, rfl⟩
              · refine j_aload_n dX11_workOut_125 rfl rfl ?_
                refine j_callVi [] [] dX11_workOut_126 jlk_X11_196 rfl rfl rfl rfl (Nat.le_of_ble_eq_true rfl) (m_wrong hw k1) ?_
                refine j_ireturn dX11_workOut_129 rfl ?_
                rw [if_pos ⟨flt_lt hn120 k1 (Int32.not_le.mp h111), h122⟩]
                exact ⟨rfl, rfl⟩
          · have el := wkL_t (m := m) (show tkB n tx 59 (wkS (exT n tx nm) n tx gv g s).2.2 = true from by rw [es]; exact hm)
            rw [es] at el
            rw [el] at hr
            have htk := tk_1 hm (by decide)
            refine j_sub (by exact ⟨rfl, rfl, rfl, rfl, rfl, rfl, trivial⟩) (ih gv g (adP (exT n tx nm (adP (exT n tx nm s).2)).2) r (pok_tk k1 hm (by decide)) (fun q => k3 q) ?_ hr)
            have k2 : s.1 ≤ (exT n tx nm (adP (exT n tx nm s).2)).2.1 := k2
            show n - ((exT n tx nm (adP (exT n tx nm s).2)).2.1 + 1) < m
            omega
        · refine j_iload dX11_workOut_81 rfl ?_
          refine j_if_eq (tgt := 96) dX11_workOut_83 (by decide) (fun _ => ?_) (fun h => absurd (by decide) h)
          refine j_aload_n dX11_workOut_96 rfl rfl ?_
          refine j_bipush (v := nI 59) dX11_workOut_97 rfl ?_
          refine j_callVi [.int _] [] dX11_workOut_99 jlk_X11_179 rfl rfl rfl rfl (Nat.le_of_ble_eq_true rfl) (m_takes (d := d + 48) hw j1 (by decide)) ?_
          refine j_istore (lv' := [some (.ref 76), some (.int _), some (.int _), some (.int _), some (.int _), some (.int _), some (.int _), some (.int _)]) dX11_workOut_102 (by decide) rfl ?_
          refine j_goto (tgt := 33) dX11_workOut_104 (by decide) ?_
          have es : (wkS (exT n tx nm) n tx gv g s) = (gv, g, (exT n tx nm (adP (exT n tx nm s).2)).2) := wkS_b ht (fun q => q.2.1 (by first | exact h58 | simpa using h58))
          obtain ⟨k1, k2, k3⟩ := g_wkS (tx := tx) (gv := gv) (g := g) g_exT hs h0
          rw [es] at k1 k2 k3
          have k4 : (exT n tx nm (adP (exT n tx nm s).2)).2.1 ≤ n := k1.1
          cases hm : tkB n tx 59 (exT n tx nm (adP (exT n tx nm s).2)).2
          · have el := wkL_f (m := m) (show tkB n tx 59 (wkS (exT n tx nm) n tx gv g s).2.2 = false from by rw [es]; exact hm)
            rw [es] at el
            rw [el] at hr
            subst hr
            rw [if_neg (show ¬ false = true by decide)]
            refine j_iload dX11_workOut_33 rfl ?_
            refine j_if_eq (tgt := 107) dX11_workOut_35 (by decide) (fun _ => ?_) (fun h => absurd (by decide) h)
            refine j_aload_n dX11_workOut_107 rfl rfl ?_
            refine t_getI dX11_workOut_108 jfl_X11_169 (fun _ _ _ => rfl) (fun _ => rfl) ?_
            refine j_topE pX_19 ?_
            refine j_if_ge (tgt := 130) dX11_workOut_111 (by decide) (fun h111 => ?_) (fun h111 => ?_)
            · refine j_iload dX11_workOut_130 rfl ?_
              refine j_ireturn dX11_workOut_132 rfl ?_
              rw [if_neg (fun q => absurd q.1 (flt_ge (Int32.not_lt.mpr h111)))]
              exact ⟨rfl, rfl⟩
            · refine j_aload_n dX11_workOut_114 rfl rfl ?_
              refine t_getI dX11_workOut_115 jfl_X11_160 (fun _ _ _ => rfl) (fun _ => rfl) ?_
              refine j_topE pX_17 ?_
              refine j_aload_n dX11_workOut_118 rfl rfl ?_
              refine t_getI dX11_workOut_119 jfl_X11_163 (fun _ _ _ => rfl) (fun _ => rfl) ?_
              refine j_topE (e' := nI n) ((pX_n (by decide) (by decide) (by decide)).trans hw.2.2.1) ?_
              refine jn_icmp_ge (tgt := 130) dX11_workOut_122 (by decide) (by omega) (by omega) (fun h122 => ?_) (fun h122 => ?_)
              · refine j_iload dX11_workOut_130 rfl ?_
                refine j_ireturn dX11_workOut_132 rfl ?_
                rw [if_neg (fun q => by have q2 : (exT n tx nm (adP (exT n tx nm s).2)).2.1 < n := q.2; omega)]
                exact ⟨rfl, rfl⟩
              · refine j_aload_n dX11_workOut_125 rfl rfl ?_
                refine j_callVi [] [] dX11_workOut_126 jlk_X11_196 rfl rfl rfl rfl (Nat.le_of_ble_eq_true rfl) (m_wrong hw k1) ?_
                refine j_ireturn dX11_workOut_129 rfl ?_
                rw [if_pos ⟨flt_lt hn120 k1 (Int32.not_le.mp h111), h122⟩]
                exact ⟨rfl, rfl⟩
          · have el := wkL_t (m := m) (show tkB n tx 59 (wkS (exT n tx nm) n tx gv g s).2.2 = true from by rw [es]; exact hm)
            rw [es] at el
            rw [el] at hr
            have htk := tk_1 hm (by decide)
            refine j_sub (by exact ⟨rfl, rfl, rfl, rfl, rfl, rfl, trivial⟩) (ih gv g (adP (exT n tx nm (adP (exT n tx nm s).2)).2) r (pok_tk k1 hm (by decide)) (fun q => k3 q) ?_ hr)
            have k2 : s.1 ≤ (exT n tx nm (adP (exT n tx nm s).2)).2.1 := k2
            show n - ((exT n tx nm (adP (exT n tx nm s).2)).2.1 + 1) < m
            omega
      · refine j_iconst (v := nI 1) dX11_workOut_61 rfl ?_
        refine j_goto (tgt := 66) dX11_workOut_62 (by decide) ?_
        refine j_istore (lv' := [some (.ref 76), some (.int _), some (.int _), some (.int _), some (.int _), some (.int _), some (.int _), some (.int _)]) dX11_workOut_66 (by decide) rfl ?_
        refine j_aload_n dX11_workOut_68 rfl rfl ?_
        refine j_callVi [] [] dX11_workOut_69 jlk_X11_199 rfl rfl rfl rfl (Nat.le_of_ble_eq_true rfl) (m_exT hw hnm (pok_tk g1 ht (by decide)) (fun q => (g3 q).1)) ?_
        refine j_istore (lv' := [some (.ref 76), some (.int _), some (.int _), some (.int _), some (.int _), some (.int _), some (.int _), some (.int _)]) dX11_workOut_72 (by decide) rfl ?_
        refine j_aload_n dX11_workOut_74 rfl rfl ?_
        refine t_getI dX11_workOut_75 jfl_X11_169 (fun _ _ _ => rfl) (fun _ => rfl) ?_
        refine j_topE pX_19 ?_
        refine j_if_ge (tgt := 96) dX11_workOut_78 (by decide) (fun h78 => ?_) (fun h78 => ?_)
        · refine j_aload_n dX11_workOut_96 rfl rfl ?_
          refine j_bipush (v := nI 59) dX11_workOut_97 rfl ?_
          refine j_callVi [.int _] [] dX11_workOut_99 jlk_X11_179 rfl rfl rfl rfl (Nat.le_of_ble_eq_true rfl) (m_takes (d := d + 48) hw j1 (by decide)) ?_
          refine j_istore (lv' := [some (.ref 76), some (.int _), some (.int _), some (.int _), some (.int _), some (.int _), some (.int _), some (.int _)]) dX11_workOut_102 (by decide) rfl ?_
          refine j_goto (tgt := 33) dX11_workOut_104 (by decide) ?_
          have es : (wkS (exT n tx nm) n tx gv g s) = (gv, g, (exT n tx nm (adP (exT n tx nm s).2)).2) := wkS_b ht (fun q => absurd q.1 (flt_ge (Int32.not_lt.mpr h78)))
          obtain ⟨k1, k2, k3⟩ := g_wkS (tx := tx) (gv := gv) (g := g) g_exT hs h0
          rw [es] at k1 k2 k3
          have k4 : (exT n tx nm (adP (exT n tx nm s).2)).2.1 ≤ n := k1.1
          cases hm : tkB n tx 59 (exT n tx nm (adP (exT n tx nm s).2)).2
          · have el := wkL_f (m := m) (show tkB n tx 59 (wkS (exT n tx nm) n tx gv g s).2.2 = false from by rw [es]; exact hm)
            rw [es] at el
            rw [el] at hr
            subst hr
            rw [if_neg (show ¬ false = true by decide)]
            refine j_iload dX11_workOut_33 rfl ?_
            refine j_if_eq (tgt := 107) dX11_workOut_35 (by decide) (fun _ => ?_) (fun h => absurd (by decide) h)
            refine j_aload_n dX11_workOut_107 rfl rfl ?_
            refine t_getI dX11_workOut_108 jfl_X11_169 (fun _ _ _ => rfl) (fun _ => rfl) ?_
            refine j_topE pX_19 ?_
            refine j_if_ge (tgt := 130) dX11_workOut_111 (by decide) (fun h111 => ?_) (fun h111 => ?_)
            · refine j_iload dX11_workOut_130 rfl ?_
              refine j_ireturn dX11_workOut_132 rfl ?_
              rw [if_neg (fun q => absurd q.1 (flt_ge (Int32.not_lt.mpr h111)))]
              exact ⟨rfl, rfl⟩
            · refine j_aload_n dX11_workOut_114 rfl rfl ?_
              refine t_getI dX11_workOut_115 jfl_X11_160 (fun _ _ _ => rfl) (fun _ => rfl) ?_
              refine j_topE pX_17 ?_
              refine j_aload_n dX11_workOut_118 rfl rfl ?_
              refine t_getI dX11_workOut_119 jfl_X11_163 (fun _ _ _ => rfl) (fun _ => rfl) ?_
              refine j_topE (e' := nI n) ((pX_n (by decide) (by decide) (by decide)).trans hw.2.2.1) ?_
              refine jn_icmp_ge (tgt := 130) dX11_workOut_122 (by decide) (by omega) (by omega) (fun h122 => ?_) (fun h122 => ?_)
              · refine j_iload dX11_workOut_130 rfl ?_
                refine j_ireturn dX11_workOut_132 rfl ?_
                rw [if_neg (fun q => by have q2 : (exT n tx nm (adP (exT n tx nm s).2)).2.1 < n := q.2; omega)]
                exact ⟨rfl, rfl⟩
              · refine j_aload_n dX11_workOut_125 rfl rfl ?_
                refine j_callVi [] [] dX11_workOut_126 jlk_X11_196 rfl rfl rfl rfl (Nat.le_of_ble_eq_true rfl) (m_wrong hw k1) ?_
                refine j_ireturn dX11_workOut_129 rfl ?_
                rw [if_pos ⟨flt_lt hn120 k1 (Int32.not_le.mp h111), h122⟩]
                exact ⟨rfl, rfl⟩
          · have el := wkL_t (m := m) (show tkB n tx 59 (wkS (exT n tx nm) n tx gv g s).2.2 = true from by rw [es]; exact hm)
            rw [es] at el
            rw [el] at hr
            have htk := tk_1 hm (by decide)
            refine j_sub (by exact ⟨rfl, rfl, rfl, rfl, rfl, rfl, trivial⟩) (ih gv g (adP (exT n tx nm (adP (exT n tx nm s).2)).2) r (pok_tk k1 hm (by decide)) (fun q => k3 q) ?_ hr)
            have k2 : s.1 ≤ (exT n tx nm (adP (exT n tx nm s).2)).2.1 := k2
            show n - ((exT n tx nm (adP (exT n tx nm s).2)).2.1 + 1) < m
            omega
        · refine j_iload dX11_workOut_81 rfl ?_
          refine j_if_eq (tgt := 96) dX11_workOut_83 (by decide) (fun h => absurd h (by decide)) (fun _ => ?_)
          refine j_iload_n dX11_workOut_86 rfl rfl ?_
          refine j_if_ne (tgt := 96) dX11_workOut_87 (by decide) (fun h87 => ?_) (fun h87 => ?_)
          · refine j_aload_n dX11_workOut_96 rfl rfl ?_
            refine j_bipush (v := nI 59) dX11_workOut_97 rfl ?_
            refine j_callVi [.int _] [] dX11_workOut_99 jlk_X11_179 rfl rfl rfl rfl (Nat.le_of_ble_eq_true rfl) (m_takes (d := d + 48) hw j1 (by decide)) ?_
            refine j_istore (lv' := [some (.ref 76), some (.int _), some (.int _), some (.int _), some (.int _), some (.int _), some (.int _), some (.int _)]) dX11_workOut_102 (by decide) rfl ?_
            refine j_goto (tgt := 33) dX11_workOut_104 (by decide) ?_
            have es : (wkS (exT n tx nm) n tx gv g s) = (gv, g, (exT n tx nm (adP (exT n tx nm s).2)).2) := wkS_b ht (fun q => by rw [q.2.2] at h87; exact h87 rfl)
            obtain ⟨k1, k2, k3⟩ := g_wkS (tx := tx) (gv := gv) (g := g) g_exT hs h0
            rw [es] at k1 k2 k3
            have k4 : (exT n tx nm (adP (exT n tx nm s).2)).2.1 ≤ n := k1.1
            cases hm : tkB n tx 59 (exT n tx nm (adP (exT n tx nm s).2)).2
            · have el := wkL_f (m := m) (show tkB n tx 59 (wkS (exT n tx nm) n tx gv g s).2.2 = false from by rw [es]; exact hm)
              rw [es] at el
              rw [el] at hr
              subst hr
              rw [if_neg (show ¬ false = true by decide)]
              refine j_iload dX11_workOut_33 rfl ?_
              refine j_if_eq (tgt := 107) dX11_workOut_35 (by decide) (fun _ => ?_) (fun h => absurd (by decide) h)
              refine j_aload_n dX11_workOut_107 rfl rfl ?_
              refine t_getI dX11_workOut_108 jfl_X11_169 (fun _ _ _ => rfl) (fun _ => rfl) ?_
              refine j_topE pX_19 ?_
              refine j_if_ge (tgt := 130) dX11_workOut_111 (by decide) (fun h111 => ?_) (fun h111 => ?_)
              · refine j_iload dX11_workOut_130 rfl ?_
                refine j_ireturn dX11_workOut_132 rfl ?_
                rw [if_neg (fun q => absurd q.1 (flt_ge (Int32.not_lt.mpr h111)))]
                exact ⟨rfl, rfl⟩
              · refine j_aload_n dX11_workOut_114 rfl rfl ?_
                refine t_getI dX11_workOut_115 jfl_X11_160 (fun _ _ _ => rfl) (fun _ => rfl) ?_
                refine j_topE pX_17 ?_
                refine j_aload_n dX11_workOut_118 rfl rfl ?_
                refine t_getI dX11_workOut_119 jfl_X11_163 (fun _ _ _ => rfl) (fun _ => rfl) ?_
                refine j_topE (e' := nI n) ((pX_n (by decide) (by decide) (by decide)).trans hw.2.2.1) ?_
                refine jn_icmp_ge (tgt := 130) dX11_workOut_122 (by decide) (by omega) (by omega) (fun h122 => ?_) (fun h122 => ?_)
                · refine j_iload dX11_workOut_130 rfl ?_
                  refine j_ireturn dX11_workOut_132 rfl ?_
                  rw [if_neg (fun q => by have q2 : (exT n tx nm (adP (exT n tx nm s).2)).2.1 < n := q.2; omega)]
                  exact ⟨rfl, rfl⟩
                · refine j_aload_n dX11_workOut_125 rfl rfl ?_
                  refine j_callVi [] [] dX11_workOut_126 jlk_X11_196 rfl rfl rfl rfl (Nat.le_of_ble_eq_true rfl) (m_wrong hw k1) ?_
                  refine j_ireturn dX11_workOut_129 rfl ?_
                  rw [if_pos ⟨flt_lt hn120 k1 (Int32.not_le.mp h111), h122⟩]
                  exact ⟨rfl, rfl⟩
            · have el := wkL_t (m := m) (show tkB n tx 59 (wkS (exT n tx nm) n tx gv g s).2.2 = true from by rw [es]; exact hm)
              rw [es] at el
              rw [el] at hr
              have htk := tk_1 hm (by decide)
              refine j_sub (by exact ⟨rfl, rfl, rfl, rfl, rfl, rfl, trivial⟩) (ih gv g (adP (exT n tx nm (adP (exT n tx nm s).2)).2) r (pok_tk k1 hm (by decide)) (fun q => k3 q) ?_ hr)
              have k2 : s.1 ≤ (exT n tx nm (adP (exT n tx nm s).2)).2.1 := k2
              show n - ((exT n tx nm (adP (exT n tx nm s).2)).2.1 + 1) < m
              omega
          · have hgv : gv = false := by
              cases gv with
              | false => rfl
              | true => exact absurd (show bz true = 0 from by first | exact h87 | simpa using h87) (by decide)
            refine j_iconst (v := nI 1) dX11_workOut_90 rfl ?_
            refine j_istore_n (lv' := [some (.ref 76), some (.int _), some (.int _), some (.int _), some (.int _), some (.int _), some (.int _), some (.int _)]) dX11_workOut_91 rfl (by decide) rfl ?_
            refine j_iload dX11_workOut_92 rfl ?_
            refine j_istore (lv' := [some (.ref 76), some (.int _), some (.int _), some (.int _), some (.int _), some (.int _), some (.int _), some (.int _)]) dX11_workOut_94 (by decide) rfl ?_
            refine j_aload_n dX11_workOut_96 rfl rfl ?_
            refine j_bipush (v := nI 59) dX11_workOut_97 rfl ?_
            refine j_callVi [.int _] [] dX11_workOut_99 jlk_X11_179 rfl rfl rfl rfl (Nat.le_of_ble_eq_true rfl) (m_takes (d := d + 48) hw j1 (by decide)) ?_
            refine j_istore (lv' := [some (.ref 76), some (.int _), some (.int _), some (.int _), some (.int _), some (.int _), some (.int _), some (.int _)]) dX11_workOut_102 (by decide) rfl ?_
            refine j_goto (tgt := 33) dX11_workOut_104 (by decide) ?_
            have es : (wkS (exT n tx nm) n tx gv g s) = (true, (exT n tx nm (adP (exT n tx nm s).2)).1, (exT n tx nm (adP (exT n tx nm s).2)).2) := wkS_a ht (flt_lt hn120 j1 (Int32.not_le.mp h78)) h58 hgv
            obtain ⟨k1, k2, k3⟩ := g_wkS (tx := tx) (gv := gv) (g := g) g_exT hs h0
            rw [es] at k1 k2 k3
            have k4 : (exT n tx nm (adP (exT n tx nm s).2)).2.1 ≤ n := k1.1
            cases hm : tkB n tx 59 (exT n tx nm (adP (exT n tx nm s).2)).2
            · have el := wkL_f (m := m) (show tkB n tx 59 (wkS (exT n tx nm) n tx gv g s).2.2 = false from by rw [es]; exact hm)
              rw [es] at el
              rw [el] at hr
              subst hr
              rw [if_neg (show ¬ false = true by decide)]
              refine j_iload dX11_workOut_33 rfl ?_
              refine j_if_eq (tgt := 107) dX11_workOut_35 (by decide) (fun _ => ?_) (fun h => absurd (by decide) h)
              refine j_aload_n dX11_workOut_107 rfl rfl ?_
              refine t_getI dX11_workOut_108 jfl_X11_169 (fun _ _ _ => rfl) (fun _ => rfl) ?_
              refine j_topE pX_19 ?_
              refine j_if_ge (tgt := 130) dX11_workOut_111 (by decide) (fun h111 => ?_) (fun h111 => ?_)
              · refine j_iload dX11_workOut_130 rfl ?_
                refine j_ireturn dX11_workOut_132 rfl ?_
                rw [if_neg (fun q => absurd q.1 (flt_ge (Int32.not_lt.mpr h111)))]
                exact ⟨rfl, rfl⟩
              · refine j_aload_n dX11_workOut_114 rfl rfl ?_
                refine t_getI dX11_workOut_115 jfl_X11_160 (fun _ _ _ => rfl) (fun _ => rfl) ?_
                refine j_topE pX_17 ?_
                refine j_aload_n dX11_workOut_118 rfl rfl ?_
                refine t_getI dX11_workOut_119 jfl_X11_163 (fun _ _ _ => rfl) (fun _ => rfl) ?_
                refine j_topE (e' := nI n) ((pX_n (by decide) (by decide) (by decide)).trans hw.2.2.1) ?_
                refine jn_icmp_ge (tgt := 130) dX11_workOut_122 (by decide) (by omega) (by omega) (fun h122 => ?_) (fun h122 => ?_)
                · refine j_iload dX11_workOut_130 rfl ?_
                  refine j_ireturn dX11_workOut_132 rfl ?_
                  rw [if_neg (fun q => by have q2 : (exT n tx nm (adP (exT n tx nm s).2)).2.1 < n := q.2; omega)]
                  exact ⟨rfl, rfl⟩
                · refine j_aload_n dX11_workOut_125 rfl rfl ?_
                  refine j_callVi [] [] dX11_workOut_126 jlk_X11_196 rfl rfl rfl rfl (Nat.le_of_ble_eq_true rfl) (m_wrong hw k1) ?_
                  refine j_ireturn dX11_workOut_129 rfl ?_
                  rw [if_pos ⟨flt_lt hn120 k1 (Int32.not_le.mp h111), h122⟩]
                  exact ⟨rfl, rfl⟩
            · have el := wkL_t (m := m) (show tkB n tx 59 (wkS (exT n tx nm) n tx gv g s).2.2 = true from by rw [es]; exact hm)
              rw [es] at el
              rw [el] at hr
              have htk := tk_1 hm (by decide)
              refine j_sub (by exact ⟨rfl, rfl, rfl, rfl, rfl, rfl, trivial⟩) (ih true (exT n tx nm (adP (exT n tx nm s).2)).1 (adP (exT n tx nm (adP (exT n tx nm s).2)).2) r (pok_tk k1 hm (by decide)) (fun q => k3 q) ?_ hr)
              have k2 : s.1 ≤ (exT n tx nm (adP (exT n tx nm s).2)).2.1 := k2
              show n - ((exT n tx nm (adP (exT n tx nm s).2)).2.1 + 1) < m
              omega

end CT55