/-- what asksGaps leaves: so many cells, what is elsewhere, the truth -/
def gX (X : Nat → Nat → Int32) (g : Nat) (e : Int32) (t : Nat) : Nat → Nat → Int32 := va_up X 76 (upd (upd (upd (X 76) 27 (nI g)) 28 e) 29 (nI t))
section GX
variable {X : Nat → Nat → Int32} {g t g' t' : Nat} {e e' : Int32}
theorem gX_27 : gX X g e t 76 27 = nI g := by unfold gX; rw [vu_s, ud_n _ _ _ (by decide), ud_n _ _ _ (by decide), ud_s]
theorem gX_28 : gX X g e t 76 28 = e := by unfold gX; rw [vu_s, ud_n _ _ _ (by decide), ud_s]
theorem gX_29 : gX X g e t 76 29 = nI t := by unfold gX; rw [vu_s, ud_s]
theorem gX_p27 : va_up (gX X g e t) 76 (upd (gX X g e t 76) 27 (nI g')) = gX X g' e t := by
  unfold gX
  rw [vu_up, vu_s, upd_c _ _ _ (show (29 : Nat) ≠ 27 by decide), upd_c _ _ _ (show (28 : Nat) ≠ 27 by decide), ud_ud]
theorem gX_p28 : va_up (gX X g e t) 76 (upd (gX X g e t 76) 28 e') = gX X g e' t := by
  unfold gX
  rw [vu_up, vu_s, upd_c _ _ _ (show (29 : Nat) ≠ 28 by decide), ud_ud]
theorem gX_p29 : va_up (gX X g e t) 76 (upd (gX X g e t 76) 29 (nI t')) = gX X g e t' := by
  unfold gX
  rw [vu_up, vu_s, ud_ud]
theorem gX_0 : va_up (va_up (va_up X 76 (upd (X 76) 27 (nI g))) 76 (upd (va_up X 76 (upd (X 76) 27 (nI g)) 76) 28 e)) 76 (upd (va_up (va_up X 76 (upd (X 76) 27 (nI g))) 76 (upd (va_up X 76 (upd (X 76) 27 (nI g)) 76) 28 e) 76) 29 (nI t)) = gX X g e t := by
  unfold gX
  simp only [vu_s, vu_up]
end GX
def fiS (p : Nat → Bool) : Nat → Int32
  | 0 => -2
  | i + 1 => if p i = true then (if cnt p i = 0 then nI i else fiS p i) else fiS p i
def suS (p : Nat → Bool) (st : Nat) : Nat → Nat := sureS p st
theorem befB_n (b : Nat → Int32) (c : Int32) (i : Nat) : befB b c (i + 1) = (befB b c i || decide (b i = c)) := rfl
theorem nbz (b : Bool) (x : Prop) [Decidable x] : True := trivial
section CT64
variable {d : Nat} {X A : Nat → Nat → Int32} {L : Nat → Nat → Int64} {w : jW} {tx v : Nat → Nat} {na tm : Nat} {td : Bool}

set_option maxHeartbeats 200000 in
set_option maxRecDepth 100000 in
theorem l_gaps_in {j g : Nat} {a : Int32} {E : Nat → Int32} {x : Int32} (hg : g ≤ 10) {r0 : Bool} {post : Option Value → jW → Prop} {e0 : Int32} {t0 : Nat} {P : Nat → Nat → Int32} (h92 : ∀ i, i < g → P 92 i = E i) (kk : jWP none RX11 cX11_asksGaps 7 none d 0 0 126 [some (.ref 76), some (.int (nI j)), some (.int a), some (.int (bz (r0 && !befB E x g))), some (.long x.toInt64), none, some (.int (nI g))] [] (tw (gX X g e0 t0) P L) post) : ∀ (m i : Nat), i ≤ g → g - i < m → jWP none RX11 cX11_asksGaps 7 none (d) 0 0 89 [some (.ref 76), some (.int (nI j)), some (.int a), some (.int (bz (r0 && !befB E x i))), some (.long x.toInt64), none, some (.int (nI i))] [] (tw (gX X g e0 t0) P L) (post) := by
  intro m
  induction m with
  | zero => intro i h1 h2; omega
  | succ m ih =>
    intro i hi hm
    refine j_iload dX11_asksGaps_89 rfl ?_
    refine j_aload_n dX11_asksGaps_91 rfl rfl ?_
    refine t_getI dX11_asksGaps_92 jfl_X11_295 (fun _ _ _ => rfl) (fun _ => rfl) ?_
    refine j_topE gX_27 ?_
    refine jn_icmp_ge (tgt := 126) dX11_asksGaps_95 (by decide) (by omega) (by omega) (fun h95 => ?_) (fun h95 => ?_)
    · obtain rfl : i = g := by omega
      exact kk
    · refine j_iload_n dX11_asksGaps_98 rfl rfl ?_
      refine j_aload_n dX11_asksGaps_99 rfl rfl ?_
      refine t_getR (b := 92) dX11_asksGaps_100 jfl_X11_58 (fun _ _ _ => rfl) rfl ?_
      refine j_iload dX11_asksGaps_103 rfl ?_
      refine t_iaload dX11_asksGaps_105 (fun _ _ _ => rfl) (by omega) (by decide) ?_
      refine j_topE (e' := E i) (h92 i (by omega)) ?_
      refine j_i2l dX11_asksGaps_106 ?_
      refine j_lload dX11_asksGaps_107 rfl ?_
      refine j_lcmp dX11_asksGaps_109 ?_
      refine j_if_eq (tgt := 117) dX11_asksGaps_110 (by decide) (fun h110 => ?_) (fun h110 => ?_)
      · refine j_iconst (v := nI 0) dX11_asksGaps_117 rfl ?_
        refine j_iand dX11_asksGaps_118 ?_
        refine j_istore_n (lv' := [some (.ref 76), some (.int _), some (.int _), some (.int _), some (.long _), none, some (.int _)]) dX11_asksGaps_119 rfl (by decide) rfl ?_
        refine jn_iinc (lv' := [some (.ref 76), some (.int _), some (.int _), some (.int _), some (.long _), none, some (.int _)]) dX11_asksGaps_120 rfl (by decide) rfl ?_
        refine j_goto (tgt := 89) dX11_asksGaps_123 (by decide) ?_
        refine j_sub ?_ (ih (i + 1) (by omega) (by omega))
        have hb : (r0 && !befB E x (i + 1)) = ((r0 && !befB E x i) && false) := by rw [befB_n, decide_eq_true (jg_eq.mp (by first | exact h110 | simpa using h110))]; cases r0 <;> cases befB E x i <;> rfl
        rw [hb, ← bz_and]
        exact ⟨rfl, rfl, rfl, rfl, rfl, rfl, trivial⟩
      · refine j_iconst (v := nI 1) dX11_asksGaps_113 rfl ?_
        refine j_goto (tgt := 118) dX11_asksGaps_114 (by decide) ?_
        refine j_iand dX11_asksGaps_118 ?_
        refine j_istore_n (lv' := [some (.ref 76), some (.int _), some (.int _), some (.int _), some (.long _), none, some (.int _)]) dX11_asksGaps_119 rfl (by decide) rfl ?_
        refine jn_iinc (lv' := [some (.ref 76), some (.int _), some (.int _), some (.int _), some (.long _), none, some (.int _)]) dX11_asksGaps_120 rfl (by decide) rfl ?_
        refine j_goto (tgt := 89) dX11_asksGaps_123 (by decide) ?_
        refine j_sub ?_ (ih (i + 1) (by omega) (by omega))
        have hb : (r0 && !befB E x (i + 1)) = ((r0 && !befB E x i) && true) := by rw [befB_n, decide_eq_false (fun q => h110 (jg_eq.mpr q))]; cases r0 <;> cases befB E x i <;> rfl
        rw [hb, ← bz_and]
        exact ⟨rfl, rfl, rfl, rfl, rfl, rfl, trivial⟩

set_option maxHeartbeats 200000 in
set_option maxRecDepth 100000 in
theorem l_gaps (hw : ow (A 84)) {j ln : Nat} (hj : j < 6) {E : Nat → Int32} (hm9 : A 101 j = nI ln) (l60 : ln ≤ 60) (hE : ∀ i, i < ln → L 102 (60 * j + i) = (E i).toInt64) {a : Int32} : ∀ (m g r : Nat), g + m = min 10 ln → gcF (A 84) E m g = r → jWP none RX11 cX11_asksGaps 7 none (d + 2) 0 0 25 [some (.ref 76), some (.int (nI j)), some (.int a), some (.int (nI 1)), none, none, none] [] (tw (gX X g (rsS (A 84) (A 85) E a (balS (A 84) (A 85) a 49) g) (trS (A 84) E a g)) (va_up A 92 (csF (A 92) E g)) L) (jRv (tw (gX X r (rsS (A 84) (A 85) E a (balS (A 84) (A 85) a 49) r) (trS (A 84) E a r)) (va_up A 92 (csF (A 92) E r)) L)) := by
  intro m
  induction m with
  | zero =>
    intro g r hg hr
    refine j_iload_n dX11_asksGaps_25 rfl rfl ?_
    refine j_if_eq (tgt := 224) dX11_asksGaps_26 (by decide) (fun h => absurd h (by decide)) (fun _ => ?_)
    refine j_aload_n dX11_asksGaps_29 rfl rfl ?_
    refine t_getI dX11_asksGaps_30 jfl_X11_295 (fun _ _ _ => rfl) (fun _ => rfl) ?_
    refine j_topE gX_27 ?_
    refine j_bipush (v := nI 10) dX11_asksGaps_33 rfl ?_
    refine jn_icmp_ge (tgt := 224) dX11_asksGaps_35 (by decide) (by omega) (by omega) (fun h35 => ?_) (fun h35 => ?_)
    · refine j_return dX11_asksGaps_224 rfl ?_
      have er : g = r := hr
      rw [← er]
      exact ⟨rfl, rfl⟩
    · refine j_aload_n dX11_asksGaps_38 rfl rfl ?_
      refine t_getI dX11_asksGaps_39 jfl_X11_295 (fun _ _ _ => rfl) (fun _ => rfl) ?_
      refine j_topE gX_27 ?_
      refine j_aload_n dX11_asksGaps_42 rfl rfl ?_
      refine t_getR (b := 101) dX11_asksGaps_43 jfl_X11_85 (fun _ _ _ => rfl) rfl ?_
      refine j_iload_n dX11_asksGaps_46 rfl rfl ?_
      refine t_iaload dX11_asksGaps_47 (fun _ _ _ => rfl) (by omega) (by decide) ?_
      refine j_topE (e' := nI ln) ((congrFun (vu_n _ _ _ (by decide)) j).trans hm9) ?_
      refine jn_icmp_ge (tgt := 224) dX11_asksGaps_48 (by decide) (by omega) (by omega) (fun h48 => ?_) (fun h48 => ?_)
      · refine j_return dX11_asksGaps_224 rfl ?_
        have er : g = r := hr
        rw [← er]
        exact ⟨rfl, rfl⟩
      · exfalso
        omega
  | succ m ih =>
    intro g r hg hr
    have hst : gcF (A 84) E (m + 1) g = if gok (A 84) E g = true then gcF (A 84) E m (g + 1) else g := rfl
    refine j_iload_n dX11_asksGaps_25 rfl rfl ?_
    refine j_if_eq (tgt := 224) dX11_asksGaps_26 (by decide) (fun h => absurd h (by decide)) (fun _ => ?_)
    refine j_aload_n dX11_asksGaps_29 rfl rfl ?_
    refine t_getI dX11_asksGaps_30 jfl_X11_295 (fun _ _ _ => rfl) (fun _ => rfl) ?_
    refine j_topE gX_27 ?_
    refine j_bipush (v := nI 10) dX11_asksGaps_33 rfl ?_
    refine jn_icmp_ge (tgt := 224) dX11_asksGaps_35 (by decide) (by omega) (by omega) (fun h35 => absurd h35 (by omega)) (fun h35 => ?_)
    refine j_aload_n dX11_asksGaps_38 rfl rfl ?_
    refine t_getI dX11_asksGaps_39 jfl_X11_295 (fun _ _ _ => rfl) (fun _ => rfl) ?_
    refine j_topE gX_27 ?_
    refine j_aload_n dX11_asksGaps_42 rfl rfl ?_
    refine t_getR (b := 101) dX11_asksGaps_43 jfl_X11_85 (fun _ _ _ => rfl) rfl ?_
    refine j_iload_n dX11_asksGaps_46 rfl rfl ?_
    refine t_iaload dX11_asksGaps_47 (fun _ _ _ => rfl) (by omega) (by decide) ?_
    refine j_topE (e' := nI ln) ((congrFun (vu_n _ _ _ (by decide)) j).trans hm9) ?_
    refine jn_icmp_ge (tgt := 224) dX11_asksGaps_48 (by decide) (by omega) (by omega) (fun h48 => absurd h48 (by omega)) (fun h48 => ?_)
    refine j_aload_n dX11_asksGaps_51 rfl rfl ?_
    refine j_iload_n dX11_asksGaps_52 rfl rfl ?_
    refine j_aload_n dX11_asksGaps_53 rfl rfl ?_
    refine t_getI dX11_asksGaps_54 jfl_X11_295 (fun _ _ _ => rfl) (fun _ => rfl) ?_
    refine j_topE gX_27 ?_
    refine j_callVl [.int _, .int _] [] dX11_asksGaps_57 jlk_X11_221 rfl rfl rfl rfl (Nat.le_of_ble_eq_true rfl) (m_itemE (i := g) (by omega) (hE _ (by omega))) ?_
    refine j_lstore (lv' := [some (.ref 76), some (.int _), some (.int _), some (.int _), some (.long _), none, none]) dX11_asksGaps_60 (by decide) rfl ?_
    refine j_lload dX11_asksGaps_62 rfl ?_
    refine j_callSi [.long _] [] dX11_asksGaps_64 jlk_X11_120 rfl rfl (Nat.le_of_ble_eq_true rfl) (m_isCell) ?_
    refine j_if_eq (tgt := 84) dX11_asksGaps_67 (by decide) (fun h67 => ?_) (fun h67 => ?_)
    · refine j_iconst (v := nI 0) dX11_asksGaps_84 rfl ?_
      refine j_istore_n (lv' := [some (.ref 76), some (.int _), some (.int _), some (.int _), some (.long _), none, none]) dX11_asksGaps_85 rfl (by decide) rfl ?_
      refine j_iconst (v := nI 0) dX11_asksGaps_86 rfl ?_
      refine j_istore (lv' := [some (.ref 76), some (.int _), some (.int _), some (.int _), some (.long _), none, some (.int _)]) dX11_asksGaps_87 (by decide) rfl ?_
      have hg0 : gok (A 84) E g = (false && !befB E (E g) g) := by
        unfold gok
        rw [show isc (E g) = nI 0 from by first | exact h67 | simpa using h67, decide_eq_false (show ¬ nI 0 = nI 1 by decide)]
        rfl
      refine j_at (lv' := [some (.ref 76), some (.int (nI j)), some (.int a), some (.int (bz (false && !befB E (E g) 0))), some (.long (E g).toInt64), none, some (.int (nI 0))]) rfl ?_
      refine l_gaps_in (x := E g) (r0 := false) (g := g) (by omega) (P := va_up A 92 (csF (A 92) E g)) (fun i hi => by rw [vu_s]; exact csF_at hi) ?_ (g + 1) 0 (Nat.zero_le _) (by omega)
      rw [← hg0]
      cases hgk : gok (A 84) E g
      · refine j_iload_n dX11_asksGaps_126 rfl rfl ?_
        refine j_if_eq (tgt := 221) dX11_asksGaps_127 (by decide) (fun _ => ?_) (fun h => absurd (by decide) h)
        refine j_goto (tgt := 25) dX11_asksGaps_221 (by decide) ?_
        refine j_iload_n dX11_asksGaps_25 rfl rfl ?_
        refine j_if_eq (tgt := 224) dX11_asksGaps_26 (by decide) (fun _ => ?_) (fun h => absurd (by decide) h)
        refine j_return dX11_asksGaps_224 rfl ?_
        have er : g = r := by rw [← hr, hst, if_neg (by rw [hgk]; decide)]
        rw [← er]
        exact ⟨rfl, rfl⟩
      · exact absurd (hg0.symm.trans hgk) (by simp)
    · refine j_aload_n dX11_asksGaps_70 rfl rfl ?_
      refine j_lload dX11_asksGaps_71 rfl ?_
      refine j_l2i dX11_asksGaps_73 ?_
      have hcell := isc_nat (c := E g) (by rcases isc_cases (E g) with q | ⟨q, hq, e⟩; exact absurd q h67; rw [e]; exact isc_in hq)
      refine j_ats (st' := [.int (nI (cN E g)), .ref 76]) (by rw [l2i_id]; unfold cN; rw [← hcell.2]) ?_
      refine j_callVi [.int _] [] dX11_asksGaps_74 jlk_X11_147 rfl rfl rfl rfl (Nat.le_of_ble_eq_true rfl) (m_holds (c := cN E g) (show ow _ from by rw [vu_n _ _ _ (by decide)]; exact hw) hcell.1) ?_
      rw [vu_n _ _ _ (show (84 : Nat) ≠ 92 by decide)]
      refine j_if_eq (tgt := 84) dX11_asksGaps_77 (by decide) (fun h77 => ?_) (fun h77 => ?_)
      · have h77 := bz_f h77
        refine j_iconst (v := nI 0) dX11_asksGaps_84 rfl ?_
        refine j_istore_n (lv' := [some (.ref 76), some (.int _), some (.int _), some (.int _), some (.long _), none, none]) dX11_asksGaps_85 rfl (by decide) rfl ?_
        refine j_iconst (v := nI 0) dX11_asksGaps_86 rfl ?_
        refine j_istore (lv' := [some (.ref 76), some (.int _), some (.int _), some (.int _), some (.long _), none, some (.int _)]) dX11_asksGaps_87 (by decide) rfl ?_
        have hg0 : gok (A 84) E g = (false && !befB E (E g) g) := by
          unfold gok
          rw [h77]
          simp
        refine j_at (lv' := [some (.ref 76), some (.int (nI j)), some (.int a), some (.int (bz (false && !befB E (E g) 0))), some (.long (E g).toInt64), none, some (.int (nI 0))]) rfl ?_
        refine l_gaps_in (x := E g) (r0 := false) (g := g) (by omega) (P := va_up A 92 (csF (A 92) E g)) (fun i hi => by rw [vu_s]; exact csF_at hi) ?_ (g + 1) 0 (Nat.zero_le _) (by omega)
        rw [← hg0]
        cases hgk : gok (A 84) E g
        · refine j_iload_n dX11_asksGaps_126 rfl rfl ?_
          refine j_if_eq (tgt := 221) dX11_asksGaps_127 (by decide) (fun _ => ?_) (fun h => absurd (by decide) h)
          refine j_goto (tgt := 25) dX11_asksGaps_221 (by decide) ?_
          refine j_iload_n dX11_asksGaps_25 rfl rfl ?_
          refine j_if_eq (tgt := 224) dX11_asksGaps_26 (by decide) (fun _ => ?_) (fun h => absurd (by decide) h)
          refine j_return dX11_asksGaps_224 rfl ?_
          have er : g = r := by rw [← hr, hst, if_neg (by rw [hgk]; decide)]
          rw [← er]
          exact ⟨rfl, rfl⟩
        · exact absurd (hg0.symm.trans hgk) (by simp)
      · have h77 := bz_t h77
        refine j_iconst (v := nI 1) dX11_asksGaps_80 rfl ?_
        refine j_goto (tgt := 85) dX11_asksGaps_81 (by decide) ?_
        refine j_istore_n (lv' := [some (.ref 76), some (.int _), some (.int _), some (.int _), some (.long _), none, none]) dX11_asksGaps_85 rfl (by decide) rfl ?_
        refine j_iconst (v := nI 0) dX11_asksGaps_86 rfl ?_
        refine j_istore (lv' := [some (.ref 76), some (.int _), some (.int _), some (.int _), some (.long _), none, some (.int _)]) dX11_asksGaps_87 (by decide) rfl ?_
        have hg0 : gok (A 84) E g = (true && !befB E (E g) g) := by
          unfold gok
          rw [show isc (E g) = nI 1 from by rw [hcell.2]; exact isc_in hcell.1, h77]
          simp
        refine j_at (lv' := [some (.ref 76), some (.int (nI j)), some (.int a), some (.int (bz (true && !befB E (E g) 0))), some (.long (E g).toInt64), none, some (.int (nI 0))]) rfl ?_
        refine l_gaps_in (x := E g) (r0 := true) (g := g) (by omega) (P := va_up A 92 (csF (A 92) E g)) (fun i hi => by rw [vu_s]; exact csF_at hi) ?_ (g + 1) 0 (Nat.zero_le _) (by omega)
        rw [← hg0]
        cases hgk : gok (A 84) E g
        · refine j_iload_n dX11_asksGaps_126 rfl rfl ?_
          refine j_if_eq (tgt := 221) dX11_asksGaps_127 (by decide) (fun _ => ?_) (fun h => absurd (by decide) h)
          refine j_goto (tgt := 25) dX11_asksGaps_221 (by decide) ?_
          refine j_iload_n dX11_asksGaps_25 rfl rfl ?_
          refine j_if_eq (tgt := 224) dX11_asksGaps_26 (by decide) (fun _ => ?_) (fun h => absurd (by decide) h)
          refine j_return dX11_asksGaps_224 rfl ?_
          have er : g = r := by rw [← hr, hst, if_neg (by rw [hgk]; decide)]
          rw [← er]
          exact ⟨rfl, rfl⟩
        · refine j_iload_n dX11_asksGaps_126 rfl rfl ?_
          refine j_if_eq (tgt := 221) dX11_asksGaps_127 (by decide) (fun h => absurd h (by decide)) (fun _ => ?_)
          refine j_aload_n dX11_asksGaps_130 rfl rfl ?_
          refine t_getR (b := 92) dX11_asksGaps_131 jfl_X11_58 (fun _ _ _ => rfl) rfl ?_
          refine j_aload_n dX11_asksGaps_134 rfl rfl ?_
          refine t_getI dX11_asksGaps_135 jfl_X11_295 (fun _ _ _ => rfl) (fun _ => rfl) ?_
          refine j_topE gX_27 ?_
          refine j_lload dX11_asksGaps_138 rfl ?_
          refine j_l2i dX11_asksGaps_140 ?_
          refine t_iastore dX11_asksGaps_141 (fun _ _ _ => rfl) (by omega) (by decide) ?_
          refine j_aload_n dX11_asksGaps_142 rfl rfl ?_
          refine t_getR (b := 84) dX11_asksGaps_143 jfl_X11_33 (fun _ _ _ => rfl) rfl ?_
          refine j_lload dX11_asksGaps_146 rfl ?_
          refine j_l2i dX11_asksGaps_148 ?_
          refine j_topE (e' := nI (cN E g)) (by rw [l2i_id]; exact hcell.2) ?_
          refine t_iaload dX11_asksGaps_149 (fun _ _ _ => rfl) hcell.1 (by decide) ?_
          refine j_topE (e' := A 84 (cN E g)) (congrFun (vu_n _ _ _ (show (84 : Nat) ≠ 92 by decide)) _) ?_
          refine j_iload_n dX11_asksGaps_150 rfl rfl ?_
          refine j_icmp_ne (tgt := 158) dX11_asksGaps_151 (by decide) (fun h151 => ?_) (fun h151 => ?_)
          · refine j_iconst (v := nI 0) dX11_asksGaps_158 rfl ?_
            refine j_istore (lv' := [some (.ref 76), some (.int _), some (.int _), some (.int _), some (.long _), none, some (.int _)]) dX11_asksGaps_159 (by decide) rfl ?_
            refine j_aload_n dX11_asksGaps_161 rfl rfl ?_
            refine j_dup dX11_asksGaps_162 rfl ?_
            refine t_getI dX11_asksGaps_163 jfl_X11_298 (fun _ _ _ => rfl) (fun _ => rfl) ?_
            refine j_topE gX_28 ?_
            refine j_iload dX11_asksGaps_166 rfl ?_
            refine j_if_eq (tgt := 182) dX11_asksGaps_168 (by decide) (fun _ => ?_) (fun h => absurd (by decide) h)
            refine j_iconst (v := nI 0) dX11_asksGaps_182 rfl ?_
            refine j_isub dX11_asksGaps_183 ?_
            refine t_putI dX11_asksGaps_184 jfl_X11_298 (fun _ _ _ => rfl) (fun _ _ => rfl) (Nat.le_of_ble_eq_true rfl) rfl rfl ?_
            rw [gX_p28]
            refine j_aload_n dX11_asksGaps_187 rfl rfl ?_
            refine j_dup dX11_asksGaps_188 rfl ?_
            refine t_getI dX11_asksGaps_189 jfl_X11_301 (fun _ _ _ => rfl) (fun _ => rfl) ?_
            refine j_topE gX_29 ?_
            refine j_iload dX11_asksGaps_192 rfl ?_
            refine j_if_eq (tgt := 206) dX11_asksGaps_194 (by decide) (fun _ => ?_) (fun h => absurd (by decide) h)
            refine j_iconst (v := nI 0) dX11_asksGaps_206 rfl ?_
            refine j_ior dX11_asksGaps_207 ?_
            refine j_topE (e' := nI (trS (A 84) E a g)) (by rw [nI_or, Nat.or_zero]) ?_
            refine t_putI dX11_asksGaps_208 jfl_X11_301 (fun _ _ _ => rfl) (fun _ _ => rfl) (Nat.le_of_ble_eq_true rfl) rfl rfl ?_
            rw [gX_p29]
            refine j_aload_n dX11_asksGaps_211 rfl rfl ?_
            refine j_dup dX11_asksGaps_212 rfl ?_
            refine t_getI dX11_asksGaps_213 jfl_X11_295 (fun _ _ _ => rfl) (fun _ => rfl) ?_
            refine j_topE gX_27 ?_
            refine j_iconst (v := nI 1) dX11_asksGaps_216 rfl ?_
            refine jn_iadd dX11_asksGaps_217 ?_
            refine t_putI dX11_asksGaps_218 jfl_X11_295 (fun _ _ _ => rfl) (fun _ _ => rfl) (Nat.le_of_ble_eq_true rfl) rfl rfl ?_
            rw [gX_p27]
            refine j_goto (tgt := 25) dX11_asksGaps_221 (by decide) ?_
            have e1 : (rsS (A 84) (A 85) E a (balS (A 84) (A 85) a 49) (g + 1)) = (rsS (A 84) (A 85) E a (balS (A 84) (A 85) a 49) g) := by show (if A 84 (cN E g) = a then (rsS (A 84) (A 85) E a (balS (A 84) (A 85) a 49) g) - A 85 (cN E g) else (rsS (A 84) (A 85) E a (balS (A 84) (A 85) a 49) g)) = _; rw [if_neg h151]
            have e2 : (trS (A 84) E a (g + 1)) = (trS (A 84) E a g) := by show (if A 84 (cN E g) = a then (trS (A 84) E a g) ||| 2 ^ g else (trS (A 84) E a g)) = _; rw [if_neg h151]
            have e3 : csF (A 92) E (g + 1) = upd (csF (A 92) E g) g (E g) := rfl
            refine j_sub (by exact ⟨rfl, rfl, rfl, rfl, trivial⟩) (j_atw ?_ (ih (g + 1) r (by omega) (by rw [← hr, hst, if_pos hgk])))
            rw [e1, e2, e3, vu_s, vu_up, l2i_id]
            rw [show (rsS (A 84) (A 85) E a (balS (A 84) (A 85) a 49) g) - nI 0 = (rsS (A 84) (A 85) E a (balS (A 84) (A 85) a 49) g) from Int32.sub_zero _]
          · refine j_iconst (v := nI 1) dX11_asksGaps_154 rfl ?_
            refine j_goto (tgt := 159) dX11_asksGaps_155 (by decide) ?_
            refine j_istore (lv' := [some (.ref 76), some (.int _), some (.int _), some (.int _), some (.long _), none, some (.int _)]) dX11_asksGaps_159 (by decide) rfl ?_
            refine j_aload_n dX11_asksGaps_161 rfl rfl ?_
            refine j_dup dX11_asksGaps_162 rfl ?_
            refine t_getI dX11_asksGaps_163 jfl_X11_298 (fun _ _ _ => rfl) (fun _ => rfl) ?_
            refine j_topE gX_28 ?_
            refine j_iload dX11_asksGaps_166 rfl ?_
            refine j_if_eq (tgt := 182) dX11_asksGaps_168 (by decide) (fun h => absurd h (by decide)) (fun _ => ?_)
            refine j_aload_n dX11_asksGaps_171 rfl rfl ?_
            refine t_getR (b := 85) dX11_asksGaps_172 jfl_X11_36 (fun _ _ _ => rfl) rfl ?_
            refine j_lload dX11_asksGaps_175 rfl ?_
            refine j_l2i dX11_asksGaps_177 ?_
            refine j_topE (e' := nI (cN E g)) (by rw [l2i_id]; exact hcell.2) ?_
            refine t_iaload dX11_asksGaps_178 (fun _ _ _ => rfl) hcell.1 (by decide) ?_
            refine j_topE (e' := A 85 (cN E g)) (congrFun (vu_n _ _ _ (show (85 : Nat) ≠ 92 by decide)) _) ?_
            refine j_goto (tgt := 183) dX11_asksGaps_179 (by decide) ?_
            refine j_isub dX11_asksGaps_183 ?_
            refine t_putI dX11_asksGaps_184 jfl_X11_298 (fun _ _ _ => rfl) (fun _ _ => rfl) (Nat.le_of_ble_eq_true rfl) rfl rfl ?_
            rw [gX_p28]
            refine j_aload_n dX11_asksGaps_187 rfl rfl ?_
            refine j_dup dX11_asksGaps_188 rfl ?_
            refine t_getI dX11_asksGaps_189 jfl_X11_301 (fun _ _ _ => rfl) (fun _ => rfl) ?_
            refine j_topE gX_29 ?_
            refine j_iload dX11_asksGaps_192 rfl ?_
            refine j_if_eq (tgt := 206) dX11_asksGaps_194 (by decide) (fun h => absurd h (by decide)) (fun _ => ?_)
            refine j_iconst (v := nI 1) dX11_asksGaps_197 rfl ?_
            refine j_aload_n dX11_asksGaps_198 rfl rfl ?_
            refine t_getI dX11_asksGaps_199 jfl_X11_295 (fun _ _ _ => rfl) (fun _ => rfl) ?_
            refine j_topE gX_27 ?_
            refine j_ishl dX11_asksGaps_202 ?_
            refine j_topE (e' := nI (2 ^ g)) (shl_tab (by omega)) ?_
            refine j_goto (tgt := 207) dX11_asksGaps_203 (by decide) ?_
            refine j_ior dX11_asksGaps_207 ?_
            refine j_topE (e' := nI ((trS (A 84) E a g) ||| 2 ^ g)) (nI_or _ _) ?_
            refine t_putI dX11_asksGaps_208 jfl_X11_301 (fun _ _ _ => rfl) (fun _ _ => rfl) (Nat.le_of_ble_eq_true rfl) rfl rfl ?_
            rw [gX_p29]
            refine j_aload_n dX11_asksGaps_211 rfl rfl ?_
            refine j_dup dX11_asksGaps_212 rfl ?_
            refine t_getI dX11_asksGaps_213 jfl_X11_295 (fun _ _ _ => rfl) (fun _ => rfl) ?_
            refine j_topE gX_27 ?_
            refine j_iconst (v := nI 1) dX11_asksGaps_216 rfl ?_
            refine jn_iadd dX11_asksGaps_217 ?_
            refine t_putI dX11_asksGaps_218 jfl_X11_295 (fun _ _ _ => rfl) (fun _ _ => rfl) (Nat.le_of_ble_eq_true rfl) rfl rfl ?_
            rw [gX_p27]
            refine j_goto (tgt := 25) dX11_asksGaps_221 (by decide) ?_
            have e1 : (rsS (A 84) (A 85) E a (balS (A 84) (A 85) a 49) (g + 1)) = (rsS (A 84) (A 85) E a (balS (A 84) (A 85) a 49) g) - A 85 (cN E g) := by show (if A 84 (cN E g) = a then (rsS (A 84) (A 85) E a (balS (A 84) (A 85) a 49) g) - A 85 (cN E g) else (rsS (A 84) (A 85) E a (balS (A 84) (A 85) a 49) g)) = _; rw [if_pos (by first | exact h151 | simpa using h151)]
            have e2 : (trS (A 84) E a (g + 1)) = (trS (A 84) E a g) ||| 2 ^ g := by show (if A 84 (cN E g) = a then (trS (A 84) E a g) ||| 2 ^ g else (trS (A 84) E a g)) = _; rw [if_pos (by first | exact h151 | simpa using h151)]
            have e3 : csF (A 92) E (g + 1) = upd (csF (A 92) E g) g (E g) := rfl
            refine j_sub (by exact ⟨rfl, rfl, rfl, rfl, trivial⟩) (j_atw ?_ (ih (g + 1) r (by omega) (by rw [← hr, hst, if_pos hgk])))
            rw [e1, e2, e3, vu_s, vu_up, l2i_id]

set_option maxHeartbeats 200000 in
set_option maxRecDepth 100000 in
theorem m_asksGaps (z1 : zb 49 (A 82)) (z2 : zb 49 (A 83)) (z3 : zb 49 (A 84)) (z4 : zb 49 (A 85)) (hw : ow (A 82)) {j ln : Nat} (hj : j < 6) {E : Nat → Int32} (hm : A 101 j = nI ln) (l60 : ln ≤ 60) (hE : ∀ i, i < ln → L 102 (60 * j + i) = (E i).toInt64) {a : Int32} : jMet (d + 2) yX11_asksGaps cX11_asksGaps 7 none 0 0 [.ref 76, .int (nI j), .int a] (tw X A L) (jRv (tw (gX X (gC (A 82) E ln) (rsS (A 82) (A 83) E a (balS (A 82) (A 83) a 49) (gC (A 82) E ln)) (trS (A 82) E a (gC (A 82) E ln))) (va_up (mA A (A 82) (A 83)) 92 (csF (A 92) E (gC (A 82) E ln))) L)) := by
  refine jMet_of (by decide) (Nat.le_of_ble_eq_true rfl) none (Or.inl rfl) ?_
  show jWP none RX11 cX11_asksGaps 7 none (d + 2) 0 0 0 [some (.ref 76), some (.int (nI j)), some (.int a), none, none, none, none] [] (tw X A L) (jRv (tw (gX X (gC (A 82) E ln) (rsS (A 82) (A 83) E a (balS (A 82) (A 83) a 49) (gC (A 82) E ln)) (trS (A 82) E a (gC (A 82) E ln))) (va_up (mA A (A 82) (A 83)) 92 (csF (A 92) E (gC (A 82) E ln))) L))
  refine j_aload_n dX11_asksGaps_0 rfl rfl ?_
  refine j_callVv [] [] dX11_asksGaps_1 jlk_X11_140 rfl rfl rfl rfl (Nat.le_of_ble_eq_true rfl) (m_begins1 z1 z2 z3 z4) ?_
  refine j_aload_n dX11_asksGaps_4 rfl rfl ?_
  refine j_iconst (v := nI 0) dX11_asksGaps_5 rfl ?_
  refine t_putI dX11_asksGaps_6 jfl_X11_295 (fun _ _ _ => rfl) (fun _ _ => rfl) (Nat.le_of_ble_eq_true rfl) rfl rfl ?_
  refine j_aload_n dX11_asksGaps_9 rfl rfl ?_
  refine j_aload_n dX11_asksGaps_10 rfl rfl ?_
  refine j_iload_n dX11_asksGaps_11 rfl rfl ?_
  refine j_callVi [.int _] [.ref 76] dX11_asksGaps_12 jlk_X11_143 rfl rfl rfl rfl (Nat.le_of_ble_eq_true rfl) (m_balanceOf) ?_
  rw [mA_84, mA_85]
  refine t_putI dX11_asksGaps_15 jfl_X11_298 (fun _ _ _ => rfl) (fun _ _ => rfl) (Nat.le_of_ble_eq_true rfl) rfl rfl ?_
  refine j_aload_n dX11_asksGaps_18 rfl rfl ?_
  refine j_iconst (v := nI 0) dX11_asksGaps_19 rfl ?_
  refine t_putI dX11_asksGaps_20 jfl_X11_301 (fun _ _ _ => rfl) (fun _ _ => rfl) (Nat.le_of_ble_eq_true rfl) rfl rfl ?_
  refine j_iconst (v := nI 1) dX11_asksGaps_23 rfl ?_
  refine j_istore_n (lv' := [some (.ref 76), some (.int _), some (.int _), some (.int _), none, none, none]) dX11_asksGaps_24 rfl (by decide) rfl ?_
  rw [gX_0]
  have q := l_gaps (d := d) (X := X) (A := mA A (A 82) (A 83)) (L := L) (by rw [mA_84]; exact hw) hj (ln := ln) (E := E) (by rw [mA_n _ _ _ (by decide) (by decide)]; exact hm) l60 hE (a := a) (min 10 ln) 0 _ (by omega) rfl
  rw [mA_84, mA_85] at q
  refine j_atw (tw_eq rfl (vu_self (mA A (A 82) (A 83)) 92).symm rfl) ?_
  exact q

set_option maxHeartbeats 200000 in
set_option maxRecDepth 100000 in
theorem l_sumBy {g t : Nat} {e : Int32} {E : Nat → Int32} (hg : g ≤ 10) (h92 : ∀ i, i < g → A 92 i = E i) (hce : ∀ i, i < g → cN E i < 49 ∧ E i = nI (cN E i)) {s : Nat} (hs : s < 1024) : ∀ (m i : Nat), i ≤ g → g - i < m → jWP none RX11 cX11_sumBy 4 (some .int) (d + 1) 0 0 7 [some (.ref 76), some (.int (nI s)), some (.int (e + ssum (A 85) E s i)), some (.int (nI i))] [] (tw (gX X g e t) A L) (jRi (e + ssum (A 85) E s g) (tw (gX X g e t) A L)) := by
  intro m
  induction m with
  | zero => intro i h1 h2; omega
  | succ m ih =>
    intro i hi hm
    have hst : ssum (A 85) E s (i + 1) = if s.testBit i = true then ssum (A 85) E s i + A 85 (cN E i) else ssum (A 85) E s i := rfl
    refine j_iload_n dX11_sumBy_7 rfl rfl ?_
    refine j_aload_n dX11_sumBy_8 rfl rfl ?_
    refine t_getI dX11_sumBy_9 jfl_X11_295 (fun _ _ _ => rfl) (fun _ => rfl) ?_
    refine j_topE gX_27 ?_
    refine jn_icmp_ge (tgt := 47) dX11_sumBy_12 (by decide) (by omega) (by omega) (fun h12 => ?_) (fun h12 => ?_)
    · refine j_iload_n dX11_sumBy_47 rfl rfl ?_
      refine j_ireturn dX11_sumBy_48 rfl ?_
      obtain rfl : i = g := by omega
      exact ⟨rfl, rfl⟩
    · refine j_iload_n dX11_sumBy_15 rfl rfl ?_
      refine j_iload_n dX11_sumBy_16 rfl rfl ?_
      refine j_iload_n dX11_sumBy_17 rfl rfl ?_
      refine j_callSi [.int _, .int _] [.int _] dX11_sumBy_18 jlk_X11_254 rfl rfl (Nat.le_of_ble_eq_true rfl) (m_isIn hs (by omega)) ?_
      refine j_if_eq (tgt := 38) dX11_sumBy_21 (by decide) (fun h21 => ?_) (fun h21 => ?_)
      · have h21 := bz_f h21
        rw [isB1_tb] at h21
        refine j_iconst (v := nI 0) dX11_sumBy_38 rfl ?_
        refine j_iadd dX11_sumBy_39 ?_
        refine j_istore_n (lv' := [some (.ref 76), some (.int _), some (.int _), some (.int _)]) dX11_sumBy_40 rfl (by decide) rfl ?_
        refine jn_iinc (lv' := [some (.ref 76), some (.int _), some (.int _), some (.int _)]) dX11_sumBy_41 rfl (by decide) rfl ?_
        refine j_goto (tgt := 7) dX11_sumBy_44 (by decide) ?_
        refine j_sub ?_ (ih (i + 1) (by omega) (by omega))
        rw [hst, h21]
        exact ⟨rfl, rfl, congrArg (fun z => some (Value.int z)) (by show e + ssum (A 85) E s i + nI 0 = e + ssum (A 85) E s i; exact Int32.add_zero _), rfl, trivial⟩
      · have h21 := bz_t h21
        rw [isB1_tb] at h21
        refine j_aload_n dX11_sumBy_24 rfl rfl ?_
        refine t_getR (b := 85) dX11_sumBy_25 jfl_X11_36 (fun _ _ _ => rfl) rfl ?_
        refine j_aload_n dX11_sumBy_28 rfl rfl ?_
        refine t_getR (b := 92) dX11_sumBy_29 jfl_X11_58 (fun _ _ _ => rfl) rfl ?_
        refine j_iload_n dX11_sumBy_32 rfl rfl ?_
        refine t_iaload dX11_sumBy_33 (fun _ _ _ => rfl) (by omega) (by decide) ?_
        refine j_topE (e' := nI (cN E i)) (by rw [h92 i (by omega)]; exact (hce i (by omega)).2) ?_
        refine t_iaload dX11_sumBy_34 (fun _ _ _ => rfl) (hce i (by omega)).1 (by decide) ?_
        refine j_goto (tgt := 39) dX11_sumBy_35 (by decide) ?_
        refine j_iadd dX11_sumBy_39 ?_
        refine j_istore_n (lv' := [some (.ref 76), some (.int _), some (.int _), some (.int _)]) dX11_sumBy_40 rfl (by decide) rfl ?_
        refine jn_iinc (lv' := [some (.ref 76), some (.int _), some (.int _), some (.int _)]) dX11_sumBy_41 rfl (by decide) rfl ?_
        refine j_goto (tgt := 7) dX11_sumBy_44 (by decide) ?_
        refine j_sub ?_ (ih (i + 1) (by omega) (by omega))
        rw [hst, h21]
        exact ⟨rfl, rfl, congrArg (fun z => some (Value.int z)) (by show e + ssum (A 85) E s i + A 85 (cN E i) = e + (ssum (A 85) E s i + A 85 (cN E i)); exact Int32.add_assoc _ _ _), rfl, trivial⟩

set_option maxHeartbeats 200000 in
set_option maxRecDepth 100000 in
theorem m_sumBy {g t : Nat} {e : Int32} {E : Nat → Int32} (hg : g ≤ 10) (h92 : ∀ i, i < g → A 92 i = E i) (hce : ∀ i, i < g → cN E i < 49 ∧ E i = nI (cN E i)) {s : Nat} (hs : s < 1024) : jMet (d + 1) yX11_sumBy cX11_sumBy 4 (some .int) 0 0 [.ref 76, .int (nI s)] (tw (gX X g e t) A L) (jRi (e + ssum (A 85) E s g) (tw (gX X g e t) A L)) := by
  refine jMet_of (by decide) (Nat.le_of_ble_eq_true rfl) none (Or.inl rfl) ?_
  show jWP none RX11 cX11_sumBy 4 (some .int) (d + 1) 0 0 0 [some (.ref 76), some (.int (nI s)), none, none] [] (tw (gX X g e t) A L) (jRi (e + ssum (A 85) E s g) (tw (gX X g e t) A L))
  refine j_aload_n dX11_sumBy_0 rfl rfl ?_
  refine t_getI dX11_sumBy_1 jfl_X11_298 (fun _ _ _ => rfl) (fun _ => rfl) ?_
  refine j_topE gX_28 ?_
  refine j_istore_n (lv' := [some (.ref 76), some (.int _), some (.int _), none]) dX11_sumBy_4 rfl (by decide) rfl ?_
  refine j_iconst (v := nI 0) dX11_sumBy_5 rfl ?_
  refine j_istore_n (lv' := [some (.ref 76), some (.int _), some (.int _), some (.int _)]) dX11_sumBy_6 rfl (by decide) rfl ?_
  refine j_at (lv' := [some (.ref 76), some (.int (nI s)), some (.int (e + ssum (A 85) E s 0)), some (.int (nI 0))]) (by rw [show e + ssum (A 85) E s 0 = e from Int32.add_zero e]) ?_
  exact l_sumBy hg h92 hce hs (g + 1) 0 (Nat.zero_le _) (by omega)

end CT64