section GRID3
variable {d z : Nat} {w : jW} {f6 f7 : Nat → Int32}
def gw (w : jW) (g q : Nat → Int32) : jW := ju (ju w 8 (.inl (0, 2401, .inl g))) 9 (.inl (0, 49, .inl q))
theorem gw_n {g q : Nat → Int32} {k : Nat} (h8 : k ≠ 8) (h9 : k ≠ 9) : (gw w g q).2 k = w.2 k := by unfold gw; rw [ju_n _ _ _ h9, ju_n _ _ _ h8]
theorem gw_8 {g q : Nat → Int32} : (gw w g q).2 8 = .inl (0, 2401, .inl g) := by unfold gw; rw [ju_n _ _ _ (by decide), ju_s]
theorem gw_9 {g q : Nat → Int32} : (gw w g q).2 9 = .inl (0, 49, .inl q) := by unfold gw; rw [ju_s]
theorem gw_p8 {g q g' : Nat → Int32} : ju (gw w g q) 8 (.inl (0, 2401, .inl g')) = gw w g' q := by unfold gw; rw [ju_cm _ _ _ (by decide), ju_ju]
theorem gw_p9 {g q q' : Nat → Int32} : ju (gw w g q) 9 (.inl (0, 49, .inl q')) = gw w g q' := by unfold gw; rw [ju_ju]
/-- what stands of the grid when distances are measured -/
def gB (w : jW) (f6 f7 : Nat → Int32) : Prop := w.2 5 = .inr (1, [.ref 6, .ref 7, .ref 8]) ∧ w.2 6 = .inl (0, 294, .inl f6) ∧ w.2 7 = .inl (0, 49, .inl f7) ∧ ∀ a, a < 49 → nLS a (nbL a) f6 f7
/-- distances from z, t cells seen -/
def gI (z t : Nat) (g q g0 : Nat → Int32) : Prop := (∀ p, p < t → q p = nI (QQ z p)) ∧ (∀ v, v < 49 → g (z * 49 + v) = if PS z v < t then nI (dsN z v) else -1) ∧ ∀ x, ¬ (z * 49 ≤ x ∧ x < z * 49 + 49) → g x = g0 x
theorem gB_l {a : Nat} (h : gB w f6 f7) (ha : a < 49) : f7 a = nI (NBT.getD a []).length ∧ ∀ s, s < (NBT.getD a []).length → f6 (a * 6 + s) = nI (nbT a s) := by
  obtain ⟨q1, _, q3, _⟩ := h.2.2.2 a ha
  rw [nbT_eq ha] at q1 q3
  exact ⟨q1, q3⟩
theorem gB_n {a : Nat} (h : gB w f6 f7) (ha : a < 49) : (NBT.getD a []).length ≤ 6 := by
  have q2 := (h.2.2.2 a ha).2.1
  rw [nbT_eq ha] at q2
  exact q2
theorem nbT_lt {a s : Nat} (ha : a < 49) (hs : s < (NBT.getD a []).length) : nbT a s < 49 := by
  unfold nbT
  rw [← nbT_eq ha] at hs ⊢
  have e : (nbL a).getD s 0 = (nbL a)[s] := by rw [List.getD_eq_getElem?_getD, List.getElem?_eq_getElem hs]; rfl
  rw [e]
  exact nbL_lt a _ (List.getElem_mem hs)
def gPost (z : Nat) (w : jW) (g0 : Nat → Int32) : Option Value → jW → Prop := fun r w' => r = none ∧ ∃ g' q', w' = gw w g' q' ∧ (∀ v, v < 49 → g' (z * 49 + v) = nI (dsN z v)) ∧ ∀ x, ¬ (z * 49 ≤ x ∧ x < z * 49 + 49) → g' x = g0 x
theorem l_ms (hB : gB w f6 f7) (hz : z < 49) {h : Nat} (hh : h < 49) {g0 : Nat → Int32} {post : Option Value → jW → Prop}
    (kk : ∀ (g q : Nat → Int32) (x7 : Option Value), gI z (tt z (h + 1)) g q g0 → jWP none RX1 cX1_measureFrom 8 none d 0 0 154 [some (.ref 5), some (.int (nI z)), some (.ref 9), some (.int (nI (tt z (h + 1)))), some (.int (nI h)), some (.int (nI (QQ z h))), none, none] [] (gw w g q) post) :
    ∀ (m s : Nat) (g q : Nat → Int32), s + m = (NBT.getD (QQ z h) []).length → gI z (tS z h s) g q g0 → jWP none RX1 cX1_measureFrom 8 none d 0 0 66 [some (.ref 5), some (.int (nI z)), some (.ref 9), some (.int (nI (tS z h s))), some (.int (nI h)), some (.int (nI (QQ z h))), some (.int (nI s)), none] [] (gw w g q) post := by
  obtain ⟨c1, c2, c3, c4, c5, c6⟩ := ch_h hz hh
  have e5 : ∀ {g q : Nat → Int32}, (gw w g q).2 5 = .inr (1, [.ref 6, .ref 7, .ref 8]) := by intro g q; rw [gw_n (by decide) (by decide)]; exact hB.1
  have e6 : ∀ {g q : Nat → Int32}, (gw w g q).2 6 = .inl (0, 294, .inl f6) := by intro g q; rw [gw_n (by decide) (by decide)]; exact hB.2.1
  have e7 : ∀ {g q : Nat → Int32}, (gw w g q).2 7 = .inl (0, 49, .inl f7) := by intro g q; rw [gw_n (by decide) (by decide)]; exact hB.2.2.1
  have hL := gB_l hB c1
  have hn6 := gB_n hB c1
  intro m
  induction m with
  | zero =>
    intro s g q hs hI
    refine j_iload dX1_measureFrom_66 rfl ?_
    refine j_aload_n dX1_measureFrom_68 rfl rfl ?_
    refine j_getfield dX1_measureFrom_69 jfl_X1_15 e5 rfl ?_
    refine j_iload dX1_measureFrom_72 rfl ?_
    refine j_iaload dX1_measureFrom_74 e7 (vp_in_nI c1 (by decide)) ?_
    rw [nI_clamp (by omega), hL.1]
    refine jn_icmp_ge (tgt := 154) dX1_measureFrom_75 (by decide) (by omega) (by omega) (fun _ => ?_) (fun h => absurd h (by omega))
    have e : s = (NBT.getD (QQ z h) []).length := by omega
    subst e
    rw [c6] at hI ⊢
    refine j_sub (lv' := [some (.ref 5), some (.int (nI z)), some (.ref 9), some (.int (nI (tt z (h + 1)))), some (.int (nI h)), some (.int (nI (QQ z h))), none, none]) ⟨rfl, rfl, rfl, rfl, rfl, rfl, trivial⟩ ?_
    exact kk g q none hI
  | succ m ih =>
    intro s g q hs hI
    have hsl : s < (NBT.getD (QQ z h) []).length := by omega
    have hnb := nbT_lt c1 hsl
    have hge := tS_ge (z := z) (h := h) s
    refine j_iload dX1_measureFrom_66 rfl ?_
    refine j_aload_n dX1_measureFrom_68 rfl rfl ?_
    refine j_getfield dX1_measureFrom_69 jfl_X1_15 e5 rfl ?_
    refine j_iload dX1_measureFrom_72 rfl ?_
    refine j_iaload dX1_measureFrom_74 e7 (vp_in_nI c1 (by decide)) ?_
    rw [nI_clamp (by omega), hL.1]
    refine jn_icmp_ge (tgt := 154) dX1_measureFrom_75 (by decide) (by omega) (by omega) (fun h => absurd h (by omega)) (fun _ => ?_)
    refine j_aload_n dX1_measureFrom_78 rfl rfl ?_
    refine j_getfield dX1_measureFrom_79 jfl_X1_11 e5 rfl ?_
    refine j_iload dX1_measureFrom_82 rfl ?_
    refine j_bipush (v := nI 6) dX1_measureFrom_84 rfl ?_
    refine jn_imul dX1_measureFrom_86 ?_
    refine j_iload dX1_measureFrom_87 rfl ?_
    refine jn_iadd dX1_measureFrom_89 ?_
    refine j_iaload dX1_measureFrom_90 e6 (vp_in_nI (by omega) (by decide)) ?_
    rw [nI_clamp (by omega), hL.2 s hsl]
    refine j_istore (lv' := [some (.ref 5), some (.int (nI z)), some (.ref 9), some (.int (nI (tS z h s))), some (.int (nI h)), some (.int (nI (QQ z h))), some (.int (nI s)), some (.int (nI (nbT (QQ z h) s)))]) dX1_measureFrom_91 (by decide) rfl ?_
    refine j_aload_n dX1_measureFrom_93 rfl rfl ?_
    refine j_getfield dX1_measureFrom_94 jfl_X1_18 e5 rfl ?_
    refine j_iload_n dX1_measureFrom_97 rfl rfl ?_
    refine j_bipush (v := nI 49) dX1_measureFrom_98 rfl ?_
    refine jn_imul dX1_measureFrom_100 ?_
    refine j_iload dX1_measureFrom_101 rfl ?_
    refine jn_iadd dX1_measureFrom_103 ?_
    refine j_iaload dX1_measureFrom_104 gw_8 (vp_in_nI (by omega) (by decide)) ?_
    rw [nI_clamp (by omega), hI.2.1 _ hnb]
    have next : ∀ (g q : Nat → Int32), gI z (tS z h (s + 1)) g q g0 → jWP none RX1 cX1_measureFrom 8 none d 0 0 148 [some (.ref 5), some (.int (nI z)), some (.ref 9), some (.int (nI (tS z h (s + 1)))), some (.int (nI h)), some (.int (nI (QQ z h))), some (.int (nI s)), some (.int (nI (nbT (QQ z h) s)))] [] (gw w g q) post := fun g q hI => by
      refine j_iinc (v := nI (s + 1)) (lv' := [some (.ref 5), some (.int (nI z)), some (.ref 9), some (.int (nI (tS z h (s + 1)))), some (.int (nI h)), some (.int (nI (QQ z h))), some (.int (nI (s + 1))), some (.int (nI (nbT (QQ z h) s)))]) dX1_measureFrom_148 rfl (nI_add s 1) (by decide) rfl ?_
      refine j_goto (tgt := 66) dX1_measureFrom_151 (by decide) ?_
      refine j_sub (lv' := [some (.ref 5), some (.int (nI z)), some (.ref 9), some (.int (nI (tS z h (s + 1)))), some (.int (nI h)), some (.int (nI (QQ z h))), some (.int (nI (s + 1))), none]) ⟨rfl, rfl, rfl, rfl, rfl, rfl, rfl, trivial⟩ ?_
      exact ih (s + 1) g q (by omega) hI
    by_cases hp : PS z (nbT (QQ z h) s) < tS z h s
    · rw [if_pos hp]
      refine j_if_ge (tgt := 148) dX1_measureFrom_105 (by decide) (fun _ => ?_) (fun h => absurd (Int32.not_lt.mp (nI_pos (dsN_le hz hnb))) h)
      have et : tS z h (s + 1) = tS z h s := by show (if _ then _ else _) = _; rw [if_pos hp]
      rw [← et] at hI ⊢
      exact next g q hI
    · rw [if_neg hp]
      obtain ⟨p1, p2, p3⟩ := (ch_s hz hh hsl).resolve_left hp
      have et : tS z h (s + 1) = tS z h s + 1 := by show (if _ then _ else _) = _; rw [if_neg hp]
      refine j_if_ge (tgt := 148) dX1_measureFrom_105 (by decide) (fun h => absurd h (by decide)) (fun _ => ?_)
      refine j_iload_n dX1_measureFrom_108 rfl rfl ?_
      refine j_bipush (v := nI 49) dX1_measureFrom_109 rfl ?_
      refine jn_icmp_ge (tgt := 148) dX1_measureFrom_111 (by decide) (by omega) (by decide) (fun h => absurd h (by omega)) (fun _ => ?_)
      refine j_aload_n dX1_measureFrom_114 rfl rfl ?_
      refine j_getfield dX1_measureFrom_115 jfl_X1_18 e5 rfl ?_
      refine j_iload_n dX1_measureFrom_118 rfl rfl ?_
      refine j_bipush (v := nI 49) dX1_measureFrom_119 rfl ?_
      refine jn_imul dX1_measureFrom_121 ?_
      refine j_iload dX1_measureFrom_122 rfl ?_
      refine jn_iadd dX1_measureFrom_124 ?_
      refine j_aload_n dX1_measureFrom_125 rfl rfl ?_
      refine j_getfield dX1_measureFrom_126 jfl_X1_18 e5 rfl ?_
      refine j_iload_n dX1_measureFrom_129 rfl rfl ?_
      refine j_bipush (v := nI 49) dX1_measureFrom_130 rfl ?_
      refine jn_imul dX1_measureFrom_132 ?_
      refine j_iload dX1_measureFrom_133 rfl ?_
      refine jn_iadd dX1_measureFrom_135 ?_
      refine j_iaload dX1_measureFrom_136 gw_8 (vp_in_nI (by omega) (by decide)) ?_
      rw [nI_clamp (by omega), hI.2.1 _ c1, if_pos (by omega)]
      refine j_iconst (v := nI 1) dX1_measureFrom_137 rfl ?_
      refine jn_iadd dX1_measureFrom_138 ?_
      refine j_iastore dX1_measureFrom_139 gw_8 (vp_in_nI (by omega) (by decide)) ?_
      rw [nI_clamp (by omega), gw_p8]
      refine j_aload_n dX1_measureFrom_140 rfl rfl ?_
      refine j_iload_n dX1_measureFrom_141 rfl rfl ?_
      refine j_iload dX1_measureFrom_142 rfl ?_
      refine j_iastore dX1_measureFrom_144 gw_9 (vp_in_nI p3 (by decide)) ?_
      rw [nI_clamp (by omega), gw_p9]
      refine j_iinc (v := nI (tS z h (s + 1))) (lv' := [some (.ref 5), some (.int (nI z)), some (.ref 9), some (.int (nI (tS z h (s + 1)))), some (.int (nI h)), some (.int (nI (QQ z h))), some (.int (nI s)), some (.int (nI (nbT (QQ z h) s)))]) dX1_measureFrom_145 rfl (by rw [et]; exact nI_add _ 1) (by decide) rfl ?_
      refine next _ _ ?_
      rw [et]
      refine ⟨fun p hp' => ?_, fun v hv => ?_, fun x hx => ?_⟩
      · by_cases e : p = tS z h s
        · subst e
          rw [ud_s, ← p1, (ch_h hz hnb).2.2.2.1]
        · rw [ud_n _ _ _ e]
          exact hI.1 p (by omega)
      · by_cases e : v = nbT (QQ z h) s
        · subst e
          rw [ud_s, if_pos (by omega)]
          congr 1
          rw [dT_eq hz hnb, dT_eq hz c1, p2]
        · rw [ud_n _ _ _ (by omega), hI.2.1 v hv]
          have e2 : PS z v ≠ tS z h s := fun q => e (by
            have a1 := (ch_h hz hv).2.2.2.1
            have a2 := (ch_h hz hnb).2.2.2.1
            rw [← a1, q, ← p1, a2])
          by_cases e3 : PS z v < tS z h s
          · rw [if_pos e3, if_pos (by omega)]
          · rw [if_neg e3, if_neg (by omega)]
      · rw [ud_n _ _ _ (by omega)]
        exact hI.2.2 x hx
theorem l_mh (hB : gB w f6 f7) (hz : z < 49) {g0 : Nat → Int32} : ∀ (m h : Nat) (g q : Nat → Int32), h + m = 49 → gI z (tt z h) g q g0 → jWP none RX1 cX1_measureFrom 8 none d 0 0 44 [some (.ref 5), some (.int (nI z)), some (.ref 9), some (.int (nI (tt z h))), some (.int (nI h)), none, none, none] [] (gw w g q) (gPost z w g0) := by
  intro m
  induction m with
  | zero =>
    intro h g q hm hI
    have hh : h = 49 := by omega
    subst hh
    have e49 := (ch_all hz).2.2.1
    rw [e49] at hI ⊢
    refine j_iload dX1_measureFrom_44 rfl ?_
    refine j_iload_n dX1_measureFrom_46 rfl rfl ?_
    refine jn_icmp_ge (tgt := 160) dX1_measureFrom_47 (by decide) (by decide) (by decide) (fun _ => ?_) (fun h => absurd h (by decide))
    refine j_return dX1_measureFrom_160 rfl ⟨rfl, g, q, rfl, fun v hv => ?_, hI.2.2⟩
    rw [hI.2.1 v hv, if_pos (ch_h hz hv).2.2.1]
  | succ m ih =>
    intro h g q hm hI
    have hh : h < 49 := by omega
    obtain ⟨c1, c2, c3, c4, c5, c6⟩ := ch_h hz hh
    have mono : ∀ n, h + n ≤ 49 → tt z h ≤ tt z (h + n) := by
      intro n
      induction n with
      | zero => intro _; exact Nat.le_refl _
      | succ n ih2 =>
        intro hn
        have a1 := ih2 (by omega)
        have a2 := tS_ge (z := z) (h := h + n) (NBT.getD (QQ z (h + n)) []).length
        have a3 := (ch_h hz (show h + n < 49 by omega)).2.2.2.2.2
        rw [show h + (n + 1) = h + n + 1 by omega]
        omega
    have t49 : tt z h ≤ 49 := by
      have a := mono (49 - h) (by omega)
      rw [show h + (49 - h) = 49 by omega, (ch_all hz).2.2.1] at a
      exact a
    refine j_iload dX1_measureFrom_44 rfl ?_
    refine j_iload_n dX1_measureFrom_46 rfl rfl ?_
    refine jn_icmp_ge (tgt := 160) dX1_measureFrom_47 (by decide) (by omega) (by omega) (fun h => absurd h (by omega)) (fun _ => ?_)
    refine j_iload dX1_measureFrom_50 rfl ?_
    refine j_bipush (v := nI 49) dX1_measureFrom_52 rfl ?_
    refine jn_icmp_ge (tgt := 160) dX1_measureFrom_54 (by decide) (by omega) (by decide) (fun h => absurd h (by omega)) (fun _ => ?_)
    refine j_aload_n dX1_measureFrom_57 rfl rfl ?_
    refine j_iload dX1_measureFrom_58 rfl ?_
    refine j_iaload dX1_measureFrom_60 gw_9 (vp_in_nI hh (by decide)) ?_
    rw [nI_clamp (by omega), hI.1 h c5]
    refine j_istore (lv' := [some (.ref 5), some (.int (nI z)), some (.ref 9), some (.int (nI (tt z h))), some (.int (nI h)), some (.int (nI (QQ z h))), none, none]) dX1_measureFrom_61 (by decide) rfl ?_
    refine j_iconst (v := nI 0) dX1_measureFrom_63 rfl ?_
    refine j_istore (lv' := [some (.ref 5), some (.int (nI z)), some (.ref 9), some (.int (nI (tt z h))), some (.int (nI h)), some (.int (nI (QQ z h))), some (.int (nI 0)), none]) dX1_measureFrom_64 (by decide) rfl ?_
    refine l_ms hB hz hh (g0 := g0) (fun g q _ hI => ?_) (NBT.getD (QQ z h) []).length 0 g q (Nat.zero_add _) hI
    refine j_iinc (v := nI (h + 1)) (lv' := [some (.ref 5), some (.int (nI z)), some (.ref 9), some (.int (nI (tt z (h + 1)))), some (.int (nI (h + 1))), some (.int (nI (QQ z h))), none, none]) dX1_measureFrom_154 rfl (nI_add h 1) (by decide) rfl ?_
    refine j_goto (tgt := 44) dX1_measureFrom_157 (by decide) ?_
    refine j_sub (lv' := [some (.ref 5), some (.int (nI z)), some (.ref 9), some (.int (nI (tt z (h + 1)))), some (.int (nI (h + 1))), none, none, none]) ⟨rfl, rfl, rfl, rfl, rfl, trivial⟩ ?_
    exact ih (h + 1) g q (by omega) hI
theorem l_m0 (hB : gB w f6 f7) (hz : z < 49) {g0 q : Nat → Int32} : ∀ (m i : Nat) (g : Nat → Int32), i + m = 49 → (∀ v, v < i → g (z * 49 + v) = if v = z then nI 0 else -1) → (∀ x, ¬ (z * 49 ≤ x ∧ x < z * 49 + 49) → g x = g0 x) → jWP none RX1 cX1_measureFrom 8 none d 0 0 2 [some (.ref 5), some (.int (nI z)), some (.ref 9), some (.int (nI i)), none, none, none, none] [] (gw w g q) (gPost z w g0) := by
  have e5 : ∀ {g q : Nat → Int32}, (gw w g q).2 5 = .inr (1, [.ref 6, .ref 7, .ref 8]) := by intro g q; rw [gw_n (by decide) (by decide)]; exact hB.1
  intro m
  induction m with
  | zero =>
    intro i g hm h1 h2
    have hi : i = 49 := by omega
    subst hi
    obtain ⟨b1, b2, b3, _⟩ := ch_all hz
    refine j_iload_n dX1_measureFrom_2 rfl rfl ?_
    refine j_bipush (v := nI 49) dX1_measureFrom_3 rfl ?_
    refine jn_icmp_ge (tgt := 35) dX1_measureFrom_5 (by decide) (by decide) (by decide) (fun _ => ?_) (fun h => absurd h (by decide))
    refine j_aload_n dX1_measureFrom_35 rfl rfl ?_
    refine j_iconst (v := nI 0) dX1_measureFrom_36 rfl ?_
    refine j_iload_n dX1_measureFrom_37 rfl rfl ?_
    refine j_iastore dX1_measureFrom_38 gw_9 (vp_in_nI (by decide) (by decide)) ?_
    rw [nI_clamp (by decide), gw_p9]
    refine j_iconst (v := nI 1) dX1_measureFrom_39 rfl ?_
    refine j_istore_n (lv' := [some (.ref 5), some (.int (nI z)), some (.ref 9), some (.int (nI 1)), none, none, none, none]) dX1_measureFrom_40 rfl (by decide) rfl ?_
    refine j_iconst (v := nI 0) dX1_measureFrom_41 rfl ?_
    refine j_istore (lv' := [some (.ref 5), some (.int (nI z)), some (.ref 9), some (.int (nI 1)), some (.int (nI 0)), none, none, none]) dX1_measureFrom_42 (by decide) rfl ?_
    have q := l_mh (d := d) (g0 := g0) hB hz 49 0 g (upd q 0 (nI z)) rfl
    rw [b2] at q
    refine q ⟨fun p hp => ?_, fun v hv => ?_, h2⟩
    · have : p = 0 := by omega
      subst this
      rw [ud_s, b1]
    · rw [h1 v hv]
      have pz : PS z z = 0 := by
        have a := (ch_h hz (show 0 < 49 by decide)).2.1
        rw [b1] at a
        exact a
      by_cases e : v = z
      · subst e
        rw [if_pos rfl, if_pos (by omega), dsN_self]
      · rw [if_neg e, if_neg]
        intro p0
        have p0 : PS z v = 0 := by omega
        have a := (ch_h hz hv).2.2.2.1
        rw [p0, b1] at a
        exact e a.symm
  | succ m ih =>
    intro i g hm h1 h2
    refine j_iload_n dX1_measureFrom_2 rfl rfl ?_
    refine j_bipush (v := nI 49) dX1_measureFrom_3 rfl ?_
    refine jn_icmp_ge (tgt := 35) dX1_measureFrom_5 (by decide) (by omega) (by decide) (fun h => absurd h (by omega)) (fun _ => ?_)
    refine j_aload_n dX1_measureFrom_8 rfl rfl ?_
    refine j_getfield dX1_measureFrom_9 jfl_X1_18 e5 rfl ?_
    refine j_iload_n dX1_measureFrom_12 rfl rfl ?_
    refine j_bipush (v := nI 49) dX1_measureFrom_13 rfl ?_
    refine jn_imul dX1_measureFrom_15 ?_
    refine j_iload_n dX1_measureFrom_16 rfl rfl ?_
    refine jn_iadd dX1_measureFrom_17 ?_
    refine j_iload_n dX1_measureFrom_18 rfl rfl ?_
    refine j_iload_n dX1_measureFrom_19 rfl rfl ?_
    have tail : ∀ y : Int32, y = (if i = z then nI 0 else -1) → jWP none RX1 cX1_measureFrom 8 none d 0 0 28 [some (.ref 5), some (.int (nI z)), some (.ref 9), some (.int (nI i)), none, none, none, none] [.int y, .int (nI (z * 49 + i)), .ref 8] (gw w g q) (gPost z w g0) := fun y hy => by
      refine j_iastore dX1_measureFrom_28 gw_8 (vp_in_nI (by omega) (by decide)) ?_
      rw [nI_clamp (by omega), gw_p8]
      refine j_iinc (v := nI (i + 1)) (lv' := [some (.ref 5), some (.int (nI z)), some (.ref 9), some (.int (nI (i + 1))), none, none, none, none]) dX1_measureFrom_29 rfl (nI_add i 1) (by decide) rfl ?_
      refine j_goto (tgt := 2) dX1_measureFrom_32 (by decide) ?_
      refine ih (i + 1) _ (by omega) (fun v hv => ?_) (fun x hx => ?_)
      · by_cases e : v = i
        · subst e; rw [ud_s]; exact hy
        · rw [ud_n _ _ _ (by omega)]; exact h1 v (by omega)
      · rw [ud_n _ _ _ (by omega)]; exact h2 x hx
    refine jn_icmp_ne (tgt := 27) dX1_measureFrom_20 (by decide) (by omega) (by omega) (fun h => ?_) (fun h => ?_)
    · refine j_iconst (v := -1) dX1_measureFrom_27 rfl ?_
      exact tail _ (by rw [if_neg h])
    · refine j_iconst (v := nI 0) dX1_measureFrom_23 rfl ?_
      refine j_goto (tgt := 28) dX1_measureFrom_24 (by decide) ?_
      exact tail _ (by rw [if_pos h])
theorem k_measure (hB : gB w f6 f7) (hz : z < 49) {g0 q : Nat → Int32} : jMet d yX1_measureFrom cX1_measureFrom 8 none 0 0 [.ref 5, .int (nI z), .ref 9] (gw w g0 q) (gPost z w g0) := by
  refine jMet_of (by decide) (Nat.le_of_ble_eq_true rfl) none (Or.inl rfl) ?_
  show jWP none RX1 cX1_measureFrom 8 none d 0 0 0 [some (.ref 5), some (.int (nI z)), some (.ref 9), none, none, none, none, none] [] (gw w g0 q) (gPost z w g0)
  refine j_iconst (v := nI 0) dX1_measureFrom_0 rfl ?_
  refine j_istore_n (lv' := [some (.ref 5), some (.int (nI z)), some (.ref 9), some (.int (nI 0)), none, none, none, none]) dX1_measureFrom_1 rfl (by decide) rfl ?_
  exact l_m0 hB hz 49 0 g0 rfl (fun v hv => absurd hv (Nat.not_lt_zero _)) (fun _ _ => rfl)
theorem l_grid2 (hB : gB w f6 f7) {post : Option Value → jW → Prop} (kk : ∀ g q : Nat → Int32, (∀ z v, z < 49 → v < 49 → g (z * 49 + v) = nI (dsN z v)) → post none (gw w g q)) : ∀ (m z : Nat) (g q : Nat → Int32), z + m = 49 → (∀ z' v, z' < z → v < 49 → g (z' * 49 + v) = nI (dsN z' v)) → jWP (some none) RX1 cX1_init 3 none (d + 1) 0 0 56 [some (.ref 5), some (.ref 9), some (.int (nI z))] [] (gw w g q) post := by
  intro m
  induction m with
  | zero =>
    intro z g q hm h1
    have hz : z = 49 := by omega
    subst hz
    refine j_iload_n dX1_init_56 rfl rfl ?_
    refine j_bipush (v := nI 49) dX1_init_57 rfl ?_
    refine jn_icmp_ge (tgt := 74) dX1_init_59 (by decide) (by decide) (by decide) (fun _ => ?_) (fun h => absurd h (by decide))
    exact j_return dX1_init_74 rfl (kk g q h1)
  | succ m ih =>
    intro z g q hm h1
    refine j_iload_n dX1_init_56 rfl rfl ?_
    refine j_bipush (v := nI 49) dX1_init_57 rfl ?_
    refine jn_icmp_ge (tgt := 74) dX1_init_59 (by decide) (by omega) (by decide) (fun h => absurd h (by omega)) (fun _ => ?_)
    refine j_aload_n dX1_init_62 rfl rfl ?_
    refine j_iload_n dX1_init_63 rfl rfl ?_
    refine j_aload_n dX1_init_64 rfl rfl ?_
    refine j_callV [.int (nI z), .ref 9] [] dX1_init_65 jlk_X1_25 rfl rfl (by rw [gw_n (by decide) (by decide)]; exact hB.1) rfl (Nat.le_of_ble_eq_true rfl) (k_measure hB (show z < 49 by omega)) (fun r w' hw => ?_)
    obtain ⟨rfl, g', q', rfl, e1, e2⟩ := hw
    refine j_iinc (v := nI (z + 1)) (lv' := [some (.ref 5), some (.ref 9), some (.int (nI (z + 1)))]) dX1_init_68 rfl (nI_add z 1) (by decide) rfl ?_
    refine j_goto (tgt := 56) dX1_init_71 (by decide) ?_
    refine ih (z + 1) g' q' (by omega) (fun z' v hz' hv => ?_)
    by_cases e : z' = z
    · subst e; exact e1 v hv
    · rw [e2 _ (by omega)]; exact h1 z' v (by omega) hv
end GRID3
theorem k_X1_init {d : Nat} {c : Nat → jE} (hs : c 5 = .inr (1, [.null, .null, .null])) : jMet (d + 4) yX1_init cX1_init 3 none 4 2793 [.ref 5] (6, c) (gridP c) := by
  refine jMet_of (by decide) (Nat.le_of_ble_eq_true rfl) (some none) (Or.inr ⟨rfl, rfl⟩) ?_
  show jWP (some none) RX1 cX1_init 3 none (d + 4) 4 2793 0 [some (.ref 5), none, none] [] (6, c) (gridP c)
  refine j_aload_n (i := 0) dX1_init_0 rfl rfl ?_
  refine j_objInit dX1_init_1 jlo_X1_3 (Nat.le_of_ble_eq_true rfl) ?_
  refine j_aload_n (i := 0) dX1_init_4 rfl rfl ?_
  refine j_sipush (v := nI 294) dX1_init_5 (by decide) ?_
  refine j_newarr_i (N := 294) (bc := 3) (bs := 2499) dX1_init_8 jw_arr_int (by decide) (nI_clamp (by decide)) (Nat.le_of_ble_eq_true rfl) ?_
  refine j_putfinal rfl dX1_init_10 jfl_X1_11 rfl hs (fun _ => rfl) (fun _ => rfl) (Nat.le_of_ble_eq_true rfl) ?_
  refine j_aload_n (i := 0) dX1_init_13 rfl rfl ?_
  refine j_bipush (v := nI 49) dX1_init_14 rfl ?_
  refine j_newarr_i (N := 49) (bc := 2) (bs := 2450) dX1_init_16 jw_arr_int (by decide) (nI_clamp (by decide)) (Nat.le_of_ble_eq_true rfl) ?_
  refine j_putfinal rfl dX1_init_18 jfl_X1_15 rfl rfl (fun _ => rfl) (fun _ => rfl) (Nat.le_of_ble_eq_true rfl) ?_
  refine j_aload_n (i := 0) dX1_init_21 rfl rfl ?_
  refine j_sipush (v := nI 2401) dX1_init_22 (by decide) ?_
  refine j_newarr_i (N := 2401) (bc := 1) (bs := 49) dX1_init_25 jw_arr_int (by decide) (nI_clamp (by decide)) (Nat.le_of_ble_eq_true rfl) ?_
  refine j_putfinal rfl dX1_init_27 jfl_X1_18 rfl rfl (fun _ => rfl) (fun _ => rfl) (Nat.le_of_ble_eq_true rfl) ?_
  refine j_iconst (v := nI 0) dX1_init_30 rfl ?_
  refine j_istore_n (i := 1) (lv' := [some (.ref 5), some (.int (nI 0)), none]) dX1_init_31 rfl (by decide) rfl ?_
  have e0 : (ju (7 + 1 + 1, va_up (ju (6 + 1 + 1, va_up (ju (6 + 1, va_up c 6 (.inl (0, 294, .inl fun _ => 0))) 5 (.inr (1, [.ref 6, .null, .null]))).2 7 (.inl (0, 49, .inl fun _ => 0))) 5 (.inr (1, [.ref 6, .ref 7, .null]))).2 8 (.inl (0, 2401, .inl fun _ => 0))) 5 (.inr (1, [.ref 6, .ref 7, .ref 8])) : jW) = nw (9, va_up (va_up c 8 (.inl (0, 2401, .inl fun _ => 0))) 5 (.inr (1, [.ref 6, .ref 7, .ref 8]))) (fun _ => 0) (fun _ => 0) := by
    refine Prod.ext rfl (funext fun k => ?_)
    by_cases k5 : k = 5
    · subst k5; rfl
    by_cases k6 : k = 6
    · subst k6; rfl
    by_cases k7 : k = 7
    · subst k7; rfl
    by_cases k8 : k = 8
    · subst k8; rfl
    simp [nw, ju, va_up, k5, k6, k7, k8]
  refine j_atw e0 ?_
  refine l_grid1 (d := d + 2) (nL2 := none) rfl (fun f6 f7 hN => ?_) 49 0 _ _ rfl (fun a ha => absurd ha (Nat.not_lt_zero _)) (fun a _ _ => ⟨rfl, Nat.zero_le _, fun s hs => absurd hs (Nat.not_lt_zero _), fun s _ _ => rfl⟩)
  refine j_bipush (v := nI 49) dX1_init_49 rfl ?_
  refine j_newarr_i (N := 49) (bc := 0) (bs := 0) dX1_init_51 jw_arr_int (by decide) (nI_clamp (by decide)) (Nat.le_of_ble_eq_true rfl) ?_
  refine j_astore_n (i := 1) (lv' := [some (.ref 5), some (.ref 9), none]) dX1_init_53 rfl (by decide) rfl ?_
  refine j_iconst (v := nI 0) dX1_init_54 rfl ?_
  refine j_istore_n (i := 2) (lv' := [some (.ref 5), some (.ref 9), some (.int (nI 0))]) dX1_init_55 rfl (by decide) rfl ?_
  have e1 : (((nw (9, va_up (va_up c 8 (.inl (0, 2401, .inl fun _ => 0))) 5 (.inr (1, [.ref 6, .ref 7, .ref 8]))) f6 f7).1 + 1, va_up (nw (9, va_up (va_up c 8 (.inl (0, 2401, .inl fun _ => 0))) 5 (.inr (1, [.ref 6, .ref 7, .ref 8]))) f6 f7).2 9 (.inl (0, 49, .inl fun _ => 0))) : jW) = gw (nw (10, va_up c 5 (.inr (1, [.ref 6, .ref 7, .ref 8]))) f6 f7) (fun _ => 0) (fun _ => 0) := by
    refine Prod.ext rfl (funext fun k => ?_)
    by_cases k5 : k = 5
    · subst k5; rfl
    by_cases k6 : k = 6
    · subst k6; rfl
    by_cases k7 : k = 7
    · subst k7; rfl
    by_cases k8 : k = 8
    · subst k8; rfl
    by_cases k9 : k = 9
    · subst k9; rfl
    simp [nw, gw, ju, va_up, k5, k6, k7, k8, k9]
  refine j_atw e1 ?_
  refine l_grid2 (d := d + 3) (f6 := f6) (f7 := f7) ⟨rfl, rfl, rfl, hN⟩ (fun g q hg => ?_) 49 0 _ _ rfl (fun z' v hz' => absurd hz' (Nat.not_lt_zero _))
  refine ⟨f6, f7, g, q, rfl, ?_, fun j hj => ?_, fun j hj => (hN j hj).1, fun j hj => ?_⟩
  · refine Prod.ext rfl (funext fun k => ?_)
    by_cases k5 : k = 5
    · subst k5; rfl
    by_cases k6 : k = 6
    · subst k6; rfl
    by_cases k7 : k = 7
    · subst k7; rfl
    by_cases k8 : k = 8
    · subst k8; rfl
    by_cases k9 : k = 9
    · subst k9; rfl
    simp [nw, gw, ju, va_up, k5, k6, k7, k8, k9]
  · obtain ⟨_, q2, q3, q4⟩ := hN (j / 6) (by omega)
    have e : j / 6 * 6 + j % 6 = j := by omega
    show f6 j = nI ((nbL (j / 6)).getD (j % 6) 0)
    by_cases h : j % 6 < (nbL (j / 6)).length
    · have q := q3 (j % 6) h
      rw [e] at q
      exact q
    · have q := q4 (j % 6) (by omega) (by omega)
      rw [e] at q
      rw [q, List.getD_eq_getElem?_getD, List.getElem?_eq_none (by omega)]
      rfl
  · have q := hg (j / 49) (j % 49) (by omega) (by omega)
    rw [show j / 49 * 49 + j % 49 = j by omega] at q
    exact q
