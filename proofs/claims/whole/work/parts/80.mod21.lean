/-- what heats and winters leave besides -/
def tE (A : Nat → Nat → Int32) (N Z : Nat → Int32) (c : cS) : Nat → Nat → Int32 := eA (va_up A 88 N) c.1 c.2 Z
theorem tE_84 (A : Nat → Nat → Int32) (N Z : Nat → Int32) (c : cS) : tE A N Z c 84 = c.1 := eA_84 _ _ _ _
theorem tE_85 (A : Nat → Nat → Int32) (N Z : Nat → Int32) (c : cS) : tE A N Z c 85 = c.2 := eA_85 _ _ _ _
theorem tE_n (A : Nat → Nat → Int32) (N Z : Nat → Int32) (c : cS) {q : Nat} (h1 : q ≠ 84) (h2 : q ≠ 85) (h3 : q ≠ 88) (h4 : q ≠ 89) : tE A N Z c q = A q := by unfold tE; rw [eA_n _ _ _ _ h1 h2 h4, vu_n _ _ _ h3]
theorem tM_e (A : Nat → Nat → Int32) (N : Nat → Int32) (c c' : cS) (Z : Nat → Int32) : eA (tM A N c) c'.1 c'.2 Z = tE A N Z c' := mA_e _ _ _ _ _ _
theorem tE_t (A : Nat → Nat → Int32) (N N' Z : Nat → Int32) (c c' : cS) : mA (va_up (tE A N Z c) 88 N') c'.1 c'.2 = tE A N' Z c' := by
  unfold tE
  rw [eA_vu _ _ _ _ _ (by decide) (by decide) (by decide), eA_m, z88]
theorem tE_e (A : Nat → Nat → Int32) (N Z Z' : Nat → Int32) (c c' : cS) : eA (tE A N Z c) c'.1 c'.2 Z' = tE A N Z' c' := eA_eA _ _ _ _ _ _ _
theorem tE_m (A : Nat → Nat → Int32) (N Z : Nat → Int32) (c c' : cS) : mA (tE A N Z c) c'.1 c'.2 = tE A N Z c' := eA_m _ _ _ _ _ _
theorem tM_E (A : Nat → Nat → Int32) (N : Nat → Int32) (c : cS) : tM A N c = tE A N (A 89) c := by
  unfold tM tE
  rw [mA_eA, vu_n _ _ _ (show (89 : Nat) ≠ 88 by decide)]
theorem tE_self (A : Nat → Nat → Int32) : tE A (A 88) (A 89) (A 84, A 85) = A := by
  unfold tE
  rw [vu_self]
  exact eA_self A
theorem mrul_te {td : Bool} {tm : Nat} {tx : Nat → Nat} {na : Nat} {v : Nat → Nat} {X A : Nat → Nat → Int32} {y N Z : Nat → Int32} {c : cS} (h : mrul td tm tx na v X A) : mrul td tm tx na v (zX X y) (tE A N Z c) := mrul_e (mrul_z h)
section CT60
variable {d : Nat} {X A : Nat → Nat → Int32} {L : Nat → Nat → Int64} {w : jW} {tx v : Nat → Nat} {na tm : Nat} {td : Bool}

set_option maxHeartbeats 200000 in
set_option maxRecDepth 100000 in
theorem l_drawn3 {e z : Int32} {k : Nat} {y0 : Int32} {l : Int32} : ∀ (m i : Nat), i ≤ 49 → 49 - i < m → jWP none RX11 cX11_drawn 8 (some .int) (d + 55) 0 0 164 [some (.ref 76), some (.int e), some (.int (nI k)), some (.int y0), some (.int z), some (.int l), some (.int (allS (A 85) i)), some (.int (nI i))] [] (tw X A L) (jRi (if y0 = 0 then allS (A 85) 49 else l) (tw X A L)) := by
  intro m
  induction m with
  | zero => intro i h1 h2; omega
  | succ m ih =>
    intro i hi hm
    refine j_iload dX11_drawn_164 rfl ?_
    refine j_bipush (v := nI 49) dX11_drawn_166 rfl ?_
    refine jn_icmp_ge (tgt := 189) dX11_drawn_168 (by decide) (by omega) (by omega) (fun h168 => ?_) (fun h168 => ?_)
    · refine j_iload_n dX11_drawn_189 rfl rfl ?_
      refine j_if_ne (tgt := 198) dX11_drawn_190 (by decide) (fun h190 => ?_) (fun h190 => ?_)
      · refine j_iload dX11_drawn_198 rfl ?_
        refine j_ireturn dX11_drawn_200 rfl ?_
        obtain rfl : i = 49 := by omega
        exact ⟨by rw [if_neg h190], rfl⟩
      · refine j_iload dX11_drawn_193 rfl ?_
        refine j_goto (tgt := 200) dX11_drawn_195 (by decide) ?_
        refine j_ireturn dX11_drawn_200 rfl ?_
        obtain rfl : i = 49 := by omega
        exact ⟨by rw [if_pos (by first | exact h190 | simpa using h190)], rfl⟩
    · refine j_iload dX11_drawn_171 rfl ?_
      refine j_aload_n dX11_drawn_173 rfl rfl ?_
      refine t_getR (b := 85) dX11_drawn_174 jfl_X11_36 (fun _ _ _ => rfl) rfl ?_
      refine j_iload dX11_drawn_177 rfl ?_
      refine t_iaload dX11_drawn_179 (fun _ _ _ => rfl) (by omega) (by decide) ?_
      refine j_iadd dX11_drawn_180 ?_
      refine j_istore (lv' := [some (.ref 76), some (.int _), some (.int _), some (.int _), some (.int _), some (.int _), some (.int _), some (.int _)]) dX11_drawn_181 (by decide) rfl ?_
      refine jn_iinc (lv' := [some (.ref 76), some (.int _), some (.int _), some (.int _), some (.int _), some (.int _), some (.int _), some (.int _)]) dX11_drawn_183 rfl (by decide) rfl ?_
      refine j_goto (tgt := 164) dX11_drawn_186 (by decide) ?_
      exact ih (i + 1) (by omega) (by omega)

set_option maxHeartbeats 200000 in
set_option maxRecDepth 100000 in
theorem l_drawn_m (hr : mrul td tm tx na v X A) {k : Nat} (hk : k < 2 ^ 31) {y0 : Int32} {R : cS × Nat} (hna : 0 < na) : ∀ (m : Nat) (e : Int32) (i : Nat) (c : cS) (z : Int32) (l : Nat) (y N Z : Nat → Int32), i + m = k / 100 → ow c.1 → (drF (RkM td tm tx v) na m c z l) = R → jWP none RX11 cX11_drawn 8 (some .int) (d + 55) 0 0 69 [some (.ref 76), some (.int e), some (.int (nI k)), some (.int y0), some (.int z), some (.int (nI l)), some (.int (nI i)), none] [] (tw (zX X y) (tE A N Z c) L) ((fun z w => z = some (.int (if y0 = 0 then allS (winS (min (k % 100) (hN R.1.1)) R.1).2 49 else nI R.2)) ∧ ∃ y N Z : Nat → Int32, w = tw (zX X y) (tE A N Z (winS (min (k % 100) (hN R.1.1)) R.1)) L)) := by
  have na6 := hr.2.2.2.2.2.2.1
  intro m
  induction m with
  | zero =>
    intro e i c z l y N Z hi hwo hf
    subst hf
    refine j_iload dX11_drawn_69 rfl ?_
    refine j_iload_n dX11_drawn_71 rfl rfl ?_
    refine j_bipush (v := nI 100) dX11_drawn_72 rfl ?_
    refine jn_idiv dX11_drawn_74 hk (by decide) (by decide) ?_
    refine jn_icmp_ge (tgt := 149) dX11_drawn_75 (by decide) (by omega) (by omega) (fun h75 => ?_) (fun h75 => absurd h75 (by omega))
    refine j_aload_n dX11_drawn_149 rfl rfl ?_
    refine j_iload_n dX11_drawn_150 rfl rfl ?_
    refine j_bipush (v := nI 100) dX11_drawn_151 rfl ?_
    refine jn_irem dX11_drawn_153 hk (by decide) (by decide) ?_
    refine j_callV [.int _] [] dX11_drawn_154 jlk_X11_246 rfl rfl rfl rfl (Nat.le_of_ble_eq_true rfl) (m_winters (by rw [tE_84]; exact hwo) (by omega)) (fun r9 w9 h9 => ?_)
    obtain ⟨rfl, Z9, rfl⟩ := h9
    rw [tE_84, tE_85, tE_e]
    refine j_ats (st' := [.int _]) rfl ?_
    refine j_pop dX11_drawn_157 rfl ?_
    refine j_iconst (v := nI 0) dX11_drawn_158 rfl ?_
    refine j_istore (lv' := [some (.ref 76), some (.int _), some (.int _), some (.int _), some (.int _), some (.int _), some (.int _), none]) dX11_drawn_159 (by decide) rfl ?_
    refine j_iconst (v := nI 0) dX11_drawn_161 rfl ?_
    refine j_istore (lv' := [some (.ref 76), some (.int _), some (.int _), some (.int _), some (.int _), some (.int _), some (.int _), some (.int _)]) dX11_drawn_162 (by decide) rfl ?_
    refine j_sub (by exact ⟨rfl, rfl, rfl, rfl, rfl, rfl, rfl, rfl, trivial⟩) (j_post (l_drawn3 50 0 (by decide) (by decide)) ?_)
    rintro z w ⟨rfl, rfl⟩
    rw [tE_85]
    exact ⟨rfl, y, N, Z9, rfl⟩
  | succ m ih =>
    intro e i c z l y N Z hi hwo hf
    have hu1 : uS (drZ z) < 2 ^ 31 := by have := uS_lt (drZ z); omega
    have hu2 : uS (drZ (drZ z)) < 2 ^ 31 := by have := uS_lt (drZ (drZ z)); omega
    refine j_iload dX11_drawn_69 rfl ?_
    refine j_iload_n dX11_drawn_71 rfl rfl ?_
    refine j_bipush (v := nI 100) dX11_drawn_72 rfl ?_
    refine jn_idiv dX11_drawn_74 hk (by decide) (by decide) ?_
    refine jn_icmp_ge (tgt := 149) dX11_drawn_75 (by decide) (by omega) (by omega) (fun h75 => absurd h75 (by omega)) (fun h75 => ?_)
    refine j_iload dX11_drawn_78 rfl ?_
    refine j_ldcw dX11_drawn_80 jw_k_X11_325 ?_
    refine j_imul dX11_drawn_83 ?_
    refine j_sipush (v := nI 12345) dX11_drawn_84 rfl ?_
    refine j_iadd dX11_drawn_87 ?_
    refine j_istore (lv' := [some (.ref 76), some (.int _), some (.int _), some (.int _), some (.int _), some (.int _), some (.int _), none]) dX11_drawn_88 (by decide) rfl ?_
    refine j_iload dX11_drawn_90 rfl ?_
    refine j_bipush (v := nI 8) dX11_drawn_92 rfl ?_
    refine j_iushr dX11_drawn_94 ?_
    refine j_topE (e' := nI (uS (drZ z))) (uS_eq _) ?_
    refine j_aload_n dX11_drawn_95 rfl rfl ?_
    refine t_getI dX11_drawn_96 jfl_X11_117 (fun _ _ _ => rfl) (fun _ => rfl) ?_
    refine j_topE (e' := nI na) (mrul_te (y := y) (N := N) (Z := Z) (c := c) hr).2.2.2.2.2.1 ?_
    refine jn_irem dX11_drawn_99 hu1 hna (by omega) ?_
    refine j_istore (lv' := [some (.ref 76), some (.int _), some (.int _), some (.int _), some (.int _), some (.int _), some (.int _), some (.int _)]) dX11_drawn_100 (by decide) rfl ?_
    refine j_iload dX11_drawn_102 rfl ?_
    refine j_ldcw dX11_drawn_104 jw_k_X11_325 ?_
    refine j_imul dX11_drawn_107 ?_
    refine j_sipush (v := nI 12345) dX11_drawn_108 rfl ?_
    refine j_iadd dX11_drawn_111 ?_
    refine j_istore (lv' := [some (.ref 76), some (.int _), some (.int _), some (.int _), some (.int _), some (.int _), some (.int _), some (.int _)]) dX11_drawn_112 (by decide) rfl ?_
    refine j_iload dX11_drawn_114 rfl ?_
    refine j_aload_n dX11_drawn_116 rfl rfl ?_
    refine j_iload dX11_drawn_117 rfl ?_
    refine j_iconst (v := nI 1) dX11_drawn_119 rfl ?_
    refine j_iload dX11_drawn_120 rfl ?_
    refine j_bipush (v := nI 8) dX11_drawn_122 rfl ?_
    refine j_iushr dX11_drawn_124 ?_
    refine j_topE (e' := nI (uS (drZ (drZ z)))) (uS_eq _) ?_
    refine j_bipush (v := nI 6) dX11_drawn_125 rfl ?_
    refine jn_irem dX11_drawn_127 hu2 (by decide) (by decide) ?_
    refine jn_iadd dX11_drawn_128 ?_
    refine j_callV [.int _, .int _] [.int _] dX11_drawn_129 jlk_X11_225 rfl rfl rfl rfl (Nat.le_of_ble_eq_true rfl) (m_sells (mrul_te (y := y) (N := N) (Z := Z) hr) (by rw [tE_84]; exact hwo) (k := uS (drZ z) % na) (Nat.mod_lt _ hna)) (fun r9 w9 h9 => ?_)
    obtain ⟨rfl, y9, N9, rfl⟩ := h9
    rw [tE_84, tE_85, zX_zX, tE_t]
    refine j_atw (w' := tw (zX X y9) (tE A N9 Z (seS (RkM td tm tx v) c (nI (uS (drZ z) % na)) (nI (1 + uS (drZ (drZ z)) % 6)))) L) rfl ?_
    refine j_ats (st' := [.int _, .int _]) rfl ?_
    refine j_if_ge (tgt := 139) dX11_drawn_132 (by decide) (fun h132 => ?_) (fun h132 => ?_)
    · have hs := plP_pos h132
      refine j_iconst (v := nI 0) dX11_drawn_139 rfl ?_
      refine jn_iadd dX11_drawn_140 ?_
      refine j_istore (lv' := [some (.ref 76), some (.int _), some (.int _), some (.int _), some (.int _), some (.int _), some (.int _), some (.int _)]) dX11_drawn_141 (by decide) rfl ?_
      refine jn_iinc (lv' := [some (.ref 76), some (.int _), some (.int _), some (.int _), some (.int _), some (.int _), some (.int _), some (.int _)]) dX11_drawn_143 rfl (by decide) rfl ?_
      refine j_goto (tgt := 69) dX11_drawn_146 (by decide) ?_
      refine j_sub (by exact ⟨rfl, rfl, rfl, rfl, rfl, rfl, rfl, trivial⟩) (ih e (i + 1) (seS (RkM td tm tx v) c (nI (uS (drZ z) % na)) (nI (1 + uS (drZ (drZ z)) % 6))) (drZ (drZ z)) l y9 N9 Z (by omega) (seS_ow hwo (Int32.not_lt.mp (nI_pos (Nat.lt_trans (Nat.mod_lt _ hna) (by omega))))) ?_)
      rw [← hf]
      show _ = drF _ _ m _ _ (if (seP (RkM td tm tx v) c (nI (uS (drZ z) % na)) (nI (1 + uS (drZ (drZ z)) % 6))).isSome = true then l else l + 1)
      rw [if_pos hs]
    · have hs := plP_neg' (Int32.not_le.mp h132) (fun q hq => seP_lt hq)
      refine j_iconst (v := nI 1) dX11_drawn_135 rfl ?_
      refine j_goto (tgt := 140) dX11_drawn_136 (by decide) ?_
      refine jn_iadd dX11_drawn_140 ?_
      refine j_istore (lv' := [some (.ref 76), some (.int _), some (.int _), some (.int _), some (.int _), some (.int _), some (.int _), some (.int _)]) dX11_drawn_141 (by decide) rfl ?_
      refine jn_iinc (lv' := [some (.ref 76), some (.int _), some (.int _), some (.int _), some (.int _), some (.int _), some (.int _), some (.int _)]) dX11_drawn_143 rfl (by decide) rfl ?_
      refine j_goto (tgt := 69) dX11_drawn_146 (by decide) ?_
      refine j_sub (by exact ⟨rfl, rfl, rfl, rfl, rfl, rfl, rfl, trivial⟩) (ih e (i + 1) (seS (RkM td tm tx v) c (nI (uS (drZ z) % na)) (nI (1 + uS (drZ (drZ z)) % 6))) (drZ (drZ z)) (l + 1) y9 N9 Z (by omega) (seS_ow hwo (Int32.not_lt.mp (nI_pos (Nat.lt_trans (Nat.mod_lt _ hna) (by omega))))) ?_)
      rw [← hf]
      show _ = drF _ _ m _ _ (if (seP (RkM td tm tx v) c (nI (uS (drZ z) % na)) (nI (1 + uS (drZ (drZ z)) % 6))).isSome = true then l else l + 1)
      rw [if_neg (by rw [hs]; decide)]

set_option maxHeartbeats 200000 in
set_option maxRecDepth 100000 in
theorem m_drawn_neg {e c y : Int32} (h : c < 0) : jMet (d + 55) yX11_drawn cX11_drawn 8 (some .int) 0 0 [.ref 76, .int e, .int c, .int y] (tw X A L) (jRi (-1) (tw X A L)) := by
  refine jMet_of (by decide) (Nat.le_of_ble_eq_true rfl) none (Or.inl rfl) ?_
  show jWP none RX11 cX11_drawn 8 (some .int) (d + 55) 0 0 0 [some (.ref 76), some (.int e), some (.int c), some (.int y), none, none, none, none] [] (tw X A L) (jRi (-1) (tw X A L))
  refine j_iload_n dX11_drawn_0 rfl rfl ?_
  refine j_if_lt (tgt := 44) dX11_drawn_1 (by decide) (fun h1 => ?_) (fun h1 => absurd h h1)
  refine j_iconst (v := (-1)) dX11_drawn_44 rfl ?_
  refine j_ireturn dX11_drawn_45 rfl ?_
  exact ⟨rfl, rfl⟩

set_option maxHeartbeats 200000 in
set_option maxRecDepth 100000 in
theorem m_drawn_no {e y : Int32} {k : Nat} (hk : k < 2 ^ 31) (h : k < 100 ∨ 60 < k / 100 ∨ 49 < k % 100 ∨ isA 2 y = nI 0) : jMet (d + 55) yX11_drawn cX11_drawn 8 (some .int) 0 0 [.ref 76, .int e, .int (nI k), .int y] (tw X A L) (jRi (-1) (tw X A L)) := by
  refine jMet_of (by decide) (Nat.le_of_ble_eq_true rfl) none (Or.inl rfl) ?_
  show jWP none RX11 cX11_drawn 8 (some .int) (d + 55) 0 0 0 [some (.ref 76), some (.int e), some (.int (nI k)), some (.int y), none, none, none, none] [] (tw X A L) (jRi (-1) (tw X A L))
  refine j_iload_n dX11_drawn_0 rfl rfl ?_
  refine jn_if_lt (tgt := 44) dX11_drawn_1 (by decide) hk ?_
  refine j_iload_n dX11_drawn_4 rfl rfl ?_
  refine j_bipush (v := nI 100) dX11_drawn_5 rfl ?_
  refine jn_idiv dX11_drawn_7 hk (by decide) (by decide) ?_
  refine j_i2l dX11_drawn_8 ?_
  refine j_lconst (v := 1) dX11_drawn_9 rfl ?_
  refine j_ldc2 dX11_drawn_10 jw_k_X11_323 ?_
  refine j_callSi [.long _, .long _, .long _] [] dX11_drawn_13 jlk_X11_111 rfl rfl (Nat.le_of_ble_eq_true rfl) (m_within) ?_
  refine j_if_eq (tgt := 44) dX11_drawn_16 (by decide) (fun h16 => ?_) (fun h16 => ?_)
  · refine j_iconst (v := (-1)) dX11_drawn_44 rfl ?_
    refine j_ireturn dX11_drawn_45 rfl ?_
    exact ⟨rfl, rfl⟩
  · refine j_iload_n dX11_drawn_19 rfl rfl ?_
    refine j_bipush (v := nI 100) dX11_drawn_20 rfl ?_
    refine jn_irem dX11_drawn_22 hk (by decide) (by decide) ?_
    refine j_i2l dX11_drawn_23 ?_
    refine j_lconst (v := 0) dX11_drawn_24 rfl ?_
    refine j_ldc2 dX11_drawn_25 jw_k_X11_244 ?_
    refine j_callSi [.long _, .long _, .long _] [] dX11_drawn_28 jlk_X11_111 rfl rfl (Nat.le_of_ble_eq_true rfl) (m_within) ?_
    refine j_if_eq (tgt := 44) dX11_drawn_31 (by decide) (fun h31 => ?_) (fun h31 => ?_)
    · refine j_iconst (v := (-1)) dX11_drawn_44 rfl ?_
      refine j_ireturn dX11_drawn_45 rfl ?_
      exact ⟨rfl, rfl⟩
    · refine j_iload_n dX11_drawn_34 rfl rfl ?_
      refine j_i2l dX11_drawn_35 ?_
      refine j_lconst (v := 0) dX11_drawn_36 rfl ?_
      refine j_lconst (v := 1) dX11_drawn_37 rfl ?_
      refine j_callSi [.long _, .long _, .long _] [] dX11_drawn_38 jlk_X11_111 rfl rfl (Nat.le_of_ble_eq_true rfl) (jMet_i m_within (wi_A (k := 1) (by decide) (by decide)) rfl) ?_
      refine j_if_ne (tgt := 46) dX11_drawn_41 (by decide) (fun h41 => ?_) (fun h41 => ?_)
      · exfalso
        have w1 := wi_1g (a := 1) (b := 60) h16 (by decide) (by decide)
        have w2 := wi_1g (a := 0) (b := 49) h31 (by decide) (by decide)
        rcases h with q | q | q | q
        · exact w1.1 ((nI_ltI (by omega) (by decide)).mpr (by omega))
        · exact w1.2 ((nI_ltI (by decide) (by omega)).mpr q)
        · exact w2.2 ((nI_ltI (by decide) (by omega)).mpr q)
        · exact h41 q
      · refine j_iconst (v := (-1)) dX11_drawn_44 rfl ?_
        refine j_ireturn dX11_drawn_45 rfl ?_
        exact ⟨rfl, rfl⟩

set_option maxHeartbeats 200000 in
set_option maxRecDepth 100000 in
theorem m_drawn_0 (hn : X 76 7 = nI na) (h6a : na ≤ 6) (h0 : na = 0) {e : Int32} {k : Nat} (hk : k < 2 ^ 31) (h1 : 100 ≤ k) (h2 : k / 100 ≤ 60) (h3 : k % 100 ≤ 49) {y : Int32} (hy : isA 2 y ≠ nI 0) : jMet (d + 55) yX11_drawn cX11_drawn 8 (some .int) 0 0 [.ref 76, .int e, .int (nI k), .int y] (tw X A L) (jRi (-5) (tw X A L)) := by
  refine jMet_of (by decide) (Nat.le_of_ble_eq_true rfl) none (Or.inl rfl) ?_
  show jWP none RX11 cX11_drawn 8 (some .int) (d + 55) 0 0 0 [some (.ref 76), some (.int e), some (.int (nI k)), some (.int y), none, none, none, none] [] (tw X A L) (jRi (-5) (tw X A L))
  refine j_iload_n dX11_drawn_0 rfl rfl ?_
  refine jn_if_lt (tgt := 44) dX11_drawn_1 (by decide) hk ?_
  refine j_iload_n dX11_drawn_4 rfl rfl ?_
  refine j_bipush (v := nI 100) dX11_drawn_5 rfl ?_
  refine jn_idiv dX11_drawn_7 hk (by decide) (by decide) ?_
  refine j_i2l dX11_drawn_8 ?_
  refine j_lconst (v := 1) dX11_drawn_9 rfl ?_
  refine j_ldc2 dX11_drawn_10 jw_k_X11_323 ?_
  refine j_callSi [.long _, .long _, .long _] [] dX11_drawn_13 jlk_X11_111 rfl rfl (Nat.le_of_ble_eq_true rfl) (jMet_i m_within (wi_1 (show 1 ≤ k / 100 by omega) h2 (by decide) (by decide) (by decide)) rfl) ?_
  refine j_if_eq (tgt := 44) dX11_drawn_16 (by decide) (fun h => absurd h (by decide)) (fun _ => ?_)
  refine j_iload_n dX11_drawn_19 rfl rfl ?_
  refine j_bipush (v := nI 100) dX11_drawn_20 rfl ?_
  refine jn_irem dX11_drawn_22 hk (by decide) (by decide) ?_
  refine j_i2l dX11_drawn_23 ?_
  refine j_lconst (v := 0) dX11_drawn_24 rfl ?_
  refine j_ldc2 dX11_drawn_25 jw_k_X11_244 ?_
  refine j_callSi [.long _, .long _, .long _] [] dX11_drawn_28 jlk_X11_111 rfl rfl (Nat.le_of_ble_eq_true rfl) (jMet_i m_within (wi_in (k := 49) h3 (by decide) (by decide)) rfl) ?_
  refine j_if_eq (tgt := 44) dX11_drawn_31 (by decide) (fun h => absurd h (by decide)) (fun _ => ?_)
  refine j_iload_n dX11_drawn_34 rfl rfl ?_
  refine j_i2l dX11_drawn_35 ?_
  refine j_lconst (v := 0) dX11_drawn_36 rfl ?_
  refine j_lconst (v := 1) dX11_drawn_37 rfl ?_
  refine j_callSi [.long _, .long _, .long _] [] dX11_drawn_38 jlk_X11_111 rfl rfl (Nat.le_of_ble_eq_true rfl) (jMet_i m_within (wi_A (k := 1) (by decide) (by decide)) rfl) ?_
  refine j_if_ne (tgt := 46) dX11_drawn_41 (by decide) (fun h41 => ?_) (fun h41 => absurd (by first | exact h41 | simpa using h41) hy)
  refine j_aload_n dX11_drawn_46 rfl rfl ?_
  refine t_getI dX11_drawn_47 jfl_X11_117 (fun _ _ _ => rfl) (fun _ => rfl) ?_
  refine j_topE (e' := nI na) hn ?_
  refine jn_if_ne (tgt := 56) dX11_drawn_50 (by decide) (by omega) (fun h50 => absurd h50 (by omega)) (fun h50 => ?_)
  refine j_bipush (v := (-5)) dX11_drawn_53 rfl ?_
  refine j_ireturn dX11_drawn_55 rfl ?_
  exact ⟨rfl, rfl⟩

set_option maxHeartbeats 200000 in
set_option maxRecDepth 100000 in
theorem m_drawn (hr : mrul td tm tx na v X A) (z1 : zb 49 (A 82)) (z2 : zb 49 (A 83)) (z3 : zb 49 (A 84)) (z4 : zb 49 (A 85)) (hw : ow (A 82)) (h0 : 0 < na) {e : Int32} {k : Nat} (hk : k < 2 ^ 31) (h1 : 100 ≤ k) (h2 : k / 100 ≤ 60) (h3 : k % 100 ≤ 49) {y : Int32} (hy : isA 2 y ≠ nI 0) : jMet (d + 55) yX11_drawn cX11_drawn 8 (some .int) 0 0 [.ref 76, .int e, .int (nI k), .int y] (tw X A L) ((fun z w => z = some (.int (if y = 0 then allS (winS (min (k % 100) (hN (drF (RkM td tm tx v) na (k / 100) (A 82, A 83) e 0).1.1)) (drF (RkM td tm tx v) na (k / 100) (A 82, A 83) e 0).1).2 49 else nI (drF (RkM td tm tx v) na (k / 100) (A 82, A 83) e 0).2)) ∧ ∃ u N Z : Nat → Int32, w = tw (zX X u) (tE A N Z (winS (min (k % 100) (hN (drF (RkM td tm tx v) na (k / 100) (A 82, A 83) e 0).1.1)) (drF (RkM td tm tx v) na (k / 100) (A 82, A 83) e 0).1)) L)) := by
  refine jMet_of (by decide) (Nat.le_of_ble_eq_true rfl) none (Or.inl rfl) ?_
  show jWP none RX11 cX11_drawn 8 (some .int) (d + 55) 0 0 0 [some (.ref 76), some (.int e), some (.int (nI k)), some (.int y), none, none, none, none] [] (tw X A L) ((fun z w => z = some (.int (if y = 0 then allS (winS (min (k % 100) (hN (drF (RkM td tm tx v) na (k / 100) (A 82, A 83) e 0).1.1)) (drF (RkM td tm tx v) na (k / 100) (A 82, A 83) e 0).1).2 49 else nI (drF (RkM td tm tx v) na (k / 100) (A 82, A 83) e 0).2)) ∧ ∃ u N Z : Nat → Int32, w = tw (zX X u) (tE A N Z (winS (min (k % 100) (hN (drF (RkM td tm tx v) na (k / 100) (A 82, A 83) e 0).1.1)) (drF (RkM td tm tx v) na (k / 100) (A 82, A 83) e 0).1)) L))
  have h6a := hr.2.2.2.2.2.2.1
  refine j_iload_n dX11_drawn_0 rfl rfl ?_
  refine jn_if_lt (tgt := 44) dX11_drawn_1 (by decide) hk ?_
  refine j_iload_n dX11_drawn_4 rfl rfl ?_
  refine j_bipush (v := nI 100) dX11_drawn_5 rfl ?_
  refine jn_idiv dX11_drawn_7 hk (by decide) (by decide) ?_
  refine j_i2l dX11_drawn_8 ?_
  refine j_lconst (v := 1) dX11_drawn_9 rfl ?_
  refine j_ldc2 dX11_drawn_10 jw_k_X11_323 ?_
  refine j_callSi [.long _, .long _, .long _] [] dX11_drawn_13 jlk_X11_111 rfl rfl (Nat.le_of_ble_eq_true rfl) (jMet_i m_within (wi_1 (show 1 ≤ k / 100 by omega) h2 (by decide) (by decide) (by decide)) rfl) ?_
  refine j_if_eq (tgt := 44) dX11_drawn_16 (by decide) (fun h => absurd h (by decide)) (fun _ => ?_)
  refine j_iload_n dX11_drawn_19 rfl rfl ?_
  refine j_bipush (v := nI 100) dX11_drawn_20 rfl ?_
  refine jn_irem dX11_drawn_22 hk (by decide) (by decide) ?_
  refine j_i2l dX11_drawn_23 ?_
  refine j_lconst (v := 0) dX11_drawn_24 rfl ?_
  refine j_ldc2 dX11_drawn_25 jw_k_X11_244 ?_
  refine j_callSi [.long _, .long _, .long _] [] dX11_drawn_28 jlk_X11_111 rfl rfl (Nat.le_of_ble_eq_true rfl) (jMet_i m_within (wi_in (k := 49) h3 (by decide) (by decide)) rfl) ?_
  refine j_if_eq (tgt := 44) dX11_drawn_31 (by decide) (fun h => absurd h (by decide)) (fun _ => ?_)
  refine j_iload_n dX11_drawn_34 rfl rfl ?_
  refine j_i2l dX11_drawn_35 ?_
  refine j_lconst (v := 0) dX11_drawn_36 rfl ?_
  refine j_lconst (v := 1) dX11_drawn_37 rfl ?_
  refine j_callSi [.long _, .long _, .long _] [] dX11_drawn_38 jlk_X11_111 rfl rfl (Nat.le_of_ble_eq_true rfl) (jMet_i m_within (wi_A (k := 1) (by decide) (by decide)) rfl) ?_
  refine j_if_ne (tgt := 46) dX11_drawn_41 (by decide) (fun h41 => ?_) (fun h41 => absurd (by first | exact h41 | simpa using h41) hy)
  refine j_aload_n dX11_drawn_46 rfl rfl ?_
  refine t_getI dX11_drawn_47 jfl_X11_117 (fun _ _ _ => rfl) (fun _ => rfl) ?_
  refine j_topE (e' := nI na) hr.2.2.2.2.2.1 ?_
  refine jn_if_ne (tgt := 56) dX11_drawn_50 (by decide) (by omega) (fun h50 => ?_) (fun h50 => absurd h50 (by omega))
  refine j_aload_n dX11_drawn_56 rfl rfl ?_
  refine j_callVv [] [] dX11_drawn_57 jlk_X11_140 rfl rfl rfl rfl (Nat.le_of_ble_eq_true rfl) (m_begins1 z1 z2 z3 z4) ?_
  refine j_iload_n dX11_drawn_60 rfl rfl ?_
  refine j_istore (lv' := [some (.ref 76), some (.int _), some (.int _), some (.int _), some (.int _), none, none, none]) dX11_drawn_61 (by decide) rfl ?_
  refine j_iconst (v := nI 0) dX11_drawn_63 rfl ?_
  refine j_istore (lv' := [some (.ref 76), some (.int _), some (.int _), some (.int _), some (.int _), some (.int _), none, none]) dX11_drawn_64 (by decide) rfl ?_
  refine j_iconst (v := nI 0) dX11_drawn_66 rfl ?_
  refine j_istore (lv' := [some (.ref 76), some (.int _), some (.int _), some (.int _), some (.int _), some (.int _), some (.int _), none]) dX11_drawn_67 (by decide) rfl ?_
  refine j_atw (tw_eq zX_self.symm ((tM_m A (A 82, A 83)).trans (tM_E A (A 88) _)) rfl) (l_drawn_m hr hk h0 (k / 100) e 0 (A 82, A 83) e 0 (X 76) (A 88) (A 89) (by omega) hw rfl)

end CT60