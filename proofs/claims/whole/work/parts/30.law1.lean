/-! laws: a stack machine over lists -/
def joinI (c : Nat) (x y : Int32) : Int32 :=
  if c = 37 then (if y = 0 then nI 0 else x - x / y * y)
  else if c = 38 then (if x = 0 then nI 0 else if y = 0 then nI 0 else nI 1)
  else if c = 42 then x * y
  else if c = 43 then x + y
  else if c = 45 then x - y
  else if c = 47 then (if y = 0 then nI 0 else x / y)
  else if c = 60 then (if x < y then nI 1 else nI 0)
  else if c = 61 then (if x = y then nI 1 else nI 0)
  else if c = 62 then (if y < x then nI 1 else nI 0)
  else if c = 124 then (if x = 0 then (if y = 0 then nI 0 else nI 1) else nI 1)
  else nI 0
def stepL (nm : Nat → Int32) (c v : Nat) (l : List Int32) : List Int32 :=
  if c = 1 then nI v :: l
  else if c = 2 ∧ v < 6 then nm v :: l
  else match l with
    | [] => []
    | x :: l1 => if c = 3 then -x :: l1
      else if c = 33 then (if x = 0 then nI 1 else nI 0) :: l1
      else match l1 with
        | [] => [x]
        | y :: l2 => joinI c y x :: l2
theorem stepL_3 {nm : Nat → Int32} {c v : Nat} {x : Int32} {l : List Int32} (c1 : ¬ c = 1) (c2 : ¬ (c = 2 ∧ v < 6)) (c3 : c = 3) : stepL nm c v (x :: l) = -x :: l := by
  unfold stepL
  rw [if_neg c1, if_neg c2]
  exact if_pos c3
theorem stepL_33 {nm : Nat → Int32} {c v : Nat} {x : Int32} {l : List Int32} (c1 : ¬ c = 1) (c2 : ¬ (c = 2 ∧ v < 6)) (c3 : ¬ c = 3) (c4 : c = 33) : stepL nm c v (x :: l) = (if x = 0 then nI 1 else nI 0) :: l := by
  unfold stepL
  rw [if_neg c1, if_neg c2]
  exact (if_neg c3).trans (if_pos c4)
theorem stepL_o {nm : Nat → Int32} {c v : Nat} {x : Int32} (c1 : ¬ c = 1) (c2 : ¬ (c = 2 ∧ v < 6)) (c3 : ¬ c = 3) (c4 : ¬ c = 33) : stepL nm c v [x] = [x] := by
  unfold stepL
  rw [if_neg c1, if_neg c2]
  exact (if_neg c3).trans (if_neg c4)
theorem stepL_j {nm : Nat → Int32} {c v : Nat} {x y : Int32} {l : List Int32} (c1 : ¬ c = 1) (c2 : ¬ (c = 2 ∧ v < 6)) (c3 : ¬ c = 3) (c4 : ¬ c = 33) : stepL nm c v (x :: y :: l) = joinI c y x :: l := by
  unfold stepL
  rw [if_neg c1, if_neg c2]
  exact (if_neg c3).trans (if_neg c4)
def evN (cd vl : Nat → Nat) (nm : Nat → Int32) (fr : Nat) : Nat → List Int32
  | 0 => []
  | k + 1 => stepL nm (cd (fr + k)) (vl (fr + k)) (evN cd vl nm fr k)
theorem stepL_len (nm : Nat → Int32) (c v : Nat) (l : List Int32) : (stepL nm c v l).length ≤ l.length + 1 := by
  unfold stepL
  split
  · simp
  · split
    · simp
    · split
      · simp
      · split
        · simp
        · split
          · simp
          · split <;> simp
theorem evN_len (cd vl : Nat → Nat) (nm : Nat → Int32) (fr : Nat) : ∀ k, (evN cd vl nm fr k).length ≤ k
  | 0 => Nat.le_refl _
  | k + 1 => Nat.le_trans (stepL_len _ _ _ _) (by have := evN_len cd vl nm fr k; omega)
/-- a row's first places hold a list, its head on top -/
def srep (f : Nat → Int32) : List Int32 → Prop
  | [] => True
  | x :: l => f l.length = x ∧ srep f l
theorem srep_up {f : Nat → Int32} {x : Int32} : ∀ {l : List Int32} {n : Nat}, l.length ≤ n → srep f l → srep (upd f n x) l
  | [], _, _, _ => trivial
  | y :: l, n, h, hs => by
    have h : l.length + 1 ≤ n := h
    exact ⟨by rw [pk_un (by omega)]; exact hs.1, srep_up (by omega) hs.2⟩
theorem srep_push {f : Nat → Int32} {x : Int32} {l : List Int32} (h : srep f l) : srep (upd f l.length x) (x :: l) := ⟨pk_us, srep_up (Nat.le_refl _) h⟩
/-- the value of a part of a law -/
def evV (cd vl : Nat → Nat) (nm : Nat → Int32) (fr to : Nat) : Int32 := (evN cd vl nm fr (to - fr)).headD (nI 0)
def nm6 (a b c d e f : Int32) (g : Nat → Int32) : Nat → Int32 := upd (upd (upd (upd (upd (upd g 0 a) 1 b) 2 c) 3 d) 4 e) 5 f
def rkF (cd vl st an en : Nat → Nat) (nm : Nat → Int32) : Nat → Nat → Int32
  | 0, _ => nI 0
  | m + 1, i => if st i = an i then evV cd vl nm (an i) (en i) else if evV cd vl nm (st i) (an i) = 0 then rkF cd vl st an en nm m (i + 1) else evV cd vl nm (an i) (en i)
section CT10
variable {d : Nat} {X A : Nat → Nat → Int32} {L : Nat → Nat → Int64} {w : jW} {B : Nat}

set_option maxHeartbeats 4000000 in
set_option maxRecDepth 100000 in
theorem c_X3_joined {c : Nat} (hc : c < 2 ^ 31) {x y : Int32} : jMet (d) yX3_joined cX3_joined 3 (some .int) 0 0 [.int (nI c), .int x, .int y] (w) (jRi (joinI c x y) w) := by
  refine jMet_of (by decide) (Nat.le_of_ble_eq_true rfl) none (Or.inl rfl) ?_
  show jWP none RX3 cX3_joined 3 (some .int) (d) 0 0 0 [some (.int (nI c)), some (.int x), some (.int y)] [] (w) (jRi (joinI c x y) w)
  refine j_iload_n dX3_joined_0 rfl rfl ?_
  by_cases e37 : c = 37
  · subst e37
    refine j_lookup (off := 176) (tgt := 177) dX3_joined_1 (by decide) (by decide) (by decide) ?_
    refine j_iload_n dX3_joined_177 rfl rfl ?_
    refine j_if_ne (tgt := 185) dX3_joined_178 (by decide) (fun h178 => ?_) (fun h178 => ?_)
    · refine j_iload_n dX3_joined_185 rfl rfl ?_
      refine j_iload_n dX3_joined_186 rfl rfl ?_
      refine j_irem dX3_joined_187 h178 ?_
      refine j_ireturn dX3_joined_188 rfl ?_
      exact ⟨by simp [joinI, h178], rfl⟩
    · refine j_iconst (v := nI 0) dX3_joined_181 rfl ?_
      refine j_goto (tgt := 188) dX3_joined_182 (by decide) ?_
      refine j_ireturn dX3_joined_188 rfl ?_
      exact ⟨by simp [joinI, h178], rfl⟩
  by_cases e38 : c = 38
  · subst e38
    refine j_lookup (off := 105) (tgt := 106) dX3_joined_1 (by decide) (by decide) (by decide) ?_
    refine j_iload_n dX3_joined_106 rfl rfl ?_
    refine j_if_eq (tgt := 118) dX3_joined_107 (by decide) (fun h107 => ?_) (fun h107 => ?_)
    · refine j_iconst (v := nI 0) dX3_joined_118 rfl ?_
      refine j_ireturn dX3_joined_119 rfl ?_
      exact ⟨by simp [joinI, h107], rfl⟩
    · refine j_iload_n dX3_joined_110 rfl rfl ?_
      refine j_if_eq (tgt := 118) dX3_joined_111 (by decide) (fun h111 => ?_) (fun h111 => ?_)
      · refine j_iconst (v := nI 0) dX3_joined_118 rfl ?_
        refine j_ireturn dX3_joined_119 rfl ?_
        exact ⟨by simp [joinI, h107, h111], rfl⟩
      · refine j_iconst (v := nI 1) dX3_joined_114 rfl ?_
        refine j_goto (tgt := 119) dX3_joined_115 (by decide) ?_
        refine j_ireturn dX3_joined_119 rfl ?_
        exact ⟨by simp [joinI, h107, h111], rfl⟩
  by_cases e42 : c = 42
  · subst e42
    refine j_lookup (off := 160) (tgt := 161) dX3_joined_1 (by decide) (by decide) (by decide) ?_
    refine j_iload_n dX3_joined_161 rfl rfl ?_
    refine j_iload_n dX3_joined_162 rfl rfl ?_
    refine j_imul dX3_joined_163 ?_
    refine j_ireturn dX3_joined_164 rfl ?_
    exact ⟨by simp [joinI, if_true], rfl⟩
  by_cases e43 : c = 43
  · subst e43
    refine j_lookup (off := 152) (tgt := 153) dX3_joined_1 (by decide) (by decide) (by decide) ?_
    refine j_iload_n dX3_joined_153 rfl rfl ?_
    refine j_iload_n dX3_joined_154 rfl rfl ?_
    refine j_iadd dX3_joined_155 ?_
    refine j_ireturn dX3_joined_156 rfl ?_
    exact ⟨by simp [joinI, if_true], rfl⟩
  by_cases e45 : c = 45
  · subst e45
    refine j_lookup (off := 156) (tgt := 157) dX3_joined_1 (by decide) (by decide) (by decide) ?_
    refine j_iload_n dX3_joined_157 rfl rfl ?_
    refine j_iload_n dX3_joined_158 rfl rfl ?_
    refine j_isub dX3_joined_159 ?_
    refine j_ireturn dX3_joined_160 rfl ?_
    exact ⟨by simp [joinI, if_true], rfl⟩
  by_cases e47 : c = 47
  · subst e47
    refine j_lookup (off := 164) (tgt := 165) dX3_joined_1 (by decide) (by decide) (by decide) ?_
    refine j_iload_n dX3_joined_165 rfl rfl ?_
    refine j_if_ne (tgt := 173) dX3_joined_166 (by decide) (fun h166 => ?_) (fun h166 => ?_)
    · refine j_iload_n dX3_joined_173 rfl rfl ?_
      refine j_iload_n dX3_joined_174 rfl rfl ?_
      refine j_idiv dX3_joined_175 h166 ?_
      refine j_ireturn dX3_joined_176 rfl ?_
      exact ⟨by simp [joinI, h166], rfl⟩
    · refine j_iconst (v := nI 0) dX3_joined_169 rfl ?_
      refine j_goto (tgt := 176) dX3_joined_170 (by decide) ?_
      refine j_ireturn dX3_joined_176 rfl ?_
      exact ⟨by simp [joinI, h166], rfl⟩
  by_cases e60 : c = 60
  · subst e60
    refine j_lookup (off := 119) (tgt := 120) dX3_joined_1 (by decide) (by decide) (by decide) ?_
    refine j_iload_n dX3_joined_120 rfl rfl ?_
    refine j_iload_n dX3_joined_121 rfl rfl ?_
    refine j_icmp_ge (tgt := 129) dX3_joined_122 (by decide) (fun h122 => ?_) (fun h122 => ?_)
    · refine j_iconst (v := nI 0) dX3_joined_129 rfl ?_
      refine j_ireturn dX3_joined_130 rfl ?_
      exact ⟨by simp [joinI, Int32.not_lt.mpr h122], rfl⟩
    · refine j_iconst (v := nI 1) dX3_joined_125 rfl ?_
      refine j_goto (tgt := 130) dX3_joined_126 (by decide) ?_
      refine j_ireturn dX3_joined_130 rfl ?_
      exact ⟨by simp [joinI, h122], rfl⟩
  by_cases e61 : c = 61
  · subst e61
    refine j_lookup (off := 130) (tgt := 131) dX3_joined_1 (by decide) (by decide) (by decide) ?_
    refine j_iload_n dX3_joined_131 rfl rfl ?_
    refine j_iload_n dX3_joined_132 rfl rfl ?_
    refine j_icmp_ne (tgt := 140) dX3_joined_133 (by decide) (fun h133 => ?_) (fun h133 => ?_)
    · refine j_iconst (v := nI 0) dX3_joined_140 rfl ?_
      refine j_ireturn dX3_joined_141 rfl ?_
      exact ⟨by simp [joinI, h133], rfl⟩
    · refine j_iconst (v := nI 1) dX3_joined_136 rfl ?_
      refine j_goto (tgt := 141) dX3_joined_137 (by decide) ?_
      refine j_ireturn dX3_joined_141 rfl ?_
      exact ⟨by simp [joinI, h133], rfl⟩
  by_cases e62 : c = 62
  · subst e62
    refine j_lookup (off := 141) (tgt := 142) dX3_joined_1 (by decide) (by decide) (by decide) ?_
    refine j_iload_n dX3_joined_142 rfl rfl ?_
    refine j_iload_n dX3_joined_143 rfl rfl ?_
    refine j_icmp_le (tgt := 151) dX3_joined_144 (by decide) (fun h144 => ?_) (fun h144 => ?_)
    · refine j_iconst (v := nI 0) dX3_joined_151 rfl ?_
      refine j_ireturn dX3_joined_152 rfl ?_
      exact ⟨by simp [joinI, Int32.not_lt.mpr h144], rfl⟩
    · refine j_iconst (v := nI 1) dX3_joined_147 rfl ?_
      refine j_goto (tgt := 152) dX3_joined_148 (by decide) ?_
      refine j_ireturn dX3_joined_152 rfl ?_
      exact ⟨by simp [joinI, h144], rfl⟩
  by_cases e124 : c = 124
  · subst e124
    refine j_lookup (off := 91) (tgt := 92) dX3_joined_1 (by decide) (by decide) (by decide) ?_
    refine j_iload_n dX3_joined_92 rfl rfl ?_
    refine j_if_ne (tgt := 100) dX3_joined_93 (by decide) (fun h93 => ?_) (fun h93 => ?_)
    · refine j_iconst (v := nI 1) dX3_joined_100 rfl ?_
      refine j_goto (tgt := 105) dX3_joined_101 (by decide) ?_
      refine j_ireturn dX3_joined_105 rfl ?_
      exact ⟨by simp [joinI, h93], rfl⟩
    · refine j_iload_n dX3_joined_96 rfl rfl ?_
      refine j_if_eq (tgt := 104) dX3_joined_97 (by decide) (fun h97 => ?_) (fun h97 => ?_)
      · refine j_iconst (v := nI 0) dX3_joined_104 rfl ?_
        refine j_ireturn dX3_joined_105 rfl ?_
        exact ⟨by simp [joinI, h93, h97], rfl⟩
      · refine j_iconst (v := nI 1) dX3_joined_100 rfl ?_
        refine j_goto (tgt := 105) dX3_joined_101 (by decide) ?_
        refine j_ireturn dX3_joined_105 rfl ?_
        exact ⟨by simp [joinI, h93, h97], rfl⟩
  refine j_lookup (off := 188) (tgt := 189) dX3_joined_1 (by decide) (by rw [lv_osw (k := nI 37) (fun q => e37 ((nI_eq hc (by decide)).mp q)) (by decide), lv_osw (k := nI 38) (fun q => e38 ((nI_eq hc (by decide)).mp q)) (by decide), lv_osw (k := nI 42) (fun q => e42 ((nI_eq hc (by decide)).mp q)) (by decide), lv_osw (k := nI 43) (fun q => e43 ((nI_eq hc (by decide)).mp q)) (by decide), lv_osw (k := nI 45) (fun q => e45 ((nI_eq hc (by decide)).mp q)) (by decide), lv_osw (k := nI 47) (fun q => e47 ((nI_eq hc (by decide)).mp q)) (by decide), lv_osw (k := nI 60) (fun q => e60 ((nI_eq hc (by decide)).mp q)) (by decide), lv_osw (k := nI 61) (fun q => e61 ((nI_eq hc (by decide)).mp q)) (by decide), lv_osw (k := nI 62) (fun q => e62 ((nI_eq hc (by decide)).mp q)) (by decide), lv_osw (k := nI 124) (fun q => e124 ((nI_eq hc (by decide)).mp q)) (by decide)]; rfl) (by decide) ?_
  refine j_iconst (v := nI 0) dX3_joined_189 rfl ?_
  refine j_ireturn dX3_joined_190 rfl ?_
  exact ⟨by simp [joinI, e37, e38, e42, e43, e45, e47, e60, e61, e62, e124], rfl⟩

set_option maxHeartbeats 8000000 in
set_option maxRecDepth 100000 in
theorem l_X3_workedOut (hB : isB B) {cd vl : Nat → Nat} {nm : Nat → Int32} (h1 : A (B + 1) = nIf cd) (h2 : A (B + 2) = nIf vl) (h6 : A (B + 6) = nm) (hcd : ∀ i, cd i < 2 ^ 31) (hvl : ∀ i, vl i < 2 ^ 31) {fr to : Nat} (hft : fr ≤ to) (hto : to ≤ 120) : ∀ (m k : Nat) (f : Nat → Int32) (l : List Int32), fr + k ≤ to → to - (fr + k) < m → l = evN cd vl nm fr k → srep f l →
    jWP none RX3 cX3_workedOut 7 (some .int) (d + 1) 0 0 5 [some (.ref B), some (.int (nI fr)), some (.int (nI to)), some (.int (nI l.length)), some (.int (nI (fr + k))), none, none] [] (tw X (va_up A (B + 7) f) L) ((fun r w => r = some (.int (evV cd vl nm fr to)) ∧ ∃ f, w = tw X (va_up A (B + 7) f) L)) := by
  have b1 : B + 1 ≠ B + 7 := by omega
  have b2 : B + 2 ≠ B + 7 := by omega
  have b6 : B + 6 ≠ B + 7 := by omega
  intro m
  induction m with
  | zero => intro k f l h1 h2; omega
  | succ m ih =>
    intro k f l hk hm hl hs
    have hlen := evN_len cd vl nm fr k
    rw [← hl] at hlen
    have g1 : (va_up A (B + 7) f) (B + 1) = nIf cd := by rw [vu_n _ _ _ b1]; exact h1
    have g2 : (va_up A (B + 7) f) (B + 2) = nIf vl := by rw [vu_n _ _ _ b2]; exact h2
    have g6 : (va_up A (B + 7) f) (B + 6) = nm := by rw [vu_n _ _ _ b6]; exact h6
    have hcd9 := hcd (fr + k)
    have hvl9 := hvl (fr + k)
    have hst : evN cd vl nm fr (k + 1) = stepL nm (cd (fr + k)) (vl (fr + k)) l := by rw [hl]; rfl
    by_cases hend : fr + k = to
    · rcases l with _ | ⟨x, l1⟩
      · refine j_iload dX3_workedOut_5 rfl ?_
        refine j_iload_n dX3_workedOut_7 rfl rfl ?_
        refine jn_icmp_ge (tgt := 218) dX3_workedOut_8 (by decide) (by omega) (by omega) (fun h8 => ?_) (fun h8 => absurd h8 (by omega))
        refine j_iload_n dX3_workedOut_218 rfl rfl ?_
        refine j_iconst (v := nI 1) dX3_workedOut_219 rfl ?_
        refine jn_icmp_lt (tgt := 234) dX3_workedOut_220 (by decide) (by omega) (by omega) (fun h220 => ?_) (fun h220 => absurd h220 (by decide))
        refine j_iconst (v := nI 0) dX3_workedOut_234 rfl ?_
        refine j_ireturn dX3_workedOut_235 rfl ?_
        exact ⟨by unfold evV; rw [show to - fr = k by omega, ← hl]; rfl, f, rfl⟩
      · refine j_iload dX3_workedOut_5 rfl ?_
        refine j_iload_n dX3_workedOut_7 rfl rfl ?_
        refine jn_icmp_ge (tgt := 218) dX3_workedOut_8 (by decide) (by omega) (by omega) (fun h8 => ?_) (fun h8 => absurd h8 (by omega))
        refine j_iload_n dX3_workedOut_218 rfl rfl ?_
        refine j_iconst (v := nI 1) dX3_workedOut_219 rfl ?_
        refine jn_icmp_lt (tgt := 234) dX3_workedOut_220 (by decide) (by omega) (by omega) (fun h220 => absurd h220 (by simp only [List.length_cons]; omega)) (fun h220 => ?_)
        refine j_aload_n dX3_workedOut_223 rfl rfl ?_
        refine t_getR (b := (B + 7)) dX3_workedOut_224 jfl_X3_41 (shB0 hB) rfl ?_
        refine j_iload_n dX3_workedOut_227 rfl rfl ?_
        refine j_iconst (v := nI 1) dX3_workedOut_228 rfl ?_
        refine jn_isub dX3_workedOut_229 (by simp only [List.length_cons]; omega) ?_
        refine t_iaload dX3_workedOut_230 (shB7 hB) (by simp only [List.length_cons] at hlen ⊢; omega) (by decide) ?_
        refine j_goto (tgt := 235) dX3_workedOut_231 (by decide) ?_
        refine j_ireturn dX3_workedOut_235 rfl ?_
        refine ⟨?_, f, rfl⟩
        rw [vu_s]
        have hx : f l1.length = x := hs.1
        unfold evV
        rw [show to - fr = k by omega, ← hl]
        show some (Value.int (f (l1.length + 1 - 1))) = some (Value.int x)
        rw [Nat.add_sub_cancel, hx]
    · have hlt : fr + k < to := by omega
      by_cases c1 : cd (fr + k) = 1
      · refine j_iload dX3_workedOut_5 rfl ?_
        refine j_iload_n dX3_workedOut_7 rfl rfl ?_
        refine jn_icmp_ge (tgt := 218) dX3_workedOut_8 (by decide) (by omega) (by omega) (fun h8 => absurd h8 (by omega)) (fun h8 => ?_)
        refine j_iload dX3_workedOut_11 rfl ?_
        refine j_bipush (v := nI 120) dX3_workedOut_13 rfl ?_
        refine jn_icmp_ge (tgt := 218) dX3_workedOut_15 (by decide) (by omega) (by omega) (fun h15 => absurd h15 (by omega)) (fun h15 => ?_)
        refine j_aload_n dX3_workedOut_18 rfl rfl ?_
        refine t_getR (b := (B + 1)) dX3_workedOut_19 jfl_X3_9 (shB0 hB) rfl ?_
        refine j_iload dX3_workedOut_22 rfl ?_
        refine t_iaload dX3_workedOut_24 (shB1 hB) (by omega) (by decide) ?_
        refine j_topE (e' := nI (cd (fr + k))) (by rw [g1]; rfl) ?_
        refine j_istore (lv' := [some (.ref B), some (.int _), some (.int _), some (.int _), some (.int _), some (.int _), none]) dX3_workedOut_25 (by decide) rfl ?_
        refine j_aload_n dX3_workedOut_27 rfl rfl ?_
        refine t_getR (b := (B + 2)) dX3_workedOut_28 jfl_X3_13 (shB0 hB) rfl ?_
        refine j_iload dX3_workedOut_31 rfl ?_
        refine t_iaload dX3_workedOut_33 (shB2 hB) (by omega) (by decide) ?_
        refine j_topE (e' := nI (vl (fr + k))) (by rw [g2]; rfl) ?_
        refine j_istore (lv' := [some (.ref B), some (.int _), some (.int _), some (.int _), some (.int _), some (.int _), some (.int _)]) dX3_workedOut_34 (by decide) rfl ?_
        refine j_iload dX3_workedOut_36 rfl ?_
        refine j_iconst (v := nI 1) dX3_workedOut_38 rfl ?_
        refine jn_icmp_ne (tgt := 62) dX3_workedOut_39 (by decide) (by omega) (by omega) (fun h39 => absurd c1 h39) (fun h39 => ?_)
        refine j_iload_n dX3_workedOut_42 rfl rfl ?_
        refine j_bipush (v := nI 120) dX3_workedOut_43 rfl ?_
        refine jn_icmp_ge (tgt := 62) dX3_workedOut_45 (by decide) (by omega) (by omega) (fun h45 => absurd h45 (by omega)) (fun h45 => ?_)
        refine j_aload_n dX3_workedOut_48 rfl rfl ?_
        refine t_getR (b := (B + 7)) dX3_workedOut_49 jfl_X3_41 (shB0 hB) rfl ?_
        refine j_iload_n dX3_workedOut_52 rfl rfl ?_
        refine j_iload dX3_workedOut_53 rfl ?_
        refine t_iastore dX3_workedOut_55 (shB7 hB) (by omega) (by decide) ?_
        refine jn_iinc (lv' := [some (.ref B), some (.int _), some (.int _), some (.int _), some (.int _), some (.int _), some (.int _)]) dX3_workedOut_56 rfl (by decide) rfl ?_
        refine j_goto (tgt := 212) dX3_workedOut_59 (by decide) ?_
        refine jn_iinc (lv' := [some (.ref B), some (.int _), some (.int _), some (.int _), some (.int _), some (.int _), some (.int _)]) dX3_workedOut_212 rfl (by decide) rfl ?_
        refine j_goto (tgt := 5) dX3_workedOut_215 (by decide) ?_
        refine j_sub ?_ (j_atw ?_ (ih (k + 1) (upd f l.length (nI (vl (fr + k)))) (nI (vl (fr + k)) :: l) (by omega) (by omega) ?_ ?_))
        · exact ⟨rfl, rfl, rfl, rfl, by rw [Nat.add_assoc], trivial⟩
        · rw [vu_s, vu_up]
        · rw [hst]; unfold stepL; rw [if_pos c1]
        · exact srep_push hs
      · by_cases c2 : cd (fr + k) = 2 ∧ vl (fr + k) < 6
        · refine j_iload dX3_workedOut_5 rfl ?_
          refine j_iload_n dX3_workedOut_7 rfl rfl ?_
          refine jn_icmp_ge (tgt := 218) dX3_workedOut_8 (by decide) (by omega) (by omega) (fun h8 => absurd h8 (by omega)) (fun h8 => ?_)
          refine j_iload dX3_workedOut_11 rfl ?_
          refine j_bipush (v := nI 120) dX3_workedOut_13 rfl ?_
          refine jn_icmp_ge (tgt := 218) dX3_workedOut_15 (by decide) (by omega) (by omega) (fun h15 => absurd h15 (by omega)) (fun h15 => ?_)
          refine j_aload_n dX3_workedOut_18 rfl rfl ?_
          refine t_getR (b := (B + 1)) dX3_workedOut_19 jfl_X3_9 (shB0 hB) rfl ?_
          refine j_iload dX3_workedOut_22 rfl ?_
          refine t_iaload dX3_workedOut_24 (shB1 hB) (by omega) (by decide) ?_
          refine j_topE (e' := nI (cd (fr + k))) (by rw [g1]; rfl) ?_
          refine j_istore (lv' := [some (.ref B), some (.int _), some (.int _), some (.int _), some (.int _), some (.int _), none]) dX3_workedOut_25 (by decide) rfl ?_
          refine j_aload_n dX3_workedOut_27 rfl rfl ?_
          refine t_getR (b := (B + 2)) dX3_workedOut_28 jfl_X3_13 (shB0 hB) rfl ?_
          refine j_iload dX3_workedOut_31 rfl ?_
          refine t_iaload dX3_workedOut_33 (shB2 hB) (by omega) (by decide) ?_
          refine j_topE (e' := nI (vl (fr + k))) (by rw [g2]; rfl) ?_
          refine j_istore (lv' := [some (.ref B), some (.int _), some (.int _), some (.int _), some (.int _), some (.int _), some (.int _)]) dX3_workedOut_34 (by decide) rfl ?_
          refine j_iload dX3_workedOut_36 rfl ?_
          refine j_iconst (v := nI 1) dX3_workedOut_38 rfl ?_
          refine jn_icmp_ne (tgt := 62) dX3_workedOut_39 (by decide) (by omega) (by omega) (fun h39 => ?_) (fun h39 => absurd h39 c1)
          refine j_iload dX3_workedOut_62 rfl ?_
          refine j_iconst (v := nI 2) dX3_workedOut_64 rfl ?_
          refine jn_icmp_ne (tgt := 105) dX3_workedOut_65 (by decide) (by omega) (by omega) (fun h65 => absurd c2.1 h65) (fun h65 => ?_)
          refine j_iload_n dX3_workedOut_68 rfl rfl ?_
          refine j_bipush (v := nI 120) dX3_workedOut_69 rfl ?_
          refine jn_icmp_ge (tgt := 105) dX3_workedOut_71 (by decide) (by omega) (by omega) (fun h71 => absurd h71 (by omega)) (fun h71 => ?_)
          refine j_iload dX3_workedOut_74 rfl ?_
          refine jn_if_lt (tgt := 105) dX3_workedOut_76 (by decide) (by omega) ?_
          refine j_iload dX3_workedOut_79 rfl ?_
          refine j_bipush (v := nI 6) dX3_workedOut_81 rfl ?_
          refine jn_icmp_ge (tgt := 105) dX3_workedOut_83 (by decide) (by omega) (by omega) (fun h83 => absurd h83 (by omega)) (fun h83 => ?_)
          refine j_aload_n dX3_workedOut_86 rfl rfl ?_
          refine t_getR (b := (B + 7)) dX3_workedOut_87 jfl_X3_41 (shB0 hB) rfl ?_
          refine j_iload_n dX3_workedOut_90 rfl rfl ?_
          refine j_aload_n dX3_workedOut_91 rfl rfl ?_
          refine t_getR (b := (B + 6)) dX3_workedOut_92 jfl_X3_38 (shB0 hB) rfl ?_
          refine j_iload dX3_workedOut_95 rfl ?_
          refine t_iaload dX3_workedOut_97 (shB6 hB) c2.2 (by decide) ?_
          rw [g6]
          refine t_iastore dX3_workedOut_98 (shB7 hB) (by omega) (by decide) ?_
          refine jn_iinc (lv' := [some (.ref B), some (.int _), some (.int _), some (.int _), some (.int _), some (.int _), some (.int _)]) dX3_workedOut_99 rfl (by decide) rfl ?_
          refine j_goto (tgt := 212) dX3_workedOut_102 (by decide) ?_
          refine jn_iinc (lv' := [some (.ref B), some (.int _), some (.int _), some (.int _), some (.int _), some (.int _), some (.int _)]) dX3_workedOut_212 rfl (by decide) rfl ?_
          refine j_goto (tgt := 5) dX3_workedOut_215 (by decide) ?_
          refine j_sub ?_ (j_atw ?_ (ih (k + 1) (upd f l.length (nm (vl (fr + k)))) (nm (vl (fr + k)) :: l) (by omega) (by omega) ?_ ?_))
          · exact ⟨rfl, rfl, rfl, rfl, by rw [Nat.add_assoc], trivial⟩
          · rw [vu_s, vu_up]
          · rw [hst]; unfold stepL; rw [if_neg c1, if_pos c2]
          · exact srep_push hs
        · rcases l with _ | ⟨x, l1⟩
          · refine j_iload dX3_workedOut_5 rfl ?_
            refine j_iload_n dX3_workedOut_7 rfl rfl ?_
            refine jn_icmp_ge (tgt := 218) dX3_workedOut_8 (by decide) (by omega) (by omega) (fun h8 => absurd h8 (by omega)) (fun h8 => ?_)
            refine j_iload dX3_workedOut_11 rfl ?_
            refine j_bipush (v := nI 120) dX3_workedOut_13 rfl ?_
            refine jn_icmp_ge (tgt := 218) dX3_workedOut_15 (by decide) (by omega) (by omega) (fun h15 => absurd h15 (by omega)) (fun h15 => ?_)
            refine j_aload_n dX3_workedOut_18 rfl rfl ?_
            refine t_getR (b := (B + 1)) dX3_workedOut_19 jfl_X3_9 (shB0 hB) rfl ?_
            refine j_iload dX3_workedOut_22 rfl ?_
            refine t_iaload dX3_workedOut_24 (shB1 hB) (by omega) (by decide) ?_
            refine j_topE (e' := nI (cd (fr + k))) (by rw [g1]; rfl) ?_
            refine j_istore (lv' := [some (.ref B), some (.int _), some (.int _), some (.int _), some (.int _), some (.int _), none]) dX3_workedOut_25 (by decide) rfl ?_
            refine j_aload_n dX3_workedOut_27 rfl rfl ?_
            refine t_getR (b := (B + 2)) dX3_workedOut_28 jfl_X3_13 (shB0 hB) rfl ?_
            refine j_iload dX3_workedOut_31 rfl ?_
            refine t_iaload dX3_workedOut_33 (shB2 hB) (by omega) (by decide) ?_
            refine j_topE (e' := nI (vl (fr + k))) (by rw [g2]; rfl) ?_
            refine j_istore (lv' := [some (.ref B), some (.int _), some (.int _), some (.int _), some (.int _), some (.int _), some (.int _)]) dX3_workedOut_34 (by decide) rfl ?_
            refine j_iload dX3_workedOut_36 rfl ?_
            refine j_iconst (v := nI 1) dX3_workedOut_38 rfl ?_
            refine jn_icmp_ne (tgt := 62) dX3_workedOut_39 (by decide) (by omega) (by omega) (fun h39 => ?_) (fun h39 => absurd h39 c1)
            refine j_iload dX3_workedOut_62 rfl ?_
            refine j_iconst (v := nI 2) dX3_workedOut_64 rfl ?_
            refine jn_icmp_ne (tgt := 105) dX3_workedOut_65 (by decide) (by omega) (by omega) (fun h65 => ?_) (fun h65 => ?_)
            · refine j_iload dX3_workedOut_105 rfl ?_
              refine j_iconst (v := nI 3) dX3_workedOut_107 rfl ?_
              refine jn_icmp_ne (tgt := 136) dX3_workedOut_108 (by decide) (by omega) (by omega) (fun h108 => ?_) (fun h108 => ?_)
              · refine j_iload dX3_workedOut_136 rfl ?_
                refine j_bipush (v := nI 33) dX3_workedOut_138 rfl ?_
                refine jn_icmp_ne (tgt := 175) dX3_workedOut_140 (by decide) (by omega) (by omega) (fun h140 => ?_) (fun h140 => ?_)
                · refine j_iload_n dX3_workedOut_175 rfl rfl ?_
                  refine j_iconst (v := nI 2) dX3_workedOut_176 rfl ?_
                  refine jn_icmp_lt (tgt := 212) dX3_workedOut_177 (by decide) (by omega) (by omega) (fun h177 => ?_) (fun h177 => absurd h177 (by decide))
                  refine jn_iinc (lv' := [some (.ref B), some (.int _), some (.int _), some (.int _), some (.int _), some (.int _), some (.int _)]) dX3_workedOut_212 rfl (by decide) rfl ?_
                  refine j_goto (tgt := 5) dX3_workedOut_215 (by decide) ?_
                  refine j_sub ?_ (j_atw ?_ (ih (k + 1) (f) ([]) (by omega) (by omega) ?_ ?_))
                  · exact ⟨rfl, rfl, rfl, rfl, by rw [Nat.add_assoc], trivial⟩
                  · rfl
                  · rw [hst]; unfold stepL; rw [if_neg c1, if_neg c2]
                  · trivial
                · refine j_iload_n dX3_workedOut_143 rfl rfl ?_
                  refine j_iconst (v := nI 1) dX3_workedOut_144 rfl ?_
                  refine jn_icmp_lt (tgt := 175) dX3_workedOut_145 (by decide) (by omega) (by omega) (fun h145 => ?_) (fun h145 => absurd h145 (by decide))
                  refine j_iload_n dX3_workedOut_175 rfl rfl ?_
                  refine j_iconst (v := nI 2) dX3_workedOut_176 rfl ?_
                  refine jn_icmp_lt (tgt := 212) dX3_workedOut_177 (by decide) (by omega) (by omega) (fun h177 => ?_) (fun h177 => absurd h177 (by decide))
                  refine jn_iinc (lv' := [some (.ref B), some (.int _), some (.int _), some (.int _), some (.int _), some (.int _), some (.int _)]) dX3_workedOut_212 rfl (by decide) rfl ?_
                  refine j_goto (tgt := 5) dX3_workedOut_215 (by decide) ?_
                  refine j_sub ?_ (j_atw ?_ (ih (k + 1) (f) ([]) (by omega) (by omega) ?_ ?_))
                  · exact ⟨rfl, rfl, rfl, rfl, by rw [Nat.add_assoc], trivial⟩
                  · rfl
                  · rw [hst]; unfold stepL; rw [if_neg c1, if_neg c2]
                  · trivial
              · refine j_iload_n dX3_workedOut_111 rfl rfl ?_
                refine j_iconst (v := nI 1) dX3_workedOut_112 rfl ?_
                refine jn_icmp_lt (tgt := 136) dX3_workedOut_113 (by decide) (by omega) (by omega) (fun h113 => ?_) (fun h113 => absurd h113 (by decide))
                refine j_iload dX3_workedOut_136 rfl ?_
                refine j_bipush (v := nI 33) dX3_workedOut_138 rfl ?_
                refine jn_icmp_ne (tgt := 175) dX3_workedOut_140 (by decide) (by omega) (by omega) (fun h140 => ?_) (fun h140 => ?_)
                · refine j_iload_n dX3_workedOut_175 rfl rfl ?_
                  refine j_iconst (v := nI 2) dX3_workedOut_176 rfl ?_
                  refine jn_icmp_lt (tgt := 212) dX3_workedOut_177 (by decide) (by omega) (by omega) (fun h177 => ?_) (fun h177 => absurd h177 (by decide))
                  refine jn_iinc (lv' := [some (.ref B), some (.int _), some (.int _), some (.int _), some (.int _), some (.int _), some (.int _)]) dX3_workedOut_212 rfl (by decide) rfl ?_
                  refine j_goto (tgt := 5) dX3_workedOut_215 (by decide) ?_
                  refine j_sub ?_ (j_atw ?_ (ih (k + 1) (f) ([]) (by omega) (by omega) ?_ ?_))
                  · exact ⟨rfl, rfl, rfl, rfl, by rw [Nat.add_assoc], trivial⟩
                  · rfl
                  · rw [hst]; unfold stepL; rw [if_neg c1, if_neg c2]
                  · trivial
                · refine j_iload_n dX3_workedOut_143 rfl rfl ?_
                  refine j_iconst (v := nI 1) dX3_workedOut_144 rfl ?_
                  refine jn_icmp_lt (tgt := 175) dX3_workedOut_145 (by decide) (by omega) (by omega) (fun h145 => ?_) (fun h145 => absurd h145 (by decide))
                  refine j_iload_n dX3_workedOut_175 rfl rfl ?_
                  refine j_iconst (v := nI 2) dX3_workedOut_176 rfl ?_
                  refine jn_icmp_lt (tgt := 212) dX3_workedOut_177 (by decide) (by omega) (by omega) (fun h177 => ?_) (fun h177 => absurd h177 (by decide))
                  refine jn_iinc (lv' := [some (.ref B), some (.int _), some (.int _), some (.int _), some (.int _), some (.int _), some (.int _)]) dX3_workedOut_212 rfl (by decide) rfl ?_
                  refine j_goto (tgt := 5) dX3_workedOut_215 (by decide) ?_
                  refine j_sub ?_ (j_atw ?_ (ih (k + 1) (f) ([]) (by omega) (by omega) ?_ ?_))
                  · exact ⟨rfl, rfl, rfl, rfl, by rw [Nat.add_assoc], trivial⟩
                  · rfl
                  · rw [hst]; unfold stepL; rw [if_neg c1, if_neg c2]
                  · trivial
            · refine j_iload_n dX3_workedOut_68 rfl rfl ?_
              refine j_bipush (v := nI 120) dX3_workedOut_69 rfl ?_
              refine jn_icmp_ge (tgt := 105) dX3_workedOut_71 (by decide) (by omega) (by omega) (fun h71 => absurd h71 (by decide)) (fun h71 => ?_)
              refine j_iload dX3_workedOut_74 rfl ?_
              refine jn_if_lt (tgt := 105) dX3_workedOut_76 (by decide) (by omega) ?_
              refine j_iload dX3_workedOut_79 rfl ?_
              refine j_bipush (v := nI 6) dX3_workedOut_81 rfl ?_
              refine jn_icmp_ge (tgt := 105) dX3_workedOut_83 (by decide) (by omega) (by omega) (fun h83 => ?_) (fun h83 => absurd (And.intro h65 h83) c2)
              refine j_iload dX3_workedOut_105 rfl ?_
              refine j_iconst (v := nI 3) dX3_workedOut_107 rfl ?_
              refine jn_icmp_ne (tgt := 136) dX3_workedOut_108 (by decide) (by omega) (by omega) (fun h108 => ?_) (fun h108 => ?_)
              · refine j_iload dX3_workedOut_136 rfl ?_
                refine j_bipush (v := nI 33) dX3_workedOut_138 rfl ?_
                refine jn_icmp_ne (tgt := 175) dX3_workedOut_140 (by decide) (by omega) (by omega) (fun h140 => ?_) (fun h140 => ?_)
                · refine j_iload_n dX3_workedOut_175 rfl rfl ?_
                  refine j_iconst (v := nI 2) dX3_workedOut_176 rfl ?_
                  refine jn_icmp_lt (tgt := 212) dX3_workedOut_177 (by decide) (by omega) (by omega) (fun h177 => ?_) (fun h177 => absurd h177 (by decide))
                  refine jn_iinc (lv' := [some (.ref B), some (.int _), some (.int _), some (.int _), some (.int _), some (.int _), some (.int _)]) dX3_workedOut_212 rfl (by decide) rfl ?_
                  refine j_goto (tgt := 5) dX3_workedOut_215 (by decide) ?_
                  refine j_sub ?_ (j_atw ?_ (ih (k + 1) (f) ([]) (by omega) (by omega) ?_ ?_))
                  · exact ⟨rfl, rfl, rfl, rfl, by rw [Nat.add_assoc], trivial⟩
                  · rfl
                  · rw [hst]; unfold stepL; rw [if_neg c1, if_neg c2]
                  · trivial
                · refine j_iload_n dX3_workedOut_143 rfl rfl ?_
                  refine j_iconst (v := nI 1) dX3_workedOut_144 rfl ?_
                  refine jn_icmp_lt (tgt := 175) dX3_workedOut_145 (by decide) (by omega) (by omega) (fun h145 => ?_) (fun h145 => absurd h145 (by decide))
                  refine j_iload_n dX3_workedOut_175 rfl rfl ?_
                  refine j_iconst (v := nI 2) dX3_workedOut_176 rfl ?_
                  refine jn_icmp_lt (tgt := 212) dX3_workedOut_177 (by decide) (by omega) (by omega) (fun h177 => ?_) (fun h177 => absurd h177 (by decide))
                  refine jn_iinc (lv' := [some (.ref B), some (.int _), some (.int _), some (.int _), some (.int _), some (.int _), some (.int _)]) dX3_workedOut_212 rfl (by decide) rfl ?_
                  refine j_goto (tgt := 5) dX3_workedOut_215 (by decide) ?_
                  refine j_sub ?_ (j_atw ?_ (ih (k + 1) (f) ([]) (by omega) (by omega) ?_ ?_))
                  · exact ⟨rfl, rfl, rfl, rfl, by rw [Nat.add_assoc], trivial⟩
                  · rfl
                  · rw [hst]; unfold stepL; rw [if_neg c1, if_neg c2]
                  · trivial
              · refine j_iload_n dX3_workedOut_111 rfl rfl ?_
                refine j_iconst (v := nI 1) dX3_workedOut_112 rfl ?_
                refine jn_icmp_lt (tgt := 136) dX3_workedOut_113 (by decide) (by omega) (by omega) (fun h113 => ?_) (fun h113 => absurd h113 (by decide))
                refine j_iload dX3_workedOut_136 rfl ?_
                refine j_bipush (v := nI 33) dX3_workedOut_138 rfl ?_
                refine jn_icmp_ne (tgt := 175) dX3_workedOut_140 (by decide) (by omega) (by omega) (fun h140 => ?_) (fun h140 => ?_)
                · refine j_iload_n dX3_workedOut_175 rfl rfl ?_
                  refine j_iconst (v := nI 2) dX3_workedOut_176 rfl ?_
                  refine jn_icmp_lt (tgt := 212) dX3_workedOut_177 (by decide) (by omega) (by omega) (fun h177 => ?_) (fun h177 => absurd h177 (by decide))
                  refine jn_iinc (lv' := [some (.ref B), some (.int _), some (.int _), some (.int _), some (.int _), some (.int _), some (.int _)]) dX3_workedOut_212 rfl (by decide) rfl ?_
                  refine j_goto (tgt := 5) dX3_workedOut_215 (by decide) ?_
                  refine j_sub ?_ (j_atw ?_ (ih (k + 1) (f) ([]) (by omega) (by omega) ?_ ?_))
                  · exact ⟨rfl, rfl, rfl, rfl, by rw [Nat.add_assoc], trivial⟩
                  · rfl
                  · rw [hst]; unfold stepL; rw [if_neg c1, if_neg c2]
                  · trivial
                · refine j_iload_n dX3_workedOut_143 rfl rfl ?_
                  refine j_iconst (v := nI 1) dX3_workedOut_144 rfl ?_
                  refine jn_icmp_lt (tgt := 175) dX3_workedOut_145 (by decide) (by omega) (by omega) (fun h145 => ?_) (fun h145 => absurd h145 (by decide))
                  refine j_iload_n dX3_workedOut_175 rfl rfl ?_
                  refine j_iconst (v := nI 2) dX3_workedOut_176 rfl ?_
                  refine jn_icmp_lt (tgt := 212) dX3_workedOut_177 (by decide) (by omega) (by omega) (fun h177 => ?_) (fun h177 => absurd h177 (by decide))
                  refine jn_iinc (lv' := [some (.ref B), some (.int _), some (.int _), some (.int _), some (.int _), some (.int _), some (.int _)]) dX3_workedOut_212 rfl (by decide) rfl ?_
                  refine j_goto (tgt := 5) dX3_workedOut_215 (by decide) ?_
                  refine j_sub ?_ (j_atw ?_ (ih (k + 1) (f) ([]) (by omega) (by omega) ?_ ?_))
                  · exact ⟨rfl, rfl, rfl, rfl, by rw [Nat.add_assoc], trivial⟩
                  · rfl
                  · rw [hst]; unfold stepL; rw [if_neg c1, if_neg c2]
                  · trivial
          · by_cases c3 : cd (fr + k) = 3
            · refine j_iload dX3_workedOut_5 rfl ?_
              refine j_iload_n dX3_workedOut_7 rfl rfl ?_
              refine jn_icmp_ge (tgt := 218) dX3_workedOut_8 (by decide) (by omega) (by omega) (fun h8 => absurd h8 (by omega)) (fun h8 => ?_)
              refine j_iload dX3_workedOut_11 rfl ?_
              refine j_bipush (v := nI 120) dX3_workedOut_13 rfl ?_
              refine jn_icmp_ge (tgt := 218) dX3_workedOut_15 (by decide) (by omega) (by omega) (fun h15 => absurd h15 (by omega)) (fun h15 => ?_)
              refine j_aload_n dX3_workedOut_18 rfl rfl ?_
              refine t_getR (b := (B + 1)) dX3_workedOut_19 jfl_X3_9 (shB0 hB) rfl ?_
              refine j_iload dX3_workedOut_22 rfl ?_
              refine t_iaload dX3_workedOut_24 (shB1 hB) (by omega) (by decide) ?_
              refine j_topE (e' := nI (cd (fr + k))) (by rw [g1]; rfl) ?_
              refine j_istore (lv' := [some (.ref B), some (.int _), some (.int _), some (.int _), some (.int _), some (.int _), none]) dX3_workedOut_25 (by decide) rfl ?_
              refine j_aload_n dX3_workedOut_27 rfl rfl ?_
              refine t_getR (b := (B + 2)) dX3_workedOut_28 jfl_X3_13 (shB0 hB) rfl ?_
              refine j_iload dX3_workedOut_31 rfl ?_
              refine t_iaload dX3_workedOut_33 (shB2 hB) (by omega) (by decide) ?_
              refine j_topE (e' := nI (vl (fr + k))) (by rw [g2]; rfl) ?_
              refine j_istore (lv' := [some (.ref B), some (.int _), some (.int _), some (.int _), some (.int _), some (.int _), some (.int _)]) dX3_workedOut_34 (by decide) rfl ?_
              refine j_iload dX3_workedOut_36 rfl ?_
              refine j_iconst (v := nI 1) dX3_workedOut_38 rfl ?_
              refine jn_icmp_ne (tgt := 62) dX3_workedOut_39 (by decide) (by omega) (by omega) (fun h39 => ?_) (fun h39 => absurd h39 c1)
              refine j_iload dX3_workedOut_62 rfl ?_
              refine j_iconst (v := nI 2) dX3_workedOut_64 rfl ?_
              refine jn_icmp_ne (tgt := 105) dX3_workedOut_65 (by decide) (by omega) (by omega) (fun h65 => ?_) (fun h65 => absurd h65 (by omega))
              refine j_iload dX3_workedOut_105 rfl ?_
              refine j_iconst (v := nI 3) dX3_workedOut_107 rfl ?_
              refine jn_icmp_ne (tgt := 136) dX3_workedOut_108 (by decide) (by omega) (by omega) (fun h108 => absurd c3 h108) (fun h108 => ?_)
              refine j_iload_n dX3_workedOut_111 rfl rfl ?_
              refine j_iconst (v := nI 1) dX3_workedOut_112 rfl ?_
              refine jn_icmp_lt (tgt := 136) dX3_workedOut_113 (by decide) (by omega) (by omega) (fun h113 => absurd h113 (by simp only [List.length_cons]; omega)) (fun h113 => ?_)
              refine j_aload_n dX3_workedOut_116 rfl rfl ?_
              refine t_getR (b := (B + 7)) dX3_workedOut_117 jfl_X3_41 (shB0 hB) rfl ?_
              refine j_iload_n dX3_workedOut_120 rfl rfl ?_
              refine j_iconst (v := nI 1) dX3_workedOut_121 rfl ?_
              refine jn_isub dX3_workedOut_122 (by simp only [List.length_cons]; omega) ?_
              refine j_aload_n dX3_workedOut_123 rfl rfl ?_
              refine t_getR (b := (B + 7)) dX3_workedOut_124 jfl_X3_41 (shB0 hB) rfl ?_
              refine j_iload_n dX3_workedOut_127 rfl rfl ?_
              refine j_iconst (v := nI 1) dX3_workedOut_128 rfl ?_
              refine jn_isub dX3_workedOut_129 (by simp only [List.length_cons]; omega) ?_
              refine t_iaload dX3_workedOut_130 (shB7 hB) (by simp only [List.length_cons] at hlen ⊢; omega) (by decide) ?_
              refine j_ineg dX3_workedOut_131 ?_
              refine t_iastore dX3_workedOut_132 (shB7 hB) (by simp only [List.length_cons] at hlen ⊢; omega) (by decide) ?_
              refine j_goto (tgt := 212) dX3_workedOut_133 (by decide) ?_
              refine jn_iinc (lv' := [some (.ref B), some (.int _), some (.int _), some (.int _), some (.int _), some (.int _), some (.int _)]) dX3_workedOut_212 rfl (by decide) rfl ?_
              refine j_goto (tgt := 5) dX3_workedOut_215 (by decide) ?_
              refine j_sub ?_ (j_atw ?_ (ih (k + 1) (upd f l1.length (-x)) (-x :: l1) (by omega) (by omega) ?_ ?_))
              · exact ⟨rfl, rfl, rfl, rfl, by rw [Nat.add_assoc], trivial⟩
              · have hx : f l1.length = x := hs.1
                rw [vu_s, vu_up, show (x :: l1).length - 1 = l1.length from Nat.add_sub_cancel _ _, hx]
              · rw [hst, stepL_3 c1 c2 c3]
              · exact srep_push hs.2
            · by_cases c33 : cd (fr + k) = 33
              · refine j_iload dX3_workedOut_5 rfl ?_
                refine j_iload_n dX3_workedOut_7 rfl rfl ?_
                refine jn_icmp_ge (tgt := 218) dX3_workedOut_8 (by decide) (by omega) (by omega) (fun h8 => absurd h8 (by omega)) (fun h8 => ?_)
                refine j_iload dX3_workedOut_11 rfl ?_
                refine j_bipush (v := nI 120) dX3_workedOut_13 rfl ?_
                refine jn_icmp_ge (tgt := 218) dX3_workedOut_15 (by decide) (by omega) (by omega) (fun h15 => absurd h15 (by omega)) (fun h15 => ?_)
                refine j_aload_n dX3_workedOut_18 rfl rfl ?_
                refine t_getR (b := (B + 1)) dX3_workedOut_19 jfl_X3_9 (shB0 hB) rfl ?_
                refine j_iload dX3_workedOut_22 rfl ?_
                refine t_iaload dX3_workedOut_24 (shB1 hB) (by omega) (by decide) ?_
                refine j_topE (e' := nI (cd (fr + k))) (by rw [g1]; rfl) ?_
                refine j_istore (lv' := [some (.ref B), some (.int _), some (.int _), some (.int _), some (.int _), some (.int _), none]) dX3_workedOut_25 (by decide) rfl ?_
                refine j_aload_n dX3_workedOut_27 rfl rfl ?_
                refine t_getR (b := (B + 2)) dX3_workedOut_28 jfl_X3_13 (shB0 hB) rfl ?_
                refine j_iload dX3_workedOut_31 rfl ?_
                refine t_iaload dX3_workedOut_33 (shB2 hB) (by omega) (by decide) ?_
                refine j_topE (e' := nI (vl (fr + k))) (by rw [g2]; rfl) ?_
                refine j_istore (lv' := [some (.ref B), some (.int _), some (.int _), some (.int _), some (.int _), some (.int _), some (.int _)]) dX3_workedOut_34 (by decide) rfl ?_
                refine j_iload dX3_workedOut_36 rfl ?_
                refine j_iconst (v := nI 1) dX3_workedOut_38 rfl ?_
                refine jn_icmp_ne (tgt := 62) dX3_workedOut_39 (by decide) (by omega) (by omega) (fun h39 => ?_) (fun h39 => absurd h39 c1)
                refine j_iload dX3_workedOut_62 rfl ?_
                refine j_iconst (v := nI 2) dX3_workedOut_64 rfl ?_
                refine jn_icmp_ne (tgt := 105) dX3_workedOut_65 (by decide) (by omega) (by omega) (fun h65 => ?_) (fun h65 => absurd h65 (by omega))
                refine j_iload dX3_workedOut_105 rfl ?_
                refine j_iconst (v := nI 3) dX3_workedOut_107 rfl ?_
                refine jn_icmp_ne (tgt := 136) dX3_workedOut_108 (by decide) (by omega) (by omega) (fun h108 => ?_) (fun h108 => absurd h108 c3)
                refine j_iload dX3_workedOut_136 rfl ?_
                refine j_bipush (v := nI 33) dX3_workedOut_138 rfl ?_
                refine jn_icmp_ne (tgt := 175) dX3_workedOut_140 (by decide) (by omega) (by omega) (fun h140 => absurd c33 h140) (fun h140 => ?_)
                refine j_iload_n dX3_workedOut_143 rfl rfl ?_
                refine j_iconst (v := nI 1) dX3_workedOut_144 rfl ?_
                refine jn_icmp_lt (tgt := 175) dX3_workedOut_145 (by decide) (by omega) (by omega) (fun h145 => absurd h145 (by simp only [List.length_cons]; omega)) (fun h145 => ?_)
                refine j_aload_n dX3_workedOut_148 rfl rfl ?_
                refine t_getR (b := (B + 7)) dX3_workedOut_149 jfl_X3_41 (shB0 hB) rfl ?_
                refine j_iload_n dX3_workedOut_152 rfl rfl ?_
                refine j_iconst (v := nI 1) dX3_workedOut_153 rfl ?_
                refine jn_isub dX3_workedOut_154 (by simp only [List.length_cons]; omega) ?_
                refine j_aload_n dX3_workedOut_155 rfl rfl ?_
                refine t_getR (b := (B + 7)) dX3_workedOut_156 jfl_X3_41 (shB0 hB) rfl ?_
                refine j_iload_n dX3_workedOut_159 rfl rfl ?_
                refine j_iconst (v := nI 1) dX3_workedOut_160 rfl ?_
                refine jn_isub dX3_workedOut_161 (by simp only [List.length_cons]; omega) ?_
                refine t_iaload dX3_workedOut_162 (shB7 hB) (by simp only [List.length_cons] at hlen ⊢; omega) (by decide) ?_
                refine j_if_ne (tgt := 170) dX3_workedOut_163 (by decide) (fun h163 => ?_) (fun h163 => ?_)
                · refine j_iconst (v := nI 0) dX3_workedOut_170 rfl ?_
                  refine t_iastore dX3_workedOut_171 (shB7 hB) (by simp only [List.length_cons] at hlen ⊢; omega) (by decide) ?_
                  refine j_goto (tgt := 212) dX3_workedOut_172 (by decide) ?_
                  refine jn_iinc (lv' := [some (.ref B), some (.int _), some (.int _), some (.int _), some (.int _), some (.int _), some (.int _)]) dX3_workedOut_212 rfl (by decide) rfl ?_
                  refine j_goto (tgt := 5) dX3_workedOut_215 (by decide) ?_
                  refine j_sub ?_ (j_atw ?_ (ih (k + 1) (upd f l1.length (nI 0)) ((nI 0) :: l1) (by omega) (by omega) ?_ ?_))
                  · exact ⟨rfl, rfl, rfl, rfl, by rw [Nat.add_assoc], trivial⟩
                  · rw [vu_up, show (x :: l1).length - 1 = l1.length from Nat.add_sub_cancel _ _, vu_s]
                  · have hx : f l1.length = x := hs.1
                    rw [vu_s, show (x :: l1).length - 1 = l1.length from Nat.add_sub_cancel _ _, hx] at h163
                    rw [hst, stepL_33 c1 c2 c3 c33, if_neg h163]
                  · exact srep_push hs.2
                · refine j_iconst (v := nI 1) dX3_workedOut_166 rfl ?_
                  refine j_goto (tgt := 171) dX3_workedOut_167 (by decide) ?_
                  refine t_iastore dX3_workedOut_171 (shB7 hB) (by simp only [List.length_cons] at hlen ⊢; omega) (by decide) ?_
                  refine j_goto (tgt := 212) dX3_workedOut_172 (by decide) ?_
                  refine jn_iinc (lv' := [some (.ref B), some (.int _), some (.int _), some (.int _), some (.int _), some (.int _), some (.int _)]) dX3_workedOut_212 rfl (by decide) rfl ?_
                  refine j_goto (tgt := 5) dX3_workedOut_215 (by decide) ?_
                  refine j_sub ?_ (j_atw ?_ (ih (k + 1) (upd f l1.length (nI 1)) ((nI 1) :: l1) (by omega) (by omega) ?_ ?_))
                  · exact ⟨rfl, rfl, rfl, rfl, by rw [Nat.add_assoc], trivial⟩
                  · rw [vu_up, show (x :: l1).length - 1 = l1.length from Nat.add_sub_cancel _ _, vu_s]
                  · have hx : f l1.length = x := hs.1
                    rw [vu_s, show (x :: l1).length - 1 = l1.length from Nat.add_sub_cancel _ _, hx] at h163
                    rw [hst, stepL_33 c1 c2 c3 c33, if_pos h163]
                  · exact srep_push hs.2
              · rcases l1 with _ | ⟨y, l2⟩
                · refine j_iload dX3_workedOut_5 rfl ?_
                  refine j_iload_n dX3_workedOut_7 rfl rfl ?_
                  refine jn_icmp_ge (tgt := 218) dX3_workedOut_8 (by decide) (by omega) (by omega) (fun h8 => absurd h8 (by omega)) (fun h8 => ?_)
                  refine j_iload dX3_workedOut_11 rfl ?_
                  refine j_bipush (v := nI 120) dX3_workedOut_13 rfl ?_
                  refine jn_icmp_ge (tgt := 218) dX3_workedOut_15 (by decide) (by omega) (by omega) (fun h15 => absurd h15 (by omega)) (fun h15 => ?_)
                  refine j_aload_n dX3_workedOut_18 rfl rfl ?_
                  refine t_getR (b := (B + 1)) dX3_workedOut_19 jfl_X3_9 (shB0 hB) rfl ?_
                  refine j_iload dX3_workedOut_22 rfl ?_
                  refine t_iaload dX3_workedOut_24 (shB1 hB) (by omega) (by decide) ?_
                  refine j_topE (e' := nI (cd (fr + k))) (by rw [g1]; rfl) ?_
                  refine j_istore (lv' := [some (.ref B), some (.int _), some (.int _), some (.int _), some (.int _), some (.int _), none]) dX3_workedOut_25 (by decide) rfl ?_
                  refine j_aload_n dX3_workedOut_27 rfl rfl ?_
                  refine t_getR (b := (B + 2)) dX3_workedOut_28 jfl_X3_13 (shB0 hB) rfl ?_
                  refine j_iload dX3_workedOut_31 rfl ?_
                  refine t_iaload dX3_workedOut_33 (shB2 hB) (by omega) (by decide) ?_
                  refine j_topE (e' := nI (vl (fr + k))) (by rw [g2]; rfl) ?_
                  refine j_istore (lv' := [some (.ref B), some (.int _), some (.int _), some (.int _), some (.int _), some (.int _), some (.int _)]) dX3_workedOut_34 (by decide) rfl ?_
                  refine j_iload dX3_workedOut_36 rfl ?_
                  refine j_iconst (v := nI 1) dX3_workedOut_38 rfl ?_
                  refine jn_icmp_ne (tgt := 62) dX3_workedOut_39 (by decide) (by omega) (by omega) (fun h39 => ?_) (fun h39 => absurd h39 c1)
                  refine j_iload dX3_workedOut_62 rfl ?_
                  refine j_iconst (v := nI 2) dX3_workedOut_64 rfl ?_
                  refine jn_icmp_ne (tgt := 105) dX3_workedOut_65 (by decide) (by omega) (by omega) (fun h65 => ?_) (fun h65 => ?_)
                  · refine j_iload dX3_workedOut_105 rfl ?_
                    refine j_iconst (v := nI 3) dX3_workedOut_107 rfl ?_
                    refine jn_icmp_ne (tgt := 136) dX3_workedOut_108 (by decide) (by omega) (by omega) (fun h108 => ?_) (fun h108 => absurd h108 c3)
                    refine j_iload dX3_workedOut_136 rfl ?_
                    refine j_bipush (v := nI 33) dX3_workedOut_138 rfl ?_
                    refine jn_icmp_ne (tgt := 175) dX3_workedOut_140 (by decide) (by omega) (by omega) (fun h140 => ?_) (fun h140 => absurd h140 c33)
                    refine j_iload_n dX3_workedOut_175 rfl rfl ?_
                    refine j_iconst (v := nI 2) dX3_workedOut_176 rfl ?_
                    refine jn_icmp_lt (tgt := 212) dX3_workedOut_177 (by decide) (by omega) (by omega) (fun h177 => ?_) (fun h177 => absurd h177 (by simp))
                    refine jn_iinc (lv' := [some (.ref B), some (.int _), some (.int _), some (.int _), some (.int _), some (.int _), some (.int _)]) dX3_workedOut_212 rfl (by decide) rfl ?_
                    refine j_goto (tgt := 5) dX3_workedOut_215 (by decide) ?_
                    refine j_sub ?_ (j_atw ?_ (ih (k + 1) (f) ([x]) (by omega) (by omega) ?_ ?_))
                    · exact ⟨rfl, rfl, rfl, rfl, by rw [Nat.add_assoc], trivial⟩
                    · rfl
                    · rw [hst, stepL_o c1 c2 h108 h140]
                    · exact hs
                  · refine j_iload_n dX3_workedOut_68 rfl rfl ?_
                    refine j_bipush (v := nI 120) dX3_workedOut_69 rfl ?_
                    refine jn_icmp_ge (tgt := 105) dX3_workedOut_71 (by decide) (by omega) (by omega) (fun h71 => absurd h71 (by simp)) (fun h71 => ?_)
                    refine j_iload dX3_workedOut_74 rfl ?_
                    refine jn_if_lt (tgt := 105) dX3_workedOut_76 (by decide) (by omega) ?_
                    refine j_iload dX3_workedOut_79 rfl ?_
                    refine j_bipush (v := nI 6) dX3_workedOut_81 rfl ?_
                    refine jn_icmp_ge (tgt := 105) dX3_workedOut_83 (by decide) (by omega) (by omega) (fun h83 => ?_) (fun h83 => absurd (And.intro h65 h83) c2)
                    refine j_iload dX3_workedOut_105 rfl ?_
                    refine j_iconst (v := nI 3) dX3_workedOut_107 rfl ?_
                    refine jn_icmp_ne (tgt := 136) dX3_workedOut_108 (by decide) (by omega) (by omega) (fun h108 => ?_) (fun h108 => absurd h108 c3)
                    refine j_iload dX3_workedOut_136 rfl ?_
                    refine j_bipush (v := nI 33) dX3_workedOut_138 rfl ?_
                    refine jn_icmp_ne (tgt := 175) dX3_workedOut_140 (by decide) (by omega) (by omega) (fun h140 => ?_) (fun h140 => absurd h140 c33)
                    refine j_iload_n dX3_workedOut_175 rfl rfl ?_
                    refine j_iconst (v := nI 2) dX3_workedOut_176 rfl ?_
                    refine jn_icmp_lt (tgt := 212) dX3_workedOut_177 (by decide) (by omega) (by omega) (fun h177 => ?_) (fun h177 => absurd h177 (by simp))
                    refine jn_iinc (lv' := [some (.ref B), some (.int _), some (.int _), some (.int _), some (.int _), some (.int _), some (.int _)]) dX3_workedOut_212 rfl (by decide) rfl ?_
                    refine j_goto (tgt := 5) dX3_workedOut_215 (by decide) ?_
                    refine j_sub ?_ (j_atw ?_ (ih (k + 1) (f) ([x]) (by omega) (by omega) ?_ ?_))
                    · exact ⟨rfl, rfl, rfl, rfl, by rw [Nat.add_assoc], trivial⟩
                    · rfl
                    · rw [hst, stepL_o c1 c2 h108 h140]
                    · exact hs
                · refine j_iload dX3_workedOut_5 rfl ?_
                  refine j_iload_n dX3_workedOut_7 rfl rfl ?_
                  refine jn_icmp_ge (tgt := 218) dX3_workedOut_8 (by decide) (by omega) (by omega) (fun h8 => absurd h8 (by omega)) (fun h8 => ?_)
                  refine j_iload dX3_workedOut_11 rfl ?_
                  refine j_bipush (v := nI 120) dX3_workedOut_13 rfl ?_
                  refine jn_icmp_ge (tgt := 218) dX3_workedOut_15 (by decide) (by omega) (by omega) (fun h15 => absurd h15 (by omega)) (fun h15 => ?_)
                  refine j_aload_n dX3_workedOut_18 rfl rfl ?_
                  refine t_getR (b := (B + 1)) dX3_workedOut_19 jfl_X3_9 (shB0 hB) rfl ?_
                  refine j_iload dX3_workedOut_22 rfl ?_
                  refine t_iaload dX3_workedOut_24 (shB1 hB) (by omega) (by decide) ?_
                  refine j_topE (e' := nI (cd (fr + k))) (by rw [g1]; rfl) ?_
                  refine j_istore (lv' := [some (.ref B), some (.int _), some (.int _), some (.int _), some (.int _), some (.int _), none]) dX3_workedOut_25 (by decide) rfl ?_
                  refine j_aload_n dX3_workedOut_27 rfl rfl ?_
                  refine t_getR (b := (B + 2)) dX3_workedOut_28 jfl_X3_13 (shB0 hB) rfl ?_
                  refine j_iload dX3_workedOut_31 rfl ?_
                  refine t_iaload dX3_workedOut_33 (shB2 hB) (by omega) (by decide) ?_
                  refine j_topE (e' := nI (vl (fr + k))) (by rw [g2]; rfl) ?_
                  refine j_istore (lv' := [some (.ref B), some (.int _), some (.int _), some (.int _), some (.int _), some (.int _), some (.int _)]) dX3_workedOut_34 (by decide) rfl ?_
                  refine j_iload dX3_workedOut_36 rfl ?_
                  refine j_iconst (v := nI 1) dX3_workedOut_38 rfl ?_
                  refine jn_icmp_ne (tgt := 62) dX3_workedOut_39 (by decide) (by omega) (by omega) (fun h39 => ?_) (fun h39 => absurd h39 c1)
                  refine j_iload dX3_workedOut_62 rfl ?_
                  refine j_iconst (v := nI 2) dX3_workedOut_64 rfl ?_
                  refine jn_icmp_ne (tgt := 105) dX3_workedOut_65 (by decide) (by omega) (by omega) (fun h65 => ?_) (fun h65 => ?_)
                  · refine j_iload dX3_workedOut_105 rfl ?_
                    refine j_iconst (v := nI 3) dX3_workedOut_107 rfl ?_
                    refine jn_icmp_ne (tgt := 136) dX3_workedOut_108 (by decide) (by omega) (by omega) (fun h108 => ?_) (fun h108 => absurd h108 c3)
                    refine j_iload dX3_workedOut_136 rfl ?_
                    refine j_bipush (v := nI 33) dX3_workedOut_138 rfl ?_
                    refine jn_icmp_ne (tgt := 175) dX3_workedOut_140 (by decide) (by omega) (by omega) (fun h140 => ?_) (fun h140 => absurd h140 c33)
                    refine j_iload_n dX3_workedOut_175 rfl rfl ?_
                    refine j_iconst (v := nI 2) dX3_workedOut_176 rfl ?_
                    refine jn_icmp_lt (tgt := 212) dX3_workedOut_177 (by decide) (by omega) (by omega) (fun h177 => absurd h177 (by simp only [List.length_cons]; omega)) (fun h177 => ?_)
                    refine j_aload_n dX3_workedOut_180 rfl rfl ?_
                    refine t_getR (b := (B + 7)) dX3_workedOut_181 jfl_X3_41 (shB0 hB) rfl ?_
                    refine j_iload_n dX3_workedOut_184 rfl rfl ?_
                    refine j_iconst (v := nI 2) dX3_workedOut_185 rfl ?_
                    refine jn_isub dX3_workedOut_186 (by simp only [List.length_cons]; omega) ?_
                    refine j_iload dX3_workedOut_187 rfl ?_
                    refine j_aload_n dX3_workedOut_189 rfl rfl ?_
                    refine t_getR (b := (B + 7)) dX3_workedOut_190 jfl_X3_41 (shB0 hB) rfl ?_
                    refine j_iload_n dX3_workedOut_193 rfl rfl ?_
                    refine j_iconst (v := nI 2) dX3_workedOut_194 rfl ?_
                    refine jn_isub dX3_workedOut_195 (by simp only [List.length_cons]; omega) ?_
                    refine t_iaload dX3_workedOut_196 (shB7 hB) (by simp only [List.length_cons] at hlen ⊢; omega) (by decide) ?_
                    refine j_aload_n dX3_workedOut_197 rfl rfl ?_
                    refine t_getR (b := (B + 7)) dX3_workedOut_198 jfl_X3_41 (shB0 hB) rfl ?_
                    refine j_iload_n dX3_workedOut_201 rfl rfl ?_
                    refine j_iconst (v := nI 1) dX3_workedOut_202 rfl ?_
                    refine jn_isub dX3_workedOut_203 (by simp only [List.length_cons]; omega) ?_
                    refine t_iaload dX3_workedOut_204 (shB7 hB) (by simp only [List.length_cons] at hlen ⊢; omega) (by decide) ?_
                    refine j_callSi [.int _, .int _, .int _] [.int _, .ref (B + 7)] dX3_workedOut_205 jlk_X3_48 rfl rfl (Nat.le_of_ble_eq_true rfl) (c_X3_joined hcd9) ?_
                    refine t_iastore dX3_workedOut_208 (shB7 hB) (by simp only [List.length_cons] at hlen ⊢; omega) (by decide) ?_
                    refine jn_idec (lv' := [some (.ref B), some (.int _), some (.int _), some (.int _), some (.int _), some (.int _), some (.int _)]) dX3_workedOut_209 rfl (by simp only [List.length_cons]; omega) (by decide) rfl ?_
                    refine jn_iinc (lv' := [some (.ref B), some (.int _), some (.int _), some (.int _), some (.int _), some (.int _), some (.int _)]) dX3_workedOut_212 rfl (by decide) rfl ?_
                    refine j_goto (tgt := 5) dX3_workedOut_215 (by decide) ?_
                    refine j_sub ?_ (j_atw ?_ (ih (k + 1) (upd f l2.length (joinI (cd (fr + k)) y x)) (joinI (cd (fr + k)) y x :: l2) (by omega) (by omega) ?_ ?_))
                    · exact ⟨rfl, rfl, rfl, rfl, by rw [Nat.add_assoc], trivial⟩
                    · have hx : f (l2.length + 1) = x := hs.1
                      have hy : f l2.length = y := hs.2.1
                      simp only [vu_s, vu_up]
                      rw [show (x :: y :: l2).length - 2 = l2.length from rfl, show (x :: y :: l2).length - 1 = l2.length + 1 from rfl, hx, hy]
                    · rw [hst, stepL_j c1 c2 h108 h140]
                    · exact srep_push hs.2.2
                  · refine j_iload_n dX3_workedOut_68 rfl rfl ?_
                    refine j_bipush (v := nI 120) dX3_workedOut_69 rfl ?_
                    refine jn_icmp_ge (tgt := 105) dX3_workedOut_71 (by decide) (by omega) (by omega) (fun h71 => absurd h71 (by simp only [List.length_cons] at hlen ⊢; omega)) (fun h71 => ?_)
                    refine j_iload dX3_workedOut_74 rfl ?_
                    refine jn_if_lt (tgt := 105) dX3_workedOut_76 (by decide) (by omega) ?_
                    refine j_iload dX3_workedOut_79 rfl ?_
                    refine j_bipush (v := nI 6) dX3_workedOut_81 rfl ?_
                    refine jn_icmp_ge (tgt := 105) dX3_workedOut_83 (by decide) (by omega) (by omega) (fun h83 => ?_) (fun h83 => absurd (And.intro h65 h83) c2)
                    refine j_iload dX3_workedOut_105 rfl ?_
                    refine j_iconst (v := nI 3) dX3_workedOut_107 rfl ?_
                    refine jn_icmp_ne (tgt := 136) dX3_workedOut_108 (by decide) (by omega) (by omega) (fun h108 => ?_) (fun h108 => absurd h108 c3)
                    refine j_iload dX3_workedOut_136 rfl ?_
                    refine j_bipush (v := nI 33) dX3_workedOut_138 rfl ?_
                    refine jn_icmp_ne (tgt := 175) dX3_workedOut_140 (by decide) (by omega) (by omega) (fun h140 => ?_) (fun h140 => absurd h140 c33)
                    refine j_iload_n dX3_workedOut_175 rfl rfl ?_
                    refine j_iconst (v := nI 2) dX3_workedOut_176 rfl ?_
                    refine jn_icmp_lt (tgt := 212) dX3_workedOut_177 (by decide) (by omega) (by omega) (fun h177 => absurd h177 (by simp only [List.length_cons]; omega)) (fun h177 => ?_)
                    refine j_aload_n dX3_workedOut_180 rfl rfl ?_
                    refine t_getR (b := (B + 7)) dX3_workedOut_181 jfl_X3_41 (shB0 hB) rfl ?_
                    refine j_iload_n dX3_workedOut_184 rfl rfl ?_
                    refine j_iconst (v := nI 2) dX3_workedOut_185 rfl ?_
                    refine jn_isub dX3_workedOut_186 (by simp only [List.length_cons]; omega) ?_
                    refine j_iload dX3_workedOut_187 rfl ?_
                    refine j_aload_n dX3_workedOut_189 rfl rfl ?_
                    refine t_getR (b := (B + 7)) dX3_workedOut_190 jfl_X3_41 (shB0 hB) rfl ?_
                    refine j_iload_n dX3_workedOut_193 rfl rfl ?_
                    refine j_iconst (v := nI 2) dX3_workedOut_194 rfl ?_
                    refine jn_isub dX3_workedOut_195 (by simp only [List.length_cons]; omega) ?_
                    refine t_iaload dX3_workedOut_196 (shB7 hB) (by simp only [List.length_cons] at hlen ⊢; omega) (by decide) ?_
                    refine j_aload_n dX3_workedOut_197 rfl rfl ?_
                    refine t_getR (b := (B + 7)) dX3_workedOut_198 jfl_X3_41 (shB0 hB) rfl ?_
                    refine j_iload_n dX3_workedOut_201 rfl rfl ?_
                    refine j_iconst (v := nI 1) dX3_workedOut_202 rfl ?_
                    refine jn_isub dX3_workedOut_203 (by simp only [List.length_cons]; omega) ?_
                    refine t_iaload dX3_workedOut_204 (shB7 hB) (by simp only [List.length_cons] at hlen ⊢; omega) (by decide) ?_
                    refine j_callSi [.int _, .int _, .int _] [.int _, .ref (B + 7)] dX3_workedOut_205 jlk_X3_48 rfl rfl (Nat.le_of_ble_eq_true rfl) (c_X3_joined hcd9) ?_
                    refine t_iastore dX3_workedOut_208 (shB7 hB) (by simp only [List.length_cons] at hlen ⊢; omega) (by decide) ?_
                    refine jn_idec (lv' := [some (.ref B), some (.int _), some (.int _), some (.int _), some (.int _), some (.int _), some (.int _)]) dX3_workedOut_209 rfl (by simp only [List.length_cons]; omega) (by decide) rfl ?_
                    refine jn_iinc (lv' := [some (.ref B), some (.int _), some (.int _), some (.int _), some (.int _), some (.int _), some (.int _)]) dX3_workedOut_212 rfl (by decide) rfl ?_
                    refine j_goto (tgt := 5) dX3_workedOut_215 (by decide) ?_
                    refine j_sub ?_ (j_atw ?_ (ih (k + 1) (upd f l2.length (joinI (cd (fr + k)) y x)) (joinI (cd (fr + k)) y x :: l2) (by omega) (by omega) ?_ ?_))
                    · exact ⟨rfl, rfl, rfl, rfl, by rw [Nat.add_assoc], trivial⟩
                    · have hx : f (l2.length + 1) = x := hs.1
                      have hy : f l2.length = y := hs.2.1
                      simp only [vu_s, vu_up]
                      rw [show (x :: y :: l2).length - 2 = l2.length from rfl, show (x :: y :: l2).length - 1 = l2.length + 1 from rfl, hx, hy]
                    · rw [hst, stepL_j c1 c2 h108 h140]
                    · exact srep_push hs.2.2

set_option maxHeartbeats 4000000 in
set_option maxRecDepth 100000 in
theorem c_X3_workedOut (hB : isB B) {cd vl : Nat → Nat} {nm : Nat → Int32} (h1 : A (B + 1) = nIf cd) (h2 : A (B + 2) = nIf vl) (h6 : A (B + 6) = nm) (hcd : ∀ i, cd i < 2 ^ 31) (hvl : ∀ i, vl i < 2 ^ 31) {fr to : Nat} (hft : fr ≤ to) (hto : to ≤ 120) : jMet (d + 1) yX3_workedOut cX3_workedOut 7 (some .int) 0 0 [.ref B, .int (nI fr), .int (nI to)] (tw X A L) ((fun r w => r = some (.int (evV cd vl nm fr to)) ∧ ∃ f, w = tw X (va_up A (B + 7) f) L)) := by
  refine jMet_of (by decide) (Nat.le_of_ble_eq_true rfl) none (Or.inl rfl) ?_
  show jWP none RX3 cX3_workedOut 7 (some .int) (d + 1) 0 0 0 [some (.ref B), some (.int (nI fr)), some (.int (nI to)), none, none, none, none] [] (tw X A L) ((fun r w => r = some (.int (evV cd vl nm fr to)) ∧ ∃ f, w = tw X (va_up A (B + 7) f) L))
  refine j_iconst (v := nI 0) dX3_workedOut_0 rfl ?_
  refine j_istore_n (lv' := [some (.ref B), some (.int _), some (.int _), some (.int _), none, none, none]) dX3_workedOut_1 rfl (by decide) rfl ?_
  refine j_iload_n dX3_workedOut_2 rfl rfl ?_
  refine j_istore (lv' := [some (.ref B), some (.int _), some (.int _), some (.int _), some (.int _), none, none]) dX3_workedOut_3 (by decide) rfl ?_
  refine j_atw ?_ (l_X3_workedOut hB h1 h2 h6 hcd hvl hft hto (to - fr + 1) 0 (A (B + 7)) [] (by omega) (by omega) rfl trivial)
  rw [vu_self]

end CT10