/-- the cell that ranks first, with its rank -/
def plS (H : Nat → Bool) (rk : Nat → Int32) : Nat → Option (Nat × Int32)
  | 0 => none
  | c + 1 => if H c = true then plS H rk c else match plS H rk c with
    | none => some (c, rk c)
    | some (p, b) => if rk c ≤ b then some (p, b) else some (c, rk c)
def plP (o : Option (Nat × Int32)) : Int32 := oN (o.map fun q => q.1)
def plB : Option (Nat × Int32) → Int32
  | none => nI 0
  | some q => q.2
theorem plS_lt {H : Nat → Bool} {rk : Nat → Int32} : ∀ {i : Nat} {q : Nat × Int32}, plS H rk i = some q → q.1 < i ∧ H q.1 = false
  | 0, _, h => by cases h
  | c + 1, q, h => by
    unfold plS at h
    by_cases hH : H c = true
    · rw [if_pos hH] at h
      exact ⟨Nat.lt_succ_of_lt (plS_lt h).1, (plS_lt h).2⟩
    · rw [if_neg hH] at h
      split at h
      · cases h; exact ⟨Nat.lt_succ_self c, by simpa using hH⟩
      · rename_i p b e
        split at h
        · cases h; exact ⟨Nat.lt_succ_of_lt (plS_lt e).1, (plS_lt e).2⟩
        · cases h; exact ⟨Nat.lt_succ_self c, by simpa using hH⟩
theorem plS_h {H : Nat → Bool} {rk : Nat → Int32} {i : Nat} (h : H i = true) : plS H rk (i + 1) = plS H rk i := if_pos h
theorem plP_some {q : Nat × Int32} {o : Option (Nat × Int32)} (h : o = some q) : plP o = nI q.1 := by rw [h]; rfl
theorem plP_no {o : Option (Nat × Int32)} (h : o = none) : plP o = -2 := by rw [h]; rfl
theorem plS_a {H : Nat → Bool} {rk : Nat → Int32} {i : Nat} (hi : i ≤ 49) (hH : H i = false) (h : plP (plS H rk i) < 0) : plS H rk (i + 1) = some (i, rk i) := by
  have e : plS H rk i = none := by
    cases e : plS H rk i with
    | none => rfl
    | some q => rw [plP_some e] at h; exact absurd h (nI_pos (by have := (plS_lt e).1; omega))
  unfold plS
  rw [if_neg (by rw [hH]; decide), e]
theorem plS_b {H : Nat → Bool} {rk : Nat → Int32} {i : Nat} (hH : H i = false) (h : ¬ plP (plS H rk i) < 0) (h2 : rk i ≤ plB (plS H rk i)) : plS H rk (i + 1) = plS H rk i := by
  cases e : plS H rk i with
  | none => rw [plP_no e] at h; exact absurd (by decide) h
  | some q =>
    rw [e] at h2
    unfold plS
    rw [if_neg (by rw [hH]; decide), e]
    exact if_pos h2
theorem plS_c {H : Nat → Bool} {rk : Nat → Int32} {i : Nat} (hH : H i = false) (h : ¬ plP (plS H rk i) < 0) (h2 : ¬ rk i ≤ plB (plS H rk i)) : plS H rk (i + 1) = some (i, rk i) := by
  cases e : plS H rk i with
  | none => rw [plP_no e] at h; exact absurd (by decide) h
  | some q =>
    rw [e] at h2
    unfold plS
    rw [if_neg (by rw [hH]; decide), e]
    exact if_neg h2
theorem plS_congr {H : Nat → Bool} {rk rk' : Nat → Int32} : ∀ {n : Nat}, (∀ i, i < n → rk i = rk' i) → plS H rk n = plS H rk' n
  | 0, _ => rfl
  | c + 1, h => by
    unfold plS
    rw [plS_congr (n := c) (fun i hi => h i (by omega)), h c (by omega)]
/-- the neighbours that are an account's -/
def owN (O : Nat → Int32) (a : Int32) (c : Nat) : Nat := cnt (fun k => decide (O (nb c k) = a)) (dg c)
/-- a cell's rank by the law that rules -/
def rkC (cd vl st an en : Nat → Nat) (n dr : Nat) (O : Nat → Int32) (a s : Int32) (c : Nat) : Int32 :=
  if n = 0 then -(nI (dsN c dr)) else rkF cd vl st an en (nmC (nI (dsN c dr)) (nI (dg c - eN O c)) (nI (owN O a c)) s a (nI (c / 7))) n 0
/-- the law that rules and the accounts -/
def rul (B : Nat) (cd vl st an en : Nat → Nat) (n na : Nat) (v : Nat → Nat) (X A : Nat → Nat → Int32) : Prop :=
  isB B ∧ X 15 3 = nI B ∧ A (B + 1) = nIf cd ∧ A (B + 2) = nIf vl ∧ A (B + 3) = nIf st ∧ A (B + 4) = nIf an ∧ A (B + 5) = nIf en ∧ X B 6 = nI n ∧ lwf cd vl st an en n ∧ X 10 1 = nI na ∧ na ≤ 6 ∧ A 11 = nIf v ∧ ∀ i, i < na → v i < 49
theorem rul_c {B : Nat} {cd vl st an en : Nat → Nat} {n na : Nat} {v : Nat → Nat} {X A X' A' : Nat → Nat → Int32} (h : rul B cd vl st an en n na v X A) (hX : ∀ c, c ≤ 34 → X' c = X c) (hA : ∀ c, c ≤ 34 → c ≠ B + 6 → c ≠ B + 7 → A' c = A c) : rul B cd vl st an en n na v X' A' := by
  obtain ⟨h1, h2, h3, h4, h5, h6, h7, h8, h9, h10, h11, h12, h13⟩ := h
  have hB := id h1
  unfold isB at hB
  refine ⟨h1, ?_, ?_, ?_, ?_, ?_, ?_, ?_, h9, ?_, h11, ?_, h13⟩
  · rw [hX 15 (by decide)]; exact h2
  · rw [hA _ (by omega) (by omega) (by omega)]; exact h3
  · rw [hA _ (by omega) (by omega) (by omega)]; exact h4
  · rw [hA _ (by omega) (by omega) (by omega)]; exact h5
  · rw [hA _ (by omega) (by omega) (by omega)]; exact h6
  · rw [hA _ (by omega) (by omega) (by omega)]; exact h7
  · rw [hX B (by omega)]; exact h8
  · rw [hX 10 (by decide)]; exact h10
  · rw [hA 11 (by decide) (by omega) (by omega)]; exact h12
theorem isK_35 {K : Nat} (h : isK K) : 35 < K ∧ K ≤ 51 := by unfold isK at h; omega
theorem isB_34 {B : Nat} (h : isB B) : 15 < B ∧ B + 7 ≤ 34 := by unfold isB at h; omega
theorem rul_k {B : Nat} {cd vl st an en : Nat → Nat} {n na : Nat} {v : Nat → Nat} {X A : Nat → Nat → Int32} (h : rul B cd vl st an en n na v X A) {K : Nat} (hK : isK K) {O S f g : Nat → Int32} {O' : Nat → Int32} : rul B cd vl st an en n na v (cX X K O') (scr (cA A K O S) B f g) := by
  have := isK_35 hK
  refine rul_c h (fun c hc => cX_n _ _ (by omega)) (fun c hc h1 h2 => ?_)
  rw [scr_n _ _ _ _ h1 h2, cA_n _ _ _ (by omega) (by omega) (by omega)]
theorem rul_s {B : Nat} {cd vl st an en : Nat → Nat} {n na : Nat} {v : Nat → Nat} {X A : Nat → Nat → Int32} (h : rul B cd vl st an en n na v X A) {f g : Nat → Int32} : rul B cd vl st an en n na v X (scr A B f g) :=
  rul_c h (fun c hc => rfl) (fun c hc h1 h2 => scr_n _ _ _ _ h1 h2)
theorem scr_k {A : Nat → Nat → Int32} {B : Nat} (hB : isB B) {f g : Nat → Int32} {c : Nat} (h : 34 < c) : scr A B f g c = A c := by
  have := isB_34 hB
  exact scr_n _ _ _ _ (by omega) (by omega)
theorem cok_scr {X A : Nat → Nat → Int32} {K B : Nat} (hB : isB B) (hK : isK K) {f g : Nat → Int32} (h : cok X A K) : cok X (scr A B f g) K := by
  have := isK_35 hK
  unfold cok
  rw [scr_k hB (by omega), scr_k hB (by omega), scr_k hB (by omega)]
  exact h
theorem scr_cA {A : Nat → Nat → Int32} {K B : Nat} (hB : isB B) (hK : isK K) {f g O S : Nat → Int32} : cA (scr A B f g) K O S = scr (cA A K O S) B f g := by
  have h1 := isK_35 hK
  have h2 := isB_34 hB
  funext c
  by_cases q1 : c = B + 6
  · subst q1; simp [cA, scr, va_up, show B + 6 ≠ K + 1 by omega, show B + 6 ≠ K + 2 by omega, show B + 6 ≠ K + 3 by omega]
  · by_cases q2 : c = B + 7
    · subst q2; simp [cA, scr, va_up, show B + 7 ≠ K + 1 by omega, show B + 7 ≠ K + 2 by omega, show B + 7 ≠ K + 3 by omega]
    · simp [cA, scr, va_up, q1, q2]
theorem nI_nm1 {j : Nat} (h : j < 2 ^ 31) : nI j ≠ -1 := fun q => nI_pos h (by rw [q]; decide)
theorem fScr_3 {x : Nat → Int32} {B : Nat} (hB : isB B) (h : x 3 = nI B) : (fScr x)[3]? = some (.ref B) := by
  have := isB_34 hB
  show some (Value.ref (x 3).toNatClampNeg) = some (Value.ref B)
  rw [h, nI_clamp (by omega)]
theorem fScr_4 {x : Nat → Int32} {B : Nat} (hB : isB B) (h : x 4 = nI B) : (fScr x)[4]? = some (.ref B) := by
  have := isB_34 hB
  show some (Value.ref (x 4).toNatClampNeg) = some (Value.ref B)
  rw [h, nI_clamp (by omega)]
section CT12
variable {d : Nat} {X A : Nat → Nat → Int32} {L : Nat → Nat → Int64} {w : jW} {B : Nat} {cd vl st an en : Nat → Nat} {n na : Nat} {v : Nat → Nat}

def is16 (c : Int32) : Int32 := if c < nI 1 then nI 0 else if nI 6 < c then nI 0 else nI 1
def is01 (c : Int32) : Int32 := if c = 0 then nI 1 else if c = nI 1 then nI 1 else nI 0

set_option maxHeartbeats 4000000 in
set_option maxRecDepth 100000 in
theorem c_X10_isSum {c : Int32} : jMet (d) yX10_isSum cX10_isSum 1 (some .boolean) 0 0 [.int c] (w) (jRi (is16 c) w) := by
  refine jMet_of (by decide) (Nat.le_of_ble_eq_true rfl) none (Or.inl rfl) ?_
  show jWP none RX10 cX10_isSum 1 (some .boolean) (d) 0 0 0 [some (.int c)] [] (w) (jRi (is16 c) w)
  refine j_iload_n dX10_isSum_0 rfl rfl ?_
  refine j_iconst (v := nI 1) dX10_isSum_1 rfl ?_
  refine j_icmp_lt (tgt := 15) dX10_isSum_2 (by decide) (fun h2 => ?_) (fun h2 => ?_)
  · refine j_iconst (v := nI 0) dX10_isSum_15 rfl ?_
    refine j_zreturn dX10_isSum_16 rfl (by decide) ?_
    exact ⟨by simp only [is16, if_pos h2], rfl⟩
  · refine j_iload_n dX10_isSum_5 rfl rfl ?_
    refine j_bipush (v := nI 6) dX10_isSum_6 rfl ?_
    refine j_icmp_gt (tgt := 15) dX10_isSum_8 (by decide) (fun h8 => ?_) (fun h8 => ?_)
    · refine j_iconst (v := nI 0) dX10_isSum_15 rfl ?_
      refine j_zreturn dX10_isSum_16 rfl (by decide) ?_
      exact ⟨by simp only [is16, if_neg h2, if_pos h8], rfl⟩
    · refine j_iconst (v := nI 1) dX10_isSum_11 rfl ?_
      refine j_goto (tgt := 16) dX10_isSum_12 (by decide) ?_
      refine j_zreturn dX10_isSum_16 rfl (by decide) ?_
      exact ⟨by simp only [is16, if_neg h2, if_neg h8], rfl⟩

set_option maxHeartbeats 4000000 in
set_option maxRecDepth 100000 in
theorem c_X10_isPart {c : Int32} : jMet (d) yX10_isPart cX10_isPart 1 (some .boolean) 0 0 [.int c] (w) (jRi (is01 c) w) := by
  refine jMet_of (by decide) (Nat.le_of_ble_eq_true rfl) none (Or.inl rfl) ?_
  show jWP none RX10 cX10_isPart 1 (some .boolean) (d) 0 0 0 [some (.int c)] [] (w) (jRi (is01 c) w)
  refine j_iload_n dX10_isPart_0 rfl rfl ?_
  refine j_if_eq (tgt := 9) dX10_isPart_1 (by decide) (fun h1 => ?_) (fun h1 => ?_)
  · refine j_iconst (v := nI 1) dX10_isPart_9 rfl ?_
    refine j_goto (tgt := 14) dX10_isPart_10 (by decide) ?_
    refine j_zreturn dX10_isPart_14 rfl (by decide) ?_
    exact ⟨by simp only [is01, if_pos h1], rfl⟩
  · refine j_iload_n dX10_isPart_4 rfl rfl ?_
    refine j_iconst (v := nI 1) dX10_isPart_5 rfl ?_
    refine j_icmp_ne (tgt := 13) dX10_isPart_6 (by decide) (fun h6 => ?_) (fun h6 => ?_)
    · refine j_iconst (v := nI 0) dX10_isPart_13 rfl ?_
      refine j_zreturn dX10_isPart_14 rfl (by decide) ?_
      exact ⟨by simp only [is01, if_neg h1, if_neg h6], rfl⟩
    · refine j_iconst (v := nI 1) dX10_isPart_9 rfl ?_
      refine j_goto (tgt := 14) dX10_isPart_10 (by decide) ?_
      refine j_zreturn dX10_isPart_14 rfl (by decide) ?_
      exact ⟨by simp only [is01, if_neg h1, if_pos h6], rfl⟩

set_option maxHeartbeats 4000000 in
set_option maxRecDepth 100000 in
theorem c_X10_isShelf {c : Int32} : jMet (d) yX10_isShelf cX10_isShelf 1 (some .boolean) 0 0 [.int c] (w) (jRi (isA 6 c) w) := by
  refine jMet_of (by decide) (Nat.le_of_ble_eq_true rfl) none (Or.inl rfl) ?_
  show jWP none RX10 cX10_isShelf 1 (some .boolean) (d) 0 0 0 [some (.int c)] [] (w) (jRi (isA 6 c) w)
  refine j_iload_n dX10_isShelf_0 rfl rfl ?_
  refine j_if_lt (tgt := 14) dX10_isShelf_1 (by decide) (fun h1 => ?_) (fun h1 => ?_)
  · refine j_iconst (v := nI 0) dX10_isShelf_14 rfl ?_
    refine j_zreturn dX10_isShelf_15 rfl (by decide) ?_
    exact ⟨by simp only [isA, if_pos h1], rfl⟩
  · refine j_iload_n dX10_isShelf_4 rfl rfl ?_
    refine j_bipush (v := nI 6) dX10_isShelf_5 rfl ?_
    refine j_icmp_ge (tgt := 14) dX10_isShelf_7 (by decide) (fun h7 => ?_) (fun h7 => ?_)
    · refine j_iconst (v := nI 0) dX10_isShelf_14 rfl ?_
      refine j_zreturn dX10_isShelf_15 rfl (by decide) ?_
      exact ⟨by simp only [isA, if_neg h1, if_pos h7], rfl⟩
    · refine j_iconst (v := nI 1) dX10_isShelf_10 rfl ?_
      refine j_goto (tgt := 15) dX10_isShelf_11 (by decide) ?_
      refine j_zreturn dX10_isShelf_15 rfl (by decide) ?_
      exact ⟨by simp only [isA, if_neg h1, if_neg h7], rfl⟩

section CT12a
variable {post : Option Value → jW → Prop} {H : Nat → Bool} {rk : Nat → Int32} {K j vj : Nat} {s : Int32}

set_option maxHeartbeats 4000000 in
set_option maxRecDepth 100000 in
theorem l_X6_placeFor_106 {i : Nat} (hi : i < 49) (hH : H i = false) (kk : jWP none RX6 cX6_placeFor 12 (some .int) d 0 0 20 [some (.ref 15), some (.ref K), some (.int (nI j)), some (.int s), some (.int (nI vj)), some (.int (plP (plS H rk (i + 1)))), some (.int (plB (plS H rk (i + 1)))), some (.int (nI (i + 1))), none, none, none, none] [] w post) : jWP none RX6 cX6_placeFor 12 (some .int) (d) 0 0 106 [some (.ref 15), some (.ref K), some (.int (nI j)), some (.int s), some (.int (nI vj)), some (.int (plP (plS H rk i))), some (.int (plB (plS H rk i))), some (.int (nI i)), none, some (.int (rk i)), none, none] [] (w) (post) := by
  refine j_iload dX6_placeFor_106 rfl ?_
  refine j_if_lt (tgt := 118) dX6_placeFor_108 (by decide) (fun h108 => ?_) (fun h108 => ?_)
  · refine j_iload dX6_placeFor_118 rfl ?_
    refine j_istore (lv' := [some (.ref 15), some (.ref K), some (.int _), some (.int _), some (.int _), some (.int _), some (.int _), some (.int _), none, some (.int _), none, none]) dX6_placeFor_120 (by decide) rfl ?_
    refine j_iload dX6_placeFor_122 rfl ?_
    refine j_istore (lv' := [some (.ref 15), some (.ref K), some (.int _), some (.int _), some (.int _), some (.int _), some (.int _), some (.int _), none, some (.int _), none, none]) dX6_placeFor_124 (by decide) rfl ?_
    refine jn_iinc (lv' := [some (.ref 15), some (.ref K), some (.int _), some (.int _), some (.int _), some (.int _), some (.int _), some (.int _), none, some (.int _), none, none]) dX6_placeFor_126 rfl (by decide) rfl ?_
    refine j_goto (tgt := 20) dX6_placeFor_129 (by decide) ?_
    rw [plS_a (by omega) hH h108] at kk
    exact j_sub (by exact ⟨rfl, rfl, rfl, rfl, rfl, rfl, rfl, rfl, trivial⟩) kk
  · refine j_iload dX6_placeFor_111 rfl ?_
    refine j_iload dX6_placeFor_113 rfl ?_
    refine j_icmp_le (tgt := 126) dX6_placeFor_115 (by decide) (fun h115 => ?_) (fun h115 => ?_)
    · refine jn_iinc (lv' := [some (.ref 15), some (.ref K), some (.int _), some (.int _), some (.int _), some (.int _), some (.int _), some (.int _), none, some (.int _), none, none]) dX6_placeFor_126 rfl (by decide) rfl ?_
      refine j_goto (tgt := 20) dX6_placeFor_129 (by decide) ?_
      rw [plS_b hH h108 h115] at kk
      exact j_sub (by exact ⟨rfl, rfl, rfl, rfl, rfl, rfl, rfl, rfl, trivial⟩) kk
    · refine j_iload dX6_placeFor_118 rfl ?_
      refine j_istore (lv' := [some (.ref 15), some (.ref K), some (.int _), some (.int _), some (.int _), some (.int _), some (.int _), some (.int _), none, some (.int _), none, none]) dX6_placeFor_120 (by decide) rfl ?_
      refine j_iload dX6_placeFor_122 rfl ?_
      refine j_istore (lv' := [some (.ref 15), some (.ref K), some (.int _), some (.int _), some (.int _), some (.int _), some (.int _), some (.int _), none, some (.int _), none, none]) dX6_placeFor_124 (by decide) rfl ?_
      refine jn_iinc (lv' := [some (.ref 15), some (.ref K), some (.int _), some (.int _), some (.int _), some (.int _), some (.int _), some (.int _), none, some (.int _), none, none]) dX6_placeFor_126 rfl (by decide) rfl ?_
      refine j_goto (tgt := 20) dX6_placeFor_129 (by decide) ?_
      rw [plS_c hH h108 h115] at kk
      exact j_sub (by exact ⟨rfl, rfl, rfl, rfl, rfl, rfl, rfl, rfl, trivial⟩) kk

end CT12a
set_option maxHeartbeats 4000000 in
set_option maxRecDepth 100000 in
theorem l_X6_placeFor (hr : rul B cd vl st an en n na v X A) {K : Nat} (hK : isK K) (hc : cok X A K) {j : Nat} (hj : j < na) {s : Int32} : ∀ (m i : Nat) (f g : Nat → Int32), i ≤ 49 → 49 - i < m → jWP none RX6 cX6_placeFor 12 (some .int) (d + 3) 0 0 20 [some (.ref 15), some (.ref K), some (.int (nI j)), some (.int s), some (.int (nI (v j))), some (.int (plP (plS (heldB (A (K + 1))) (rkC cd vl st an en n (v j) (A (K + 1)) (nI j) s) i))), some (.int (plB (plS (heldB (A (K + 1))) (rkC cd vl st an en n (v j) (A (K + 1)) (nI j) s) i))), some (.int (nI i)), none, none, none, none] [] (tw X (scr A B f g) L) ((fun z w => z = some (.int (plP (plS (heldB (A (K + 1))) (rkC cd vl st an en n (v j) (A (K + 1)) (nI j) s) 49))) ∧ ∃ f g, w = tw X (scr A B f g) L)) := by
  intro m
  induction m with
  | zero => intro i f g h1 h2; omega
  | succ m ih =>
    intro i f g hi hm
    have hr9 := rul_s hr (f := f) (g := g)
    obtain ⟨hB, r2, r3, r4, r5, r6, r7, r8, r9, r10, r11, r12, r13⟩ := hr9
    have hs := hj
    have hcs := cok_scr hB hK (f := f) (g := g) hc
    have k1 := isK_35 hK
    have e1 : scr A B f g (K + 1) = A (K + 1) := scr_k hB (by omega)
    have hvj := r13 j hj
    refine j_iload dX6_placeFor_20 rfl ?_
    refine j_bipush (v := nI 49) dX6_placeFor_22 rfl ?_
    refine jn_icmp_ge (tgt := 132) dX6_placeFor_24 (by decide) (by omega) (by omega) (fun h24 => ?_) (fun h24 => ?_)
    · refine j_iload dX6_placeFor_132 rfl ?_
      refine j_ireturn dX6_placeFor_134 rfl ?_
      obtain rfl : i = 49 := by omega
      exact ⟨rfl, f, g, rfl⟩
    · refine j_aload_n dX6_placeFor_27 rfl rfl ?_
      refine j_iload dX6_placeFor_28 rfl ?_
      refine j_callVi [.int _] [] dX6_placeFor_30 jlk_X6_56 rfl rfl ((shK0 hK) _ _ _) rfl (Nat.le_of_ble_eq_true rfl) (c_X0_holds hK (by omega)) ?_
      rw [e1]
      refine j_if_eq (tgt := 39) dX6_placeFor_33 (by decide) (fun h33 => ?_) (fun h33 => ?_)
      · have h33 := bz_f h33
        refine j_aload_n dX6_placeFor_39 rfl rfl ?_
        refine t_getR (b := 5) dX6_placeFor_40 jfl_X6_28 (fun _ _ _ => rfl) rfl ?_
        refine j_iload dX6_placeFor_43 rfl ?_
        refine j_iload dX6_placeFor_45 rfl ?_
        refine j_callVi [.int _, .int _] [] dX6_placeFor_47 jlk_X6_62 rfl rfl rfl rfl (Nat.le_of_ble_eq_true rfl) (c_X1_distance (by omega) hvj) ?_
        refine j_istore (lv' := [some (.ref 15), some (.ref K), some (.int _), some (.int _), some (.int _), some (.int _), some (.int _), some (.int _), some (.int _), none, none, none]) dX6_placeFor_50 (by decide) rfl ?_
        refine j_iload dX6_placeFor_52 rfl ?_
        refine j_ineg dX6_placeFor_54 ?_
        refine j_istore (lv' := [some (.ref 15), some (.ref K), some (.int _), some (.int _), some (.int _), some (.int _), some (.int _), some (.int _), some (.int _), some (.int _), none, none]) dX6_placeFor_55 (by decide) rfl ?_
        refine j_aload_n dX6_placeFor_57 rfl rfl ?_
        refine t_getR (b := B) dX6_placeFor_58 jfl_X6_21 (fun _ _ _ => rfl) (fScr_3 hB r2) ?_
        refine j_callVi [] [] dX6_placeFor_61 jlk_X6_68 rfl rfl ((shB0 hB) _ _ _) rfl (Nat.le_of_ble_eq_true rfl) (c_X3_isTold hB r8 (by have := r9.2.2.1; omega)) ?_
        refine j_if_eq (tgt := 106) dX6_placeFor_64 (by decide) (fun h64 => ?_) (fun h64 => ?_)
        · have e2 : rkC cd vl st an en n (v j) (A (K + 1)) (nI j) s i = _ := if_pos (by rcases Nat.eq_zero_or_pos n with q | q; exact q; rw [if_neg (by omega)] at h64; exact absurd h64 (by decide))
          refine j_sub ?_ (l_X6_placeFor_106 (H := heldB (A (K + 1))) (rk := rkC cd vl st an en n (v j) (A (K + 1)) (nI j) s) (by omega) h33 (ih (i + 1) f g (by omega) (by omega)))
          exact ⟨rfl, rfl, rfl, rfl, rfl, rfl, rfl, rfl, by rw [e2], trivial⟩
        · refine j_aload_n dX6_placeFor_67 rfl rfl ?_
          refine j_iload dX6_placeFor_68 rfl ?_
          refine j_callVi [.int _] [] dX6_placeFor_70 jlk_X6_72 rfl rfl ((shK0 hK) _ _ _) rfl (Nat.le_of_ble_eq_true rfl) (c_X0_fullSidesOf hK (by omega) hcs) ?_
          rw [e1]
          refine j_istore (lv' := [some (.ref 15), some (.ref K), some (.int _), some (.int _), some (.int _), some (.int _), some (.int _), some (.int _), some (.int _), some (.int _), some (.int _), none]) dX6_placeFor_73 (by decide) rfl ?_
          refine j_aload_n dX6_placeFor_75 rfl rfl ?_
          refine j_iload dX6_placeFor_76 rfl ?_
          refine j_iload_n dX6_placeFor_78 rfl rfl ?_
          refine j_callVi [.int _, .int _] [] dX6_placeFor_79 jlk_X6_75 rfl rfl ((shK0 hK) _ _ _) rfl (Nat.le_of_ble_eq_true rfl) (c_X0_sidesOwned hK (by omega)) ?_
          rw [e1]
          refine j_istore (lv' := [some (.ref 15), some (.ref K), some (.int _), some (.int _), some (.int _), some (.int _), some (.int _), some (.int _), some (.int _), some (.int _), some (.int _), some (.int _)]) dX6_placeFor_82 (by decide) rfl ?_
          refine j_aload_n dX6_placeFor_84 rfl rfl ?_
          refine t_getR (b := B) dX6_placeFor_85 jfl_X6_21 (fun _ _ _ => rfl) (fScr_3 hB r2) ?_
          refine j_iload dX6_placeFor_88 rfl ?_
          refine j_iload dX6_placeFor_90 rfl ?_
          refine j_iload dX6_placeFor_92 rfl ?_
          refine j_iload_n dX6_placeFor_94 rfl rfl ?_
          refine j_iload_n dX6_placeFor_95 rfl rfl ?_
          refine j_iload dX6_placeFor_96 rfl ?_
          refine j_callSi [.int _] [.int _, .int _, .int _, .int _, .int _, .ref B] dX6_placeFor_98 jlk_X6_78 rfl rfl (Nat.le_of_ble_eq_true rfl) (c_X1_lineOf (by omega)) ?_
          refine j_callV [.int _, .int _, .int _, .int _, .int _, .int _] [] dX6_placeFor_101 jlk_X6_81 rfl rfl ((shB0 hB) _ _ _) rfl (Nat.le_of_ble_eq_true rfl) (c_X3_rank hB r3 r4 r5 r6 r7 r8 r9) (fun r9 w9 h9 => ?_)
          obtain ⟨rfl, f9, g9, rfl⟩ := h9
          refine j_atw (w' := tw X (scr A B f9 g9) L) (by rw [scr_scr]) ?_
          refine j_ats (st' := [.int _]) rfl ?_
          refine j_istore (lv' := [some (.ref 15), some (.ref K), some (.int _), some (.int _), some (.int _), some (.int _), some (.int _), some (.int _), some (.int _), some (.int _), some (.int _), some (.int _)]) dX6_placeFor_104 (by decide) rfl ?_
          have e2 : rkC cd vl st an en n (v j) (A (K + 1)) (nI j) s i = _ := if_neg (fun q => h64 (if_pos q))
          refine j_sub ?_ (l_X6_placeFor_106 (H := heldB (A (K + 1))) (rk := rkC cd vl st an en n (v j) (A (K + 1)) (nI j) s) (by omega) h33 (ih (i + 1) f9 g9 (by omega) (by omega)))
          exact ⟨rfl, rfl, rfl, rfl, rfl, rfl, rfl, rfl, by rw [e2]; rfl, trivial⟩
      · have h33 := bz_t h33
        refine j_goto (tgt := 126) dX6_placeFor_36 (by decide) ?_
        refine jn_iinc (lv' := [some (.ref 15), some (.ref K), some (.int _), some (.int _), some (.int _), some (.int _), some (.int _), some (.int _), none, none, none, none]) dX6_placeFor_126 rfl (by decide) rfl ?_
        refine j_goto (tgt := 20) dX6_placeFor_129 (by decide) ?_
        refine j_sub ?_ (ih (i + 1) f g (by omega) (by omega))
        rw [plS_h h33]
        exact ⟨rfl, rfl, rfl, rfl, rfl, rfl, rfl, rfl, trivial⟩

set_option maxHeartbeats 4000000 in
set_option maxRecDepth 100000 in
theorem c_X6_placeFor (hr : rul B cd vl st an en n na v X A) {K : Nat} (hK : isK K) (hc : cok X A K) {j : Nat} (hj : j < na) {s : Int32} : jMet (d + 3) yX6_placeFor cX6_placeFor 12 (some .int) 0 0 [.ref 15, .ref K, .int (nI j), .int s] (tw X A L) ((fun z w => z = some (.int (plP (plS (heldB (A (K + 1))) (rkC cd vl st an en n (v j) (A (K + 1)) (nI j) s) 49))) ∧ ∃ f g, w = tw X (scr A B f g) L)) := by
  refine jMet_of (by decide) (Nat.le_of_ble_eq_true rfl) none (Or.inl rfl) ?_
  show jWP none RX6 cX6_placeFor 12 (some .int) (d + 3) 0 0 0 [some (.ref 15), some (.ref K), some (.int (nI j)), some (.int s), none, none, none, none, none, none, none, none] [] (tw X A L) ((fun z w => z = some (.int (plP (plS (heldB (A (K + 1))) (rkC cd vl st an en n (v j) (A (K + 1)) (nI j) s) 49))) ∧ ∃ f g, w = tw X (scr A B f g) L))
  obtain ⟨hB, r2, r3, r4, r5, r6, r7, r8, r9, r10, r11, r12, r13⟩ := id hr
  refine j_aload_n dX6_placeFor_0 rfl rfl ?_
  refine t_getR (b := 10) dX6_placeFor_1 jfl_X6_32 (fun _ _ _ => rfl) rfl ?_
  refine j_iload_n dX6_placeFor_4 rfl rfl ?_
  refine j_callVi [.int _] [] dX6_placeFor_5 jlk_X6_51 rfl rfl rfl rfl (Nat.le_of_ble_eq_true rfl) (c_X7_doorOf r10 r11 r12 hj) ?_
  refine j_istore (lv' := [some (.ref 15), some (.ref K), some (.int _), some (.int _), some (.int _), none, none, none, none, none, none, none]) dX6_placeFor_8 (by decide) rfl ?_
  refine j_bipush (v := (-2)) dX6_placeFor_10 rfl ?_
  refine j_istore (lv' := [some (.ref 15), some (.ref K), some (.int _), some (.int _), some (.int _), some (.int _), none, none, none, none, none, none]) dX6_placeFor_12 (by decide) rfl ?_
  refine j_iconst (v := nI 0) dX6_placeFor_14 rfl ?_
  refine j_istore (lv' := [some (.ref 15), some (.ref K), some (.int _), some (.int _), some (.int _), some (.int _), some (.int _), none, none, none, none, none]) dX6_placeFor_15 (by decide) rfl ?_
  refine j_iconst (v := nI 0) dX6_placeFor_17 rfl ?_
  refine j_istore (lv' := [some (.ref 15), some (.ref K), some (.int _), some (.int _), some (.int _), some (.int _), some (.int _), some (.int _), none, none, none, none]) dX6_placeFor_18 (by decide) rfl ?_
  refine j_atw ?_ (l_X6_placeFor hr hK hc hj 50 0 (A (B + 6)) (A (B + 7)) (by omega) (by omega))
  rw [scr_self]

/-- a row behind a sale -/
def wrO (o : Option (Nat × Int32)) (f : Nat → Int32) (a : Int32) : Nat → Int32 := match o with
  | none => f
  | some q => upd f q.1 a

set_option maxHeartbeats 4000000 in
set_option maxRecDepth 100000 in
theorem c_X6_write (hr : rul B cd vl st an en n na v X A) {K : Nat} (hK : isK K) (hc : cok X A K) {j : Nat} (hj : j < na) {s : Int32} : jMet (d + 4) yX6_write cX6_write 5 (some .int) 0 0 [.ref 15, .ref K, .int (nI j), .int s] (tw X A L) ((fun z w => z = some (.int (plP (plS (heldB (A (K + 1))) (rkC cd vl st an en n (v j) (A (K + 1)) (nI j) s) 49))) ∧ ∃ f g, w = tw (cX X K (wrO (plS (heldB (A (K + 1))) (rkC cd vl st an en n (v j) (A (K + 1)) (nI j) s) 49) (A (K + 1)) (nI j))) (scr (cA A K (wrO (plS (heldB (A (K + 1))) (rkC cd vl st an en n (v j) (A (K + 1)) (nI j) s) 49) (A (K + 1)) (nI j)) (wrO (plS (heldB (A (K + 1))) (rkC cd vl st an en n (v j) (A (K + 1)) (nI j) s) 49) (A (K + 2)) s)) B f g) L)) := by
  refine jMet_of (by decide) (Nat.le_of_ble_eq_true rfl) none (Or.inl rfl) ?_
  show jWP none RX6 cX6_write 5 (some .int) (d + 4) 0 0 0 [some (.ref 15), some (.ref K), some (.int (nI j)), some (.int s), none] [] (tw X A L) ((fun z w => z = some (.int (plP (plS (heldB (A (K + 1))) (rkC cd vl st an en n (v j) (A (K + 1)) (nI j) s) 49))) ∧ ∃ f g, w = tw (cX X K (wrO (plS (heldB (A (K + 1))) (rkC cd vl st an en n (v j) (A (K + 1)) (nI j) s) 49) (A (K + 1)) (nI j))) (scr (cA A K (wrO (plS (heldB (A (K + 1))) (rkC cd vl st an en n (v j) (A (K + 1)) (nI j) s) 49) (A (K + 1)) (nI j)) (wrO (plS (heldB (A (K + 1))) (rkC cd vl st an en n (v j) (A (K + 1)) (nI j) s) 49) (A (K + 2)) s)) B f g) L))
  have hB := hr.1
  have hna := hr.2.2.2.2.2.2.2.2.2.2.1
  generalize hp : (plS (heldB (A (K + 1))) (rkC cd vl st an en n (v j) (A (K + 1)) (nI j) s) 49) = p
  refine j_aload_n dX6_write_0 rfl rfl ?_
  refine j_aload_n dX6_write_1 rfl rfl ?_
  refine j_iload_n dX6_write_2 rfl rfl ?_
  refine j_iload_n dX6_write_3 rfl rfl ?_
  refine j_callV [.ref K, .int _, .int _] [] dX6_write_4 jlk_X6_85 rfl rfl rfl rfl (Nat.le_of_ble_eq_true rfl) (c_X6_placeFor hr hK hc hj) (fun r9 w9 h9 => ?_)
  obtain ⟨rfl, f9, g9, rfl⟩ := h9
  rw [hp]
  refine j_ats (st' := [.int _]) rfl ?_
  refine j_istore (lv' := [some (.ref 15), some (.ref K), some (.int _), some (.int _), some (.int _)]) dX6_write_7 (by decide) rfl ?_
  refine j_iload dX6_write_9 rfl ?_
  refine j_if_lt (tgt := 22) dX6_write_11 (by decide) (fun h11 => ?_) (fun h11 => ?_)
  · obtain rfl : p = none := by
      cases p with
      | none => rfl
      | some q => exact absurd h11 (nI_pos (Nat.lt_trans (plS_lt hp).1 (by decide)))
    refine j_iload dX6_write_22 rfl ?_
    refine j_ireturn dX6_write_24 rfl ?_
    refine ⟨rfl, f9, g9, tw_eq ?_ ?_ rfl⟩
    · exact (cok_self hc).2.symm
    · exact (congrArg (fun a => scr a B f9 g9) (cok_self hc).1).symm
  · rcases p with _ | q
    · exact absurd (by decide) h11
    have hq := plS_lt hp
    refine j_at (lv' := [some (.ref 15), some (.ref K), some (.int (nI j)), some (.int s), some (.int (nI q.1))]) rfl ?_
    refine j_aload_n dX6_write_14 rfl rfl ?_
    refine j_iload dX6_write_15 rfl ?_
    refine j_iload_n dX6_write_17 rfl rfl ?_
    refine j_iload_n dX6_write_18 rfl rfl ?_
    refine j_callVv [.int _, .int _, .int _] [] dX6_write_19 jlk_X6_89 rfl rfl ((shK0 hK) _ _ _) rfl (Nat.le_of_ble_eq_true rfl) (c_X0_fill hK (cok_scr hB hK hc) (by omega) (by rw [scr_k hB (by have := isK_35 hK; omega)]; exact hq.2) (nI_nm1 (by omega))) ?_
    refine j_iload dX6_write_22 rfl ?_
    refine j_ireturn dX6_write_24 rfl ?_
    refine ⟨rfl, f9, g9, tw_eq ?_ ?_ rfl⟩
    · rw [scr_k hB (by have := isK_35 hK; omega)]; rfl
    · rw [scr_k hB (by have := isK_35 hK; omega), scr_k hB (by have := isK_35 hK; omega), scr_cA hB hK]; rfl

end CT12