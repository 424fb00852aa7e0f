/-- the thought comb and what was sealed -/
def eA (A : Nat → Nat → Int32) (O S Z : Nat → Int32) : Nat → Nat → Int32 := va_up (mA A O S) 89 Z
theorem eA_84 (A : Nat → Nat → Int32) (O S Z : Nat → Int32) : eA A O S Z 84 = O := by unfold eA; rw [vu_n _ _ _ (by decide), mA_84]
theorem eA_85 (A : Nat → Nat → Int32) (O S Z : Nat → Int32) : eA A O S Z 85 = S := by unfold eA; rw [vu_n _ _ _ (by decide), mA_85]
theorem eA_89 (A : Nat → Nat → Int32) (O S Z : Nat → Int32) : eA A O S Z 89 = Z := vu_s _ _ _
theorem eA_n (A : Nat → Nat → Int32) (O S Z : Nat → Int32) {c : Nat} (h1 : c ≠ 84) (h2 : c ≠ 85) (h3 : c ≠ 89) : eA A O S Z c = A c := by unfold eA; rw [vu_n _ _ _ h3, mA_n _ _ _ h1 h2]
theorem eA_p84 (A : Nat → Nat → Int32) (O S Z O' : Nat → Int32) : va_up (eA A O S Z) 84 O' = eA A O' S Z := by unfold eA; rw [vu_comm _ _ _ (by decide), mA_p84]
theorem eA_p85 (A : Nat → Nat → Int32) (O S Z S' : Nat → Int32) : va_up (eA A O S Z) 85 S' = eA A O S' Z := by unfold eA; rw [vu_comm _ _ _ (by decide), mA_p85]
theorem eA_p89 (A : Nat → Nat → Int32) (O S Z Z' : Nat → Int32) : va_up (eA A O S Z) 89 Z' = eA A O S Z' := vu_up _ _ _ _
theorem eA_vu (A : Nat → Nat → Int32) (O S Z u : Nat → Int32) {c : Nat} (h1 : c ≠ 84) (h2 : c ≠ 85) (h3 : c ≠ 89) : va_up (eA A O S Z) c u = eA (va_up A c u) O S Z := by
  unfold eA
  rw [vu_comm _ _ _ (Ne.symm h3), mA_vu _ _ _ _ h1 h2]
theorem eA_eA (A : Nat → Nat → Int32) (O S Z O' S' Z' : Nat → Int32) : eA (eA A O S Z) O' S' Z' = eA A O' S' Z' := by
  show va_up (va_up (va_up (eA A O S Z) 84 O') 85 S') 89 Z' = _
  rw [eA_p84, eA_p85, eA_p89]
theorem eA_m (A : Nat → Nat → Int32) (O S Z O' S' : Nat → Int32) : mA (eA A O S Z) O' S' = eA A O' S' Z := by
  show va_up (va_up (eA A O S Z) 84 O') 85 S' = _
  rw [eA_p84, eA_p85]
theorem mA_e (A : Nat → Nat → Int32) (O S O' S' Z' : Nat → Int32) : eA (mA A O S) O' S' Z' = eA A O' S' Z' := by
  unfold eA
  rw [mA_mA]
theorem eA_self (A : Nat → Nat → Int32) : eA A (A 84) (A 85) (A 89) = A := by unfold eA; rw [mA_self, vu_self]
theorem mA_eA (A : Nat → Nat → Int32) (O S : Nat → Int32) : mA A O S = eA A O S (A 89) := by
  have h := vu_self (mA A O S) 89
  rw [mA_n _ _ _ (by decide) (by decide)] at h
  exact h.symm
theorem cpN_v {f g : Nat → Int32} {i : Nat} {y : Int32} (h : y = f i) : upd (cpN f g i) i y = cpN f g (i + 1) := by rw [h]; exact cpN_s f g i
theorem cpN_at {f g : Nat → Int32} {i n : Nat} (h : i < n) : cpN f g n i = f i := if_pos h
/-- something held isn't sealed -/
def opF (O : Nat → Int32) : Nat → Bool
  | 0 => false
  | i + 1 => opF O i || (heldB O i && !slB O i)
theorem opF_eq (O : Nat → Int32) : opF O 49 = spB O := by
  have h : ∀ n, cnt (slB O) n ≤ cnt (heldB O) n ∧ opF O n = decide (cnt (slB O) n < cnt (heldB O) n) := by
    intro n
    induction n with
    | zero => exact ⟨Nat.le_refl _, rfl⟩
    | succ n ih =>
      have e1 : cnt (slB O) (n + 1) = if slB O n = true then cnt (slB O) n + 1 else cnt (slB O) n := rfl
      have e2 : cnt (heldB O) (n + 1) = if heldB O n = true then cnt (heldB O) n + 1 else cnt (heldB O) n := rfl
      have e3 : opF O (n + 1) = (opF O n || (heldB O n && !slB O n)) := rfl
      cases hh : heldB O n with
      | false =>
        have hs : slB O n = false := by unfold slB; rw [hh]; rfl
        rw [hs] at e1
        rw [hh] at e2
        rw [hh] at e3
        simp only [Bool.false_eq_true, if_false] at e1 e2
        rw [e1, e2, e3, ih.2]
        exact ⟨ih.1, by simp⟩
      | true =>
        cases hs : slB O n with
        | true =>
          rw [hs] at e1 e3
          rw [hh] at e2 e3
          simp only [if_true] at e1 e2
          rw [e1, e2, e3, ih.2]
          exact ⟨by omega, by simp⟩
        | false =>
          rw [hs] at e1 e3
          rw [hh] at e2 e3
          simp only [Bool.false_eq_true, if_false, if_true] at e1 e2
          rw [e1, e2, e3]
          have := ih.1
          exact ⟨by omega, by simp; omega⟩
  exact (h 49).2
def oM : Option Nat → Int32
  | none => -1
  | some m => nI m
theorem bz_or (a b : Bool) : bz a ||| bz b = bz (a || b) := by cases a <;> cases b <;> decide
/-- a step: one cell is eaten; the next of two or the eaten one -/
theorem nxt_e {O S : Nat → Int32} {sp : Bool} {i : Nat} (h : (heldB O i && !(sp && slB O i)) = false) : nxt O S sp (i + 1) = nxt O S sp i := by
  show (if (heldB O i && !(sp && slB O i)) = true then _ else nxt O S sp i) = _
  rw [if_neg (by rw [h]; decide)]
theorem nxt_n {O S : Nat → Int32} {sp : Bool} {i : Nat} (h : (heldB O i && !(sp && slB O i)) = true) (hn : nxt O S sp i = none) : nxt O S sp (i + 1) = some i := by
  show (if (heldB O i && !(sp && slB O i)) = true then (match nxt O S sp i with | none => some i | some m => if S m < S i then some m else some i) else nxt O S sp i) = _
  rw [if_pos h, hn]
theorem nxt_a {O S : Nat → Int32} {sp : Bool} {i m : Nat} (h : (heldB O i && !(sp && slB O i)) = true) (hn : nxt O S sp i = some m) (hs : S m < S i) : nxt O S sp (i + 1) = some m := by
  show (if (heldB O i && !(sp && slB O i)) = true then (match nxt O S sp i with | none => some i | some m => if S m < S i then some m else some i) else nxt O S sp i) = _
  rw [if_pos h, hn]
  exact if_pos hs
theorem nxt_b {O S : Nat → Int32} {sp : Bool} {i m : Nat} (h : (heldB O i && !(sp && slB O i)) = true) (hn : nxt O S sp i = some m) (hs : ¬ S m < S i) : nxt O S sp (i + 1) = some i := by
  show (if (heldB O i && !(sp && slB O i)) = true then (match nxt O S sp i with | none => some i | some m => if S m < S i then some m else some i) else nxt O S sp i) = _
  rw [if_pos h, hn]
  exact if_neg hs
section CT47
variable {d : Nat} {X A : Nat → Nat → Int32} {L : Nat → Nat → Int64} {w : jW} {na nb : Nat} {v kd : Nat → Nat}

set_option maxHeartbeats 200000 in
set_option maxRecDepth 100000 in
theorem l_eats1 (hw : ow (A 84)) {post : Option Value → jW → Prop} (kk : jWP none RX11 cX11_eatsOne 5 (some .boolean) (d + 2) 0 0 52 [some (.ref 76), some (.int (bz (opF (A 84) 49))), some (.int (nI 49)), none, none] [] (tw X (eA A (A 84) (A 85) (cpN (fun c => bz (slB (A 84) c)) (A 89) 49)) L) post) : ∀ (m i : Nat), i ≤ 49 → 49 - i < m → jWP none RX11 cX11_eatsOne 5 (some .boolean) (d + 2) 0 0 4 [some (.ref 76), some (.int (bz (opF (A 84) i))), some (.int (nI i)), none, none] [] (tw X (eA A (A 84) (A 85) (cpN (fun c => bz (slB (A 84) c)) (A 89) i)) L) (post) := by
  intro m
  induction m with
  | zero => intro i h1 h2; omega
  | succ m ih =>
    intro i hi hm
    refine j_iload_n dX11_eatsOne_4 rfl rfl ?_
    refine j_bipush (v := nI 49) dX11_eatsOne_5 rfl ?_
    refine jn_icmp_ge (tgt := 52) dX11_eatsOne_7 (by decide) (by omega) (by omega) (fun h7 => ?_) (fun h7 => ?_)
    · obtain rfl : i = 49 := by omega
      exact kk
    · refine j_aload_n dX11_eatsOne_10 rfl rfl ?_
      refine t_getR (b := 89) dX11_eatsOne_11 jfl_X11_48 (fun _ _ _ => rfl) rfl ?_
      refine j_iload_n dX11_eatsOne_14 rfl rfl ?_
      refine j_aload_n dX11_eatsOne_15 rfl rfl ?_
      refine j_iload_n dX11_eatsOne_16 rfl rfl ?_
      refine j_callVi [.int _] [.int _, .ref 89] dX11_eatsOne_17 jlk_X11_152 rfl rfl rfl rfl (Nat.le_of_ble_eq_true rfl) (m_isSealed (by rw [eA_84]; exact hw) (by omega)) ?_
      rw [eA_84]
      refine t_bastore dX11_eatsOne_20 (fun _ _ _ => rfl) (by omega) (by decide) (bz01 _) ?_
      rw [eA_89, cpN_v rfl, eA_p89]
      refine j_iload_n dX11_eatsOne_21 rfl rfl ?_
      refine j_aload_n dX11_eatsOne_22 rfl rfl ?_
      refine j_iload_n dX11_eatsOne_23 rfl rfl ?_
      refine j_callVi [.int _] [.int _] dX11_eatsOne_24 jlk_X11_147 rfl rfl rfl rfl (Nat.le_of_ble_eq_true rfl) (m_holds (c := i) (show ow _ from by rw [eA_84]; exact hw) (by omega)) ?_
      rw [eA_84]
      refine j_if_eq (tgt := 43) dX11_eatsOne_27 (by decide) (fun h27 => ?_) (fun h27 => ?_)
      · have h27 := bz_f h27
        refine j_iconst (v := nI 0) dX11_eatsOne_43 rfl ?_
        refine j_ior dX11_eatsOne_44 ?_
        refine j_istore_n (lv' := [some (.ref 76), some (.int _), some (.int _), none, none]) dX11_eatsOne_45 rfl (by decide) rfl ?_
        refine jn_iinc (lv' := [some (.ref 76), some (.int _), some (.int _), none, none]) dX11_eatsOne_46 rfl (by decide) rfl ?_
        refine j_goto (tgt := 4) dX11_eatsOne_49 (by decide) ?_
        refine j_sub ?_ (ih (i + 1) (by omega) (by omega))
        have e : opF (A 84) (i + 1) = (opF (A 84) i || (heldB (A 84) i && !slB (A 84) i)) := rfl
        rw [e, h27, ← bz_or]
        exact ⟨rfl, rfl, rfl, trivial⟩
      · have h27 := bz_t h27
        refine j_aload_n dX11_eatsOne_30 rfl rfl ?_
        refine t_getR (b := 89) dX11_eatsOne_31 jfl_X11_48 (fun _ _ _ => rfl) rfl ?_
        refine j_iload_n dX11_eatsOne_34 rfl rfl ?_
        refine t_baload dX11_eatsOne_35 (fun _ _ _ => rfl) (by omega) (by decide) ?_
        refine j_topE (e' := bz (slB (A 84) i)) (by rw [eA_89, cpN_at (Nat.lt_succ_self i)]) ?_
        refine j_if_ne (tgt := 43) dX11_eatsOne_36 (by decide) (fun h36 => ?_) (fun h36 => ?_)
        · have h36 : slB (A 84) i = true := by
            cases q : slB (A 84) i with
            | true => rfl
            | false => rw [q] at h36; exact absurd rfl h36
          refine j_iconst (v := nI 0) dX11_eatsOne_43 rfl ?_
          refine j_ior dX11_eatsOne_44 ?_
          refine j_istore_n (lv' := [some (.ref 76), some (.int _), some (.int _), none, none]) dX11_eatsOne_45 rfl (by decide) rfl ?_
          refine jn_iinc (lv' := [some (.ref 76), some (.int _), some (.int _), none, none]) dX11_eatsOne_46 rfl (by decide) rfl ?_
          refine j_goto (tgt := 4) dX11_eatsOne_49 (by decide) ?_
          refine j_sub ?_ (ih (i + 1) (by omega) (by omega))
          have e : opF (A 84) (i + 1) = (opF (A 84) i || (heldB (A 84) i && !slB (A 84) i)) := rfl
          rw [e, h27, h36, ← bz_or]
          exact ⟨rfl, rfl, rfl, trivial⟩
        · have h36 : slB (A 84) i = false := by
            cases q : slB (A 84) i with
            | false => rfl
            | true => rw [q] at h36; exact absurd (show bz true = 0 from by first | exact h36 | simpa using h36) (by decide)
          refine j_iconst (v := nI 1) dX11_eatsOne_39 rfl ?_
          refine j_goto (tgt := 44) dX11_eatsOne_40 (by decide) ?_
          refine j_ior dX11_eatsOne_44 ?_
          refine j_istore_n (lv' := [some (.ref 76), some (.int _), some (.int _), none, none]) dX11_eatsOne_45 rfl (by decide) rfl ?_
          refine jn_iinc (lv' := [some (.ref 76), some (.int _), some (.int _), none, none]) dX11_eatsOne_46 rfl (by decide) rfl ?_
          refine j_goto (tgt := 4) dX11_eatsOne_49 (by decide) ?_
          refine j_sub ?_ (ih (i + 1) (by omega) (by omega))
          have e : opF (A 84) (i + 1) = (opF (A 84) i || (heldB (A 84) i && !slB (A 84) i)) := rfl
          rw [e, h27, h36, ← bz_or]
          exact ⟨rfl, rfl, rfl, trivial⟩

set_option maxHeartbeats 200000 in
set_option maxRecDepth 100000 in
theorem l_eats2 (hw : ow (A 84)) {post : Option Value → jW → Prop} (kk : jWP none RX11 cX11_eatsOne 5 (some .boolean) (d + 2) 0 0 126 [some (.ref 76), some (.int (bz (spB (A 84)))), some (.int (oM (nxE (A 84) (A 85)))), some (.int (nI 49)), none] [] (tw X (eA A (A 84) (A 85) (cpN (fun c => bz (slB (A 84) c)) (A 89) 49)) L) post) : ∀ (m i : Nat), i ≤ 49 → 49 - i < m → jWP none RX11 cX11_eatsOne 5 (some .boolean) (d + 2) 0 0 56 [some (.ref 76), some (.int (bz (spB (A 84)))), some (.int (oM (nxt (A 84) (A 85) (spB (A 84)) i))), some (.int (nI i)), none] [] (tw X (eA A (A 84) (A 85) (cpN (fun c => bz (slB (A 84) c)) (A 89) 49)) L) (post) := by
  intro m
  induction m with
  | zero => intro i h1 h2; omega
  | succ m ih =>
    intro i hi hm
    refine j_iload_n dX11_eatsOne_56 rfl rfl ?_
    refine j_bipush (v := nI 49) dX11_eatsOne_57 rfl ?_
    refine jn_icmp_ge (tgt := 126) dX11_eatsOne_59 (by decide) (by omega) (by omega) (fun h59 => ?_) (fun h59 => ?_)
    · obtain rfl : i = 49 := by omega
      exact j_sub (by exact ⟨rfl, rfl, rfl, rfl, trivial⟩) kk
    · refine j_aload_n dX11_eatsOne_62 rfl rfl ?_
      refine j_iload_n dX11_eatsOne_63 rfl rfl ?_
      refine j_callVi [.int _] [] dX11_eatsOne_64 jlk_X11_147 rfl rfl rfl rfl (Nat.le_of_ble_eq_true rfl) (m_holds (c := i) (show ow _ from by rw [eA_84]; exact hw) (by omega)) ?_
      rw [eA_84]
      refine j_if_eq (tgt := 87) dX11_eatsOne_67 (by decide) (fun h67 => ?_) (fun h67 => ?_)
      · have h67 := bz_f h67
        refine j_iconst (v := nI 0) dX11_eatsOne_87 rfl ?_
        refine j_istore (lv' := [some (.ref 76), some (.int _), some (.int _), some (.int _), some (.int _)]) dX11_eatsOne_88 (by decide) rfl ?_
        refine j_iload dX11_eatsOne_90 rfl ?_
        refine j_if_eq (tgt := 118) dX11_eatsOne_92 (by decide) (fun _ => ?_) (fun h => absurd (by decide) h)
        refine j_iload_n dX11_eatsOne_118 rfl rfl ?_
        refine j_istore_n (lv' := [some (.ref 76), some (.int _), some (.int _), some (.int _), some (.int _)]) dX11_eatsOne_119 rfl (by decide) rfl ?_
        refine jn_iinc (lv' := [some (.ref 76), some (.int _), some (.int _), some (.int _), some (.int _)]) dX11_eatsOne_120 rfl (by decide) rfl ?_
        refine j_goto (tgt := 56) dX11_eatsOne_123 (by decide) ?_
        have hcond : (heldB (A 84) i && !(spB (A 84) && slB (A 84) i)) = false := by
          rw [h67]; simp
        refine j_sub ?_ (ih (i + 1) (by omega) (by omega))
        rw [nxt_e hcond]
        exact ⟨rfl, rfl, rfl, rfl, trivial⟩
      · have h67 := bz_t h67
        refine j_iload_n dX11_eatsOne_70 rfl rfl ?_
        refine j_if_eq (tgt := 83) dX11_eatsOne_71 (by decide) (fun h71 => ?_) (fun h71 => ?_)
        · have h71 := bz_f h71
          refine j_iconst (v := nI 1) dX11_eatsOne_83 rfl ?_
          refine j_goto (tgt := 88) dX11_eatsOne_84 (by decide) ?_
          refine j_istore (lv' := [some (.ref 76), some (.int _), some (.int _), some (.int _), some (.int _)]) dX11_eatsOne_88 (by decide) rfl ?_
          refine j_iload dX11_eatsOne_90 rfl ?_
          refine j_if_eq (tgt := 118) dX11_eatsOne_92 (by decide) (fun h => absurd h (by decide)) (fun _ => ?_)
          have hcond : (heldB (A 84) i && !(spB (A 84) && slB (A 84) i)) = true := by
            rw [h67, h71]; simp
          cases hx : (nxt (A 84) (A 85) (spB (A 84)) i)
          · -- none
            refine j_iload_n dX11_eatsOne_95 rfl rfl ?_
            refine j_if_lt (tgt := 114) dX11_eatsOne_96 (by decide) (fun h96 => ?_) (fun h96 => absurd (show oM none < 0 from by decide) h96)
            refine j_iload_n dX11_eatsOne_114 rfl rfl ?_
            refine j_goto (tgt := 119) dX11_eatsOne_115 (by decide) ?_
            refine j_istore_n (lv' := [some (.ref 76), some (.int _), some (.int _), some (.int _), some (.int _)]) dX11_eatsOne_119 rfl (by decide) rfl ?_
            refine jn_iinc (lv' := [some (.ref 76), some (.int _), some (.int _), some (.int _), some (.int _)]) dX11_eatsOne_120 rfl (by decide) rfl ?_
            refine j_goto (tgt := 56) dX11_eatsOne_123 (by decide) ?_
            refine j_sub ?_ (ih (i + 1) (by omega) (by omega))
            rw [nxt_n hcond hx]
            exact ⟨rfl, rfl, rfl, rfl, trivial⟩
          · -- some
            rename_i q
            have hq : q < i := nxt_lt hx
            refine j_at (lv' := [some (.ref 76), some (.int _), some (.int (nI q)), some (.int (nI i)), some (.int (nI 1))]) rfl ?_
            refine j_iload_n dX11_eatsOne_95 rfl rfl ?_
            refine jn_if_lt (tgt := 114) dX11_eatsOne_96 (by decide) (by omega) ?_
            refine j_aload_n dX11_eatsOne_99 rfl rfl ?_
            refine t_getR (b := 85) dX11_eatsOne_100 jfl_X11_36 (fun _ _ _ => rfl) rfl ?_
            refine j_iload_n dX11_eatsOne_103 rfl rfl ?_
            refine t_iaload dX11_eatsOne_104 (fun _ _ _ => rfl) (by omega) (by decide) ?_
            refine j_topE (e' := A 85 i) (by rw [eA_85]) ?_
            refine j_aload_n dX11_eatsOne_105 rfl rfl ?_
            refine t_getR (b := 85) dX11_eatsOne_106 jfl_X11_36 (fun _ _ _ => rfl) rfl ?_
            refine j_iload_n dX11_eatsOne_109 rfl rfl ?_
            refine t_iaload dX11_eatsOne_110 (fun _ _ _ => rfl) (by omega) (by decide) ?_
            refine j_topE (e' := A 85 q) (by rw [eA_85]) ?_
            refine j_icmp_gt (tgt := 118) dX11_eatsOne_111 (by decide) (fun h111 => ?_) (fun h111 => ?_)
            · refine j_iload_n dX11_eatsOne_118 rfl rfl ?_
              refine j_istore_n (lv' := [some (.ref 76), some (.int _), some (.int _), some (.int _), some (.int _)]) dX11_eatsOne_119 rfl (by decide) rfl ?_
              refine jn_iinc (lv' := [some (.ref 76), some (.int _), some (.int _), some (.int _), some (.int _)]) dX11_eatsOne_120 rfl (by decide) rfl ?_
              refine j_goto (tgt := 56) dX11_eatsOne_123 (by decide) ?_
              refine j_sub ?_ (ih (i + 1) (by omega) (by omega))
              rw [nxt_a hcond hx h111]
              exact ⟨rfl, rfl, rfl, rfl, trivial⟩
            · refine j_iload_n dX11_eatsOne_114 rfl rfl ?_
              refine j_goto (tgt := 119) dX11_eatsOne_115 (by decide) ?_
              refine j_istore_n (lv' := [some (.ref 76), some (.int _), some (.int _), some (.int _), some (.int _)]) dX11_eatsOne_119 rfl (by decide) rfl ?_
              refine jn_iinc (lv' := [some (.ref 76), some (.int _), some (.int _), some (.int _), some (.int _)]) dX11_eatsOne_120 rfl (by decide) rfl ?_
              refine j_goto (tgt := 56) dX11_eatsOne_123 (by decide) ?_
              refine j_sub ?_ (ih (i + 1) (by omega) (by omega))
              rw [nxt_b hcond hx h111]
              exact ⟨rfl, rfl, rfl, rfl, trivial⟩
        · have h71 := bz_t h71
          refine j_aload_n dX11_eatsOne_74 rfl rfl ?_
          refine t_getR (b := 89) dX11_eatsOne_75 jfl_X11_48 (fun _ _ _ => rfl) rfl ?_
          refine j_iload_n dX11_eatsOne_78 rfl rfl ?_
          refine t_baload dX11_eatsOne_79 (fun _ _ _ => rfl) (by omega) (by decide) ?_
          refine j_topE (e' := bz (slB (A 84) i)) (by rw [eA_89, cpN_at (by omega)]) ?_
          refine j_if_ne (tgt := 87) dX11_eatsOne_80 (by decide) (fun h80 => ?_) (fun h80 => ?_)
          · have h80 : slB (A 84) i = true := by
              cases q : slB (A 84) i with
              | true => rfl
              | false => rw [q] at h80; exact absurd rfl h80
            refine j_iconst (v := nI 0) dX11_eatsOne_87 rfl ?_
            refine j_istore (lv' := [some (.ref 76), some (.int _), some (.int _), some (.int _), some (.int _)]) dX11_eatsOne_88 (by decide) rfl ?_
            refine j_iload dX11_eatsOne_90 rfl ?_
            refine j_if_eq (tgt := 118) dX11_eatsOne_92 (by decide) (fun _ => ?_) (fun h => absurd (by decide) h)
            refine j_iload_n dX11_eatsOne_118 rfl rfl ?_
            refine j_istore_n (lv' := [some (.ref 76), some (.int _), some (.int _), some (.int _), some (.int _)]) dX11_eatsOne_119 rfl (by decide) rfl ?_
            refine jn_iinc (lv' := [some (.ref 76), some (.int _), some (.int _), some (.int _), some (.int _)]) dX11_eatsOne_120 rfl (by decide) rfl ?_
            refine j_goto (tgt := 56) dX11_eatsOne_123 (by decide) ?_
            have hcond : (heldB (A 84) i && !(spB (A 84) && slB (A 84) i)) = false := by
              rw [h67, h71, h80]; simp
            refine j_sub ?_ (ih (i + 1) (by omega) (by omega))
            rw [nxt_e hcond]
            exact ⟨rfl, rfl, rfl, rfl, trivial⟩
          · have h80 : slB (A 84) i = false := by
              cases q : slB (A 84) i with
              | false => rfl
              | true => rw [q] at h80; exact absurd (show bz true = 0 from by first | exact h80 | simpa using h80) (by decide)
            refine j_iconst (v := nI 1) dX11_eatsOne_83 rfl ?_
            refine j_goto (tgt := 88) dX11_eatsOne_84 (by decide) ?_
            refine j_istore (lv' := [some (.ref 76), some (.int _), some (.int _), some (.int _), some (.int _)]) dX11_eatsOne_88 (by decide) rfl ?_
            refine j_iload dX11_eatsOne_90 rfl ?_
            refine j_if_eq (tgt := 118) dX11_eatsOne_92 (by decide) (fun h => absurd h (by decide)) (fun _ => ?_)
            have hcond : (heldB (A 84) i && !(spB (A 84) && slB (A 84) i)) = true := by
              rw [h67, h80]; simp
            cases hx : (nxt (A 84) (A 85) (spB (A 84)) i)
            · -- none
              refine j_iload_n dX11_eatsOne_95 rfl rfl ?_
              refine j_if_lt (tgt := 114) dX11_eatsOne_96 (by decide) (fun h96 => ?_) (fun h96 => absurd (show oM none < 0 from by decide) h96)
              refine j_iload_n dX11_eatsOne_114 rfl rfl ?_
              refine j_goto (tgt := 119) dX11_eatsOne_115 (by decide) ?_
              refine j_istore_n (lv' := [some (.ref 76), some (.int _), some (.int _), some (.int _), some (.int _)]) dX11_eatsOne_119 rfl (by decide) rfl ?_
              refine jn_iinc (lv' := [some (.ref 76), some (.int _), some (.int _), some (.int _), some (.int _)]) dX11_eatsOne_120 rfl (by decide) rfl ?_
              refine j_goto (tgt := 56) dX11_eatsOne_123 (by decide) ?_
              refine j_sub ?_ (ih (i + 1) (by omega) (by omega))
              rw [nxt_n hcond hx]
              exact ⟨rfl, rfl, rfl, rfl, trivial⟩
            · -- some
              rename_i q
              have hq : q < i := nxt_lt hx
              refine j_at (lv' := [some (.ref 76), some (.int _), some (.int (nI q)), some (.int (nI i)), some (.int (nI 1))]) rfl ?_
              refine j_iload_n dX11_eatsOne_95 rfl rfl ?_
              refine jn_if_lt (tgt := 114) dX11_eatsOne_96 (by decide) (by omega) ?_
              refine j_aload_n dX11_eatsOne_99 rfl rfl ?_
              refine t_getR (b := 85) dX11_eatsOne_100 jfl_X11_36 (fun _ _ _ => rfl) rfl ?_
              refine j_iload_n dX11_eatsOne_103 rfl rfl ?_
              refine t_iaload dX11_eatsOne_104 (fun _ _ _ => rfl) (by omega) (by decide) ?_
              refine j_topE (e' := A 85 i) (by rw [eA_85]) ?_
              refine j_aload_n dX11_eatsOne_105 rfl rfl ?_
              refine t_getR (b := 85) dX11_eatsOne_106 jfl_X11_36 (fun _ _ _ => rfl) rfl ?_
              refine j_iload_n dX11_eatsOne_109 rfl rfl ?_
              refine t_iaload dX11_eatsOne_110 (fun _ _ _ => rfl) (by omega) (by decide) ?_
              refine j_topE (e' := A 85 q) (by rw [eA_85]) ?_
              refine j_icmp_gt (tgt := 118) dX11_eatsOne_111 (by decide) (fun h111 => ?_) (fun h111 => ?_)
              · refine j_iload_n dX11_eatsOne_118 rfl rfl ?_
                refine j_istore_n (lv' := [some (.ref 76), some (.int _), some (.int _), some (.int _), some (.int _)]) dX11_eatsOne_119 rfl (by decide) rfl ?_
                refine jn_iinc (lv' := [some (.ref 76), some (.int _), some (.int _), some (.int _), some (.int _)]) dX11_eatsOne_120 rfl (by decide) rfl ?_
                refine j_goto (tgt := 56) dX11_eatsOne_123 (by decide) ?_
                refine j_sub ?_ (ih (i + 1) (by omega) (by omega))
                rw [nxt_a hcond hx h111]
                exact ⟨rfl, rfl, rfl, rfl, trivial⟩
              · refine j_iload_n dX11_eatsOne_114 rfl rfl ?_
                refine j_goto (tgt := 119) dX11_eatsOne_115 (by decide) ?_
                refine j_istore_n (lv' := [some (.ref 76), some (.int _), some (.int _), some (.int _), some (.int _)]) dX11_eatsOne_119 rfl (by decide) rfl ?_
                refine jn_iinc (lv' := [some (.ref 76), some (.int _), some (.int _), some (.int _), some (.int _)]) dX11_eatsOne_120 rfl (by decide) rfl ?_
                refine j_goto (tgt := 56) dX11_eatsOne_123 (by decide) ?_
                refine j_sub ?_ (ih (i + 1) (by omega) (by omega))
                rw [nxt_b hcond hx h111]
                exact ⟨rfl, rfl, rfl, rfl, trivial⟩

set_option maxHeartbeats 200000 in
set_option maxRecDepth 100000 in
theorem m_eatsOne (hw : ow (A 84)) : jMet (d + 2) yX11_eatsOne cX11_eatsOne 5 (some .boolean) 0 0 [.ref 76] (tw X A L) ((fun z w => z = some (.int (bz (nxE (A 84) (A 85)).isSome)) ∧ ∃ Z, w = tw X (eA A (stepE (A 84, A 85)).1 (stepE (A 84, A 85)).2 Z) L)) := by
  refine jMet_of (by decide) (Nat.le_of_ble_eq_true rfl) none (Or.inl rfl) ?_
  show jWP none RX11 cX11_eatsOne 5 (some .boolean) (d + 2) 0 0 0 [some (.ref 76), none, none, none, none] [] (tw X A L) ((fun z w => z = some (.int (bz (nxE (A 84) (A 85)).isSome)) ∧ ∃ Z, w = tw X (eA A (stepE (A 84, A 85)).1 (stepE (A 84, A 85)).2 Z) L))
  refine j_iconst (v := nI 0) dX11_eatsOne_0 rfl ?_
  refine j_istore_n (lv' := [some (.ref 76), some (.int _), none, none, none]) dX11_eatsOne_1 rfl (by decide) rfl ?_
  refine j_iconst (v := nI 0) dX11_eatsOne_2 rfl ?_
  refine j_istore_n (lv' := [some (.ref 76), some (.int _), some (.int _), none, none]) dX11_eatsOne_3 rfl (by decide) rfl ?_
  refine j_atw (congrArg (fun z => tw X z L) (show A = eA A (A 84) (A 85) (cpN (fun c => bz (slB (A 84) c)) (A 89) 0) from by rw [cpN_0, eA_self])) (l_eats1 hw ?_ 50 0 (by decide) (by decide))
  refine j_iconst (v := (-1)) dX11_eatsOne_52 rfl ?_
  refine j_istore_n (lv' := [some (.ref 76), some (.int _), some (.int _), none, none]) dX11_eatsOne_53 rfl (by decide) rfl ?_
  refine j_iconst (v := nI 0) dX11_eatsOne_54 rfl ?_
  refine j_istore_n (lv' := [some (.ref 76), some (.int _), some (.int _), some (.int _), none]) dX11_eatsOne_55 rfl (by decide) rfl ?_
  refine j_sub ?_ (l_eats2 hw ?_ 50 0 (by decide) (by decide))
  · exact ⟨rfl, congrArg (fun z => some (Value.int (bz z))) (opF_eq (A 84)), rfl, rfl, trivial⟩
  · cases hx : nxE (A 84) (A 85)
    · -- none
      refine j_iload_n dX11_eatsOne_126 rfl rfl ?_
      refine j_if_lt (tgt := 144) dX11_eatsOne_127 (by decide) (fun h127 => ?_) (fun h127 => absurd (show oM none < 0 from by decide) h127)
      refine j_iload_n dX11_eatsOne_144 rfl rfl ?_
      refine j_if_lt (tgt := 152) dX11_eatsOne_145 (by decide) (fun h145 => ?_) (fun h145 => absurd (show oM none < 0 from by decide) h145)
      refine j_iconst (v := nI 0) dX11_eatsOne_152 rfl ?_
      refine j_zreturn dX11_eatsOne_153 rfl (by decide) ?_
      refine ⟨rfl, cpN (fun c => bz (slB (A 84) c)) (A 89) 49, ?_⟩
      unfold stepE
      simp only [hx]
    · -- some
      rename_i q
      have hq : q < 49 := (nxE_held hx).1
      refine j_at (lv' := [some (.ref 76), some (.int _), some (.int (nI q)), some (.int (nI 49)), none]) rfl ?_
      refine j_iload_n dX11_eatsOne_126 rfl rfl ?_
      refine jn_if_lt (tgt := 144) dX11_eatsOne_127 (by decide) (by omega) ?_
      refine j_aload_n dX11_eatsOne_130 rfl rfl ?_
      refine t_getR (b := 84) dX11_eatsOne_131 jfl_X11_33 (fun _ _ _ => rfl) rfl ?_
      refine j_iload_n dX11_eatsOne_134 rfl rfl ?_
      refine j_iconst (v := (-1)) dX11_eatsOne_135 rfl ?_
      refine t_iastore dX11_eatsOne_136 (fun _ _ _ => rfl) (by omega) (by decide) ?_
      refine j_aload_n dX11_eatsOne_137 rfl rfl ?_
      refine t_getR (b := 85) dX11_eatsOne_138 jfl_X11_36 (fun _ _ _ => rfl) rfl ?_
      refine j_iload_n dX11_eatsOne_141 rfl rfl ?_
      refine j_iconst (v := nI 0) dX11_eatsOne_142 rfl ?_
      refine t_iastore dX11_eatsOne_143 (fun _ _ _ => rfl) (by omega) (by decide) ?_
      refine j_iload_n dX11_eatsOne_144 rfl rfl ?_
      refine jn_if_lt (tgt := 152) dX11_eatsOne_145 (by decide) (by omega) ?_
      refine j_iconst (v := nI 1) dX11_eatsOne_148 rfl ?_
      refine j_goto (tgt := 153) dX11_eatsOne_149 (by decide) ?_
      refine j_zreturn dX11_eatsOne_153 rfl (by decide) ?_
      refine ⟨rfl, cpN (fun c => bz (slB (A 84) c)) (A 89) 49, ?_⟩
      rw [eA_84, eA_p84, eA_85, eA_p85]
      unfold stepE
      simp only [hx]
      rfl

end CT47