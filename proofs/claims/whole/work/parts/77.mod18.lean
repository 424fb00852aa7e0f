/-- the law and the accounts by the reference -/
def mrul (td : Bool) (tm : Nat) (tx : Nat → Nat) (na : Nat) (v : Nat → Nat) (X A : Nat → Nat → Int32) : Prop := A 77 = nIf v ∧ tm ≤ 120 ∧ (∀ i, tx i < 256) ∧ X 76 15 = (if td = true then nI tm else -1) ∧ A 87 = nIf tx ∧ X 76 7 = nI na ∧ na ≤ 6 ∧ ∀ i, i < na → v i < 49
theorem mrul_c {td : Bool} {tm : Nat} {tx : Nat → Nat} {na : Nat} {v : Nat → Nat} {X A X' A' : Nat → Nat → Int32} (h : mrul td tm tx na v X A) (h1 : X' 76 15 = X 76 15) (h2 : X' 76 7 = X 76 7) (h3 : A' 77 = A 77) (h4 : A' 87 = A 87) : mrul td tm tx na v X' A' := by
  obtain ⟨g1, g2, g3, g4, g5, g6, g7, g8⟩ := h
  exact ⟨by rw [h3]; exact g1, g2, g3, by rw [h1]; exact g4, by rw [h4]; exact g5, by rw [h2]; exact g6, g7, g8⟩
theorem mrul_z {td : Bool} {tm : Nat} {tx : Nat → Nat} {na : Nat} {v : Nat → Nat} {X A : Nat → Nat → Int32} {y N : Nat → Int32} (h : mrul td tm tx na v X A) : mrul td tm tx na v (zX X y) (va_up A 88 N) :=
  mrul_c h (zX_n (by decide)) (zX_n (by decide)) (vu_n _ _ _ (by decide)) (vu_n _ _ _ (by decide))
theorem mrul_m {td : Bool} {tm : Nat} {tx : Nat → Nat} {na : Nat} {v : Nat → Nat} {X A : Nat → Nat → Int32} {O S : Nat → Int32} (h : mrul td tm tx na v X A) : mrul td tm tx na v X (mA A O S) :=
  mrul_c h rfl rfl (mA_n _ _ _ (by decide) (by decide)) (mA_n _ _ _ (by decide) (by decide))
theorem mrul_e {td : Bool} {tm : Nat} {tx : Nat → Nat} {na : Nat} {v : Nat → Nat} {X A : Nat → Nat → Int32} {O S Z : Nat → Int32} (h : mrul td tm tx na v X A) : mrul td tm tx na v X (eA A O S Z) :=
  mrul_c h rfl rfl (eA_n _ _ _ _ (by decide) (by decide) (by decide)) (eA_n _ _ _ _ (by decide) (by decide) (by decide))
theorem z88 {A : Nat → Nat → Int32} {N N' : Nat → Int32} : va_up (va_up A 88 N) 88 N' = va_up A 88 N' := vu_up _ _ _ _
theorem mA_88 {A : Nat → Nat → Int32} {O S N : Nat → Int32} : va_up (mA A O S) 88 N = mA (va_up A 88 N) O S := mA_vu _ _ _ _ (by decide) (by decide)
theorem seS_ow {Rk : (Nat → Int32) → Int32 → Int32 → Nat → Int32} {c : cS} {a s : Int32} (h : ow c.1) (ha : 0 ≤ a) : ow (seS Rk c a s).1 := by
  show ow (wrO (seP Rk c a s) c.1 a)
  unfold wrO
  split
  · exact h
  · exact ow_upd h (Or.inr ha)
section CT57
variable {d : Nat} {X A : Nat → Nat → Int32} {L : Nat → Nat → Int64} {w : jW} {tx v : Nat → Nat} {na tm : Nat} {td : Bool}

set_option maxHeartbeats 200000 in
set_option maxRecDepth 100000 in
theorem l_whereOf (hr : mrul td tm tx na v X A) (hw : ow (A 84)) {k : Nat} {s : Int32} (hk : k < na) : ∀ (m i : Nat) (y N : Nat → Int32), i ≤ 49 → 49 - i < m → jWP none RX11 cX11_whereOf 8 (some .int) (d + 52) 0 0 9 [some (.ref 76), some (.int (nI k)), some (.int s), some (.int (plP (plS (heldB (A 84)) ((RkM td tm tx v) (A 84) (nI k) s) i))), some (.int (plB (plS (heldB (A 84)) ((RkM td tm tx v) (A 84) (nI k) s) i))), some (.int (nI i)), none, none] [] (tw (zX X y) (va_up A 88 N) L) ((fun z w => z = some (.int (plP (plS (heldB (A 84)) ((RkM td tm tx v) (A 84) (nI k) s) 49))) ∧ ∃ y N : Nat → Int32, w = tw (zX X y) (va_up A 88 N) L)) := by
  intro m
  induction m with
  | zero => intro i y N h1 h2; omega
  | succ m ih =>
    intro i y N hi hm
    refine j_iload dX11_whereOf_9 rfl ?_
    refine j_bipush (v := nI 49) dX11_whereOf_11 rfl ?_
    refine jn_icmp_ge (tgt := 85) dX11_whereOf_13 (by decide) (by omega) (by omega) (fun h13 => ?_) (fun h13 => ?_)
    · refine j_iload_n dX11_whereOf_85 rfl rfl ?_
      refine j_ireturn dX11_whereOf_86 rfl ?_
      obtain rfl : i = 49 := by omega
      exact ⟨rfl, y, N, rfl⟩
    · refine j_aload_n dX11_whereOf_16 rfl rfl ?_
      refine j_iload dX11_whereOf_17 rfl ?_
      refine j_callVi [.int _] [] dX11_whereOf_19 jlk_X11_147 rfl rfl rfl rfl (Nat.le_of_ble_eq_true rfl) (m_holds (c := i) (show ow _ from by rw [vu_n _ _ _ (by decide)]; exact hw) (by omega)) ?_
      rw [vu_n _ _ _ (show (84 : Nat) ≠ 88 by decide)]
      refine j_if_ne (tgt := 79) dX11_whereOf_22 (by decide) (fun h22 => ?_) (fun h22 => ?_)
      · have h22 : heldB (A 84) i = true := by
          cases q : heldB (A 84) i with
          | true => rfl
          | false => rw [q] at h22; exact absurd rfl h22
        refine jn_iinc (lv' := [some (.ref 76), some (.int _), some (.int _), some (.int _), some (.int _), some (.int _), none, none]) dX11_whereOf_79 rfl (by decide) rfl ?_
        refine j_goto (tgt := 9) dX11_whereOf_82 (by decide) ?_
        refine j_sub ?_ (ih (i + 1) y N (by omega) (by omega))
        rw [plS_h h22]
        exact ⟨rfl, rfl, rfl, rfl, rfl, rfl, trivial⟩
      · have h22 : heldB (A 84) i = false := by
          cases q : heldB (A 84) i with
          | false => rfl
          | true => rw [q] at h22; exact absurd (show bz true = 0 from by first | exact h22 | simpa using h22) (by decide)
        refine j_aload_n dX11_whereOf_25 rfl rfl ?_
        refine j_iload_n dX11_whereOf_26 rfl rfl ?_
        refine j_iload_n dX11_whereOf_27 rfl rfl ?_
        refine j_iload dX11_whereOf_28 rfl ?_
        refine j_callV [.int _, .int _, .int _] [] dX11_whereOf_30 jlk_X11_208 rfl rfl rfl rfl (Nat.le_of_ble_eq_true rfl) (m_rankOf (X := zX X y) (A := va_up A 88 N) (by rw [vu_n _ _ _ (by decide)]; exact hw) (mrul_z (y := y) (N := N) hr).1 hr.2.1 hr.2.2.1 (mrul_z (y := y) (N := N) hr).2.2.2.1 (mrul_z (y := y) (N := N) hr).2.2.2.2.1 (by have := hr.2.2.2.2.2.2.1; omega) (hr.2.2.2.2.2.2.2 k hk) (by omega)) (fun r9 w9 h9 => ?_)
        obtain ⟨rfl, y9, N9, rfl⟩ := h9
        rw [vu_n _ _ _ (show (84 : Nat) ≠ 88 by decide), zX_zX, z88]
        refine j_ats (st' := [.int _]) rfl ?_
        refine j_istore (lv' := [some (.ref 76), some (.int _), some (.int _), some (.int _), some (.int _), some (.int _), some (.int _), none]) dX11_whereOf_33 (by decide) rfl ?_
        refine j_iload_n dX11_whereOf_35 rfl rfl ?_
        refine j_if_lt (tgt := 46) dX11_whereOf_36 (by decide) (fun h36 => ?_) (fun h36 => ?_)
        · refine j_iconst (v := nI 1) dX11_whereOf_46 rfl ?_
          refine j_goto (tgt := 51) dX11_whereOf_47 (by decide) ?_
          refine j_istore (lv' := [some (.ref 76), some (.int _), some (.int _), some (.int _), some (.int _), some (.int _), some (.int _), some (.int _)]) dX11_whereOf_51 (by decide) rfl ?_
          refine j_iload dX11_whereOf_53 rfl ?_
          refine j_if_eq (tgt := 63) dX11_whereOf_55 (by decide) (fun h => absurd h (by decide)) (fun _ => ?_)
          refine j_iload dX11_whereOf_58 rfl ?_
          refine j_goto (tgt := 64) dX11_whereOf_60 (by decide) ?_
          refine j_istore_n (lv' := [some (.ref 76), some (.int _), some (.int _), some (.int _), some (.int _), some (.int _), some (.int _), some (.int _)]) dX11_whereOf_64 rfl (by decide) rfl ?_
          refine j_iload dX11_whereOf_65 rfl ?_
          refine j_if_eq (tgt := 75) dX11_whereOf_67 (by decide) (fun h => absurd h (by decide)) (fun _ => ?_)
          refine j_iload dX11_whereOf_70 rfl ?_
          refine j_goto (tgt := 77) dX11_whereOf_72 (by decide) ?_
          refine j_istore (lv' := [some (.ref 76), some (.int _), some (.int _), some (.int _), some (.int _), some (.int _), some (.int _), some (.int _)]) dX11_whereOf_77 (by decide) rfl ?_
          refine jn_iinc (lv' := [some (.ref 76), some (.int _), some (.int _), some (.int _), some (.int _), some (.int _), some (.int _), some (.int _)]) dX11_whereOf_79 rfl (by decide) rfl ?_
          refine j_goto (tgt := 9) dX11_whereOf_82 (by decide) ?_
          refine j_sub ?_ (ih (i + 1) y9 N9 (by omega) (by omega))
          rw [plS_a (by omega) h22 h36]
          exact ⟨rfl, rfl, rfl, rfl, rfl, rfl, trivial⟩
        · refine j_iload dX11_whereOf_39 rfl ?_
          refine j_iload dX11_whereOf_41 rfl ?_
          refine j_icmp_le (tgt := 50) dX11_whereOf_43 (by decide) (fun h43 => ?_) (fun h43 => ?_)
          · refine j_iconst (v := nI 0) dX11_whereOf_50 rfl ?_
            refine j_istore (lv' := [some (.ref 76), some (.int _), some (.int _), some (.int _), some (.int _), some (.int _), some (.int _), some (.int _)]) dX11_whereOf_51 (by decide) rfl ?_
            refine j_iload dX11_whereOf_53 rfl ?_
            refine j_if_eq (tgt := 63) dX11_whereOf_55 (by decide) (fun _ => ?_) (fun h => absurd (by decide) h)
            refine j_iload_n dX11_whereOf_63 rfl rfl ?_
            refine j_istore_n (lv' := [some (.ref 76), some (.int _), some (.int _), some (.int _), some (.int _), some (.int _), some (.int _), some (.int _)]) dX11_whereOf_64 rfl (by decide) rfl ?_
            refine j_iload dX11_whereOf_65 rfl ?_
            refine j_if_eq (tgt := 75) dX11_whereOf_67 (by decide) (fun _ => ?_) (fun h => absurd (by decide) h)
            refine j_iload dX11_whereOf_75 rfl ?_
            refine j_istore (lv' := [some (.ref 76), some (.int _), some (.int _), some (.int _), some (.int _), some (.int _), some (.int _), some (.int _)]) dX11_whereOf_77 (by decide) rfl ?_
            refine jn_iinc (lv' := [some (.ref 76), some (.int _), some (.int _), some (.int _), some (.int _), some (.int _), some (.int _), some (.int _)]) dX11_whereOf_79 rfl (by decide) rfl ?_
            refine j_goto (tgt := 9) dX11_whereOf_82 (by decide) ?_
            refine j_sub ?_ (ih (i + 1) y9 N9 (by omega) (by omega))
            rw [plS_b h22 h36 h43]
            exact ⟨rfl, rfl, rfl, rfl, rfl, rfl, trivial⟩
          · refine j_iconst (v := nI 1) dX11_whereOf_46 rfl ?_
            refine j_goto (tgt := 51) dX11_whereOf_47 (by decide) ?_
            refine j_istore (lv' := [some (.ref 76), some (.int _), some (.int _), some (.int _), some (.int _), some (.int _), some (.int _), some (.int _)]) dX11_whereOf_51 (by decide) rfl ?_
            refine j_iload dX11_whereOf_53 rfl ?_
            refine j_if_eq (tgt := 63) dX11_whereOf_55 (by decide) (fun h => absurd h (by decide)) (fun _ => ?_)
            refine j_iload dX11_whereOf_58 rfl ?_
            refine j_goto (tgt := 64) dX11_whereOf_60 (by decide) ?_
            refine j_istore_n (lv' := [some (.ref 76), some (.int _), some (.int _), some (.int _), some (.int _), some (.int _), some (.int _), some (.int _)]) dX11_whereOf_64 rfl (by decide) rfl ?_
            refine j_iload dX11_whereOf_65 rfl ?_
            refine j_if_eq (tgt := 75) dX11_whereOf_67 (by decide) (fun h => absurd h (by decide)) (fun _ => ?_)
            refine j_iload dX11_whereOf_70 rfl ?_
            refine j_goto (tgt := 77) dX11_whereOf_72 (by decide) ?_
            refine j_istore (lv' := [some (.ref 76), some (.int _), some (.int _), some (.int _), some (.int _), some (.int _), some (.int _), some (.int _)]) dX11_whereOf_77 (by decide) rfl ?_
            refine jn_iinc (lv' := [some (.ref 76), some (.int _), some (.int _), some (.int _), some (.int _), some (.int _), some (.int _), some (.int _)]) dX11_whereOf_79 rfl (by decide) rfl ?_
            refine j_goto (tgt := 9) dX11_whereOf_82 (by decide) ?_
            refine j_sub ?_ (ih (i + 1) y9 N9 (by omega) (by omega))
            rw [plS_c h22 h36 h43]
            exact ⟨rfl, rfl, rfl, rfl, rfl, rfl, trivial⟩

set_option maxHeartbeats 200000 in
set_option maxRecDepth 100000 in
theorem m_whereOf (hr : mrul td tm tx na v X A) (hw : ow (A 84)) {k : Nat} {s : Int32} (hk : k < na) : jMet (d + 52) yX11_whereOf cX11_whereOf 8 (some .int) 0 0 [.ref 76, .int (nI k), .int s] (tw X A L) ((fun z w => z = some (.int (plP (plS (heldB (A 84)) ((RkM td tm tx v) (A 84) (nI k) s) 49))) ∧ ∃ y N : Nat → Int32, w = tw (zX X y) (va_up A 88 N) L)) := by
  refine jMet_of (by decide) (Nat.le_of_ble_eq_true rfl) none (Or.inl rfl) ?_
  show jWP none RX11 cX11_whereOf 8 (some .int) (d + 52) 0 0 0 [some (.ref 76), some (.int (nI k)), some (.int s), none, none, none, none, none] [] (tw X A L) ((fun z w => z = some (.int (plP (plS (heldB (A 84)) ((RkM td tm tx v) (A 84) (nI k) s) 49))) ∧ ∃ y N : Nat → Int32, w = tw (zX X y) (va_up A 88 N) L))
  refine j_bipush (v := (-2)) dX11_whereOf_0 rfl ?_
  refine j_istore_n (lv' := [some (.ref 76), some (.int _), some (.int _), some (.int _), none, none, none, none]) dX11_whereOf_2 rfl (by decide) rfl ?_
  refine j_iconst (v := nI 0) dX11_whereOf_3 rfl ?_
  refine j_istore (lv' := [some (.ref 76), some (.int _), some (.int _), some (.int _), some (.int _), none, none, none]) dX11_whereOf_4 (by decide) rfl ?_
  refine j_iconst (v := nI 0) dX11_whereOf_6 rfl ?_
  refine j_istore (lv' := [some (.ref 76), some (.int _), some (.int _), some (.int _), some (.int _), some (.int _), none, none]) dX11_whereOf_7 (by decide) rfl ?_
  refine j_atw (tw_eq zX_self.symm (vu_self _ _).symm rfl) (l_whereOf hr hw hk 50 0 (X 76) (A 88) (by decide) (by decide))

set_option maxHeartbeats 200000 in
set_option maxRecDepth 100000 in
theorem m_sells (hr : mrul td tm tx na v X A) (hw : ow (A 84)) {k : Nat} {s : Int32} (hk : k < na) : jMet (d + 53) yX11_sells cX11_sells 4 (some .int) 0 0 [.ref 76, .int (nI k), .int s] (tw X A L) ((fun z w => z = some (.int (plP (seP (RkM td tm tx v) (A 84, A 85) (nI k) s))) ∧ ∃ y N : Nat → Int32, w = tw (zX X y) (mA (va_up A 88 N) (seS (RkM td tm tx v) (A 84, A 85) (nI k) s).1 (seS (RkM td tm tx v) (A 84, A 85) (nI k) s).2) L)) := by
  refine jMet_of (by decide) (Nat.le_of_ble_eq_true rfl) none (Or.inl rfl) ?_
  show jWP none RX11 cX11_sells 4 (some .int) (d + 53) 0 0 0 [some (.ref 76), some (.int (nI k)), some (.int s), none] [] (tw X A L) ((fun z w => z = some (.int (plP (seP (RkM td tm tx v) (A 84, A 85) (nI k) s))) ∧ ∃ y N : Nat → Int32, w = tw (zX X y) (mA (va_up A 88 N) (seS (RkM td tm tx v) (A 84, A 85) (nI k) s).1 (seS (RkM td tm tx v) (A 84, A 85) (nI k) s).2) L))
  refine j_aload_n dX11_sells_0 rfl rfl ?_
  refine j_iload_n dX11_sells_1 rfl rfl ?_
  refine j_iload_n dX11_sells_2 rfl rfl ?_
  refine j_callV [.int _, .int _] [] dX11_sells_3 jlk_X11_212 rfl rfl rfl rfl (Nat.le_of_ble_eq_true rfl) (m_whereOf hr hw hk) (fun r9 w9 h9 => ?_)
  obtain ⟨rfl, y9, N9, rfl⟩ := h9
  refine j_ats (st' := [.int (plP (seP (RkM td tm tx v) (A 84, A 85) (nI k) s))]) rfl ?_
  refine j_ats (st' := [.int _]) rfl ?_
  refine j_istore_n (lv' := [some (.ref 76), some (.int _), some (.int _), some (.int _)]) dX11_sells_6 rfl (by decide) rfl ?_
  cases hP : (seP (RkM td tm tx v) (A 84, A 85) (nI k) s)
  · -- none
    refine j_iload_n dX11_sells_7 rfl rfl ?_
    refine j_if_lt (tgt := 25) dX11_sells_8 (by decide) (fun h8 => ?_) (fun h8 => absurd (show plP none < 0 from by decide) h8)
    refine j_iload_n dX11_sells_25 rfl rfl ?_
    refine j_ireturn dX11_sells_26 rfl ?_
    refine ⟨rfl, y9, N9, tw_eq rfl ?_ rfl⟩
    have e : (seS (RkM td tm tx v) (A 84, A 85) (nI k) s) = (A 84, A 85) := by unfold seS; rw [hP]; rfl
    rw [e]
    have q := mA_self (va_up A 88 N9)
    rw [vu_n _ _ _ (show (84 : Nat) ≠ 88 by decide), vu_n _ _ _ (show (85 : Nat) ≠ 88 by decide)] at q
    exact q.symm
  · -- some
    rename_i q
    have hq : q.1 < 49 := seP_lt hP
    refine j_at (lv' := [some (.ref 76), some (.int _), some (.int _), some (.int (nI q.1))]) rfl ?_
    refine j_iload_n dX11_sells_7 rfl rfl ?_
    refine jn_if_lt (tgt := 25) dX11_sells_8 (by decide) (by omega) ?_
    refine j_aload_n dX11_sells_11 rfl rfl ?_
    refine t_getR (b := 84) dX11_sells_12 jfl_X11_33 (fun _ _ _ => rfl) rfl ?_
    refine j_iload_n dX11_sells_15 rfl rfl ?_
    refine j_iload_n dX11_sells_16 rfl rfl ?_
    refine t_iastore dX11_sells_17 (fun _ _ _ => rfl) (by omega) (by decide) ?_
    refine j_aload_n dX11_sells_18 rfl rfl ?_
    refine t_getR (b := 85) dX11_sells_19 jfl_X11_36 (fun _ _ _ => rfl) rfl ?_
    refine j_iload_n dX11_sells_22 rfl rfl ?_
    refine j_iload_n dX11_sells_23 rfl rfl ?_
    refine t_iastore dX11_sells_24 (fun _ _ _ => rfl) (by omega) (by decide) ?_
    refine j_iload_n dX11_sells_25 rfl rfl ?_
    refine j_ireturn dX11_sells_26 rfl ?_
    refine ⟨rfl, y9, N9, tw_eq rfl ?_ rfl⟩
    have e : (seS (RkM td tm tx v) (A 84, A 85) (nI k) s) = (upd (A 84) q.1 (nI k), upd (A 85) q.1 s) := by unfold seS; rw [hP]; rfl
    rw [e, vu_n _ _ _ (show (84 : Nat) ≠ 88 by decide), vu_n _ _ _ (show (85 : Nat) ≠ 84 by decide), vu_n _ _ _ (show (85 : Nat) ≠ 88 by decide)]
    rfl

set_option maxHeartbeats 200000 in
set_option maxRecDepth 100000 in
theorem m_isAs_neg {c : Int32} (h : c < 0) : jMet (d + 2) yX11_isAs cX11_isAs 2 (some .boolean) 0 0 [.ref 76, .int c] (tw X A L) (jRi (nI 0) (tw X A L)) := by
  refine jMet_of (by decide) (Nat.le_of_ble_eq_true rfl) none (Or.inl rfl) ?_
  show jWP none RX11 cX11_isAs 2 (some .boolean) (d + 2) 0 0 0 [some (.ref 76), some (.int c)] [] (tw X A L) (jRi (nI 0) (tw X A L))
  refine j_iload_n dX11_isAs_0 rfl rfl ?_
  refine j_if_lt (tgt := 31) dX11_isAs_1 (by decide) (fun h1 => ?_) (fun h1 => absurd h h1)
  refine j_iconst (v := nI 0) dX11_isAs_31 rfl ?_
  refine j_zreturn dX11_isAs_32 rfl (by decide) ?_
  exact ⟨rfl, rfl⟩

set_option maxHeartbeats 200000 in
set_option maxRecDepth 100000 in
theorem m_isAs (hn : X 76 7 = nI na) (h6 : na ≤ 6) {k : Nat} (hk : k < 2 ^ 31) : jMet (d + 2) yX11_isAs cX11_isAs 2 (some .boolean) 0 0 [.ref 76, .int (nI k)] (tw X A L) (jRi (bz (slA na (nI (k / 10)) (nI (k % 10)))) (tw X A L)) := by
  refine jMet_of (by decide) (Nat.le_of_ble_eq_true rfl) none (Or.inl rfl) ?_
  show jWP none RX11 cX11_isAs 2 (some .boolean) (d + 2) 0 0 0 [some (.ref 76), some (.int (nI k))] [] (tw X A L) (jRi (bz (slA na (nI (k / 10)) (nI (k % 10)))) (tw X A L))
  refine j_iload_n dX11_isAs_0 rfl rfl ?_
  refine jn_if_lt (tgt := 31) dX11_isAs_1 (by decide) hk ?_
  refine j_aload_n dX11_isAs_4 rfl rfl ?_
  refine j_iload_n dX11_isAs_5 rfl rfl ?_
  refine j_bipush (v := nI 10) dX11_isAs_6 rfl ?_
  refine jn_idiv dX11_isAs_8 hk (by decide) (by decide) ?_
  refine j_i2l dX11_isAs_9 ?_
  refine j_callVi [.long _] [] dX11_isAs_10 jlk_X11_128 rfl rfl rfl rfl (Nat.le_of_ble_eq_true rfl) (m_isAccount hn h6) ?_
  refine j_if_eq (tgt := 31) dX11_isAs_13 (by decide) (fun h13 => ?_) (fun h13 => ?_)
  · refine j_iconst (v := nI 0) dX11_isAs_31 rfl ?_
    refine j_zreturn dX11_isAs_32 rfl (by decide) ?_
    exact ⟨by simp [slA, bz, h13], rfl⟩
  · refine j_iload_n dX11_isAs_16 rfl rfl ?_
    refine j_bipush (v := nI 10) dX11_isAs_17 rfl ?_
    refine jn_irem dX11_isAs_19 hk (by decide) (by decide) ?_
    refine j_i2l dX11_isAs_20 ?_
    refine j_callSi [.long _] [] dX11_isAs_21 jlk_X11_215 rfl rfl (Nat.le_of_ble_eq_true rfl) (m_isSum) ?_
    refine j_if_eq (tgt := 31) dX11_isAs_24 (by decide) (fun h24 => ?_) (fun h24 => ?_)
    · refine j_iconst (v := nI 0) dX11_isAs_31 rfl ?_
      refine j_zreturn dX11_isAs_32 rfl (by decide) ?_
      exact ⟨by simp [slA, bz, h13, h24], rfl⟩
    · refine j_iconst (v := nI 1) dX11_isAs_27 rfl ?_
      refine j_goto (tgt := 32) dX11_isAs_28 (by decide) ?_
      refine j_zreturn dX11_isAs_32 rfl (by decide) ?_
      exact ⟨by simp [slA, bz, h13, h24], rfl⟩

theorem m_isAs_b (hn : X 76 7 = nI na) (h6 : na ≤ 6) {k : Nat} (hk : k < 2 ^ 31) {b : Bool} (h : slA na (nI (k / 10)) (nI (k % 10)) = b) : jMet (d + 2) yX11_isAs cX11_isAs 2 (some .boolean) 0 0 [.ref 76, .int (nI k)] (tw X A L) (jRi (bz b) (tw X A L)) := h ▸ m_isAs hn h6 hk

set_option maxHeartbeats 200000 in
set_option maxRecDepth 100000 in
theorem m_where_neg {c : Int32} (h : c < 0) : jMet (d + 53) yX11_where cX11_where 2 (some .int) 0 0 [.ref 76, .int c] (tw X A L) (jRi (-1) (tw X A L)) := by
  refine jMet_of (by decide) (Nat.le_of_ble_eq_true rfl) none (Or.inl rfl) ?_
  show jWP none RX11 cX11_where 2 (some .int) (d + 53) 0 0 0 [some (.ref 76), some (.int c)] [] (tw X A L) (jRi (-1) (tw X A L))
  refine j_aload_n dX11_where_0 rfl rfl ?_
  refine j_iload_n dX11_where_1 rfl rfl ?_
  refine j_callVi [.int _] [] dX11_where_2 jlk_X11_218 rfl rfl rfl rfl (Nat.le_of_ble_eq_true rfl) (m_isAs_neg h) ?_
  refine j_if_ne (tgt := 10) dX11_where_5 (by decide) (fun h => absurd (by decide) h) (fun _ => ?_)
  refine j_iconst (v := (-1)) dX11_where_8 rfl ?_
  refine j_ireturn dX11_where_9 rfl ?_
  exact ⟨rfl, rfl⟩

set_option maxHeartbeats 200000 in
set_option maxRecDepth 100000 in
theorem m_where_no (hr : mrul td tm tx na v X A) {k : Nat} (hk : k < 2 ^ 31) (h : (slA na (nI (k / 10)) (nI (k % 10))) = false) : jMet (d + 53) yX11_where cX11_where 2 (some .int) 0 0 [.ref 76, .int (nI k)] (tw X A L) (jRi (-1) (tw X A L)) := by
  refine jMet_of (by decide) (Nat.le_of_ble_eq_true rfl) none (Or.inl rfl) ?_
  show jWP none RX11 cX11_where 2 (some .int) (d + 53) 0 0 0 [some (.ref 76), some (.int (nI k))] [] (tw X A L) (jRi (-1) (tw X A L))
  refine j_aload_n dX11_where_0 rfl rfl ?_
  refine j_iload_n dX11_where_1 rfl rfl ?_
  refine j_callVi [.int _] [] dX11_where_2 jlk_X11_218 rfl rfl rfl rfl (Nat.le_of_ble_eq_true rfl) (m_isAs_b hr.2.2.2.2.2.1 hr.2.2.2.2.2.2.1 hk h) ?_
  refine j_if_ne (tgt := 10) dX11_where_5 (by decide) (fun h => absurd (by decide) h) (fun _ => ?_)
  refine j_iconst (v := (-1)) dX11_where_8 rfl ?_
  refine j_ireturn dX11_where_9 rfl ?_
  exact ⟨rfl, rfl⟩

set_option maxHeartbeats 200000 in
set_option maxRecDepth 100000 in
theorem m_where (hr : mrul td tm tx na v X A) (z1 : zb 49 (A 82)) (z2 : zb 49 (A 83)) (z3 : zb 49 (A 84)) (z4 : zb 49 (A 85)) (hw : ow (A 82)) {k : Nat} (hk : k < 2 ^ 31) (h : (slA na (nI (k / 10)) (nI (k % 10))) = true) : jMet (d + 53) yX11_where cX11_where 2 (some .int) 0 0 [.ref 76, .int (nI k)] (tw X A L) ((fun z w => z = some (.int (plP (seP (RkM td tm tx v) (A 82, A 83) (nI (k / 10)) (nI (k % 10))))) ∧ ∃ y N : Nat → Int32, w = tw (zX X y) (mA (va_up A 88 N) (A 82) (A 83)) L)) := by
  refine jMet_of (by decide) (Nat.le_of_ble_eq_true rfl) none (Or.inl rfl) ?_
  show jWP none RX11 cX11_where 2 (some .int) (d + 53) 0 0 0 [some (.ref 76), some (.int (nI k))] [] (tw X A L) ((fun z w => z = some (.int (plP (seP (RkM td tm tx v) (A 82, A 83) (nI (k / 10)) (nI (k % 10))))) ∧ ∃ y N : Nat → Int32, w = tw (zX X y) (mA (va_up A 88 N) (A 82) (A 83)) L))
  have hj := slA_k hr.2.2.2.2.2.2.1 hk h
  refine j_aload_n dX11_where_0 rfl rfl ?_
  refine j_iload_n dX11_where_1 rfl rfl ?_
  refine j_callVi [.int _] [] dX11_where_2 jlk_X11_218 rfl rfl rfl rfl (Nat.le_of_ble_eq_true rfl) (m_isAs_b hr.2.2.2.2.2.1 hr.2.2.2.2.2.2.1 hk h) ?_
  refine j_if_ne (tgt := 10) dX11_where_5 (by decide) (fun _ => ?_) (fun h => absurd h (by decide))
  refine j_aload_n dX11_where_10 rfl rfl ?_
  refine j_callVv [] [] dX11_where_11 jlk_X11_140 rfl rfl rfl rfl (Nat.le_of_ble_eq_true rfl) (m_begins1 z1 z2 z3 z4) ?_
  refine j_aload_n dX11_where_14 rfl rfl ?_
  refine j_iload_n dX11_where_15 rfl rfl ?_
  refine j_bipush (v := nI 10) dX11_where_16 rfl ?_
  refine jn_idiv dX11_where_18 hk (by decide) (by decide) ?_
  refine j_iload_n dX11_where_19 rfl rfl ?_
  refine j_bipush (v := nI 10) dX11_where_20 rfl ?_
  refine jn_irem dX11_where_22 hk (by decide) (by decide) ?_
  refine j_callV [.int _, .int _] [] dX11_where_23 jlk_X11_212 rfl rfl rfl rfl (Nat.le_of_ble_eq_true rfl) (m_whereOf (mrul_m hr) (by rw [mA_84]; exact hw) hj) (fun r9 w9 h9 => ?_)
  obtain ⟨rfl, y9, N9, rfl⟩ := h9
  rw [mA_84, mA_88]
  refine j_ats (st' := [.int _]) rfl ?_
  refine j_ireturn dX11_where_26 rfl ?_
  exact ⟨rfl, y9, N9, rfl⟩

set_option maxHeartbeats 200000 in
set_option maxRecDepth 100000 in
theorem m_sale_neg {c : Int32} (h : c < 0) : jMet (d + 54) yX11_sale cX11_sale 3 (some .int) 0 0 [.ref 76, .int c] (tw X A L) (jRi (-1) (tw X A L)) := by
  refine jMet_of (by decide) (Nat.le_of_ble_eq_true rfl) none (Or.inl rfl) ?_
  show jWP none RX11 cX11_sale 3 (some .int) (d + 54) 0 0 0 [some (.ref 76), some (.int c), none] [] (tw X A L) (jRi (-1) (tw X A L))
  refine j_aload_n dX11_sale_0 rfl rfl ?_
  refine j_iload_n dX11_sale_1 rfl rfl ?_
  refine j_callVi [.int _] [] dX11_sale_2 jlk_X11_218 rfl rfl rfl rfl (Nat.le_of_ble_eq_true rfl) (m_isAs_neg h) ?_
  refine j_if_ne (tgt := 10) dX11_sale_5 (by decide) (fun h => absurd (by decide) h) (fun _ => ?_)
  refine j_iconst (v := (-1)) dX11_sale_8 rfl ?_
  refine j_ireturn dX11_sale_9 rfl ?_
  exact ⟨rfl, rfl⟩

set_option maxHeartbeats 200000 in
set_option maxRecDepth 100000 in
theorem m_sale_no (hr : mrul td tm tx na v X A) {k : Nat} (hk : k < 2 ^ 31) (h : (slA na (nI (k / 10)) (nI (k % 10))) = false) : jMet (d + 54) yX11_sale cX11_sale 3 (some .int) 0 0 [.ref 76, .int (nI k)] (tw X A L) (jRi (-1) (tw X A L)) := by
  refine jMet_of (by decide) (Nat.le_of_ble_eq_true rfl) none (Or.inl rfl) ?_
  show jWP none RX11 cX11_sale 3 (some .int) (d + 54) 0 0 0 [some (.ref 76), some (.int (nI k)), none] [] (tw X A L) (jRi (-1) (tw X A L))
  refine j_aload_n dX11_sale_0 rfl rfl ?_
  refine j_iload_n dX11_sale_1 rfl rfl ?_
  refine j_callVi [.int _] [] dX11_sale_2 jlk_X11_218 rfl rfl rfl rfl (Nat.le_of_ble_eq_true rfl) (m_isAs_b hr.2.2.2.2.2.1 hr.2.2.2.2.2.2.1 hk h) ?_
  refine j_if_ne (tgt := 10) dX11_sale_5 (by decide) (fun h => absurd (by decide) h) (fun _ => ?_)
  refine j_iconst (v := (-1)) dX11_sale_8 rfl ?_
  refine j_ireturn dX11_sale_9 rfl ?_
  exact ⟨rfl, rfl⟩

set_option maxHeartbeats 200000 in
set_option maxRecDepth 100000 in
theorem m_sale_full (hr : mrul td tm tx na v X A) (z1 : zb 49 (A 82)) (z2 : zb 49 (A 83)) (z3 : zb 49 (A 84)) (z4 : zb 49 (A 85)) (hw : ow (A 82)) {k : Nat} (hk : k < 2 ^ 31) (h : (slA na (nI (k / 10)) (nI (k % 10))) = true) (hP : (seP (RkM td tm tx v) (A 82, A 83) (nI (k / 10)) (nI (k % 10))) = none) : jMet (d + 54) yX11_sale cX11_sale 3 (some .int) 0 0 [.ref 76, .int (nI k)] (tw X A L) ((fun z w => z = some (.int (-3)) ∧ ∃ y N : Nat → Int32, w = tw (zX X y) (mA (va_up A 88 N) (A 82) (A 83)) L)) := by
  refine jMet_of (by decide) (Nat.le_of_ble_eq_true rfl) none (Or.inl rfl) ?_
  show jWP none RX11 cX11_sale 3 (some .int) (d + 54) 0 0 0 [some (.ref 76), some (.int (nI k)), none] [] (tw X A L) ((fun z w => z = some (.int (-3)) ∧ ∃ y N : Nat → Int32, w = tw (zX X y) (mA (va_up A 88 N) (A 82) (A 83)) L))
  have hj := slA_k hr.2.2.2.2.2.2.1 hk h
  refine j_aload_n dX11_sale_0 rfl rfl ?_
  refine j_iload_n dX11_sale_1 rfl rfl ?_
  refine j_callVi [.int _] [] dX11_sale_2 jlk_X11_218 rfl rfl rfl rfl (Nat.le_of_ble_eq_true rfl) (m_isAs_b hr.2.2.2.2.2.1 hr.2.2.2.2.2.2.1 hk h) ?_
  refine j_if_ne (tgt := 10) dX11_sale_5 (by decide) (fun _ => ?_) (fun h => absurd h (by decide))
  refine j_aload_n dX11_sale_10 rfl rfl ?_
  refine j_callVv [] [] dX11_sale_11 jlk_X11_140 rfl rfl rfl rfl (Nat.le_of_ble_eq_true rfl) (m_begins1 z1 z2 z3 z4) ?_
  refine j_aload_n dX11_sale_14 rfl rfl ?_
  refine j_iload_n dX11_sale_15 rfl rfl ?_
  refine j_bipush (v := nI 10) dX11_sale_16 rfl ?_
  refine jn_idiv dX11_sale_18 hk (by decide) (by decide) ?_
  refine j_iload_n dX11_sale_19 rfl rfl ?_
  refine j_bipush (v := nI 10) dX11_sale_20 rfl ?_
  refine jn_irem dX11_sale_22 hk (by decide) (by decide) ?_
  refine j_callV [.int _, .int _] [] dX11_sale_23 jlk_X11_225 rfl rfl rfl rfl (Nat.le_of_ble_eq_true rfl) (m_sells (mrul_m hr) (by rw [mA_84]; exact hw) hj) (fun r9 w9 h9 => ?_)
  obtain ⟨rfl, y9, N9, rfl⟩ := h9
  rw [mA_84, mA_85, mA_88, mA_mA]
  refine j_ats (st' := [.int _]) rfl ?_
  refine j_istore_n (lv' := [some (.ref 76), some (.int _), some (.int _)]) dX11_sale_26 rfl (by decide) rfl ?_
  refine j_iload_n dX11_sale_27 rfl rfl ?_
  refine j_if_ge (tgt := 34) dX11_sale_28 (by decide) (fun h28 => absurd h28 (by rw [hP]; decide)) (fun h28 => ?_)
  refine j_bipush (v := (-3)) dX11_sale_31 rfl ?_
  refine j_ireturn dX11_sale_33 rfl ?_
  refine ⟨rfl, y9, N9, ?_⟩
  have e : (seS (RkM td tm tx v) (A 82, A 83) (nI (k / 10)) (nI (k % 10))) = (A 82, A 83) := by unfold seS; rw [hP]; rfl
  rw [e]

set_option maxHeartbeats 200000 in
set_option maxRecDepth 100000 in
theorem m_sale (hr : mrul td tm tx na v X A) (z1 : zb 49 (A 82)) (z2 : zb 49 (A 83)) (z3 : zb 49 (A 84)) (z4 : zb 49 (A 85)) (hw : ow (A 82)) {k : Nat} (hk : k < 2 ^ 31) (h : (slA na (nI (k / 10)) (nI (k % 10))) = true) {q : Nat × Int32} (hP : (seP (RkM td tm tx v) (A 82, A 83) (nI (k / 10)) (nI (k % 10))) = some q) : jMet (d + 54) yX11_sale cX11_sale 3 (some .int) 0 0 [.ref 76, .int (nI k)] (tw X A L) ((fun z w => z = some (.int (nI q.1)) ∧ ∃ y N : Nat → Int32, w = tw (zX X y) (va_up (lA (mA (va_up A 88 N) (seS (RkM td tm tx v) (A 82, A 83) (nI (k / 10)) (nI (k % 10))).1 (seS (RkM td tm tx v) (A 82, A 83) (nI (k / 10)) (nI (k % 10))).2) (seS (RkM td tm tx v) (A 82, A 83) (nI (k / 10)) (nI (k % 10))).1 (seS (RkM td tm tx v) (A 82, A 83) (nI (k / 10)) (nI (k % 10))).2) 94 (upd (upd (A 94) 0 (A 94 0 + nI 1)) 1 (A 94 1 + nI (k % 10)))) L)) := by
  refine jMet_of (by decide) (Nat.le_of_ble_eq_true rfl) none (Or.inl rfl) ?_
  show jWP none RX11 cX11_sale 3 (some .int) (d + 54) 0 0 0 [some (.ref 76), some (.int (nI k)), none] [] (tw X A L) ((fun z w => z = some (.int (nI q.1)) ∧ ∃ y N : Nat → Int32, w = tw (zX X y) (va_up (lA (mA (va_up A 88 N) (seS (RkM td tm tx v) (A 82, A 83) (nI (k / 10)) (nI (k % 10))).1 (seS (RkM td tm tx v) (A 82, A 83) (nI (k / 10)) (nI (k % 10))).2) (seS (RkM td tm tx v) (A 82, A 83) (nI (k / 10)) (nI (k % 10))).1 (seS (RkM td tm tx v) (A 82, A 83) (nI (k / 10)) (nI (k % 10))).2) 94 (upd (upd (A 94) 0 (A 94 0 + nI 1)) 1 (A 94 1 + nI (k % 10)))) L))
  have hj := slA_k hr.2.2.2.2.2.2.1 hk h
  refine j_aload_n dX11_sale_0 rfl rfl ?_
  refine j_iload_n dX11_sale_1 rfl rfl ?_
  refine j_callVi [.int _] [] dX11_sale_2 jlk_X11_218 rfl rfl rfl rfl (Nat.le_of_ble_eq_true rfl) (m_isAs_b hr.2.2.2.2.2.1 hr.2.2.2.2.2.2.1 hk h) ?_
  refine j_if_ne (tgt := 10) dX11_sale_5 (by decide) (fun _ => ?_) (fun h => absurd h (by decide))
  refine j_aload_n dX11_sale_10 rfl rfl ?_
  refine j_callVv [] [] dX11_sale_11 jlk_X11_140 rfl rfl rfl rfl (Nat.le_of_ble_eq_true rfl) (m_begins1 z1 z2 z3 z4) ?_
  refine j_aload_n dX11_sale_14 rfl rfl ?_
  refine j_iload_n dX11_sale_15 rfl rfl ?_
  refine j_bipush (v := nI 10) dX11_sale_16 rfl ?_
  refine jn_idiv dX11_sale_18 hk (by decide) (by decide) ?_
  refine j_iload_n dX11_sale_19 rfl rfl ?_
  refine j_bipush (v := nI 10) dX11_sale_20 rfl ?_
  refine jn_irem dX11_sale_22 hk (by decide) (by decide) ?_
  refine j_callV [.int _, .int _] [] dX11_sale_23 jlk_X11_225 rfl rfl rfl rfl (Nat.le_of_ble_eq_true rfl) (m_sells (mrul_m hr) (by rw [mA_84]; exact hw) hj) (fun r9 w9 h9 => ?_)
  obtain ⟨rfl, y9, N9, rfl⟩ := h9
  rw [mA_84, mA_85, mA_88, mA_mA]
  refine j_ats (st' := [.int _]) rfl ?_
  refine j_istore_n (lv' := [some (.ref 76), some (.int _), some (.int _)]) dX11_sale_26 rfl (by decide) rfl ?_
  refine j_iload_n dX11_sale_27 rfl rfl ?_
  refine j_if_ge (tgt := 34) dX11_sale_28 (by decide) (fun h28 => ?_) (fun h28 => absurd (Int32.not_lt.mp (nI_pos (Nat.lt_trans (seP_lt hP) (by decide)))) (by rw [hP] at h28; exact h28))
  refine j_aload_n dX11_sale_34 rfl rfl ?_
  refine j_callVv [] [] dX11_sale_35 jlk_X11_326 rfl rfl rfl rfl (Nat.le_of_ble_eq_true rfl) (m_lays (by rw [mA_n _ _ _ (by decide) (by decide), vu_n _ _ _ (by decide)]; exact z1) (by rw [mA_n _ _ _ (by decide) (by decide), vu_n _ _ _ (by decide)]; exact z2) (by rw [mA_84]; exact (seS_z (c := (A 82, A 83)) ⟨z1, z2⟩).1) (by rw [mA_85]; exact (seS_z (c := (A 82, A 83)) ⟨z1, z2⟩).2)) ?_
  refine j_aload_n dX11_sale_38 rfl rfl ?_
  refine t_getR (b := 94) dX11_sale_39 jfl_X11_64 (fun _ _ _ => rfl) rfl ?_
  refine j_iconst (v := nI 0) dX11_sale_42 rfl ?_
  refine j_dup2 dX11_sale_43 rfl rfl ?_
  refine t_iaload dX11_sale_44 (fun _ _ _ => rfl) (by omega) (by decide) ?_
  refine j_iconst (v := nI 1) dX11_sale_45 rfl ?_
  refine j_iadd dX11_sale_46 ?_
  refine t_iastore dX11_sale_47 (fun _ _ _ => rfl) (by omega) (by decide) ?_
  refine j_aload_n dX11_sale_48 rfl rfl ?_
  refine t_getR (b := 94) dX11_sale_49 jfl_X11_64 (fun _ _ _ => rfl) rfl ?_
  refine j_iconst (v := nI 1) dX11_sale_52 rfl ?_
  refine j_dup2 dX11_sale_53 rfl rfl ?_
  refine t_iaload dX11_sale_54 (fun _ _ _ => rfl) (by omega) (by decide) ?_
  refine j_iload_n dX11_sale_55 rfl rfl ?_
  refine j_bipush (v := nI 10) dX11_sale_56 rfl ?_
  refine jn_irem dX11_sale_58 hk (by decide) (by decide) ?_
  refine j_iadd dX11_sale_59 ?_
  refine t_iastore dX11_sale_60 (fun _ _ _ => rfl) (by omega) (by decide) ?_
  refine j_iload_n dX11_sale_61 rfl rfl ?_
  refine j_ireturn dX11_sale_62 rfl ?_
  refine ⟨by rw [hP]; rfl, y9, N9, tw_eq rfl ?_ rfl⟩
  rw [mA_84, mA_85, vu_s, vu_up, lA_n _ _ _ (by decide) (by decide), mA_n _ _ _ (by decide) (by decide), vu_n _ _ _ (show (94 : Nat) ≠ 88 by decide), ud_n _ _ _ (show (1 : Nat) ≠ 0 by decide)]

set_option maxHeartbeats 200000 in
set_option maxRecDepth 100000 in
theorem m_bytesIs_no {c : Int32} (h : isA 6 c = nI 0) : jMet (d + 2) yX11_bytesIs cX11_bytesIs 2 (some .int) 0 0 [.ref 76, .int c] (tw X A L) (jRi (-1) (tw X A L)) := by
  refine jMet_of (by decide) (Nat.le_of_ble_eq_true rfl) none (Or.inl rfl) ?_
  show jWP none RX11 cX11_bytesIs 2 (some .int) (d + 2) 0 0 0 [some (.ref 76), some (.int c)] [] (tw X A L) (jRi (-1) (tw X A L))
  refine j_iload_n dX11_bytesIs_0 rfl rfl ?_
  refine j_callSi [.int _] [] dX11_bytesIs_1 jlk_X11_124 rfl rfl (Nat.le_of_ble_eq_true rfl) (m_isSh) ?_
  refine j_if_ne (tgt := 11) dX11_bytesIs_4 (by decide) (fun h4 => absurd h h4) (fun h4 => ?_)
  refine j_iconst (v := (-1)) dX11_bytesIs_7 rfl ?_
  refine j_goto (tgt := 42) dX11_bytesIs_8 (by decide) ?_
  refine j_ireturn dX11_bytesIs_42 rfl ?_
  exact ⟨rfl, rfl⟩

set_option maxHeartbeats 200000 in
set_option maxRecDepth 100000 in
theorem m_bytesIs_0 {j : Nat} (hj : j < 6) (hs : A 100 j = -1) : jMet (d + 2) yX11_bytesIs cX11_bytesIs 2 (some .int) 0 0 [.ref 76, .int (nI j)] (tw X A L) (jRi (-11) (tw X A L)) := by
  refine jMet_of (by decide) (Nat.le_of_ble_eq_true rfl) none (Or.inl rfl) ?_
  show jWP none RX11 cX11_bytesIs 2 (some .int) (d + 2) 0 0 0 [some (.ref 76), some (.int (nI j))] [] (tw X A L) (jRi (-11) (tw X A L))
  refine j_iload_n dX11_bytesIs_0 rfl rfl ?_
  refine j_callSi [.int _] [] dX11_bytesIs_1 jlk_X11_124 rfl rfl (Nat.le_of_ble_eq_true rfl) (jMet_i m_isSh (isA_in hj (by decide)) rfl) ?_
  refine j_if_ne (tgt := 11) dX11_bytesIs_4 (by decide) (fun _ => ?_) (fun h => absurd h (by decide))
  refine j_aload_n dX11_bytesIs_11 rfl rfl ?_
  refine t_getR (b := 100) dX11_bytesIs_12 jfl_X11_82 (fun _ _ _ => rfl) rfl ?_
  refine j_iload_n dX11_bytesIs_15 rfl rfl ?_
  refine t_iaload dX11_bytesIs_16 (fun _ _ _ => rfl) (by omega) (by decide) ?_
  refine j_if_ge (tgt := 25) dX11_bytesIs_17 (by decide) (fun h17 => absurd h17 (by rw [hs]; decide)) (fun h17 => ?_)
  refine j_bipush (v := (-11)) dX11_bytesIs_20 rfl ?_
  refine j_goto (tgt := 42) dX11_bytesIs_22 (by decide) ?_
  refine j_ireturn dX11_bytesIs_42 rfl ?_
  exact ⟨rfl, rfl⟩

set_option maxHeartbeats 200000 in
set_option maxRecDepth 100000 in
theorem m_bytesIs_12 {j b : Nat} (hj : j < 6) (hs : A 100 j = nI b) (hb : b < 60) (hne : b ≠ 50) : jMet (d + 2) yX11_bytesIs cX11_bytesIs 2 (some .int) 0 0 [.ref 76, .int (nI j)] (tw X A L) (jRi (-12) (tw X A L)) := by
  refine jMet_of (by decide) (Nat.le_of_ble_eq_true rfl) none (Or.inl rfl) ?_
  show jWP none RX11 cX11_bytesIs 2 (some .int) (d + 2) 0 0 0 [some (.ref 76), some (.int (nI j))] [] (tw X A L) (jRi (-12) (tw X A L))
  refine j_iload_n dX11_bytesIs_0 rfl rfl ?_
  refine j_callSi [.int _] [] dX11_bytesIs_1 jlk_X11_124 rfl rfl (Nat.le_of_ble_eq_true rfl) (jMet_i m_isSh (isA_in hj (by decide)) rfl) ?_
  refine j_if_ne (tgt := 11) dX11_bytesIs_4 (by decide) (fun _ => ?_) (fun h => absurd h (by decide))
  refine j_aload_n dX11_bytesIs_11 rfl rfl ?_
  refine t_getR (b := 100) dX11_bytesIs_12 jfl_X11_82 (fun _ _ _ => rfl) rfl ?_
  refine j_iload_n dX11_bytesIs_15 rfl rfl ?_
  refine t_iaload dX11_bytesIs_16 (fun _ _ _ => rfl) (by omega) (by decide) ?_
  refine j_topE (e' := nI b) hs ?_
  refine jn_if_ge (tgt := 25) dX11_bytesIs_17 (by decide) (by omega) ?_
  refine j_aload_n dX11_bytesIs_25 rfl rfl ?_
  refine t_getR (b := 100) dX11_bytesIs_26 jfl_X11_82 (fun _ _ _ => rfl) rfl ?_
  refine j_iload_n dX11_bytesIs_29 rfl rfl ?_
  refine t_iaload dX11_bytesIs_30 (fun _ _ _ => rfl) (by omega) (by decide) ?_
  refine j_topE (e' := nI b) hs ?_
  refine j_bipush (v := nI 50) dX11_bytesIs_31 rfl ?_
  refine jn_icmp_ne (tgt := 40) dX11_bytesIs_33 (by decide) (by omega) (by omega) (fun h33 => ?_) (fun h33 => absurd h33 hne)
  refine j_bipush (v := (-12)) dX11_bytesIs_40 rfl ?_
  refine j_ireturn dX11_bytesIs_42 rfl ?_
  exact ⟨rfl, rfl⟩

set_option maxHeartbeats 200000 in
set_option maxRecDepth 100000 in
theorem m_bytesIs {j : Nat} (hj : j < 6) (hs : A 100 j = nI 50) : jMet (d + 2) yX11_bytesIs cX11_bytesIs 2 (some .int) 0 0 [.ref 76, .int (nI j)] (tw X A L) (jRi (nI 1) (tw X A L)) := by
  refine jMet_of (by decide) (Nat.le_of_ble_eq_true rfl) none (Or.inl rfl) ?_
  show jWP none RX11 cX11_bytesIs 2 (some .int) (d + 2) 0 0 0 [some (.ref 76), some (.int (nI j))] [] (tw X A L) (jRi (nI 1) (tw X A L))
  refine j_iload_n dX11_bytesIs_0 rfl rfl ?_
  refine j_callSi [.int _] [] dX11_bytesIs_1 jlk_X11_124 rfl rfl (Nat.le_of_ble_eq_true rfl) (jMet_i m_isSh (isA_in hj (by decide)) rfl) ?_
  refine j_if_ne (tgt := 11) dX11_bytesIs_4 (by decide) (fun _ => ?_) (fun h => absurd h (by decide))
  refine j_aload_n dX11_bytesIs_11 rfl rfl ?_
  refine t_getR (b := 100) dX11_bytesIs_12 jfl_X11_82 (fun _ _ _ => rfl) rfl ?_
  refine j_iload_n dX11_bytesIs_15 rfl rfl ?_
  refine t_iaload dX11_bytesIs_16 (fun _ _ _ => rfl) (by omega) (by decide) ?_
  refine j_topE (e' := nI 50) hs ?_
  refine jn_if_ge (tgt := 25) dX11_bytesIs_17 (by decide) (by omega) ?_
  refine j_aload_n dX11_bytesIs_25 rfl rfl ?_
  refine t_getR (b := 100) dX11_bytesIs_26 jfl_X11_82 (fun _ _ _ => rfl) rfl ?_
  refine j_iload_n dX11_bytesIs_29 rfl rfl ?_
  refine t_iaload dX11_bytesIs_30 (fun _ _ _ => rfl) (by omega) (by decide) ?_
  refine j_topE (e' := nI 50) hs ?_
  refine j_bipush (v := nI 50) dX11_bytesIs_31 rfl ?_
  refine jn_icmp_ne (tgt := 40) dX11_bytesIs_33 (by decide) (by omega) (by omega) (fun h33 => absurd rfl h33) (fun h33 => ?_)
  refine j_iconst (v := nI 1) dX11_bytesIs_36 rfl ?_
  refine j_goto (tgt := 42) dX11_bytesIs_37 (by decide) ?_
  refine j_ireturn dX11_bytesIs_42 rfl ?_
  exact ⟨rfl, rfl⟩

theorem m_bytesIs_f {j : Nat} (hj : j < 6) {h b so : Nat} (hs : A 100 j = mshI h b so) (h2 : h ≤ 2) (hb50 : h = 1 → b < 50) (so4 : so ≤ 4) (hf : bfI h so ≠ 0) : jMet (d + 2) yX11_bytesIs cX11_bytesIs 2 (some .int) 0 0 [.ref 76, .int (nI j)] (tw X A L) (jRi (bfI h so) (tw X A L)) := by
  rcases (show h = 0 ∨ h = 1 ∨ h = 2 by omega) with rfl | rfl | rfl
  · exact m_bytesIs_0 hj hs
  · exact m_bytesIs_12 hj (b := b) hs (by have := hb50 rfl; omega) (by have := hb50 rfl; omega)
  · have h0 : so ≠ 0 := fun q => hf (by rw [q]; rfl)
    have e : bfI 2 so = -12 := by unfold bfI; rw [if_neg (by decide), if_pos rfl, if_neg h0]
    rw [e]
    exact m_bytesIs_12 hj (b := 50 + so) hs (by omega) (by omega)

set_option maxHeartbeats 200000 in
set_option maxRecDepth 100000 in
theorem m_itemAt {j i : Nat} (h : 60 * j + i < 360) : jMet (d) yX11_itemAt cX11_itemAt 3 (some .long) 0 0 [.ref 76, .int (nI j), .int (nI i)] (tw X A L) (jRl (L 102 (60 * j + i)) (tw X A L)) := by
  refine jMet_of (by decide) (Nat.le_of_ble_eq_true rfl) none (Or.inl rfl) ?_
  show jWP none RX11 cX11_itemAt 3 (some .long) (d) 0 0 0 [some (.ref 76), some (.int (nI j)), some (.int (nI i))] [] (tw X A L) (jRl (L 102 (60 * j + i)) (tw X A L))
  refine j_aload_n dX11_itemAt_0 rfl rfl ?_
  refine t_getR (b := 102) dX11_itemAt_1 jfl_X11_88 (fun _ _ _ => rfl) rfl ?_
  refine j_bipush (v := nI 60) dX11_itemAt_4 rfl ?_
  refine j_iload_n dX11_itemAt_6 rfl rfl ?_
  refine jn_imul dX11_itemAt_7 ?_
  refine j_iload_n dX11_itemAt_8 rfl rfl ?_
  refine jn_iadd dX11_itemAt_9 ?_
  refine t_laload dX11_itemAt_10 (fun _ _ _ => rfl) (by omega) (by decide) ?_
  refine j_lreturn dX11_itemAt_11 rfl ?_
  exact ⟨rfl, rfl⟩

theorem m_itemE {j i : Nat} (h : 60 * j + i < 360) {e : Int32} (he : L 102 (60 * j + i) = e.toInt64) : jMet d yX11_itemAt cX11_itemAt 3 (some .long) 0 0 [.ref 76, .int (nI j), .int (nI i)] (tw X A L) (jRl e.toInt64 (tw X A L)) := jMet_l (m_itemAt h) he rfl

set_option maxHeartbeats 200000 in
set_option maxRecDepth 100000 in
theorem l_salesOf (hn : X 76 7 = nI na) (h6 : na ≤ 6) {j ln : Nat} (hj : j < 6) {E : Nat → Int32} (hm : A 101 j = nI ln) (l60 : ln ≤ 60) (hE : ∀ i, i < ln → L 102 (60 * j + i) = (E i).toInt64) {N : Nat} : ∀ (m i : Nat), i + m = 30 → saC (saB na ln E) m i = N → jWP none RX11 cX11_salesOf 3 (some .int) (d + 2) 0 0 2 [some (.ref 76), some (.int (nI j)), some (.int (nI i))] [] (tw X A L) (jRi (nI N) (tw X A L)) := by
  intro m
  induction m with
  | zero =>
    intro i hi hr
    subst hr
    have h30 : i = 30 := by omega
    refine j_iconst (v := nI 2) dX11_salesOf_2 rfl ?_
    refine j_iload_n dX11_salesOf_3 rfl rfl ?_
    refine jn_imul dX11_salesOf_4 ?_
    refine j_iconst (v := nI 1) dX11_salesOf_5 rfl ?_
    refine jn_iadd dX11_salesOf_6 ?_
    refine j_aload_n dX11_salesOf_7 rfl rfl ?_
    refine t_getR (b := 101) dX11_salesOf_8 jfl_X11_85 (fun _ _ _ => rfl) rfl ?_
    refine j_iload_n dX11_salesOf_11 rfl rfl ?_
    refine t_iaload dX11_salesOf_12 (fun _ _ _ => rfl) (by omega) (by decide) ?_
    refine j_topE (e' := nI ln) hm ?_
    refine jn_icmp_ge (tgt := 53) dX11_salesOf_13 (by decide) (by omega) (by omega) (fun h13 => ?_) (fun h13 => absurd h13 (by omega))
    refine j_iload_n dX11_salesOf_53 rfl rfl ?_
    refine j_ireturn dX11_salesOf_54 rfl ?_
    exact ⟨rfl, rfl⟩
  | succ m ih =>
    intro i hi hr
    refine j_iconst (v := nI 2) dX11_salesOf_2 rfl ?_
    refine j_iload_n dX11_salesOf_3 rfl rfl ?_
    refine jn_imul dX11_salesOf_4 ?_
    refine j_iconst (v := nI 1) dX11_salesOf_5 rfl ?_
    refine jn_iadd dX11_salesOf_6 ?_
    refine j_aload_n dX11_salesOf_7 rfl rfl ?_
    refine t_getR (b := 101) dX11_salesOf_8 jfl_X11_85 (fun _ _ _ => rfl) rfl ?_
    refine j_iload_n dX11_salesOf_11 rfl rfl ?_
    refine t_iaload dX11_salesOf_12 (fun _ _ _ => rfl) (by omega) (by decide) ?_
    refine j_topE (e' := nI ln) hm ?_
    refine jn_icmp_ge (tgt := 53) dX11_salesOf_13 (by decide) (by omega) (by omega) (fun h13 => ?_) (fun h13 => ?_)
    · refine j_iload_n dX11_salesOf_53 rfl rfl ?_
      refine j_ireturn dX11_salesOf_54 rfl ?_
      have e : saB na ln E i = false := by unfold saB slA; simp ; omega
      rw [← hr]
      refine ⟨congrArg (fun z => some (Value.int (nI z))) ?_, rfl⟩
      show i = if saB na ln E i = true then _ else i
      rw [if_neg (by rw [e]; decide)]
    · refine j_aload_n dX11_salesOf_16 rfl rfl ?_
      refine j_aload_n dX11_salesOf_17 rfl rfl ?_
      refine j_iload_n dX11_salesOf_18 rfl rfl ?_
      refine j_iconst (v := nI 2) dX11_salesOf_19 rfl ?_
      refine j_iload_n dX11_salesOf_20 rfl rfl ?_
      refine jn_imul dX11_salesOf_21 ?_
      refine j_callVl [.int _, .int _] [.ref 76] dX11_salesOf_22 jlk_X11_221 rfl rfl rfl rfl (Nat.le_of_ble_eq_true rfl) (m_itemE (i := 2 * i) (by omega) (hE _ (by omega))) ?_
      refine j_callVi [.long _] [] dX11_salesOf_25 jlk_X11_128 rfl rfl rfl rfl (Nat.le_of_ble_eq_true rfl) (m_isAccount hn h6) ?_
      refine j_if_eq (tgt := 53) dX11_salesOf_28 (by decide) (fun h28 => ?_) (fun h28 => ?_)
      · refine j_iload_n dX11_salesOf_53 rfl rfl ?_
        refine j_ireturn dX11_salesOf_54 rfl ?_
        have e : saB na ln E i = false := by unfold saB slA; simp [h28]
        rw [← hr]
        refine ⟨congrArg (fun z => some (Value.int (nI z))) ?_, rfl⟩
        show i = if saB na ln E i = true then _ else i
        rw [if_neg (by rw [e]; decide)]
      · refine j_aload_n dX11_salesOf_31 rfl rfl ?_
        refine j_iload_n dX11_salesOf_32 rfl rfl ?_
        refine j_iconst (v := nI 2) dX11_salesOf_33 rfl ?_
        refine j_iload_n dX11_salesOf_34 rfl rfl ?_
        refine jn_imul dX11_salesOf_35 ?_
        refine j_iconst (v := nI 1) dX11_salesOf_36 rfl ?_
        refine jn_iadd dX11_salesOf_37 ?_
        refine j_callVl [.int _, .int _] [] dX11_salesOf_38 jlk_X11_221 rfl rfl rfl rfl (Nat.le_of_ble_eq_true rfl) (m_itemE (i := 2 * i + 1) (by omega) (hE _ (by omega))) ?_
        refine j_callSi [.long _] [] dX11_salesOf_41 jlk_X11_215 rfl rfl (Nat.le_of_ble_eq_true rfl) (m_isSum) ?_
        refine j_if_eq (tgt := 53) dX11_salesOf_44 (by decide) (fun h44 => ?_) (fun h44 => ?_)
        · refine j_iload_n dX11_salesOf_53 rfl rfl ?_
          refine j_ireturn dX11_salesOf_54 rfl ?_
          have e : saB na ln E i = false := by unfold saB slA; simp [h44]
          rw [← hr]
          refine ⟨congrArg (fun z => some (Value.int (nI z))) ?_, rfl⟩
          show i = if saB na ln E i = true then _ else i
          rw [if_neg (by rw [e]; decide)]
        · refine jn_iinc (lv' := [some (.ref 76), some (.int _), some (.int _)]) dX11_salesOf_47 rfl (by decide) rfl ?_
          refine j_goto (tgt := 2) dX11_salesOf_50 (by decide) ?_
          refine ih (i + 1) (by omega) ?_
          rw [← hr]
          show _ = if saB na ln E i = true then _ else i
          rw [if_pos (by unfold saB slA; simp [h28, h44]; omega)]

set_option maxHeartbeats 200000 in
set_option maxRecDepth 100000 in
theorem m_salesOf (hn : X 76 7 = nI na) (h6 : na ≤ 6) {j ln : Nat} (hj : j < 6) {E : Nat → Int32} (hm : A 101 j = nI ln) (l60 : ln ≤ 60) (hE : ∀ i, i < ln → L 102 (60 * j + i) = (E i).toInt64) : jMet (d + 2) yX11_salesOf cX11_salesOf 3 (some .int) 0 0 [.ref 76, .int (nI j)] (tw X A L) (jRi (nI (saC (saB na ln E) 30 0)) (tw X A L)) := by
  refine jMet_of (by decide) (Nat.le_of_ble_eq_true rfl) none (Or.inl rfl) ?_
  show jWP none RX11 cX11_salesOf 3 (some .int) (d + 2) 0 0 0 [some (.ref 76), some (.int (nI j)), none] [] (tw X A L) (jRi (nI (saC (saB na ln E) 30 0)) (tw X A L))
  refine j_iconst (v := nI 0) dX11_salesOf_0 rfl ?_
  refine j_istore_n (lv' := [some (.ref 76), some (.int _), some (.int _)]) dX11_salesOf_1 rfl (by decide) rfl ?_
  exact l_salesOf hn h6 hj hm l60 hE 30 0 rfl rfl

end CT57