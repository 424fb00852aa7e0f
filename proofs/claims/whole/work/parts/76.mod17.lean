/-- what the law's reading leaves in the numbers -/
def zX (X : Nat → Nat → Int32) (y : Nat → Int32) : Nat → Nat → Int32 := va_up X 76 (fun q => if 16 ≤ q ∧ q ≤ 20 then y q else X 76 q)
theorem zX_n {X : Nat → Nat → Int32} {y : Nat → Int32} {q : Nat} (h : q < 16 ∨ 20 < q) : zX X y 76 q = X 76 q := by
  unfold zX
  rw [vu_s, if_neg (by omega)]
theorem zX_o {X : Nat → Nat → Int32} {y : Nat → Int32} {c : Nat} (h : c ≠ 76) : zX X y c = X c := vu_n _ _ _ h
theorem zX_zX {X : Nat → Nat → Int32} {y y' : Nat → Int32} : zX (zX X y) y' = zX X y' := by
  unfold zX
  rw [vu_up, vu_s]
  refine congrArg _ (funext fun q => ?_)
  by_cases h : 16 ≤ q ∧ q ≤ 20
  · rw [if_pos h, if_pos h]
  · rw [if_neg h, if_neg h, if_neg h]
theorem zX_self {X : Nat → Nat → Int32} : zX X (X 76) = X := by
  unfold zX
  have h : (fun q => if 16 ≤ q ∧ q ≤ 20 then X 76 q else X 76 q) = X 76 := funext fun q => by split <;> rfl
  rw [h, vu_self]
theorem pX_z {X : Nat → Nat → Int32} {b : Int32} {n : Nat} {s : pS} : pX (bX X b n) s = zX X (pX (bX X b n) s 76) := by
  have h : pX (bX X b n) s = va_up X 76 (pX (bX X b n) s 76) := by
    unfold pX bX
    simp only [vu_s, vu_up]
  rw [h]
  unfold zX
  refine congrArg _ (funext fun q => ?_)
  by_cases h : 16 ≤ q ∧ q ≤ 20
  · rw [if_pos h, vu_s]
  · rw [if_neg h, pX_n (by omega) (by omega) (by omega), bX_n (by omega) (by omega)]
def RkM (td : Bool) (tm : Nat) (tx v : Nat → Nat) (O : Nat → Int32) (a s : Int32) (c : Nat) : Int32 := if td = true then (wkF tm tx (nmC (nI (dsN (v a.toNatClampNeg) c)) (nI (cnt (fun o => isNx c o && heldB O o) 49)) (nI (cnt (fun o => isNx c o && decide (O o = a)) 49)) s a (nI (c / 7)))).1 else -(nI (dsN (v a.toNatClampNeg) c))
theorem pok_0 {n : Nat} : pok n (0, none, 0) := by
  refine ⟨Nat.zero_le _, ?_, Nat.zero_le _⟩
  intro b hb
  have hb : (none : Option Nat) = some b := hb
  cases hb
section CG
variable {n : Nat} {tx : Nat → Nat} {nm nm' : Nat → Int32}
theorem lvL_cg {l : Nat} {f g : pS → Int32 × pS} (h : ∀ s, f s = g s) : ∀ m v s, lvL n tx l f m v s = lvL n tx l g m v s := by
  rw [show f = g from funext h]
  intro m v s; rfl
theorem onF_cg (h : ∀ i, i < 6 → nm i = nm' i) : ∀ D, onF n tx nm D = onF n tx nm' D
  | 0 => rfl
  | D + 1 => by
    have ih := onF_cg h D
    funext s
    conv => lhs; unfold onF
    conv => rhs; unfold onF
    rw [ih]
    by_cases h1 : s.2.1 ≠ none
    · rw [if_pos h1, if_pos h1]
    · rw [if_neg h1, if_neg h1]
      by_cases h2 : byN n tx s.1 = 33 ∨ byN n tx s.1 = 45 ∨ byN n tx s.1 = 40
      · rw [if_pos h2, if_pos h2]
      · rw [if_neg h2, if_neg h2]
        by_cases h3 : nmN (byN n tx s.1) < 6
        · rw [if_pos h3, if_pos h3, h _ h3]
        · rw [if_neg h3, if_neg h3]
theorem wkF_cg (h : ∀ i, i < 6 → nm i = nm' i) : wkF n tx nm = wkF n tx nm' := by
  unfold wkF exT
  rw [onF_cg h 7]
end CG
section CT56
variable {d : Nat} {X A : Nat → Nat → Int32} {L : Nat → Nat → Int64} {w : jW} {n : Nat} {tx v : Nat → Nat} {nm : Nat → Int32} {na : Nat}

set_option maxHeartbeats 200000 in
set_option maxRecDepth 100000 in
theorem m_workOut (hn : n ≤ 120) (ht : ∀ i, tx i < 256) {b : Int32} (hb : (b = -1 ∧ A 86 = nIf tx) ∨ (b = nI 0 ∧ A 87 = nIf tx)) (hnm : A 88 = nm) : jMet (d + 50) yX11_workOut cX11_workOut 8 (some .int) 0 0 [.ref 76, .int b, .int (nI n)] (tw X A L) (jRi (wkF n tx nm).1 (tw (pX (bX X b n) (wkF n tx nm).2) A L)) := by
  refine jMet_of (by decide) (Nat.le_of_ble_eq_true rfl) none (Or.inl rfl) ?_
  show jWP none RX11 cX11_workOut 8 (some .int) (d + 50) 0 0 0 [some (.ref 76), some (.int b), some (.int (nI n)), none, none, none, none, none] [] (tw X A L) (jRi (wkF n tx nm).1 (tw (pX (bX X b n) (wkF n tx nm).2) A L))
  refine j_aload_n dX11_workOut_0 rfl rfl ?_
  refine j_iload_n dX11_workOut_1 rfl rfl ?_
  refine t_putI dX11_workOut_2 jfl_X11_166 (fun _ _ _ => rfl) (fun _ _ => rfl) (Nat.le_of_ble_eq_true rfl) rfl rfl ?_
  refine j_aload_n dX11_workOut_5 rfl rfl ?_
  refine j_iconst (v := nI 0) dX11_workOut_6 rfl ?_
  refine t_putI dX11_workOut_7 jfl_X11_160 (fun _ _ _ => rfl) (fun _ _ => rfl) (Nat.le_of_ble_eq_true rfl) rfl rfl ?_
  refine j_aload_n dX11_workOut_10 rfl rfl ?_
  refine j_iload_n dX11_workOut_11 rfl rfl ?_
  refine t_putI dX11_workOut_12 jfl_X11_163 (fun _ _ _ => rfl) (fun _ _ => rfl) (Nat.le_of_ble_eq_true rfl) rfl rfl ?_
  refine j_aload_n dX11_workOut_15 rfl rfl ?_
  refine j_iconst (v := (-1)) dX11_workOut_16 rfl ?_
  refine t_putI dX11_workOut_17 jfl_X11_169 (fun _ _ _ => rfl) (fun _ _ => rfl) (Nat.le_of_ble_eq_true rfl) rfl rfl ?_
  refine j_aload_n dX11_workOut_20 rfl rfl ?_
  refine j_iconst (v := nI 0) dX11_workOut_21 rfl ?_
  refine t_putI dX11_workOut_22 jfl_X11_193 (fun _ _ _ => rfl) (fun _ _ => rfl) (Nat.le_of_ble_eq_true rfl) rfl rfl ?_
  refine j_iconst (v := nI 0) dX11_workOut_25 rfl ?_
  refine j_istore_n (lv' := [some (.ref 76), some (.int _), some (.int _), some (.int _), none, none, none, none]) dX11_workOut_26 rfl (by decide) rfl ?_
  refine j_iconst (v := nI 0) dX11_workOut_27 rfl ?_
  refine j_istore (lv' := [some (.ref 76), some (.int _), some (.int _), some (.int _), some (.int _), none, none, none]) dX11_workOut_28 (by decide) rfl ?_
  refine j_iconst (v := nI 1) dX11_workOut_30 rfl ?_
  refine j_istore (lv' := [some (.ref 76), some (.int _), some (.int _), some (.int _), some (.int _), some (.int _), none, none]) dX11_workOut_31 (by decide) rfl ?_
  rw [wk_start]
  exact l_workOut (pwO_b hn ht hb) hnm (n + 1) false (nI 0) (0, none, 0) _ pok_0 (fun _ => rfl) (by show n - 0 < n + 1; omega) rfl

set_option maxHeartbeats 200000 in
set_option maxRecDepth 100000 in
theorem l_law_m (hn : n ≤ 120) {y : Int32} : ∀ (m i : Nat), i ≤ n → n - i < m → jWP none RX11 cX11_law 4 (some .int) (d + 51) 0 0 37 [some (.ref 76), some (.int y), some (.int (nI n)), some (.int (nI i))] [] (tw X (va_up A 87 (cpN (A 86) (A 87) i)) L) (jRi (nI 1) (tw (va_up X 76 (upd (X 76) 15 (nI n))) (va_up A 87 (cpN (A 86) (A 87) n)) L)) := by
  intro m
  induction m with
  | zero => intro i h1 h2; omega
  | succ m ih =>
    intro i hi hm
    refine j_iload_n dX11_law_37 rfl rfl ?_
    refine j_iload_n dX11_law_38 rfl rfl ?_
    refine jn_icmp_ge (tgt := 60) dX11_law_39 (by decide) (by omega) (by omega) (fun h39 => ?_) (fun h39 => ?_)
    · obtain rfl : i = n := by omega
      refine j_aload_n dX11_law_60 rfl rfl ?_
      refine j_iload_n dX11_law_61 rfl rfl ?_
      refine t_putI dX11_law_62 jfl_X11_95 (fun _ _ _ => rfl) (fun _ _ => rfl) (Nat.le_of_ble_eq_true rfl) rfl rfl ?_
      refine j_iconst (v := nI 1) dX11_law_65 rfl ?_
      refine j_ireturn dX11_law_66 rfl ?_
      exact ⟨rfl, rfl⟩
    · refine j_aload_n dX11_law_42 rfl rfl ?_
      refine t_getR (b := 87) dX11_law_43 jfl_X11_42 (fun _ _ _ => rfl) rfl ?_
      refine j_iload_n dX11_law_46 rfl rfl ?_
      refine j_aload_n dX11_law_47 rfl rfl ?_
      refine t_getR (b := 86) dX11_law_48 jfl_X11_39 (fun _ _ _ => rfl) rfl ?_
      refine j_iload_n dX11_law_51 rfl rfl ?_
      refine t_iaload dX11_law_52 (fun _ _ _ => rfl) (by omega) (by decide) ?_
      refine t_iastore dX11_law_53 (fun _ _ _ => rfl) (by omega) (by decide) ?_
      refine jn_iinc (lv' := [some (.ref 76), some (.int _), some (.int _), some (.int _)]) dX11_law_54 rfl (by decide) rfl ?_
      refine j_goto (tgt := 37) dX11_law_57 (by decide) ?_
      rw [vu_s, vu_n _ _ _ (show (86 : Nat) ≠ 87 by decide), cpN_s, vu_up]
      exact ih (i + 1) (by omega) (by omega)

set_option maxHeartbeats 200000 in
set_option maxRecDepth 100000 in
theorem m_law (hn : n ≤ 120) (ht : ∀ i, tx i < 256) (h13 : X 76 13 = nI n) (h86 : A 86 = nIf tx) (hlt : ∀ b, (wkF n tx (A 88)).2.2.1 = some b → b < 2 ^ 31) : jMet (d + 51) yX11_law cX11_law 4 (some .int) 0 0 [.ref 76] (tw X A L) ((fun z w => z = some (.int (match (wkF n tx (A 88)).2.2.1 with | none => nI 1 | some b => -100 - nI b)) ∧ w = if (wkF n tx (A 88)).2.2.1 = none then tw (va_up (va_up (pX (bX X (-1) n) (wkF n tx (A 88)).2) 76 (upd (pX (bX X (-1) n) (wkF n tx (A 88)).2 76) 13 (nI 0))) 76 (upd ((va_up (pX (bX X (-1) n) (wkF n tx (A 88)).2) 76 (upd (pX (bX X (-1) n) (wkF n tx (A 88)).2 76) 13 (nI 0))) 76) 15 (nI n))) (va_up A 87 (cpN (A 86) (A 87) n)) L else tw (va_up (pX (bX X (-1) n) (wkF n tx (A 88)).2) 76 (upd (pX (bX X (-1) n) (wkF n tx (A 88)).2 76) 13 (nI 0))) A L)) := by
  refine jMet_of (by decide) (Nat.le_of_ble_eq_true rfl) none (Or.inl rfl) ?_
  show jWP none RX11 cX11_law 4 (some .int) (d + 51) 0 0 0 [some (.ref 76), none, none, none] [] (tw X A L) ((fun z w => z = some (.int (match (wkF n tx (A 88)).2.2.1 with | none => nI 1 | some b => -100 - nI b)) ∧ w = if (wkF n tx (A 88)).2.2.1 = none then tw (va_up (va_up (pX (bX X (-1) n) (wkF n tx (A 88)).2) 76 (upd (pX (bX X (-1) n) (wkF n tx (A 88)).2 76) 13 (nI 0))) 76 (upd ((va_up (pX (bX X (-1) n) (wkF n tx (A 88)).2) 76 (upd (pX (bX X (-1) n) (wkF n tx (A 88)).2 76) 13 (nI 0))) 76) 15 (nI n))) (va_up A 87 (cpN (A 86) (A 87) n)) L else tw (va_up (pX (bX X (-1) n) (wkF n tx (A 88)).2) 76 (upd (pX (bX X (-1) n) (wkF n tx (A 88)).2 76) 13 (nI 0))) A L))
  refine j_aload_n dX11_law_0 rfl rfl ?_
  refine j_iconst (v := (-1)) dX11_law_1 rfl ?_
  refine j_aload_n dX11_law_2 rfl rfl ?_
  refine t_getI dX11_law_3 jfl_X11_157 (fun _ _ _ => rfl) (fun _ => rfl) ?_
  refine j_topE (e' := nI n) h13 ?_
  refine j_callVi [.int _, .int _] [] dX11_law_6 jlk_X11_205 rfl rfl rfl rfl (Nat.le_of_ble_eq_true rfl) (m_workOut hn ht (Or.inl ⟨rfl, h86⟩) rfl) ?_
  refine j_istore_n (lv' := [some (.ref 76), some (.int _), none, none]) dX11_law_9 rfl (by decide) rfl ?_
  refine j_aload_n dX11_law_10 rfl rfl ?_
  refine t_getI dX11_law_11 jfl_X11_157 (fun _ _ _ => rfl) (fun _ => rfl) ?_
  refine j_topE (e' := nI n) ((pX_n (by decide) (by decide) (by decide)).trans ((bX_n (by decide) (by decide)).trans h13)) ?_
  refine j_istore_n (lv' := [some (.ref 76), some (.int _), some (.int _), none]) dX11_law_14 rfl (by decide) rfl ?_
  refine j_aload_n dX11_law_15 rfl rfl ?_
  refine j_iconst (v := nI 0) dX11_law_16 rfl ?_
  refine t_putI dX11_law_17 jfl_X11_157 (fun _ _ _ => rfl) (fun _ _ => rfl) (Nat.le_of_ble_eq_true rfl) rfl rfl ?_
  refine j_aload_n dX11_law_20 rfl rfl ?_
  refine t_getI dX11_law_21 jfl_X11_169 (fun _ _ _ => rfl) (fun _ => rfl) ?_
  refine j_topE (e' := fltI (wkF n tx (A 88)).2.2.1) (by rw [vu_s, ud_n _ _ _ (by decide)]; exact pX_19) ?_
  refine j_if_lt (tgt := 35) dX11_law_24 (by decide) (fun h24 => ?_) (fun h24 => ?_)
  · refine j_iconst (v := nI 0) dX11_law_35 rfl ?_
    refine j_istore_n (lv' := [some (.ref 76), some (.int _), some (.int _), some (.int _)]) dX11_law_36 rfl (by decide) rfl ?_
    have hf := flt_n h24 hlt
    refine j_post (j_atw (congrArg (fun z => tw _ z L) (show A = va_up A 87 (cpN (A 86) (A 87) 0) from by rw [cpN_0, vu_self])) (l_law_m hn (n + 1) 0 (by omega) (by omega))) ?_
    rintro z w ⟨rfl, rfl⟩
    exact ⟨by rw [hf], by rw [if_pos hf]⟩
  · refine j_bipush (v := (-100)) dX11_law_27 rfl ?_
    refine j_aload_n dX11_law_29 rfl rfl ?_
    refine t_getI dX11_law_30 jfl_X11_169 (fun _ _ _ => rfl) (fun _ => rfl) ?_
    refine j_topE (e' := fltI (wkF n tx (A 88)).2.2.1) (by rw [vu_s, ud_n _ _ _ (by decide)]; exact pX_19) ?_
    refine j_isub dX11_law_33 ?_
    refine j_ireturn dX11_law_34 rfl ?_
    obtain ⟨b, hb⟩ := flt_s (show ¬ fltI _ < 0 from h24)
    exact ⟨by rw [hb]; rfl, by rw [hb, if_neg (fun q => by cases q)]⟩

set_option maxHeartbeats 200000 in
set_option maxRecDepth 100000 in
theorem l_rankOf (hw : ow (A 84)) {k c : Nat} {s : Int32} (hk : k < 6) (hc : c < 49) {dd : Nat} {post : Option Value → jW → Prop} (kk : jWP none RX11 cX11_rankOf 8 (some .int) (d + 51) 0 0 109 [some (.ref 76), some (.int (nI k)), some (.int s), some (.int (nI c)), some (.int (nI dd)), some (.int (nI (cnt (fun o => isNx c o && heldB (A 84) o) 49))), some (.int (nI (cnt (fun o => isNx c o && decide (A 84 o = nI k)) 49))), some (.int (nI 49))] [] (tw X A L) post) : ∀ (m i : Nat), i ≤ 49 → 49 - i < m → jWP none RX11 cX11_rankOf 8 (some .int) (d + 51) 0 0 38 [some (.ref 76), some (.int (nI k)), some (.int s), some (.int (nI c)), some (.int (nI dd)), some (.int (nI (cnt (fun o => isNx c o && heldB (A 84) o) i))), some (.int (nI (cnt (fun o => isNx c o && decide (A 84 o = nI k)) i))), some (.int (nI i))] [] (tw X A L) (post) := by
  intro m
  induction m with
  | zero => intro i h1 h2; omega
  | succ m ih =>
    intro i hi hm
    have e1 : (cnt (fun o => isNx c o && heldB (A 84) o) (i + 1)) = if (isNx c i && heldB (A 84) i) = true then (cnt (fun o => isNx c o && heldB (A 84) o) i) + 1 else (cnt (fun o => isNx c o && heldB (A 84) o) i) := rfl
    have e2 : (cnt (fun o => isNx c o && decide (A 84 o = nI k)) (i + 1)) = if (isNx c i && decide (A 84 i = nI k)) = true then (cnt (fun o => isNx c o && decide (A 84 o = nI k)) i) + 1 else (cnt (fun o => isNx c o && decide (A 84 o = nI k)) i) := rfl
    refine j_iload dX11_rankOf_38 rfl ?_
    refine j_bipush (v := nI 49) dX11_rankOf_40 rfl ?_
    refine jn_icmp_ge (tgt := 109) dX11_rankOf_42 (by decide) (by omega) (by omega) (fun h42 => ?_) (fun h42 => ?_)
    · obtain rfl : i = 49 := by omega
      exact kk
    · refine j_iload dX11_rankOf_45 rfl ?_
      refine j_iload_n dX11_rankOf_47 rfl rfl ?_
      refine j_iload dX11_rankOf_48 rfl ?_
      refine j_callSi [.int _, .int _] [.int _] dX11_rankOf_50 jlk_X11_99 rfl rfl (Nat.le_of_ble_eq_true rfl) (m_isNext hc (by omega)) ?_
      refine j_if_eq (tgt := 69) dX11_rankOf_53 (by decide) (fun h53 => ?_) (fun h53 => ?_)
      · have h53 := bz_f h53
        rw [h53, if_neg (by simp)] at e1
        refine j_iconst (v := nI 0) dX11_rankOf_69 rfl ?_
        refine jn_iadd dX11_rankOf_70 ?_
        refine j_istore (lv' := [some (.ref 76), some (.int _), some (.int _), some (.int _), some (.int _), some (.int _), some (.int _), some (.int _)]) dX11_rankOf_71 (by decide) rfl ?_
        refine j_iload dX11_rankOf_73 rfl ?_
        refine j_iload_n dX11_rankOf_75 rfl rfl ?_
        refine j_iload dX11_rankOf_76 rfl ?_
        refine j_callSi [.int _, .int _] [.int _] dX11_rankOf_78 jlk_X11_99 rfl rfl (Nat.le_of_ble_eq_true rfl) (m_isNext hc (by omega)) ?_
        refine j_if_eq (tgt := 99) dX11_rankOf_81 (by decide) (fun h81 => ?_) (fun h81 => ?_)
        · have h81 := bz_f h81
          rw [h81, if_neg (by simp)] at e2
          refine j_iconst (v := nI 0) dX11_rankOf_99 rfl ?_
          refine jn_iadd dX11_rankOf_100 ?_
          refine j_istore (lv' := [some (.ref 76), some (.int _), some (.int _), some (.int _), some (.int _), some (.int _), some (.int _), some (.int _)]) dX11_rankOf_101 (by decide) rfl ?_
          refine jn_iinc (lv' := [some (.ref 76), some (.int _), some (.int _), some (.int _), some (.int _), some (.int _), some (.int _), some (.int _)]) dX11_rankOf_103 rfl (by decide) rfl ?_
          refine j_goto (tgt := 38) dX11_rankOf_106 (by decide) ?_
          refine j_sub ?_ (ih (i + 1) (by omega) (by omega))
          rw [e1, e2]
          exact ⟨rfl, rfl, rfl, rfl, rfl, rfl, rfl, rfl, trivial⟩
        · have h81 := bz_t h81
          refine j_aload_n dX11_rankOf_84 rfl rfl ?_
          refine t_getR (b := 84) dX11_rankOf_85 jfl_X11_33 (fun _ _ _ => rfl) rfl ?_
          refine j_iload dX11_rankOf_88 rfl ?_
          refine t_iaload dX11_rankOf_90 (fun _ _ _ => rfl) (by omega) (by decide) ?_
          refine j_iload_n dX11_rankOf_91 rfl rfl ?_
          refine j_icmp_ne (tgt := 99) dX11_rankOf_92 (by decide) (fun h92 => ?_) (fun h92 => ?_)
          · rw [h81, if_neg (by simp [h92])] at e2
            refine j_iconst (v := nI 0) dX11_rankOf_99 rfl ?_
            refine jn_iadd dX11_rankOf_100 ?_
            refine j_istore (lv' := [some (.ref 76), some (.int _), some (.int _), some (.int _), some (.int _), some (.int _), some (.int _), some (.int _)]) dX11_rankOf_101 (by decide) rfl ?_
            refine jn_iinc (lv' := [some (.ref 76), some (.int _), some (.int _), some (.int _), some (.int _), some (.int _), some (.int _), some (.int _)]) dX11_rankOf_103 rfl (by decide) rfl ?_
            refine j_goto (tgt := 38) dX11_rankOf_106 (by decide) ?_
            refine j_sub ?_ (ih (i + 1) (by omega) (by omega))
            rw [e1, e2]
            exact ⟨rfl, rfl, rfl, rfl, rfl, rfl, rfl, rfl, trivial⟩
          · have h92 : A 84 i = nI k := (by first | exact h92 | simpa using h92)
            rw [h81, if_pos (by simp [h92])] at e2
            refine j_iconst (v := nI 1) dX11_rankOf_95 rfl ?_
            refine j_goto (tgt := 100) dX11_rankOf_96 (by decide) ?_
            refine jn_iadd dX11_rankOf_100 ?_
            refine j_istore (lv' := [some (.ref 76), some (.int _), some (.int _), some (.int _), some (.int _), some (.int _), some (.int _), some (.int _)]) dX11_rankOf_101 (by decide) rfl ?_
            refine jn_iinc (lv' := [some (.ref 76), some (.int _), some (.int _), some (.int _), some (.int _), some (.int _), some (.int _), some (.int _)]) dX11_rankOf_103 rfl (by decide) rfl ?_
            refine j_goto (tgt := 38) dX11_rankOf_106 (by decide) ?_
            refine j_sub ?_ (ih (i + 1) (by omega) (by omega))
            rw [e1, e2]
            exact ⟨rfl, rfl, rfl, rfl, rfl, rfl, rfl, rfl, trivial⟩
      · have h53 := bz_t h53
        refine j_aload_n dX11_rankOf_56 rfl rfl ?_
        refine j_iload dX11_rankOf_57 rfl ?_
        refine j_callVi [.int _] [.int _] dX11_rankOf_59 jlk_X11_147 rfl rfl rfl rfl (Nat.le_of_ble_eq_true rfl) (m_holds hw (by omega)) ?_
        refine j_if_eq (tgt := 69) dX11_rankOf_62 (by decide) (fun h62 => ?_) (fun h62 => ?_)
        · have h62 := bz_f h62
          rw [h53, h62, if_neg (by simp)] at e1
          refine j_iconst (v := nI 0) dX11_rankOf_69 rfl ?_
          refine jn_iadd dX11_rankOf_70 ?_
          refine j_istore (lv' := [some (.ref 76), some (.int _), some (.int _), some (.int _), some (.int _), some (.int _), some (.int _), some (.int _)]) dX11_rankOf_71 (by decide) rfl ?_
          refine j_iload dX11_rankOf_73 rfl ?_
          refine j_iload_n dX11_rankOf_75 rfl rfl ?_
          refine j_iload dX11_rankOf_76 rfl ?_
          refine j_callSi [.int _, .int _] [.int _] dX11_rankOf_78 jlk_X11_99 rfl rfl (Nat.le_of_ble_eq_true rfl) (m_isNext hc (by omega)) ?_
          refine j_if_eq (tgt := 99) dX11_rankOf_81 (by decide) (fun h81 => ?_) (fun h81 => ?_)
          · have h81 := bz_f h81
            rw [h81, if_neg (by simp)] at e2
            refine j_iconst (v := nI 0) dX11_rankOf_99 rfl ?_
            refine jn_iadd dX11_rankOf_100 ?_
            refine j_istore (lv' := [some (.ref 76), some (.int _), some (.int _), some (.int _), some (.int _), some (.int _), some (.int _), some (.int _)]) dX11_rankOf_101 (by decide) rfl ?_
            refine jn_iinc (lv' := [some (.ref 76), some (.int _), some (.int _), some (.int _), some (.int _), some (.int _), some (.int _), some (.int _)]) dX11_rankOf_103 rfl (by decide) rfl ?_
            refine j_goto (tgt := 38) dX11_rankOf_106 (by decide) ?_
            refine j_sub ?_ (ih (i + 1) (by omega) (by omega))
            rw [e1, e2]
            exact ⟨rfl, rfl, rfl, rfl, rfl, rfl, rfl, rfl, trivial⟩
          · have h81 := bz_t h81
            refine j_aload_n dX11_rankOf_84 rfl rfl ?_
            refine t_getR (b := 84) dX11_rankOf_85 jfl_X11_33 (fun _ _ _ => rfl) rfl ?_
            refine j_iload dX11_rankOf_88 rfl ?_
            refine t_iaload dX11_rankOf_90 (fun _ _ _ => rfl) (by omega) (by decide) ?_
            refine j_iload_n dX11_rankOf_91 rfl rfl ?_
            refine j_icmp_ne (tgt := 99) dX11_rankOf_92 (by decide) (fun h92 => ?_) (fun h92 => ?_)
            · rw [h81, if_neg (by simp [h92])] at e2
              refine j_iconst (v := nI 0) dX11_rankOf_99 rfl ?_
              refine jn_iadd dX11_rankOf_100 ?_
              refine j_istore (lv' := [some (.ref 76), some (.int _), some (.int _), some (.int _), some (.int _), some (.int _), some (.int _), some (.int _)]) dX11_rankOf_101 (by decide) rfl ?_
              refine jn_iinc (lv' := [some (.ref 76), some (.int _), some (.int _), some (.int _), some (.int _), some (.int _), some (.int _), some (.int _)]) dX11_rankOf_103 rfl (by decide) rfl ?_
              refine j_goto (tgt := 38) dX11_rankOf_106 (by decide) ?_
              refine j_sub ?_ (ih (i + 1) (by omega) (by omega))
              rw [e1, e2]
              exact ⟨rfl, rfl, rfl, rfl, rfl, rfl, rfl, rfl, trivial⟩
            · have h92 : A 84 i = nI k := (by first | exact h92 | simpa using h92)
              rw [h81, if_pos (by simp [h92])] at e2
              refine j_iconst (v := nI 1) dX11_rankOf_95 rfl ?_
              refine j_goto (tgt := 100) dX11_rankOf_96 (by decide) ?_
              refine jn_iadd dX11_rankOf_100 ?_
              refine j_istore (lv' := [some (.ref 76), some (.int _), some (.int _), some (.int _), some (.int _), some (.int _), some (.int _), some (.int _)]) dX11_rankOf_101 (by decide) rfl ?_
              refine jn_iinc (lv' := [some (.ref 76), some (.int _), some (.int _), some (.int _), some (.int _), some (.int _), some (.int _), some (.int _)]) dX11_rankOf_103 rfl (by decide) rfl ?_
              refine j_goto (tgt := 38) dX11_rankOf_106 (by decide) ?_
              refine j_sub ?_ (ih (i + 1) (by omega) (by omega))
              rw [e1, e2]
              exact ⟨rfl, rfl, rfl, rfl, rfl, rfl, rfl, rfl, trivial⟩
        · have h62 := bz_t h62
          rw [h53, h62, if_pos (by simp)] at e1
          refine j_iconst (v := nI 1) dX11_rankOf_65 rfl ?_
          refine j_goto (tgt := 70) dX11_rankOf_66 (by decide) ?_
          refine jn_iadd dX11_rankOf_70 ?_
          refine j_istore (lv' := [some (.ref 76), some (.int _), some (.int _), some (.int _), some (.int _), some (.int _), some (.int _), some (.int _)]) dX11_rankOf_71 (by decide) rfl ?_
          refine j_iload dX11_rankOf_73 rfl ?_
          refine j_iload_n dX11_rankOf_75 rfl rfl ?_
          refine j_iload dX11_rankOf_76 rfl ?_
          refine j_callSi [.int _, .int _] [.int _] dX11_rankOf_78 jlk_X11_99 rfl rfl (Nat.le_of_ble_eq_true rfl) (m_isNext hc (by omega)) ?_
          refine j_if_eq (tgt := 99) dX11_rankOf_81 (by decide) (fun h81 => ?_) (fun h81 => ?_)
          · have h81 := bz_f h81
            rw [h81, if_neg (by simp)] at e2
            refine j_iconst (v := nI 0) dX11_rankOf_99 rfl ?_
            refine jn_iadd dX11_rankOf_100 ?_
            refine j_istore (lv' := [some (.ref 76), some (.int _), some (.int _), some (.int _), some (.int _), some (.int _), some (.int _), some (.int _)]) dX11_rankOf_101 (by decide) rfl ?_
            refine jn_iinc (lv' := [some (.ref 76), some (.int _), some (.int _), some (.int _), some (.int _), some (.int _), some (.int _), some (.int _)]) dX11_rankOf_103 rfl (by decide) rfl ?_
            refine j_goto (tgt := 38) dX11_rankOf_106 (by decide) ?_
            refine j_sub ?_ (ih (i + 1) (by omega) (by omega))
            rw [e1, e2]
            exact ⟨rfl, rfl, rfl, rfl, rfl, rfl, rfl, rfl, trivial⟩
          · have h81 := bz_t h81
            refine j_aload_n dX11_rankOf_84 rfl rfl ?_
            refine t_getR (b := 84) dX11_rankOf_85 jfl_X11_33 (fun _ _ _ => rfl) rfl ?_
            refine j_iload dX11_rankOf_88 rfl ?_
            refine t_iaload dX11_rankOf_90 (fun _ _ _ => rfl) (by omega) (by decide) ?_
            refine j_iload_n dX11_rankOf_91 rfl rfl ?_
            refine j_icmp_ne (tgt := 99) dX11_rankOf_92 (by decide) (fun h92 => ?_) (fun h92 => ?_)
            · rw [h81, if_neg (by simp [h92])] at e2
              refine j_iconst (v := nI 0) dX11_rankOf_99 rfl ?_
              refine jn_iadd dX11_rankOf_100 ?_
              refine j_istore (lv' := [some (.ref 76), some (.int _), some (.int _), some (.int _), some (.int _), some (.int _), some (.int _), some (.int _)]) dX11_rankOf_101 (by decide) rfl ?_
              refine jn_iinc (lv' := [some (.ref 76), some (.int _), some (.int _), some (.int _), some (.int _), some (.int _), some (.int _), some (.int _)]) dX11_rankOf_103 rfl (by decide) rfl ?_
              refine j_goto (tgt := 38) dX11_rankOf_106 (by decide) ?_
              refine j_sub ?_ (ih (i + 1) (by omega) (by omega))
              rw [e1, e2]
              exact ⟨rfl, rfl, rfl, rfl, rfl, rfl, rfl, rfl, trivial⟩
            · have h92 : A 84 i = nI k := (by first | exact h92 | simpa using h92)
              rw [h81, if_pos (by simp [h92])] at e2
              refine j_iconst (v := nI 1) dX11_rankOf_95 rfl ?_
              refine j_goto (tgt := 100) dX11_rankOf_96 (by decide) ?_
              refine jn_iadd dX11_rankOf_100 ?_
              refine j_istore (lv' := [some (.ref 76), some (.int _), some (.int _), some (.int _), some (.int _), some (.int _), some (.int _), some (.int _)]) dX11_rankOf_101 (by decide) rfl ?_
              refine jn_iinc (lv' := [some (.ref 76), some (.int _), some (.int _), some (.int _), some (.int _), some (.int _), some (.int _), some (.int _)]) dX11_rankOf_103 rfl (by decide) rfl ?_
              refine j_goto (tgt := 38) dX11_rankOf_106 (by decide) ?_
              refine j_sub ?_ (ih (i + 1) (by omega) (by omega))
              rw [e1, e2]
              exact ⟨rfl, rfl, rfl, rfl, rfl, rfl, rfl, rfl, trivial⟩

set_option maxHeartbeats 200000 in
set_option maxRecDepth 100000 in
theorem m_rankOf_t (hw : ow (A 84)) (hv : A 77 = nIf v) {tm : Nat} (htm : tm ≤ 120) (ht : ∀ i, tx i < 256) (h15 : X 76 15 = nI tm) (h87 : A 87 = nIf tx) {k c : Nat} {s : Int32} (hk : k < 6) (hvk : v k < 49) (hc : c < 49) : jMet (d + 51) yX11_rankOf cX11_rankOf 8 (some .int) 0 0 [.ref 76, .int (nI k), .int s, .int (nI c)] (tw X A L) ((fun z w => z = some (.int (RkM true tm tx v (A 84) (nI k) s c)) ∧ ∃ y N : Nat → Int32, w = tw (zX X y) (va_up A 88 N) L)) := by
  refine jMet_of (by decide) (Nat.le_of_ble_eq_true rfl) none (Or.inl rfl) ?_
  show jWP none RX11 cX11_rankOf 8 (some .int) (d + 51) 0 0 0 [some (.ref 76), some (.int (nI k)), some (.int s), some (.int (nI c)), none, none, none, none] [] (tw X A L) ((fun z w => z = some (.int (RkM true tm tx v (A 84) (nI k) s c)) ∧ ∃ y N : Nat → Int32, w = tw (zX X y) (va_up A 88 N) L))
  refine j_aload_n dX11_rankOf_0 rfl rfl ?_
  refine t_getR (b := 81) dX11_rankOf_1 jfl_X11_24 (fun _ _ _ => rfl) rfl ?_
  refine j_bipush (v := nI 49) dX11_rankOf_4 rfl ?_
  refine j_aload_n dX11_rankOf_6 rfl rfl ?_
  refine t_getR (b := 77) dX11_rankOf_7 jfl_X11_11 (fun _ _ _ => rfl) rfl ?_
  refine j_iload_n dX11_rankOf_10 rfl rfl ?_
  refine t_iaload dX11_rankOf_11 (fun _ _ _ => rfl) (by omega) (by decide) ?_
  refine j_topE (e' := nI (v k)) (by rw [hv]; rfl) ?_
  refine jn_imul dX11_rankOf_12 ?_
  refine j_iload_n dX11_rankOf_13 rfl rfl ?_
  refine jn_iadd dX11_rankOf_14 ?_
  refine t_ialoadT dX11_rankOf_15 (fun _ _ _ => rfl) (by omega) (by decide) ?_
  refine j_topE (e' := nI (dsN (v k) c)) (by rw [Nat.mul_comm]; exact tDs_at hc) ?_
  refine j_istore (lv' := [some (.ref 76), some (.int _), some (.int _), some (.int _), some (.int _), none, none, none]) dX11_rankOf_16 (by decide) rfl ?_
  refine j_aload_n dX11_rankOf_18 rfl rfl ?_
  refine t_getI dX11_rankOf_19 jfl_X11_95 (fun _ _ _ => rfl) (fun _ => rfl) ?_
  refine j_topE (e' := nI tm) h15 ?_
  refine jn_if_ge (tgt := 29) dX11_rankOf_22 (by decide) (by omega) ?_
  refine j_iconst (v := nI 0) dX11_rankOf_29 rfl ?_
  refine j_istore (lv' := [some (.ref 76), some (.int _), some (.int _), some (.int _), some (.int _), some (.int _), none, none]) dX11_rankOf_30 (by decide) rfl ?_
  refine j_iconst (v := nI 0) dX11_rankOf_32 rfl ?_
  refine j_istore (lv' := [some (.ref 76), some (.int _), some (.int _), some (.int _), some (.int _), some (.int _), some (.int _), none]) dX11_rankOf_33 (by decide) rfl ?_
  refine j_iconst (v := nI 0) dX11_rankOf_35 rfl ?_
  refine j_istore (lv' := [some (.ref 76), some (.int _), some (.int _), some (.int _), some (.int _), some (.int _), some (.int _), some (.int _)]) dX11_rankOf_36 (by decide) rfl ?_
  refine l_rankOf hw hk hc ?_ 50 0 (by decide) (by decide)
  refine j_aload_n dX11_rankOf_109 rfl rfl ?_
  refine t_getR (b := 88) dX11_rankOf_110 jfl_X11_45 (fun _ _ _ => rfl) rfl ?_
  refine j_iconst (v := nI 0) dX11_rankOf_113 rfl ?_
  refine j_iload dX11_rankOf_114 rfl ?_
  refine t_iastore dX11_rankOf_116 (fun _ _ _ => rfl) (by omega) (by decide) ?_
  refine j_aload_n dX11_rankOf_117 rfl rfl ?_
  refine t_getR (b := 88) dX11_rankOf_118 jfl_X11_45 (fun _ _ _ => rfl) rfl ?_
  refine j_iconst (v := nI 1) dX11_rankOf_121 rfl ?_
  refine j_iload dX11_rankOf_122 rfl ?_
  refine t_iastore dX11_rankOf_124 (fun _ _ _ => rfl) (by omega) (by decide) ?_
  refine j_aload_n dX11_rankOf_125 rfl rfl ?_
  refine t_getR (b := 88) dX11_rankOf_126 jfl_X11_45 (fun _ _ _ => rfl) rfl ?_
  refine j_iconst (v := nI 2) dX11_rankOf_129 rfl ?_
  refine j_iload dX11_rankOf_130 rfl ?_
  refine t_iastore dX11_rankOf_132 (fun _ _ _ => rfl) (by omega) (by decide) ?_
  refine j_aload_n dX11_rankOf_133 rfl rfl ?_
  refine t_getR (b := 88) dX11_rankOf_134 jfl_X11_45 (fun _ _ _ => rfl) rfl ?_
  refine j_iconst (v := nI 3) dX11_rankOf_137 rfl ?_
  refine j_iload_n dX11_rankOf_138 rfl rfl ?_
  refine t_iastore dX11_rankOf_139 (fun _ _ _ => rfl) (by omega) (by decide) ?_
  refine j_aload_n dX11_rankOf_140 rfl rfl ?_
  refine t_getR (b := 88) dX11_rankOf_141 jfl_X11_45 (fun _ _ _ => rfl) rfl ?_
  refine j_iconst (v := nI 4) dX11_rankOf_144 rfl ?_
  refine j_iload_n dX11_rankOf_145 rfl rfl ?_
  refine t_iastore dX11_rankOf_146 (fun _ _ _ => rfl) (by omega) (by decide) ?_
  refine j_aload_n dX11_rankOf_147 rfl rfl ?_
  refine t_getR (b := 88) dX11_rankOf_148 jfl_X11_45 (fun _ _ _ => rfl) rfl ?_
  refine j_iconst (v := nI 5) dX11_rankOf_151 rfl ?_
  refine j_iload_n dX11_rankOf_152 rfl rfl ?_
  refine j_bipush (v := nI 7) dX11_rankOf_153 rfl ?_
  refine jn_idiv dX11_rankOf_155 (by omega) (by decide) (by decide) ?_
  refine t_iastore dX11_rankOf_156 (fun _ _ _ => rfl) (by omega) (by decide) ?_
  refine j_aload_n dX11_rankOf_157 rfl rfl ?_
  refine j_iconst (v := nI 0) dX11_rankOf_158 rfl ?_
  refine j_aload_n dX11_rankOf_159 rfl rfl ?_
  refine t_getI dX11_rankOf_160 jfl_X11_95 (fun _ _ _ => rfl) (fun _ => rfl) ?_
  refine j_topE (e' := nI tm) h15 ?_
  simp only [vu_s, vu_up]
  refine j_callVi [.int _, .int _] [] dX11_rankOf_163 jlk_X11_205 rfl rfl rfl rfl (Nat.le_of_ble_eq_true rfl) (m_workOut (tx := tx) htm ht (Or.inr ⟨rfl, by rw [vu_n _ _ _ (by decide)]; exact h87⟩) rfl) ?_
  refine j_ireturn dX11_rankOf_166 rfl ?_
  refine ⟨?_, _, _, tw_eq pX_z rfl rfl⟩
  unfold RkM
  rw [if_pos rfl, nI_clamp (by omega), vu_s]
  exact congrArg (fun z => some (Value.int z.1)) (wkF_cg (fun i hi => nm6_at i hi))

set_option maxHeartbeats 200000 in
set_option maxRecDepth 100000 in
theorem m_rankOf_f (hw : ow (A 84)) (hv : A 77 = nIf v) {tm : Nat} (htm : tm ≤ 120) (ht : ∀ i, tx i < 256) (h15 : X 76 15 = -1) (h87 : A 87 = nIf tx) {k c : Nat} {s : Int32} (hk : k < 6) (hvk : v k < 49) (hc : c < 49) : jMet (d + 51) yX11_rankOf cX11_rankOf 8 (some .int) 0 0 [.ref 76, .int (nI k), .int s, .int (nI c)] (tw X A L) ((fun z w => z = some (.int (RkM false tm tx v (A 84) (nI k) s c)) ∧ ∃ y N : Nat → Int32, w = tw (zX X y) (va_up A 88 N) L)) := by
  refine jMet_of (by decide) (Nat.le_of_ble_eq_true rfl) none (Or.inl rfl) ?_
  show jWP none RX11 cX11_rankOf 8 (some .int) (d + 51) 0 0 0 [some (.ref 76), some (.int (nI k)), some (.int s), some (.int (nI c)), none, none, none, none] [] (tw X A L) ((fun z w => z = some (.int (RkM false tm tx v (A 84) (nI k) s c)) ∧ ∃ y N : Nat → Int32, w = tw (zX X y) (va_up A 88 N) L))
  refine j_aload_n dX11_rankOf_0 rfl rfl ?_
  refine t_getR (b := 81) dX11_rankOf_1 jfl_X11_24 (fun _ _ _ => rfl) rfl ?_
  refine j_bipush (v := nI 49) dX11_rankOf_4 rfl ?_
  refine j_aload_n dX11_rankOf_6 rfl rfl ?_
  refine t_getR (b := 77) dX11_rankOf_7 jfl_X11_11 (fun _ _ _ => rfl) rfl ?_
  refine j_iload_n dX11_rankOf_10 rfl rfl ?_
  refine t_iaload dX11_rankOf_11 (fun _ _ _ => rfl) (by omega) (by decide) ?_
  refine j_topE (e' := nI (v k)) (by rw [hv]; rfl) ?_
  refine jn_imul dX11_rankOf_12 ?_
  refine j_iload_n dX11_rankOf_13 rfl rfl ?_
  refine jn_iadd dX11_rankOf_14 ?_
  refine t_ialoadT dX11_rankOf_15 (fun _ _ _ => rfl) (by omega) (by decide) ?_
  refine j_topE (e' := nI (dsN (v k) c)) (by rw [Nat.mul_comm]; exact tDs_at hc) ?_
  refine j_istore (lv' := [some (.ref 76), some (.int _), some (.int _), some (.int _), some (.int _), none, none, none]) dX11_rankOf_16 (by decide) rfl ?_
  refine j_aload_n dX11_rankOf_18 rfl rfl ?_
  refine t_getI dX11_rankOf_19 jfl_X11_95 (fun _ _ _ => rfl) (fun _ => rfl) ?_
  refine j_topE (e' := -1) h15 ?_
  refine j_if_ge (tgt := 29) dX11_rankOf_22 (by decide) (fun h22 => absurd h22 (by decide)) (fun h22 => ?_)
  refine j_iload dX11_rankOf_25 rfl ?_
  refine j_ineg dX11_rankOf_27 ?_
  refine j_ireturn dX11_rankOf_28 rfl ?_
  refine ⟨?_, X 76, A 88, ?_⟩
  · unfold RkM
    rw [if_neg (by decide), nI_clamp (by omega)]
  · rw [zX_self, vu_self]

theorem m_rankOf (hw : ow (A 84)) (hv : A 77 = nIf v) {td : Bool} {tm : Nat} (htm : tm ≤ 120) (ht : ∀ i, tx i < 256) (h15 : X 76 15 = if td = true then nI tm else -1) (h87 : A 87 = nIf tx) {k c : Nat} {s : Int32} (hk : k < 6) (hvk : v k < 49) (hc : c < 49) : jMet (d + 51) yX11_rankOf cX11_rankOf 8 (some .int) 0 0 [.ref 76, .int (nI k), .int s, .int (nI c)] (tw X A L) (fun z w => z = some (.int (RkM td tm tx v (A 84) (nI k) s c)) ∧ ∃ y N : Nat → Int32, w = tw (zX X y) (va_up A 88 N) L) := by
  cases td with
  | true => exact m_rankOf_t hw hv htm ht h15 h87 hk hvk hc
  | false => exact m_rankOf_f hw hv htm ht h15 h87 hk hvk hc

end CT56