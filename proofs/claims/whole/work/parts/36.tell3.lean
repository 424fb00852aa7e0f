def jgP (Rk : (Nat → Int32) → Int32 → Int32 → Nat → Int32) (na ln : Nat) (E : Nat → Int32) (c : cS) (i : Nat) : Bool :=
  decide (3 * i + 2 < ln) && (slA na (E (3 * i)) (E (3 * i + 1)) && ((seP Rk c (E (3 * i)) (E (3 * i + 1))).isSome && decide (plP (seP Rk c (E (3 * i)) (E (3 * i + 1))) = E (3 * i + 2))))
def jgF (Rk : (Nat → Int32) → Int32 → Int32 → Nat → Int32) (na ln : Nat) (E : Nat → Int32) : Nat → Nat → cS → Int32
  | 0, _, _ => -2
  | m + 1, i, c => if 3 * i < ln then (if jgP Rk na ln E c i = true then jgF Rk na ln E m (i + 1) (seS Rk c (E (3 * i)) (E (3 * i + 1))) else nI i) else -2
section JG
variable {Rk : (Nat → Int32) → Int32 → Int32 → Nat → Int32} {na ln : Nat} {E : Nat → Int32} {c : cS} {i m : Nat}
theorem jgF_o (h : ¬ 3 * i < ln) : jgF Rk na ln E m i c = -2 := by
  cases m with
  | zero => rfl
  | succ m => exact if_neg h
theorem jgF_f (h : 3 * i < ln) (h2 : jgP Rk na ln E c i = false) : jgF Rk na ln E (m + 1) i c = nI i := (if_pos h).trans (if_neg (by rw [h2]; decide))
theorem jgF_t (h : 3 * i < ln) (h2 : jgP Rk na ln E c i = true) : jgF Rk na ln E (m + 1) i c = jgF Rk na ln E m (i + 1) (seS Rk c (E (3 * i)) (E (3 * i + 1))) := (if_pos h).trans (if_pos h2)
theorem jgP_1 (h : ¬ 3 * i + 2 < ln) : jgP Rk na ln E c i = false := by simp [jgP, h]
theorem jgP_2 (h : slA na (E (3 * i)) (E (3 * i + 1)) = false) : jgP Rk na ln E c i = false := by simp [jgP, h]
theorem jgP_3 (h : seP Rk c (E (3 * i)) (E (3 * i + 1)) = none) : jgP Rk na ln E c i = false := by simp [jgP, h]
theorem jgP_4 (h : ¬ plP (seP Rk c (E (3 * i)) (E (3 * i + 1))) = E (3 * i + 2)) : jgP Rk na ln E c i = false := by simp [jgP, h]
theorem jgP_t (h1 : 3 * i + 2 < ln) (h2 : slA na (E (3 * i)) (E (3 * i + 1)) = true) (h3 : (seP Rk c (E (3 * i)) (E (3 * i + 1))).isSome = true) (h4 : plP (seP Rk c (E (3 * i)) (E (3 * i + 1))) = E (3 * i + 2)) : jgP Rk na ln E c i = true := by simp [jgP, h1, h2, h3, h4]
end JG
section CT16
variable {d : Nat} {X A : Nat → Nat → Int32} {L : Nat → Nat → Int64} {w : jW} {B : Nat} {cd vl st an en : Nat → Nat} {n na : Nat} {v : Nat → Nat}

set_option maxHeartbeats 200000 in
set_option maxRecDepth 100000 in
theorem c_X8_elementAt_o {S ln : Nat} (hS : isSh S) (hh : X S 0 = nI 2) (hln : X S 3 = nI ln) (l60 : ln ≤ 60) {j : Nat} (hj : j < 2 ^ 31) : jMet (d + 1) yX8_elementAt cX8_elementAt 2 (some .long) 0 0 [.ref S, .int (nI j)] (tw X A L) (jRl (if j < ln then L (S + 1) j else 0) (tw X A L)) := by
  refine jMet_of (by decide) (Nat.le_of_ble_eq_true rfl) none (Or.inl rfl) ?_
  show jWP none RX8 cX8_elementAt 2 (some .long) (d + 1) 0 0 0 [some (.ref S), some (.int (nI j))] [] (tw X A L) (jRl (if j < ln then L (S + 1) j else 0) (tw X A L))
  refine j_aload_n dX8_elementAt_0 rfl rfl ?_
  refine j_iload_n dX8_elementAt_1 rfl rfl ?_
  refine j_callVi [.int _] [] dX8_elementAt_2 jlk_X8_34 rfl rfl ((shS0 hS) _ _ _) rfl (Nat.le_of_ble_eq_true rfl) (c_X8_hasPlace hS hh (by decide) hln l60) ?_
  refine j_if_eq (tgt := 17) dX8_elementAt_5 (by decide) (fun h5 => ?_) (fun h5 => ?_)
  · have h5 : ¬ j < ln := fun q => by rw [hpI_in q l60] at h5; exact absurd h5 (by decide)
    refine j_lconst (v := 0) dX8_elementAt_17 rfl ?_
    refine j_lreturn dX8_elementAt_18 rfl ?_
    exact ⟨by rw [if_neg h5], rfl⟩
  · have h5 : j < ln := Nat.lt_of_not_le fun q => h5 (hpI_ge q hj)
    refine j_aload_n dX8_elementAt_8 rfl rfl ?_
    refine t_getR (b := (S + 1)) dX8_elementAt_9 jfl_X8_24 (shS0 hS) rfl ?_
    refine j_iload_n dX8_elementAt_12 rfl rfl ?_
    refine t_laload dX8_elementAt_13 (shS1 hS) (by omega) (by decide) ?_
    refine j_goto (tgt := 18) dX8_elementAt_14 (by decide) ?_
    refine j_lreturn dX8_elementAt_18 rfl ?_
    exact ⟨by rw [if_pos h5], rfl⟩

set_option maxHeartbeats 200000 in
set_option maxRecDepth 100000 in
theorem c_X8_byteAt_o {S ln : Nat} (hS : isSh S) (hh : X S 0 = nI 2) (hln : X S 3 = nI ln) (l60 : ln ≤ 60) {j : Nat} (hj : j < 2 ^ 31) : jMet (d + 2) yX8_byteAt cX8_byteAt 2 (some .int) 0 0 [.ref S, .int (nI j)] (tw X A L) (jRi (if j < ln then rE L S j else 0) (tw X A L)) := by
  refine jMet_of (by decide) (Nat.le_of_ble_eq_true rfl) none (Or.inl rfl) ?_
  show jWP none RX8 cX8_byteAt 2 (some .int) (d + 2) 0 0 0 [some (.ref S), some (.int (nI j))] [] (tw X A L) (jRi (if j < ln then rE L S j else 0) (tw X A L))
  refine j_aload_n dX8_byteAt_0 rfl rfl ?_
  refine j_iload_n dX8_byteAt_1 rfl rfl ?_
  refine j_callVl [.int _] [] dX8_byteAt_2 jlk_X8_38 rfl rfl ((shS0 hS) _ _ _) rfl (Nat.le_of_ble_eq_true rfl) (c_X8_elementAt_o hS hh hln l60 hj) ?_
  refine j_l2i dX8_byteAt_5 ?_
  refine j_ireturn dX8_byteAt_6 rfl ?_
  refine ⟨?_, rfl⟩
  split <;> rfl

set_option maxHeartbeats 200000 in
set_option maxRecDepth 100000 in
theorem l_X9_firstFalse (hr : rul B cd vl st an en n na v X A) {S ln : Nat} (hS : isSh S) (hh : X S 0 = nI 2) (hln : X S 3 = nI ln) (l60 : ln ≤ 60) {K : Nat} {r : Int32} : ∀ (m i : Nat) (f g : Nat → Int32) (c : cS), i + m = 20 → zb 49 c.1 ∧ zb 49 c.2 → (jgF (RkC cd vl st an en n v) na ln (rE L S) m i c) = r → jWP none RX9 cX9_firstFalse 8 (some .int) (d + 5) 0 0 10 [some (.ref 35), some (.ref S), some (.ref K), some (.int (nI i)), none, none, none, none] [] (tw (cX X 39 c.1) (scr (cA A 39 c.1 c.2) B f g) L) ((fun z w => z = some (.int r) ∧ ∃ (f g : Nat → Int32) (c' : cS), (zb 49 c'.1 ∧ zb 49 c'.2) ∧ w = tw (cX X 39 c'.1) (scr (cA A 39 c'.1 c'.2) B f g) L)) := by
  have hS9 : 64 ≤ S := by unfold isSh at hS; omega
  have hB := hr.1
  have hna := hr.2.2.2.2.2.2.2.2.2.2.1
  intro m
  induction m with
  | zero =>
    intro i f g c hi hz hr9
    refine j_iload_n dX9_firstFalse_10 rfl rfl ?_
    refine j_bipush (v := nI 20) dX9_firstFalse_11 rfl ?_
    refine jn_icmp_ge (tgt := 133) dX9_firstFalse_13 (by decide) (by omega) (by omega) (fun h13 => ?_) (fun h13 => absurd h13 (by omega))
    refine j_bipush (v := (-2)) dX9_firstFalse_133 rfl ?_
    refine j_ireturn dX9_firstFalse_135 rfl ?_
    refine ⟨?_, f, g, c, hz, rfl⟩
    rw [← hr9]
    rfl
  | succ m ih =>
    intro i f g c hi hz hr9
    refine j_iload_n dX9_firstFalse_10 rfl rfl ?_
    refine j_bipush (v := nI 20) dX9_firstFalse_11 rfl ?_
    refine jn_icmp_ge (tgt := 133) dX9_firstFalse_13 (by decide) (by omega) (by omega) (fun h13 => absurd h13 (by omega)) (fun h13 => ?_)
    refine j_aload_n dX9_firstFalse_16 rfl rfl ?_
    refine j_iconst (v := nI 3) dX9_firstFalse_17 rfl ?_
    refine j_iload_n dX9_firstFalse_18 rfl rfl ?_
    refine jn_imul dX9_firstFalse_19 ?_
    refine j_callVi [.int _] [] dX9_firstFalse_20 jlk_X9_64 rfl rfl ((shS0 hS) _ _ _) rfl (Nat.le_of_ble_eq_true rfl) (c_X8_hasPlace hS (by rw [cX_n _ _ (by omega)]; exact hh) (by decide) (by rw [cX_n _ _ (by omega)]; exact hln) l60) ?_
    refine j_if_eq (tgt := 133) dX9_firstFalse_23 (by decide) (fun h23 => ?_) (fun h23 => ?_)
    · have h23 : ¬ 3 * i < ln := fun q => by rw [hpI_in q l60] at h23; exact absurd h23 (by decide)
      refine j_bipush (v := (-2)) dX9_firstFalse_133 rfl ?_
      refine j_ireturn dX9_firstFalse_135 rfl ?_
      refine ⟨?_, f, g, c, hz, rfl⟩
      rw [← hr9]
      rw [jgF_o h23]
    · have h23 : 3 * i < ln := Nat.lt_of_not_le fun q => h23 (hpI_ge q (by omega))
      refine j_aload_n dX9_firstFalse_26 rfl rfl ?_
      refine j_iconst (v := nI 3) dX9_firstFalse_27 rfl ?_
      refine j_iload_n dX9_firstFalse_28 rfl rfl ?_
      refine jn_imul dX9_firstFalse_29 ?_
      refine j_callVi [.int _] [] dX9_firstFalse_30 jlk_X9_54 rfl rfl ((shS0 hS) _ _ _) rfl (Nat.le_of_ble_eq_true rfl) (c_X8_byteAt hS (by rw [cX_n _ _ (by omega)]; exact hh) (by rw [cX_n _ _ (by omega)]; exact hln) l60 (by omega)) ?_
      refine j_istore (lv' := [some (.ref 35), some (.ref S), some (.ref K), some (.int _), some (.int _), none, none, none]) dX9_firstFalse_33 (by decide) rfl ?_
      refine j_aload_n dX9_firstFalse_35 rfl rfl ?_
      refine j_iconst (v := nI 3) dX9_firstFalse_36 rfl ?_
      refine j_iload_n dX9_firstFalse_37 rfl rfl ?_
      refine jn_imul dX9_firstFalse_38 ?_
      refine j_iconst (v := nI 1) dX9_firstFalse_39 rfl ?_
      refine jn_iadd dX9_firstFalse_40 ?_
      refine j_callVi [.int _] [] dX9_firstFalse_41 jlk_X9_54 rfl rfl ((shS0 hS) _ _ _) rfl (Nat.le_of_ble_eq_true rfl) (c_X8_byteAt_o hS (by rw [cX_n _ _ (by omega)]; exact hh) (by rw [cX_n _ _ (by omega)]; exact hln) l60 (by omega)) ?_
      refine j_istore (lv' := [some (.ref 35), some (.ref S), some (.ref K), some (.int _), some (.int _), some (.int _), none, none]) dX9_firstFalse_44 (by decide) rfl ?_
      refine j_aload_n dX9_firstFalse_46 rfl rfl ?_
      refine j_iconst (v := nI 3) dX9_firstFalse_47 rfl ?_
      refine j_iload_n dX9_firstFalse_48 rfl rfl ?_
      refine jn_imul dX9_firstFalse_49 ?_
      refine j_iconst (v := nI 2) dX9_firstFalse_50 rfl ?_
      refine jn_iadd dX9_firstFalse_51 ?_
      refine j_callVi [.int _] [] dX9_firstFalse_52 jlk_X9_64 rfl rfl ((shS0 hS) _ _ _) rfl (Nat.le_of_ble_eq_true rfl) (c_X8_hasPlace hS (by rw [cX_n _ _ (by omega)]; exact hh) (by decide) (by rw [cX_n _ _ (by omega)]; exact hln) l60) ?_
      refine j_if_eq (tgt := 76) dX9_firstFalse_55 (by decide) (fun h55 => ?_) (fun h55 => ?_)
      · have h55 : ¬ 3 * i + 2 < ln := fun q => by rw [hpI_in q l60] at h55; exact absurd h55 (by decide)
        refine j_iconst (v := nI 0) dX9_firstFalse_76 rfl ?_
        refine j_istore (lv' := [some (.ref 35), some (.ref S), some (.ref K), some (.int _), some (.int _), some (.int _), some (.int _), none]) dX9_firstFalse_77 (by decide) rfl ?_
        refine j_iload dX9_firstFalse_79 rfl ?_
        refine j_if_eq (tgt := 102) dX9_firstFalse_81 (by decide) (fun _ => ?_) (fun h => absurd (by decide) h)
        refine j_bipush (v := (-2)) dX9_firstFalse_102 rfl ?_
        refine j_istore (lv' := [some (.ref 35), some (.ref S), some (.ref K), some (.int _), some (.int _), some (.int _), some (.int _), some (.int _)]) dX9_firstFalse_104 (by decide) rfl ?_
        refine j_iload dX9_firstFalse_106 rfl ?_
        refine j_if_lt (tgt := 125) dX9_firstFalse_108 (by decide) (fun _ => ?_) (fun h => absurd (by decide) h)
        refine j_iload_n dX9_firstFalse_125 rfl rfl ?_
        refine j_ireturn dX9_firstFalse_126 rfl ?_
        refine ⟨?_, f, g, c, hz, rfl⟩
        rw [← hr9]
        rw [jgF_f h23 (jgP_1 (E := rE L S) h55)]
      · have h55 : 3 * i + 2 < ln := Nat.lt_of_not_le fun q => h55 (hpI_ge q (by omega))
        refine j_aload_n dX9_firstFalse_58 rfl rfl ?_
        refine t_getR (b := 15) dX9_firstFalse_59 jfl_X9_33 (fun _ _ _ => rfl) rfl ?_
        refine j_iload dX9_firstFalse_62 rfl ?_
        refine j_iload dX9_firstFalse_64 rfl ?_
        refine j_callVi [.int _, .int _] [] dX9_firstFalse_66 jlk_X9_68 rfl rfl rfl rfl (Nat.le_of_ble_eq_true rfl) (c_X6_isSale (rul_k hr (Or.inl rfl))) ?_
        refine j_if_eq (tgt := 76) dX9_firstFalse_69 (by decide) (fun h69 => ?_) (fun h69 => ?_)
        · have h69 := bz_f h69
          have e9 : (if 3 * i + 1 < ln then rE L S (3 * i + 1) else 0) = rE L S (3 * i + 1) := if_pos (by omega)
          rw [e9] at h69
          have h69 : slA na (rE L S (3 * i)) (rE L S (3 * i + 1)) = false := h69
          refine j_iconst (v := nI 0) dX9_firstFalse_76 rfl ?_
          refine j_istore (lv' := [some (.ref 35), some (.ref S), some (.ref K), some (.int _), some (.int _), some (.int _), some (.int _), none]) dX9_firstFalse_77 (by decide) rfl ?_
          refine j_iload dX9_firstFalse_79 rfl ?_
          refine j_if_eq (tgt := 102) dX9_firstFalse_81 (by decide) (fun _ => ?_) (fun h => absurd (by decide) h)
          refine j_bipush (v := (-2)) dX9_firstFalse_102 rfl ?_
          refine j_istore (lv' := [some (.ref 35), some (.ref S), some (.ref K), some (.int _), some (.int _), some (.int _), some (.int _), some (.int _)]) dX9_firstFalse_104 (by decide) rfl ?_
          refine j_iload dX9_firstFalse_106 rfl ?_
          refine j_if_lt (tgt := 125) dX9_firstFalse_108 (by decide) (fun _ => ?_) (fun h => absurd (by decide) h)
          refine j_iload_n dX9_firstFalse_125 rfl rfl ?_
          refine j_ireturn dX9_firstFalse_126 rfl ?_
          refine ⟨?_, f, g, c, hz, rfl⟩
          rw [← hr9]
          rw [jgF_f h23 (jgP_2 (E := rE L S) h69)]
        · have h69 := bz_t h69
          have e9 : (if 3 * i + 1 < ln then rE L S (3 * i + 1) else 0) = rE L S (3 * i + 1) := if_pos (by omega)
          rw [e9] at h69
          have h69 : slA na (rE L S (3 * i)) (rE L S (3 * i + 1)) = true := h69
          obtain ⟨j, hj, hEj⟩ := slA_acc hna h69
          have hEj : rE L S (3 * i) = nI j := hEj
          refine j_at (lv' := [some (.ref 35), some (.ref S), some (.ref K), some (.int (nI i)), some (.int (nI j)), some (.int (rE L S (3 * i + 1))), none, none]) (by rw [← hEj, e9]; rfl) ?_
          refine j_iconst (v := nI 1) dX9_firstFalse_72 rfl ?_
          refine j_goto (tgt := 77) dX9_firstFalse_73 (by decide) ?_
          refine j_istore (lv' := [some (.ref 35), some (.ref S), some (.ref K), some (.int _), some (.int _), some (.int _), some (.int _), none]) dX9_firstFalse_77 (by decide) rfl ?_
          refine j_iload dX9_firstFalse_79 rfl ?_
          refine j_if_eq (tgt := 102) dX9_firstFalse_81 (by decide) (fun h => absurd h (by decide)) (fun _ => ?_)
          refine j_aload_n dX9_firstFalse_84 rfl rfl ?_
          refine t_getR (b := 15) dX9_firstFalse_85 jfl_X9_33 (fun _ _ _ => rfl) rfl ?_
          refine j_aload_n dX9_firstFalse_88 rfl rfl ?_
          refine t_getR (b := 39) dX9_firstFalse_89 jfl_X9_42 (fun _ _ _ => rfl) rfl ?_
          refine j_iload dX9_firstFalse_92 rfl ?_
          refine j_iload dX9_firstFalse_94 rfl ?_
          refine j_callV [.ref 39, .int _, .int _] [] dX9_firstFalse_96 jlk_X9_58 rfl rfl rfl rfl (Nat.le_of_ble_eq_true rfl) (c_write hr (Or.inl rfl) hz.1 hz.2 hj) (fun r9 w9 h9 => ?_)
          obtain ⟨rfl, f9, g9, rfl⟩ := h9
          rw [← hEj]
          refine j_atw (w' := tw (cX X 39 (seS (RkC cd vl st an en n v) c (rE L S (3 * i)) (rE L S (3 * i + 1))).1) (scr (cA A 39 (seS (RkC cd vl st an en n v) c (rE L S (3 * i)) (rE L S (3 * i + 1))).1 (seS (RkC cd vl st an en n v) c (rE L S (3 * i)) (rE L S (3 * i + 1))).2) B f9 g9) L) rfl ?_
          refine j_ats (st' := [.int (plP (seP (RkC cd vl st an en n v) c (rE L S (3 * i)) (rE L S (3 * i + 1))))]) rfl ?_
          refine j_ats (st' := [.int _]) rfl ?_
          refine j_goto (tgt := 104) dX9_firstFalse_99 (by decide) ?_
          refine j_istore (lv' := [some (.ref 35), some (.ref S), some (.ref K), some (.int _), some (.int _), some (.int _), some (.int _), some (.int _)]) dX9_firstFalse_104 (by decide) rfl ?_
          refine j_iload dX9_firstFalse_106 rfl ?_
          refine j_if_lt (tgt := 125) dX9_firstFalse_108 (by decide) (fun h108 => ?_) (fun h108 => ?_)
          · have hnone := plP_neg' h108 (fun q hq => seP_lt hq)
            refine j_iload_n dX9_firstFalse_125 rfl rfl ?_
            refine j_ireturn dX9_firstFalse_126 rfl ?_
            refine ⟨?_, f9, g9, (seS (RkC cd vl st an en n v) c (rE L S (3 * i)) (rE L S (3 * i + 1))), seS_z hz, rfl⟩
            rw [← hr9]
            rw [jgF_f h23 (jgP_3 (E := rE L S) hnone)]
          · have hsome := plP_pos (Int32.not_lt.mp h108)
            refine j_iload dX9_firstFalse_111 rfl ?_
            refine j_aload_n dX9_firstFalse_113 rfl rfl ?_
            refine j_iconst (v := nI 3) dX9_firstFalse_114 rfl ?_
            refine j_iload_n dX9_firstFalse_115 rfl rfl ?_
            refine jn_imul dX9_firstFalse_116 ?_
            refine j_iconst (v := nI 2) dX9_firstFalse_117 rfl ?_
            refine jn_iadd dX9_firstFalse_118 ?_
            refine j_callVi [.int _] [.int _] dX9_firstFalse_119 jlk_X9_54 rfl rfl ((shS0 hS) _ _ _) rfl (Nat.le_of_ble_eq_true rfl) (c_X8_byteAt hS (by rw [cX_n _ _ (by omega)]; exact hh) (by rw [cX_n _ _ (by omega)]; exact hln) l60 (by omega)) ?_
            refine j_icmp_eq (tgt := 127) dX9_firstFalse_122 (by decide) (fun h122 => ?_) (fun h122 => ?_)
            · refine jn_iinc (lv' := [some (.ref 35), some (.ref S), some (.ref K), some (.int _), some (.int _), some (.int _), some (.int _), some (.int _)]) dX9_firstFalse_127 rfl (by decide) rfl ?_
              refine j_goto (tgt := 10) dX9_firstFalse_130 (by decide) ?_
              refine j_sub (by exact ⟨rfl, rfl, rfl, rfl, trivial⟩) (ih (i + 1) f9 g9 (seS (RkC cd vl st an en n v) c (rE L S (3 * i)) (rE L S (3 * i + 1))) (by omega) (seS_z hz) ?_)
              rw [← hr9]
              have h122 : plP (seP (RkC cd vl st an en n v) c (rE L S (3 * i)) (rE L S (3 * i + 1))) = rE L S (3 * i + 2) := h122
              exact (jgF_t h23 (jgP_t (E := rE L S) h55 h69 hsome h122)).symm
            · refine j_iload_n dX9_firstFalse_125 rfl rfl ?_
              refine j_ireturn dX9_firstFalse_126 rfl ?_
              refine ⟨?_, f9, g9, (seS (RkC cd vl st an en n v) c (rE L S (3 * i)) (rE L S (3 * i + 1))), seS_z hz, rfl⟩
              rw [← hr9]
              have h122 : ¬ plP (seP (RkC cd vl st an en n v) c (rE L S (3 * i)) (rE L S (3 * i + 1))) = rE L S (3 * i + 2) := h122
              rw [jgF_f h23 (jgP_4 (E := rE L S) h122)]

set_option maxHeartbeats 200000 in
set_option maxRecDepth 100000 in
theorem c_X9_firstFalse (hr : rul B cd vl st an en n na v X A) {S ln : Nat} (hS : isSh S) (hh : X S 0 = nI 2) (hln : X S 3 = nI ln) (l60 : ln ≤ 60) {K : Nat} (hK : isK K) (hc : cok X A K) (hc9 : cok X A 39) : jMet (d + 5) yX9_firstFalse cX9_firstFalse 8 (some .int) 0 0 [.ref 35, .ref S, .ref K] (tw X A L) ((fun z w => z = some (.int (jgF (RkC cd vl st an en n v) na ln (rE L S) 20 0 (A (K + 1), A (K + 2)))) ∧ ∃ (f g : Nat → Int32) (c' : cS), (zb 49 c'.1 ∧ zb 49 c'.2) ∧ w = tw (cX X 39 c'.1) (scr (cA A 39 c'.1 c'.2) B f g) L)) := by
  refine jMet_of (by decide) (Nat.le_of_ble_eq_true rfl) none (Or.inl rfl) ?_
  show jWP none RX9 cX9_firstFalse 8 (some .int) (d + 5) 0 0 0 [some (.ref 35), some (.ref S), some (.ref K), none, none, none, none, none] [] (tw X A L) ((fun z w => z = some (.int (jgF (RkC cd vl st an en n v) na ln (rE L S) 20 0 (A (K + 1), A (K + 2)))) ∧ ∃ (f g : Nat → Int32) (c' : cS), (zb 49 c'.1 ∧ zb 49 c'.2) ∧ w = tw (cX X 39 c'.1) (scr (cA A 39 c'.1 c'.2) B f g) L))
  refine j_aload_n dX9_firstFalse_0 rfl rfl ?_
  refine t_getR (b := 39) dX9_firstFalse_1 jfl_X9_42 (fun _ _ _ => rfl) rfl ?_
  refine j_aload_n dX9_firstFalse_4 rfl rfl ?_
  refine j_callVv [.ref K] [] dX9_firstFalse_5 jlk_X9_46 rfl rfl rfl rfl (Nat.le_of_ble_eq_true rfl) (c_X0_become (Or.inl rfl) hK hc9 hc) ?_
  refine j_iconst (v := nI 0) dX9_firstFalse_8 rfl ?_
  refine j_istore_n (lv' := [some (.ref 35), some (.ref S), some (.ref K), some (.int _), none, none, none, none]) dX9_firstFalse_9 rfl (by decide) rfl ?_
  refine j_atw ?_ (l_X9_firstFalse hr hS hh hln l60 20 0 (cA A 39 (A (K + 1)) (A (K + 2)) (B + 6)) (cA A 39 (A (K + 1)) (A (K + 2)) (B + 7)) (A (K + 1), A (K + 2)) (by omega) ⟨hc.1, hc.2.1⟩ rfl)
  exact tw_eq rfl (scr_self _ _).symm rfl

end CT16