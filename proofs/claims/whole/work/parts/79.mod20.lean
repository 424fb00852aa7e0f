theorem jg_eq {e y : Int32} : (lg_cmp e.toInt64 y.toInt64 = 0) = (e = y) := by
  have h1 := @cmp_lt e.toInt64 y.toInt64
  have h2 := @cmp_gt e.toInt64 y.toInt64
  rw [l_lt] at h1 h2
  apply propext
  constructor
  · intro h
    rw [h] at h1 h2
    have a : ¬ e < y := fun q => absurd (h1.mpr q) (by decide)
    have b : ¬ y < e := fun q => absurd (h2.mpr q) (by decide)
    exact Int32.le_antisymm (Int32.not_lt.mp b) (Int32.not_lt.mp a)
  · intro h
    subst h
    have a : ¬ lg_cmp e.toInt64 e.toInt64 < 0 := fun q => Int32.lt_irrefl (h1.mp q)
    have b : ¬ 0 < lg_cmp e.toInt64 e.toInt64 := fun q => Int32.lt_irrefl (h2.mp q)
    exact Int32.le_antisymm (Int32.not_lt.mp b) (Int32.not_lt.mp a)
section CT59
variable {d : Nat} {X A : Nat → Nat → Int32} {L : Nat → Nat → Int64} {w : jW} {tx v : Nat → Nat} {na tm : Nat} {td : Bool}

set_option maxHeartbeats 200000 in
set_option maxRecDepth 100000 in
theorem m_isSo (hr : mrul td tm tx na v X A) (hw : ow (A 84)) {j ln : Nat} (hj : j < 6) {E : Nat → Int32} (hm : A 101 j = nI ln) (l60 : ln ≤ 60) (hE : ∀ i, i < ln → L 102 (60 * j + i) = (E i).toInt64) {i : Nat} (hi : i < 30) : jMet (d + 54) yX11_isSo cX11_isSo 4 (some .boolean) 0 0 [.ref 76, .int (nI j), .int (nI i)] (tw X A L) ((fun z w => z = some (.int (bz (jgP (RkM td tm tx v) na ln E (A 84, A 85) i))) ∧ ∃ y N : Nat → Int32, w = tw (zX X y) (tM A N (if slA na (E (3 * i)) (E (3 * i + 1)) = true ∧ 3 * i + 2 < ln then (seS (RkM td tm tx v) (A 84, A 85) (E (3 * i)) (E (3 * i + 1))) else (A 84, A 85))) L)) := by
  refine jMet_of (by decide) (Nat.le_of_ble_eq_true rfl) none (Or.inl rfl) ?_
  show jWP none RX11 cX11_isSo 4 (some .boolean) (d + 54) 0 0 0 [some (.ref 76), some (.int (nI j)), some (.int (nI i)), none] [] (tw X A L) ((fun z w => z = some (.int (bz (jgP (RkM td tm tx v) na ln E (A 84, A 85) i))) ∧ ∃ y N : Nat → Int32, w = tw (zX X y) (tM A N (if slA na (E (3 * i)) (E (3 * i + 1)) = true ∧ 3 * i + 2 < ln then (seS (RkM td tm tx v) (A 84, A 85) (E (3 * i)) (E (3 * i + 1))) else (A 84, A 85))) L))
  refine j_iconst (v := nI 3) dX11_isSo_0 rfl ?_
  refine j_iload_n dX11_isSo_1 rfl rfl ?_
  refine jn_imul dX11_isSo_2 ?_
  refine j_iconst (v := nI 2) dX11_isSo_3 rfl ?_
  refine jn_iadd dX11_isSo_4 ?_
  refine j_aload_n dX11_isSo_5 rfl rfl ?_
  refine t_getR (b := 101) dX11_isSo_6 jfl_X11_85 (fun _ _ _ => rfl) rfl ?_
  refine j_iload_n dX11_isSo_9 rfl rfl ?_
  refine t_iaload dX11_isSo_10 (fun _ _ _ => rfl) (by omega) (by decide) ?_
  refine j_topE (e' := nI ln) hm ?_
  refine jn_icmp_ge (tgt := 45) dX11_isSo_11 (by decide) (by omega) (by omega) (fun h11 => ?_) (fun h11 => ?_)
  · refine j_iconst (v := nI 0) dX11_isSo_45 rfl ?_
    refine j_zreturn dX11_isSo_46 rfl (by decide) ?_
    have hs : ¬ (slA na (E (3 * i)) (E (3 * i + 1)) = true ∧ 3 * i + 2 < ln) := fun q => by omega
    refine ⟨by rw [jgP_1 (by omega)]; rfl, X 76, A 88, ?_⟩
    rw [if_neg hs, zX_self, ← tM_m]
    exact (congrArg (fun z => tw X z L) (mA_self A)).symm
  · refine j_aload_n dX11_isSo_14 rfl rfl ?_
    refine j_aload_n dX11_isSo_15 rfl rfl ?_
    refine j_iload_n dX11_isSo_16 rfl rfl ?_
    refine j_iconst (v := nI 3) dX11_isSo_17 rfl ?_
    refine j_iload_n dX11_isSo_18 rfl rfl ?_
    refine jn_imul dX11_isSo_19 ?_
    refine j_callVl [.int _, .int _] [.ref 76] dX11_isSo_20 jlk_X11_221 rfl rfl rfl rfl (Nat.le_of_ble_eq_true rfl) (m_itemE (i := 3 * i) (by omega) (hE _ (by omega))) ?_
    refine j_callVi [.long _] [] dX11_isSo_23 jlk_X11_128 rfl rfl rfl rfl (Nat.le_of_ble_eq_true rfl) (m_isAccount hr.2.2.2.2.2.1 hr.2.2.2.2.2.2.1) ?_
    refine j_if_eq (tgt := 45) dX11_isSo_26 (by decide) (fun h26 => ?_) (fun h26 => ?_)
    · refine j_iconst (v := nI 0) dX11_isSo_45 rfl ?_
      refine j_zreturn dX11_isSo_46 rfl (by decide) ?_
      have hsl : slA na (E (3 * i)) (E (3 * i + 1)) = false := by unfold slA; simp [h26]
      have hs : ¬ (slA na (E (3 * i)) (E (3 * i + 1)) = true ∧ 3 * i + 2 < ln) := fun q => by rw [hsl] at q; exact Bool.noConfusion q.1
      refine ⟨by rw [jgP_2 hsl]; rfl, X 76, A 88, ?_⟩
      rw [if_neg hs, zX_self, ← tM_m]
      exact (congrArg (fun z => tw X z L) (mA_self A)).symm
    · refine j_aload_n dX11_isSo_29 rfl rfl ?_
      refine j_iload_n dX11_isSo_30 rfl rfl ?_
      refine j_iconst (v := nI 3) dX11_isSo_31 rfl ?_
      refine j_iload_n dX11_isSo_32 rfl rfl ?_
      refine jn_imul dX11_isSo_33 ?_
      refine j_iconst (v := nI 1) dX11_isSo_34 rfl ?_
      refine jn_iadd dX11_isSo_35 ?_
      refine j_callVl [.int _, .int _] [] dX11_isSo_36 jlk_X11_221 rfl rfl rfl rfl (Nat.le_of_ble_eq_true rfl) (m_itemE (i := 3 * i + 1) (by omega) (hE _ (by omega))) ?_
      refine j_callSi [.long _] [] dX11_isSo_39 jlk_X11_215 rfl rfl (Nat.le_of_ble_eq_true rfl) (m_isSum) ?_
      refine j_if_ne (tgt := 47) dX11_isSo_42 (by decide) (fun h42 => ?_) (fun h42 => ?_)
      · refine j_aload_n dX11_isSo_47 rfl rfl ?_
        refine j_aload_n dX11_isSo_48 rfl rfl ?_
        refine j_iload_n dX11_isSo_49 rfl rfl ?_
        refine j_iconst (v := nI 3) dX11_isSo_50 rfl ?_
        refine j_iload_n dX11_isSo_51 rfl rfl ?_
        refine jn_imul dX11_isSo_52 ?_
        refine j_callVl [.int _, .int _] [.ref 76] dX11_isSo_53 jlk_X11_221 rfl rfl rfl rfl (Nat.le_of_ble_eq_true rfl) (m_itemE (i := 3 * i) (by omega) (hE _ (by omega))) ?_
        refine j_l2i dX11_isSo_56 ?_
        refine j_aload_n dX11_isSo_57 rfl rfl ?_
        refine j_iload_n dX11_isSo_58 rfl rfl ?_
        refine j_iconst (v := nI 3) dX11_isSo_59 rfl ?_
        refine j_iload_n dX11_isSo_60 rfl rfl ?_
        refine jn_imul dX11_isSo_61 ?_
        refine j_iconst (v := nI 1) dX11_isSo_62 rfl ?_
        refine jn_iadd dX11_isSo_63 ?_
        refine j_callVl [.int _, .int _] [.int _, .ref 76] dX11_isSo_64 jlk_X11_221 rfl rfl rfl rfl (Nat.le_of_ble_eq_true rfl) (m_itemE (i := 3 * i + 1) (by omega) (hE _ (by omega))) ?_
        refine j_l2i dX11_isSo_67 ?_
        have hsl : slA na (E (3 * i)) (E (3 * i + 1)) = true := by unfold slA; simp [h26, h42]
        obtain ⟨q, hqn, hqe⟩ := slA_acc hr.2.2.2.2.2.2.1 hsl
        refine j_ats (st' := [.int (E (3 * i + 1)), .int (nI q), .ref 76]) (by rw [l2i_id, l2i_id, hqe]) ?_
        refine j_callV [.int _, .int _] [] dX11_isSo_68 jlk_X11_225 rfl rfl rfl rfl (Nat.le_of_ble_eq_true rfl) (m_sells hr hw hqn) (fun r9 w9 h9 => ?_)
        obtain ⟨rfl, y9, N9, rfl⟩ := h9
        rw [← hqe]
        refine j_atw (w' := tw (zX X y9) (tM A N9 (seS (RkM td tm tx v) (A 84, A 85) (E (3 * i)) (E (3 * i + 1)))) L) rfl ?_
        refine j_ats (st' := [.int (plP (seP (RkM td tm tx v) (A 84, A 85) (E (3 * i)) (E (3 * i + 1))))]) rfl ?_
        refine j_ats (st' := [.int _]) rfl ?_
        refine j_istore_n (lv' := [some (.ref 76), some (.int _), some (.int _), some (.int _)]) dX11_isSo_71 rfl (by decide) rfl ?_
        refine j_iload_n dX11_isSo_72 rfl rfl ?_
        refine j_if_lt (tgt := 96) dX11_isSo_73 (by decide) (fun h73 => ?_) (fun h73 => ?_)
        · have hnone := plP_neg' h73 (fun q hq => seP_lt hq)
          refine j_iconst (v := nI 0) dX11_isSo_96 rfl ?_
          refine j_zreturn dX11_isSo_97 rfl (by decide) ?_
          refine ⟨by rw [jgP_3 (E := E) hnone]; rfl, y9, N9, ?_⟩
          rw [if_pos ⟨hsl, by omega⟩]
        · have hsome := plP_pos (Int32.not_lt.mp h73)
          refine j_aload_n dX11_isSo_76 rfl rfl ?_
          refine j_iload_n dX11_isSo_77 rfl rfl ?_
          refine j_iconst (v := nI 3) dX11_isSo_78 rfl ?_
          refine j_iload_n dX11_isSo_79 rfl rfl ?_
          refine jn_imul dX11_isSo_80 ?_
          refine j_iconst (v := nI 2) dX11_isSo_81 rfl ?_
          refine jn_iadd dX11_isSo_82 ?_
          refine j_callVl [.int _, .int _] [] dX11_isSo_83 jlk_X11_221 rfl rfl rfl rfl (Nat.le_of_ble_eq_true rfl) (m_itemE (i := 3 * i + 2) (by omega) (hE _ (by omega))) ?_
          refine j_iload_n dX11_isSo_86 rfl rfl ?_
          refine j_i2l dX11_isSo_87 ?_
          refine j_lcmp dX11_isSo_88 ?_
          refine j_if_ne (tgt := 96) dX11_isSo_89 (by decide) (fun h89 => ?_) (fun h89 => ?_)
          · refine j_iconst (v := nI 0) dX11_isSo_96 rfl ?_
            refine j_zreturn dX11_isSo_97 rfl (by decide) ?_
            refine ⟨by rw [jgP_4 (E := E) (fun q => h89 (jg_eq.mpr q.symm))]; rfl, y9, N9, ?_⟩
            rw [if_pos ⟨hsl, by omega⟩]
          · refine j_iconst (v := nI 1) dX11_isSo_92 rfl ?_
            refine j_goto (tgt := 97) dX11_isSo_93 (by decide) ?_
            refine j_zreturn dX11_isSo_97 rfl (by decide) ?_
            refine ⟨by rw [jgP_t (E := E) (by omega) hsl hsome (jg_eq.mp (by first | exact h89 | simpa using h89)).symm]; rfl, y9, N9, ?_⟩
            rw [if_pos ⟨hsl, by omega⟩]
      · refine j_iconst (v := nI 0) dX11_isSo_45 rfl ?_
        refine j_zreturn dX11_isSo_46 rfl (by decide) ?_
        have hsl : slA na (E (3 * i)) (E (3 * i + 1)) = false := by unfold slA; simp [h42]
        have hs : ¬ (slA na (E (3 * i)) (E (3 * i + 1)) = true ∧ 3 * i + 2 < ln) := fun q => by rw [hsl] at q; exact Bool.noConfusion q.1
        refine ⟨by rw [jgP_2 hsl]; rfl, X 76, A 88, ?_⟩
        rw [if_neg hs, zX_self, ← tM_m]
        exact (congrArg (fun z => tw X z L) (mA_self A)).symm

set_option maxHeartbeats 200000 in
set_option maxRecDepth 100000 in
theorem l_judge_m (hr : mrul td tm tx na v X A) {j ln : Nat} (hj : j < 6) {E : Nat → Int32} (hs : A 100 j = nI 50) (hm : A 101 j = nI ln) (l60 : ln ≤ 60) (hE : ∀ i, i < ln → L 102 (60 * j + i) = (E i).toInt64) {r : Int32} : ∀ (m i : Nat) (c : cS) (y N : Nat → Int32), i + m = 20 → (zb 49 c.1 ∧ zb 49 c.2) → ow c.1 → (jgF (RkM td tm tx v) na ln E m i c) = r → jWP none RX11 cX11_judge 3 (some .int) (d + 55) 0 0 20 [some (.ref 76), some (.int (nI j)), some (.int (nI i))] [] (tw (zX X y) (tM A N c) L) ((fun z w => z = some (.int r) ∧ ∃ (y N : Nat → Int32) (c : cS), (zb 49 c.1 ∧ zb 49 c.2) ∧ w = tw (zX X y) (tM A N c) L)) := by
  intro m
  induction m with
  | zero =>
    intro i c y N hi hz hwo hr9
    refine j_iconst (v := nI 3) dX11_judge_20 rfl ?_
    refine j_iload_n dX11_judge_21 rfl rfl ?_
    refine jn_imul dX11_judge_22 ?_
    refine j_aload_n dX11_judge_23 rfl rfl ?_
    refine t_getR (b := 101) dX11_judge_24 jfl_X11_85 (fun _ _ _ => rfl) rfl ?_
    refine j_iload_n dX11_judge_27 rfl rfl ?_
    refine t_iaload dX11_judge_28 (fun _ _ _ => rfl) (by omega) (by decide) ?_
    refine j_topE (e' := nI ln) ((congrFun (tM_n _ _ _ (by decide) (by decide) (by decide)) j).trans hm) ?_
    refine jn_icmp_ge (tgt := 49) dX11_judge_29 (by decide) (by omega) (by omega) (fun h29 => ?_) (fun h29 => absurd h29 (by omega))
    refine j_bipush (v := (-2)) dX11_judge_49 rfl ?_
    refine j_ireturn dX11_judge_51 rfl ?_
    refine ⟨?_, y, N, c, hz, rfl⟩
    rw [← hr9]; rfl
  | succ m ih =>
    intro i c y N hi hz hwo hr9
    refine j_iconst (v := nI 3) dX11_judge_20 rfl ?_
    refine j_iload_n dX11_judge_21 rfl rfl ?_
    refine jn_imul dX11_judge_22 ?_
    refine j_aload_n dX11_judge_23 rfl rfl ?_
    refine t_getR (b := 101) dX11_judge_24 jfl_X11_85 (fun _ _ _ => rfl) rfl ?_
    refine j_iload_n dX11_judge_27 rfl rfl ?_
    refine t_iaload dX11_judge_28 (fun _ _ _ => rfl) (by omega) (by decide) ?_
    refine j_topE (e' := nI ln) ((congrFun (tM_n _ _ _ (by decide) (by decide) (by decide)) j).trans hm) ?_
    refine jn_icmp_ge (tgt := 49) dX11_judge_29 (by decide) (by omega) (by omega) (fun h29 => ?_) (fun h29 => ?_)
    · refine j_bipush (v := (-2)) dX11_judge_49 rfl ?_
      refine j_ireturn dX11_judge_51 rfl ?_
      refine ⟨?_, y, N, c, hz, rfl⟩
      rw [← hr9, jgF_o (by omega)]
    · refine j_aload_n dX11_judge_32 rfl rfl ?_
      refine j_iload_n dX11_judge_33 rfl rfl ?_
      refine j_iload_n dX11_judge_34 rfl rfl ?_
      refine j_callV [.int _, .int _] [] dX11_judge_35 jlk_X11_320 rfl rfl rfl rfl (Nat.le_of_ble_eq_true rfl) (m_isSo (mrul_t (y := y) (N := N) hr) (by rw [tM_84]; exact hwo) hj ((congrFun (tM_n _ _ _ (by decide) (by decide) (by decide)) j).trans hm) l60 hE (i := i) (by omega)) (fun r9 w9 h9 => ?_)
      obtain ⟨rfl, y9, N9, rfl⟩ := h9
      rw [tM_84, tM_85, zX_zX, tM_tM]
      refine j_ats (st' := [.int (bz (jgP (RkM td tm tx v) na ln E c i))]) rfl ?_
      refine j_ats (st' := [.int _]) rfl ?_
      refine j_if_ne (tgt := 43) dX11_judge_38 (by decide) (fun h38 => ?_) (fun h38 => ?_)
      · have h38 : jgP (RkM td tm tx v) na ln E c i = true := by
          cases q : jgP (RkM td tm tx v) na ln E c i with
          | true => rfl
          | false => rw [q] at h38; exact absurd rfl h38
        have h39 := h38
        unfold jgP at h39
        simp only [Bool.and_eq_true, decide_eq_true_eq] at h39
        rw [if_pos ⟨h39.2.1, h39.1⟩]
        obtain ⟨q, hqn, hqe⟩ := slA_acc hr.2.2.2.2.2.2.1 h39.2.1
        refine jn_iinc (lv' := [some (.ref 76), some (.int _), some (.int _)]) dX11_judge_43 rfl (by decide) rfl ?_
        refine j_goto (tgt := 20) dX11_judge_46 (by decide) ?_
        refine ih (i + 1) (seS (RkM td tm tx v) c (E (3 * i)) (E (3 * i + 1))) y9 N9 (by omega) (seS_z hz) (seS_ow hwo (by rw [hqe]; exact Int32.not_lt.mp (nI_pos (by have := hr.2.2.2.2.2.2.1; omega)))) ?_
        rw [← hr9]
        exact (jgF_t (by omega) h38).symm
      · have h38 : jgP (RkM td tm tx v) na ln E c i = false := by
          cases q : jgP (RkM td tm tx v) na ln E c i with
          | false => rfl
          | true => rw [q] at h38; exact absurd (show bz true = 0 from by first | exact h38 | simpa using h38) (by decide)
        refine j_iload_n dX11_judge_41 rfl rfl ?_
        refine j_ireturn dX11_judge_42 rfl ?_
        by_cases hc : slA na (E (3 * i)) (E (3 * i + 1)) = true ∧ 3 * i + 2 < ln
        · rw [if_pos hc]; exact ⟨by rw [← hr9, jgF_f (by omega) h38], y9, N9, _, seS_z hz, rfl⟩
        · rw [if_neg hc]; exact ⟨by rw [← hr9, jgF_f (by omega) h38], y9, N9, c, hz, rfl⟩

set_option maxHeartbeats 200000 in
set_option maxRecDepth 100000 in
theorem m_judge (hr : mrul td tm tx na v X A) (z1 : zb 49 (A 82)) (z2 : zb 49 (A 83)) (z3 : zb 49 (A 84)) (z4 : zb 49 (A 85)) (hw : ow (A 82)) {j ln : Nat} (hj : j < 6) {E : Nat → Int32} (hs : A 100 j = nI 50) (hm : A 101 j = nI ln) (l60 : ln ≤ 60) (hE : ∀ i, i < ln → L 102 (60 * j + i) = (E i).toInt64) : jMet (d + 55) yX11_judge cX11_judge 3 (some .int) 0 0 [.ref 76, .int (nI j)] (tw X A L) ((fun z w => z = some (.int (jgF (RkM td tm tx v) na ln E 20 0 (A 82, A 83))) ∧ ∃ (y N : Nat → Int32) (c : cS), (zb 49 c.1 ∧ zb 49 c.2) ∧ w = tw (zX X y) (tM A N c) L)) := by
  refine jMet_of (by decide) (Nat.le_of_ble_eq_true rfl) none (Or.inl rfl) ?_
  show jWP none RX11 cX11_judge 3 (some .int) (d + 55) 0 0 0 [some (.ref 76), some (.int (nI j)), none] [] (tw X A L) ((fun z w => z = some (.int (jgF (RkM td tm tx v) na ln E 20 0 (A 82, A 83))) ∧ ∃ (y N : Nat → Int32) (c : cS), (zb 49 c.1 ∧ zb 49 c.2) ∧ w = tw (zX X y) (tM A N c) L))
  refine j_aload_n dX11_judge_0 rfl rfl ?_
  refine j_iload_n dX11_judge_1 rfl rfl ?_
  refine j_callVi [.int _] [] dX11_judge_2 jlk_X11_228 rfl rfl rfl rfl (Nat.le_of_ble_eq_true rfl) (m_bytesIs hj hs) ?_
  refine j_if_ge (tgt := 14) dX11_judge_5 (by decide) (fun _ => ?_) (fun h => absurd (by decide) h)
  refine j_aload_n dX11_judge_14 rfl rfl ?_
  refine j_callVv [] [] dX11_judge_15 jlk_X11_140 rfl rfl rfl rfl (Nat.le_of_ble_eq_true rfl) (m_begins1 z1 z2 z3 z4) ?_
  refine j_iconst (v := nI 0) dX11_judge_18 rfl ?_
  refine j_istore_n (lv' := [some (.ref 76), some (.int _), some (.int _)]) dX11_judge_19 rfl (by decide) rfl ?_
  refine j_atw (tw_eq zX_self.symm (tM_m A (A 82, A 83)) rfl) (l_judge_m hr hj hs hm l60 hE 20 0 (A 82, A 83) (X 76) (A 88) (by decide) ⟨z1, z2⟩ hw rfl)

set_option maxHeartbeats 200000 in
set_option maxRecDepth 100000 in
theorem m_judge_no {c : Int32} (h : isA 6 c = nI 0) : jMet (d + 55) yX11_judge cX11_judge 3 (some .int) 0 0 [.ref 76, .int c] (tw X A L) (jRi (-1) (tw X A L)) := by
  refine jMet_of (by decide) (Nat.le_of_ble_eq_true rfl) none (Or.inl rfl) ?_
  show jWP none RX11 cX11_judge 3 (some .int) (d + 55) 0 0 0 [some (.ref 76), some (.int c), none] [] (tw X A L) (jRi (-1) (tw X A L))
  refine j_aload_n dX11_judge_0 rfl rfl ?_
  refine j_iload_n dX11_judge_1 rfl rfl ?_
  refine j_callVi [.int _] [] dX11_judge_2 jlk_X11_228 rfl rfl rfl rfl (Nat.le_of_ble_eq_true rfl) (m_bytesIs_no h) ?_
  refine j_if_ge (tgt := 14) dX11_judge_5 (by decide) (fun h => absurd h (by decide)) (fun _ => ?_)
  refine j_aload_n dX11_judge_8 rfl rfl ?_
  refine j_iload_n dX11_judge_9 rfl rfl ?_
  refine j_callVi [.int _] [] dX11_judge_10 jlk_X11_228 rfl rfl rfl rfl (Nat.le_of_ble_eq_true rfl) (m_bytesIs_no h) ?_
  refine j_ireturn dX11_judge_13 rfl ?_
  exact ⟨rfl, rfl⟩

set_option maxHeartbeats 200000 in
set_option maxRecDepth 100000 in
theorem m_judge_f {j : Nat} (hj : j < 6) {h b so : Nat} (hs : A 100 j = mshI h b so) (h2 : h ≤ 2) (hb50 : h = 1 → b < 50) (so4 : so ≤ 4) (hf : bfI h so ≠ 0) : jMet (d + 55) yX11_judge cX11_judge 3 (some .int) 0 0 [.ref 76, .int (nI j)] (tw X A L) (jRi (bfI h so) (tw X A L)) := by
  refine jMet_of (by decide) (Nat.le_of_ble_eq_true rfl) none (Or.inl rfl) ?_
  show jWP none RX11 cX11_judge 3 (some .int) (d + 55) 0 0 0 [some (.ref 76), some (.int (nI j)), none] [] (tw X A L) (jRi (bfI h so) (tw X A L))
  refine j_aload_n dX11_judge_0 rfl rfl ?_
  refine j_iload_n dX11_judge_1 rfl rfl ?_
  refine j_callVi [.int _] [] dX11_judge_2 jlk_X11_228 rfl rfl rfl rfl (Nat.le_of_ble_eq_true rfl) (m_bytesIs_f hj hs h2 hb50 so4 hf) ?_
  refine j_if_ge (tgt := 14) dX11_judge_5 (by decide) (fun h5 => absurd (bf_neg h2 hf).1 (Int32.not_lt.mpr h5)) (fun h5 => ?_)
  refine j_aload_n dX11_judge_8 rfl rfl ?_
  refine j_iload_n dX11_judge_9 rfl rfl ?_
  refine j_callVi [.int _] [] dX11_judge_10 jlk_X11_228 rfl rfl rfl rfl (Nat.le_of_ble_eq_true rfl) (m_bytesIs_f hj hs h2 hb50 so4 hf) ?_
  refine j_ireturn dX11_judge_13 rfl ?_
  exact ⟨rfl, rfl⟩

end CT59