def owI (Rk : (Nat → Int32) → Int32 → Int32 → Nat → Int32) (a s : Nat → Int32) (c : cS) (k : Int32) : Nat → Int32
  | 0 => -2
  | i + 1 => if (ruS Rk a s c (i + 1)).2 = true then (if nI i = k then clS Rk a s c i else owI Rk a s c k i) else owI Rk a s c k i
section OWI
variable {Rk : (Nat → Int32) → Int32 → Int32 → Nat → Int32} {a s : Nat → Int32} {c : cS} {k : Int32}
theorem ow_dead {i : Nat} (h : (ruS Rk a s c i).2 = false) : ∀ N, i ≤ N → owI Rk a s c k N = owI Rk a s c k i := by
  intro N
  induction N with
  | zero => intro hN; have : i = 0 := by omega
            rw [this]
  | succ N ih =>
    intro hN
    by_cases e : i = N + 1
    · rw [e]
    · have hN2 : i ≤ N := by omega
      have hd := (ru_dead' h (N := N + 1) (by omega)).1
      show (if (ruS Rk a s c (N + 1)).2 = true then _ else owI Rk a s c k N) = _
      rw [hd, h, if_neg (by decide)]
      exact ih hN2
theorem ruS_ow (hw : ow c.1) (ha : ∀ i, 0 ≤ a i ∨ True) : True := trivial
end OWI
/-- the thought comb behind sales, and what the law's reading leaves -/
def tM (A : Nat → Nat → Int32) (N : Nat → Int32) (c : cS) : Nat → Nat → Int32 := mA (va_up A 88 N) c.1 c.2
theorem tM_84 (A : Nat → Nat → Int32) (N : Nat → Int32) (c : cS) : tM A N c 84 = c.1 := mA_84 _ _ _
theorem tM_85 (A : Nat → Nat → Int32) (N : Nat → Int32) (c : cS) : tM A N c 85 = c.2 := mA_85 _ _ _
theorem tM_n (A : Nat → Nat → Int32) (N : Nat → Int32) (c : cS) {q : Nat} (h1 : q ≠ 84) (h2 : q ≠ 85) (h3 : q ≠ 88) : tM A N c q = A q := by unfold tM; rw [mA_n _ _ _ h1 h2, vu_n _ _ _ h3]
theorem tM_t (A : Nat → Nat → Int32) (N N' : Nat → Int32) (c c' : cS) : mA (va_up (tM A N c) 88 N') c'.1 c'.2 = tM A N' c' := by
  unfold tM
  rw [mA_88, mA_mA, z88]
theorem tM_m (A : Nat → Nat → Int32) (c : cS) : mA A c.1 c.2 = tM A (A 88) c := by unfold tM; rw [vu_self]
theorem tM_b (A : Nat → Nat → Int32) (N O S : Nat → Int32) (c : cS) : mA (tM A N c) O S = tM A N (O, S) := by unfold tM; rw [mA_mA]
theorem tM_tM (A : Nat → Nat → Int32) (N N' : Nat → Int32) (c c' : cS) : tM (tM A N c) N' c' = tM A N' c' := tM_t A N N' c c'
theorem mrul_t {td : Bool} {tm : Nat} {tx : Nat → Nat} {na : Nat} {v : Nat → Nat} {X A : Nat → Nat → Int32} {y N : Nat → Int32} {c : cS} (h : mrul td tm tx na v X A) : mrul td tm tx na v (zX X y) (tM A N c) := mrul_m (mrul_z h)
theorem seS_ok {Rk : (Nat → Int32) → Int32 → Int32 → Nat → Int32} {c : cS} {a s : Int32} (h : zb 49 c.1 ∧ zb 49 c.2) (hw : ow c.1) (ha : 0 ≤ a) : (zb 49 (seS Rk c a s).1 ∧ zb 49 (seS Rk c a s).2) ∧ ow (seS Rk c a s).1 := ⟨seS_z h, seS_ow hw ha⟩
theorem ruS_ok {Rk : (Nat → Int32) → Int32 → Int32 → Nat → Int32} {a s : Nat → Int32} {c : cS} (hz : zb 49 c.1 ∧ zb 49 c.2) (hw : ow c.1) : ∀ i, (∀ j, j < i → 0 ≤ a j) → (zb 49 (ruS Rk a s c i).1.1 ∧ zb 49 (ruS Rk a s c i).1.2) ∧ ow (ruS Rk a s c i).1.1
  | 0, _ => ⟨hz, hw⟩
  | i + 1, h => by
    have ih := ruS_ok hz hw (Rk := Rk) (a := a) (s := s) i (fun j hj => h j (by omega))
    by_cases q : (ruS Rk a s c i).2 = true
    · rw [ru_t q]
      exact seS_ok ih.1 ih.2 (h i (by omega))
    · rw [ru_f (by simpa using q)]
      exact ih
section CT58
variable {d : Nat} {X A : Nat → Nat → Int32} {L : Nat → Nat → Int64} {w : jW} {tx v : Nat → Nat} {na tm : Nat} {td : Bool}

set_option maxHeartbeats 200000 in
set_option maxRecDepth 100000 in
theorem m_sellsAt (hr : mrul td tm tx na v X A) (hw : ow (A 84)) {j ln : Nat} (hj : j < 6) {E : Nat → Int32} (l60 : ln ≤ 60) (hE : ∀ i, i < ln → L 102 (60 * j + i) = (E i).toInt64) {i k : Nat} (hi : 2 * i + 1 < ln) (hk : E (2 * i) = nI k) (hkn : k < na) : jMet (d + 54) yX11_sellsAt cX11_sellsAt 3 (some .int) 0 0 [.ref 76, .int (nI j), .int (nI i)] (tw X A L) ((fun z w => z = some (.int (plP (seP (RkM td tm tx v) (A 84, A 85) (E (2 * i)) (E (2 * i + 1))))) ∧ ∃ y N : Nat → Int32, w = tw (zX X y) (tM A N (seS (RkM td tm tx v) (A 84, A 85) (E (2 * i)) (E (2 * i + 1)))) L)) := by
  refine jMet_of (by decide) (Nat.le_of_ble_eq_true rfl) none (Or.inl rfl) ?_
  show jWP none RX11 cX11_sellsAt 3 (some .int) (d + 54) 0 0 0 [some (.ref 76), some (.int (nI j)), some (.int (nI i))] [] (tw X A L) ((fun z w => z = some (.int (plP (seP (RkM td tm tx v) (A 84, A 85) (E (2 * i)) (E (2 * i + 1))))) ∧ ∃ y N : Nat → Int32, w = tw (zX X y) (tM A N (seS (RkM td tm tx v) (A 84, A 85) (E (2 * i)) (E (2 * i + 1)))) L))
  refine j_aload_n dX11_sellsAt_0 rfl rfl ?_
  refine j_aload_n dX11_sellsAt_1 rfl rfl ?_
  refine j_iload_n dX11_sellsAt_2 rfl rfl ?_
  refine j_iconst (v := nI 2) dX11_sellsAt_3 rfl ?_
  refine j_iload_n dX11_sellsAt_4 rfl rfl ?_
  refine jn_imul dX11_sellsAt_5 ?_
  refine j_callVl [.int _, .int _] [.ref 76] dX11_sellsAt_6 jlk_X11_221 rfl rfl rfl rfl (Nat.le_of_ble_eq_true rfl) (m_itemE (i := 2 * i) (by omega) (hE _ (by omega))) ?_
  refine j_l2i dX11_sellsAt_9 ?_
  refine j_aload_n dX11_sellsAt_10 rfl rfl ?_
  refine j_iload_n dX11_sellsAt_11 rfl rfl ?_
  refine j_iconst (v := nI 2) dX11_sellsAt_12 rfl ?_
  refine j_iload_n dX11_sellsAt_13 rfl rfl ?_
  refine jn_imul dX11_sellsAt_14 ?_
  refine j_iconst (v := nI 1) dX11_sellsAt_15 rfl ?_
  refine jn_iadd dX11_sellsAt_16 ?_
  refine j_callVl [.int _, .int _] [.int _, .ref 76] dX11_sellsAt_17 jlk_X11_221 rfl rfl rfl rfl (Nat.le_of_ble_eq_true rfl) (m_itemE (i := 2 * i + 1) (by omega) (hE _ (by omega))) ?_
  refine j_l2i dX11_sellsAt_20 ?_
  refine j_ats (st' := [.int (E (2 * i + 1)), .int (nI k), .ref 76]) (by rw [l2i_id, l2i_id, hk]) ?_
  refine j_callV [.int _, .int _] [] dX11_sellsAt_21 jlk_X11_225 rfl rfl rfl rfl (Nat.le_of_ble_eq_true rfl) (m_sells hr hw hkn) (fun r9 w9 h9 => ?_)
  obtain ⟨rfl, y9, N9, rfl⟩ := h9
  refine j_ats (st' := [.int _]) rfl ?_
  refine j_ireturn dX11_sellsAt_24 rfl ?_
  rw [hk]
  exact ⟨rfl, y9, N9, rfl⟩

set_option maxHeartbeats 200000 in
set_option maxRecDepth 100000 in
theorem l_sales_m (hr : mrul td tm tx na v X A) {c0 : cS} (hz0 : zb 49 c0.1 ∧ zb 49 c0.2) (hw0 : ow c0.1) {j ln : Nat} (hj : j < 6) {E : Nat → Int32} (l60 : ln ≤ 60) (hE : ∀ i, i < ln → L 102 (60 * j + i) = (E i).toInt64) {T : Nat} (hT : T ≤ 30) (hsa : ∀ i, i < T → saB na ln E i = true) {k : Int32} : ∀ (m i : Nat) (y N : Nat → Int32), i ≤ T → T - i < m → jWP none RX11 cX11_sales 9 (some .int) (d + 55) 0 0 53 [some (.ref 76), some (.int (nI j)), some (.int k), some (.int (nI T)), some (.int (owI (RkM td tm tx v) (ev E) (od E) c0 k i)), some (.int (nI (wnS (RkM td tm tx v) (ev E) (od E) c0 i))), some (.int (bz (ruS (RkM td tm tx v) (ev E) (od E) c0 i).2)), some (.int (nI i)), none] [] (tw (zX X y) (tM A N (ruS (RkM td tm tx v) (ev E) (od E) c0 i).1) L) ((fun z w => z = some (.int ((if k < 0 then nI (wnS (RkM td tm tx v) (ev E) (od E) c0 T) else (owI (RkM td tm tx v) (ev E) (od E) c0 k T)))) ∧ ∃ y N : Nat → Int32, w = tw (zX X y) (tM A N (ruS (RkM td tm tx v) (ev E) (od E) c0 T).1) L)) := by
  have hac : ∀ i, i < T → ∃ q, q < na ∧ E (2 * i) = nI q := fun i hi => slA_acc hr.2.2.2.2.2.2.1 (saB_1 (hsa i hi)).2
  have hac0 : ∀ i, i < T → 0 ≤ ev E i := fun i hi => by obtain ⟨q, hq, e⟩ := hac i hi; show 0 ≤ E (2 * i); rw [e]; exact Int32.not_lt.mp (nI_pos (by have := hr.2.2.2.2.2.2.1; omega))
  intro m
  induction m with
  | zero => intro i y N h1 h2; omega
  | succ m ih =>
    intro i y N hi hm
    have hwn := wn_le (Rk := RkM td tm tx v) (a := ev E) (s := od E) (c := c0) i
    obtain ⟨hz, hwo⟩ := ruS_ok (Rk := (RkM td tm tx v)) (s := od E) hz0 hw0 i (fun j hj => hac0 j (by omega))
    refine j_iload dX11_sales_53 rfl ?_
    refine j_iload_n dX11_sales_55 rfl rfl ?_
    refine jn_icmp_ge (tgt := 126) dX11_sales_56 (by decide) (by omega) (by omega) (fun h56 => ?_) (fun h56 => ?_)
    · refine j_iload_n dX11_sales_126 rfl rfl ?_
      refine j_if_ge (tgt := 135) dX11_sales_127 (by decide) (fun h127 => ?_) (fun h127 => ?_)
      · refine j_iload dX11_sales_135 rfl ?_
        refine j_ireturn dX11_sales_137 rfl ?_
        obtain rfl : i = T := by omega
        rw [if_neg (Int32.not_lt.mpr h127)]
        exact ⟨rfl, y, N, rfl⟩
      · refine j_iload dX11_sales_130 rfl ?_
        refine j_goto (tgt := 137) dX11_sales_132 (by decide) ?_
        refine j_ireturn dX11_sales_137 rfl ?_
        obtain rfl : i = T := by omega
        rw [if_pos (Int32.not_le.mp h127)]
        exact ⟨rfl, y, N, rfl⟩
    · obtain ⟨q, hq, hqe⟩ := hac i h56
      have h2i := (saB_1 (hsa i h56)).1
      refine j_iload dX11_sales_59 rfl ?_
      refine j_if_eq (tgt := 126) dX11_sales_61 (by decide) (fun h61 => ?_) (fun h61 => ?_)
      · have h61 := bz_f h61
        refine j_iload_n dX11_sales_126 rfl rfl ?_
        refine j_if_ge (tgt := 135) dX11_sales_127 (by decide) (fun h127 => ?_) (fun h127 => ?_)
        · refine j_iload dX11_sales_135 rfl ?_
          refine j_ireturn dX11_sales_137 rfl ?_
          have hd := ru_dead' h61 (N := T) (by omega)
          have ho := ow_dead (k := k) h61 T (by omega)
          rw [hd.1, hd.2, ho]
          rw [if_neg (Int32.not_lt.mpr h127)]
          exact ⟨rfl, y, N, rfl⟩
        · refine j_iload dX11_sales_130 rfl ?_
          refine j_goto (tgt := 137) dX11_sales_132 (by decide) ?_
          refine j_ireturn dX11_sales_137 rfl ?_
          have hd := ru_dead' h61 (N := T) (by omega)
          have ho := ow_dead (k := k) h61 T (by omega)
          rw [hd.1, hd.2, ho]
          rw [if_pos (Int32.not_le.mp h127)]
          exact ⟨rfl, y, N, rfl⟩
      · have h61 := bz_t h61
        refine j_aload_n dX11_sales_64 rfl rfl ?_
        refine j_iload_n dX11_sales_65 rfl rfl ?_
        refine j_iload dX11_sales_66 rfl ?_
        refine j_callV [.int _, .int _] [] dX11_sales_68 jlk_X11_234 rfl rfl rfl rfl (Nat.le_of_ble_eq_true rfl) (m_sellsAt (mrul_t (y := y) (N := N) hr) (by rw [tM_84]; exact hwo) hj l60 hE h2i hqe hq) (fun r9 w9 h9 => ?_)
        obtain ⟨rfl, y9, N9, rfl⟩ := h9
        rw [tM_84, tM_85, zX_zX, tM_tM]
        refine j_ats (st' := [.int (plP (seP (RkM td tm tx v) (ruS (RkM td tm tx v) (ev E) (od E) c0 i).1 (E (2 * i)) (E (2 * i + 1))))]) rfl ?_
        refine j_atw (w' := tw (zX X y9) (tM A N9 (seS (RkM td tm tx v) (ruS (RkM td tm tx v) (ev E) (od E) c0 i).1 (E (2 * i)) (E (2 * i + 1)))) L) rfl ?_
        refine j_ats (st' := [.int _]) rfl ?_
        refine j_istore (lv' := [some (.ref 76), some (.int _), some (.int _), some (.int _), some (.int _), some (.int _), some (.int _), some (.int _), some (.int _)]) dX11_sales_71 (by decide) rfl ?_
        refine j_iload dX11_sales_73 rfl ?_
        refine j_if_lt (tgt := 82) dX11_sales_75 (by decide) (fun h75 => ?_) (fun h75 => ?_)
        · have hnone := plP_neg' h75 (fun q hq => seP_lt hq)
          refine j_iconst (v := nI 0) dX11_sales_82 rfl ?_
          refine j_istore (lv' := [some (.ref 76), some (.int _), some (.int _), some (.int _), some (.int _), some (.int _), some (.int _), some (.int _), some (.int _)]) dX11_sales_83 (by decide) rfl ?_
          refine j_iload dX11_sales_85 rfl ?_
          refine j_iload dX11_sales_87 rfl ?_
          refine j_if_eq (tgt := 96) dX11_sales_89 (by decide) (fun _ => ?_) (fun h => absurd (by decide) h)
          refine j_iconst (v := nI 0) dX11_sales_96 rfl ?_
          refine jn_iadd dX11_sales_97 ?_
          refine j_istore (lv' := [some (.ref 76), some (.int _), some (.int _), some (.int _), some (.int _), some (.int _), some (.int _), some (.int _), some (.int _)]) dX11_sales_98 (by decide) rfl ?_
          refine j_iload dX11_sales_100 rfl ?_
          refine j_if_eq (tgt := 116) dX11_sales_102 (by decide) (fun _ => ?_) (fun h => absurd (by decide) h)
          refine j_iload dX11_sales_116 rfl ?_
          refine j_istore (lv' := [some (.ref 76), some (.int _), some (.int _), some (.int _), some (.int _), some (.int _), some (.int _), some (.int _), some (.int _)]) dX11_sales_118 (by decide) rfl ?_
          refine jn_iinc (lv' := [some (.ref 76), some (.int _), some (.int _), some (.int _), some (.int _), some (.int _), some (.int _), some (.int _), some (.int _)]) dX11_sales_120 rfl (by decide) rfl ?_
          refine j_goto (tgt := 53) dX11_sales_123 (by decide) ?_
          have e0 : seS (RkM td tm tx v) (ruS (RkM td tm tx v) (ev E) (od E) c0 i).1 (E (2 * i)) (E (2 * i + 1)) = (ruS (RkM td tm tx v) (ev E) (od E) c0 i).1 := ru_none (a := ev E) (s := od E) hnone
          have e1 : (ruS (RkM td tm tx v) (ev E) (od E) c0 (i + 1)) = ((ruS (RkM td tm tx v) (ev E) (od E) c0 i).1, false) := by have q := ru_t h61; rw [q]; refine Prod.ext e0 ?_; show ((seP (RkM td tm tx v) (ruS (RkM td tm tx v) (ev E) (od E) c0 i).1 (E (2 * i)) (E (2 * i + 1)))).isSome = false; rw [hnone]; rfl
          have e2 : (wnS (RkM td tm tx v) (ev E) (od E) c0 (i + 1)) = (wnS (RkM td tm tx v) (ev E) (od E) c0 i) := by show (if (ruS (RkM td tm tx v) (ev E) (od E) c0 (i + 1)).2 = true then (wnS (RkM td tm tx v) (ev E) (od E) c0 i) + 1 else (wnS (RkM td tm tx v) (ev E) (od E) c0 i)) = _; rw [e1, if_neg (fun q => Bool.noConfusion (show false = true from q))]
          have e3 : (owI (RkM td tm tx v) (ev E) (od E) c0 k (i + 1)) = (owI (RkM td tm tx v) (ev E) (od E) c0 k i) := by show (if (ruS (RkM td tm tx v) (ev E) (od E) c0 (i + 1)).2 = true then _ else _) = _; rw [e1, if_neg (fun q => Bool.noConfusion (show false = true from q))]
          refine j_sub ?_ (j_atw ?_ (ih (i + 1) y9 N9 (by omega) (by omega)))
          · rw [e1, e2, e3]; exact ⟨rfl, rfl, rfl, rfl, rfl, rfl, rfl, rfl, trivial⟩
          · rw [e1, e0]
        · have hsome := plP_pos (Int32.not_lt.mp h75)
          refine j_iconst (v := nI 1) dX11_sales_78 rfl ?_
          refine j_goto (tgt := 83) dX11_sales_79 (by decide) ?_
          refine j_istore (lv' := [some (.ref 76), some (.int _), some (.int _), some (.int _), some (.int _), some (.int _), some (.int _), some (.int _), some (.int _)]) dX11_sales_83 (by decide) rfl ?_
          refine j_iload dX11_sales_85 rfl ?_
          refine j_iload dX11_sales_87 rfl ?_
          refine j_if_eq (tgt := 96) dX11_sales_89 (by decide) (fun h => absurd h (by decide)) (fun _ => ?_)
          refine j_iconst (v := nI 1) dX11_sales_92 rfl ?_
          refine j_goto (tgt := 97) dX11_sales_93 (by decide) ?_
          refine jn_iadd dX11_sales_97 ?_
          refine j_istore (lv' := [some (.ref 76), some (.int _), some (.int _), some (.int _), some (.int _), some (.int _), some (.int _), some (.int _), some (.int _)]) dX11_sales_98 (by decide) rfl ?_
          refine j_iload dX11_sales_100 rfl ?_
          refine j_if_eq (tgt := 116) dX11_sales_102 (by decide) (fun h => absurd h (by decide)) (fun _ => ?_)
          refine j_iload dX11_sales_105 rfl ?_
          refine j_iload_n dX11_sales_107 rfl rfl ?_
          refine j_icmp_ne (tgt := 116) dX11_sales_108 (by decide) (fun h108 => ?_) (fun h108 => ?_)
          · refine j_iload dX11_sales_116 rfl ?_
            refine j_istore (lv' := [some (.ref 76), some (.int _), some (.int _), some (.int _), some (.int _), some (.int _), some (.int _), some (.int _), some (.int _)]) dX11_sales_118 (by decide) rfl ?_
            refine jn_iinc (lv' := [some (.ref 76), some (.int _), some (.int _), some (.int _), some (.int _), some (.int _), some (.int _), some (.int _), some (.int _)]) dX11_sales_120 rfl (by decide) rfl ?_
            refine j_goto (tgt := 53) dX11_sales_123 (by decide) ?_
            have e1 : (ruS (RkM td tm tx v) (ev E) (od E) c0 (i + 1)) = (seS (RkM td tm tx v) (ruS (RkM td tm tx v) (ev E) (od E) c0 i).1 (E (2 * i)) (E (2 * i + 1)), true) := by have q := ru_t h61; rw [q]; exact Prod.ext rfl hsome
            have e2 : (wnS (RkM td tm tx v) (ev E) (od E) c0 (i + 1)) = (wnS (RkM td tm tx v) (ev E) (od E) c0 i) + 1 := by show (if (ruS (RkM td tm tx v) (ev E) (od E) c0 (i + 1)).2 = true then (wnS (RkM td tm tx v) (ev E) (od E) c0 i) + 1 else (wnS (RkM td tm tx v) (ev E) (od E) c0 i)) = _; rw [e1, if_pos rfl]
            have e3 : (owI (RkM td tm tx v) (ev E) (od E) c0 k (i + 1)) = (if nI i = k then (clS (RkM td tm tx v) (ev E) (od E) c0 i) else (owI (RkM td tm tx v) (ev E) (od E) c0 k i)) := by show (if (ruS (RkM td tm tx v) (ev E) (od E) c0 (i + 1)).2 = true then _ else _) = _; rw [e1, if_pos rfl]
            rw [if_neg h108] at e3
            refine j_sub ?_ (j_atw ?_ (ih (i + 1) y9 N9 (by omega) (by omega)))
            · rw [e1, e2, e3]; exact ⟨rfl, rfl, rfl, rfl, rfl, rfl, rfl, rfl, trivial⟩
            · rw [e1]
          · refine j_iload dX11_sales_111 rfl ?_
            refine j_goto (tgt := 118) dX11_sales_113 (by decide) ?_
            refine j_istore (lv' := [some (.ref 76), some (.int _), some (.int _), some (.int _), some (.int _), some (.int _), some (.int _), some (.int _), some (.int _)]) dX11_sales_118 (by decide) rfl ?_
            refine jn_iinc (lv' := [some (.ref 76), some (.int _), some (.int _), some (.int _), some (.int _), some (.int _), some (.int _), some (.int _), some (.int _)]) dX11_sales_120 rfl (by decide) rfl ?_
            refine j_goto (tgt := 53) dX11_sales_123 (by decide) ?_
            have e1 : (ruS (RkM td tm tx v) (ev E) (od E) c0 (i + 1)) = (seS (RkM td tm tx v) (ruS (RkM td tm tx v) (ev E) (od E) c0 i).1 (E (2 * i)) (E (2 * i + 1)), true) := by have q := ru_t h61; rw [q]; exact Prod.ext rfl hsome
            have e2 : (wnS (RkM td tm tx v) (ev E) (od E) c0 (i + 1)) = (wnS (RkM td tm tx v) (ev E) (od E) c0 i) + 1 := by show (if (ruS (RkM td tm tx v) (ev E) (od E) c0 (i + 1)).2 = true then (wnS (RkM td tm tx v) (ev E) (od E) c0 i) + 1 else (wnS (RkM td tm tx v) (ev E) (od E) c0 i)) = _; rw [e1, if_pos rfl]
            have e3 : (owI (RkM td tm tx v) (ev E) (od E) c0 k (i + 1)) = (if nI i = k then (clS (RkM td tm tx v) (ev E) (od E) c0 i) else (owI (RkM td tm tx v) (ev E) (od E) c0 k i)) := by show (if (ruS (RkM td tm tx v) (ev E) (od E) c0 (i + 1)).2 = true then _ else _) = _; rw [e1, if_pos rfl]
            rw [if_pos (by first | exact h108 | simpa using h108)] at e3
            refine j_sub ?_ (j_atw ?_ (ih (i + 1) y9 N9 (by omega) (by omega)))
            · rw [e1, e2, e3]; exact ⟨rfl, rfl, rfl, rfl, rfl, rfl, rfl, rfl, trivial⟩
            · rw [e1]

set_option maxHeartbeats 200000 in
set_option maxRecDepth 100000 in
theorem m_sales (hr : mrul td tm tx na v X A) (z1 : zb 49 (A 82)) (z2 : zb 49 (A 83)) (z3 : zb 49 (A 84)) (z4 : zb 49 (A 85)) (hw : ow (A 82)) {j ln : Nat} (hj : j < 6) {E : Nat → Int32} (hs : A 100 j = nI 50) (hm : A 101 j = nI ln) (l60 : ln ≤ 60) (hE : ∀ i, i < ln → L 102 (60 * j + i) = (E i).toInt64) {T : Nat} (hT : saC (saB na ln E) 30 0 = T) {k : Int32} (hk : ¬ k < -1) : jMet (d + 55) yX11_sales cX11_sales 9 (some .int) 0 0 [.ref 76, .int (nI j), .int k] (tw X A L) ((fun z w => z = some (.int ((if k < 0 then nI (wnS (RkM td tm tx v) (ev E) (od E) (A 82, A 83) T) else (owI (RkM td tm tx v) (ev E) (od E) (A 82, A 83) k T)))) ∧ ∃ y N : Nat → Int32, w = tw (zX X y) (tM A N (ruS (RkM td tm tx v) (ev E) (od E) (A 82, A 83) T).1) L)) := by
  refine jMet_of (by decide) (Nat.le_of_ble_eq_true rfl) none (Or.inl rfl) ?_
  show jWP none RX11 cX11_sales 9 (some .int) (d + 55) 0 0 0 [some (.ref 76), some (.int (nI j)), some (.int k), none, none, none, none, none, none] [] (tw X A L) ((fun z w => z = some (.int ((if k < 0 then nI (wnS (RkM td tm tx v) (ev E) (od E) (A 82, A 83) T) else (owI (RkM td tm tx v) (ev E) (od E) (A 82, A 83) k T)))) ∧ ∃ y N : Nat → Int32, w = tw (zX X y) (tM A N (ruS (RkM td tm tx v) (ev E) (od E) (A 82, A 83) T).1) L))
  have hsa : ∀ i, i < T → saB na ln E i = true := fun i hi => saC_all (Nat.zero_le i) (by rw [hT]; exact hi)
  have hT30 : T ≤ 30 := by rw [← hT]; exact saC_le 30 0
  refine j_aload_n dX11_sales_0 rfl rfl ?_
  refine j_iload_n dX11_sales_1 rfl rfl ?_
  refine j_callVi [.int _] [] dX11_sales_2 jlk_X11_228 rfl rfl rfl rfl (Nat.le_of_ble_eq_true rfl) (m_bytesIs hj hs) ?_
  refine j_iconst (v := (-1)) dX11_sales_5 rfl ?_
  refine j_icmp_eq (tgt := 14) dX11_sales_6 (by decide) (fun h => absurd h (by decide)) (fun _ => ?_)
  refine j_iload_n dX11_sales_9 rfl rfl ?_
  refine j_iconst (v := (-1)) dX11_sales_10 rfl ?_
  refine j_icmp_ge (tgt := 16) dX11_sales_11 (by decide) (fun h11 => ?_) (fun h11 => absurd (Int32.not_le.mp h11) hk)
  refine j_aload_n dX11_sales_16 rfl rfl ?_
  refine j_iload_n dX11_sales_17 rfl rfl ?_
  refine j_callVi [.int _] [] dX11_sales_18 jlk_X11_228 rfl rfl rfl rfl (Nat.le_of_ble_eq_true rfl) (m_bytesIs hj hs) ?_
  refine j_if_ge (tgt := 30) dX11_sales_21 (by decide) (fun _ => ?_) (fun h => absurd (by decide) h)
  refine j_aload_n dX11_sales_30 rfl rfl ?_
  refine j_callVv [] [] dX11_sales_31 jlk_X11_140 rfl rfl rfl rfl (Nat.le_of_ble_eq_true rfl) (m_begins1 z1 z2 z3 z4) ?_
  refine j_aload_n dX11_sales_34 rfl rfl ?_
  refine j_iload_n dX11_sales_35 rfl rfl ?_
  refine j_callVi [.int _] [] dX11_sales_36 jlk_X11_231 rfl rfl rfl rfl (Nat.le_of_ble_eq_true rfl) (m_salesOf (A := mA A (A 82) (A 83)) hr.2.2.2.2.2.1 hr.2.2.2.2.2.2.1 hj (by rw [mA_n _ _ _ (by decide) (by decide)]; exact hm) l60 hE) ?_
  rw [hT]
  refine j_istore_n (lv' := [some (.ref 76), some (.int _), some (.int _), some (.int _), none, none, none, none, none]) dX11_sales_39 rfl (by decide) rfl ?_
  refine j_bipush (v := (-2)) dX11_sales_40 rfl ?_
  refine j_istore (lv' := [some (.ref 76), some (.int _), some (.int _), some (.int _), some (.int _), none, none, none, none]) dX11_sales_42 (by decide) rfl ?_
  refine j_iconst (v := nI 0) dX11_sales_44 rfl ?_
  refine j_istore (lv' := [some (.ref 76), some (.int _), some (.int _), some (.int _), some (.int _), some (.int _), none, none, none]) dX11_sales_45 (by decide) rfl ?_
  refine j_iconst (v := nI 1) dX11_sales_47 rfl ?_
  refine j_istore (lv' := [some (.ref 76), some (.int _), some (.int _), some (.int _), some (.int _), some (.int _), some (.int _), none, none]) dX11_sales_48 (by decide) rfl ?_
  refine j_iconst (v := nI 0) dX11_sales_50 rfl ?_
  refine j_istore (lv' := [some (.ref 76), some (.int _), some (.int _), some (.int _), some (.int _), some (.int _), some (.int _), some (.int _), none]) dX11_sales_51 (by decide) rfl ?_
  refine j_atw (tw_eq zX_self.symm (tM_m A (A 82, A 83)) rfl) (l_sales_m (c0 := (A 82, A 83)) hr ⟨z1, z2⟩ hw hj l60 hE hT30 hsa (T + 1) 0 (X 76) (A 88) (Nat.zero_le _) (by omega))

set_option maxHeartbeats 200000 in
set_option maxRecDepth 100000 in
theorem m_sales_no {c k : Int32} (h : isA 6 c = nI 0) : jMet (d + 55) yX11_sales cX11_sales 9 (some .int) 0 0 [.ref 76, .int c, .int k] (tw X A L) (jRi (-1) (tw X A L)) := by
  refine jMet_of (by decide) (Nat.le_of_ble_eq_true rfl) none (Or.inl rfl) ?_
  show jWP none RX11 cX11_sales 9 (some .int) (d + 55) 0 0 0 [some (.ref 76), some (.int c), some (.int k), none, none, none, none, none, none] [] (tw X A L) (jRi (-1) (tw X A L))
  refine j_aload_n dX11_sales_0 rfl rfl ?_
  refine j_iload_n dX11_sales_1 rfl rfl ?_
  refine j_callVi [.int _] [] dX11_sales_2 jlk_X11_228 rfl rfl rfl rfl (Nat.le_of_ble_eq_true rfl) (m_bytesIs_no h) ?_
  refine j_iconst (v := (-1)) dX11_sales_5 rfl ?_
  refine j_icmp_eq (tgt := 14) dX11_sales_6 (by decide) (fun _ => ?_) (fun h => absurd (by decide) h)
  refine j_iconst (v := (-1)) dX11_sales_14 rfl ?_
  refine j_ireturn dX11_sales_15 rfl ?_
  exact ⟨rfl, rfl⟩

theorem bf_neg {h so : Nat} (h2 : h ≤ 2) (hf : bfI h so ≠ 0) : bfI h so < 0 ∧ bfI h so ≠ -1 := by
  unfold bfI at hf ⊢
  by_cases q : h = 0
  · rw [if_pos q]; exact ⟨by decide, by decide⟩
  · rw [if_neg q] at hf ⊢
    by_cases q2 : h = 2
    · rw [if_pos q2] at hf ⊢
      by_cases q3 : so = 0
      · rw [if_pos q3] at hf; exact absurd rfl hf
      · rw [if_neg q3]; exact ⟨by decide, by decide⟩
    · rw [if_neg q2]; exact ⟨by decide, by decide⟩

set_option maxHeartbeats 200000 in
set_option maxRecDepth 100000 in
theorem m_sales_f {j : Nat} (hj : j < 6) {h b so : Nat} (hs : A 100 j = mshI h b so) (h2 : h ≤ 2) (hb50 : h = 1 → b < 50) (so4 : so ≤ 4) (hf : bfI h so ≠ 0) {k : Int32} (hk : ¬ k < -1) : jMet (d + 55) yX11_sales cX11_sales 9 (some .int) 0 0 [.ref 76, .int (nI j), .int k] (tw X A L) (jRi (bfI h so) (tw X A L)) := by
  refine jMet_of (by decide) (Nat.le_of_ble_eq_true rfl) none (Or.inl rfl) ?_
  show jWP none RX11 cX11_sales 9 (some .int) (d + 55) 0 0 0 [some (.ref 76), some (.int (nI j)), some (.int k), none, none, none, none, none, none] [] (tw X A L) (jRi (bfI h so) (tw X A L))
  refine j_aload_n dX11_sales_0 rfl rfl ?_
  refine j_iload_n dX11_sales_1 rfl rfl ?_
  refine j_callVi [.int _] [] dX11_sales_2 jlk_X11_228 rfl rfl rfl rfl (Nat.le_of_ble_eq_true rfl) (m_bytesIs_f hj hs h2 hb50 so4 hf) ?_
  refine j_iconst (v := (-1)) dX11_sales_5 rfl ?_
  refine j_icmp_eq (tgt := 14) dX11_sales_6 (by decide) (fun h6 => absurd h6 (bf_neg h2 hf).2) (fun h6 => ?_)
  refine j_iload_n dX11_sales_9 rfl rfl ?_
  refine j_iconst (v := (-1)) dX11_sales_10 rfl ?_
  refine j_icmp_ge (tgt := 16) dX11_sales_11 (by decide) (fun h11 => ?_) (fun h11 => absurd (Int32.not_le.mp h11) hk)
  refine j_aload_n dX11_sales_16 rfl rfl ?_
  refine j_iload_n dX11_sales_17 rfl rfl ?_
  refine j_callVi [.int _] [] dX11_sales_18 jlk_X11_228 rfl rfl rfl rfl (Nat.le_of_ble_eq_true rfl) (m_bytesIs_f hj hs h2 hb50 so4 hf) ?_
  refine j_if_ge (tgt := 30) dX11_sales_21 (by decide) (fun h21 => absurd (bf_neg h2 hf).1 (Int32.not_lt.mpr h21)) (fun h21 => ?_)
  refine j_aload_n dX11_sales_24 rfl rfl ?_
  refine j_iload_n dX11_sales_25 rfl rfl ?_
  refine j_callVi [.int _] [] dX11_sales_26 jlk_X11_228 rfl rfl rfl rfl (Nat.le_of_ble_eq_true rfl) (m_bytesIs_f hj hs h2 hb50 so4 hf) ?_
  refine j_ireturn dX11_sales_29 rfl ?_
  exact ⟨rfl, rfl⟩

set_option maxHeartbeats 200000 in
set_option maxRecDepth 100000 in
theorem m_sales_kf {j : Nat} (hj : j < 6) {h b so : Nat} (hs : A 100 j = mshI h b so) (h2 : h ≤ 2) (hb50 : h = 1 → b < 50) (so4 : so ≤ 4) (hf : bfI h so ≠ 0) {k : Int32} (hk : k < -1) : jMet (d + 55) yX11_sales cX11_sales 9 (some .int) 0 0 [.ref 76, .int (nI j), .int k] (tw X A L) (jRi (-1) (tw X A L)) := by
  refine jMet_of (by decide) (Nat.le_of_ble_eq_true rfl) none (Or.inl rfl) ?_
  show jWP none RX11 cX11_sales 9 (some .int) (d + 55) 0 0 0 [some (.ref 76), some (.int (nI j)), some (.int k), none, none, none, none, none, none] [] (tw X A L) (jRi (-1) (tw X A L))
  refine j_aload_n dX11_sales_0 rfl rfl ?_
  refine j_iload_n dX11_sales_1 rfl rfl ?_
  refine j_callVi [.int _] [] dX11_sales_2 jlk_X11_228 rfl rfl rfl rfl (Nat.le_of_ble_eq_true rfl) (m_bytesIs_f hj hs h2 hb50 so4 hf) ?_
  refine j_iconst (v := (-1)) dX11_sales_5 rfl ?_
  refine j_icmp_eq (tgt := 14) dX11_sales_6 (by decide) (fun h6 => ?_) (fun h6 => ?_)
  · refine j_iconst (v := (-1)) dX11_sales_14 rfl ?_
    refine j_ireturn dX11_sales_15 rfl ?_
    exact ⟨rfl, rfl⟩
  · refine j_iload_n dX11_sales_9 rfl rfl ?_
    refine j_iconst (v := (-1)) dX11_sales_10 rfl ?_
    refine j_icmp_ge (tgt := 16) dX11_sales_11 (by decide) (fun h11 => absurd hk (Int32.not_lt.mpr h11)) (fun h11 => ?_)
    refine j_iconst (v := (-1)) dX11_sales_14 rfl ?_
    refine j_ireturn dX11_sales_15 rfl ?_
    exact ⟨rfl, rfl⟩

set_option maxHeartbeats 200000 in
set_option maxRecDepth 100000 in
theorem m_sales_kt {j : Nat} (hj : j < 6) (hs : A 100 j = nI 50) {k : Int32} (hk : k < -1) : jMet (d + 55) yX11_sales cX11_sales 9 (some .int) 0 0 [.ref 76, .int (nI j), .int k] (tw X A L) (jRi (-1) (tw X A L)) := by
  refine jMet_of (by decide) (Nat.le_of_ble_eq_true rfl) none (Or.inl rfl) ?_
  show jWP none RX11 cX11_sales 9 (some .int) (d + 55) 0 0 0 [some (.ref 76), some (.int (nI j)), some (.int k), none, none, none, none, none, none] [] (tw X A L) (jRi (-1) (tw X A L))
  refine j_aload_n dX11_sales_0 rfl rfl ?_
  refine j_iload_n dX11_sales_1 rfl rfl ?_
  refine j_callVi [.int _] [] dX11_sales_2 jlk_X11_228 rfl rfl rfl rfl (Nat.le_of_ble_eq_true rfl) (m_bytesIs hj hs) ?_
  refine j_iconst (v := (-1)) dX11_sales_5 rfl ?_
  refine j_icmp_eq (tgt := 14) dX11_sales_6 (by decide) (fun h => absurd h (by decide)) (fun _ => ?_)
  refine j_iload_n dX11_sales_9 rfl rfl ?_
  refine j_iconst (v := (-1)) dX11_sales_10 rfl ?_
  refine j_icmp_ge (tgt := 16) dX11_sales_11 (by decide) (fun h11 => absurd hk (Int32.not_lt.mpr h11)) (fun h11 => ?_)
  refine j_iconst (v := (-1)) dX11_sales_14 rfl ?_
  refine j_ireturn dX11_sales_15 rfl ?_
  exact ⟨rfl, rfl⟩

set_option maxHeartbeats 200000 in
set_option maxRecDepth 100000 in
theorem m_balance (hr : mrul td tm tx na v X A) (z1 : zb 49 (A 82)) (z2 : zb 49 (A 83)) (z3 : zb 49 (A 84)) (z4 : zb 49 (A 85)) (hw : ow (A 82)) {j ln : Nat} (hj : j < 6) {E : Nat → Int32} (hs : A 100 j = nI 50) (hm : A 101 j = nI ln) (l60 : ln ≤ 60) (hE : ∀ i, i < ln → L 102 (60 * j + i) = (E i).toInt64) {T : Nat} (hT : saC (saB na ln E) 30 0 = T) {k : Nat} (hk : k < na) : jMet (d + 56) yX11_balance cX11_balance 3 (some .int) 0 0 [.ref 76, .int (nI j), .int (nI k)] (tw X A L) ((fun z w => z = some (.int (balS (ruS (RkM td tm tx v) (ev E) (od E) (A 82, A 83) T).1.1 (ruS (RkM td tm tx v) (ev E) (od E) (A 82, A 83) T).1.2 (nI k) 49)) ∧ ∃ y N : Nat → Int32, w = tw (zX X y) (tM A N (ruS (RkM td tm tx v) (ev E) (od E) (A 82, A 83) T).1) L)) := by
  refine jMet_of (by decide) (Nat.le_of_ble_eq_true rfl) none (Or.inl rfl) ?_
  show jWP none RX11 cX11_balance 3 (some .int) (d + 56) 0 0 0 [some (.ref 76), some (.int (nI j)), some (.int (nI k))] [] (tw X A L) ((fun z w => z = some (.int (balS (ruS (RkM td tm tx v) (ev E) (od E) (A 82, A 83) T).1.1 (ruS (RkM td tm tx v) (ev E) (od E) (A 82, A 83) T).1.2 (nI k) 49)) ∧ ∃ y N : Nat → Int32, w = tw (zX X y) (tM A N (ruS (RkM td tm tx v) (ev E) (od E) (A 82, A 83) T).1) L))
  refine j_aload_n dX11_balance_0 rfl rfl ?_
  refine j_iload_n dX11_balance_1 rfl rfl ?_
  refine j_callVi [.int _] [] dX11_balance_2 jlk_X11_228 rfl rfl rfl rfl (Nat.le_of_ble_eq_true rfl) (m_bytesIs hj hs) ?_
  refine j_iconst (v := (-1)) dX11_balance_5 rfl ?_
  refine j_icmp_eq (tgt := 18) dX11_balance_6 (by decide) (fun h => absurd h (by decide)) (fun _ => ?_)
  refine j_aload_n dX11_balance_9 rfl rfl ?_
  refine j_iload_n dX11_balance_10 rfl rfl ?_
  refine j_i2l dX11_balance_11 ?_
  refine j_callVi [.long _] [] dX11_balance_12 jlk_X11_128 rfl rfl rfl rfl (Nat.le_of_ble_eq_true rfl) (jMet_i (m_isAccount hr.2.2.2.2.2.1 hr.2.2.2.2.2.2.1) (isA_in hk (by have := hr.2.2.2.2.2.2.1; omega)) rfl) ?_
  refine j_if_ne (tgt := 20) dX11_balance_15 (by decide) (fun _ => ?_) (fun h => absurd h (by decide))
  refine j_aload_n dX11_balance_20 rfl rfl ?_
  refine j_iload_n dX11_balance_21 rfl rfl ?_
  refine j_callVi [.int _] [] dX11_balance_22 jlk_X11_228 rfl rfl rfl rfl (Nat.le_of_ble_eq_true rfl) (m_bytesIs hj hs) ?_
  refine j_if_ge (tgt := 34) dX11_balance_25 (by decide) (fun _ => ?_) (fun h => absurd (by decide) h)
  refine j_aload_n dX11_balance_34 rfl rfl ?_
  refine j_iload_n dX11_balance_35 rfl rfl ?_
  refine j_iconst (v := (-1)) dX11_balance_36 rfl ?_
  refine j_callV [.int _, .int _] [] dX11_balance_37 jlk_X11_237 rfl rfl rfl rfl (Nat.le_of_ble_eq_true rfl) (m_sales hr z1 z2 z3 z4 hw hj hs hm l60 hE hT (by decide)) (fun r9 w9 h9 => ?_)
  obtain ⟨rfl, y9, N9, rfl⟩ := h9
  refine j_ats (st' := [.int _]) rfl ?_
  refine j_pop dX11_balance_40 rfl ?_
  refine j_aload_n dX11_balance_41 rfl rfl ?_
  refine j_iload_n dX11_balance_42 rfl rfl ?_
  refine j_callVi [.int _] [] dX11_balance_43 jlk_X11_143 rfl rfl rfl rfl (Nat.le_of_ble_eq_true rfl) (m_balanceOf) ?_
  rw [tM_84, tM_85]
  refine j_ireturn dX11_balance_46 rfl ?_
  exact ⟨rfl, y9, N9, rfl⟩

set_option maxHeartbeats 200000 in
set_option maxRecDepth 100000 in
theorem m_balance_no {c a : Int32} (h : isA 6 c = nI 0) : jMet (d + 56) yX11_balance cX11_balance 3 (some .int) 0 0 [.ref 76, .int c, .int a] (tw X A L) (jRi (-1) (tw X A L)) := by
  refine jMet_of (by decide) (Nat.le_of_ble_eq_true rfl) none (Or.inl rfl) ?_
  show jWP none RX11 cX11_balance 3 (some .int) (d + 56) 0 0 0 [some (.ref 76), some (.int c), some (.int a)] [] (tw X A L) (jRi (-1) (tw X A L))
  refine j_aload_n dX11_balance_0 rfl rfl ?_
  refine j_iload_n dX11_balance_1 rfl rfl ?_
  refine j_callVi [.int _] [] dX11_balance_2 jlk_X11_228 rfl rfl rfl rfl (Nat.le_of_ble_eq_true rfl) (m_bytesIs_no h) ?_
  refine j_iconst (v := (-1)) dX11_balance_5 rfl ?_
  refine j_icmp_eq (tgt := 18) dX11_balance_6 (by decide) (fun _ => ?_) (fun h => absurd (by decide) h)
  refine j_iconst (v := (-1)) dX11_balance_18 rfl ?_
  refine j_ireturn dX11_balance_19 rfl ?_
  exact ⟨rfl, rfl⟩

set_option maxHeartbeats 200000 in
set_option maxRecDepth 100000 in
theorem m_balance_f (hn : X 76 7 = nI na) (h6a : na ≤ 6) {j : Nat} (hj : j < 6) {h b so : Nat} (hs : A 100 j = mshI h b so) (h2 : h ≤ 2) (hb50 : h = 1 → b < 50) (so4 : so ≤ 4) (hf : bfI h so ≠ 0) {k : Nat} (hk : k < na) : jMet (d + 56) yX11_balance cX11_balance 3 (some .int) 0 0 [.ref 76, .int (nI j), .int (nI k)] (tw X A L) (jRi (bfI h so) (tw X A L)) := by
  refine jMet_of (by decide) (Nat.le_of_ble_eq_true rfl) none (Or.inl rfl) ?_
  show jWP none RX11 cX11_balance 3 (some .int) (d + 56) 0 0 0 [some (.ref 76), some (.int (nI j)), some (.int (nI k))] [] (tw X A L) (jRi (bfI h so) (tw X A L))
  refine j_aload_n dX11_balance_0 rfl rfl ?_
  refine j_iload_n dX11_balance_1 rfl rfl ?_
  refine j_callVi [.int _] [] dX11_balance_2 jlk_X11_228 rfl rfl rfl rfl (Nat.le_of_ble_eq_true rfl) (m_bytesIs_f hj hs h2 hb50 so4 hf) ?_
  refine j_iconst (v := (-1)) dX11_balance_5 rfl ?_
  refine j_icmp_eq (tgt := 18) dX11_balance_6 (by decide) (fun h6 => absurd h6 (bf_neg h2 hf).2) (fun h6 => ?_)
  refine j_aload_n dX11_balance_9 rfl rfl ?_
  refine j_iload_n dX11_balance_10 rfl rfl ?_
  refine j_i2l dX11_balance_11 ?_
  refine j_callVi [.long _] [] dX11_balance_12 jlk_X11_128 rfl rfl rfl rfl (Nat.le_of_ble_eq_true rfl) (jMet_i (m_isAccount hn h6a) (isA_in hk (by omega)) rfl) ?_
  refine j_if_ne (tgt := 20) dX11_balance_15 (by decide) (fun _ => ?_) (fun h => absurd h (by decide))
  refine j_aload_n dX11_balance_20 rfl rfl ?_
  refine j_iload_n dX11_balance_21 rfl rfl ?_
  refine j_callVi [.int _] [] dX11_balance_22 jlk_X11_228 rfl rfl rfl rfl (Nat.le_of_ble_eq_true rfl) (m_bytesIs_f hj hs h2 hb50 so4 hf) ?_
  refine j_if_ge (tgt := 34) dX11_balance_25 (by decide) (fun h25 => absurd (bf_neg h2 hf).1 (Int32.not_lt.mpr h25)) (fun h25 => ?_)
  refine j_aload_n dX11_balance_28 rfl rfl ?_
  refine j_iload_n dX11_balance_29 rfl rfl ?_
  refine j_callVi [.int _] [] dX11_balance_30 jlk_X11_228 rfl rfl rfl rfl (Nat.le_of_ble_eq_true rfl) (m_bytesIs_f hj hs h2 hb50 so4 hf) ?_
  refine j_ireturn dX11_balance_33 rfl ?_
  exact ⟨rfl, rfl⟩

set_option maxHeartbeats 200000 in
set_option maxRecDepth 100000 in
theorem m_balance_af (hn : X 76 7 = nI na) (h6a : na ≤ 6) {j : Nat} (hj : j < 6) {h b so : Nat} (hs : A 100 j = mshI h b so) (h2 : h ≤ 2) (hb50 : h = 1 → b < 50) (so4 : so ≤ 4) (hf : bfI h so ≠ 0) {a : Int32} (ha : isA na a = nI 0) : jMet (d + 56) yX11_balance cX11_balance 3 (some .int) 0 0 [.ref 76, .int (nI j), .int a] (tw X A L) (jRi (-1) (tw X A L)) := by
  refine jMet_of (by decide) (Nat.le_of_ble_eq_true rfl) none (Or.inl rfl) ?_
  show jWP none RX11 cX11_balance 3 (some .int) (d + 56) 0 0 0 [some (.ref 76), some (.int (nI j)), some (.int a)] [] (tw X A L) (jRi (-1) (tw X A L))
  refine j_aload_n dX11_balance_0 rfl rfl ?_
  refine j_iload_n dX11_balance_1 rfl rfl ?_
  refine j_callVi [.int _] [] dX11_balance_2 jlk_X11_228 rfl rfl rfl rfl (Nat.le_of_ble_eq_true rfl) (m_bytesIs_f hj hs h2 hb50 so4 hf) ?_
  refine j_iconst (v := (-1)) dX11_balance_5 rfl ?_
  refine j_icmp_eq (tgt := 18) dX11_balance_6 (by decide) (fun h6 => ?_) (fun h6 => ?_)
  · refine j_iconst (v := (-1)) dX11_balance_18 rfl ?_
    refine j_ireturn dX11_balance_19 rfl ?_
    exact ⟨rfl, rfl⟩
  · refine j_aload_n dX11_balance_9 rfl rfl ?_
    refine j_iload_n dX11_balance_10 rfl rfl ?_
    refine j_i2l dX11_balance_11 ?_
    refine j_callVi [.long _] [] dX11_balance_12 jlk_X11_128 rfl rfl rfl rfl (Nat.le_of_ble_eq_true rfl) (jMet_i (m_isAccount hn h6a) ha rfl) ?_
    refine j_if_ne (tgt := 20) dX11_balance_15 (by decide) (fun h => absurd (by decide) h) (fun _ => ?_)
    refine j_iconst (v := (-1)) dX11_balance_18 rfl ?_
    refine j_ireturn dX11_balance_19 rfl ?_
    exact ⟨rfl, rfl⟩

set_option maxHeartbeats 200000 in
set_option maxRecDepth 100000 in
theorem m_balance_at (hn : X 76 7 = nI na) (h6a : na ≤ 6) {j : Nat} (hj : j < 6) (hs : A 100 j = nI 50) {a : Int32} (ha : isA na a = nI 0) : jMet (d + 56) yX11_balance cX11_balance 3 (some .int) 0 0 [.ref 76, .int (nI j), .int a] (tw X A L) (jRi (-1) (tw X A L)) := by
  refine jMet_of (by decide) (Nat.le_of_ble_eq_true rfl) none (Or.inl rfl) ?_
  show jWP none RX11 cX11_balance 3 (some .int) (d + 56) 0 0 0 [some (.ref 76), some (.int (nI j)), some (.int a)] [] (tw X A L) (jRi (-1) (tw X A L))
  refine j_aload_n dX11_balance_0 rfl rfl ?_
  refine j_iload_n dX11_balance_1 rfl rfl ?_
  refine j_callVi [.int _] [] dX11_balance_2 jlk_X11_228 rfl rfl rfl rfl (Nat.le_of_ble_eq_true rfl) (m_bytesIs hj hs) ?_
  refine j_iconst (v := (-1)) dX11_balance_5 rfl ?_
  refine j_icmp_eq (tgt := 18) dX11_balance_6 (by decide) (fun h => absurd h (by decide)) (fun _ => ?_)
  refine j_aload_n dX11_balance_9 rfl rfl ?_
  refine j_iload_n dX11_balance_10 rfl rfl ?_
  refine j_i2l dX11_balance_11 ?_
  refine j_callVi [.long _] [] dX11_balance_12 jlk_X11_128 rfl rfl rfl rfl (Nat.le_of_ble_eq_true rfl) (jMet_i (m_isAccount hn h6a) ha rfl) ?_
  refine j_if_ne (tgt := 20) dX11_balance_15 (by decide) (fun h => absurd (by decide) h) (fun _ => ?_)
  refine j_iconst (v := (-1)) dX11_balance_18 rfl ?_
  refine j_ireturn dX11_balance_19 rfl ?_
  exact ⟨rfl, rfl⟩

end CT58