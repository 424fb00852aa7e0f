/-! orders -/
def swN (p : Nat → Nat) (a b : Nat) : Nat → Nat := updN (updN p a (p b)) b (p a)
/-- where an order rises last, looked for from a place downwards -/
def riF (p : Nat → Nat) : Nat → Option Nat
  | 0 => none
  | k + 1 => if p (k + 1) < p k then riF p k else some k
def grF (p : Nat → Nat) (r : Nat) : Nat → Nat
  | 0 => 0
  | g + 1 => if r < g + 1 then (if p r ≤ p (g + 1) then g + 1 else grF p r g) else g + 1
theorem grF_a {p : Nat → Nat} {r g : Nat} (h : r < g + 1) (h2 : p r ≤ p (g + 1)) : grF p r (g + 1) = g + 1 := (if_pos h).trans (if_pos h2)
theorem grF_b {p : Nat → Nat} {r g : Nat} (h : ¬ r < g + 1) : grF p r (g + 1) = g + 1 := if_neg h
theorem grF_c {p : Nat → Nat} {r g : Nat} (h : r < g + 1) (h2 : p (g + 1) < p r) : grF p r (g + 1) = grF p r g := (if_pos h).trans (if_neg (Nat.not_le.mpr h2))
def rvF : Nat → (Nat → Nat) → Nat → Nat → (Nat → Nat)
  | 0, p, _, _ => p
  | f + 1, p, l, t => if l < t then rvF f (swN p l t) (l + 1) (t - 1) else p
def nxO (m : Nat) (p : Nat → Nat) : Option (Nat → Nat) :=
  if m < 2 then none else (riF p (m - 1)).map fun r => rvF 5 (swN p r (grF p r (m - 1))) (r + 1) (m - 1)
theorem riF_lt {p : Nat → Nat} : ∀ {k r : Nat}, riF p k = some r → r < k
  | 0, _, h => by cases h
  | k + 1, r, h => by
    unfold riF at h
    split at h
    · exact Nat.lt_succ_of_lt (riF_lt h)
    · cases h; exact Nat.lt_succ_self k
theorem grF_le {p : Nat → Nat} {r : Nat} : ∀ g, grF p r g ≤ g
  | 0 => Nat.le_refl _
  | g + 1 => by
    unfold grF
    split
    · split
      · exact Nat.le_refl _
      · exact Nat.le_succ_of_le (grF_le g)
    · exact Nat.le_refl _
theorem swN_lt {p : Nat → Nat} {a b c n : Nat} (h : ∀ i, i < c → p i < n) (ha : a < c) (hb : b < c) : ∀ i, i < c → swN p a b i < n := by
  intro i hi
  unfold swN updN
  split
  · exact h a ha
  · split
    · exact h b hb
    · exact h i hi
theorem rvF_lt {n c : Nat} : ∀ {f : Nat} {p : Nat → Nat} {l t : Nat}, (∀ i, i < c → p i < n) → t < c → ∀ i, i < c → rvF f p l t i < n
  | 0, p, l, t, h, _ => h
  | f + 1, p, l, t, h, ht => by
    unfold rvF
    split
    · exact rvF_lt (swN_lt h (by omega) ht) (by omega)
    · exact h
section CT13
variable {d : Nat} {X A : Nat → Nat → Int32} {L : Nat → Nat → Int64} {w : jW} {m : Nat} {p : Nat → Nat} {post : Option Value → jW → Prop}

set_option maxHeartbeats 4000000 in
set_option maxRecDepth 100000 in
theorem c_X9_swapPlaces (hp : A 37 = nIf p) {a b : Nat} (ha : a < 5) (hb : b < 5) : jMet (d) yX9_swapPlaces cX9_swapPlaces 4 none 0 0 [.ref 35, .int (nI a), .int (nI b)] (tw X A L) (jRv (tw X (va_up A 37 (nIf (swN p a b))) L)) := by
  refine jMet_of (by decide) (Nat.le_of_ble_eq_true rfl) none (Or.inl rfl) ?_
  show jWP none RX9 cX9_swapPlaces 4 none (d) 0 0 0 [some (.ref 35), some (.int (nI a)), some (.int (nI b)), none] [] (tw X A L) (jRv (tw X (va_up A 37 (nIf (swN p a b))) L))
  refine j_aload_n dX9_swapPlaces_0 rfl rfl ?_
  refine t_getR (b := 37) dX9_swapPlaces_1 jfl_X9_21 (fun _ _ _ => rfl) rfl ?_
  refine j_iload_n dX9_swapPlaces_4 rfl rfl ?_
  refine t_iaload dX9_swapPlaces_5 (fun _ _ _ => rfl) (by omega) (by decide) ?_
  refine j_istore_n (lv' := [some (.ref 35), some (.int _), some (.int _), some (.int _)]) dX9_swapPlaces_6 rfl (by decide) rfl ?_
  refine j_aload_n dX9_swapPlaces_7 rfl rfl ?_
  refine t_getR (b := 37) dX9_swapPlaces_8 jfl_X9_21 (fun _ _ _ => rfl) rfl ?_
  refine j_iload_n dX9_swapPlaces_11 rfl rfl ?_
  refine j_aload_n dX9_swapPlaces_12 rfl rfl ?_
  refine t_getR (b := 37) dX9_swapPlaces_13 jfl_X9_21 (fun _ _ _ => rfl) rfl ?_
  refine j_iload_n dX9_swapPlaces_16 rfl rfl ?_
  refine t_iaload dX9_swapPlaces_17 (fun _ _ _ => rfl) (by omega) (by decide) ?_
  refine t_iastore dX9_swapPlaces_18 (fun _ _ _ => rfl) (by omega) (by decide) ?_
  refine j_aload_n dX9_swapPlaces_19 rfl rfl ?_
  refine t_getR (b := 37) dX9_swapPlaces_20 jfl_X9_21 (fun _ _ _ => rfl) rfl ?_
  refine j_iload_n dX9_swapPlaces_23 rfl rfl ?_
  refine j_iload_n dX9_swapPlaces_24 rfl rfl ?_
  refine t_iastore dX9_swapPlaces_25 (fun _ _ _ => rfl) (by omega) (by decide) ?_
  refine j_return dX9_swapPlaces_26 rfl ?_
  refine ⟨rfl, tw_eq rfl ?_ rfl⟩
  simp only [vu_s, vu_up]
  rw [hp]
  show va_up A 37 (upd (upd (nIf p) a (nI (p b))) b (nI (p a))) = _
  rw [upd_nIf, upd_nIf]
  rfl

set_option maxHeartbeats 4000000 in
set_option maxRecDepth 100000 in
theorem l_X9_nextOrder_91 {q : Nat → Nat} : ∀ (f : Nat) (p : Nat → Nat) (l t : Nat) (x1 x2 : Int32), t ≤ l + f → t < 5 ∧ l ≤ 5 → rvF f p l t = q → jWP none RX9 cX9_nextOrder 5 (some .boolean) (d + 1) 0 0 91 [some (.ref 35), some (.int x1), some (.int x2), some (.int (nI l)), some (.int (nI t))] [] (tw X (va_up A 37 (nIf p)) L) (jRi (nI 1) (tw X (va_up A 37 (nIf q)) L)) := by
  intro f
  induction f with
  | zero =>
    intro p l t x1 x2 hf ht hq
    refine j_iload_n dX9_nextOrder_91 rfl rfl ?_
    refine j_iload dX9_nextOrder_92 rfl ?_
    refine jn_icmp_ge (tgt := 113) dX9_nextOrder_94 (by decide) (by omega) (by omega) (fun h94 => ?_) (fun h94 => absurd h94 (by omega))
    refine j_iconst (v := nI 1) dX9_nextOrder_113 rfl ?_
    refine j_zreturn dX9_nextOrder_114 rfl (by decide) ?_
    exact ⟨rfl, by rw [← hq]; rfl⟩
  | succ f ih =>
    intro p l t x1 x2 hf ht hq
    refine j_iload_n dX9_nextOrder_91 rfl rfl ?_
    refine j_iload dX9_nextOrder_92 rfl ?_
    refine jn_icmp_ge (tgt := 113) dX9_nextOrder_94 (by decide) (by omega) (by omega) (fun h94 => ?_) (fun h94 => ?_)
    · refine j_iconst (v := nI 1) dX9_nextOrder_113 rfl ?_
      refine j_zreturn dX9_nextOrder_114 rfl (by decide) ?_
      refine ⟨rfl, ?_⟩
      rw [← hq]
      unfold rvF
      rw [if_neg (by omega)]
    · refine j_aload_n dX9_nextOrder_97 rfl rfl ?_
      refine j_iload_n dX9_nextOrder_98 rfl rfl ?_
      refine j_iload dX9_nextOrder_99 rfl ?_
      refine j_callVv [.int _, .int _] [] dX9_nextOrder_101 jlk_X9_102 rfl rfl rfl rfl (Nat.le_of_ble_eq_true rfl) (c_X9_swapPlaces (vu_s A 37 (nIf p)) (by omega) (by omega)) ?_
      rw [vu_up]
      refine jn_iinc (lv' := [some (.ref 35), some (.int _), some (.int _), some (.int _), some (.int _)]) dX9_nextOrder_104 rfl (by decide) rfl ?_
      refine jn_idec (lv' := [some (.ref 35), some (.int _), some (.int _), some (.int _), some (.int _)]) dX9_nextOrder_107 rfl (by omega) (by decide) rfl ?_
      refine j_goto (tgt := 91) dX9_nextOrder_110 (by decide) ?_
      refine ih (swN p l t) (l + 1) (t - 1) x1 x2 (by omega) (by omega) ?_
      rw [← hq]
      exact (if_pos h94).symm

set_option maxHeartbeats 4000000 in
set_option maxRecDepth 100000 in
theorem l_X9_nextOrder_47 (hm : X 35 7 = nI m) (hm5 : m ≤ 5) {r : Nat} (hr : r + 1 < m) : ∀ (g s : Nat), (∀ i, i < m → p i < 5) → g < m → r ≤ g → grF p r g = s → jWP none RX9 cX9_nextOrder 5 (some .boolean) (d + 1) 0 0 47 [some (.ref 35), some (.int (nI r)), some (.int (nI g)), none, none] [] (tw X (va_up A 37 (nIf p)) L) (jRi (nI 1) (tw X (va_up A 37 (nIf (rvF 5 (swN p r s) (r + 1) (m - 1)))) L)) := by
  intro g
  induction g with
  | zero =>
    intro s hp h5 h1 h2
    refine j_iload_n dX9_nextOrder_47 rfl rfl ?_
    refine j_iload_n dX9_nextOrder_48 rfl rfl ?_
    refine jn_icmp_le (tgt := 73) dX9_nextOrder_49 (by decide) (by omega) (by omega) (fun h49 => ?_) (fun h49 => absurd h49 (by omega))
    refine j_aload_n dX9_nextOrder_73 rfl rfl ?_
    refine j_iload_n dX9_nextOrder_74 rfl rfl ?_
    refine j_iload_n dX9_nextOrder_75 rfl rfl ?_
    refine j_callVv [.int _, .int _] [] dX9_nextOrder_76 jlk_X9_102 rfl rfl rfl rfl (Nat.le_of_ble_eq_true rfl) (c_X9_swapPlaces (vu_s A 37 (nIf p)) (by omega) (by omega)) ?_
    rw [vu_up]
    refine j_iload_n dX9_nextOrder_79 rfl rfl ?_
    refine j_iconst (v := nI 1) dX9_nextOrder_80 rfl ?_
    refine jn_iadd dX9_nextOrder_81 ?_
    refine j_istore_n (lv' := [some (.ref 35), some (.int _), some (.int _), some (.int _), none]) dX9_nextOrder_82 rfl (by decide) rfl ?_
    refine j_aload_n dX9_nextOrder_83 rfl rfl ?_
    refine t_getI dX9_nextOrder_84 jfl_X9_30 (fun _ _ _ => rfl) (fun _ => rfl) ?_
    refine j_topE (e' := nI m) hm ?_
    refine j_iconst (v := nI 1) dX9_nextOrder_87 rfl ?_
    refine jn_isub dX9_nextOrder_88 (by omega) ?_
    refine j_istore (lv' := [some (.ref 35), some (.int _), some (.int _), some (.int _), some (.int _)]) dX9_nextOrder_89 (by decide) rfl ?_
    obtain rfl : r = 0 := by omega
    obtain rfl : s = 0 := h2.symm
    exact l_X9_nextOrder_91 5 _ (0 + 1) (m - 1) _ _ (by omega) (by omega) rfl
  | succ g ih =>
    intro s hp h5 h1 h2
    refine j_iload_n dX9_nextOrder_47 rfl rfl ?_
    refine j_iload_n dX9_nextOrder_48 rfl rfl ?_
    refine jn_icmp_le (tgt := 73) dX9_nextOrder_49 (by decide) (by omega) (by omega) (fun h49 => ?_) (fun h49 => ?_)
    · refine j_aload_n dX9_nextOrder_73 rfl rfl ?_
      refine j_iload_n dX9_nextOrder_74 rfl rfl ?_
      refine j_iload_n dX9_nextOrder_75 rfl rfl ?_
      refine j_callVv [.int _, .int _] [] dX9_nextOrder_76 jlk_X9_102 rfl rfl rfl rfl (Nat.le_of_ble_eq_true rfl) (c_X9_swapPlaces (vu_s A 37 (nIf p)) (by omega) (by omega)) ?_
      rw [vu_up]
      refine j_iload_n dX9_nextOrder_79 rfl rfl ?_
      refine j_iconst (v := nI 1) dX9_nextOrder_80 rfl ?_
      refine jn_iadd dX9_nextOrder_81 ?_
      refine j_istore_n (lv' := [some (.ref 35), some (.int _), some (.int _), some (.int _), none]) dX9_nextOrder_82 rfl (by decide) rfl ?_
      refine j_aload_n dX9_nextOrder_83 rfl rfl ?_
      refine t_getI dX9_nextOrder_84 jfl_X9_30 (fun _ _ _ => rfl) (fun _ => rfl) ?_
      refine j_topE (e' := nI m) hm ?_
      refine j_iconst (v := nI 1) dX9_nextOrder_87 rfl ?_
      refine jn_isub dX9_nextOrder_88 (by omega) ?_
      refine j_istore (lv' := [some (.ref 35), some (.int _), some (.int _), some (.int _), some (.int _)]) dX9_nextOrder_89 (by decide) rfl ?_
      obtain rfl : s = g + 1 := by
        rw [← h2]
        exact grF_b (by omega)
      exact l_X9_nextOrder_91 5 _ (r + 1) (m - 1) _ _ (by omega) (by omega) rfl
    · refine j_aload_n dX9_nextOrder_52 rfl rfl ?_
      refine t_getR (b := 37) dX9_nextOrder_53 jfl_X9_21 (fun _ _ _ => rfl) rfl ?_
      refine j_iload_n dX9_nextOrder_56 rfl rfl ?_
      refine t_iaload dX9_nextOrder_57 (fun _ _ _ => rfl) (by omega) (by decide) ?_
      refine j_topE (e' := nI (p (g + 1))) (by rw [vu_s]; rfl) ?_
      refine j_aload_n dX9_nextOrder_58 rfl rfl ?_
      refine t_getR (b := 37) dX9_nextOrder_59 jfl_X9_21 (fun _ _ _ => rfl) rfl ?_
      refine j_iload_n dX9_nextOrder_62 rfl rfl ?_
      refine t_iaload dX9_nextOrder_63 (fun _ _ _ => rfl) (by omega) (by decide) ?_
      refine j_topE (e' := nI (p r)) (by rw [vu_s]; rfl) ?_
      refine jn_icmp_ge (tgt := 73) dX9_nextOrder_64 (by decide) (Nat.lt_trans (hp _ (by omega)) (by decide)) (Nat.lt_trans (hp _ (by omega)) (by decide)) (fun h64 => ?_) (fun h64 => ?_)
      · refine j_aload_n dX9_nextOrder_73 rfl rfl ?_
        refine j_iload_n dX9_nextOrder_74 rfl rfl ?_
        refine j_iload_n dX9_nextOrder_75 rfl rfl ?_
        refine j_callVv [.int _, .int _] [] dX9_nextOrder_76 jlk_X9_102 rfl rfl rfl rfl (Nat.le_of_ble_eq_true rfl) (c_X9_swapPlaces (vu_s A 37 (nIf p)) (by omega) (by omega)) ?_
        rw [vu_up]
        refine j_iload_n dX9_nextOrder_79 rfl rfl ?_
        refine j_iconst (v := nI 1) dX9_nextOrder_80 rfl ?_
        refine jn_iadd dX9_nextOrder_81 ?_
        refine j_istore_n (lv' := [some (.ref 35), some (.int _), some (.int _), some (.int _), none]) dX9_nextOrder_82 rfl (by decide) rfl ?_
        refine j_aload_n dX9_nextOrder_83 rfl rfl ?_
        refine t_getI dX9_nextOrder_84 jfl_X9_30 (fun _ _ _ => rfl) (fun _ => rfl) ?_
        refine j_topE (e' := nI m) hm ?_
        refine j_iconst (v := nI 1) dX9_nextOrder_87 rfl ?_
        refine jn_isub dX9_nextOrder_88 (by omega) ?_
        refine j_istore (lv' := [some (.ref 35), some (.int _), some (.int _), some (.int _), some (.int _)]) dX9_nextOrder_89 (by decide) rfl ?_
        obtain rfl : s = g + 1 := by
          rw [← h2]
          exact grF_a h49 h64
        exact l_X9_nextOrder_91 5 _ (r + 1) (m - 1) _ _ (by omega) (by omega) rfl
      · refine jn_idec (lv' := [some (.ref 35), some (.int _), some (.int _), none, none]) dX9_nextOrder_67 rfl (by omega) (by decide) rfl ?_
        refine j_goto (tgt := 47) dX9_nextOrder_70 (by decide) ?_
        refine j_at (lv' := [some (.ref 35), some (.int (nI r)), some (.int (nI g)), none, none]) (by rw [Nat.add_sub_cancel]) (ih s hp (by omega) (by omega) ?_)
        rw [← h2]
        exact (grF_c h49 h64).symm

set_option maxHeartbeats 4000000 in
set_option maxRecDepth 100000 in
theorem l_X9_nextOrder_7 (hm : X 35 7 = nI m) (hm5 : m ≤ 5) (hp : ∀ i, i < m → p i < 5) : ∀ (k : Nat) (r : Option Nat), k + 1 < m → riF p (k + 1) = r → jWP none RX9 cX9_nextOrder 5 (some .boolean) (d + 1) 0 0 7 [some (.ref 35), some (.int (nI k)), none, none, none] [] (tw X (va_up A 37 (nIf p)) L) (jRi (match r with | none => nI 0 | some _ => nI 1) (tw X (va_up A 37 (nIf (match r with | none => p | some r => rvF 5 (swN p r (grF p r (m - 1))) (r + 1) (m - 1)))) L)) := by
  intro k
  induction k with
  | zero =>
    intro r h1 h2
    refine j_iload_n dX9_nextOrder_7 rfl rfl ?_
    refine jn_if_lt (tgt := 34) dX9_nextOrder_8 (by decide) (by omega) ?_
    refine j_aload_n dX9_nextOrder_11 rfl rfl ?_
    refine t_getR (b := 37) dX9_nextOrder_12 jfl_X9_21 (fun _ _ _ => rfl) rfl ?_
    refine j_iload_n dX9_nextOrder_15 rfl rfl ?_
    refine t_iaload dX9_nextOrder_16 (fun _ _ _ => rfl) (by omega) (by decide) ?_
    refine j_topE (e' := nI (p 0)) (by rw [vu_s]; rfl) ?_
    refine j_aload_n dX9_nextOrder_17 rfl rfl ?_
    refine t_getR (b := 37) dX9_nextOrder_18 jfl_X9_21 (fun _ _ _ => rfl) rfl ?_
    refine j_iload_n dX9_nextOrder_21 rfl rfl ?_
    refine j_iconst (v := nI 1) dX9_nextOrder_22 rfl ?_
    refine jn_iadd dX9_nextOrder_23 ?_
    refine t_iaload dX9_nextOrder_24 (fun _ _ _ => rfl) (by omega) (by decide) ?_
    refine j_topE (e' := nI (p (0 + 1))) (by rw [vu_s]; rfl) ?_
    refine jn_icmp_le (tgt := 34) dX9_nextOrder_25 (by decide) (Nat.lt_trans (hp _ (by omega)) (by decide)) (Nat.lt_trans (hp _ (by omega)) (by decide)) (fun h25 => ?_) (fun h25 => ?_)
    · refine j_iload_n dX9_nextOrder_34 rfl rfl ?_
      refine jn_if_ge (tgt := 40) dX9_nextOrder_35 (by decide) (by omega) ?_
      refine j_aload_n dX9_nextOrder_40 rfl rfl ?_
      refine t_getI dX9_nextOrder_41 jfl_X9_30 (fun _ _ _ => rfl) (fun _ => rfl) ?_
      refine j_topE (e' := nI m) hm ?_
      refine j_iconst (v := nI 1) dX9_nextOrder_44 rfl ?_
      refine jn_isub dX9_nextOrder_45 (by omega) ?_
      refine j_istore_n (lv' := [some (.ref 35), some (.int _), some (.int _), none, none]) dX9_nextOrder_46 rfl (by decide) rfl ?_
      obtain rfl : r = some 0 := by rw [← h2]; exact if_neg (Nat.not_lt.mpr h25)
      exact l_X9_nextOrder_47 (r := 0) hm hm5 h1 (m - 1) _ hp (Nat.sub_lt (by omega) (by decide)) (Nat.zero_le _) rfl
    · refine j_iinc (lv' := [some (.ref 35), some (.int _), none, none, none]) dX9_nextOrder_28 rfl rfl (by decide) rfl ?_
      refine j_goto (tgt := 7) dX9_nextOrder_31 (by decide) ?_
      obtain rfl : r = none := by rw [← h2]; exact if_pos h25
      refine j_iload_n dX9_nextOrder_7 rfl rfl ?_
      refine j_if_lt (tgt := 34) dX9_nextOrder_8 (by decide) (fun h8 => ?_) (fun h8 => absurd (by decide) h8)
      refine j_iload_n dX9_nextOrder_34 rfl rfl ?_
      refine j_if_ge (tgt := 40) dX9_nextOrder_35 (by decide) (fun h35 => absurd h35 (by decide)) (fun h35 => ?_)
      refine j_iconst (v := nI 0) dX9_nextOrder_38 rfl ?_
      refine j_zreturn dX9_nextOrder_39 rfl (by decide) ?_
      exact ⟨rfl, rfl⟩
  | succ k ih =>
    intro r h1 h2
    refine j_iload_n dX9_nextOrder_7 rfl rfl ?_
    refine jn_if_lt (tgt := 34) dX9_nextOrder_8 (by decide) (by omega) ?_
    refine j_aload_n dX9_nextOrder_11 rfl rfl ?_
    refine t_getR (b := 37) dX9_nextOrder_12 jfl_X9_21 (fun _ _ _ => rfl) rfl ?_
    refine j_iload_n dX9_nextOrder_15 rfl rfl ?_
    refine t_iaload dX9_nextOrder_16 (fun _ _ _ => rfl) (by omega) (by decide) ?_
    refine j_topE (e' := nI (p (k + 1))) (by rw [vu_s]; rfl) ?_
    refine j_aload_n dX9_nextOrder_17 rfl rfl ?_
    refine t_getR (b := 37) dX9_nextOrder_18 jfl_X9_21 (fun _ _ _ => rfl) rfl ?_
    refine j_iload_n dX9_nextOrder_21 rfl rfl ?_
    refine j_iconst (v := nI 1) dX9_nextOrder_22 rfl ?_
    refine jn_iadd dX9_nextOrder_23 ?_
    refine t_iaload dX9_nextOrder_24 (fun _ _ _ => rfl) (by omega) (by decide) ?_
    refine j_topE (e' := nI (p (k + 1 + 1))) (by rw [vu_s]; rfl) ?_
    refine jn_icmp_le (tgt := 34) dX9_nextOrder_25 (by decide) (Nat.lt_trans (hp _ (by omega)) (by decide)) (Nat.lt_trans (hp _ (by omega)) (by decide)) (fun h25 => ?_) (fun h25 => ?_)
    · refine j_iload_n dX9_nextOrder_34 rfl rfl ?_
      refine jn_if_ge (tgt := 40) dX9_nextOrder_35 (by decide) (by omega) ?_
      refine j_aload_n dX9_nextOrder_40 rfl rfl ?_
      refine t_getI dX9_nextOrder_41 jfl_X9_30 (fun _ _ _ => rfl) (fun _ => rfl) ?_
      refine j_topE (e' := nI m) hm ?_
      refine j_iconst (v := nI 1) dX9_nextOrder_44 rfl ?_
      refine jn_isub dX9_nextOrder_45 (by omega) ?_
      refine j_istore_n (lv' := [some (.ref 35), some (.int _), some (.int _), none, none]) dX9_nextOrder_46 rfl (by decide) rfl ?_
      obtain rfl : r = some (k + 1) := by rw [← h2]; exact if_neg (by omega)
      exact l_X9_nextOrder_47 hm hm5 (by omega) (m - 1) _ hp (by omega) (by omega) rfl
    · refine jn_idec (lv' := [some (.ref 35), some (.int _), none, none, none]) dX9_nextOrder_28 rfl (by omega) (by decide) rfl ?_
      refine j_goto (tgt := 7) dX9_nextOrder_31 (by decide) ?_
      refine j_at (lv' := [some (.ref 35), some (.int (nI k)), none, none, none]) (by rw [Nat.add_sub_cancel]) (ih r (by omega) ?_)
      rw [← h2]
      exact (if_pos h25).symm

set_option maxHeartbeats 4000000 in
set_option maxRecDepth 100000 in
theorem c_X9_nextOrder (hm : X 35 7 = nI m) (hm5 : m ≤ 5) (hpa : A 37 = nIf p) (hp : ∀ i, i < m → p i < 5) (hm2 : 2 ≤ m) : jMet (d + 1) yX9_nextOrder cX9_nextOrder 5 (some .boolean) 0 0 [.ref 35] (tw X A L) (jRi (match nxO m p with | none => nI 0 | some _ => nI 1) (tw X (va_up A 37 (nIf ((nxO m p).getD p))) L)) := by
  refine jMet_of (by decide) (Nat.le_of_ble_eq_true rfl) none (Or.inl rfl) ?_
  show jWP none RX9 cX9_nextOrder 5 (some .boolean) (d + 1) 0 0 0 [some (.ref 35), none, none, none, none] [] (tw X A L) (jRi (match nxO m p with | none => nI 0 | some _ => nI 1) (tw X (va_up A 37 (nIf ((nxO m p).getD p))) L))
  refine j_aload_n dX9_nextOrder_0 rfl rfl ?_
  refine t_getI dX9_nextOrder_1 jfl_X9_30 (fun _ _ _ => rfl) (fun _ => rfl) ?_
  refine j_topE (e' := nI m) hm ?_
  refine j_iconst (v := nI 2) dX9_nextOrder_4 rfl ?_
  refine jn_isub dX9_nextOrder_5 (by omega) ?_
  refine j_istore_n (lv' := [some (.ref 35), some (.int _), none, none, none]) dX9_nextOrder_6 rfl (by decide) rfl ?_
  have e9 : nxO m p = (riF p (m - 1)).map fun r => rvF 5 (swN p r (grF p r (m - 1))) (r + 1) (m - 1) := if_neg (by omega)
  rw [e9]
  have h9 := l_X9_nextOrder_7 (d := d) (X := X) (A := A) (L := L) hm hm5 hp (m - 2) _ (by omega) rfl
  rw [show m - 2 + 1 = m - 1 by omega] at h9
  rw [← hpa, vu_self] at h9
  cases hr : riF p (m - 1) with
  | none => rw [hr] at h9; simp only [Option.map_none, Option.getD_none] at *; first | exact h9 | (rw [← hpa, vu_self]; exact h9)
  | some r => rw [hr] at h9; exact h9

set_option maxHeartbeats 4000000 in
set_option maxRecDepth 100000 in
theorem c_X9_nextOrder_no (hm : X 35 7 = nI m) (hm2 : m < 2) : jMet (d + 1) yX9_nextOrder cX9_nextOrder 5 (some .boolean) 0 0 [.ref 35] (tw X A L) (jRi (nI 0) (tw X A L)) := by
  refine jMet_of (by decide) (Nat.le_of_ble_eq_true rfl) none (Or.inl rfl) ?_
  show jWP none RX9 cX9_nextOrder 5 (some .boolean) (d + 1) 0 0 0 [some (.ref 35), none, none, none, none] [] (tw X A L) (jRi (nI 0) (tw X A L))
  refine j_aload_n dX9_nextOrder_0 rfl rfl ?_
  refine t_getI dX9_nextOrder_1 jfl_X9_30 (fun _ _ _ => rfl) (fun _ => rfl) ?_
  refine j_topE (e' := nI m) hm ?_
  refine j_iconst (v := nI 2) dX9_nextOrder_4 rfl ?_
  refine j_isub dX9_nextOrder_5 ?_
  have hneg : nI m - nI 2 < 0 := by rcases (show m = 0 ∨ m = 1 by omega) with rfl | rfl <;> decide
  refine j_istore_n (lv' := [some (.ref 35), some (.int _), none, none, none]) dX9_nextOrder_6 rfl (by decide) rfl ?_
  refine j_iload_n dX9_nextOrder_7 rfl rfl ?_
  refine j_if_lt (tgt := 34) dX9_nextOrder_8 (by decide) (fun h8 => ?_) (fun h8 => absurd hneg h8)
  refine j_iload_n dX9_nextOrder_34 rfl rfl ?_
  refine j_if_ge (tgt := 40) dX9_nextOrder_35 (by decide) (fun h35 => absurd hneg (Int32.not_lt.mpr h35)) (fun h35 => ?_)
  refine j_iconst (v := nI 0) dX9_nextOrder_38 rfl ?_
  refine j_zreturn dX9_nextOrder_39 rfl (by decide) ?_
  exact ⟨rfl, rfl⟩

end CT13