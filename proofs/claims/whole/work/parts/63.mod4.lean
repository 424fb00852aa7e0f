theorem iA_95 (A : Nat → Nat → Int32) (O S E : Nat → Int32) : iA A O S E 95 = O := by unfold iA; rw [vu_n _ _ _ (by decide), vu_n _ _ _ (by decide), vu_s]
theorem iA_96 (A : Nat → Nat → Int32) (O S E : Nat → Int32) : iA A O S E 96 = S := by unfold iA; rw [vu_n _ _ _ (by decide), vu_s]
theorem iA_97 (A : Nat → Nat → Int32) (O S E : Nat → Int32) : iA A O S E 97 = E := vu_s _ _ _
theorem iA_n (A : Nat → Nat → Int32) (O S E : Nat → Int32) {c : Nat} (h1 : c ≠ 95) (h2 : c ≠ 96) (h3 : c ≠ 97) : iA A O S E c = A c := by unfold iA; rw [vu_n _ _ _ h3, vu_n _ _ _ h2, vu_n _ _ _ h1]
theorem iA_p95 (A : Nat → Nat → Int32) (O S E O' : Nat → Int32) : va_up (iA A O S E) 95 O' = iA A O' S E := by
  unfold iA
  rw [vu_comm _ _ _ (by decide), vu_comm (va_up A 95 _) _ _ (by decide), vu_up]
theorem iA_p96 (A : Nat → Nat → Int32) (O S E S' : Nat → Int32) : va_up (iA A O S E) 96 S' = iA A O S' E := by
  unfold iA
  rw [vu_comm _ _ _ (by decide), vu_up]
theorem iA_p97 (A : Nat → Nat → Int32) (O S E E' : Nat → Int32) : va_up (iA A O S E) 97 E' = iA A O S E' := vu_up _ _ _ _
theorem iA_self (A : Nat → Nat → Int32) : iA A (A 95) (A 96) (A 97) = A := by
  unfold iA
  rw [vu_self, show va_up A 96 (A 96) = A from vu_self _ _, vu_self]
def kA (A : Nat → Nat → Int32) (O S E : Nat → Int32) : Nat → Nat → Int32 := va_up (va_up (va_up A 82 O) 83 S) 94 E
theorem kA_82 (A : Nat → Nat → Int32) (O S E : Nat → Int32) : kA A O S E 82 = O := by unfold kA; rw [vu_n _ _ _ (by decide), vu_n _ _ _ (by decide), vu_s]
theorem kA_83 (A : Nat → Nat → Int32) (O S E : Nat → Int32) : kA A O S E 83 = S := by unfold kA; rw [vu_n _ _ _ (by decide), vu_s]
theorem kA_94 (A : Nat → Nat → Int32) (O S E : Nat → Int32) : kA A O S E 94 = E := vu_s _ _ _
theorem kA_n (A : Nat → Nat → Int32) (O S E : Nat → Int32) {c : Nat} (h1 : c ≠ 82) (h2 : c ≠ 83) (h3 : c ≠ 94) : kA A O S E c = A c := by unfold kA; rw [vu_n _ _ _ h3, vu_n _ _ _ h2, vu_n _ _ _ h1]
theorem kA_p82 (A : Nat → Nat → Int32) (O S E O' : Nat → Int32) : va_up (kA A O S E) 82 O' = kA A O' S E := by
  unfold kA
  rw [vu_comm _ _ _ (by decide), vu_comm (va_up A 82 _) _ _ (by decide), vu_up]
theorem kA_p83 (A : Nat → Nat → Int32) (O S E S' : Nat → Int32) : va_up (kA A O S E) 83 S' = kA A O S' E := by
  unfold kA
  rw [vu_comm _ _ _ (by decide), vu_up]
theorem kA_p94 (A : Nat → Nat → Int32) (O S E E' : Nat → Int32) : va_up (kA A O S E) 94 E' = kA A O S E' := vu_up _ _ _ _
theorem kA_self (A : Nat → Nat → Int32) : kA A (A 82) (A 83) (A 94) = A := by
  unfold kA
  rw [vu_self, show va_up A 83 (A 83) = A from vu_self _ _, vu_self]
/-- a shelf by the reference: -1, a hive's number, or 50 and the sort -/
def mshI (h b so : Nat) : Int32 := if h = 0 then -1 else if h = 1 then nI b else nI (50 + so)
def izF (g : Nat → Int64) (a i : Nat) : Nat → Int64 := fun c => if a ≤ c ∧ c < i then 0 else g c
theorem izF_0 (g : Nat → Int64) (a : Nat) : izF g a a = g := by funext c; unfold izF; rw [if_neg (by omega)]
theorem izF_s (g : Nat → Int64) {a i : Nat} (h : a ≤ i) : vp_updL (izF g a i) i 0 = izF g a (i + 1) := by
  funext c; unfold vp_updL izF
  by_cases e : c = i
  · rw [if_pos e, if_pos (by omega)]
  · rw [if_neg e]
    by_cases q : a ≤ c ∧ c < i
    · rw [if_pos q, if_pos (by omega)]
    · rw [if_neg q, if_neg (by omega)]
def caF (f g : Nat → Int64) (n : Nat) : Nat → Int64 := fun k => if k < n then f k else g k
theorem caF_0 (f g : Nat → Int64) : caF f g 0 = g := by funext c; unfold caF; rw [if_neg (by omega)]
theorem caF_s (f g : Nat → Int64) (n : Nat) : vp_updL (caF f g n) n (f n) = caF f g (n + 1) := by
  funext c; unfold vp_updL caF
  by_cases e : c = n
  · rw [if_pos e, if_pos (by omega), e]
  · rw [if_neg e]
    by_cases q : c < n
    · rw [if_pos q, if_pos (by omega)]
    · rw [if_neg q, if_neg (by omega)]
def cbF (f g : Nat → Int64) (a n : Nat) : Nat → Int64 := fun c => if a ≤ c ∧ c < a + n then f (c - a) else g c
theorem cbF_0 (f g : Nat → Int64) (a : Nat) : cbF f g a 0 = g := by funext c; unfold cbF; rw [if_neg (by omega)]
theorem cbF_s (f g : Nat → Int64) (a n : Nat) : vp_updL (cbF f g a n) (a + n) (f n) = cbF f g a (n + 1) := by
  funext c; unfold vp_updL cbF
  by_cases e : c = a + n
  · rw [if_pos e, if_pos (by omega), e, Nat.add_sub_cancel_left]
  · rw [if_neg e]
    by_cases q : a ≤ c ∧ c < a + n
    · rw [if_pos q, if_pos (by omega)]
    · rw [if_neg q, if_neg (by omega)]
def abM (a : Nat) : Nat := if a = 3 then 2 else if a = 4 then 1 else if a = 5 then 3 else if a = 7 then 4 else 0
def utM (k : Nat) : Nat → Nat → Nat
  | 0, a => a
  | f + 1, a => if a = k then a else if a = 0 then a else utM k f (abM a)
theorem ut_tab {a k : Nat} (ha : a < 8) (hk : k < 8) : (utM k 4 a = k) = (undB (some a) k = true) := by
  have q : (List.range 8).all (fun a => (List.range 8).all fun k => decide ((utM k 4 a = k) = (undB (some a) k = true))) = true := by decide +kernel
  exact of_decide_eq_true (List.all_eq_true.mp (List.all_eq_true.mp q a (List.mem_range.mpr ha)) k (List.mem_range.mpr hk))
theorem ab_h {a : Nat} (ha : a < 8) (h0 : a ≠ 0) : hgt (abM a) < hgt a ∧ abM a < 8 := by
  rcases (show a = 1 ∨ a = 2 ∨ a = 3 ∨ a = 4 ∨ a = 5 ∨ a = 6 ∨ a = 7 by omega) with rfl | rfl | rfl | rfl | rfl | rfl | rfl <;> decide
section CT43
variable {d : Nat} {X A : Nat → Nat → Int32} {L : Nat → Nat → Int64} {w : jW} {na nb : Nat} {v kd : Nat → Nat}

set_option maxHeartbeats 200000 in
set_option maxRecDepth 100000 in
theorem l_image2  : ∀ (m i : Nat), i ≤ 6 → 6 - i < m → jWP none RX11 cX11_image 2 (some .int) (d) 0 0 45 [some (.ref 76), some (.int (nI i))] [] (tw X (iA A (cpN (A 82) (A 95) 49) (cpN (A 83) (A 96) 49) (cpN (A 94) (A 97) i)) L) (jRi (A 94 0) (tw X (iA A (cpN (A 82) (A 95) 49) (cpN (A 83) (A 96) 49) (cpN (A 94) (A 97) 6)) L)) := by
  intro m
  induction m with
  | zero => intro i h1 h2; omega
  | succ m ih =>
    intro i hi hm
    refine j_iload_n dX11_image_45 rfl rfl ?_
    refine j_bipush (v := nI 6) dX11_image_46 rfl ?_
    refine jn_icmp_ge (tgt := 69) dX11_image_48 (by decide) (by omega) (by omega) (fun h48 => ?_) (fun h48 => ?_)
    · refine j_aload_n dX11_image_69 rfl rfl ?_
      refine t_getR (b := 94) dX11_image_70 jfl_X11_64 (fun _ _ _ => rfl) rfl ?_
      refine j_iconst (v := nI 0) dX11_image_73 rfl ?_
      refine t_iaload dX11_image_74 (fun _ _ _ => rfl) (by omega) (by decide) ?_
      refine j_ireturn dX11_image_75 rfl ?_
      obtain rfl : i = 6 := by omega
      exact ⟨by rw [iA_n _ _ _ _ (by decide) (by decide) (by decide)], rfl⟩
    · refine j_aload_n dX11_image_51 rfl rfl ?_
      refine t_getR (b := 97) dX11_image_52 jfl_X11_73 (fun _ _ _ => rfl) rfl ?_
      refine j_iload_n dX11_image_55 rfl rfl ?_
      refine j_aload_n dX11_image_56 rfl rfl ?_
      refine t_getR (b := 94) dX11_image_57 jfl_X11_64 (fun _ _ _ => rfl) rfl ?_
      refine j_iload_n dX11_image_60 rfl rfl ?_
      refine t_iaload dX11_image_61 (fun _ _ _ => rfl) (by omega) (by decide) ?_
      refine t_iastore dX11_image_62 (fun _ _ _ => rfl) (by omega) (by decide) ?_
      refine jn_iinc (lv' := [some (.ref 76), some (.int _)]) dX11_image_63 rfl (by decide) rfl ?_
      refine j_goto (tgt := 45) dX11_image_66 (by decide) ?_
      rw [iA_97, iA_n (c := 94) _ _ _ _ (by decide) (by decide) (by decide), cpN_s, iA_p97]
      exact ih (i + 1) (by omega) (by omega)

set_option maxHeartbeats 200000 in
set_option maxRecDepth 100000 in
theorem l_image1  : ∀ (m i : Nat), i ≤ 49 → 49 - i < m → jWP none RX11 cX11_image 2 (some .int) (d) 0 0 7 [some (.ref 76), some (.int (nI i))] [] (tw X (iA A (cpN (A 82) (A 95) i) (cpN (A 83) (A 96) i) (cpN (A 94) (A 97) 0)) L) (jRi (A 94 0) (tw X (iA A (cpN (A 82) (A 95) 49) (cpN (A 83) (A 96) 49) (cpN (A 94) (A 97) 6)) L)) := by
  intro m
  induction m with
  | zero => intro i h1 h2; omega
  | succ m ih =>
    intro i hi hm
    refine j_iload_n dX11_image_7 rfl rfl ?_
    refine j_bipush (v := nI 49) dX11_image_8 rfl ?_
    refine jn_icmp_ge (tgt := 43) dX11_image_10 (by decide) (by omega) (by omega) (fun h10 => ?_) (fun h10 => ?_)
    · refine j_iconst (v := nI 0) dX11_image_43 rfl ?_
      refine j_istore_n (lv' := [some (.ref 76), some (.int _)]) dX11_image_44 rfl (by decide) rfl ?_
      obtain rfl : i = 49 := by omega
      exact l_image2 7 0 (by decide) (by decide)
    · refine j_aload_n dX11_image_13 rfl rfl ?_
      refine t_getR (b := 95) dX11_image_14 jfl_X11_67 (fun _ _ _ => rfl) rfl ?_
      refine j_iload_n dX11_image_17 rfl rfl ?_
      refine j_aload_n dX11_image_18 rfl rfl ?_
      refine t_getR (b := 82) dX11_image_19 jfl_X11_27 (fun _ _ _ => rfl) rfl ?_
      refine j_iload_n dX11_image_22 rfl rfl ?_
      refine t_iaload dX11_image_23 (fun _ _ _ => rfl) (by omega) (by decide) ?_
      refine t_iastore dX11_image_24 (fun _ _ _ => rfl) (by omega) (by decide) ?_
      refine j_aload_n dX11_image_25 rfl rfl ?_
      refine t_getR (b := 96) dX11_image_26 jfl_X11_70 (fun _ _ _ => rfl) rfl ?_
      refine j_iload_n dX11_image_29 rfl rfl ?_
      refine j_aload_n dX11_image_30 rfl rfl ?_
      refine t_getR (b := 83) dX11_image_31 jfl_X11_30 (fun _ _ _ => rfl) rfl ?_
      refine j_iload_n dX11_image_34 rfl rfl ?_
      refine t_iaload dX11_image_35 (fun _ _ _ => rfl) (by omega) (by decide) ?_
      refine t_iastore dX11_image_36 (fun _ _ _ => rfl) (by omega) (by decide) ?_
      refine jn_iinc (lv' := [some (.ref 76), some (.int _)]) dX11_image_37 rfl (by decide) rfl ?_
      refine j_goto (tgt := 7) dX11_image_40 (by decide) ?_
      rw [iA_95, iA_n (c := 82) _ _ _ _ (by decide) (by decide) (by decide), cpN_s, iA_p95, iA_96, iA_n (c := 83) _ _ _ _ (by decide) (by decide) (by decide), cpN_s, iA_p96]
      exact ih (i + 1) (by omega) (by omega)

set_option maxHeartbeats 200000 in
set_option maxRecDepth 100000 in
theorem m_image (z1 : zb 49 (A 82)) (z2 : zb 49 (A 83)) (z5 : zb 49 (A 95)) (z6 : zb 49 (A 96)) (z7 : zb 6 (A 94)) (z8 : zb 6 (A 97)) : jMet (d) yX11_image cX11_image 2 (some .int) 0 0 [.ref 76] (tw X A L) (jRi (A 94 0) (tw (va_up X 76 (upd (X 76) 32 (nI 1))) (iA A (A 82) (A 83) (A 94)) L)) := by
  refine jMet_of (by decide) (Nat.le_of_ble_eq_true rfl) none (Or.inl rfl) ?_
  show jWP none RX11 cX11_image 2 (some .int) (d) 0 0 0 [some (.ref 76), none] [] (tw X A L) (jRi (A 94 0) (tw (va_up X 76 (upd (X 76) 32 (nI 1))) (iA A (A 82) (A 83) (A 94)) L))
  refine j_aload_n dX11_image_0 rfl rfl ?_
  refine j_iconst (v := nI 1) dX11_image_1 rfl ?_
  refine t_putI dX11_image_2 jfl_X11_331 (fun _ _ _ => rfl) (fun _ _ => rfl) (Nat.le_of_ble_eq_true rfl) rfl rfl ?_
  refine j_iconst (v := nI 0) dX11_image_5 rfl ?_
  refine j_istore_n (lv' := [some (.ref 76), some (.int _)]) dX11_image_6 rfl (by decide) rfl ?_
  have h := l_image1 (d := d) (X := va_up X 76 (upd (X 76) 32 (nI 1))) (A := A) (L := L) 50 0 (by decide) (by decide)
  rw [cpN_0, cpN_0, cpN_0, iA_self, cpN_e z1 z5, cpN_e z2 z6, cpN_e z7 z8] at h
  exact h

set_option maxHeartbeats 200000 in
set_option maxRecDepth 100000 in
theorem m_back_no (h : X 76 32 = nI 0) : jMet (d) yX11_back cX11_back 2 (some .int) 0 0 [.ref 76] (tw X A L) (jRi (-5) (tw X A L)) := by
  refine jMet_of (by decide) (Nat.le_of_ble_eq_true rfl) none (Or.inl rfl) ?_
  show jWP none RX11 cX11_back 2 (some .int) (d) 0 0 0 [some (.ref 76), none] [] (tw X A L) (jRi (-5) (tw X A L))
  refine j_aload_n dX11_back_0 rfl rfl ?_
  refine t_getI dX11_back_1 jfl_X11_331 (fun _ _ _ => rfl) (fun _ => rfl) ?_
  refine j_topE (e' := nI 0) h ?_
  refine jn_if_ne (tgt := 10) dX11_back_4 (by decide) (by omega) (fun h4 => by omega) (fun h4 => ?_)
  refine j_bipush (v := (-5)) dX11_back_7 rfl ?_
  refine j_ireturn dX11_back_9 rfl ?_
  exact ⟨rfl, rfl⟩

set_option maxHeartbeats 200000 in
set_option maxRecDepth 100000 in
theorem l_back2  : ∀ (m i : Nat), i ≤ 6 → 6 - i < m → jWP none RX11 cX11_back 2 (some .int) (d) 0 0 50 [some (.ref 76), some (.int (nI i))] [] (tw X (kA A (cpN (A 95) (A 82) 49) (cpN (A 96) (A 83) 49) (cpN (A 97) (A 94) i)) L) (jRi (cpN (A 97) (A 94) 6 0) (tw X (kA A (cpN (A 95) (A 82) 49) (cpN (A 96) (A 83) 49) (cpN (A 97) (A 94) 6)) L)) := by
  intro m
  induction m with
  | zero => intro i h1 h2; omega
  | succ m ih =>
    intro i hi hm
    refine j_iload_n dX11_back_50 rfl rfl ?_
    refine j_bipush (v := nI 6) dX11_back_51 rfl ?_
    refine jn_icmp_ge (tgt := 74) dX11_back_53 (by decide) (by omega) (by omega) (fun h53 => ?_) (fun h53 => ?_)
    · refine j_aload_n dX11_back_74 rfl rfl ?_
      refine t_getR (b := 94) dX11_back_75 jfl_X11_64 (fun _ _ _ => rfl) rfl ?_
      refine j_iconst (v := nI 0) dX11_back_78 rfl ?_
      refine t_iaload dX11_back_79 (fun _ _ _ => rfl) (by omega) (by decide) ?_
      refine j_ireturn dX11_back_80 rfl ?_
      obtain rfl : i = 6 := by omega
      exact ⟨by rw [kA_94], rfl⟩
    · refine j_aload_n dX11_back_56 rfl rfl ?_
      refine t_getR (b := 94) dX11_back_57 jfl_X11_64 (fun _ _ _ => rfl) rfl ?_
      refine j_iload_n dX11_back_60 rfl rfl ?_
      refine j_aload_n dX11_back_61 rfl rfl ?_
      refine t_getR (b := 97) dX11_back_62 jfl_X11_73 (fun _ _ _ => rfl) rfl ?_
      refine j_iload_n dX11_back_65 rfl rfl ?_
      refine t_iaload dX11_back_66 (fun _ _ _ => rfl) (by omega) (by decide) ?_
      refine t_iastore dX11_back_67 (fun _ _ _ => rfl) (by omega) (by decide) ?_
      refine jn_iinc (lv' := [some (.ref 76), some (.int _)]) dX11_back_68 rfl (by decide) rfl ?_
      refine j_goto (tgt := 50) dX11_back_71 (by decide) ?_
      rw [kA_94, kA_n (c := 97) _ _ _ _ (by decide) (by decide) (by decide), cpN_s, kA_p94]
      exact ih (i + 1) (by omega) (by omega)

set_option maxHeartbeats 200000 in
set_option maxRecDepth 100000 in
theorem l_back1  : ∀ (m i : Nat), i ≤ 49 → 49 - i < m → jWP none RX11 cX11_back 2 (some .int) (d) 0 0 12 [some (.ref 76), some (.int (nI i))] [] (tw X (kA A (cpN (A 95) (A 82) i) (cpN (A 96) (A 83) i) (cpN (A 97) (A 94) 0)) L) (jRi (cpN (A 97) (A 94) 6 0) (tw X (kA A (cpN (A 95) (A 82) 49) (cpN (A 96) (A 83) 49) (cpN (A 97) (A 94) 6)) L)) := by
  intro m
  induction m with
  | zero => intro i h1 h2; omega
  | succ m ih =>
    intro i hi hm
    refine j_iload_n dX11_back_12 rfl rfl ?_
    refine j_bipush (v := nI 49) dX11_back_13 rfl ?_
    refine jn_icmp_ge (tgt := 48) dX11_back_15 (by decide) (by omega) (by omega) (fun h15 => ?_) (fun h15 => ?_)
    · refine j_iconst (v := nI 0) dX11_back_48 rfl ?_
      refine j_istore_n (lv' := [some (.ref 76), some (.int _)]) dX11_back_49 rfl (by decide) rfl ?_
      obtain rfl : i = 49 := by omega
      exact l_back2 7 0 (by decide) (by decide)
    · refine j_aload_n dX11_back_18 rfl rfl ?_
      refine t_getR (b := 82) dX11_back_19 jfl_X11_27 (fun _ _ _ => rfl) rfl ?_
      refine j_iload_n dX11_back_22 rfl rfl ?_
      refine j_aload_n dX11_back_23 rfl rfl ?_
      refine t_getR (b := 95) dX11_back_24 jfl_X11_67 (fun _ _ _ => rfl) rfl ?_
      refine j_iload_n dX11_back_27 rfl rfl ?_
      refine t_iaload dX11_back_28 (fun _ _ _ => rfl) (by omega) (by decide) ?_
      refine t_iastore dX11_back_29 (fun _ _ _ => rfl) (by omega) (by decide) ?_
      refine j_aload_n dX11_back_30 rfl rfl ?_
      refine t_getR (b := 83) dX11_back_31 jfl_X11_30 (fun _ _ _ => rfl) rfl ?_
      refine j_iload_n dX11_back_34 rfl rfl ?_
      refine j_aload_n dX11_back_35 rfl rfl ?_
      refine t_getR (b := 96) dX11_back_36 jfl_X11_70 (fun _ _ _ => rfl) rfl ?_
      refine j_iload_n dX11_back_39 rfl rfl ?_
      refine t_iaload dX11_back_40 (fun _ _ _ => rfl) (by omega) (by decide) ?_
      refine t_iastore dX11_back_41 (fun _ _ _ => rfl) (by omega) (by decide) ?_
      refine jn_iinc (lv' := [some (.ref 76), some (.int _)]) dX11_back_42 rfl (by decide) rfl ?_
      refine j_goto (tgt := 12) dX11_back_45 (by decide) ?_
      rw [kA_82, kA_n (c := 95) _ _ _ _ (by decide) (by decide) (by decide), cpN_s, kA_p82, kA_83, kA_n (c := 96) _ _ _ _ (by decide) (by decide) (by decide), cpN_s, kA_p83]
      exact ih (i + 1) (by omega) (by omega)

set_option maxHeartbeats 200000 in
set_option maxRecDepth 100000 in
theorem m_back (z1 : zb 49 (A 82)) (z2 : zb 49 (A 83)) (z5 : zb 49 (A 95)) (z6 : zb 49 (A 96)) (z7 : zb 6 (A 94)) (z8 : zb 6 (A 97)) (h : X 76 32 = nI 1) : jMet (d) yX11_back cX11_back 2 (some .int) 0 0 [.ref 76] (tw X A L) (jRi (A 97 0) (tw X (kA A (A 95) (A 96) (A 97)) L)) := by
  refine jMet_of (by decide) (Nat.le_of_ble_eq_true rfl) none (Or.inl rfl) ?_
  show jWP none RX11 cX11_back 2 (some .int) (d) 0 0 0 [some (.ref 76), none] [] (tw X A L) (jRi (A 97 0) (tw X (kA A (A 95) (A 96) (A 97)) L))
  refine j_aload_n dX11_back_0 rfl rfl ?_
  refine t_getI dX11_back_1 jfl_X11_331 (fun _ _ _ => rfl) (fun _ => rfl) ?_
  refine j_topE (e' := nI 1) h ?_
  refine jn_if_ne (tgt := 10) dX11_back_4 (by decide) (by omega) (fun h4 => ?_) (fun h4 => by omega)
  refine j_iconst (v := nI 0) dX11_back_10 rfl ?_
  refine j_istore_n (lv' := [some (.ref 76), some (.int _)]) dX11_back_11 rfl (by decide) rfl ?_
  have h := l_back1 (d := d) (X := X) (A := A) (L := L) 50 0 (by decide) (by decide)
  rw [cpN_0, cpN_0, cpN_0, kA_self, cpN_e z5 z1, cpN_e z6 z2, cpN_e z8 z7] at h
  exact h

set_option maxHeartbeats 200000 in
set_option maxRecDepth 100000 in
theorem l_cellsOf_f (hw : ow (A 84)) : ∀ (m i : Nat), i ≤ 49 → 49 - i < m → jWP none RX11 cX11_cellsOf 4 (some .int) (d + 2) 0 0 8 [some (.ref 76), some (.int (nI 0)), some (.int (nI (cnt (heldB (A 84)) i))), some (.int (nI i))] [] (tw X A L) (jRi (nI (cnt (heldB (A 84)) 49)) (tw X A L)) := by
  intro m
  induction m with
  | zero => intro i h1 h2; omega
  | succ m ih =>
    intro i hi hm
    have ec : cnt (heldB (A 84)) (i + 1) = if (heldB (A 84)) i = true then cnt (heldB (A 84)) i + 1 else cnt (heldB (A 84)) i := rfl
    refine j_iload_n dX11_cellsOf_8 rfl rfl ?_
    refine j_bipush (v := nI 49) dX11_cellsOf_9 rfl ?_
    refine jn_icmp_ge (tgt := 56) dX11_cellsOf_11 (by decide) (by omega) (by omega) (fun h11 => ?_) (fun h11 => ?_)
    · refine j_iload_n dX11_cellsOf_56 rfl rfl ?_
      refine j_ireturn dX11_cellsOf_57 rfl ?_
      obtain rfl : i = 49 := by omega
      exact ⟨rfl, rfl⟩
    · refine j_iload_n dX11_cellsOf_14 rfl rfl ?_
      refine j_iload_n dX11_cellsOf_15 rfl rfl ?_
      refine j_if_eq (tgt := 35) dX11_cellsOf_16 (by decide) (fun _ => ?_) (fun h => absurd (by decide) h)
      refine j_aload_n dX11_cellsOf_35 rfl rfl ?_
      refine j_iload_n dX11_cellsOf_36 rfl rfl ?_
      refine j_callVi [.int _] [.int _] dX11_cellsOf_37 jlk_X11_147 rfl rfl rfl rfl (Nat.le_of_ble_eq_true rfl) (m_holds hw (by omega)) ?_
      refine j_if_eq (tgt := 47) dX11_cellsOf_40 (by decide) (fun h40 => ?_) (fun h40 => ?_)
      · have h40 := bz_f h40
        rw [h40, if_neg (by decide)] at ec
        refine j_iconst (v := nI 0) dX11_cellsOf_47 rfl ?_
        refine jn_iadd dX11_cellsOf_48 ?_
        refine j_istore_n (lv' := [some (.ref 76), some (.int _), some (.int _), some (.int _)]) dX11_cellsOf_49 rfl (by decide) rfl ?_
        refine jn_iinc (lv' := [some (.ref 76), some (.int _), some (.int _), some (.int _)]) dX11_cellsOf_50 rfl (by decide) rfl ?_
        refine j_goto (tgt := 8) dX11_cellsOf_53 (by decide) ?_
        refine j_sub ?_ (ih (i + 1) (by omega) (by omega))
        rw [ec]
        exact ⟨rfl, rfl, rfl, rfl, trivial⟩
      · have h40 := bz_t h40
        rw [h40, if_pos rfl] at ec
        refine j_iconst (v := nI 1) dX11_cellsOf_43 rfl ?_
        refine j_goto (tgt := 48) dX11_cellsOf_44 (by decide) ?_
        refine jn_iadd dX11_cellsOf_48 ?_
        refine j_istore_n (lv' := [some (.ref 76), some (.int _), some (.int _), some (.int _)]) dX11_cellsOf_49 rfl (by decide) rfl ?_
        refine jn_iinc (lv' := [some (.ref 76), some (.int _), some (.int _), some (.int _)]) dX11_cellsOf_50 rfl (by decide) rfl ?_
        refine j_goto (tgt := 8) dX11_cellsOf_53 (by decide) ?_
        refine j_sub ?_ (ih (i + 1) (by omega) (by omega))
        rw [ec]
        exact ⟨rfl, rfl, rfl, rfl, trivial⟩

set_option maxHeartbeats 200000 in
set_option maxRecDepth 100000 in
theorem m_cellsOf_f (z1 : zb 49 (A 82)) (z2 : zb 49 (A 83)) (z3 : zb 49 (A 84)) (z4 : zb 49 (A 85)) (hw : ow (A 82)) : jMet (d + 2) yX11_cellsOf cX11_cellsOf 4 (some .int) 0 0 [.ref 76, .int (nI 0)] (tw X A L) (jRi (nI (cnt (heldB (A 82)) 49)) (tw X (mA A (A 82) (A 83)) L)) := by
  refine jMet_of (by decide) (Nat.le_of_ble_eq_true rfl) none (Or.inl rfl) ?_
  show jWP none RX11 cX11_cellsOf 4 (some .int) (d + 2) 0 0 0 [some (.ref 76), some (.int (nI 0)), none, none] [] (tw X A L) (jRi (nI (cnt (heldB (A 82)) 49)) (tw X (mA A (A 82) (A 83)) L))
  refine j_aload_n dX11_cellsOf_0 rfl rfl ?_
  refine j_callVv [] [] dX11_cellsOf_1 jlk_X11_140 rfl rfl rfl rfl (Nat.le_of_ble_eq_true rfl) (m_begins1 z1 z2 z3 z4) ?_
  refine j_iconst (v := nI 0) dX11_cellsOf_4 rfl ?_
  refine j_istore_n (lv' := [some (.ref 76), some (.int _), some (.int _), none]) dX11_cellsOf_5 rfl (by decide) rfl ?_
  refine j_iconst (v := nI 0) dX11_cellsOf_6 rfl ?_
  refine j_istore_n (lv' := [some (.ref 76), some (.int _), some (.int _), some (.int _)]) dX11_cellsOf_7 rfl (by decide) rfl ?_
  have q := l_cellsOf_f (d := d) (X := X) (A := mA A (A 82) (A 83)) (L := L) (by rw [mA_84]; exact hw) 50 0 (by decide) (by decide)
  rw [mA_84] at q
  exact q

set_option maxHeartbeats 200000 in
set_option maxRecDepth 100000 in
theorem l_cellsOf_t (hw : ow (A 84)) : ∀ (m i : Nat), i ≤ 49 → 49 - i < m → jWP none RX11 cX11_cellsOf 4 (some .int) (d + 2) 0 0 8 [some (.ref 76), some (.int (nI 1)), some (.int (nI (cnt (slB (A 84)) i))), some (.int (nI i))] [] (tw X A L) (jRi (nI (cnt (slB (A 84)) 49)) (tw X A L)) := by
  intro m
  induction m with
  | zero => intro i h1 h2; omega
  | succ m ih =>
    intro i hi hm
    have ec : cnt (slB (A 84)) (i + 1) = if (slB (A 84)) i = true then cnt (slB (A 84)) i + 1 else cnt (slB (A 84)) i := rfl
    refine j_iload_n dX11_cellsOf_8 rfl rfl ?_
    refine j_bipush (v := nI 49) dX11_cellsOf_9 rfl ?_
    refine jn_icmp_ge (tgt := 56) dX11_cellsOf_11 (by decide) (by omega) (by omega) (fun h11 => ?_) (fun h11 => ?_)
    · refine j_iload_n dX11_cellsOf_56 rfl rfl ?_
      refine j_ireturn dX11_cellsOf_57 rfl ?_
      obtain rfl : i = 49 := by omega
      exact ⟨rfl, rfl⟩
    · refine j_iload_n dX11_cellsOf_14 rfl rfl ?_
      refine j_iload_n dX11_cellsOf_15 rfl rfl ?_
      refine j_if_eq (tgt := 35) dX11_cellsOf_16 (by decide) (fun h => absurd h (by decide)) (fun _ => ?_)
      refine j_aload_n dX11_cellsOf_19 rfl rfl ?_
      refine j_iload_n dX11_cellsOf_20 rfl rfl ?_
      refine j_callVi [.int _] [.int _] dX11_cellsOf_21 jlk_X11_152 rfl rfl rfl rfl (Nat.le_of_ble_eq_true rfl) (m_isSealed hw (by omega)) ?_
      refine j_if_eq (tgt := 31) dX11_cellsOf_24 (by decide) (fun h24 => ?_) (fun h24 => ?_)
      · have h24 := bz_f h24
        rw [h24, if_neg (by decide)] at ec
        refine j_iconst (v := nI 0) dX11_cellsOf_31 rfl ?_
        refine j_goto (tgt := 48) dX11_cellsOf_32 (by decide) ?_
        refine jn_iadd dX11_cellsOf_48 ?_
        refine j_istore_n (lv' := [some (.ref 76), some (.int _), some (.int _), some (.int _)]) dX11_cellsOf_49 rfl (by decide) rfl ?_
        refine jn_iinc (lv' := [some (.ref 76), some (.int _), some (.int _), some (.int _)]) dX11_cellsOf_50 rfl (by decide) rfl ?_
        refine j_goto (tgt := 8) dX11_cellsOf_53 (by decide) ?_
        refine j_sub ?_ (ih (i + 1) (by omega) (by omega))
        rw [ec]
        exact ⟨rfl, rfl, rfl, rfl, trivial⟩
      · have h24 := bz_t h24
        rw [h24, if_pos rfl] at ec
        refine j_iconst (v := nI 1) dX11_cellsOf_27 rfl ?_
        refine j_goto (tgt := 48) dX11_cellsOf_28 (by decide) ?_
        refine jn_iadd dX11_cellsOf_48 ?_
        refine j_istore_n (lv' := [some (.ref 76), some (.int _), some (.int _), some (.int _)]) dX11_cellsOf_49 rfl (by decide) rfl ?_
        refine jn_iinc (lv' := [some (.ref 76), some (.int _), some (.int _), some (.int _)]) dX11_cellsOf_50 rfl (by decide) rfl ?_
        refine j_goto (tgt := 8) dX11_cellsOf_53 (by decide) ?_
        refine j_sub ?_ (ih (i + 1) (by omega) (by omega))
        rw [ec]
        exact ⟨rfl, rfl, rfl, rfl, trivial⟩

set_option maxHeartbeats 200000 in
set_option maxRecDepth 100000 in
theorem m_cellsOf_t (z1 : zb 49 (A 82)) (z2 : zb 49 (A 83)) (z3 : zb 49 (A 84)) (z4 : zb 49 (A 85)) (hw : ow (A 82)) : jMet (d + 2) yX11_cellsOf cX11_cellsOf 4 (some .int) 0 0 [.ref 76, .int (nI 1)] (tw X A L) (jRi (nI (cnt (slB (A 82)) 49)) (tw X (mA A (A 82) (A 83)) L)) := by
  refine jMet_of (by decide) (Nat.le_of_ble_eq_true rfl) none (Or.inl rfl) ?_
  show jWP none RX11 cX11_cellsOf 4 (some .int) (d + 2) 0 0 0 [some (.ref 76), some (.int (nI 1)), none, none] [] (tw X A L) (jRi (nI (cnt (slB (A 82)) 49)) (tw X (mA A (A 82) (A 83)) L))
  refine j_aload_n dX11_cellsOf_0 rfl rfl ?_
  refine j_callVv [] [] dX11_cellsOf_1 jlk_X11_140 rfl rfl rfl rfl (Nat.le_of_ble_eq_true rfl) (m_begins1 z1 z2 z3 z4) ?_
  refine j_iconst (v := nI 0) dX11_cellsOf_4 rfl ?_
  refine j_istore_n (lv' := [some (.ref 76), some (.int _), some (.int _), none]) dX11_cellsOf_5 rfl (by decide) rfl ?_
  refine j_iconst (v := nI 0) dX11_cellsOf_6 rfl ?_
  refine j_istore_n (lv' := [some (.ref 76), some (.int _), some (.int _), some (.int _)]) dX11_cellsOf_7 rfl (by decide) rfl ?_
  have q := l_cellsOf_t (d := d) (X := X) (A := mA A (A 82) (A 83)) (L := L) (by rw [mA_84]; exact hw) 50 0 (by decide) (by decide)
  rw [mA_84] at q
  exact q

set_option maxHeartbeats 200000 in
set_option maxRecDepth 100000 in
theorem m_count_0  : jMet (d + 3) yX11_count cX11_count 2 (some .int) 0 0 [.ref 76, .int (nI 0)] (tw X A L) (jRi (X 76 7) (tw X A L)) := by
  refine jMet_of (by decide) (Nat.le_of_ble_eq_true rfl) none (Or.inl rfl) ?_
  show jWP none RX11 cX11_count 2 (some .int) (d + 3) 0 0 0 [some (.ref 76), some (.int (nI 0))] [] (tw X A L) (jRi (X 76 7) (tw X A L))
  refine j_iload_n dX11_count_0 rfl rfl ?_
  refine j_tableIn (off := 43) (tgt := 44) dX11_count_1 (by decide) (by decide) (by decide) (by decide) ?_
  refine j_aload_n dX11_count_44 rfl rfl ?_
  refine t_getI dX11_count_45 jfl_X11_117 (fun _ _ _ => rfl) (fun _ => rfl) ?_
  refine j_ireturn dX11_count_48 rfl ?_
  exact ⟨rfl, rfl⟩

set_option maxHeartbeats 200000 in
set_option maxRecDepth 100000 in
theorem m_count_1 (z1 : zb 49 (A 82)) (z2 : zb 49 (A 83)) (z3 : zb 49 (A 84)) (z4 : zb 49 (A 85)) (hw : ow (A 82)) : jMet (d + 3) yX11_count cX11_count 2 (some .int) 0 0 [.ref 76, .int (nI 1)] (tw X A L) (jRi (nI (cnt (heldB (A 82)) 49)) (tw X (mA A (A 82) (A 83)) L)) := by
  refine jMet_of (by decide) (Nat.le_of_ble_eq_true rfl) none (Or.inl rfl) ?_
  show jWP none RX11 cX11_count 2 (some .int) (d + 3) 0 0 0 [some (.ref 76), some (.int (nI 1))] [] (tw X A L) (jRi (nI (cnt (heldB (A 82)) 49)) (tw X (mA A (A 82) (A 83)) L))
  refine j_iload_n dX11_count_0 rfl rfl ?_
  refine j_tableIn (off := 48) (tgt := 49) dX11_count_1 (by decide) (by decide) (by decide) (by decide) ?_
  refine j_aload_n dX11_count_49 rfl rfl ?_
  refine j_iconst (v := nI 0) dX11_count_50 rfl ?_
  refine j_callVi [.int _] [] dX11_count_51 jlk_X11_380 rfl rfl rfl rfl (Nat.le_of_ble_eq_true rfl) (m_cellsOf_f z1 z2 z3 z4 hw) ?_
  refine j_ireturn dX11_count_54 rfl ?_
  exact ⟨rfl, rfl⟩

set_option maxHeartbeats 200000 in
set_option maxRecDepth 100000 in
theorem m_count_2 (z1 : zb 49 (A 82)) (z2 : zb 49 (A 83)) (z3 : zb 49 (A 84)) (z4 : zb 49 (A 85)) (hw : ow (A 82)) : jMet (d + 3) yX11_count cX11_count 2 (some .int) 0 0 [.ref 76, .int (nI 2)] (tw X A L) (jRi (nI (cnt (slB (A 82)) 49)) (tw X (mA A (A 82) (A 83)) L)) := by
  refine jMet_of (by decide) (Nat.le_of_ble_eq_true rfl) none (Or.inl rfl) ?_
  show jWP none RX11 cX11_count 2 (some .int) (d + 3) 0 0 0 [some (.ref 76), some (.int (nI 2))] [] (tw X A L) (jRi (nI (cnt (slB (A 82)) 49)) (tw X (mA A (A 82) (A 83)) L))
  refine j_iload_n dX11_count_0 rfl rfl ?_
  refine j_tableIn (off := 54) (tgt := 55) dX11_count_1 (by decide) (by decide) (by decide) (by decide) ?_
  refine j_aload_n dX11_count_55 rfl rfl ?_
  refine j_iconst (v := nI 1) dX11_count_56 rfl ?_
  refine j_callVi [.int _] [] dX11_count_57 jlk_X11_380 rfl rfl rfl rfl (Nat.le_of_ble_eq_true rfl) (m_cellsOf_t z1 z2 z3 z4 hw) ?_
  refine j_ireturn dX11_count_60 rfl ?_
  exact ⟨rfl, rfl⟩

set_option maxHeartbeats 200000 in
set_option maxRecDepth 100000 in
theorem m_count_3  : jMet (d + 3) yX11_count cX11_count 2 (some .int) 0 0 [.ref 76, .int (nI 3)] (tw X A L) (jRi (X 76 13) (tw X A L)) := by
  refine jMet_of (by decide) (Nat.le_of_ble_eq_true rfl) none (Or.inl rfl) ?_
  show jWP none RX11 cX11_count 2 (some .int) (d + 3) 0 0 0 [some (.ref 76), some (.int (nI 3))] [] (tw X A L) (jRi (X 76 13) (tw X A L))
  refine j_iload_n dX11_count_0 rfl rfl ?_
  refine j_tableIn (off := 60) (tgt := 61) dX11_count_1 (by decide) (by decide) (by decide) (by decide) ?_
  refine j_aload_n dX11_count_61 rfl rfl ?_
  refine t_getI dX11_count_62 jfl_X11_157 (fun _ _ _ => rfl) (fun _ => rfl) ?_
  refine j_ireturn dX11_count_65 rfl ?_
  exact ⟨rfl, rfl⟩

set_option maxHeartbeats 200000 in
set_option maxRecDepth 100000 in
theorem m_count_4  : jMet (d + 3) yX11_count cX11_count 2 (some .int) 0 0 [.ref 76, .int (nI 4)] (tw X A L) (jRi (X 76 5) (tw X A L)) := by
  refine jMet_of (by decide) (Nat.le_of_ble_eq_true rfl) none (Or.inl rfl) ?_
  show jWP none RX11 cX11_count 2 (some .int) (d + 3) 0 0 0 [some (.ref 76), some (.int (nI 4))] [] (tw X A L) (jRi (X 76 5) (tw X A L))
  refine j_iload_n dX11_count_0 rfl rfl ?_
  refine j_tableIn (off := 65) (tgt := 66) dX11_count_1 (by decide) (by decide) (by decide) (by decide) ?_
  refine j_aload_n dX11_count_66 rfl rfl ?_
  refine t_getI dX11_count_67 jfl_X11_103 (fun _ _ _ => rfl) (fun _ => rfl) ?_
  refine j_ireturn dX11_count_70 rfl ?_
  exact ⟨rfl, rfl⟩

set_option maxHeartbeats 200000 in
set_option maxRecDepth 100000 in
theorem m_count_5  : jMet (d + 3) yX11_count cX11_count 2 (some .int) 0 0 [.ref 76, .int (nI 5)] (tw X A L) (jRi (X 76 36) (tw X A L)) := by
  refine jMet_of (by decide) (Nat.le_of_ble_eq_true rfl) none (Or.inl rfl) ?_
  show jWP none RX11 cX11_count 2 (some .int) (d + 3) 0 0 0 [some (.ref 76), some (.int (nI 5))] [] (tw X A L) (jRi (X 76 36) (tw X A L))
  refine j_iload_n dX11_count_0 rfl rfl ?_
  refine j_tableIn (off := 70) (tgt := 71) dX11_count_1 (by decide) (by decide) (by decide) (by decide) ?_
  refine j_aload_n dX11_count_71 rfl rfl ?_
  refine t_getI dX11_count_72 jfl_X11_335 (fun _ _ _ => rfl) (fun _ => rfl) ?_
  refine j_ireturn dX11_count_75 rfl ?_
  exact ⟨rfl, rfl⟩

set_option maxHeartbeats 200000 in
set_option maxRecDepth 100000 in
theorem m_count_6  : jMet (d + 3) yX11_count cX11_count 2 (some .int) 0 0 [.ref 76, .int (nI 6)] (tw X A L) (jRi (X 76 39) (tw X A L)) := by
  refine jMet_of (by decide) (Nat.le_of_ble_eq_true rfl) none (Or.inl rfl) ?_
  show jWP none RX11 cX11_count 2 (some .int) (d + 3) 0 0 0 [some (.ref 76), some (.int (nI 6))] [] (tw X A L) (jRi (X 76 39) (tw X A L))
  refine j_iload_n dX11_count_0 rfl rfl ?_
  refine j_tableIn (off := 75) (tgt := 76) dX11_count_1 (by decide) (by decide) (by decide) (by decide) ?_
  refine j_aload_n dX11_count_76 rfl rfl ?_
  refine t_getI dX11_count_77 jfl_X11_338 (fun _ _ _ => rfl) (fun _ => rfl) ?_
  refine j_ireturn dX11_count_80 rfl ?_
  exact ⟨rfl, rfl⟩

set_option maxHeartbeats 200000 in
set_option maxRecDepth 100000 in
theorem m_count_no {c : Int32} (h : isA 7 c = nI 0) : jMet (d + 3) yX11_count cX11_count 2 (some .int) 0 0 [.ref 76, .int c] (tw X A L) (jRi (-1) (tw X A L)) := by
  refine jMet_of (by decide) (Nat.le_of_ble_eq_true rfl) none (Or.inl rfl) ?_
  show jWP none RX11 cX11_count 2 (some .int) (d + 3) 0 0 0 [some (.ref 76), some (.int c)] [] (tw X A L) (jRi (-1) (tw X A L))
  refine j_iload_n dX11_count_0 rfl rfl ?_
  refine j_tableOut (tgt := 81) dX11_count_1 (sw_out (n := 7) (by rcases pk_ix c (n := 7) (by decide) with q | q | ⟨j, hj, rfl⟩; exact Or.inl q; exact Or.inr q; rw [isA_in hj (by decide)] at h; exact absurd h (by decide)) (by decide)) (by decide) ?_
  refine j_iconst (v := (-1)) dX11_count_81 rfl ?_
  refine j_ireturn dX11_count_82 rfl ?_
  exact ⟨rfl, rfl⟩

set_option maxHeartbeats 200000 in
set_option maxRecDepth 100000 in
theorem m_body_no {c : Int32} (h : isA 8 c = nI 0) : jMet (d + 1) yX11_body cX11_body 2 (some .int) 0 0 [.ref 76, .int c] (tw X A L) (jRi (-1) (tw X A L)) := by
  refine jMet_of (by decide) (Nat.le_of_ble_eq_true rfl) none (Or.inl rfl) ?_
  show jWP none RX11 cX11_body 2 (some .int) (d + 1) 0 0 0 [some (.ref 76), some (.int c)] [] (tw X A L) (jRi (-1) (tw X A L))
  refine j_iload_n dX11_body_0 rfl rfl ?_
  refine j_i2l dX11_body_1 ?_
  refine j_lconst (v := 0) dX11_body_2 rfl ?_
  refine j_ldc2 dX11_body_3 jw_k_X11_276 ?_
  refine j_callSi [.long _, .long _, .long _] [] dX11_body_6 jlk_X11_111 rfl rfl (Nat.le_of_ble_eq_true rfl) (jMet_i m_within ((wi_A (k := 7) (by decide) (by decide)).trans h) rfl) ?_
  refine j_if_ne (tgt := 14) dX11_body_9 (by decide) (fun h => absurd (by decide) h) (fun _ => ?_)
  refine j_iconst (v := (-1)) dX11_body_12 rfl ?_
  refine j_ireturn dX11_body_13 rfl ?_
  exact ⟨rfl, rfl⟩

set_option maxHeartbeats 200000 in
set_option maxRecDepth 100000 in
theorem m_body_full (hb : X 76 36 = nI 50) {k : Nat} (hk : k < 8) : jMet (d + 1) yX11_body cX11_body 2 (some .int) 0 0 [.ref 76, .int (nI k)] (tw X A L) (jRi (-3) (tw X A L)) := by
  refine jMet_of (by decide) (Nat.le_of_ble_eq_true rfl) none (Or.inl rfl) ?_
  show jWP none RX11 cX11_body 2 (some .int) (d + 1) 0 0 0 [some (.ref 76), some (.int (nI k))] [] (tw X A L) (jRi (-3) (tw X A L))
  refine j_iload_n dX11_body_0 rfl rfl ?_
  refine j_i2l dX11_body_1 ?_
  refine j_lconst (v := 0) dX11_body_2 rfl ?_
  refine j_ldc2 dX11_body_3 jw_k_X11_276 ?_
  refine j_callSi [.long _, .long _, .long _] [] dX11_body_6 jlk_X11_111 rfl rfl (Nat.le_of_ble_eq_true rfl) (jMet_i m_within (wi_in (k := 7) (by omega) (by decide) (by decide)) rfl) ?_
  refine j_if_ne (tgt := 14) dX11_body_9 (by decide) (fun _ => ?_) (fun h => absurd h (by decide))
  refine j_aload_n dX11_body_14 rfl rfl ?_
  refine t_getI dX11_body_15 jfl_X11_335 (fun _ _ _ => rfl) (fun _ => rfl) ?_
  refine j_topE (e' := nI 50) hb ?_
  refine j_bipush (v := nI 50) dX11_body_18 rfl ?_
  refine jn_icmp_ne (tgt := 26) dX11_body_20 (by decide) (by omega) (by omega) (fun h20 => absurd h20 (by omega)) (fun h20 => ?_)
  refine j_bipush (v := (-3)) dX11_body_23 rfl ?_
  refine j_ireturn dX11_body_25 rfl ?_
  exact ⟨rfl, rfl⟩

set_option maxHeartbeats 200000 in
set_option maxRecDepth 100000 in
theorem m_body (hb : X 76 36 = nI nb) (hb50 : nb ≤ 50) (hk : A 98 = nIf kd) (h : nb < 50) {k : Nat} (hk8 : k < 8) : jMet (d + 1) yX11_body cX11_body 2 (some .int) 0 0 [.ref 76, .int (nI k)] (tw X A L) (jRi (nI nb) (tw (va_up X 76 (upd (X 76) 36 (nI (nb + 1)))) (va_up A 98 (nIf (updN kd nb k))) L)) := by
  refine jMet_of (by decide) (Nat.le_of_ble_eq_true rfl) none (Or.inl rfl) ?_
  show jWP none RX11 cX11_body 2 (some .int) (d + 1) 0 0 0 [some (.ref 76), some (.int (nI k))] [] (tw X A L) (jRi (nI nb) (tw (va_up X 76 (upd (X 76) 36 (nI (nb + 1)))) (va_up A 98 (nIf (updN kd nb k))) L))
  refine j_iload_n dX11_body_0 rfl rfl ?_
  refine j_i2l dX11_body_1 ?_
  refine j_lconst (v := 0) dX11_body_2 rfl ?_
  refine j_ldc2 dX11_body_3 jw_k_X11_276 ?_
  refine j_callSi [.long _, .long _, .long _] [] dX11_body_6 jlk_X11_111 rfl rfl (Nat.le_of_ble_eq_true rfl) (jMet_i m_within (wi_in (k := 7) (by omega) (by decide) (by decide)) rfl) ?_
  refine j_if_ne (tgt := 14) dX11_body_9 (by decide) (fun _ => ?_) (fun h => absurd h (by decide))
  refine j_aload_n dX11_body_14 rfl rfl ?_
  refine t_getI dX11_body_15 jfl_X11_335 (fun _ _ _ => rfl) (fun _ => rfl) ?_
  refine j_topE (e' := nI nb) hb ?_
  refine j_bipush (v := nI 50) dX11_body_18 rfl ?_
  refine jn_icmp_ne (tgt := 26) dX11_body_20 (by decide) (by omega) (by omega) (fun h20 => ?_) (fun h20 => absurd h20 (by omega))
  refine j_aload_n dX11_body_26 rfl rfl ?_
  refine t_getR (b := 98) dX11_body_27 jfl_X11_76 (fun _ _ _ => rfl) rfl ?_
  refine j_aload_n dX11_body_30 rfl rfl ?_
  refine t_getI dX11_body_31 jfl_X11_335 (fun _ _ _ => rfl) (fun _ => rfl) ?_
  refine j_topE (e' := nI nb) hb ?_
  refine j_iload_n dX11_body_34 rfl rfl ?_
  refine t_iastore dX11_body_35 (fun _ _ _ => rfl) (by omega) (by decide) ?_
  refine j_aload_n dX11_body_36 rfl rfl ?_
  refine j_dup dX11_body_37 rfl ?_
  refine t_getI dX11_body_38 jfl_X11_335 (fun _ _ _ => rfl) (fun _ => rfl) ?_
  refine j_topE (e' := nI nb) hb ?_
  refine j_iconst (v := nI 1) dX11_body_41 rfl ?_
  refine jn_iadd dX11_body_42 ?_
  refine t_putI dX11_body_43 jfl_X11_335 (fun _ _ _ => rfl) (fun _ _ => rfl) (Nat.le_of_ble_eq_true rfl) rfl rfl ?_
  refine j_aload_n dX11_body_46 rfl rfl ?_
  refine t_getI dX11_body_47 jfl_X11_335 (fun _ _ _ => rfl) (fun _ => rfl) ?_
  refine j_topE (e' := nI (nb + 1)) (by rw [vu_s, ud_s]) ?_
  refine j_iconst (v := nI 1) dX11_body_50 rfl ?_
  refine jn_isub dX11_body_51 (by omega) ?_
  refine j_ireturn dX11_body_52 rfl ?_
  exact ⟨rfl, by rw [hk, upd_nIf]⟩

set_option maxHeartbeats 200000 in
set_option maxRecDepth 100000 in
theorem m_trace {r : Nat} (hr : X 76 39 = nI r) (hr2 : r < 2 ^ 30) {j : Nat} (h1 : j < r) (h2 : j < 24) : jMet (d + 1) yX11_trace cX11_trace 2 (some .int) 0 0 [.ref 76, .int (nI j)] (tw X A L) (jRi (A 99 j) (tw X A L)) := by
  refine jMet_of (by decide) (Nat.le_of_ble_eq_true rfl) none (Or.inl rfl) ?_
  show jWP none RX11 cX11_trace 2 (some .int) (d + 1) 0 0 0 [some (.ref 76), some (.int (nI j))] [] (tw X A L) (jRi (A 99 j) (tw X A L))
  refine j_iload_n dX11_trace_0 rfl rfl ?_
  refine jn_if_lt (tgt := 27) dX11_trace_1 (by decide) (by omega) ?_
  refine j_iload_n dX11_trace_4 rfl rfl ?_
  refine j_aload_n dX11_trace_5 rfl rfl ?_
  refine t_getI dX11_trace_6 jfl_X11_338 (fun _ _ _ => rfl) (fun _ => rfl) ?_
  refine j_topE (e' := nI r) hr ?_
  refine jn_icmp_ge (tgt := 27) dX11_trace_9 (by decide) (by omega) (by omega) (fun h9 => absurd h9 (by omega)) (fun h9 => ?_)
  refine j_iload_n dX11_trace_12 rfl rfl ?_
  refine j_bipush (v := nI 24) dX11_trace_13 rfl ?_
  refine jn_icmp_ge (tgt := 27) dX11_trace_15 (by decide) (by omega) (by omega) (fun h15 => absurd h15 (by omega)) (fun h15 => ?_)
  refine j_aload_n dX11_trace_18 rfl rfl ?_
  refine t_getR (b := 99) dX11_trace_19 jfl_X11_79 (fun _ _ _ => rfl) rfl ?_
  refine j_iload_n dX11_trace_22 rfl rfl ?_
  refine t_iaload dX11_trace_23 (fun _ _ _ => rfl) (by omega) (by decide) ?_
  refine j_goto (tgt := 28) dX11_trace_24 (by decide) ?_
  refine j_ireturn dX11_trace_28 rfl ?_
  exact ⟨rfl, rfl⟩

set_option maxHeartbeats 200000 in
set_option maxRecDepth 100000 in
theorem m_trace_neg {c : Int32} (h : c < 0) : jMet (d + 1) yX11_trace cX11_trace 2 (some .int) 0 0 [.ref 76, .int c] (tw X A L) (jRi (-1) (tw X A L)) := by
  refine jMet_of (by decide) (Nat.le_of_ble_eq_true rfl) none (Or.inl rfl) ?_
  show jWP none RX11 cX11_trace 2 (some .int) (d + 1) 0 0 0 [some (.ref 76), some (.int c)] [] (tw X A L) (jRi (-1) (tw X A L))
  refine j_iload_n dX11_trace_0 rfl rfl ?_
  refine j_if_lt (tgt := 27) dX11_trace_1 (by decide) (fun h1 => ?_) (fun h1 => absurd h h1)
  refine j_iconst (v := (-1)) dX11_trace_27 rfl ?_
  refine j_ireturn dX11_trace_28 rfl ?_
  exact ⟨rfl, rfl⟩

set_option maxHeartbeats 200000 in
set_option maxRecDepth 100000 in
theorem m_trace_ge {r : Nat} (hr : X 76 39 = nI r) (hr2 : r < 2 ^ 30) {j : Nat} (hj : j < 2 ^ 31) (h1 : r ≤ j ∨ 24 ≤ j) : jMet (d + 1) yX11_trace cX11_trace 2 (some .int) 0 0 [.ref 76, .int (nI j)] (tw X A L) (jRi (-1) (tw X A L)) := by
  refine jMet_of (by decide) (Nat.le_of_ble_eq_true rfl) none (Or.inl rfl) ?_
  show jWP none RX11 cX11_trace 2 (some .int) (d + 1) 0 0 0 [some (.ref 76), some (.int (nI j))] [] (tw X A L) (jRi (-1) (tw X A L))
  refine j_iload_n dX11_trace_0 rfl rfl ?_
  refine jn_if_lt (tgt := 27) dX11_trace_1 (by decide) (by omega) ?_
  refine j_iload_n dX11_trace_4 rfl rfl ?_
  refine j_aload_n dX11_trace_5 rfl rfl ?_
  refine t_getI dX11_trace_6 jfl_X11_338 (fun _ _ _ => rfl) (fun _ => rfl) ?_
  refine j_topE (e' := nI r) hr ?_
  refine jn_icmp_ge (tgt := 27) dX11_trace_9 (by decide) (by omega) (by omega) (fun h9 => ?_) (fun h9 => ?_)
  · refine j_iconst (v := (-1)) dX11_trace_27 rfl ?_
    refine j_ireturn dX11_trace_28 rfl ?_
    exact ⟨rfl, rfl⟩
  · refine j_iload_n dX11_trace_12 rfl rfl ?_
    refine j_bipush (v := nI 24) dX11_trace_13 rfl ?_
    refine jn_icmp_ge (tgt := 27) dX11_trace_15 (by decide) (by omega) (by omega) (fun h15 => ?_) (fun h15 => ?_)
    · refine j_iconst (v := (-1)) dX11_trace_27 rfl ?_
      refine j_ireturn dX11_trace_28 rfl ?_
      exact ⟨rfl, rfl⟩
    · exfalso; omega

end CT43