def mX (X : Nat → Nat → Int32) (r : Nat) : Nat → Nat → Int32 := va_up X 76 (upd (X 76) 39 (nI r))
theorem mX_39 (X : Nat → Nat → Int32) (r : Nat) : mX X r 76 39 = nI r := by unfold mX; rw [vu_s, ud_s]
theorem mX_n (X : Nat → Nat → Int32) (r : Nat) {q : Nat} (h : q ≠ 39) : mX X r 76 q = X 76 q := by unfold mX; rw [vu_s, ud_n _ _ _ h]
theorem mX_p (X : Nat → Nat → Int32) (r r' : Nat) : va_up (mX X r) 76 (upd (mX X r 76) 39 (nI r')) = mX X r' := by unfold mX; rw [vu_up, vu_s, ud_ud]
def wrV (n x : Int32) (k : Nat) : Int32 × List Int32 := if k = 1 ∨ k = 4 ∨ k = 7 then (x + n + nI 3, [nI 20, nI 1]) else if k = 6 then ((x + n) * nI 2, [nI 70, nI 1]) else (x + n, [nI 1])
def dnV (ks : Nat) (n x : Int32) (k : Nat) : Int32 × List Int32 := if k = 3 ∨ k = 5 then ((x ^^^ n) * nI 3, [nI 40, nI 11]) else if k = 4 ∨ k = 7 then ((x ^^^ n) - (wrV n (nI 2) ks).1, nI 50 :: nI 11 :: (wrV n (nI 2) ks).2) else (x ^^^ n, [nI 11])
def seB (ks : Nat) (n x : Int32) : Int32 × List Int32 := ((wrV n x ks).1 * nI 2, nI 10 :: (wrV n x ks).2)
def seV (ks : Nat) (n x : Int32) (k : Nat) : Int32 × List Int32 := if k = 3 ∨ k = 5 then (-(seB ks n (x + nI 1)).1, nI 41 :: nI 30 :: (seB ks n (x + nI 1)).2) else if k = 2 then (-(seB ks n x).1, nI 30 :: (seB ks n x).2) else if k = 7 then ((seB ks n x).1 + (dnV ks n (nI 2) ks).1, nI 80 :: ((seB ks n x).2 ++ (dnV ks n (nI 2) ks).2)) else seB ks n x
def tlB (ks : Nat) (n x : Int32) : Int32 × List Int32 := ((seV ks n x ks).1 - (dnV ks n (nI 1) ks).1, nI 2 :: ((seV ks n x ks).2 ++ (dnV ks n (nI 1) ks).2))
def tlV (ks : Nat) (n x : Int32) (k : Nat) : Int32 × List Int32 := if k = 5 then ((tlB ks n x).1 ^^^ nI 5, nI 60 :: (tlB ks n x).2) else if k = 7 then ((tlB ks n x).1 - nI 1, nI 81 :: (tlB ks n x).2) else tlB ks n x
def acV (ks : Nat) (n x : Int32) (t : Nat) : Int32 × List Int32 := if t = 0 then wrV n x ks else if t = 1 then seV ks n x ks else if t = 2 then dnV ks n x ks else tlV ks n x ks
theorem acV_eq {ks t : Nat} (n x : Int32) (h : ks < 8) (ht : t < 4) : acS 8 ks n ks t x = some (acV ks n x t) := by
  rcases (show ks = 0 ∨ ks = 1 ∨ ks = 2 ∨ ks = 3 ∨ ks = 4 ∨ ks = 5 ∨ ks = 6 ∨ ks = 7 by omega) with rfl | rfl | rfl | rfl | rfl | rfl | rfl | rfl <;>
  rcases (show t = 0 ∨ t = 1 ∨ t = 2 ∨ t = 3 by omega) with rfl | rfl | rfl | rfl <;> rfl
theorem act_w (X : Nat → Nat → Int32) (y z : Int32) : va_up (va_up (mX X 0) 76 (upd (mX X 0 76) 40 y)) 76 (upd (va_up (mX X 0) 76 (upd (mX X 0 76) 40 y) 76) 41 z) = mX (va_up X 76 (upd (upd (X 76) 40 y) 41 z)) 0 := by
  unfold mX
  simp only [vu_s, vu_up]
  refine congrArg (va_up X 76) ?_
  funext q
  unfold upd
  by_cases h1 : q = 41
  · subst h1; simp
  · by_cases h2 : q = 40
    · subst h2; simp
    · by_cases h3 : q = 39
      · subst h3; simp
      · simp [h1, h2, h3]
section CT46
variable {d : Nat} {X A : Nat → Nat → Int32} {L : Nat → Nat → Int64} {w : jW} {na nb : Nat} {v kd : Nat → Nat} {n : Int32} {ks r : Nat} {tr : Nat → Int32}

set_option maxHeartbeats 200000 in
set_option maxRecDepth 100000 in
theorem m_begins (hr : r < 2 ^ 30) {m : Int32} : jMet (d) yX11_begins cX11_begins 2 none 0 0 [.ref 76, .int m] (tw (mX X (r)) (va_up A 99 (tr)) L) (jRv (tw (mX X (r + 1)) (va_up A 99 (noteT r tr [m])) L)) := by
  refine jMet_of (by decide) (Nat.le_of_ble_eq_true rfl) none (Or.inl rfl) ?_
  show jWP none RX11 cX11_begins 2 none (d) 0 0 0 [some (.ref 76), some (.int m)] [] (tw (mX X (r)) (va_up A 99 (tr)) L) (jRv (tw (mX X (r + 1)) (va_up A 99 (noteT r tr [m])) L))
  refine j_aload_n dX11_begins_0 rfl rfl ?_
  refine t_getI dX11_begins_1 jfl_X11_338 (fun _ _ _ => rfl) (fun _ => rfl) ?_
  refine j_topE (e' := nI r) (mX_39 _ _) ?_
  refine j_bipush (v := nI 24) dX11_begins_4 rfl ?_
  refine jn_icmp_ge (tgt := 19) dX11_begins_6 (by decide) (by omega) (by omega) (fun h6 => ?_) (fun h6 => ?_)
  · refine j_aload_n dX11_begins_19 rfl rfl ?_
    refine j_dup dX11_begins_20 rfl ?_
    refine t_getI dX11_begins_21 jfl_X11_338 (fun _ _ _ => rfl) (fun _ => rfl) ?_
    refine j_topE (e' := nI r) (mX_39 _ _) ?_
    refine j_iconst (v := nI 1) dX11_begins_24 rfl ?_
    refine jn_iadd dX11_begins_25 ?_
    refine t_putI dX11_begins_26 jfl_X11_338 (fun _ _ _ => rfl) (fun _ _ => rfl) (Nat.le_of_ble_eq_true rfl) rfl rfl ?_
    refine j_return dX11_begins_29 rfl ?_
    refine ⟨rfl, tw_eq (mX_p _ _ _) ?_ rfl⟩
    show _ = va_up A 99 (if r < 24 then upd tr r m else tr)
    rw [if_neg (by omega)]
  · refine j_aload_n dX11_begins_9 rfl rfl ?_
    refine t_getR (b := 99) dX11_begins_10 jfl_X11_79 (fun _ _ _ => rfl) rfl ?_
    refine j_aload_n dX11_begins_13 rfl rfl ?_
    refine t_getI dX11_begins_14 jfl_X11_338 (fun _ _ _ => rfl) (fun _ => rfl) ?_
    refine j_topE (e' := nI r) (mX_39 _ _) ?_
    refine j_iload_n dX11_begins_17 rfl rfl ?_
    refine t_iastore dX11_begins_18 (fun _ _ _ => rfl) (by omega) (by decide) ?_
    refine j_aload_n dX11_begins_19 rfl rfl ?_
    refine j_dup dX11_begins_20 rfl ?_
    refine t_getI dX11_begins_21 jfl_X11_338 (fun _ _ _ => rfl) (fun _ => rfl) ?_
    refine j_topE (e' := nI r) (mX_39 _ _) ?_
    refine j_iconst (v := nI 1) dX11_begins_24 rfl ?_
    refine jn_iadd dX11_begins_25 ?_
    refine t_putI dX11_begins_26 jfl_X11_338 (fun _ _ _ => rfl) (fun _ _ => rfl) (Nat.le_of_ble_eq_true rfl) rfl rfl ?_
    refine j_return dX11_begins_29 rfl ?_
    refine ⟨rfl, tw_eq (mX_p _ _ _) ?_ rfl⟩
    show _ = va_up A 99 (if r < 24 then upd tr r m else tr)
    rw [if_pos h6, vu_s, vu_up]

set_option maxHeartbeats 200000 in
set_option maxRecDepth 100000 in
theorem m_wr_0 {x : Int32} (hn : X 76 41 = n) (hr : r < 2 ^ 29) : jMet (d + 1) yX11_writesAs cX11_writesAs 3 (some .int) 0 0 [.ref 76, .int (nI 0), .int x] (tw (mX X (r)) (va_up A 99 (tr)) L) (jRi (wrV n x 0).1 (tw (mX X (r + (wrV n x 0).2.length)) (va_up A 99 (noteT r tr (wrV n x 0).2)) L)) := by
  refine jMet_of (by decide) (Nat.le_of_ble_eq_true rfl) none (Or.inl rfl) ?_
  show jWP none RX11 cX11_writesAs 3 (some .int) (d + 1) 0 0 0 [some (.ref 76), some (.int (nI 0)), some (.int x)] [] (tw (mX X (r)) (va_up A 99 (tr)) L) (jRi (wrV n x 0).1 (tw (mX X (r + (wrV n x 0).2.length)) (va_up A 99 (noteT r tr (wrV n x 0).2)) L))
  refine j_iload_n dX11_writesAs_0 rfl rfl ?_
  refine j_iconst (v := nI 1) dX11_writesAs_1 rfl ?_
  refine j_icmp_eq (tgt := 16) dX11_writesAs_2 (by decide) (fun h => absurd h (by decide)) (fun _ => ?_)
  refine j_iload_n dX11_writesAs_5 rfl rfl ?_
  refine j_iconst (v := nI 4) dX11_writesAs_6 rfl ?_
  refine j_icmp_eq (tgt := 16) dX11_writesAs_7 (by decide) (fun h => absurd h (by decide)) (fun _ => ?_)
  refine j_iload_n dX11_writesAs_10 rfl rfl ?_
  refine j_bipush (v := nI 7) dX11_writesAs_11 rfl ?_
  refine j_icmp_ne (tgt := 31) dX11_writesAs_13 (by decide) (fun _ => ?_) (fun h => absurd h (by decide))
  refine j_iload_n dX11_writesAs_31 rfl rfl ?_
  refine j_bipush (v := nI 6) dX11_writesAs_32 rfl ?_
  refine j_icmp_ne (tgt := 52) dX11_writesAs_34 (by decide) (fun _ => ?_) (fun h => absurd h (by decide))
  refine j_aload_n dX11_writesAs_52 rfl rfl ?_
  refine j_iconst (v := nI 1) dX11_writesAs_53 rfl ?_
  refine j_callVv [.int _] [] dX11_writesAs_54 jlk_X11_341 rfl rfl rfl rfl (Nat.le_of_ble_eq_true rfl) (m_begins (r := r) (tr := tr) (by omega)) ?_
  refine j_iload_n dX11_writesAs_57 rfl rfl ?_
  refine j_aload_n dX11_writesAs_58 rfl rfl ?_
  refine t_getI dX11_writesAs_59 jfl_X11_348 (fun _ _ _ => rfl) (fun _ => rfl) ?_
  refine j_topE (e' := n) ((mX_n _ _ (by decide)).trans hn) ?_
  refine j_iadd dX11_writesAs_62 ?_
  refine j_ireturn dX11_writesAs_63 rfl ?_
  refine ⟨rfl, tw_eq (congrArg (mX X) ?_) (congrArg (va_up A 99) ?_) rfl⟩
  · first | rfl | (simp only [seV, dnV, tlV, seB, tlB, List.length_cons, List.length_append, List.length_nil]; simp; omega)
  · first | rfl | exact (noteT_app (seB ks n x).2 (r + 1) _ (dnV ks n (nI 2) ks).2).symm | (simp [seV, dnV, tlV, seB, tlB, noteT, noteT_app, List.length_cons]; done)

set_option maxHeartbeats 200000 in
set_option maxRecDepth 100000 in
theorem m_wr_2 {x : Int32} (hn : X 76 41 = n) (hr : r < 2 ^ 29) : jMet (d + 1) yX11_writesAs cX11_writesAs 3 (some .int) 0 0 [.ref 76, .int (nI 2), .int x] (tw (mX X (r)) (va_up A 99 (tr)) L) (jRi (wrV n x 2).1 (tw (mX X (r + (wrV n x 2).2.length)) (va_up A 99 (noteT r tr (wrV n x 2).2)) L)) := by
  refine jMet_of (by decide) (Nat.le_of_ble_eq_true rfl) none (Or.inl rfl) ?_
  show jWP none RX11 cX11_writesAs 3 (some .int) (d + 1) 0 0 0 [some (.ref 76), some (.int (nI 2)), some (.int x)] [] (tw (mX X (r)) (va_up A 99 (tr)) L) (jRi (wrV n x 2).1 (tw (mX X (r + (wrV n x 2).2.length)) (va_up A 99 (noteT r tr (wrV n x 2).2)) L))
  refine j_iload_n dX11_writesAs_0 rfl rfl ?_
  refine j_iconst (v := nI 1) dX11_writesAs_1 rfl ?_
  refine j_icmp_eq (tgt := 16) dX11_writesAs_2 (by decide) (fun h => absurd h (by decide)) (fun _ => ?_)
  refine j_iload_n dX11_writesAs_5 rfl rfl ?_
  refine j_iconst (v := nI 4) dX11_writesAs_6 rfl ?_
  refine j_icmp_eq (tgt := 16) dX11_writesAs_7 (by decide) (fun h => absurd h (by decide)) (fun _ => ?_)
  refine j_iload_n dX11_writesAs_10 rfl rfl ?_
  refine j_bipush (v := nI 7) dX11_writesAs_11 rfl ?_
  refine j_icmp_ne (tgt := 31) dX11_writesAs_13 (by decide) (fun _ => ?_) (fun h => absurd h (by decide))
  refine j_iload_n dX11_writesAs_31 rfl rfl ?_
  refine j_bipush (v := nI 6) dX11_writesAs_32 rfl ?_
  refine j_icmp_ne (tgt := 52) dX11_writesAs_34 (by decide) (fun _ => ?_) (fun h => absurd h (by decide))
  refine j_aload_n dX11_writesAs_52 rfl rfl ?_
  refine j_iconst (v := nI 1) dX11_writesAs_53 rfl ?_
  refine j_callVv [.int _] [] dX11_writesAs_54 jlk_X11_341 rfl rfl rfl rfl (Nat.le_of_ble_eq_true rfl) (m_begins (r := r) (tr := tr) (by omega)) ?_
  refine j_iload_n dX11_writesAs_57 rfl rfl ?_
  refine j_aload_n dX11_writesAs_58 rfl rfl ?_
  refine t_getI dX11_writesAs_59 jfl_X11_348 (fun _ _ _ => rfl) (fun _ => rfl) ?_
  refine j_topE (e' := n) ((mX_n _ _ (by decide)).trans hn) ?_
  refine j_iadd dX11_writesAs_62 ?_
  refine j_ireturn dX11_writesAs_63 rfl ?_
  refine ⟨rfl, tw_eq (congrArg (mX X) ?_) (congrArg (va_up A 99) ?_) rfl⟩
  · first | rfl | (simp only [seV, dnV, tlV, seB, tlB, List.length_cons, List.length_append, List.length_nil]; simp; omega)
  · first | rfl | exact (noteT_app (seB ks n x).2 (r + 1) _ (dnV ks n (nI 2) ks).2).symm | (simp [seV, dnV, tlV, seB, tlB, noteT, noteT_app, List.length_cons]; done)

set_option maxHeartbeats 200000 in
set_option maxRecDepth 100000 in
theorem m_wr_3 {x : Int32} (hn : X 76 41 = n) (hr : r < 2 ^ 29) : jMet (d + 1) yX11_writesAs cX11_writesAs 3 (some .int) 0 0 [.ref 76, .int (nI 3), .int x] (tw (mX X (r)) (va_up A 99 (tr)) L) (jRi (wrV n x 3).1 (tw (mX X (r + (wrV n x 3).2.length)) (va_up A 99 (noteT r tr (wrV n x 3).2)) L)) := by
  refine jMet_of (by decide) (Nat.le_of_ble_eq_true rfl) none (Or.inl rfl) ?_
  show jWP none RX11 cX11_writesAs 3 (some .int) (d + 1) 0 0 0 [some (.ref 76), some (.int (nI 3)), some (.int x)] [] (tw (mX X (r)) (va_up A 99 (tr)) L) (jRi (wrV n x 3).1 (tw (mX X (r + (wrV n x 3).2.length)) (va_up A 99 (noteT r tr (wrV n x 3).2)) L))
  refine j_iload_n dX11_writesAs_0 rfl rfl ?_
  refine j_iconst (v := nI 1) dX11_writesAs_1 rfl ?_
  refine j_icmp_eq (tgt := 16) dX11_writesAs_2 (by decide) (fun h => absurd h (by decide)) (fun _ => ?_)
  refine j_iload_n dX11_writesAs_5 rfl rfl ?_
  refine j_iconst (v := nI 4) dX11_writesAs_6 rfl ?_
  refine j_icmp_eq (tgt := 16) dX11_writesAs_7 (by decide) (fun h => absurd h (by decide)) (fun _ => ?_)
  refine j_iload_n dX11_writesAs_10 rfl rfl ?_
  refine j_bipush (v := nI 7) dX11_writesAs_11 rfl ?_
  refine j_icmp_ne (tgt := 31) dX11_writesAs_13 (by decide) (fun _ => ?_) (fun h => absurd h (by decide))
  refine j_iload_n dX11_writesAs_31 rfl rfl ?_
  refine j_bipush (v := nI 6) dX11_writesAs_32 rfl ?_
  refine j_icmp_ne (tgt := 52) dX11_writesAs_34 (by decide) (fun _ => ?_) (fun h => absurd h (by decide))
  refine j_aload_n dX11_writesAs_52 rfl rfl ?_
  refine j_iconst (v := nI 1) dX11_writesAs_53 rfl ?_
  refine j_callVv [.int _] [] dX11_writesAs_54 jlk_X11_341 rfl rfl rfl rfl (Nat.le_of_ble_eq_true rfl) (m_begins (r := r) (tr := tr) (by omega)) ?_
  refine j_iload_n dX11_writesAs_57 rfl rfl ?_
  refine j_aload_n dX11_writesAs_58 rfl rfl ?_
  refine t_getI dX11_writesAs_59 jfl_X11_348 (fun _ _ _ => rfl) (fun _ => rfl) ?_
  refine j_topE (e' := n) ((mX_n _ _ (by decide)).trans hn) ?_
  refine j_iadd dX11_writesAs_62 ?_
  refine j_ireturn dX11_writesAs_63 rfl ?_
  refine ⟨rfl, tw_eq (congrArg (mX X) ?_) (congrArg (va_up A 99) ?_) rfl⟩
  · first | rfl | (simp only [seV, dnV, tlV, seB, tlB, List.length_cons, List.length_append, List.length_nil]; simp; omega)
  · first | rfl | exact (noteT_app (seB ks n x).2 (r + 1) _ (dnV ks n (nI 2) ks).2).symm | (simp [seV, dnV, tlV, seB, tlB, noteT, noteT_app, List.length_cons]; done)

set_option maxHeartbeats 200000 in
set_option maxRecDepth 100000 in
theorem m_wr_5 {x : Int32} (hn : X 76 41 = n) (hr : r < 2 ^ 29) : jMet (d + 1) yX11_writesAs cX11_writesAs 3 (some .int) 0 0 [.ref 76, .int (nI 5), .int x] (tw (mX X (r)) (va_up A 99 (tr)) L) (jRi (wrV n x 5).1 (tw (mX X (r + (wrV n x 5).2.length)) (va_up A 99 (noteT r tr (wrV n x 5).2)) L)) := by
  refine jMet_of (by decide) (Nat.le_of_ble_eq_true rfl) none (Or.inl rfl) ?_
  show jWP none RX11 cX11_writesAs 3 (some .int) (d + 1) 0 0 0 [some (.ref 76), some (.int (nI 5)), some (.int x)] [] (tw (mX X (r)) (va_up A 99 (tr)) L) (jRi (wrV n x 5).1 (tw (mX X (r + (wrV n x 5).2.length)) (va_up A 99 (noteT r tr (wrV n x 5).2)) L))
  refine j_iload_n dX11_writesAs_0 rfl rfl ?_
  refine j_iconst (v := nI 1) dX11_writesAs_1 rfl ?_
  refine j_icmp_eq (tgt := 16) dX11_writesAs_2 (by decide) (fun h => absurd h (by decide)) (fun _ => ?_)
  refine j_iload_n dX11_writesAs_5 rfl rfl ?_
  refine j_iconst (v := nI 4) dX11_writesAs_6 rfl ?_
  refine j_icmp_eq (tgt := 16) dX11_writesAs_7 (by decide) (fun h => absurd h (by decide)) (fun _ => ?_)
  refine j_iload_n dX11_writesAs_10 rfl rfl ?_
  refine j_bipush (v := nI 7) dX11_writesAs_11 rfl ?_
  refine j_icmp_ne (tgt := 31) dX11_writesAs_13 (by decide) (fun _ => ?_) (fun h => absurd h (by decide))
  refine j_iload_n dX11_writesAs_31 rfl rfl ?_
  refine j_bipush (v := nI 6) dX11_writesAs_32 rfl ?_
  refine j_icmp_ne (tgt := 52) dX11_writesAs_34 (by decide) (fun _ => ?_) (fun h => absurd h (by decide))
  refine j_aload_n dX11_writesAs_52 rfl rfl ?_
  refine j_iconst (v := nI 1) dX11_writesAs_53 rfl ?_
  refine j_callVv [.int _] [] dX11_writesAs_54 jlk_X11_341 rfl rfl rfl rfl (Nat.le_of_ble_eq_true rfl) (m_begins (r := r) (tr := tr) (by omega)) ?_
  refine j_iload_n dX11_writesAs_57 rfl rfl ?_
  refine j_aload_n dX11_writesAs_58 rfl rfl ?_
  refine t_getI dX11_writesAs_59 jfl_X11_348 (fun _ _ _ => rfl) (fun _ => rfl) ?_
  refine j_topE (e' := n) ((mX_n _ _ (by decide)).trans hn) ?_
  refine j_iadd dX11_writesAs_62 ?_
  refine j_ireturn dX11_writesAs_63 rfl ?_
  refine ⟨rfl, tw_eq (congrArg (mX X) ?_) (congrArg (va_up A 99) ?_) rfl⟩
  · first | rfl | (simp only [seV, dnV, tlV, seB, tlB, List.length_cons, List.length_append, List.length_nil]; simp; omega)
  · first | rfl | exact (noteT_app (seB ks n x).2 (r + 1) _ (dnV ks n (nI 2) ks).2).symm | (simp [seV, dnV, tlV, seB, tlB, noteT, noteT_app, List.length_cons]; done)

set_option maxHeartbeats 200000 in
set_option maxRecDepth 100000 in
theorem m_wr_1 {x : Int32} (hn : X 76 41 = n) (hr : r < 2 ^ 28) : jMet (d + 2) yX11_writesAs cX11_writesAs 3 (some .int) 0 0 [.ref 76, .int (nI 1), .int x] (tw (mX X (r)) (va_up A 99 (tr)) L) (jRi (wrV n x 1).1 (tw (mX X (r + (wrV n x 1).2.length)) (va_up A 99 (noteT r tr (wrV n x 1).2)) L)) := by
  refine jMet_of (by decide) (Nat.le_of_ble_eq_true rfl) none (Or.inl rfl) ?_
  show jWP none RX11 cX11_writesAs 3 (some .int) (d + 2) 0 0 0 [some (.ref 76), some (.int (nI 1)), some (.int x)] [] (tw (mX X (r)) (va_up A 99 (tr)) L) (jRi (wrV n x 1).1 (tw (mX X (r + (wrV n x 1).2.length)) (va_up A 99 (noteT r tr (wrV n x 1).2)) L))
  refine j_iload_n dX11_writesAs_0 rfl rfl ?_
  refine j_iconst (v := nI 1) dX11_writesAs_1 rfl ?_
  refine j_icmp_eq (tgt := 16) dX11_writesAs_2 (by decide) (fun _ => ?_) (fun h => absurd (by decide) h)
  refine j_aload_n dX11_writesAs_16 rfl rfl ?_
  refine j_bipush (v := nI 20) dX11_writesAs_17 rfl ?_
  refine j_callVv [.int _] [] dX11_writesAs_19 jlk_X11_341 rfl rfl rfl rfl (Nat.le_of_ble_eq_true rfl) (m_begins (r := r) (tr := tr) (by omega)) ?_
  refine j_aload_n dX11_writesAs_22 rfl rfl ?_
  refine j_iconst (v := nI 0) dX11_writesAs_23 rfl ?_
  refine j_iload_n dX11_writesAs_24 rfl rfl ?_
  refine j_callVi [.int _, .int _] [] dX11_writesAs_25 jlk_X11_345 rfl rfl rfl rfl (Nat.le_of_ble_eq_true rfl) (m_wr_0 (r := r + 1) (tr := noteT (r) (tr) [nI 20]) hn (by omega)) ?_
  refine j_iconst (v := nI 3) dX11_writesAs_28 rfl ?_
  refine j_iadd dX11_writesAs_29 ?_
  refine j_ireturn dX11_writesAs_30 rfl ?_
  refine ⟨rfl, tw_eq (congrArg (mX X) ?_) (congrArg (va_up A 99) ?_) rfl⟩
  · first | rfl | (simp only [seV, dnV, tlV, seB, tlB, List.length_cons, List.length_append, List.length_nil]; simp; omega)
  · first | rfl | exact (noteT_app (seB ks n x).2 (r + 1) _ (dnV ks n (nI 2) ks).2).symm | (simp [seV, dnV, tlV, seB, tlB, noteT, noteT_app, List.length_cons]; done)

set_option maxHeartbeats 200000 in
set_option maxRecDepth 100000 in
theorem m_wr_4 {x : Int32} (hn : X 76 41 = n) (hr : r < 2 ^ 28) : jMet (d + 2) yX11_writesAs cX11_writesAs 3 (some .int) 0 0 [.ref 76, .int (nI 4), .int x] (tw (mX X (r)) (va_up A 99 (tr)) L) (jRi (wrV n x 4).1 (tw (mX X (r + (wrV n x 4).2.length)) (va_up A 99 (noteT r tr (wrV n x 4).2)) L)) := by
  refine jMet_of (by decide) (Nat.le_of_ble_eq_true rfl) none (Or.inl rfl) ?_
  show jWP none RX11 cX11_writesAs 3 (some .int) (d + 2) 0 0 0 [some (.ref 76), some (.int (nI 4)), some (.int x)] [] (tw (mX X (r)) (va_up A 99 (tr)) L) (jRi (wrV n x 4).1 (tw (mX X (r + (wrV n x 4).2.length)) (va_up A 99 (noteT r tr (wrV n x 4).2)) L))
  refine j_iload_n dX11_writesAs_0 rfl rfl ?_
  refine j_iconst (v := nI 1) dX11_writesAs_1 rfl ?_
  refine j_icmp_eq (tgt := 16) dX11_writesAs_2 (by decide) (fun h => absurd h (by decide)) (fun _ => ?_)
  refine j_iload_n dX11_writesAs_5 rfl rfl ?_
  refine j_iconst (v := nI 4) dX11_writesAs_6 rfl ?_
  refine j_icmp_eq (tgt := 16) dX11_writesAs_7 (by decide) (fun _ => ?_) (fun h => absurd (by decide) h)
  refine j_aload_n dX11_writesAs_16 rfl rfl ?_
  refine j_bipush (v := nI 20) dX11_writesAs_17 rfl ?_
  refine j_callVv [.int _] [] dX11_writesAs_19 jlk_X11_341 rfl rfl rfl rfl (Nat.le_of_ble_eq_true rfl) (m_begins (r := r) (tr := tr) (by omega)) ?_
  refine j_aload_n dX11_writesAs_22 rfl rfl ?_
  refine j_iconst (v := nI 0) dX11_writesAs_23 rfl ?_
  refine j_iload_n dX11_writesAs_24 rfl rfl ?_
  refine j_callVi [.int _, .int _] [] dX11_writesAs_25 jlk_X11_345 rfl rfl rfl rfl (Nat.le_of_ble_eq_true rfl) (m_wr_0 (r := r + 1) (tr := noteT (r) (tr) [nI 20]) hn (by omega)) ?_
  refine j_iconst (v := nI 3) dX11_writesAs_28 rfl ?_
  refine j_iadd dX11_writesAs_29 ?_
  refine j_ireturn dX11_writesAs_30 rfl ?_
  refine ⟨rfl, tw_eq (congrArg (mX X) ?_) (congrArg (va_up A 99) ?_) rfl⟩
  · first | rfl | (simp only [seV, dnV, tlV, seB, tlB, List.length_cons, List.length_append, List.length_nil]; simp; omega)
  · first | rfl | exact (noteT_app (seB ks n x).2 (r + 1) _ (dnV ks n (nI 2) ks).2).symm | (simp [seV, dnV, tlV, seB, tlB, noteT, noteT_app, List.length_cons]; done)

set_option maxHeartbeats 200000 in
set_option maxRecDepth 100000 in
theorem m_wr_7 {x : Int32} (hn : X 76 41 = n) (hr : r < 2 ^ 28) : jMet (d + 2) yX11_writesAs cX11_writesAs 3 (some .int) 0 0 [.ref 76, .int (nI 7), .int x] (tw (mX X (r)) (va_up A 99 (tr)) L) (jRi (wrV n x 7).1 (tw (mX X (r + (wrV n x 7).2.length)) (va_up A 99 (noteT r tr (wrV n x 7).2)) L)) := by
  refine jMet_of (by decide) (Nat.le_of_ble_eq_true rfl) none (Or.inl rfl) ?_
  show jWP none RX11 cX11_writesAs 3 (some .int) (d + 2) 0 0 0 [some (.ref 76), some (.int (nI 7)), some (.int x)] [] (tw (mX X (r)) (va_up A 99 (tr)) L) (jRi (wrV n x 7).1 (tw (mX X (r + (wrV n x 7).2.length)) (va_up A 99 (noteT r tr (wrV n x 7).2)) L))
  refine j_iload_n dX11_writesAs_0 rfl rfl ?_
  refine j_iconst (v := nI 1) dX11_writesAs_1 rfl ?_
  refine j_icmp_eq (tgt := 16) dX11_writesAs_2 (by decide) (fun h => absurd h (by decide)) (fun _ => ?_)
  refine j_iload_n dX11_writesAs_5 rfl rfl ?_
  refine j_iconst (v := nI 4) dX11_writesAs_6 rfl ?_
  refine j_icmp_eq (tgt := 16) dX11_writesAs_7 (by decide) (fun h => absurd h (by decide)) (fun _ => ?_)
  refine j_iload_n dX11_writesAs_10 rfl rfl ?_
  refine j_bipush (v := nI 7) dX11_writesAs_11 rfl ?_
  refine j_icmp_ne (tgt := 31) dX11_writesAs_13 (by decide) (fun h => absurd (by decide) h) (fun _ => ?_)
  refine j_aload_n dX11_writesAs_16 rfl rfl ?_
  refine j_bipush (v := nI 20) dX11_writesAs_17 rfl ?_
  refine j_callVv [.int _] [] dX11_writesAs_19 jlk_X11_341 rfl rfl rfl rfl (Nat.le_of_ble_eq_true rfl) (m_begins (r := r) (tr := tr) (by omega)) ?_
  refine j_aload_n dX11_writesAs_22 rfl rfl ?_
  refine j_iconst (v := nI 0) dX11_writesAs_23 rfl ?_
  refine j_iload_n dX11_writesAs_24 rfl rfl ?_
  refine j_callVi [.int _, .int _] [] dX11_writesAs_25 jlk_X11_345 rfl rfl rfl rfl (Nat.le_of_ble_eq_true rfl) (m_wr_0 (r := r + 1) (tr := noteT (r) (tr) [nI 20]) hn (by omega)) ?_
  refine j_iconst (v := nI 3) dX11_writesAs_28 rfl ?_
  refine j_iadd dX11_writesAs_29 ?_
  refine j_ireturn dX11_writesAs_30 rfl ?_
  refine ⟨rfl, tw_eq (congrArg (mX X) ?_) (congrArg (va_up A 99) ?_) rfl⟩
  · first | rfl | (simp only [seV, dnV, tlV, seB, tlB, List.length_cons, List.length_append, List.length_nil]; simp; omega)
  · first | rfl | exact (noteT_app (seB ks n x).2 (r + 1) _ (dnV ks n (nI 2) ks).2).symm | (simp [seV, dnV, tlV, seB, tlB, noteT, noteT_app, List.length_cons]; done)

set_option maxHeartbeats 200000 in
set_option maxRecDepth 100000 in
theorem m_wr_6 {x : Int32} (hn : X 76 41 = n) (hr : r < 2 ^ 28) : jMet (d + 2) yX11_writesAs cX11_writesAs 3 (some .int) 0 0 [.ref 76, .int (nI 6), .int x] (tw (mX X (r)) (va_up A 99 (tr)) L) (jRi (wrV n x 6).1 (tw (mX X (r + (wrV n x 6).2.length)) (va_up A 99 (noteT r tr (wrV n x 6).2)) L)) := by
  refine jMet_of (by decide) (Nat.le_of_ble_eq_true rfl) none (Or.inl rfl) ?_
  show jWP none RX11 cX11_writesAs 3 (some .int) (d + 2) 0 0 0 [some (.ref 76), some (.int (nI 6)), some (.int x)] [] (tw (mX X (r)) (va_up A 99 (tr)) L) (jRi (wrV n x 6).1 (tw (mX X (r + (wrV n x 6).2.length)) (va_up A 99 (noteT r tr (wrV n x 6).2)) L))
  refine j_iload_n dX11_writesAs_0 rfl rfl ?_
  refine j_iconst (v := nI 1) dX11_writesAs_1 rfl ?_
  refine j_icmp_eq (tgt := 16) dX11_writesAs_2 (by decide) (fun h => absurd h (by decide)) (fun _ => ?_)
  refine j_iload_n dX11_writesAs_5 rfl rfl ?_
  refine j_iconst (v := nI 4) dX11_writesAs_6 rfl ?_
  refine j_icmp_eq (tgt := 16) dX11_writesAs_7 (by decide) (fun h => absurd h (by decide)) (fun _ => ?_)
  refine j_iload_n dX11_writesAs_10 rfl rfl ?_
  refine j_bipush (v := nI 7) dX11_writesAs_11 rfl ?_
  refine j_icmp_ne (tgt := 31) dX11_writesAs_13 (by decide) (fun _ => ?_) (fun h => absurd h (by decide))
  refine j_iload_n dX11_writesAs_31 rfl rfl ?_
  refine j_bipush (v := nI 6) dX11_writesAs_32 rfl ?_
  refine j_icmp_ne (tgt := 52) dX11_writesAs_34 (by decide) (fun h => absurd (by decide) h) (fun _ => ?_)
  refine j_aload_n dX11_writesAs_37 rfl rfl ?_
  refine j_bipush (v := nI 70) dX11_writesAs_38 rfl ?_
  refine j_callVv [.int _] [] dX11_writesAs_40 jlk_X11_341 rfl rfl rfl rfl (Nat.le_of_ble_eq_true rfl) (m_begins (r := r) (tr := tr) (by omega)) ?_
  refine j_aload_n dX11_writesAs_43 rfl rfl ?_
  refine j_iconst (v := nI 0) dX11_writesAs_44 rfl ?_
  refine j_iload_n dX11_writesAs_45 rfl rfl ?_
  refine j_callVi [.int _, .int _] [] dX11_writesAs_46 jlk_X11_345 rfl rfl rfl rfl (Nat.le_of_ble_eq_true rfl) (m_wr_0 (r := r + 1) (tr := noteT (r) (tr) [nI 70]) hn (by omega)) ?_
  refine j_iconst (v := nI 2) dX11_writesAs_49 rfl ?_
  refine j_imul dX11_writesAs_50 ?_
  refine j_ireturn dX11_writesAs_51 rfl ?_
  refine ⟨rfl, tw_eq (congrArg (mX X) ?_) (congrArg (va_up A 99) ?_) rfl⟩
  · first | rfl | (simp only [seV, dnV, tlV, seB, tlB, List.length_cons, List.length_append, List.length_nil]; simp; omega)
  · first | rfl | exact (noteT_app (seB ks n x).2 (r + 1) _ (dnV ks n (nI 2) ks).2).symm | (simp [seV, dnV, tlV, seB, tlB, noteT, noteT_app, List.length_cons]; done)

theorem m_writes {x : Int32} (hn : X 76 41 = n) (hr : r < 2 ^ 28) {k : Nat} (hk : k < 8) : jMet (d + 2) yX11_writesAs cX11_writesAs 3 (some .int) 0 0 [.ref 76, .int (nI k), .int x] (tw (mX X (r)) (va_up A 99 (tr)) L) (jRi (wrV n x k).1 (tw (mX X (r + (wrV n x k).2.length)) (va_up A 99 (noteT r tr (wrV n x k).2)) L)) := by
  rcases (show k = 0 ∨ k = 1 ∨ k = 2 ∨ k = 3 ∨ k = 4 ∨ k = 5 ∨ k = 6 ∨ k = 7 by omega) with rfl | rfl | rfl | rfl | rfl | rfl | rfl | rfl
  · exact m_wr_0 (d := d + 1) hn (by omega)
  · exact m_wr_1 (d := d + 0) hn (by omega)
  · exact m_wr_2 (d := d + 1) hn (by omega)
  · exact m_wr_3 (d := d + 1) hn (by omega)
  · exact m_wr_4 (d := d + 0) hn (by omega)
  · exact m_wr_5 (d := d + 1) hn (by omega)
  · exact m_wr_6 (d := d + 0) hn (by omega)
  · exact m_wr_7 (d := d + 0) hn (by omega)

theorem wrV_len (n x : Int32) (k : Nat) : (wrV n x k).2.length ≤ 2 := by
  unfold wrV
  split
  · exact Nat.le_refl 2
  · split
    · exact Nat.le_refl 2
    · show 1 ≤ 2; decide

set_option maxHeartbeats 200000 in
set_option maxRecDepth 100000 in
theorem m_dn_0 {x : Int32} (hks : ks < 8) (h40 : X 76 40 = nI ks) (hn : X 76 41 = n) (hr : r < 2 ^ 29) : jMet (d + 1) yX11_dancesAs cX11_dancesAs 4 (some .int) 0 0 [.ref 76, .int (nI 0), .int x] (tw (mX X (r)) (va_up A 99 (tr)) L) (jRi (dnV ks n x 0).1 (tw (mX X (r + (dnV ks n x 0).2.length)) (va_up A 99 (noteT r tr (dnV ks n x 0).2)) L)) := by
  refine jMet_of (by decide) (Nat.le_of_ble_eq_true rfl) none (Or.inl rfl) ?_
  show jWP none RX11 cX11_dancesAs 4 (some .int) (d + 1) 0 0 0 [some (.ref 76), some (.int (nI 0)), some (.int x), none] [] (tw (mX X (r)) (va_up A 99 (tr)) L) (jRi (dnV ks n x 0).1 (tw (mX X (r + (dnV ks n x 0).2.length)) (va_up A 99 (noteT r tr (dnV ks n x 0).2)) L))
  refine j_iload_n dX11_dancesAs_0 rfl rfl ?_
  refine j_iconst (v := nI 3) dX11_dancesAs_1 rfl ?_
  refine j_icmp_eq (tgt := 10) dX11_dancesAs_2 (by decide) (fun h => absurd h (by decide)) (fun _ => ?_)
  refine j_iload_n dX11_dancesAs_5 rfl rfl ?_
  refine j_iconst (v := nI 5) dX11_dancesAs_6 rfl ?_
  refine j_icmp_ne (tgt := 25) dX11_dancesAs_7 (by decide) (fun _ => ?_) (fun h => absurd h (by decide))
  refine j_iload_n dX11_dancesAs_25 rfl rfl ?_
  refine j_iconst (v := nI 4) dX11_dancesAs_26 rfl ?_
  refine j_icmp_eq (tgt := 36) dX11_dancesAs_27 (by decide) (fun h => absurd h (by decide)) (fun _ => ?_)
  refine j_iload_n dX11_dancesAs_30 rfl rfl ?_
  refine j_bipush (v := nI 7) dX11_dancesAs_31 rfl ?_
  refine j_icmp_ne (tgt := 61) dX11_dancesAs_33 (by decide) (fun _ => ?_) (fun h => absurd h (by decide))
  refine j_aload_n dX11_dancesAs_61 rfl rfl ?_
  refine j_bipush (v := nI 11) dX11_dancesAs_62 rfl ?_
  refine j_callVv [.int _] [] dX11_dancesAs_64 jlk_X11_341 rfl rfl rfl rfl (Nat.le_of_ble_eq_true rfl) (m_begins (r := r) (tr := tr) (by omega)) ?_
  refine j_iload_n dX11_dancesAs_67 rfl rfl ?_
  refine j_aload_n dX11_dancesAs_68 rfl rfl ?_
  refine t_getI dX11_dancesAs_69 jfl_X11_348 (fun _ _ _ => rfl) (fun _ => rfl) ?_
  refine j_topE (e' := n) ((mX_n _ _ (by decide)).trans hn) ?_
  refine j_ixor dX11_dancesAs_72 ?_
  refine j_ireturn dX11_dancesAs_73 rfl ?_
  refine ⟨rfl, tw_eq (congrArg (mX X) ?_) (congrArg (va_up A 99) ?_) rfl⟩
  · first | rfl | (simp only [seV, dnV, tlV, seB, tlB, List.length_cons, List.length_append, List.length_nil]; simp; omega)
  · first | rfl | exact (noteT_app (seB ks n x).2 (r + 1) _ (dnV ks n (nI 2) ks).2).symm | (simp [seV, dnV, tlV, seB, tlB, noteT, noteT_app, List.length_cons]; done)

set_option maxHeartbeats 200000 in
set_option maxRecDepth 100000 in
theorem m_dn_1 {x : Int32} (hks : ks < 8) (h40 : X 76 40 = nI ks) (hn : X 76 41 = n) (hr : r < 2 ^ 29) : jMet (d + 1) yX11_dancesAs cX11_dancesAs 4 (some .int) 0 0 [.ref 76, .int (nI 1), .int x] (tw (mX X (r)) (va_up A 99 (tr)) L) (jRi (dnV ks n x 1).1 (tw (mX X (r + (dnV ks n x 1).2.length)) (va_up A 99 (noteT r tr (dnV ks n x 1).2)) L)) := by
  refine jMet_of (by decide) (Nat.le_of_ble_eq_true rfl) none (Or.inl rfl) ?_
  show jWP none RX11 cX11_dancesAs 4 (some .int) (d + 1) 0 0 0 [some (.ref 76), some (.int (nI 1)), some (.int x), none] [] (tw (mX X (r)) (va_up A 99 (tr)) L) (jRi (dnV ks n x 1).1 (tw (mX X (r + (dnV ks n x 1).2.length)) (va_up A 99 (noteT r tr (dnV ks n x 1).2)) L))
  refine j_iload_n dX11_dancesAs_0 rfl rfl ?_
  refine j_iconst (v := nI 3) dX11_dancesAs_1 rfl ?_
  refine j_icmp_eq (tgt := 10) dX11_dancesAs_2 (by decide) (fun h => absurd h (by decide)) (fun _ => ?_)
  refine j_iload_n dX11_dancesAs_5 rfl rfl ?_
  refine j_iconst (v := nI 5) dX11_dancesAs_6 rfl ?_
  refine j_icmp_ne (tgt := 25) dX11_dancesAs_7 (by decide) (fun _ => ?_) (fun h => absurd h (by decide))
  refine j_iload_n dX11_dancesAs_25 rfl rfl ?_
  refine j_iconst (v := nI 4) dX11_dancesAs_26 rfl ?_
  refine j_icmp_eq (tgt := 36) dX11_dancesAs_27 (by decide) (fun h => absurd h (by decide)) (fun _ => ?_)
  refine j_iload_n dX11_dancesAs_30 rfl rfl ?_
  refine j_bipush (v := nI 7) dX11_dancesAs_31 rfl ?_
  refine j_icmp_ne (tgt := 61) dX11_dancesAs_33 (by decide) (fun _ => ?_) (fun h => absurd h (by decide))
  refine j_aload_n dX11_dancesAs_61 rfl rfl ?_
  refine j_bipush (v := nI 11) dX11_dancesAs_62 rfl ?_
  refine j_callVv [.int _] [] dX11_dancesAs_64 jlk_X11_341 rfl rfl rfl rfl (Nat.le_of_ble_eq_true rfl) (m_begins (r := r) (tr := tr) (by omega)) ?_
  refine j_iload_n dX11_dancesAs_67 rfl rfl ?_
  refine j_aload_n dX11_dancesAs_68 rfl rfl ?_
  refine t_getI dX11_dancesAs_69 jfl_X11_348 (fun _ _ _ => rfl) (fun _ => rfl) ?_
  refine j_topE (e' := n) ((mX_n _ _ (by decide)).trans hn) ?_
  refine j_ixor dX11_dancesAs_72 ?_
  refine j_ireturn dX11_dancesAs_73 rfl ?_
  refine ⟨rfl, tw_eq (congrArg (mX X) ?_) (congrArg (va_up A 99) ?_) rfl⟩
  · first | rfl | (simp only [seV, dnV, tlV, seB, tlB, List.length_cons, List.length_append, List.length_nil]; simp; omega)
  · first | rfl | exact (noteT_app (seB ks n x).2 (r + 1) _ (dnV ks n (nI 2) ks).2).symm | (simp [seV, dnV, tlV, seB, tlB, noteT, noteT_app, List.length_cons]; done)

set_option maxHeartbeats 200000 in
set_option maxRecDepth 100000 in
theorem m_dn_2 {x : Int32} (hks : ks < 8) (h40 : X 76 40 = nI ks) (hn : X 76 41 = n) (hr : r < 2 ^ 29) : jMet (d + 1) yX11_dancesAs cX11_dancesAs 4 (some .int) 0 0 [.ref 76, .int (nI 2), .int x] (tw (mX X (r)) (va_up A 99 (tr)) L) (jRi (dnV ks n x 2).1 (tw (mX X (r + (dnV ks n x 2).2.length)) (va_up A 99 (noteT r tr (dnV ks n x 2).2)) L)) := by
  refine jMet_of (by decide) (Nat.le_of_ble_eq_true rfl) none (Or.inl rfl) ?_
  show jWP none RX11 cX11_dancesAs 4 (some .int) (d + 1) 0 0 0 [some (.ref 76), some (.int (nI 2)), some (.int x), none] [] (tw (mX X (r)) (va_up A 99 (tr)) L) (jRi (dnV ks n x 2).1 (tw (mX X (r + (dnV ks n x 2).2.length)) (va_up A 99 (noteT r tr (dnV ks n x 2).2)) L))
  refine j_iload_n dX11_dancesAs_0 rfl rfl ?_
  refine j_iconst (v := nI 3) dX11_dancesAs_1 rfl ?_
  refine j_icmp_eq (tgt := 10) dX11_dancesAs_2 (by decide) (fun h => absurd h (by decide)) (fun _ => ?_)
  refine j_iload_n dX11_dancesAs_5 rfl rfl ?_
  refine j_iconst (v := nI 5) dX11_dancesAs_6 rfl ?_
  refine j_icmp_ne (tgt := 25) dX11_dancesAs_7 (by decide) (fun _ => ?_) (fun h => absurd h (by decide))
  refine j_iload_n dX11_dancesAs_25 rfl rfl ?_
  refine j_iconst (v := nI 4) dX11_dancesAs_26 rfl ?_
  refine j_icmp_eq (tgt := 36) dX11_dancesAs_27 (by decide) (fun h => absurd h (by decide)) (fun _ => ?_)
  refine j_iload_n dX11_dancesAs_30 rfl rfl ?_
  refine j_bipush (v := nI 7) dX11_dancesAs_31 rfl ?_
  refine j_icmp_ne (tgt := 61) dX11_dancesAs_33 (by decide) (fun _ => ?_) (fun h => absurd h (by decide))
  refine j_aload_n dX11_dancesAs_61 rfl rfl ?_
  refine j_bipush (v := nI 11) dX11_dancesAs_62 rfl ?_
  refine j_callVv [.int _] [] dX11_dancesAs_64 jlk_X11_341 rfl rfl rfl rfl (Nat.le_of_ble_eq_true rfl) (m_begins (r := r) (tr := tr) (by omega)) ?_
  refine j_iload_n dX11_dancesAs_67 rfl rfl ?_
  refine j_aload_n dX11_dancesAs_68 rfl rfl ?_
  refine t_getI dX11_dancesAs_69 jfl_X11_348 (fun _ _ _ => rfl) (fun _ => rfl) ?_
  refine j_topE (e' := n) ((mX_n _ _ (by decide)).trans hn) ?_
  refine j_ixor dX11_dancesAs_72 ?_
  refine j_ireturn dX11_dancesAs_73 rfl ?_
  refine ⟨rfl, tw_eq (congrArg (mX X) ?_) (congrArg (va_up A 99) ?_) rfl⟩
  · first | rfl | (simp only [seV, dnV, tlV, seB, tlB, List.length_cons, List.length_append, List.length_nil]; simp; omega)
  · first | rfl | exact (noteT_app (seB ks n x).2 (r + 1) _ (dnV ks n (nI 2) ks).2).symm | (simp [seV, dnV, tlV, seB, tlB, noteT, noteT_app, List.length_cons]; done)

set_option maxHeartbeats 200000 in
set_option maxRecDepth 100000 in
theorem m_dn_6 {x : Int32} (hks : ks < 8) (h40 : X 76 40 = nI ks) (hn : X 76 41 = n) (hr : r < 2 ^ 29) : jMet (d + 1) yX11_dancesAs cX11_dancesAs 4 (some .int) 0 0 [.ref 76, .int (nI 6), .int x] (tw (mX X (r)) (va_up A 99 (tr)) L) (jRi (dnV ks n x 6).1 (tw (mX X (r + (dnV ks n x 6).2.length)) (va_up A 99 (noteT r tr (dnV ks n x 6).2)) L)) := by
  refine jMet_of (by decide) (Nat.le_of_ble_eq_true rfl) none (Or.inl rfl) ?_
  show jWP none RX11 cX11_dancesAs 4 (some .int) (d + 1) 0 0 0 [some (.ref 76), some (.int (nI 6)), some (.int x), none] [] (tw (mX X (r)) (va_up A 99 (tr)) L) (jRi (dnV ks n x 6).1 (tw (mX X (r + (dnV ks n x 6).2.length)) (va_up A 99 (noteT r tr (dnV ks n x 6).2)) L))
  refine j_iload_n dX11_dancesAs_0 rfl rfl ?_
  refine j_iconst (v := nI 3) dX11_dancesAs_1 rfl ?_
  refine j_icmp_eq (tgt := 10) dX11_dancesAs_2 (by decide) (fun h => absurd h (by decide)) (fun _ => ?_)
  refine j_iload_n dX11_dancesAs_5 rfl rfl ?_
  refine j_iconst (v := nI 5) dX11_dancesAs_6 rfl ?_
  refine j_icmp_ne (tgt := 25) dX11_dancesAs_7 (by decide) (fun _ => ?_) (fun h => absurd h (by decide))
  refine j_iload_n dX11_dancesAs_25 rfl rfl ?_
  refine j_iconst (v := nI 4) dX11_dancesAs_26 rfl ?_
  refine j_icmp_eq (tgt := 36) dX11_dancesAs_27 (by decide) (fun h => absurd h (by decide)) (fun _ => ?_)
  refine j_iload_n dX11_dancesAs_30 rfl rfl ?_
  refine j_bipush (v := nI 7) dX11_dancesAs_31 rfl ?_
  refine j_icmp_ne (tgt := 61) dX11_dancesAs_33 (by decide) (fun _ => ?_) (fun h => absurd h (by decide))
  refine j_aload_n dX11_dancesAs_61 rfl rfl ?_
  refine j_bipush (v := nI 11) dX11_dancesAs_62 rfl ?_
  refine j_callVv [.int _] [] dX11_dancesAs_64 jlk_X11_341 rfl rfl rfl rfl (Nat.le_of_ble_eq_true rfl) (m_begins (r := r) (tr := tr) (by omega)) ?_
  refine j_iload_n dX11_dancesAs_67 rfl rfl ?_
  refine j_aload_n dX11_dancesAs_68 rfl rfl ?_
  refine t_getI dX11_dancesAs_69 jfl_X11_348 (fun _ _ _ => rfl) (fun _ => rfl) ?_
  refine j_topE (e' := n) ((mX_n _ _ (by decide)).trans hn) ?_
  refine j_ixor dX11_dancesAs_72 ?_
  refine j_ireturn dX11_dancesAs_73 rfl ?_
  refine ⟨rfl, tw_eq (congrArg (mX X) ?_) (congrArg (va_up A 99) ?_) rfl⟩
  · first | rfl | (simp only [seV, dnV, tlV, seB, tlB, List.length_cons, List.length_append, List.length_nil]; simp; omega)
  · first | rfl | exact (noteT_app (seB ks n x).2 (r + 1) _ (dnV ks n (nI 2) ks).2).symm | (simp [seV, dnV, tlV, seB, tlB, noteT, noteT_app, List.length_cons]; done)

set_option maxHeartbeats 200000 in
set_option maxRecDepth 100000 in
theorem m_dn_3 {x : Int32} (hks : ks < 8) (h40 : X 76 40 = nI ks) (hn : X 76 41 = n) (hr : r < 2 ^ 28) : jMet (d + 2) yX11_dancesAs cX11_dancesAs 4 (some .int) 0 0 [.ref 76, .int (nI 3), .int x] (tw (mX X (r)) (va_up A 99 (tr)) L) (jRi (dnV ks n x 3).1 (tw (mX X (r + (dnV ks n x 3).2.length)) (va_up A 99 (noteT r tr (dnV ks n x 3).2)) L)) := by
  refine jMet_of (by decide) (Nat.le_of_ble_eq_true rfl) none (Or.inl rfl) ?_
  show jWP none RX11 cX11_dancesAs 4 (some .int) (d + 2) 0 0 0 [some (.ref 76), some (.int (nI 3)), some (.int x), none] [] (tw (mX X (r)) (va_up A 99 (tr)) L) (jRi (dnV ks n x 3).1 (tw (mX X (r + (dnV ks n x 3).2.length)) (va_up A 99 (noteT r tr (dnV ks n x 3).2)) L))
  refine j_iload_n dX11_dancesAs_0 rfl rfl ?_
  refine j_iconst (v := nI 3) dX11_dancesAs_1 rfl ?_
  refine j_icmp_eq (tgt := 10) dX11_dancesAs_2 (by decide) (fun _ => ?_) (fun h => absurd (by decide) h)
  refine j_aload_n dX11_dancesAs_10 rfl rfl ?_
  refine j_bipush (v := nI 40) dX11_dancesAs_11 rfl ?_
  refine j_callVv [.int _] [] dX11_dancesAs_13 jlk_X11_341 rfl rfl rfl rfl (Nat.le_of_ble_eq_true rfl) (m_begins (r := r) (tr := tr) (by omega)) ?_
  refine j_aload_n dX11_dancesAs_16 rfl rfl ?_
  refine j_iconst (v := nI 2) dX11_dancesAs_17 rfl ?_
  refine j_iload_n dX11_dancesAs_18 rfl rfl ?_
  refine j_callVi [.int _, .int _] [] dX11_dancesAs_19 jlk_X11_357 rfl rfl rfl rfl (Nat.le_of_ble_eq_true rfl) (m_dn_2 (r := r + 1) (tr := noteT (r) (tr) [nI 40]) hks h40 hn (by omega)) ?_
  refine j_iconst (v := nI 3) dX11_dancesAs_22 rfl ?_
  refine j_imul dX11_dancesAs_23 ?_
  refine j_ireturn dX11_dancesAs_24 rfl ?_
  refine ⟨rfl, tw_eq (congrArg (mX X) ?_) (congrArg (va_up A 99) ?_) rfl⟩
  · first | rfl | (simp only [seV, dnV, tlV, seB, tlB, List.length_cons, List.length_append, List.length_nil]; simp; omega)
  · first | rfl | exact (noteT_app (seB ks n x).2 (r + 1) _ (dnV ks n (nI 2) ks).2).symm | (simp [seV, dnV, tlV, seB, tlB, noteT, noteT_app, List.length_cons]; done)

set_option maxHeartbeats 200000 in
set_option maxRecDepth 100000 in
theorem m_dn_5 {x : Int32} (hks : ks < 8) (h40 : X 76 40 = nI ks) (hn : X 76 41 = n) (hr : r < 2 ^ 28) : jMet (d + 2) yX11_dancesAs cX11_dancesAs 4 (some .int) 0 0 [.ref 76, .int (nI 5), .int x] (tw (mX X (r)) (va_up A 99 (tr)) L) (jRi (dnV ks n x 5).1 (tw (mX X (r + (dnV ks n x 5).2.length)) (va_up A 99 (noteT r tr (dnV ks n x 5).2)) L)) := by
  refine jMet_of (by decide) (Nat.le_of_ble_eq_true rfl) none (Or.inl rfl) ?_
  show jWP none RX11 cX11_dancesAs 4 (some .int) (d + 2) 0 0 0 [some (.ref 76), some (.int (nI 5)), some (.int x), none] [] (tw (mX X (r)) (va_up A 99 (tr)) L) (jRi (dnV ks n x 5).1 (tw (mX X (r + (dnV ks n x 5).2.length)) (va_up A 99 (noteT r tr (dnV ks n x 5).2)) L))
  refine j_iload_n dX11_dancesAs_0 rfl rfl ?_
  refine j_iconst (v := nI 3) dX11_dancesAs_1 rfl ?_
  refine j_icmp_eq (tgt := 10) dX11_dancesAs_2 (by decide) (fun h => absurd h (by decide)) (fun _ => ?_)
  refine j_iload_n dX11_dancesAs_5 rfl rfl ?_
  refine j_iconst (v := nI 5) dX11_dancesAs_6 rfl ?_
  refine j_icmp_ne (tgt := 25) dX11_dancesAs_7 (by decide) (fun h => absurd (by decide) h) (fun _ => ?_)
  refine j_aload_n dX11_dancesAs_10 rfl rfl ?_
  refine j_bipush (v := nI 40) dX11_dancesAs_11 rfl ?_
  refine j_callVv [.int _] [] dX11_dancesAs_13 jlk_X11_341 rfl rfl rfl rfl (Nat.le_of_ble_eq_true rfl) (m_begins (r := r) (tr := tr) (by omega)) ?_
  refine j_aload_n dX11_dancesAs_16 rfl rfl ?_
  refine j_iconst (v := nI 2) dX11_dancesAs_17 rfl ?_
  refine j_iload_n dX11_dancesAs_18 rfl rfl ?_
  refine j_callVi [.int _, .int _] [] dX11_dancesAs_19 jlk_X11_357 rfl rfl rfl rfl (Nat.le_of_ble_eq_true rfl) (m_dn_2 (r := r + 1) (tr := noteT (r) (tr) [nI 40]) hks h40 hn (by omega)) ?_
  refine j_iconst (v := nI 3) dX11_dancesAs_22 rfl ?_
  refine j_imul dX11_dancesAs_23 ?_
  refine j_ireturn dX11_dancesAs_24 rfl ?_
  refine ⟨rfl, tw_eq (congrArg (mX X) ?_) (congrArg (va_up A 99) ?_) rfl⟩
  · first | rfl | (simp only [seV, dnV, tlV, seB, tlB, List.length_cons, List.length_append, List.length_nil]; simp; omega)
  · first | rfl | exact (noteT_app (seB ks n x).2 (r + 1) _ (dnV ks n (nI 2) ks).2).symm | (simp [seV, dnV, tlV, seB, tlB, noteT, noteT_app, List.length_cons]; done)

set_option maxHeartbeats 200000 in
set_option maxRecDepth 100000 in
theorem m_dn_4 {x : Int32} (hks : ks < 8) (h40 : X 76 40 = nI ks) (hn : X 76 41 = n) (hr : r < 2 ^ 27) : jMet (d + 3) yX11_dancesAs cX11_dancesAs 4 (some .int) 0 0 [.ref 76, .int (nI 4), .int x] (tw (mX X (r)) (va_up A 99 (tr)) L) (jRi (dnV ks n x 4).1 (tw (mX X (r + (dnV ks n x 4).2.length)) (va_up A 99 (noteT r tr (dnV ks n x 4).2)) L)) := by
  refine jMet_of (by decide) (Nat.le_of_ble_eq_true rfl) none (Or.inl rfl) ?_
  show jWP none RX11 cX11_dancesAs 4 (some .int) (d + 3) 0 0 0 [some (.ref 76), some (.int (nI 4)), some (.int x), none] [] (tw (mX X (r)) (va_up A 99 (tr)) L) (jRi (dnV ks n x 4).1 (tw (mX X (r + (dnV ks n x 4).2.length)) (va_up A 99 (noteT r tr (dnV ks n x 4).2)) L))
  refine j_iload_n dX11_dancesAs_0 rfl rfl ?_
  refine j_iconst (v := nI 3) dX11_dancesAs_1 rfl ?_
  refine j_icmp_eq (tgt := 10) dX11_dancesAs_2 (by decide) (fun h => absurd h (by decide)) (fun _ => ?_)
  refine j_iload_n dX11_dancesAs_5 rfl rfl ?_
  refine j_iconst (v := nI 5) dX11_dancesAs_6 rfl ?_
  refine j_icmp_ne (tgt := 25) dX11_dancesAs_7 (by decide) (fun _ => ?_) (fun h => absurd h (by decide))
  refine j_iload_n dX11_dancesAs_25 rfl rfl ?_
  refine j_iconst (v := nI 4) dX11_dancesAs_26 rfl ?_
  refine j_icmp_eq (tgt := 36) dX11_dancesAs_27 (by decide) (fun _ => ?_) (fun h => absurd (by decide) h)
  refine j_aload_n dX11_dancesAs_36 rfl rfl ?_
  refine j_bipush (v := nI 50) dX11_dancesAs_37 rfl ?_
  refine j_callVv [.int _] [] dX11_dancesAs_39 jlk_X11_341 rfl rfl rfl rfl (Nat.le_of_ble_eq_true rfl) (m_begins (r := r) (tr := tr) (by omega)) ?_
  refine j_aload_n dX11_dancesAs_42 rfl rfl ?_
  refine j_iconst (v := nI 1) dX11_dancesAs_43 rfl ?_
  refine j_iload_n dX11_dancesAs_44 rfl rfl ?_
  refine j_callVi [.int _, .int _] [] dX11_dancesAs_45 jlk_X11_357 rfl rfl rfl rfl (Nat.le_of_ble_eq_true rfl) (m_dn_1 (r := r + 1) (tr := noteT (r) (tr) [nI 50]) hks h40 hn (by omega)) ?_
  refine j_istore_n (lv' := [some (.ref 76), some (.int _), some (.int _), some (.int _)]) dX11_dancesAs_48 rfl (by decide) rfl ?_
  refine j_iload_n dX11_dancesAs_49 rfl rfl ?_
  refine j_aload_n dX11_dancesAs_50 rfl rfl ?_
  refine j_aload_n dX11_dancesAs_51 rfl rfl ?_
  refine t_getI dX11_dancesAs_52 jfl_X11_354 (fun _ _ _ => rfl) (fun _ => rfl) ?_
  refine j_topE (e' := nI ks) ((mX_n _ _ (by decide)).trans h40) ?_
  refine j_iconst (v := nI 2) dX11_dancesAs_55 rfl ?_
  refine j_callVi [.int _, .int _] [.int _] dX11_dancesAs_56 jlk_X11_345 rfl rfl rfl rfl (Nat.le_of_ble_eq_true rfl) (m_writes (r := r + 1 + 1) (tr := noteT (r + 1) (noteT (r) (tr) [nI 50]) [nI 11]) hn (by omega) hks) ?_
  refine j_isub dX11_dancesAs_59 ?_
  refine j_ireturn dX11_dancesAs_60 rfl ?_
  refine ⟨rfl, tw_eq (congrArg (mX X) ?_) (congrArg (va_up A 99) ?_) rfl⟩
  · first | rfl | (simp only [seV, dnV, tlV, seB, tlB, List.length_cons, List.length_append, List.length_nil]; simp; omega)
  · first | rfl | exact (noteT_app (seB ks n x).2 (r + 1) _ (dnV ks n (nI 2) ks).2).symm | (simp [seV, dnV, tlV, seB, tlB, noteT, noteT_app, List.length_cons]; done)

set_option maxHeartbeats 200000 in
set_option maxRecDepth 100000 in
theorem m_dn_7 {x : Int32} (hks : ks < 8) (h40 : X 76 40 = nI ks) (hn : X 76 41 = n) (hr : r < 2 ^ 27) : jMet (d + 3) yX11_dancesAs cX11_dancesAs 4 (some .int) 0 0 [.ref 76, .int (nI 7), .int x] (tw (mX X (r)) (va_up A 99 (tr)) L) (jRi (dnV ks n x 7).1 (tw (mX X (r + (dnV ks n x 7).2.length)) (va_up A 99 (noteT r tr (dnV ks n x 7).2)) L)) := by
  refine jMet_of (by decide) (Nat.le_of_ble_eq_true rfl) none (Or.inl rfl) ?_
  show jWP none RX11 cX11_dancesAs 4 (some .int) (d + 3) 0 0 0 [some (.ref 76), some (.int (nI 7)), some (.int x), none] [] (tw (mX X (r)) (va_up A 99 (tr)) L) (jRi (dnV ks n x 7).1 (tw (mX X (r + (dnV ks n x 7).2.length)) (va_up A 99 (noteT r tr (dnV ks n x 7).2)) L))
  refine j_iload_n dX11_dancesAs_0 rfl rfl ?_
  refine j_iconst (v := nI 3) dX11_dancesAs_1 rfl ?_
  refine j_icmp_eq (tgt := 10) dX11_dancesAs_2 (by decide) (fun h => absurd h (by decide)) (fun _ => ?_)
  refine j_iload_n dX11_dancesAs_5 rfl rfl ?_
  refine j_iconst (v := nI 5) dX11_dancesAs_6 rfl ?_
  refine j_icmp_ne (tgt := 25) dX11_dancesAs_7 (by decide) (fun _ => ?_) (fun h => absurd h (by decide))
  refine j_iload_n dX11_dancesAs_25 rfl rfl ?_
  refine j_iconst (v := nI 4) dX11_dancesAs_26 rfl ?_
  refine j_icmp_eq (tgt := 36) dX11_dancesAs_27 (by decide) (fun h => absurd h (by decide)) (fun _ => ?_)
  refine j_iload_n dX11_dancesAs_30 rfl rfl ?_
  refine j_bipush (v := nI 7) dX11_dancesAs_31 rfl ?_
  refine j_icmp_ne (tgt := 61) dX11_dancesAs_33 (by decide) (fun h => absurd (by decide) h) (fun _ => ?_)
  refine j_aload_n dX11_dancesAs_36 rfl rfl ?_
  refine j_bipush (v := nI 50) dX11_dancesAs_37 rfl ?_
  refine j_callVv [.int _] [] dX11_dancesAs_39 jlk_X11_341 rfl rfl rfl rfl (Nat.le_of_ble_eq_true rfl) (m_begins (r := r) (tr := tr) (by omega)) ?_
  refine j_aload_n dX11_dancesAs_42 rfl rfl ?_
  refine j_iconst (v := nI 1) dX11_dancesAs_43 rfl ?_
  refine j_iload_n dX11_dancesAs_44 rfl rfl ?_
  refine j_callVi [.int _, .int _] [] dX11_dancesAs_45 jlk_X11_357 rfl rfl rfl rfl (Nat.le_of_ble_eq_true rfl) (m_dn_1 (r := r + 1) (tr := noteT (r) (tr) [nI 50]) hks h40 hn (by omega)) ?_
  refine j_istore_n (lv' := [some (.ref 76), some (.int _), some (.int _), some (.int _)]) dX11_dancesAs_48 rfl (by decide) rfl ?_
  refine j_iload_n dX11_dancesAs_49 rfl rfl ?_
  refine j_aload_n dX11_dancesAs_50 rfl rfl ?_
  refine j_aload_n dX11_dancesAs_51 rfl rfl ?_
  refine t_getI dX11_dancesAs_52 jfl_X11_354 (fun _ _ _ => rfl) (fun _ => rfl) ?_
  refine j_topE (e' := nI ks) ((mX_n _ _ (by decide)).trans h40) ?_
  refine j_iconst (v := nI 2) dX11_dancesAs_55 rfl ?_
  refine j_callVi [.int _, .int _] [.int _] dX11_dancesAs_56 jlk_X11_345 rfl rfl rfl rfl (Nat.le_of_ble_eq_true rfl) (m_writes (r := r + 1 + 1) (tr := noteT (r + 1) (noteT (r) (tr) [nI 50]) [nI 11]) hn (by omega) hks) ?_
  refine j_isub dX11_dancesAs_59 ?_
  refine j_ireturn dX11_dancesAs_60 rfl ?_
  refine ⟨rfl, tw_eq (congrArg (mX X) ?_) (congrArg (va_up A 99) ?_) rfl⟩
  · first | rfl | (simp only [seV, dnV, tlV, seB, tlB, List.length_cons, List.length_append, List.length_nil]; simp; omega)
  · first | rfl | exact (noteT_app (seB ks n x).2 (r + 1) _ (dnV ks n (nI 2) ks).2).symm | (simp [seV, dnV, tlV, seB, tlB, noteT, noteT_app, List.length_cons]; done)

theorem m_dances {x : Int32} (hks : ks < 8) (h40 : X 76 40 = nI ks) (hn : X 76 41 = n) (hr : r < 2 ^ 27) {k : Nat} (hk : k < 8) : jMet (d + 3) yX11_dancesAs cX11_dancesAs 4 (some .int) 0 0 [.ref 76, .int (nI k), .int x] (tw (mX X (r)) (va_up A 99 (tr)) L) (jRi (dnV ks n x k).1 (tw (mX X (r + (dnV ks n x k).2.length)) (va_up A 99 (noteT r tr (dnV ks n x k).2)) L)) := by
  rcases (show k = 0 ∨ k = 1 ∨ k = 2 ∨ k = 3 ∨ k = 4 ∨ k = 5 ∨ k = 6 ∨ k = 7 by omega) with rfl | rfl | rfl | rfl | rfl | rfl | rfl | rfl
  · exact m_dn_0 (d := d + 2) hks h40 hn (by omega)
  · exact m_dn_1 (d := d + 2) hks h40 hn (by omega)
  · exact m_dn_2 (d := d + 2) hks h40 hn (by omega)
  · exact m_dn_3 (d := d + 1) hks h40 hn (by omega)
  · exact m_dn_4 (d := d + 0) hks h40 hn (by omega)
  · exact m_dn_5 (d := d + 1) hks h40 hn (by omega)
  · exact m_dn_6 (d := d + 2) hks h40 hn (by omega)
  · exact m_dn_7 (d := d + 0) hks h40 hn (by omega)

theorem dnV_len (ks : Nat) (n x : Int32) (k : Nat) : (dnV ks n x k).2.length ≤ 4 := by
  have h := wrV_len n (nI 2) ks
  unfold dnV
  split
  · show 2 ≤ 4; decide
  · split
    · show (wrV n (nI 2) ks).2.length + 1 + 1 ≤ 4; omega
    · show 1 ≤ 4; decide
theorem seB_len (ks : Nat) (n x : Int32) : (seB ks n x).2.length ≤ 3 := by
  have h := wrV_len n x ks
  show (wrV n x ks).2.length + 1 ≤ 3
  omega

set_option maxHeartbeats 200000 in
set_option maxRecDepth 100000 in
theorem m_se_0 {x : Int32} (hks : ks < 8) (h40 : X 76 40 = nI ks) (hn : X 76 41 = n) (hr : r < 2 ^ 26) : jMet (d + 3) yX11_sealsAs cX11_sealsAs 4 (some .int) 0 0 [.ref 76, .int (nI 0), .int x] (tw (mX X (r)) (va_up A 99 (tr)) L) (jRi (seV ks n x 0).1 (tw (mX X (r + (seV ks n x 0).2.length)) (va_up A 99 (noteT r tr (seV ks n x 0).2)) L)) := by
  refine jMet_of (by decide) (Nat.le_of_ble_eq_true rfl) none (Or.inl rfl) ?_
  show jWP none RX11 cX11_sealsAs 4 (some .int) (d + 3) 0 0 0 [some (.ref 76), some (.int (nI 0)), some (.int x), none] [] (tw (mX X (r)) (va_up A 99 (tr)) L) (jRi (seV ks n x 0).1 (tw (mX X (r + (seV ks n x 0).2.length)) (va_up A 99 (noteT r tr (seV ks n x 0).2)) L))
  refine j_iload_n dX11_sealsAs_0 rfl rfl ?_
  refine j_iconst (v := nI 3) dX11_sealsAs_1 rfl ?_
  refine j_icmp_eq (tgt := 10) dX11_sealsAs_2 (by decide) (fun h => absurd h (by decide)) (fun _ => ?_)
  refine j_iload_n dX11_sealsAs_5 rfl rfl ?_
  refine j_iconst (v := nI 5) dX11_sealsAs_6 rfl ?_
  refine j_icmp_ne (tgt := 25) dX11_sealsAs_7 (by decide) (fun _ => ?_) (fun h => absurd h (by decide))
  refine j_iload_n dX11_sealsAs_25 rfl rfl ?_
  refine j_iconst (v := nI 2) dX11_sealsAs_26 rfl ?_
  refine j_icmp_ne (tgt := 44) dX11_sealsAs_27 (by decide) (fun _ => ?_) (fun h => absurd h (by decide))
  refine j_iload_n dX11_sealsAs_44 rfl rfl ?_
  refine j_bipush (v := nI 7) dX11_sealsAs_45 rfl ?_
  refine j_icmp_ne (tgt := 75) dX11_sealsAs_47 (by decide) (fun _ => ?_) (fun h => absurd h (by decide))
  refine j_aload_n dX11_sealsAs_75 rfl rfl ?_
  refine j_bipush (v := nI 10) dX11_sealsAs_76 rfl ?_
  refine j_callVv [.int _] [] dX11_sealsAs_78 jlk_X11_341 rfl rfl rfl rfl (Nat.le_of_ble_eq_true rfl) (m_begins (r := r) (tr := tr) (by omega)) ?_
  refine j_aload_n dX11_sealsAs_81 rfl rfl ?_
  refine j_aload_n dX11_sealsAs_82 rfl rfl ?_
  refine t_getI dX11_sealsAs_83 jfl_X11_354 (fun _ _ _ => rfl) (fun _ => rfl) ?_
  refine j_topE (e' := nI ks) ((mX_n _ _ (by decide)).trans h40) ?_
  refine j_iload_n dX11_sealsAs_86 rfl rfl ?_
  refine j_callVi [.int _, .int _] [] dX11_sealsAs_87 jlk_X11_345 rfl rfl rfl rfl (Nat.le_of_ble_eq_true rfl) (m_writes (r := r + 1) (tr := noteT (r) (tr) [nI 10]) hn (by omega) hks) ?_
  refine j_iconst (v := nI 2) dX11_sealsAs_90 rfl ?_
  refine j_imul dX11_sealsAs_91 ?_
  refine j_ireturn dX11_sealsAs_92 rfl ?_
  refine ⟨rfl, tw_eq (congrArg (mX X) ?_) (congrArg (va_up A 99) ?_) rfl⟩
  · first | rfl | (simp only [seV, dnV, tlV, seB, tlB, List.length_cons, List.length_append, List.length_nil]; simp; omega)
  · first | rfl | exact (noteT_app (seB ks n x).2 (r + 1) _ (dnV ks n (nI 2) ks).2).symm | (simp [seV, dnV, tlV, seB, tlB, noteT, noteT_app, List.length_cons]; done)

set_option maxHeartbeats 200000 in
set_option maxRecDepth 100000 in
theorem m_se_1 {x : Int32} (hks : ks < 8) (h40 : X 76 40 = nI ks) (hn : X 76 41 = n) (hr : r < 2 ^ 26) : jMet (d + 3) yX11_sealsAs cX11_sealsAs 4 (some .int) 0 0 [.ref 76, .int (nI 1), .int x] (tw (mX X (r)) (va_up A 99 (tr)) L) (jRi (seV ks n x 1).1 (tw (mX X (r + (seV ks n x 1).2.length)) (va_up A 99 (noteT r tr (seV ks n x 1).2)) L)) := by
  refine jMet_of (by decide) (Nat.le_of_ble_eq_true rfl) none (Or.inl rfl) ?_
  show jWP none RX11 cX11_sealsAs 4 (some .int) (d + 3) 0 0 0 [some (.ref 76), some (.int (nI 1)), some (.int x), none] [] (tw (mX X (r)) (va_up A 99 (tr)) L) (jRi (seV ks n x 1).1 (tw (mX X (r + (seV ks n x 1).2.length)) (va_up A 99 (noteT r tr (seV ks n x 1).2)) L))
  refine j_iload_n dX11_sealsAs_0 rfl rfl ?_
  refine j_iconst (v := nI 3) dX11_sealsAs_1 rfl ?_
  refine j_icmp_eq (tgt := 10) dX11_sealsAs_2 (by decide) (fun h => absurd h (by decide)) (fun _ => ?_)
  refine j_iload_n dX11_sealsAs_5 rfl rfl ?_
  refine j_iconst (v := nI 5) dX11_sealsAs_6 rfl ?_
  refine j_icmp_ne (tgt := 25) dX11_sealsAs_7 (by decide) (fun _ => ?_) (fun h => absurd h (by decide))
  refine j_iload_n dX11_sealsAs_25 rfl rfl ?_
  refine j_iconst (v := nI 2) dX11_sealsAs_26 rfl ?_
  refine j_icmp_ne (tgt := 44) dX11_sealsAs_27 (by decide) (fun _ => ?_) (fun h => absurd h (by decide))
  refine j_iload_n dX11_sealsAs_44 rfl rfl ?_
  refine j_bipush (v := nI 7) dX11_sealsAs_45 rfl ?_
  refine j_icmp_ne (tgt := 75) dX11_sealsAs_47 (by decide) (fun _ => ?_) (fun h => absurd h (by decide))
  refine j_aload_n dX11_sealsAs_75 rfl rfl ?_
  refine j_bipush (v := nI 10) dX11_sealsAs_76 rfl ?_
  refine j_callVv [.int _] [] dX11_sealsAs_78 jlk_X11_341 rfl rfl rfl rfl (Nat.le_of_ble_eq_true rfl) (m_begins (r := r) (tr := tr) (by omega)) ?_
  refine j_aload_n dX11_sealsAs_81 rfl rfl ?_
  refine j_aload_n dX11_sealsAs_82 rfl rfl ?_
  refine t_getI dX11_sealsAs_83 jfl_X11_354 (fun _ _ _ => rfl) (fun _ => rfl) ?_
  refine j_topE (e' := nI ks) ((mX_n _ _ (by decide)).trans h40) ?_
  refine j_iload_n dX11_sealsAs_86 rfl rfl ?_
  refine j_callVi [.int _, .int _] [] dX11_sealsAs_87 jlk_X11_345 rfl rfl rfl rfl (Nat.le_of_ble_eq_true rfl) (m_writes (r := r + 1) (tr := noteT (r) (tr) [nI 10]) hn (by omega) hks) ?_
  refine j_iconst (v := nI 2) dX11_sealsAs_90 rfl ?_
  refine j_imul dX11_sealsAs_91 ?_
  refine j_ireturn dX11_sealsAs_92 rfl ?_
  refine ⟨rfl, tw_eq (congrArg (mX X) ?_) (congrArg (va_up A 99) ?_) rfl⟩
  · first | rfl | (simp only [seV, dnV, tlV, seB, tlB, List.length_cons, List.length_append, List.length_nil]; simp; omega)
  · first | rfl | exact (noteT_app (seB ks n x).2 (r + 1) _ (dnV ks n (nI 2) ks).2).symm | (simp [seV, dnV, tlV, seB, tlB, noteT, noteT_app, List.length_cons]; done)

set_option maxHeartbeats 200000 in
set_option maxRecDepth 100000 in
theorem m_se_4 {x : Int32} (hks : ks < 8) (h40 : X 76 40 = nI ks) (hn : X 76 41 = n) (hr : r < 2 ^ 26) : jMet (d + 3) yX11_sealsAs cX11_sealsAs 4 (some .int) 0 0 [.ref 76, .int (nI 4), .int x] (tw (mX X (r)) (va_up A 99 (tr)) L) (jRi (seV ks n x 4).1 (tw (mX X (r + (seV ks n x 4).2.length)) (va_up A 99 (noteT r tr (seV ks n x 4).2)) L)) := by
  refine jMet_of (by decide) (Nat.le_of_ble_eq_true rfl) none (Or.inl rfl) ?_
  show jWP none RX11 cX11_sealsAs 4 (some .int) (d + 3) 0 0 0 [some (.ref 76), some (.int (nI 4)), some (.int x), none] [] (tw (mX X (r)) (va_up A 99 (tr)) L) (jRi (seV ks n x 4).1 (tw (mX X (r + (seV ks n x 4).2.length)) (va_up A 99 (noteT r tr (seV ks n x 4).2)) L))
  refine j_iload_n dX11_sealsAs_0 rfl rfl ?_
  refine j_iconst (v := nI 3) dX11_sealsAs_1 rfl ?_
  refine j_icmp_eq (tgt := 10) dX11_sealsAs_2 (by decide) (fun h => absurd h (by decide)) (fun _ => ?_)
  refine j_iload_n dX11_sealsAs_5 rfl rfl ?_
  refine j_iconst (v := nI 5) dX11_sealsAs_6 rfl ?_
  refine j_icmp_ne (tgt := 25) dX11_sealsAs_7 (by decide) (fun _ => ?_) (fun h => absurd h (by decide))
  refine j_iload_n dX11_sealsAs_25 rfl rfl ?_
  refine j_iconst (v := nI 2) dX11_sealsAs_26 rfl ?_
  refine j_icmp_ne (tgt := 44) dX11_sealsAs_27 (by decide) (fun _ => ?_) (fun h => absurd h (by decide))
  refine j_iload_n dX11_sealsAs_44 rfl rfl ?_
  refine j_bipush (v := nI 7) dX11_sealsAs_45 rfl ?_
  refine j_icmp_ne (tgt := 75) dX11_sealsAs_47 (by decide) (fun _ => ?_) (fun h => absurd h (by decide))
  refine j_aload_n dX11_sealsAs_75 rfl rfl ?_
  refine j_bipush (v := nI 10) dX11_sealsAs_76 rfl ?_
  refine j_callVv [.int _] [] dX11_sealsAs_78 jlk_X11_341 rfl rfl rfl rfl (Nat.le_of_ble_eq_true rfl) (m_begins (r := r) (tr := tr) (by omega)) ?_
  refine j_aload_n dX11_sealsAs_81 rfl rfl ?_
  refine j_aload_n dX11_sealsAs_82 rfl rfl ?_
  refine t_getI dX11_sealsAs_83 jfl_X11_354 (fun _ _ _ => rfl) (fun _ => rfl) ?_
  refine j_topE (e' := nI ks) ((mX_n _ _ (by decide)).trans h40) ?_
  refine j_iload_n dX11_sealsAs_86 rfl rfl ?_
  refine j_callVi [.int _, .int _] [] dX11_sealsAs_87 jlk_X11_345 rfl rfl rfl rfl (Nat.le_of_ble_eq_true rfl) (m_writes (r := r + 1) (tr := noteT (r) (tr) [nI 10]) hn (by omega) hks) ?_
  refine j_iconst (v := nI 2) dX11_sealsAs_90 rfl ?_
  refine j_imul dX11_sealsAs_91 ?_
  refine j_ireturn dX11_sealsAs_92 rfl ?_
  refine ⟨rfl, tw_eq (congrArg (mX X) ?_) (congrArg (va_up A 99) ?_) rfl⟩
  · first | rfl | (simp only [seV, dnV, tlV, seB, tlB, List.length_cons, List.length_append, List.length_nil]; simp; omega)
  · first | rfl | exact (noteT_app (seB ks n x).2 (r + 1) _ (dnV ks n (nI 2) ks).2).symm | (simp [seV, dnV, tlV, seB, tlB, noteT, noteT_app, List.length_cons]; done)

set_option maxHeartbeats 200000 in
set_option maxRecDepth 100000 in
theorem m_se_6 {x : Int32} (hks : ks < 8) (h40 : X 76 40 = nI ks) (hn : X 76 41 = n) (hr : r < 2 ^ 26) : jMet (d + 3) yX11_sealsAs cX11_sealsAs 4 (some .int) 0 0 [.ref 76, .int (nI 6), .int x] (tw (mX X (r)) (va_up A 99 (tr)) L) (jRi (seV ks n x 6).1 (tw (mX X (r + (seV ks n x 6).2.length)) (va_up A 99 (noteT r tr (seV ks n x 6).2)) L)) := by
  refine jMet_of (by decide) (Nat.le_of_ble_eq_true rfl) none (Or.inl rfl) ?_
  show jWP none RX11 cX11_sealsAs 4 (some .int) (d + 3) 0 0 0 [some (.ref 76), some (.int (nI 6)), some (.int x), none] [] (tw (mX X (r)) (va_up A 99 (tr)) L) (jRi (seV ks n x 6).1 (tw (mX X (r + (seV ks n x 6).2.length)) (va_up A 99 (noteT r tr (seV ks n x 6).2)) L))
  refine j_iload_n dX11_sealsAs_0 rfl rfl ?_
  refine j_iconst (v := nI 3) dX11_sealsAs_1 rfl ?_
  refine j_icmp_eq (tgt := 10) dX11_sealsAs_2 (by decide) (fun h => absurd h (by decide)) (fun _ => ?_)
  refine j_iload_n dX11_sealsAs_5 rfl rfl ?_
  refine j_iconst (v := nI 5) dX11_sealsAs_6 rfl ?_
  refine j_icmp_ne (tgt := 25) dX11_sealsAs_7 (by decide) (fun _ => ?_) (fun h => absurd h (by decide))
  refine j_iload_n dX11_sealsAs_25 rfl rfl ?_
  refine j_iconst (v := nI 2) dX11_sealsAs_26 rfl ?_
  refine j_icmp_ne (tgt := 44) dX11_sealsAs_27 (by decide) (fun _ => ?_) (fun h => absurd h (by decide))
  refine j_iload_n dX11_sealsAs_44 rfl rfl ?_
  refine j_bipush (v := nI 7) dX11_sealsAs_45 rfl ?_
  refine j_icmp_ne (tgt := 75) dX11_sealsAs_47 (by decide) (fun _ => ?_) (fun h => absurd h (by decide))
  refine j_aload_n dX11_sealsAs_75 rfl rfl ?_
  refine j_bipush (v := nI 10) dX11_sealsAs_76 rfl ?_
  refine j_callVv [.int _] [] dX11_sealsAs_78 jlk_X11_341 rfl rfl rfl rfl (Nat.le_of_ble_eq_true rfl) (m_begins (r := r) (tr := tr) (by omega)) ?_
  refine j_aload_n dX11_sealsAs_81 rfl rfl ?_
  refine j_aload_n dX11_sealsAs_82 rfl rfl ?_
  refine t_getI dX11_sealsAs_83 jfl_X11_354 (fun _ _ _ => rfl) (fun _ => rfl) ?_
  refine j_topE (e' := nI ks) ((mX_n _ _ (by decide)).trans h40) ?_
  refine j_iload_n dX11_sealsAs_86 rfl rfl ?_
  refine j_callVi [.int _, .int _] [] dX11_sealsAs_87 jlk_X11_345 rfl rfl rfl rfl (Nat.le_of_ble_eq_true rfl) (m_writes (r := r + 1) (tr := noteT (r) (tr) [nI 10]) hn (by omega) hks) ?_
  refine j_iconst (v := nI 2) dX11_sealsAs_90 rfl ?_
  refine j_imul dX11_sealsAs_91 ?_
  refine j_ireturn dX11_sealsAs_92 rfl ?_
  refine ⟨rfl, tw_eq (congrArg (mX X) ?_) (congrArg (va_up A 99) ?_) rfl⟩
  · first | rfl | (simp only [seV, dnV, tlV, seB, tlB, List.length_cons, List.length_append, List.length_nil]; simp; omega)
  · first | rfl | exact (noteT_app (seB ks n x).2 (r + 1) _ (dnV ks n (nI 2) ks).2).symm | (simp [seV, dnV, tlV, seB, tlB, noteT, noteT_app, List.length_cons]; done)

set_option maxHeartbeats 200000 in
set_option maxRecDepth 100000 in
theorem m_se_2 {x : Int32} (hks : ks < 8) (h40 : X 76 40 = nI ks) (hn : X 76 41 = n) (hr : r < 2 ^ 25) : jMet (d + 4) yX11_sealsAs cX11_sealsAs 4 (some .int) 0 0 [.ref 76, .int (nI 2), .int x] (tw (mX X (r)) (va_up A 99 (tr)) L) (jRi (seV ks n x 2).1 (tw (mX X (r + (seV ks n x 2).2.length)) (va_up A 99 (noteT r tr (seV ks n x 2).2)) L)) := by
  refine jMet_of (by decide) (Nat.le_of_ble_eq_true rfl) none (Or.inl rfl) ?_
  show jWP none RX11 cX11_sealsAs 4 (some .int) (d + 4) 0 0 0 [some (.ref 76), some (.int (nI 2)), some (.int x), none] [] (tw (mX X (r)) (va_up A 99 (tr)) L) (jRi (seV ks n x 2).1 (tw (mX X (r + (seV ks n x 2).2.length)) (va_up A 99 (noteT r tr (seV ks n x 2).2)) L))
  refine j_iload_n dX11_sealsAs_0 rfl rfl ?_
  refine j_iconst (v := nI 3) dX11_sealsAs_1 rfl ?_
  refine j_icmp_eq (tgt := 10) dX11_sealsAs_2 (by decide) (fun h => absurd h (by decide)) (fun _ => ?_)
  refine j_iload_n dX11_sealsAs_5 rfl rfl ?_
  refine j_iconst (v := nI 5) dX11_sealsAs_6 rfl ?_
  refine j_icmp_ne (tgt := 25) dX11_sealsAs_7 (by decide) (fun _ => ?_) (fun h => absurd h (by decide))
  refine j_iload_n dX11_sealsAs_25 rfl rfl ?_
  refine j_iconst (v := nI 2) dX11_sealsAs_26 rfl ?_
  refine j_icmp_ne (tgt := 44) dX11_sealsAs_27 (by decide) (fun h => absurd (by decide) h) (fun _ => ?_)
  refine j_aload_n dX11_sealsAs_30 rfl rfl ?_
  refine j_bipush (v := nI 30) dX11_sealsAs_31 rfl ?_
  refine j_callVv [.int _] [] dX11_sealsAs_33 jlk_X11_341 rfl rfl rfl rfl (Nat.le_of_ble_eq_true rfl) (m_begins (r := r) (tr := tr) (by omega)) ?_
  refine j_aload_n dX11_sealsAs_36 rfl rfl ?_
  refine j_iconst (v := nI 0) dX11_sealsAs_37 rfl ?_
  refine j_iload_n dX11_sealsAs_38 rfl rfl ?_
  refine j_callVi [.int _, .int _] [] dX11_sealsAs_39 jlk_X11_351 rfl rfl rfl rfl (Nat.le_of_ble_eq_true rfl) (m_se_0 (r := r + 1) (tr := noteT (r) (tr) [nI 30]) hks h40 hn (by omega)) ?_
  refine j_ineg dX11_sealsAs_42 ?_
  refine j_ireturn dX11_sealsAs_43 rfl ?_
  refine ⟨rfl, tw_eq (congrArg (mX X) ?_) (congrArg (va_up A 99) ?_) rfl⟩
  · first | rfl | (simp only [seV, dnV, tlV, seB, tlB, List.length_cons, List.length_append, List.length_nil]; simp; omega)
  · first | rfl | exact (noteT_app (seB ks n x).2 (r + 1) _ (dnV ks n (nI 2) ks).2).symm | (simp [seV, dnV, tlV, seB, tlB, noteT, noteT_app, List.length_cons]; done)

set_option maxHeartbeats 200000 in
set_option maxRecDepth 100000 in
theorem m_se_3 {x : Int32} (hks : ks < 8) (h40 : X 76 40 = nI ks) (hn : X 76 41 = n) (hr : r < 2 ^ 24) : jMet (d + 5) yX11_sealsAs cX11_sealsAs 4 (some .int) 0 0 [.ref 76, .int (nI 3), .int x] (tw (mX X (r)) (va_up A 99 (tr)) L) (jRi (seV ks n x 3).1 (tw (mX X (r + (seV ks n x 3).2.length)) (va_up A 99 (noteT r tr (seV ks n x 3).2)) L)) := by
  refine jMet_of (by decide) (Nat.le_of_ble_eq_true rfl) none (Or.inl rfl) ?_
  show jWP none RX11 cX11_sealsAs 4 (some .int) (d + 5) 0 0 0 [some (.ref 76), some (.int (nI 3)), some (.int x), none] [] (tw (mX X (r)) (va_up A 99 (tr)) L) (jRi (seV ks n x 3).1 (tw (mX X (r + (seV ks n x 3).2.length)) (va_up A 99 (noteT r tr (seV ks n x 3).2)) L))
  refine j_iload_n dX11_sealsAs_0 rfl rfl ?_
  refine j_iconst (v := nI 3) dX11_sealsAs_1 rfl ?_
  refine j_icmp_eq (tgt := 10) dX11_sealsAs_2 (by decide) (fun _ => ?_) (fun h => absurd (by decide) h)
  refine j_aload_n dX11_sealsAs_10 rfl rfl ?_
  refine j_bipush (v := nI 41) dX11_sealsAs_11 rfl ?_
  refine j_callVv [.int _] [] dX11_sealsAs_13 jlk_X11_341 rfl rfl rfl rfl (Nat.le_of_ble_eq_true rfl) (m_begins (r := r) (tr := tr) (by omega)) ?_
  refine j_aload_n dX11_sealsAs_16 rfl rfl ?_
  refine j_iconst (v := nI 2) dX11_sealsAs_17 rfl ?_
  refine j_iload_n dX11_sealsAs_18 rfl rfl ?_
  refine j_iconst (v := nI 1) dX11_sealsAs_19 rfl ?_
  refine j_iadd dX11_sealsAs_20 ?_
  refine j_callVi [.int _, .int _] [] dX11_sealsAs_21 jlk_X11_351 rfl rfl rfl rfl (Nat.le_of_ble_eq_true rfl) (m_se_2 (r := r + 1) (tr := noteT (r) (tr) [nI 41]) hks h40 hn (by omega)) ?_
  refine j_ireturn dX11_sealsAs_24 rfl ?_
  refine ⟨rfl, tw_eq (congrArg (mX X) ?_) (congrArg (va_up A 99) ?_) rfl⟩
  · first | rfl | (simp only [seV, dnV, tlV, seB, tlB, List.length_cons, List.length_append, List.length_nil]; simp; omega)
  · first | rfl | exact (noteT_app (seB ks n x).2 (r + 1) _ (dnV ks n (nI 2) ks).2).symm | (simp [seV, dnV, tlV, seB, tlB, noteT, noteT_app, List.length_cons]; done)

set_option maxHeartbeats 200000 in
set_option maxRecDepth 100000 in
theorem m_se_5 {x : Int32} (hks : ks < 8) (h40 : X 76 40 = nI ks) (hn : X 76 41 = n) (hr : r < 2 ^ 24) : jMet (d + 5) yX11_sealsAs cX11_sealsAs 4 (some .int) 0 0 [.ref 76, .int (nI 5), .int x] (tw (mX X (r)) (va_up A 99 (tr)) L) (jRi (seV ks n x 5).1 (tw (mX X (r + (seV ks n x 5).2.length)) (va_up A 99 (noteT r tr (seV ks n x 5).2)) L)) := by
  refine jMet_of (by decide) (Nat.le_of_ble_eq_true rfl) none (Or.inl rfl) ?_
  show jWP none RX11 cX11_sealsAs 4 (some .int) (d + 5) 0 0 0 [some (.ref 76), some (.int (nI 5)), some (.int x), none] [] (tw (mX X (r)) (va_up A 99 (tr)) L) (jRi (seV ks n x 5).1 (tw (mX X (r + (seV ks n x 5).2.length)) (va_up A 99 (noteT r tr (seV ks n x 5).2)) L))
  refine j_iload_n dX11_sealsAs_0 rfl rfl ?_
  refine j_iconst (v := nI 3) dX11_sealsAs_1 rfl ?_
  refine j_icmp_eq (tgt := 10) dX11_sealsAs_2 (by decide) (fun h => absurd h (by decide)) (fun _ => ?_)
  refine j_iload_n dX11_sealsAs_5 rfl rfl ?_
  refine j_iconst (v := nI 5) dX11_sealsAs_6 rfl ?_
  refine j_icmp_ne (tgt := 25) dX11_sealsAs_7 (by decide) (fun h => absurd (by decide) h) (fun _ => ?_)
  refine j_aload_n dX11_sealsAs_10 rfl rfl ?_
  refine j_bipush (v := nI 41) dX11_sealsAs_11 rfl ?_
  refine j_callVv [.int _] [] dX11_sealsAs_13 jlk_X11_341 rfl rfl rfl rfl (Nat.le_of_ble_eq_true rfl) (m_begins (r := r) (tr := tr) (by omega)) ?_
  refine j_aload_n dX11_sealsAs_16 rfl rfl ?_
  refine j_iconst (v := nI 2) dX11_sealsAs_17 rfl ?_
  refine j_iload_n dX11_sealsAs_18 rfl rfl ?_
  refine j_iconst (v := nI 1) dX11_sealsAs_19 rfl ?_
  refine j_iadd dX11_sealsAs_20 ?_
  refine j_callVi [.int _, .int _] [] dX11_sealsAs_21 jlk_X11_351 rfl rfl rfl rfl (Nat.le_of_ble_eq_true rfl) (m_se_2 (r := r + 1) (tr := noteT (r) (tr) [nI 41]) hks h40 hn (by omega)) ?_
  refine j_ireturn dX11_sealsAs_24 rfl ?_
  refine ⟨rfl, tw_eq (congrArg (mX X) ?_) (congrArg (va_up A 99) ?_) rfl⟩
  · first | rfl | (simp only [seV, dnV, tlV, seB, tlB, List.length_cons, List.length_append, List.length_nil]; simp; omega)
  · first | rfl | exact (noteT_app (seB ks n x).2 (r + 1) _ (dnV ks n (nI 2) ks).2).symm | (simp [seV, dnV, tlV, seB, tlB, noteT, noteT_app, List.length_cons]; done)

set_option maxHeartbeats 200000 in
set_option maxRecDepth 100000 in
theorem m_se_7 {x : Int32} (hks : ks < 8) (h40 : X 76 40 = nI ks) (hn : X 76 41 = n) (hr : r < 2 ^ 24) (hl : (seV ks n x 4).2.length ≤ 3) : jMet (d + 4) yX11_sealsAs cX11_sealsAs 4 (some .int) 0 0 [.ref 76, .int (nI 7), .int x] (tw (mX X (r)) (va_up A 99 (tr)) L) (jRi (seV ks n x 7).1 (tw (mX X (r + (seV ks n x 7).2.length)) (va_up A 99 (noteT r tr (seV ks n x 7).2)) L)) := by
  refine jMet_of (by decide) (Nat.le_of_ble_eq_true rfl) none (Or.inl rfl) ?_
  show jWP none RX11 cX11_sealsAs 4 (some .int) (d + 4) 0 0 0 [some (.ref 76), some (.int (nI 7)), some (.int x), none] [] (tw (mX X (r)) (va_up A 99 (tr)) L) (jRi (seV ks n x 7).1 (tw (mX X (r + (seV ks n x 7).2.length)) (va_up A 99 (noteT r tr (seV ks n x 7).2)) L))
  refine j_iload_n dX11_sealsAs_0 rfl rfl ?_
  refine j_iconst (v := nI 3) dX11_sealsAs_1 rfl ?_
  refine j_icmp_eq (tgt := 10) dX11_sealsAs_2 (by decide) (fun h => absurd h (by decide)) (fun _ => ?_)
  refine j_iload_n dX11_sealsAs_5 rfl rfl ?_
  refine j_iconst (v := nI 5) dX11_sealsAs_6 rfl ?_
  refine j_icmp_ne (tgt := 25) dX11_sealsAs_7 (by decide) (fun _ => ?_) (fun h => absurd h (by decide))
  refine j_iload_n dX11_sealsAs_25 rfl rfl ?_
  refine j_iconst (v := nI 2) dX11_sealsAs_26 rfl ?_
  refine j_icmp_ne (tgt := 44) dX11_sealsAs_27 (by decide) (fun _ => ?_) (fun h => absurd h (by decide))
  refine j_iload_n dX11_sealsAs_44 rfl rfl ?_
  refine j_bipush (v := nI 7) dX11_sealsAs_45 rfl ?_
  refine j_icmp_ne (tgt := 75) dX11_sealsAs_47 (by decide) (fun h => absurd (by decide) h) (fun _ => ?_)
  refine j_aload_n dX11_sealsAs_50 rfl rfl ?_
  refine j_bipush (v := nI 80) dX11_sealsAs_51 rfl ?_
  refine j_callVv [.int _] [] dX11_sealsAs_53 jlk_X11_341 rfl rfl rfl rfl (Nat.le_of_ble_eq_true rfl) (m_begins (r := r) (tr := tr) (by omega)) ?_
  refine j_aload_n dX11_sealsAs_56 rfl rfl ?_
  refine j_iconst (v := nI 4) dX11_sealsAs_57 rfl ?_
  refine j_iload_n dX11_sealsAs_58 rfl rfl ?_
  refine j_callVi [.int _, .int _] [] dX11_sealsAs_59 jlk_X11_351 rfl rfl rfl rfl (Nat.le_of_ble_eq_true rfl) (m_se_4 (r := r + 1) (tr := noteT (r) (tr) [nI 80]) hks h40 hn (by omega)) ?_
  refine j_istore_n (lv' := [some (.ref 76), some (.int _), some (.int _), some (.int _)]) dX11_sealsAs_62 rfl (by decide) rfl ?_
  refine j_iload_n dX11_sealsAs_63 rfl rfl ?_
  refine j_aload_n dX11_sealsAs_64 rfl rfl ?_
  refine j_aload_n dX11_sealsAs_65 rfl rfl ?_
  refine t_getI dX11_sealsAs_66 jfl_X11_354 (fun _ _ _ => rfl) (fun _ => rfl) ?_
  refine j_topE (e' := nI ks) ((mX_n _ _ (by decide)).trans h40) ?_
  refine j_iconst (v := nI 2) dX11_sealsAs_69 rfl ?_
  refine j_callVi [.int _, .int _] [.int _] dX11_sealsAs_70 jlk_X11_357 rfl rfl rfl rfl (Nat.le_of_ble_eq_true rfl) (m_dances (r := r + 1 + (seV ks n x 4).2.length) (tr := noteT (r + 1) (noteT (r) (tr) [nI 80]) (seV ks n x 4).2) hks h40 hn (by omega) hks) ?_
  refine j_iadd dX11_sealsAs_73 ?_
  refine j_ireturn dX11_sealsAs_74 rfl ?_
  refine ⟨rfl, tw_eq (congrArg (mX X) ?_) (congrArg (va_up A 99) ?_) rfl⟩
  · first | rfl | (simp only [seV, dnV, tlV, seB, tlB, List.length_cons, List.length_append, List.length_nil]; simp; omega)
  · first | rfl | exact (noteT_app (seB ks n x).2 (r + 1) _ (dnV ks n (nI 2) ks).2).symm | (simp [seV, dnV, tlV, seB, tlB, noteT, noteT_app, List.length_cons]; done)

theorem m_seals {x : Int32} (hks : ks < 8) (h40 : X 76 40 = nI ks) (hn : X 76 41 = n) (hr : r < 2 ^ 24) {k : Nat} (hk : k < 8) : jMet (d + 5) yX11_sealsAs cX11_sealsAs 4 (some .int) 0 0 [.ref 76, .int (nI k), .int x] (tw (mX X (r)) (va_up A 99 (tr)) L) (jRi (seV ks n x k).1 (tw (mX X (r + (seV ks n x k).2.length)) (va_up A 99 (noteT r tr (seV ks n x k).2)) L)) := by
  rcases (show k = 0 ∨ k = 1 ∨ k = 2 ∨ k = 3 ∨ k = 4 ∨ k = 5 ∨ k = 6 ∨ k = 7 by omega) with rfl | rfl | rfl | rfl | rfl | rfl | rfl | rfl
  · exact m_se_0 (d := d + 2) hks h40 hn (by omega)
  · exact m_se_1 (d := d + 2) hks h40 hn (by omega)
  · exact m_se_2 (d := d + 1) hks h40 hn (by omega)
  · exact m_se_3 (d := d) hks h40 hn (by omega)
  · exact m_se_4 (d := d + 2) hks h40 hn (by omega)
  · exact m_se_5 (d := d) hks h40 hn (by omega)
  · exact m_se_6 (d := d + 2) hks h40 hn (by omega)
  · exact m_se_7 (d := d + 1) hks h40 hn (by omega) (seB_len ks n x)
theorem seV_len (ks : Nat) (n x : Int32) (k : Nat) : (seV ks n x k).2.length ≤ 8 := by
  have h1 := seB_len ks n (x + nI 1)
  have h2 := seB_len ks n x
  have h3 := dnV_len ks n (nI 2) ks
  unfold seV
  split
  · show (seB ks n (x + nI 1)).2.length + 1 + 1 ≤ 8; omega
  · split
    · show (seB ks n x).2.length + 1 ≤ 8; omega
    · split
      · show ((seB ks n x).2 ++ (dnV ks n (nI 2) ks).2).length + 1 ≤ 8
        rw [List.length_append]; omega
      · omega

set_option maxHeartbeats 200000 in
set_option maxRecDepth 100000 in
theorem m_tl_0 {x : Int32} (hks : ks < 8) (h40 : X 76 40 = nI ks) (hn : X 76 41 = n) (hr : r < 2 ^ 23) (hl : (seV ks n x ks).2.length ≤ 8) : jMet (d + 6) yX11_tellsAs cX11_tellsAs 4 (some .int) 0 0 [.ref 76, .int (nI 0), .int x] (tw (mX X (r)) (va_up A 99 (tr)) L) (jRi (tlV ks n x 0).1 (tw (mX X (r + (tlV ks n x 0).2.length)) (va_up A 99 (noteT r tr (tlV ks n x 0).2)) L)) := by
  refine jMet_of (by decide) (Nat.le_of_ble_eq_true rfl) none (Or.inl rfl) ?_
  show jWP none RX11 cX11_tellsAs 4 (some .int) (d + 6) 0 0 0 [some (.ref 76), some (.int (nI 0)), some (.int x), none] [] (tw (mX X (r)) (va_up A 99 (tr)) L) (jRi (tlV ks n x 0).1 (tw (mX X (r + (tlV ks n x 0).2.length)) (va_up A 99 (noteT r tr (tlV ks n x 0).2)) L))
  refine j_iload_n dX11_tellsAs_0 rfl rfl ?_
  refine j_iconst (v := nI 5) dX11_tellsAs_1 rfl ?_
  refine j_icmp_ne (tgt := 20) dX11_tellsAs_2 (by decide) (fun _ => ?_) (fun h => absurd h (by decide))
  refine j_iload_n dX11_tellsAs_20 rfl rfl ?_
  refine j_bipush (v := nI 7) dX11_tellsAs_21 rfl ?_
  refine j_icmp_ne (tgt := 41) dX11_tellsAs_23 (by decide) (fun _ => ?_) (fun h => absurd h (by decide))
  refine j_aload_n dX11_tellsAs_41 rfl rfl ?_
  refine j_iconst (v := nI 2) dX11_tellsAs_42 rfl ?_
  refine j_callVv [.int _] [] dX11_tellsAs_43 jlk_X11_341 rfl rfl rfl rfl (Nat.le_of_ble_eq_true rfl) (m_begins (r := r) (tr := tr) (by omega)) ?_
  refine j_aload_n dX11_tellsAs_46 rfl rfl ?_
  refine j_aload_n dX11_tellsAs_47 rfl rfl ?_
  refine t_getI dX11_tellsAs_48 jfl_X11_354 (fun _ _ _ => rfl) (fun _ => rfl) ?_
  refine j_topE (e' := nI ks) ((mX_n _ _ (by decide)).trans h40) ?_
  refine j_iload_n dX11_tellsAs_51 rfl rfl ?_
  refine j_callVi [.int _, .int _] [] dX11_tellsAs_52 jlk_X11_351 rfl rfl rfl rfl (Nat.le_of_ble_eq_true rfl) (m_seals (r := r + 1) (tr := noteT (r) (tr) [nI 2]) hks h40 hn (by omega) hks) ?_
  refine j_istore_n (lv' := [some (.ref 76), some (.int _), some (.int _), some (.int _)]) dX11_tellsAs_55 rfl (by decide) rfl ?_
  refine j_iload_n dX11_tellsAs_56 rfl rfl ?_
  refine j_aload_n dX11_tellsAs_57 rfl rfl ?_
  refine j_aload_n dX11_tellsAs_58 rfl rfl ?_
  refine t_getI dX11_tellsAs_59 jfl_X11_354 (fun _ _ _ => rfl) (fun _ => rfl) ?_
  refine j_topE (e' := nI ks) ((mX_n _ _ (by decide)).trans h40) ?_
  refine j_iconst (v := nI 1) dX11_tellsAs_62 rfl ?_
  refine j_callVi [.int _, .int _] [.int _] dX11_tellsAs_63 jlk_X11_357 rfl rfl rfl rfl (Nat.le_of_ble_eq_true rfl) (m_dances (r := r + 1 + (seV ks n x ks).2.length) (tr := noteT (r + 1) (noteT (r) (tr) [nI 2]) (seV ks n x ks).2) hks h40 hn (by omega) hks) ?_
  refine j_isub dX11_tellsAs_66 ?_
  refine j_ireturn dX11_tellsAs_67 rfl ?_
  refine ⟨rfl, tw_eq (congrArg (mX X) ?_) (congrArg (va_up A 99) ?_) rfl⟩
  · first | rfl | (simp only [seV, dnV, tlV, seB, tlB, List.length_cons, List.length_append, List.length_nil]; simp; omega)
  · first | rfl | exact (noteT_app (seB ks n x).2 (r + 1) _ (dnV ks n (nI 2) ks).2).symm | (simp [seV, dnV, tlV, seB, tlB, noteT, noteT_app, List.length_cons]; done)

set_option maxHeartbeats 200000 in
set_option maxRecDepth 100000 in
theorem m_tl_1 {x : Int32} (hks : ks < 8) (h40 : X 76 40 = nI ks) (hn : X 76 41 = n) (hr : r < 2 ^ 23) (hl : (seV ks n x ks).2.length ≤ 8) : jMet (d + 6) yX11_tellsAs cX11_tellsAs 4 (some .int) 0 0 [.ref 76, .int (nI 1), .int x] (tw (mX X (r)) (va_up A 99 (tr)) L) (jRi (tlV ks n x 1).1 (tw (mX X (r + (tlV ks n x 1).2.length)) (va_up A 99 (noteT r tr (tlV ks n x 1).2)) L)) := by
  refine jMet_of (by decide) (Nat.le_of_ble_eq_true rfl) none (Or.inl rfl) ?_
  show jWP none RX11 cX11_tellsAs 4 (some .int) (d + 6) 0 0 0 [some (.ref 76), some (.int (nI 1)), some (.int x), none] [] (tw (mX X (r)) (va_up A 99 (tr)) L) (jRi (tlV ks n x 1).1 (tw (mX X (r + (tlV ks n x 1).2.length)) (va_up A 99 (noteT r tr (tlV ks n x 1).2)) L))
  refine j_iload_n dX11_tellsAs_0 rfl rfl ?_
  refine j_iconst (v := nI 5) dX11_tellsAs_1 rfl ?_
  refine j_icmp_ne (tgt := 20) dX11_tellsAs_2 (by decide) (fun _ => ?_) (fun h => absurd h (by decide))
  refine j_iload_n dX11_tellsAs_20 rfl rfl ?_
  refine j_bipush (v := nI 7) dX11_tellsAs_21 rfl ?_
  refine j_icmp_ne (tgt := 41) dX11_tellsAs_23 (by decide) (fun _ => ?_) (fun h => absurd h (by decide))
  refine j_aload_n dX11_tellsAs_41 rfl rfl ?_
  refine j_iconst (v := nI 2) dX11_tellsAs_42 rfl ?_
  refine j_callVv [.int _] [] dX11_tellsAs_43 jlk_X11_341 rfl rfl rfl rfl (Nat.le_of_ble_eq_true rfl) (m_begins (r := r) (tr := tr) (by omega)) ?_
  refine j_aload_n dX11_tellsAs_46 rfl rfl ?_
  refine j_aload_n dX11_tellsAs_47 rfl rfl ?_
  refine t_getI dX11_tellsAs_48 jfl_X11_354 (fun _ _ _ => rfl) (fun _ => rfl) ?_
  refine j_topE (e' := nI ks) ((mX_n _ _ (by decide)).trans h40) ?_
  refine j_iload_n dX11_tellsAs_51 rfl rfl ?_
  refine j_callVi [.int _, .int _] [] dX11_tellsAs_52 jlk_X11_351 rfl rfl rfl rfl (Nat.le_of_ble_eq_true rfl) (m_seals (r := r + 1) (tr := noteT (r) (tr) [nI 2]) hks h40 hn (by omega) hks) ?_
  refine j_istore_n (lv' := [some (.ref 76), some (.int _), some (.int _), some (.int _)]) dX11_tellsAs_55 rfl (by decide) rfl ?_
  refine j_iload_n dX11_tellsAs_56 rfl rfl ?_
  refine j_aload_n dX11_tellsAs_57 rfl rfl ?_
  refine j_aload_n dX11_tellsAs_58 rfl rfl ?_
  refine t_getI dX11_tellsAs_59 jfl_X11_354 (fun _ _ _ => rfl) (fun _ => rfl) ?_
  refine j_topE (e' := nI ks) ((mX_n _ _ (by decide)).trans h40) ?_
  refine j_iconst (v := nI 1) dX11_tellsAs_62 rfl ?_
  refine j_callVi [.int _, .int _] [.int _] dX11_tellsAs_63 jlk_X11_357 rfl rfl rfl rfl (Nat.le_of_ble_eq_true rfl) (m_dances (r := r + 1 + (seV ks n x ks).2.length) (tr := noteT (r + 1) (noteT (r) (tr) [nI 2]) (seV ks n x ks).2) hks h40 hn (by omega) hks) ?_
  refine j_isub dX11_tellsAs_66 ?_
  refine j_ireturn dX11_tellsAs_67 rfl ?_
  refine ⟨rfl, tw_eq (congrArg (mX X) ?_) (congrArg (va_up A 99) ?_) rfl⟩
  · first | rfl | (simp only [seV, dnV, tlV, seB, tlB, List.length_cons, List.length_append, List.length_nil]; simp; omega)
  · first | rfl | exact (noteT_app (seB ks n x).2 (r + 1) _ (dnV ks n (nI 2) ks).2).symm | (simp [seV, dnV, tlV, seB, tlB, noteT, noteT_app, List.length_cons]; done)

set_option maxHeartbeats 200000 in
set_option maxRecDepth 100000 in
theorem m_tl_2 {x : Int32} (hks : ks < 8) (h40 : X 76 40 = nI ks) (hn : X 76 41 = n) (hr : r < 2 ^ 23) (hl : (seV ks n x ks).2.length ≤ 8) : jMet (d + 6) yX11_tellsAs cX11_tellsAs 4 (some .int) 0 0 [.ref 76, .int (nI 2), .int x] (tw (mX X (r)) (va_up A 99 (tr)) L) (jRi (tlV ks n x 2).1 (tw (mX X (r + (tlV ks n x 2).2.length)) (va_up A 99 (noteT r tr (tlV ks n x 2).2)) L)) := by
  refine jMet_of (by decide) (Nat.le_of_ble_eq_true rfl) none (Or.inl rfl) ?_
  show jWP none RX11 cX11_tellsAs 4 (some .int) (d + 6) 0 0 0 [some (.ref 76), some (.int (nI 2)), some (.int x), none] [] (tw (mX X (r)) (va_up A 99 (tr)) L) (jRi (tlV ks n x 2).1 (tw (mX X (r + (tlV ks n x 2).2.length)) (va_up A 99 (noteT r tr (tlV ks n x 2).2)) L))
  refine j_iload_n dX11_tellsAs_0 rfl rfl ?_
  refine j_iconst (v := nI 5) dX11_tellsAs_1 rfl ?_
  refine j_icmp_ne (tgt := 20) dX11_tellsAs_2 (by decide) (fun _ => ?_) (fun h => absurd h (by decide))
  refine j_iload_n dX11_tellsAs_20 rfl rfl ?_
  refine j_bipush (v := nI 7) dX11_tellsAs_21 rfl ?_
  refine j_icmp_ne (tgt := 41) dX11_tellsAs_23 (by decide) (fun _ => ?_) (fun h => absurd h (by decide))
  refine j_aload_n dX11_tellsAs_41 rfl rfl ?_
  refine j_iconst (v := nI 2) dX11_tellsAs_42 rfl ?_
  refine j_callVv [.int _] [] dX11_tellsAs_43 jlk_X11_341 rfl rfl rfl rfl (Nat.le_of_ble_eq_true rfl) (m_begins (r := r) (tr := tr) (by omega)) ?_
  refine j_aload_n dX11_tellsAs_46 rfl rfl ?_
  refine j_aload_n dX11_tellsAs_47 rfl rfl ?_
  refine t_getI dX11_tellsAs_48 jfl_X11_354 (fun _ _ _ => rfl) (fun _ => rfl) ?_
  refine j_topE (e' := nI ks) ((mX_n _ _ (by decide)).trans h40) ?_
  refine j_iload_n dX11_tellsAs_51 rfl rfl ?_
  refine j_callVi [.int _, .int _] [] dX11_tellsAs_52 jlk_X11_351 rfl rfl rfl rfl (Nat.le_of_ble_eq_true rfl) (m_seals (r := r + 1) (tr := noteT (r) (tr) [nI 2]) hks h40 hn (by omega) hks) ?_
  refine j_istore_n (lv' := [some (.ref 76), some (.int _), some (.int _), some (.int _)]) dX11_tellsAs_55 rfl (by decide) rfl ?_
  refine j_iload_n dX11_tellsAs_56 rfl rfl ?_
  refine j_aload_n dX11_tellsAs_57 rfl rfl ?_
  refine j_aload_n dX11_tellsAs_58 rfl rfl ?_
  refine t_getI dX11_tellsAs_59 jfl_X11_354 (fun _ _ _ => rfl) (fun _ => rfl) ?_
  refine j_topE (e' := nI ks) ((mX_n _ _ (by decide)).trans h40) ?_
  refine j_iconst (v := nI 1) dX11_tellsAs_62 rfl ?_
  refine j_callVi [.int _, .int _] [.int _] dX11_tellsAs_63 jlk_X11_357 rfl rfl rfl rfl (Nat.le_of_ble_eq_true rfl) (m_dances (r := r + 1 + (seV ks n x ks).2.length) (tr := noteT (r + 1) (noteT (r) (tr) [nI 2]) (seV ks n x ks).2) hks h40 hn (by omega) hks) ?_
  refine j_isub dX11_tellsAs_66 ?_
  refine j_ireturn dX11_tellsAs_67 rfl ?_
  refine ⟨rfl, tw_eq (congrArg (mX X) ?_) (congrArg (va_up A 99) ?_) rfl⟩
  · first | rfl | (simp only [seV, dnV, tlV, seB, tlB, List.length_cons, List.length_append, List.length_nil]; simp; omega)
  · first | rfl | exact (noteT_app (seB ks n x).2 (r + 1) _ (dnV ks n (nI 2) ks).2).symm | (simp [seV, dnV, tlV, seB, tlB, noteT, noteT_app, List.length_cons]; done)

set_option maxHeartbeats 200000 in
set_option maxRecDepth 100000 in
theorem m_tl_3 {x : Int32} (hks : ks < 8) (h40 : X 76 40 = nI ks) (hn : X 76 41 = n) (hr : r < 2 ^ 23) (hl : (seV ks n x ks).2.length ≤ 8) : jMet (d + 6) yX11_tellsAs cX11_tellsAs 4 (some .int) 0 0 [.ref 76, .int (nI 3), .int x] (tw (mX X (r)) (va_up A 99 (tr)) L) (jRi (tlV ks n x 3).1 (tw (mX X (r + (tlV ks n x 3).2.length)) (va_up A 99 (noteT r tr (tlV ks n x 3).2)) L)) := by
  refine jMet_of (by decide) (Nat.le_of_ble_eq_true rfl) none (Or.inl rfl) ?_
  show jWP none RX11 cX11_tellsAs 4 (some .int) (d + 6) 0 0 0 [some (.ref 76), some (.int (nI 3)), some (.int x), none] [] (tw (mX X (r)) (va_up A 99 (tr)) L) (jRi (tlV ks n x 3).1 (tw (mX X (r + (tlV ks n x 3).2.length)) (va_up A 99 (noteT r tr (tlV ks n x 3).2)) L))
  refine j_iload_n dX11_tellsAs_0 rfl rfl ?_
  refine j_iconst (v := nI 5) dX11_tellsAs_1 rfl ?_
  refine j_icmp_ne (tgt := 20) dX11_tellsAs_2 (by decide) (fun _ => ?_) (fun h => absurd h (by decide))
  refine j_iload_n dX11_tellsAs_20 rfl rfl ?_
  refine j_bipush (v := nI 7) dX11_tellsAs_21 rfl ?_
  refine j_icmp_ne (tgt := 41) dX11_tellsAs_23 (by decide) (fun _ => ?_) (fun h => absurd h (by decide))
  refine j_aload_n dX11_tellsAs_41 rfl rfl ?_
  refine j_iconst (v := nI 2) dX11_tellsAs_42 rfl ?_
  refine j_callVv [.int _] [] dX11_tellsAs_43 jlk_X11_341 rfl rfl rfl rfl (Nat.le_of_ble_eq_true rfl) (m_begins (r := r) (tr := tr) (by omega)) ?_
  refine j_aload_n dX11_tellsAs_46 rfl rfl ?_
  refine j_aload_n dX11_tellsAs_47 rfl rfl ?_
  refine t_getI dX11_tellsAs_48 jfl_X11_354 (fun _ _ _ => rfl) (fun _ => rfl) ?_
  refine j_topE (e' := nI ks) ((mX_n _ _ (by decide)).trans h40) ?_
  refine j_iload_n dX11_tellsAs_51 rfl rfl ?_
  refine j_callVi [.int _, .int _] [] dX11_tellsAs_52 jlk_X11_351 rfl rfl rfl rfl (Nat.le_of_ble_eq_true rfl) (m_seals (r := r + 1) (tr := noteT (r) (tr) [nI 2]) hks h40 hn (by omega) hks) ?_
  refine j_istore_n (lv' := [some (.ref 76), some (.int _), some (.int _), some (.int _)]) dX11_tellsAs_55 rfl (by decide) rfl ?_
  refine j_iload_n dX11_tellsAs_56 rfl rfl ?_
  refine j_aload_n dX11_tellsAs_57 rfl rfl ?_
  refine j_aload_n dX11_tellsAs_58 rfl rfl ?_
  refine t_getI dX11_tellsAs_59 jfl_X11_354 (fun _ _ _ => rfl) (fun _ => rfl) ?_
  refine j_topE (e' := nI ks) ((mX_n _ _ (by decide)).trans h40) ?_
  refine j_iconst (v := nI 1) dX11_tellsAs_62 rfl ?_
  refine j_callVi [.int _, .int _] [.int _] dX11_tellsAs_63 jlk_X11_357 rfl rfl rfl rfl (Nat.le_of_ble_eq_true rfl) (m_dances (r := r + 1 + (seV ks n x ks).2.length) (tr := noteT (r + 1) (noteT (r) (tr) [nI 2]) (seV ks n x ks).2) hks h40 hn (by omega) hks) ?_
  refine j_isub dX11_tellsAs_66 ?_
  refine j_ireturn dX11_tellsAs_67 rfl ?_
  refine ⟨rfl, tw_eq (congrArg (mX X) ?_) (congrArg (va_up A 99) ?_) rfl⟩
  · first | rfl | (simp only [seV, dnV, tlV, seB, tlB, List.length_cons, List.length_append, List.length_nil]; simp; omega)
  · first | rfl | exact (noteT_app (seB ks n x).2 (r + 1) _ (dnV ks n (nI 2) ks).2).symm | (simp [seV, dnV, tlV, seB, tlB, noteT, noteT_app, List.length_cons]; done)

set_option maxHeartbeats 200000 in
set_option maxRecDepth 100000 in
theorem m_tl_4 {x : Int32} (hks : ks < 8) (h40 : X 76 40 = nI ks) (hn : X 76 41 = n) (hr : r < 2 ^ 23) (hl : (seV ks n x ks).2.length ≤ 8) : jMet (d + 6) yX11_tellsAs cX11_tellsAs 4 (some .int) 0 0 [.ref 76, .int (nI 4), .int x] (tw (mX X (r)) (va_up A 99 (tr)) L) (jRi (tlV ks n x 4).1 (tw (mX X (r + (tlV ks n x 4).2.length)) (va_up A 99 (noteT r tr (tlV ks n x 4).2)) L)) := by
  refine jMet_of (by decide) (Nat.le_of_ble_eq_true rfl) none (Or.inl rfl) ?_
  show jWP none RX11 cX11_tellsAs 4 (some .int) (d + 6) 0 0 0 [some (.ref 76), some (.int (nI 4)), some (.int x), none] [] (tw (mX X (r)) (va_up A 99 (tr)) L) (jRi (tlV ks n x 4).1 (tw (mX X (r + (tlV ks n x 4).2.length)) (va_up A 99 (noteT r tr (tlV ks n x 4).2)) L))
  refine j_iload_n dX11_tellsAs_0 rfl rfl ?_
  refine j_iconst (v := nI 5) dX11_tellsAs_1 rfl ?_
  refine j_icmp_ne (tgt := 20) dX11_tellsAs_2 (by decide) (fun _ => ?_) (fun h => absurd h (by decide))
  refine j_iload_n dX11_tellsAs_20 rfl rfl ?_
  refine j_bipush (v := nI 7) dX11_tellsAs_21 rfl ?_
  refine j_icmp_ne (tgt := 41) dX11_tellsAs_23 (by decide) (fun _ => ?_) (fun h => absurd h (by decide))
  refine j_aload_n dX11_tellsAs_41 rfl rfl ?_
  refine j_iconst (v := nI 2) dX11_tellsAs_42 rfl ?_
  refine j_callVv [.int _] [] dX11_tellsAs_43 jlk_X11_341 rfl rfl rfl rfl (Nat.le_of_ble_eq_true rfl) (m_begins (r := r) (tr := tr) (by omega)) ?_
  refine j_aload_n dX11_tellsAs_46 rfl rfl ?_
  refine j_aload_n dX11_tellsAs_47 rfl rfl ?_
  refine t_getI dX11_tellsAs_48 jfl_X11_354 (fun _ _ _ => rfl) (fun _ => rfl) ?_
  refine j_topE (e' := nI ks) ((mX_n _ _ (by decide)).trans h40) ?_
  refine j_iload_n dX11_tellsAs_51 rfl rfl ?_
  refine j_callVi [.int _, .int _] [] dX11_tellsAs_52 jlk_X11_351 rfl rfl rfl rfl (Nat.le_of_ble_eq_true rfl) (m_seals (r := r + 1) (tr := noteT (r) (tr) [nI 2]) hks h40 hn (by omega) hks) ?_
  refine j_istore_n (lv' := [some (.ref 76), some (.int _), some (.int _), some (.int _)]) dX11_tellsAs_55 rfl (by decide) rfl ?_
  refine j_iload_n dX11_tellsAs_56 rfl rfl ?_
  refine j_aload_n dX11_tellsAs_57 rfl rfl ?_
  refine j_aload_n dX11_tellsAs_58 rfl rfl ?_
  refine t_getI dX11_tellsAs_59 jfl_X11_354 (fun _ _ _ => rfl) (fun _ => rfl) ?_
  refine j_topE (e' := nI ks) ((mX_n _ _ (by decide)).trans h40) ?_
  refine j_iconst (v := nI 1) dX11_tellsAs_62 rfl ?_
  refine j_callVi [.int _, .int _] [.int _] dX11_tellsAs_63 jlk_X11_357 rfl rfl rfl rfl (Nat.le_of_ble_eq_true rfl) (m_dances (r := r + 1 + (seV ks n x ks).2.length) (tr := noteT (r + 1) (noteT (r) (tr) [nI 2]) (seV ks n x ks).2) hks h40 hn (by omega) hks) ?_
  refine j_isub dX11_tellsAs_66 ?_
  refine j_ireturn dX11_tellsAs_67 rfl ?_
  refine ⟨rfl, tw_eq (congrArg (mX X) ?_) (congrArg (va_up A 99) ?_) rfl⟩
  · first | rfl | (simp only [seV, dnV, tlV, seB, tlB, List.length_cons, List.length_append, List.length_nil]; simp; omega)
  · first | rfl | exact (noteT_app (seB ks n x).2 (r + 1) _ (dnV ks n (nI 2) ks).2).symm | (simp [seV, dnV, tlV, seB, tlB, noteT, noteT_app, List.length_cons]; done)

set_option maxHeartbeats 200000 in
set_option maxRecDepth 100000 in
theorem m_tl_6 {x : Int32} (hks : ks < 8) (h40 : X 76 40 = nI ks) (hn : X 76 41 = n) (hr : r < 2 ^ 23) (hl : (seV ks n x ks).2.length ≤ 8) : jMet (d + 6) yX11_tellsAs cX11_tellsAs 4 (some .int) 0 0 [.ref 76, .int (nI 6), .int x] (tw (mX X (r)) (va_up A 99 (tr)) L) (jRi (tlV ks n x 6).1 (tw (mX X (r + (tlV ks n x 6).2.length)) (va_up A 99 (noteT r tr (tlV ks n x 6).2)) L)) := by
  refine jMet_of (by decide) (Nat.le_of_ble_eq_true rfl) none (Or.inl rfl) ?_
  show jWP none RX11 cX11_tellsAs 4 (some .int) (d + 6) 0 0 0 [some (.ref 76), some (.int (nI 6)), some (.int x), none] [] (tw (mX X (r)) (va_up A 99 (tr)) L) (jRi (tlV ks n x 6).1 (tw (mX X (r + (tlV ks n x 6).2.length)) (va_up A 99 (noteT r tr (tlV ks n x 6).2)) L))
  refine j_iload_n dX11_tellsAs_0 rfl rfl ?_
  refine j_iconst (v := nI 5) dX11_tellsAs_1 rfl ?_
  refine j_icmp_ne (tgt := 20) dX11_tellsAs_2 (by decide) (fun _ => ?_) (fun h => absurd h (by decide))
  refine j_iload_n dX11_tellsAs_20 rfl rfl ?_
  refine j_bipush (v := nI 7) dX11_tellsAs_21 rfl ?_
  refine j_icmp_ne (tgt := 41) dX11_tellsAs_23 (by decide) (fun _ => ?_) (fun h => absurd h (by decide))
  refine j_aload_n dX11_tellsAs_41 rfl rfl ?_
  refine j_iconst (v := nI 2) dX11_tellsAs_42 rfl ?_
  refine j_callVv [.int _] [] dX11_tellsAs_43 jlk_X11_341 rfl rfl rfl rfl (Nat.le_of_ble_eq_true rfl) (m_begins (r := r) (tr := tr) (by omega)) ?_
  refine j_aload_n dX11_tellsAs_46 rfl rfl ?_
  refine j_aload_n dX11_tellsAs_47 rfl rfl ?_
  refine t_getI dX11_tellsAs_48 jfl_X11_354 (fun _ _ _ => rfl) (fun _ => rfl) ?_
  refine j_topE (e' := nI ks) ((mX_n _ _ (by decide)).trans h40) ?_
  refine j_iload_n dX11_tellsAs_51 rfl rfl ?_
  refine j_callVi [.int _, .int _] [] dX11_tellsAs_52 jlk_X11_351 rfl rfl rfl rfl (Nat.le_of_ble_eq_true rfl) (m_seals (r := r + 1) (tr := noteT (r) (tr) [nI 2]) hks h40 hn (by omega) hks) ?_
  refine j_istore_n (lv' := [some (.ref 76), some (.int _), some (.int _), some (.int _)]) dX11_tellsAs_55 rfl (by decide) rfl ?_
  refine j_iload_n dX11_tellsAs_56 rfl rfl ?_
  refine j_aload_n dX11_tellsAs_57 rfl rfl ?_
  refine j_aload_n dX11_tellsAs_58 rfl rfl ?_
  refine t_getI dX11_tellsAs_59 jfl_X11_354 (fun _ _ _ => rfl) (fun _ => rfl) ?_
  refine j_topE (e' := nI ks) ((mX_n _ _ (by decide)).trans h40) ?_
  refine j_iconst (v := nI 1) dX11_tellsAs_62 rfl ?_
  refine j_callVi [.int _, .int _] [.int _] dX11_tellsAs_63 jlk_X11_357 rfl rfl rfl rfl (Nat.le_of_ble_eq_true rfl) (m_dances (r := r + 1 + (seV ks n x ks).2.length) (tr := noteT (r + 1) (noteT (r) (tr) [nI 2]) (seV ks n x ks).2) hks h40 hn (by omega) hks) ?_
  refine j_isub dX11_tellsAs_66 ?_
  refine j_ireturn dX11_tellsAs_67 rfl ?_
  refine ⟨rfl, tw_eq (congrArg (mX X) ?_) (congrArg (va_up A 99) ?_) rfl⟩
  · first | rfl | (simp only [seV, dnV, tlV, seB, tlB, List.length_cons, List.length_append, List.length_nil]; simp; omega)
  · first | rfl | exact (noteT_app (seB ks n x).2 (r + 1) _ (dnV ks n (nI 2) ks).2).symm | (simp [seV, dnV, tlV, seB, tlB, noteT, noteT_app, List.length_cons]; done)

set_option maxHeartbeats 200000 in
set_option maxRecDepth 100000 in
theorem m_tl_5 {x : Int32} (hks : ks < 8) (h40 : X 76 40 = nI ks) (hn : X 76 41 = n) (hr : r < 2 ^ 22) (hl : (seV ks n x ks).2.length ≤ 8) : jMet (d + 7) yX11_tellsAs cX11_tellsAs 4 (some .int) 0 0 [.ref 76, .int (nI 5), .int x] (tw (mX X (r)) (va_up A 99 (tr)) L) (jRi (tlV ks n x 5).1 (tw (mX X (r + (tlV ks n x 5).2.length)) (va_up A 99 (noteT r tr (tlV ks n x 5).2)) L)) := by
  refine jMet_of (by decide) (Nat.le_of_ble_eq_true rfl) none (Or.inl rfl) ?_
  show jWP none RX11 cX11_tellsAs 4 (some .int) (d + 7) 0 0 0 [some (.ref 76), some (.int (nI 5)), some (.int x), none] [] (tw (mX X (r)) (va_up A 99 (tr)) L) (jRi (tlV ks n x 5).1 (tw (mX X (r + (tlV ks n x 5).2.length)) (va_up A 99 (noteT r tr (tlV ks n x 5).2)) L))
  refine j_iload_n dX11_tellsAs_0 rfl rfl ?_
  refine j_iconst (v := nI 5) dX11_tellsAs_1 rfl ?_
  refine j_icmp_ne (tgt := 20) dX11_tellsAs_2 (by decide) (fun h => absurd (by decide) h) (fun _ => ?_)
  refine j_aload_n dX11_tellsAs_5 rfl rfl ?_
  refine j_bipush (v := nI 60) dX11_tellsAs_6 rfl ?_
  refine j_callVv [.int _] [] dX11_tellsAs_8 jlk_X11_341 rfl rfl rfl rfl (Nat.le_of_ble_eq_true rfl) (m_begins (r := r) (tr := tr) (by omega)) ?_
  refine j_aload_n dX11_tellsAs_11 rfl rfl ?_
  refine j_iconst (v := nI 3) dX11_tellsAs_12 rfl ?_
  refine j_iload_n dX11_tellsAs_13 rfl rfl ?_
  refine j_callVi [.int _, .int _] [] dX11_tellsAs_14 jlk_X11_360 rfl rfl rfl rfl (Nat.le_of_ble_eq_true rfl) (m_tl_3 (r := r + 1) (tr := noteT (r) (tr) [nI 60]) hks h40 hn (by omega) hl) ?_
  refine j_iconst (v := nI 5) dX11_tellsAs_17 rfl ?_
  refine j_ixor dX11_tellsAs_18 ?_
  refine j_ireturn dX11_tellsAs_19 rfl ?_
  refine ⟨rfl, tw_eq (congrArg (mX X) ?_) (congrArg (va_up A 99) ?_) rfl⟩
  · first | rfl | (simp only [seV, dnV, tlV, seB, tlB, List.length_cons, List.length_append, List.length_nil]; simp; omega)
  · first | rfl | exact (noteT_app (seB ks n x).2 (r + 1) _ (dnV ks n (nI 2) ks).2).symm | (simp [seV, dnV, tlV, seB, tlB, noteT, noteT_app, List.length_cons]; done)

set_option maxHeartbeats 200000 in
set_option maxRecDepth 100000 in
theorem m_tl_7 {x : Int32} (hks : ks < 8) (h40 : X 76 40 = nI ks) (hn : X 76 41 = n) (hr : r < 2 ^ 22) (hl : (seV ks n x ks).2.length ≤ 8) : jMet (d + 7) yX11_tellsAs cX11_tellsAs 4 (some .int) 0 0 [.ref 76, .int (nI 7), .int x] (tw (mX X (r)) (va_up A 99 (tr)) L) (jRi (tlV ks n x 7).1 (tw (mX X (r + (tlV ks n x 7).2.length)) (va_up A 99 (noteT r tr (tlV ks n x 7).2)) L)) := by
  refine jMet_of (by decide) (Nat.le_of_ble_eq_true rfl) none (Or.inl rfl) ?_
  show jWP none RX11 cX11_tellsAs 4 (some .int) (d + 7) 0 0 0 [some (.ref 76), some (.int (nI 7)), some (.int x), none] [] (tw (mX X (r)) (va_up A 99 (tr)) L) (jRi (tlV ks n x 7).1 (tw (mX X (r + (tlV ks n x 7).2.length)) (va_up A 99 (noteT r tr (tlV ks n x 7).2)) L))
  refine j_iload_n dX11_tellsAs_0 rfl rfl ?_
  refine j_iconst (v := nI 5) dX11_tellsAs_1 rfl ?_
  refine j_icmp_ne (tgt := 20) dX11_tellsAs_2 (by decide) (fun _ => ?_) (fun h => absurd h (by decide))
  refine j_iload_n dX11_tellsAs_20 rfl rfl ?_
  refine j_bipush (v := nI 7) dX11_tellsAs_21 rfl ?_
  refine j_icmp_ne (tgt := 41) dX11_tellsAs_23 (by decide) (fun h => absurd (by decide) h) (fun _ => ?_)
  refine j_aload_n dX11_tellsAs_26 rfl rfl ?_
  refine j_bipush (v := nI 81) dX11_tellsAs_27 rfl ?_
  refine j_callVv [.int _] [] dX11_tellsAs_29 jlk_X11_341 rfl rfl rfl rfl (Nat.le_of_ble_eq_true rfl) (m_begins (r := r) (tr := tr) (by omega)) ?_
  refine j_aload_n dX11_tellsAs_32 rfl rfl ?_
  refine j_iconst (v := nI 4) dX11_tellsAs_33 rfl ?_
  refine j_iload_n dX11_tellsAs_34 rfl rfl ?_
  refine j_callVi [.int _, .int _] [] dX11_tellsAs_35 jlk_X11_360 rfl rfl rfl rfl (Nat.le_of_ble_eq_true rfl) (m_tl_4 (r := r + 1) (tr := noteT (r) (tr) [nI 81]) hks h40 hn (by omega) hl) ?_
  refine j_iconst (v := nI 1) dX11_tellsAs_38 rfl ?_
  refine j_isub dX11_tellsAs_39 ?_
  refine j_ireturn dX11_tellsAs_40 rfl ?_
  refine ⟨rfl, tw_eq (congrArg (mX X) ?_) (congrArg (va_up A 99) ?_) rfl⟩
  · first | rfl | (simp only [seV, dnV, tlV, seB, tlB, List.length_cons, List.length_append, List.length_nil]; simp; omega)
  · first | rfl | exact (noteT_app (seB ks n x).2 (r + 1) _ (dnV ks n (nI 2) ks).2).symm | (simp [seV, dnV, tlV, seB, tlB, noteT, noteT_app, List.length_cons]; done)

theorem m_tells {x : Int32} (hks : ks < 8) (h40 : X 76 40 = nI ks) (hn : X 76 41 = n) (hr : r < 2 ^ 22) {k : Nat} (hk : k < 8) : jMet (d + 7) yX11_tellsAs cX11_tellsAs 4 (some .int) 0 0 [.ref 76, .int (nI k), .int x] (tw (mX X (r)) (va_up A 99 (tr)) L) (jRi (tlV ks n x k).1 (tw (mX X (r + (tlV ks n x k).2.length)) (va_up A 99 (noteT r tr (tlV ks n x k).2)) L)) := by
  rcases (show k = 0 ∨ k = 1 ∨ k = 2 ∨ k = 3 ∨ k = 4 ∨ k = 5 ∨ k = 6 ∨ k = 7 by omega) with rfl | rfl | rfl | rfl | rfl | rfl | rfl | rfl
  · exact m_tl_0 (d := d + 1) hks h40 hn (by omega) (seV_len ks n x ks)
  · exact m_tl_1 (d := d + 1) hks h40 hn (by omega) (seV_len ks n x ks)
  · exact m_tl_2 (d := d + 1) hks h40 hn (by omega) (seV_len ks n x ks)
  · exact m_tl_3 (d := d + 1) hks h40 hn (by omega) (seV_len ks n x ks)
  · exact m_tl_4 (d := d + 1) hks h40 hn (by omega) (seV_len ks n x ks)
  · exact m_tl_5 (d := d + 0) hks h40 hn (by omega) (seV_len ks n x ks)
  · exact m_tl_6 (d := d + 1) hks h40 hn (by omega) (seV_len ks n x ks)
  · exact m_tl_7 (d := d + 0) hks h40 hn (by omega) (seV_len ks n x ks)

set_option maxHeartbeats 200000 in
set_option maxRecDepth 100000 in
theorem m_act_no (hb : X 76 36 = nI nb) (hb50 : nb ≤ 50) {c a x : Int32} (h : isA nb c = nI 0) : jMet (d + 8) yX11_act cX11_act 4 (some .int) 0 0 [.ref 76, .int c, .int a, .int x] (tw X A L) (jRi (nI 0) (tw (mX X 0) A L)) := by
  refine jMet_of (by decide) (Nat.le_of_ble_eq_true rfl) none (Or.inl rfl) ?_
  show jWP none RX11 cX11_act 4 (some .int) (d + 8) 0 0 0 [some (.ref 76), some (.int c), some (.int a), some (.int x)] [] (tw X A L) (jRi (nI 0) (tw (mX X 0) A L))
  refine j_aload_n dX11_act_0 rfl rfl ?_
  refine j_iconst (v := nI 0) dX11_act_1 rfl ?_
  refine t_putI dX11_act_2 jfl_X11_338 (fun _ _ _ => rfl) (fun _ _ => rfl) (Nat.le_of_ble_eq_true rfl) rfl rfl ?_
  refine j_aload_n dX11_act_5 rfl rfl ?_
  refine j_iload_n dX11_act_6 rfl rfl ?_
  refine j_callVi [.int _] [] dX11_act_7 jlk_X11_363 rfl rfl rfl rfl (Nat.le_of_ble_eq_true rfl) (jMet_i (m_isBd (show mX X 0 76 36 = nI nb from (mX_n _ _ (by decide)).trans hb) hb50) h rfl) ?_
  refine j_if_ne (tgt := 15) dX11_act_10 (by decide) (fun h => absurd (by decide) h) (fun _ => ?_)
  refine j_iconst (v := nI 0) dX11_act_13 rfl ?_
  refine j_ireturn dX11_act_14 rfl ?_
  exact ⟨rfl, rfl⟩

set_option maxHeartbeats 200000 in
set_option maxRecDepth 100000 in
theorem m_act_0 (hb : X 76 36 = nI nb) (hb50 : nb ≤ 50) (hk : A 98 = nIf kd) {b : Nat} (hbn : b < nb) (hkd : kd b < 8) {x : Int32} : jMet (d + 8) yX11_act cX11_act 4 (some .int) 0 0 [.ref 76, .int (nI b), .int (nI 0), .int x] (tw X A L) (jRi (wrV (nI b) x (kd b)).1 (tw (mX (va_up X 76 (upd (upd (X 76) 40 (nI (kd b))) 41 (nI b))) (wrV (nI b) x (kd b)).2.length) (va_up A 99 (noteT 0 (A 99) (wrV (nI b) x (kd b)).2)) L)) := by
  refine jMet_of (by decide) (Nat.le_of_ble_eq_true rfl) none (Or.inl rfl) ?_
  show jWP none RX11 cX11_act 4 (some .int) (d + 8) 0 0 0 [some (.ref 76), some (.int (nI b)), some (.int (nI 0)), some (.int x)] [] (tw X A L) (jRi (wrV (nI b) x (kd b)).1 (tw (mX (va_up X 76 (upd (upd (X 76) 40 (nI (kd b))) 41 (nI b))) (wrV (nI b) x (kd b)).2.length) (va_up A 99 (noteT 0 (A 99) (wrV (nI b) x (kd b)).2)) L))
  refine j_aload_n dX11_act_0 rfl rfl ?_
  refine j_iconst (v := nI 0) dX11_act_1 rfl ?_
  refine t_putI dX11_act_2 jfl_X11_338 (fun _ _ _ => rfl) (fun _ _ => rfl) (Nat.le_of_ble_eq_true rfl) rfl rfl ?_
  refine j_aload_n dX11_act_5 rfl rfl ?_
  refine j_iload_n dX11_act_6 rfl rfl ?_
  refine j_callVi [.int _] [] dX11_act_7 jlk_X11_363 rfl rfl rfl rfl (Nat.le_of_ble_eq_true rfl) (jMet_i (m_isBd (show mX X 0 76 36 = nI nb from (mX_n _ _ (by decide)).trans hb) hb50) (isA_in hbn (by omega)) rfl) ?_
  refine j_if_ne (tgt := 15) dX11_act_10 (by decide) (fun _ => ?_) (fun h => absurd h (by decide))
  refine j_aload_n dX11_act_15 rfl rfl ?_
  refine j_aload_n dX11_act_16 rfl rfl ?_
  refine t_getR (b := 98) dX11_act_17 jfl_X11_76 (fun _ _ _ => rfl) rfl ?_
  refine j_iload_n dX11_act_20 rfl rfl ?_
  refine t_iaload dX11_act_21 (fun _ _ _ => rfl) (by omega) (by decide) ?_
  refine j_topE (e' := nI (kd b)) (by rw [hk]; rfl) ?_
  refine t_putI dX11_act_22 jfl_X11_354 (fun _ _ _ => rfl) (fun _ _ => rfl) (Nat.le_of_ble_eq_true rfl) rfl rfl ?_
  refine j_aload_n dX11_act_25 rfl rfl ?_
  refine j_iload_n dX11_act_26 rfl rfl ?_
  refine t_putI dX11_act_27 jfl_X11_348 (fun _ _ _ => rfl) (fun _ _ => rfl) (Nat.le_of_ble_eq_true rfl) rfl rfl ?_
  refine j_iload_n dX11_act_30 rfl rfl ?_
  refine j_tableIn (off := 29) (tgt := 60) dX11_act_31 (by decide) (by decide) (by decide) (by decide) ?_
  refine j_aload_n dX11_act_60 rfl rfl ?_
  refine j_aload_n dX11_act_61 rfl rfl ?_
  refine t_getI dX11_act_62 jfl_X11_354 (fun _ _ _ => rfl) (fun _ => rfl) ?_
  refine j_topE (e' := nI (kd b)) (by rw [vu_s, ud_n _ _ _ (by decide), vu_s, ud_s]) ?_
  refine j_iload_n dX11_act_65 rfl rfl ?_
  refine j_atw (show tw (va_up (va_up (mX X 0) 76 (upd (mX X 0 76) 40 (nI (kd b)))) 76 (upd (va_up (mX X 0) 76 (upd (mX X 0 76) 40 (nI (kd b))) 76) 41 (nI b))) A L = tw (mX (va_up X 76 (upd (upd (X 76) 40 (nI (kd b))) 41 (nI b))) 0) (va_up A 99 (A 99)) L from tw_eq (act_w _ _ _) (vu_self _ _).symm rfl) ?_
  refine j_callVi [.int _, .int _] [] dX11_act_66 jlk_X11_345 rfl rfl rfl rfl (Nat.le_of_ble_eq_true rfl) (m_writes (d := d + 5) (X := (va_up X 76 (upd (upd (X 76) 40 (nI (kd b))) 41 (nI b)))) (r := 0) (tr := A 99) (n := nI b) (by rw [vu_s, ud_s]) (by decide) hkd) ?_
  refine j_ireturn dX11_act_69 rfl ?_
  refine ⟨rfl, ?_⟩
  rw [Nat.zero_add]

set_option maxHeartbeats 200000 in
set_option maxRecDepth 100000 in
theorem m_act_1 (hb : X 76 36 = nI nb) (hb50 : nb ≤ 50) (hk : A 98 = nIf kd) {b : Nat} (hbn : b < nb) (hkd : kd b < 8) {x : Int32} : jMet (d + 8) yX11_act cX11_act 4 (some .int) 0 0 [.ref 76, .int (nI b), .int (nI 1), .int x] (tw X A L) (jRi (seV (kd b) (nI b) x (kd b)).1 (tw (mX (va_up X 76 (upd (upd (X 76) 40 (nI (kd b))) 41 (nI b))) (seV (kd b) (nI b) x (kd b)).2.length) (va_up A 99 (noteT 0 (A 99) (seV (kd b) (nI b) x (kd b)).2)) L)) := by
  refine jMet_of (by decide) (Nat.le_of_ble_eq_true rfl) none (Or.inl rfl) ?_
  show jWP none RX11 cX11_act 4 (some .int) (d + 8) 0 0 0 [some (.ref 76), some (.int (nI b)), some (.int (nI 1)), some (.int x)] [] (tw X A L) (jRi (seV (kd b) (nI b) x (kd b)).1 (tw (mX (va_up X 76 (upd (upd (X 76) 40 (nI (kd b))) 41 (nI b))) (seV (kd b) (nI b) x (kd b)).2.length) (va_up A 99 (noteT 0 (A 99) (seV (kd b) (nI b) x (kd b)).2)) L))
  refine j_aload_n dX11_act_0 rfl rfl ?_
  refine j_iconst (v := nI 0) dX11_act_1 rfl ?_
  refine t_putI dX11_act_2 jfl_X11_338 (fun _ _ _ => rfl) (fun _ _ => rfl) (Nat.le_of_ble_eq_true rfl) rfl rfl ?_
  refine j_aload_n dX11_act_5 rfl rfl ?_
  refine j_iload_n dX11_act_6 rfl rfl ?_
  refine j_callVi [.int _] [] dX11_act_7 jlk_X11_363 rfl rfl rfl rfl (Nat.le_of_ble_eq_true rfl) (jMet_i (m_isBd (show mX X 0 76 36 = nI nb from (mX_n _ _ (by decide)).trans hb) hb50) (isA_in hbn (by omega)) rfl) ?_
  refine j_if_ne (tgt := 15) dX11_act_10 (by decide) (fun _ => ?_) (fun h => absurd h (by decide))
  refine j_aload_n dX11_act_15 rfl rfl ?_
  refine j_aload_n dX11_act_16 rfl rfl ?_
  refine t_getR (b := 98) dX11_act_17 jfl_X11_76 (fun _ _ _ => rfl) rfl ?_
  refine j_iload_n dX11_act_20 rfl rfl ?_
  refine t_iaload dX11_act_21 (fun _ _ _ => rfl) (by omega) (by decide) ?_
  refine j_topE (e' := nI (kd b)) (by rw [hk]; rfl) ?_
  refine t_putI dX11_act_22 jfl_X11_354 (fun _ _ _ => rfl) (fun _ _ => rfl) (Nat.le_of_ble_eq_true rfl) rfl rfl ?_
  refine j_aload_n dX11_act_25 rfl rfl ?_
  refine j_iload_n dX11_act_26 rfl rfl ?_
  refine t_putI dX11_act_27 jfl_X11_348 (fun _ _ _ => rfl) (fun _ _ => rfl) (Nat.le_of_ble_eq_true rfl) rfl rfl ?_
  refine j_iload_n dX11_act_30 rfl rfl ?_
  refine j_tableIn (off := 39) (tgt := 70) dX11_act_31 (by decide) (by decide) (by decide) (by decide) ?_
  refine j_aload_n dX11_act_70 rfl rfl ?_
  refine j_aload_n dX11_act_71 rfl rfl ?_
  refine t_getI dX11_act_72 jfl_X11_354 (fun _ _ _ => rfl) (fun _ => rfl) ?_
  refine j_topE (e' := nI (kd b)) (by rw [vu_s, ud_n _ _ _ (by decide), vu_s, ud_s]) ?_
  refine j_iload_n dX11_act_75 rfl rfl ?_
  refine j_atw (show tw (va_up (va_up (mX X 0) 76 (upd (mX X 0 76) 40 (nI (kd b)))) 76 (upd (va_up (mX X 0) 76 (upd (mX X 0 76) 40 (nI (kd b))) 76) 41 (nI b))) A L = tw (mX (va_up X 76 (upd (upd (X 76) 40 (nI (kd b))) 41 (nI b))) 0) (va_up A 99 (A 99)) L from tw_eq (act_w _ _ _) (vu_self _ _).symm rfl) ?_
  refine j_callVi [.int _, .int _] [] dX11_act_76 jlk_X11_351 rfl rfl rfl rfl (Nat.le_of_ble_eq_true rfl) (m_seals (d := d + 2) (X := (va_up X 76 (upd (upd (X 76) 40 (nI (kd b))) 41 (nI b)))) (r := 0) (tr := A 99) (ks := kd b) hkd (by rw [vu_s, ud_n _ _ _ (by decide), ud_s]) (n := nI b) (by rw [vu_s, ud_s]) (by decide) hkd) ?_
  refine j_ireturn dX11_act_79 rfl ?_
  refine ⟨rfl, ?_⟩
  rw [Nat.zero_add]

set_option maxHeartbeats 200000 in
set_option maxRecDepth 100000 in
theorem m_act_2 (hb : X 76 36 = nI nb) (hb50 : nb ≤ 50) (hk : A 98 = nIf kd) {b : Nat} (hbn : b < nb) (hkd : kd b < 8) {x : Int32} : jMet (d + 8) yX11_act cX11_act 4 (some .int) 0 0 [.ref 76, .int (nI b), .int (nI 2), .int x] (tw X A L) (jRi (dnV (kd b) (nI b) x (kd b)).1 (tw (mX (va_up X 76 (upd (upd (X 76) 40 (nI (kd b))) 41 (nI b))) (dnV (kd b) (nI b) x (kd b)).2.length) (va_up A 99 (noteT 0 (A 99) (dnV (kd b) (nI b) x (kd b)).2)) L)) := by
  refine jMet_of (by decide) (Nat.le_of_ble_eq_true rfl) none (Or.inl rfl) ?_
  show jWP none RX11 cX11_act 4 (some .int) (d + 8) 0 0 0 [some (.ref 76), some (.int (nI b)), some (.int (nI 2)), some (.int x)] [] (tw X A L) (jRi (dnV (kd b) (nI b) x (kd b)).1 (tw (mX (va_up X 76 (upd (upd (X 76) 40 (nI (kd b))) 41 (nI b))) (dnV (kd b) (nI b) x (kd b)).2.length) (va_up A 99 (noteT 0 (A 99) (dnV (kd b) (nI b) x (kd b)).2)) L))
  refine j_aload_n dX11_act_0 rfl rfl ?_
  refine j_iconst (v := nI 0) dX11_act_1 rfl ?_
  refine t_putI dX11_act_2 jfl_X11_338 (fun _ _ _ => rfl) (fun _ _ => rfl) (Nat.le_of_ble_eq_true rfl) rfl rfl ?_
  refine j_aload_n dX11_act_5 rfl rfl ?_
  refine j_iload_n dX11_act_6 rfl rfl ?_
  refine j_callVi [.int _] [] dX11_act_7 jlk_X11_363 rfl rfl rfl rfl (Nat.le_of_ble_eq_true rfl) (jMet_i (m_isBd (show mX X 0 76 36 = nI nb from (mX_n _ _ (by decide)).trans hb) hb50) (isA_in hbn (by omega)) rfl) ?_
  refine j_if_ne (tgt := 15) dX11_act_10 (by decide) (fun _ => ?_) (fun h => absurd h (by decide))
  refine j_aload_n dX11_act_15 rfl rfl ?_
  refine j_aload_n dX11_act_16 rfl rfl ?_
  refine t_getR (b := 98) dX11_act_17 jfl_X11_76 (fun _ _ _ => rfl) rfl ?_
  refine j_iload_n dX11_act_20 rfl rfl ?_
  refine t_iaload dX11_act_21 (fun _ _ _ => rfl) (by omega) (by decide) ?_
  refine j_topE (e' := nI (kd b)) (by rw [hk]; rfl) ?_
  refine t_putI dX11_act_22 jfl_X11_354 (fun _ _ _ => rfl) (fun _ _ => rfl) (Nat.le_of_ble_eq_true rfl) rfl rfl ?_
  refine j_aload_n dX11_act_25 rfl rfl ?_
  refine j_iload_n dX11_act_26 rfl rfl ?_
  refine t_putI dX11_act_27 jfl_X11_348 (fun _ _ _ => rfl) (fun _ _ => rfl) (Nat.le_of_ble_eq_true rfl) rfl rfl ?_
  refine j_iload_n dX11_act_30 rfl rfl ?_
  refine j_tableIn (off := 49) (tgt := 80) dX11_act_31 (by decide) (by decide) (by decide) (by decide) ?_
  refine j_aload_n dX11_act_80 rfl rfl ?_
  refine j_aload_n dX11_act_81 rfl rfl ?_
  refine t_getI dX11_act_82 jfl_X11_354 (fun _ _ _ => rfl) (fun _ => rfl) ?_
  refine j_topE (e' := nI (kd b)) (by rw [vu_s, ud_n _ _ _ (by decide), vu_s, ud_s]) ?_
  refine j_iload_n dX11_act_85 rfl rfl ?_
  refine j_atw (show tw (va_up (va_up (mX X 0) 76 (upd (mX X 0 76) 40 (nI (kd b)))) 76 (upd (va_up (mX X 0) 76 (upd (mX X 0 76) 40 (nI (kd b))) 76) 41 (nI b))) A L = tw (mX (va_up X 76 (upd (upd (X 76) 40 (nI (kd b))) 41 (nI b))) 0) (va_up A 99 (A 99)) L from tw_eq (act_w _ _ _) (vu_self _ _).symm rfl) ?_
  refine j_callVi [.int _, .int _] [] dX11_act_86 jlk_X11_357 rfl rfl rfl rfl (Nat.le_of_ble_eq_true rfl) (m_dances (d := d + 4) (X := (va_up X 76 (upd (upd (X 76) 40 (nI (kd b))) 41 (nI b)))) (r := 0) (tr := A 99) (ks := kd b) hkd (by rw [vu_s, ud_n _ _ _ (by decide), ud_s]) (n := nI b) (by rw [vu_s, ud_s]) (by decide) hkd) ?_
  refine j_ireturn dX11_act_89 rfl ?_
  refine ⟨rfl, ?_⟩
  rw [Nat.zero_add]

set_option maxHeartbeats 200000 in
set_option maxRecDepth 100000 in
theorem m_act_3 (hb : X 76 36 = nI nb) (hb50 : nb ≤ 50) (hk : A 98 = nIf kd) {b : Nat} (hbn : b < nb) (hkd : kd b < 8) {x : Int32} : jMet (d + 8) yX11_act cX11_act 4 (some .int) 0 0 [.ref 76, .int (nI b), .int (nI 3), .int x] (tw X A L) (jRi (tlV (kd b) (nI b) x (kd b)).1 (tw (mX (va_up X 76 (upd (upd (X 76) 40 (nI (kd b))) 41 (nI b))) (tlV (kd b) (nI b) x (kd b)).2.length) (va_up A 99 (noteT 0 (A 99) (tlV (kd b) (nI b) x (kd b)).2)) L)) := by
  refine jMet_of (by decide) (Nat.le_of_ble_eq_true rfl) none (Or.inl rfl) ?_
  show jWP none RX11 cX11_act 4 (some .int) (d + 8) 0 0 0 [some (.ref 76), some (.int (nI b)), some (.int (nI 3)), some (.int x)] [] (tw X A L) (jRi (tlV (kd b) (nI b) x (kd b)).1 (tw (mX (va_up X 76 (upd (upd (X 76) 40 (nI (kd b))) 41 (nI b))) (tlV (kd b) (nI b) x (kd b)).2.length) (va_up A 99 (noteT 0 (A 99) (tlV (kd b) (nI b) x (kd b)).2)) L))
  refine j_aload_n dX11_act_0 rfl rfl ?_
  refine j_iconst (v := nI 0) dX11_act_1 rfl ?_
  refine t_putI dX11_act_2 jfl_X11_338 (fun _ _ _ => rfl) (fun _ _ => rfl) (Nat.le_of_ble_eq_true rfl) rfl rfl ?_
  refine j_aload_n dX11_act_5 rfl rfl ?_
  refine j_iload_n dX11_act_6 rfl rfl ?_
  refine j_callVi [.int _] [] dX11_act_7 jlk_X11_363 rfl rfl rfl rfl (Nat.le_of_ble_eq_true rfl) (jMet_i (m_isBd (show mX X 0 76 36 = nI nb from (mX_n _ _ (by decide)).trans hb) hb50) (isA_in hbn (by omega)) rfl) ?_
  refine j_if_ne (tgt := 15) dX11_act_10 (by decide) (fun _ => ?_) (fun h => absurd h (by decide))
  refine j_aload_n dX11_act_15 rfl rfl ?_
  refine j_aload_n dX11_act_16 rfl rfl ?_
  refine t_getR (b := 98) dX11_act_17 jfl_X11_76 (fun _ _ _ => rfl) rfl ?_
  refine j_iload_n dX11_act_20 rfl rfl ?_
  refine t_iaload dX11_act_21 (fun _ _ _ => rfl) (by omega) (by decide) ?_
  refine j_topE (e' := nI (kd b)) (by rw [hk]; rfl) ?_
  refine t_putI dX11_act_22 jfl_X11_354 (fun _ _ _ => rfl) (fun _ _ => rfl) (Nat.le_of_ble_eq_true rfl) rfl rfl ?_
  refine j_aload_n dX11_act_25 rfl rfl ?_
  refine j_iload_n dX11_act_26 rfl rfl ?_
  refine t_putI dX11_act_27 jfl_X11_348 (fun _ _ _ => rfl) (fun _ _ => rfl) (Nat.le_of_ble_eq_true rfl) rfl rfl ?_
  refine j_iload_n dX11_act_30 rfl rfl ?_
  refine j_tableIn (off := 59) (tgt := 90) dX11_act_31 (by decide) (by decide) (by decide) (by decide) ?_
  refine j_aload_n dX11_act_90 rfl rfl ?_
  refine j_aload_n dX11_act_91 rfl rfl ?_
  refine t_getI dX11_act_92 jfl_X11_354 (fun _ _ _ => rfl) (fun _ => rfl) ?_
  refine j_topE (e' := nI (kd b)) (by rw [vu_s, ud_n _ _ _ (by decide), vu_s, ud_s]) ?_
  refine j_iload_n dX11_act_95 rfl rfl ?_
  refine j_atw (show tw (va_up (va_up (mX X 0) 76 (upd (mX X 0 76) 40 (nI (kd b)))) 76 (upd (va_up (mX X 0) 76 (upd (mX X 0 76) 40 (nI (kd b))) 76) 41 (nI b))) A L = tw (mX (va_up X 76 (upd (upd (X 76) 40 (nI (kd b))) 41 (nI b))) 0) (va_up A 99 (A 99)) L from tw_eq (act_w _ _ _) (vu_self _ _).symm rfl) ?_
  refine j_callVi [.int _, .int _] [] dX11_act_96 jlk_X11_360 rfl rfl rfl rfl (Nat.le_of_ble_eq_true rfl) (m_tells (d := d + 0) (X := (va_up X 76 (upd (upd (X 76) 40 (nI (kd b))) 41 (nI b)))) (r := 0) (tr := A 99) (ks := kd b) hkd (by rw [vu_s, ud_n _ _ _ (by decide), ud_s]) (n := nI b) (by rw [vu_s, ud_s]) (by decide) hkd) ?_
  refine j_ireturn dX11_act_99 rfl ?_
  refine ⟨rfl, ?_⟩
  rw [Nat.zero_add]

set_option maxHeartbeats 200000 in
set_option maxRecDepth 100000 in
theorem m_act_no2 (hb : X 76 36 = nI nb) (hb50 : nb ≤ 50) (hk : A 98 = nIf kd) {b : Nat} (hbn : b < nb) {a x : Int32} (h : isA 4 a = nI 0) : jMet (d + 8) yX11_act cX11_act 4 (some .int) 0 0 [.ref 76, .int (nI b), .int a, .int x] (tw X A L) (jRi (nI 0) (tw (mX (va_up X 76 (upd (upd (X 76) 40 (nI (kd b))) 41 (nI b))) 0) A L)) := by
  refine jMet_of (by decide) (Nat.le_of_ble_eq_true rfl) none (Or.inl rfl) ?_
  show jWP none RX11 cX11_act 4 (some .int) (d + 8) 0 0 0 [some (.ref 76), some (.int (nI b)), some (.int a), some (.int x)] [] (tw X A L) (jRi (nI 0) (tw (mX (va_up X 76 (upd (upd (X 76) 40 (nI (kd b))) 41 (nI b))) 0) A L))
  refine j_aload_n dX11_act_0 rfl rfl ?_
  refine j_iconst (v := nI 0) dX11_act_1 rfl ?_
  refine t_putI dX11_act_2 jfl_X11_338 (fun _ _ _ => rfl) (fun _ _ => rfl) (Nat.le_of_ble_eq_true rfl) rfl rfl ?_
  refine j_aload_n dX11_act_5 rfl rfl ?_
  refine j_iload_n dX11_act_6 rfl rfl ?_
  refine j_callVi [.int _] [] dX11_act_7 jlk_X11_363 rfl rfl rfl rfl (Nat.le_of_ble_eq_true rfl) (jMet_i (m_isBd (show mX X 0 76 36 = nI nb from (mX_n _ _ (by decide)).trans hb) hb50) (isA_in hbn (by omega)) rfl) ?_
  refine j_if_ne (tgt := 15) dX11_act_10 (by decide) (fun _ => ?_) (fun h => absurd h (by decide))
  refine j_aload_n dX11_act_15 rfl rfl ?_
  refine j_aload_n dX11_act_16 rfl rfl ?_
  refine t_getR (b := 98) dX11_act_17 jfl_X11_76 (fun _ _ _ => rfl) rfl ?_
  refine j_iload_n dX11_act_20 rfl rfl ?_
  refine t_iaload dX11_act_21 (fun _ _ _ => rfl) (by omega) (by decide) ?_
  refine j_topE (e' := nI (kd b)) (by rw [hk]; rfl) ?_
  refine t_putI dX11_act_22 jfl_X11_354 (fun _ _ _ => rfl) (fun _ _ => rfl) (Nat.le_of_ble_eq_true rfl) rfl rfl ?_
  refine j_aload_n dX11_act_25 rfl rfl ?_
  refine j_iload_n dX11_act_26 rfl rfl ?_
  refine t_putI dX11_act_27 jfl_X11_348 (fun _ _ _ => rfl) (fun _ _ => rfl) (Nat.le_of_ble_eq_true rfl) rfl rfl ?_
  refine j_iload_n dX11_act_30 rfl rfl ?_
  refine j_tableOut (tgt := 100) dX11_act_31 (sw_out (n := 4) (by rcases pk_ix a (n := 4) (by decide) with q | q | ⟨j, hj, rfl⟩; exact Or.inl q; exact Or.inr q; rw [isA_in hj (by decide)] at h; exact absurd h (by decide)) (by decide)) (by decide) ?_
  refine j_iconst (v := nI 0) dX11_act_100 rfl ?_
  refine j_ireturn dX11_act_101 rfl ?_
  refine ⟨rfl, tw_eq (act_w _ _ _) rfl rfl⟩

end CT46