def tX (X : Nat → Nat → Int32) (t : Nat) : Nat → Nat → Int32 := va_up X 35 (upd (X 35) 3 (nI t))
theorem tX_3 (X : Nat → Nat → Int32) (t : Nat) (O : Nat → Int32) : cX (tX X t) 39 O 35 3 = nI t := by
  rw [cX_n _ _ (by decide)]
  unfold tX
  rw [vu_s, pk_us]
theorem tX_n (X : Nat → Nat → Int32) (t : Nat) (O : Nat → Int32) {c : Nat} (h1 : c ≠ 35) (h2 : c ≠ 39) : cX (tX X t) 39 O c = X c := by
  rw [cX_n _ _ h2]
  exact vu_n _ _ _ h1
theorem tX_up (X : Nat → Nat → Int32) (t t' : Nat) (O : Nat → Int32) : va_up (cX (tX X t) 39 O) 35 (upd (cX (tX X t) 39 O 35) 3 (nI t')) = cX (tX X t') 39 O := by
  rw [cX_vu _ _ _ (by decide), cX_n _ _ (by decide)]
  unfold tX
  rw [vu_up, vu_s, ud_ud]
theorem tA_up {A : Nat → Nat → Int32} {B : Nat} (hB : isB B) {h O S f g : Nat → Int32} {i : Nat} {x : Int32} : va_up (scr (cA (va_up A 36 h) 39 O S) B f g) 36 (upd (scr (cA (va_up A 36 h) 39 O S) B f g 36) i x) = scr (cA (va_up A 36 (upd h i x)) 39 O S) B f g := by
  have := isB_34 hB
  rw [scr_vu _ _ _ _ (by omega) (by omega), cA_vu _ _ _ _ (by decide) (by decide) (by decide), vu_up, scr_n _ _ _ _ (by omega) (by omega), cA_n _ _ _ (by decide) (by decide) (by decide), vu_s]
theorem plP_neg {o : Option (Nat × Int32)} (h : ¬ 0 ≤ plP o) (h2 : ∀ q, o = some q → q.1 < 49) : o = none := by
  cases o with
  | none => rfl
  | some q => exact absurd (Int32.not_lt.mp (nI_pos (Nat.lt_trans (h2 q rfl) (by decide)))) h
theorem plP_pos {o : Option (Nat × Int32)} (h : 0 ≤ plP o) : o.isSome = true := by
  cases o with
  | none => exact absurd h (by decide)
  | some q => rfl
theorem plP_neg' {o : Option (Nat × Int32)} (h : plP o < 0) (h2 : ∀ q, o = some q → q.1 < 49) : o = none := plP_neg (Int32.not_le.mpr h) h2
section CT15
variable {d : Nat} {X A : Nat → Nat → Int32} {L : Nat → Nat → Int64} {w : jW} {B : Nat} {cd vl st an en : Nat → Nat} {n na : Nat} {v : Nat → Nat}

set_option maxHeartbeats 4000000 in
set_option maxRecDepth 100000 in
theorem l_X9_tell (hr : rul B cd vl st an en n na v X A) {S ln : Nat} (hS : isSh S) (hh : X S 0 = nI 2) (hln : X S 3 = nI ln) (l60 : ln ≤ 60) {c0 : cS} (hc0 : zb 49 c0.1 ∧ zb 49 c0.2) {N K : Nat} : ∀ (m i : Nat) (h f g : Nat → Int32), i + m = 30 → saC (saB na ln (rE L S)) m i = N → (ruS (RkC cd vl st an en n v) (ev (rE L S)) (od (rE L S)) c0 i).2 = true → (∀ k, k < i → h k = (clS (RkC cd vl st an en n v) (ev (rE L S)) (od (rE L S)) c0 k)) → jWP none RX9 cX9_tell 5 (some .int) (d + 5) 0 0 15 [some (.ref 35), some (.ref S), some (.ref K), some (.int (nI i)), none] [] (tw (cX (tX X i) 39 (ruS (RkC cd vl st an en n v) (ev (rE L S)) (od (rE L S)) c0 i).1.1) (scr (cA (va_up A 36 h) 39 (ruS (RkC cd vl st an en n v) (ev (rE L S)) (od (rE L S)) c0 i).1.1 (ruS (RkC cd vl st an en n v) (ev (rE L S)) (od (rE L S)) c0 i).1.2) B f g) L) ((fun z w => z = some (.int (nI (wnS (RkC cd vl st an en n v) (ev (rE L S)) (od (rE L S)) c0 N))) ∧ ∃ h f g, w = tw (cX (tX X (wnS (RkC cd vl st an en n v) (ev (rE L S)) (od (rE L S)) c0 N)) 39 (ruS (RkC cd vl st an en n v) (ev (rE L S)) (od (rE L S)) c0 N).1.1) (scr (cA (va_up A 36 h) 39 (ruS (RkC cd vl st an en n v) (ev (rE L S)) (od (rE L S)) c0 N).1.1 (ruS (RkC cd vl st an en n v) (ev (rE L S)) (od (rE L S)) c0 N).1.2) B f g) L ∧ ∀ k, k < (wnS (RkC cd vl st an en n v) (ev (rE L S)) (od (rE L S)) c0 N) → h k = (clS (RkC cd vl st an en n v) (ev (rE L S)) (od (rE L S)) c0 k))) := by
  have hS9 : 64 ≤ S := by unfold isSh at hS; omega
  have hB := hr.1
  have hna := hr.2.2.2.2.2.2.2.2.2.2.1
  intro m
  induction m with
  | zero =>
    intro i h f g hi hN hok hh9
    refine j_iload_n dX9_tell_15 rfl rfl ?_
    refine j_bipush (v := nI 30) dX9_tell_16 rfl ?_
    refine jn_icmp_ge (tgt := 94) dX9_tell_18 (by decide) (by omega) (by omega) (fun h18 => ?_) (fun h18 => absurd h18 (by omega))
    refine j_aload_n dX9_tell_94 rfl rfl ?_
    refine t_getI dX9_tell_95 jfl_X9_17 (fun _ _ _ => rfl) (fun _ => rfl) ?_
    refine j_topE (e' := nI i) (tX_3 _ _ _) ?_
    refine j_ireturn dX9_tell_98 rfl ?_
    obtain rfl : N = i := by exact hN.symm
    have hn := wn_t hok
    exact ⟨by rw [hn], h, f, g, by rw [hn], fun k hk => hh9 k (by omega)⟩
  | succ m ih =>
    intro i h f g hi hN hok hh9
    have hz := ruS_z (Rk := (RkC cd vl st an en n v)) (a := (ev (rE L S))) (s := (od (rE L S))) hc0 i
    have hrb : rul B cd vl st an en n na v (tX X i) (va_up A 36 h) := (rul_c hr (fun c hc => vu_n _ _ _ (by omega)) (fun c hc _ _ => vu_n _ _ _ (by omega)))
    refine j_iload_n dX9_tell_15 rfl rfl ?_
    refine j_bipush (v := nI 30) dX9_tell_16 rfl ?_
    refine jn_icmp_ge (tgt := 94) dX9_tell_18 (by decide) (by omega) (by omega) (fun h18 => absurd h18 (by omega)) (fun h18 => ?_)
    refine j_aload_n dX9_tell_21 rfl rfl ?_
    refine j_aload_n dX9_tell_22 rfl rfl ?_
    refine j_iload_n dX9_tell_23 rfl rfl ?_
    refine j_callVi [.ref S, .int _] [] dX9_tell_24 jlk_X9_50 rfl rfl rfl rfl (Nat.le_of_ble_eq_true rfl) (c_X9_isSaleAt (rul_k hrb (Or.inl rfl)) hS (by rw [tX_n _ _ _ (by omega) (by omega)]; exact hh) (by rw [tX_n _ _ _ (by omega) (by omega)]; exact hln) l60 (by omega)) ?_
    refine j_if_eq (tgt := 94) dX9_tell_27 (by decide) (fun h27 => ?_) (fun h27 => ?_)
    · have h27 := bz_f h27
      refine j_aload_n dX9_tell_94 rfl rfl ?_
      refine t_getI dX9_tell_95 jfl_X9_17 (fun _ _ _ => rfl) (fun _ => rfl) ?_
      refine j_topE (e' := nI i) (tX_3 _ _ _) ?_
      refine j_ireturn dX9_tell_98 rfl ?_
      obtain rfl : N = i := by rw [← hN]; exact saC_f h27
      have hn := wn_t hok
      exact ⟨by rw [hn], h, f, g, by rw [hn], fun k hk => hh9 k (by omega)⟩
    · have h27 := bz_t h27
      have hsb := saB_1 h27
      obtain ⟨j, hj, hEj⟩ := slA_acc hna hsb.2
      have hsb1 := hsb.1
      have hiN : i < N := by rw [← hN, saC_t h27]; exact saC_ge m (i + 1)
      refine j_aload_n dX9_tell_30 rfl rfl ?_
      refine t_getR (b := 15) dX9_tell_31 jfl_X9_33 (fun _ _ _ => rfl) rfl ?_
      refine j_aload_n dX9_tell_34 rfl rfl ?_
      refine t_getR (b := 39) dX9_tell_35 jfl_X9_42 (fun _ _ _ => rfl) rfl ?_
      refine j_aload_n dX9_tell_38 rfl rfl ?_
      refine j_iconst (v := nI 2) dX9_tell_39 rfl ?_
      refine j_iload_n dX9_tell_40 rfl rfl ?_
      refine jn_imul dX9_tell_41 ?_
      refine j_callVi [.int _] [.ref 39, .ref 15] dX9_tell_42 jlk_X9_54 rfl rfl ((shS0 hS) _ _ _) rfl (Nat.le_of_ble_eq_true rfl) (c_X8_byteAt hS (by rw [tX_n _ _ _ (by omega) (by omega)]; exact hh) (by rw [tX_n _ _ _ (by omega) (by omega)]; exact hln) l60 (by omega)) ?_
      refine j_topE (e' := nI j) hEj ?_
      refine j_aload_n dX9_tell_45 rfl rfl ?_
      refine j_iconst (v := nI 2) dX9_tell_46 rfl ?_
      refine j_iload_n dX9_tell_47 rfl rfl ?_
      refine jn_imul dX9_tell_48 ?_
      refine j_iconst (v := nI 1) dX9_tell_49 rfl ?_
      refine jn_iadd dX9_tell_50 ?_
      refine j_callVi [.int _] [.int _, .ref 39, .ref 15] dX9_tell_51 jlk_X9_54 rfl rfl ((shS0 hS) _ _ _) rfl (Nat.le_of_ble_eq_true rfl) (c_X8_byteAt hS (by rw [tX_n _ _ _ (by omega) (by omega)]; exact hh) (by rw [tX_n _ _ _ (by omega) (by omega)]; exact hln) l60 (by omega)) ?_
      refine j_callV [.ref 39, .int _, .int _] [] dX9_tell_54 jlk_X9_58 rfl rfl rfl rfl (Nat.le_of_ble_eq_true rfl) (c_write hrb (Or.inl rfl) hz.1 hz.2 hj) (fun r9 w9 h9 => ?_)
      obtain ⟨rfl, f9, g9, rfl⟩ := h9
      rw [← hEj]
      refine j_atw (w' := tw (cX (tX X i) 39 (seS (RkC cd vl st an en n v) (ruS (RkC cd vl st an en n v) (ev (rE L S)) (od (rE L S)) c0 i).1 ((ev (rE L S)) i) ((od (rE L S)) i)).1) (scr (cA (va_up A 36 h) 39 (seS (RkC cd vl st an en n v) (ruS (RkC cd vl st an en n v) (ev (rE L S)) (od (rE L S)) c0 i).1 ((ev (rE L S)) i) ((od (rE L S)) i)).1 (seS (RkC cd vl st an en n v) (ruS (RkC cd vl st an en n v) (ev (rE L S)) (od (rE L S)) c0 i).1 ((ev (rE L S)) i) ((od (rE L S)) i)).2) B f9 g9) L) rfl ?_
      refine j_ats (st' := [.int (clS (RkC cd vl st an en n v) (ev (rE L S)) (od (rE L S)) c0 i)]) rfl ?_
      refine j_ats (st' := [.int _]) rfl ?_
      refine j_istore (lv' := [some (.ref 35), some (.ref S), some (.ref K), some (.int _), some (.int _)]) dX9_tell_57 (by decide) rfl ?_
      refine j_iload dX9_tell_59 rfl ?_
      refine j_if_ge (tgt := 67) dX9_tell_61 (by decide) (fun h61 => ?_) (fun h61 => ?_)
      · have hsome := plP_pos h61
        refine j_aload_n dX9_tell_67 rfl rfl ?_
        refine t_getR (b := 36) dX9_tell_68 jfl_X9_13 (fun _ _ _ => rfl) rfl ?_
        refine j_aload_n dX9_tell_71 rfl rfl ?_
        refine t_getI dX9_tell_72 jfl_X9_17 (fun _ _ _ => rfl) (fun _ => rfl) ?_
        refine j_topE (e' := nI i) (tX_3 _ _ _) ?_
        refine j_iload dX9_tell_75 rfl ?_
        refine t_iastore dX9_tell_77 (fun _ _ _ => rfl) (by omega) (by decide) ?_
        refine j_aload_n dX9_tell_78 rfl rfl ?_
        refine j_dup dX9_tell_79 rfl ?_
        refine t_getI dX9_tell_80 jfl_X9_17 (fun _ _ _ => rfl) (fun _ => rfl) ?_
        refine j_topE (e' := nI i) (tX_3 _ _ _) ?_
        refine j_iconst (v := nI 1) dX9_tell_83 rfl ?_
        refine jn_iadd dX9_tell_84 ?_
        refine t_putI dX9_tell_85 jfl_X9_17 (fun _ _ _ => rfl) (fun _ _ => rfl) (Nat.le_of_ble_eq_true rfl) rfl rfl ?_
        refine jn_iinc (lv' := [some (.ref 35), some (.ref S), some (.ref K), some (.int _), some (.int _)]) dX9_tell_88 rfl (by decide) rfl ?_
        refine j_goto (tgt := 15) dX9_tell_91 (by decide) ?_
        have hru := ru_t hok
        refine j_sub (by exact ⟨rfl, rfl, rfl, rfl, trivial⟩) (j_atw ?_ (ih (i + 1) (upd h i (clS (RkC cd vl st an en n v) (ev (rE L S)) (od (rE L S)) c0 i)) f9 g9 (by omega) (by rw [← hN]; exact (saC_t h27).symm) (by rw [hru]; exact hsome) ?_))
        · rw [tX_up, tA_up hB, hru]
        · intro k hk
          by_cases e : k = i
          · subst e; exact pk_us
          · rw [pk_un e]; exact hh9 k (by omega)
      · have hnone := plP_neg h61 (fun q hq => seP_lt hq)
        refine j_goto (tgt := 94) dX9_tell_64 (by decide) ?_
        refine j_aload_n dX9_tell_94 rfl rfl ?_
        refine t_getI dX9_tell_95 jfl_X9_17 (fun _ _ _ => rfl) (fun _ => rfl) ?_
        refine j_topE (e' := nI i) (tX_3 _ _ _) ?_
        refine j_ireturn dX9_tell_98 rfl ?_
        have hn := wn_fail hok hnone hiN
        refine ⟨by rw [hn.2.2], h, f9, g9, ?_, fun k hk => hh9 k (by omega)⟩
        rw [hn.1, hn.2.2, ru_none hnone]

set_option maxHeartbeats 4000000 in
set_option maxRecDepth 100000 in
theorem c_X9_tell (hr : rul B cd vl st an en n na v X A) {S ln : Nat} (hS : isSh S) (hh : X S 0 = nI 2) (hln : X S 3 = nI ln) (l60 : ln ≤ 60) {K : Nat} (hK : isK K) (hc : cok X A K) (hc9 : cok X A 39) : jMet (d + 5) yX9_tell cX9_tell 5 (some .int) 0 0 [.ref 35, .ref S, .ref K] (tw X A L) ((fun z w => z = some (.int (nI (wnS (RkC cd vl st an en n v) (ev (rE L S)) (od (rE L S)) (A (K + 1), A (K + 2)) (saC (saB na ln (rE L S)) 30 0)))) ∧ ∃ h f g, w = tw (cX (tX X (wnS (RkC cd vl st an en n v) (ev (rE L S)) (od (rE L S)) (A (K + 1), A (K + 2)) (saC (saB na ln (rE L S)) 30 0))) 39 (ruS (RkC cd vl st an en n v) (ev (rE L S)) (od (rE L S)) (A (K + 1), A (K + 2)) (saC (saB na ln (rE L S)) 30 0)).1.1) (scr (cA (va_up A 36 h) 39 (ruS (RkC cd vl st an en n v) (ev (rE L S)) (od (rE L S)) (A (K + 1), A (K + 2)) (saC (saB na ln (rE L S)) 30 0)).1.1 (ruS (RkC cd vl st an en n v) (ev (rE L S)) (od (rE L S)) (A (K + 1), A (K + 2)) (saC (saB na ln (rE L S)) 30 0)).1.2) B f g) L ∧ ∀ k, k < (wnS (RkC cd vl st an en n v) (ev (rE L S)) (od (rE L S)) (A (K + 1), A (K + 2)) (saC (saB na ln (rE L S)) 30 0)) → h k = (clS (RkC cd vl st an en n v) (ev (rE L S)) (od (rE L S)) (A (K + 1), A (K + 2)) k))) := by
  refine jMet_of (by decide) (Nat.le_of_ble_eq_true rfl) none (Or.inl rfl) ?_
  show jWP none RX9 cX9_tell 5 (some .int) (d + 5) 0 0 0 [some (.ref 35), some (.ref S), some (.ref K), none, none] [] (tw X A L) ((fun z w => z = some (.int (nI (wnS (RkC cd vl st an en n v) (ev (rE L S)) (od (rE L S)) (A (K + 1), A (K + 2)) (saC (saB na ln (rE L S)) 30 0)))) ∧ ∃ h f g, w = tw (cX (tX X (wnS (RkC cd vl st an en n v) (ev (rE L S)) (od (rE L S)) (A (K + 1), A (K + 2)) (saC (saB na ln (rE L S)) 30 0))) 39 (ruS (RkC cd vl st an en n v) (ev (rE L S)) (od (rE L S)) (A (K + 1), A (K + 2)) (saC (saB na ln (rE L S)) 30 0)).1.1) (scr (cA (va_up A 36 h) 39 (ruS (RkC cd vl st an en n v) (ev (rE L S)) (od (rE L S)) (A (K + 1), A (K + 2)) (saC (saB na ln (rE L S)) 30 0)).1.1 (ruS (RkC cd vl st an en n v) (ev (rE L S)) (od (rE L S)) (A (K + 1), A (K + 2)) (saC (saB na ln (rE L S)) 30 0)).1.2) B f g) L ∧ ∀ k, k < (wnS (RkC cd vl st an en n v) (ev (rE L S)) (od (rE L S)) (A (K + 1), A (K + 2)) (saC (saB na ln (rE L S)) 30 0)) → h k = (clS (RkC cd vl st an en n v) (ev (rE L S)) (od (rE L S)) (A (K + 1), A (K + 2)) k)))
  refine j_aload_n dX9_tell_0 rfl rfl ?_
  refine t_getR (b := 39) dX9_tell_1 jfl_X9_42 (fun _ _ _ => rfl) rfl ?_
  refine j_aload_n dX9_tell_4 rfl rfl ?_
  refine j_callVv [.ref K] [] dX9_tell_5 jlk_X9_46 rfl rfl rfl rfl (Nat.le_of_ble_eq_true rfl) (c_X0_become (Or.inl rfl) hK hc9 hc) ?_
  refine j_aload_n dX9_tell_8 rfl rfl ?_
  refine j_iconst (v := nI 0) dX9_tell_9 rfl ?_
  refine t_putI dX9_tell_10 jfl_X9_17 (fun _ _ _ => rfl) (fun _ _ => rfl) (Nat.le_of_ble_eq_true rfl) rfl rfl ?_
  refine j_iconst (v := nI 0) dX9_tell_13 rfl ?_
  refine j_istore_n (lv' := [some (.ref 35), some (.ref S), some (.ref K), some (.int _), none]) dX9_tell_14 rfl (by decide) rfl ?_
  refine j_atw ?_ (l_X9_tell (c0 := (A (K + 1), A (K + 2))) hr hS hh hln l60 ⟨hc.1, hc.2.1⟩ 30 0 (A 36) (cA A 39 (A (K + 1)) (A (K + 2)) (B + 6)) (cA A 39 (A (K + 1)) (A (K + 2)) (B + 7)) (by omega) rfl rfl (fun k hk => absurd hk (Nat.not_lt_zero k)))
  rw [vu_self]
  refine tw_eq ?_ (scr_self _ _).symm rfl
  rw [cX_vu _ _ _ (by decide), cX_n _ _ (by decide)]
  rfl

def plc (p : Nat → Nat) (m i : Nat) : Nat := if i < m then p i else i
def evp (E : Nat → Int32) (p : Nat → Nat) (m : Nat) : Nat → Int32 := fun i => E (2 * plc p m i)
def odp (E : Nat → Int32) (p : Nat → Nat) (m : Nat) : Nat → Int32 := fun i => E (2 * plc p m i + 1)
/-- what is left behind a run and a winter -/
def ouC (Rk : (Nat → Int32) → Int32 → Int32 → Nat → Int32) (E : Nat → Int32) (p : Nat → Nat) (m N wn : Nat) (c : cS) : cS :=
  winS (min wn (hN (ruS Rk (evp E p m) (odp E p m) c N).1.1)) (ruS Rk (evp E p m) (odp E p m) c N).1

set_option maxHeartbeats 4000000 in
set_option maxRecDepth 100000 in
theorem l_X9_outcome (hr : rul B cd vl st an en n na v X A) {S ln : Nat} (hS : isSh S) (hh : X S 0 = nI 2) (hln : X S 3 = nI ln) (l60 : ln ≤ 60) {c0 : cS} (hc0 : zb 49 c0.1 ∧ zb 49 c0.2) {K : Nat} {p : Nat → Nat} {m N : Nat} (hp : A 37 = nIf p) (hm : X 35 7 = nI m) (hm5 : m ≤ 5) (hN : X 35 6 = nI N) (hN30 : N ≤ 30) (hsa : ∀ i, i < N → saB na ln (rE L S) (plc p m i) = true ∧ plc p m i < 30) {wn : Nat} (hwn : wn < 2 ^ 31) {a : Int32} : ∀ (q i : Nat) (f g : Nat → Int32), i ≤ N → N - i < q → jWP none RX9 cX9_outcome 8 (some .int) (d + 5) 0 0 14 [some (.ref 35), some (.ref S), some (.ref K), some (.int a), some (.int (nI wn)), some (.int (bz (ruS (RkC cd vl st an en n v) (evp (rE L S) p m) (odp (rE L S) p m) c0 i).2)), some (.int (nI i)), none] [] (tw (cX X 39 (ruS (RkC cd vl st an en n v) (evp (rE L S) p m) (odp (rE L S) p m) c0 i).1.1) (scr (cA A 39 (ruS (RkC cd vl st an en n v) (evp (rE L S) p m) (odp (rE L S) p m) c0 i).1.1 (ruS (RkC cd vl st an en n v) (evp (rE L S) p m) (odp (rE L S) p m) c0 i).1.2) B f g) L) ((fun z w => z = some (.int (balS (ouC (RkC cd vl st an en n v) (rE L S) p m N wn c0).1 (ouC (RkC cd vl st an en n v) (rE L S) p m N wn c0).2 a 49)) ∧ ∃ f g, w = tw (cX X 39 (ouC (RkC cd vl st an en n v) (rE L S) p m N wn c0).1) (scr (cA A 39 (ouC (RkC cd vl st an en n v) (rE L S) p m N wn c0).1 (ouC (RkC cd vl st an en n v) (rE L S) p m N wn c0).2) B f g) L)) := by
  have hS9 : 64 ≤ S := by unfold isSh at hS; omega
  have hB := hr.1
  have hna := hr.2.2.2.2.2.2.2.2.2.2.1
  intro q
  induction q with
  | zero => intro i f g h1 h2; omega
  | succ q ih =>
    intro i f g hi hq
    have hz := ruS_z (Rk := (RkC cd vl st an en n v)) (a := (evp (rE L S) p m)) (s := (odp (rE L S) p m)) hc0 i
    have hck := cok_c (X := X) (A := A) (K := 39) hz.1 hz.2
    have hcs := cok_scr hB (Or.inl rfl) (f := f) (g := g) hck
    have e40 : scr (cA A 39 (ruS (RkC cd vl st an en n v) (evp (rE L S) p m) (odp (rE L S) p m) c0 i).1.1 (ruS (RkC cd vl st an en n v) (evp (rE L S) p m) (odp (rE L S) p m) c0 i).1.2) B f g (39 + 1) = (ruS (RkC cd vl st an en n v) (evp (rE L S) p m) (odp (rE L S) p m) c0 i).1.1 := by rw [scr_k hB (by omega), cA_1]
    have e41 : scr (cA A 39 (ruS (RkC cd vl st an en n v) (evp (rE L S) p m) (odp (rE L S) p m) c0 i).1.1 (ruS (RkC cd vl st an en n v) (evp (rE L S) p m) (odp (rE L S) p m) c0 i).1.2) B f g (39 + 2) = (ruS (RkC cd vl st an en n v) (evp (rE L S) p m) (odp (rE L S) p m) c0 i).1.2 := by rw [scr_k hB (by omega), cA_2]
    refine j_iload dX9_outcome_14 rfl ?_
    refine j_aload_n dX9_outcome_16 rfl rfl ?_
    refine t_getI dX9_outcome_17 jfl_X9_27 (fun _ _ _ => rfl) (fun _ => rfl) ?_
    refine j_topE (e' := nI N) (by rw [cX_n _ _ (by decide)]; exact hN) ?_
    refine jn_icmp_ge (tgt := 96) dX9_outcome_20 (by decide) (by omega) (by omega) (fun h20 => ?_) (fun h20 => ?_)
    · refine j_aload_n dX9_outcome_96 rfl rfl ?_
      refine t_getR (b := 39) dX9_outcome_97 jfl_X9_42 (fun _ _ _ => rfl) rfl ?_
      refine j_iload dX9_outcome_100 rfl ?_
      refine j_callVi [.int _] [] dX9_outcome_102 jlk_X9_99 rfl rfl rfl rfl (Nat.le_of_ble_eq_true rfl) (c_X0_eatCells (Or.inl rfl) hcs hwn) ?_
      rw [e40, e41, cX_cX, scr_cA hB (Or.inl rfl), cA_cA]
      refine j_pop dX9_outcome_105 rfl ?_
      refine j_aload_n dX9_outcome_106 rfl rfl ?_
      refine t_getR (b := 39) dX9_outcome_107 jfl_X9_42 (fun _ _ _ => rfl) rfl ?_
      refine j_iload_n dX9_outcome_110 rfl rfl ?_
      refine j_callVi [.int _] [] dX9_outcome_111 jlk_X9_72 rfl rfl rfl rfl (Nat.le_of_ble_eq_true rfl) (c_X0_balanceOf (Or.inl rfl)) ?_
      rw [scr_k hB (by omega), scr_k hB (by omega), cA_1, cA_2]
      refine j_ireturn dX9_outcome_114 rfl ?_
      obtain rfl : i = N := by omega
      exact ⟨rfl, f, g, rfl⟩
    · obtain ⟨hsb, hp30⟩ := hsa i h20
      obtain ⟨hs1, hs2⟩ := saB_1 hsb
      obtain ⟨j, hj, hEj⟩ := slA_acc hna hs2
      refine j_iload dX9_outcome_23 rfl ?_
      refine j_if_eq (tgt := 96) dX9_outcome_25 (by decide) (fun h25 => ?_) (fun h25 => ?_)
      · have h25 := bz_f h25
        refine j_aload_n dX9_outcome_96 rfl rfl ?_
        refine t_getR (b := 39) dX9_outcome_97 jfl_X9_42 (fun _ _ _ => rfl) rfl ?_
        refine j_iload dX9_outcome_100 rfl ?_
        refine j_callVi [.int _] [] dX9_outcome_102 jlk_X9_99 rfl rfl rfl rfl (Nat.le_of_ble_eq_true rfl) (c_X0_eatCells (Or.inl rfl) hcs hwn) ?_
        rw [e40, e41, cX_cX, scr_cA hB (Or.inl rfl), cA_cA]
        refine j_pop dX9_outcome_105 rfl ?_
        refine j_aload_n dX9_outcome_106 rfl rfl ?_
        refine t_getR (b := 39) dX9_outcome_107 jfl_X9_42 (fun _ _ _ => rfl) rfl ?_
        refine j_iload_n dX9_outcome_110 rfl rfl ?_
        refine j_callVi [.int _] [] dX9_outcome_111 jlk_X9_72 rfl rfl rfl rfl (Nat.le_of_ble_eq_true rfl) (c_X0_balanceOf (Or.inl rfl)) ?_
        rw [scr_k hB (by omega), scr_k hB (by omega), cA_1, cA_2]
        refine j_ireturn dX9_outcome_114 rfl ?_
        have hd := (ru_dead' h25 (N := N) (by omega)).1
        unfold ouC
        rw [hd]
        exact ⟨rfl, f, g, rfl⟩
      · have h25 := bz_t h25
        refine j_iload dX9_outcome_28 rfl ?_
        refine j_aload_n dX9_outcome_30 rfl rfl ?_
        refine t_getI dX9_outcome_31 jfl_X9_30 (fun _ _ _ => rfl) (fun _ => rfl) ?_
        refine j_topE (e' := nI m) (by rw [cX_n _ _ (by decide)]; exact hm) ?_
        refine jn_icmp_ge (tgt := 47) dX9_outcome_34 (by decide) (by omega) (by omega) (fun h34 => ?_) (fun h34 => ?_)
        · refine j_iload dX9_outcome_47 rfl ?_
          refine j_topE (e' := nI (plc p m i)) (by unfold plc; rw [if_neg (by omega)]) ?_
          refine j_istore (lv' := [some (.ref 35), some (.ref S), some (.ref K), some (.int _), some (.int _), some (.int _), some (.int _), some (.int _)]) dX9_outcome_49 (by decide) rfl ?_
          refine j_aload_n dX9_outcome_51 rfl rfl ?_
          refine t_getR (b := 15) dX9_outcome_52 jfl_X9_33 (fun _ _ _ => rfl) rfl ?_
          refine j_aload_n dX9_outcome_55 rfl rfl ?_
          refine t_getR (b := 39) dX9_outcome_56 jfl_X9_42 (fun _ _ _ => rfl) rfl ?_
          refine j_aload_n dX9_outcome_59 rfl rfl ?_
          refine j_iconst (v := nI 2) dX9_outcome_60 rfl ?_
          refine j_iload dX9_outcome_61 rfl ?_
          refine jn_imul dX9_outcome_63 ?_
          refine j_callVi [.int _] [.ref 39, .ref 15] dX9_outcome_64 jlk_X9_54 rfl rfl ((shS0 hS) _ _ _) rfl (Nat.le_of_ble_eq_true rfl) (c_X8_byteAt hS (by rw [cX_n _ _ (by omega)]; exact hh) (by rw [cX_n _ _ (by omega)]; exact hln) l60 (by omega)) ?_
          refine j_topE (e' := nI j) hEj ?_
          refine j_aload_n dX9_outcome_67 rfl rfl ?_
          refine j_iconst (v := nI 2) dX9_outcome_68 rfl ?_
          refine j_iload dX9_outcome_69 rfl ?_
          refine jn_imul dX9_outcome_71 ?_
          refine j_iconst (v := nI 1) dX9_outcome_72 rfl ?_
          refine jn_iadd dX9_outcome_73 ?_
          refine j_callVi [.int _] [.int _, .ref 39, .ref 15] dX9_outcome_74 jlk_X9_54 rfl rfl ((shS0 hS) _ _ _) rfl (Nat.le_of_ble_eq_true rfl) (c_X8_byteAt hS (by rw [cX_n _ _ (by omega)]; exact hh) (by rw [cX_n _ _ (by omega)]; exact hln) l60 (by omega)) ?_
          refine j_callV [.ref 39, .int _, .int _] [] dX9_outcome_77 jlk_X9_58 rfl rfl rfl rfl (Nat.le_of_ble_eq_true rfl) (c_write hr (Or.inl rfl) hz.1 hz.2 hj) (fun r9 w9 h9 => ?_)
          obtain ⟨rfl, f9, g9, rfl⟩ := h9
          rw [← hEj]
          refine j_atw (w' := tw (cX X 39 (seS (RkC cd vl st an en n v) (ruS (RkC cd vl st an en n v) (evp (rE L S) p m) (odp (rE L S) p m) c0 i).1 ((evp (rE L S) p m) i) ((odp (rE L S) p m) i)).1) (scr (cA A 39 (seS (RkC cd vl st an en n v) (ruS (RkC cd vl st an en n v) (evp (rE L S) p m) (odp (rE L S) p m) c0 i).1 ((evp (rE L S) p m) i) ((odp (rE L S) p m) i)).1 (seS (RkC cd vl st an en n v) (ruS (RkC cd vl st an en n v) (evp (rE L S) p m) (odp (rE L S) p m) c0 i).1 ((evp (rE L S) p m) i) ((odp (rE L S) p m) i)).2) B f9 g9) L) rfl ?_
          refine j_ats (st' := [.int (plP (seP (RkC cd vl st an en n v) (ruS (RkC cd vl st an en n v) (evp (rE L S) p m) (odp (rE L S) p m) c0 i).1 ((evp (rE L S) p m) i) ((odp (rE L S) p m) i)))]) rfl ?_
          refine j_ats (st' := [.int _]) rfl ?_
          refine j_if_lt (tgt := 87) dX9_outcome_80 (by decide) (fun h80 => ?_) (fun h80 => ?_)
          · have hnone := plP_neg' h80 (fun q hq => seP_lt hq)
            refine j_iconst (v := nI 0) dX9_outcome_87 rfl ?_
            refine j_istore (lv' := [some (.ref 35), some (.ref S), some (.ref K), some (.int _), some (.int _), some (.int _), some (.int _), some (.int _)]) dX9_outcome_88 (by decide) rfl ?_
            refine jn_iinc (lv' := [some (.ref 35), some (.ref S), some (.ref K), some (.int _), some (.int _), some (.int _), some (.int _), some (.int _)]) dX9_outcome_90 rfl (by decide) rfl ?_
            refine j_goto (tgt := 14) dX9_outcome_93 (by decide) ?_
            have hru := ru_t h25
            have e3 := ru_none hnone
            rw [hnone, e3] at hru
            rw [e3]
            refine j_sub ?_ (j_atw ?_ (ih (i + 1) f9 g9 (by omega) (by omega)))
            · rw [hru]; exact ⟨rfl, rfl, rfl, rfl, rfl, rfl, rfl, trivial⟩
            · rw [hru]
          · have hsome := plP_pos (Int32.not_lt.mp h80)
            refine j_iconst (v := nI 1) dX9_outcome_83 rfl ?_
            refine j_goto (tgt := 88) dX9_outcome_84 (by decide) ?_
            refine j_istore (lv' := [some (.ref 35), some (.ref S), some (.ref K), some (.int _), some (.int _), some (.int _), some (.int _), some (.int _)]) dX9_outcome_88 (by decide) rfl ?_
            refine jn_iinc (lv' := [some (.ref 35), some (.ref S), some (.ref K), some (.int _), some (.int _), some (.int _), some (.int _), some (.int _)]) dX9_outcome_90 rfl (by decide) rfl ?_
            refine j_goto (tgt := 14) dX9_outcome_93 (by decide) ?_
            have hru := ru_t h25
            refine j_sub ?_ (j_atw ?_ (ih (i + 1) f9 g9 (by omega) (by omega)))
            · rw [hru]; simp only [hsome]; exact ⟨rfl, rfl, rfl, rfl, rfl, rfl, rfl, trivial⟩
            · rw [hru]
        · refine j_aload_n dX9_outcome_37 rfl rfl ?_
          refine t_getR (b := 37) dX9_outcome_38 jfl_X9_21 (fun _ _ _ => rfl) rfl ?_
          refine j_iload dX9_outcome_41 rfl ?_
          refine t_iaload dX9_outcome_43 (fun _ _ _ => rfl) (by omega) (by decide) ?_
          refine j_topE (e' := nI (p i)) (by rw [scr_k hB (by decide), cA_n _ _ _ (by decide) (by decide) (by decide), hp]; rfl) ?_
          refine j_goto (tgt := 49) dX9_outcome_44 (by decide) ?_
          refine j_topE (e' := nI (plc p m i)) (by unfold plc; rw [if_pos h34]) ?_
          refine j_istore (lv' := [some (.ref 35), some (.ref S), some (.ref K), some (.int _), some (.int _), some (.int _), some (.int _), some (.int _)]) dX9_outcome_49 (by decide) rfl ?_
          refine j_aload_n dX9_outcome_51 rfl rfl ?_
          refine t_getR (b := 15) dX9_outcome_52 jfl_X9_33 (fun _ _ _ => rfl) rfl ?_
          refine j_aload_n dX9_outcome_55 rfl rfl ?_
          refine t_getR (b := 39) dX9_outcome_56 jfl_X9_42 (fun _ _ _ => rfl) rfl ?_
          refine j_aload_n dX9_outcome_59 rfl rfl ?_
          refine j_iconst (v := nI 2) dX9_outcome_60 rfl ?_
          refine j_iload dX9_outcome_61 rfl ?_
          refine jn_imul dX9_outcome_63 ?_
          refine j_callVi [.int _] [.ref 39, .ref 15] dX9_outcome_64 jlk_X9_54 rfl rfl ((shS0 hS) _ _ _) rfl (Nat.le_of_ble_eq_true rfl) (c_X8_byteAt hS (by rw [cX_n _ _ (by omega)]; exact hh) (by rw [cX_n _ _ (by omega)]; exact hln) l60 (by omega)) ?_
          refine j_topE (e' := nI j) hEj ?_
          refine j_aload_n dX9_outcome_67 rfl rfl ?_
          refine j_iconst (v := nI 2) dX9_outcome_68 rfl ?_
          refine j_iload dX9_outcome_69 rfl ?_
          refine jn_imul dX9_outcome_71 ?_
          refine j_iconst (v := nI 1) dX9_outcome_72 rfl ?_
          refine jn_iadd dX9_outcome_73 ?_
          refine j_callVi [.int _] [.int _, .ref 39, .ref 15] dX9_outcome_74 jlk_X9_54 rfl rfl ((shS0 hS) _ _ _) rfl (Nat.le_of_ble_eq_true rfl) (c_X8_byteAt hS (by rw [cX_n _ _ (by omega)]; exact hh) (by rw [cX_n _ _ (by omega)]; exact hln) l60 (by omega)) ?_
          refine j_callV [.ref 39, .int _, .int _] [] dX9_outcome_77 jlk_X9_58 rfl rfl rfl rfl (Nat.le_of_ble_eq_true rfl) (c_write hr (Or.inl rfl) hz.1 hz.2 hj) (fun r9 w9 h9 => ?_)
          obtain ⟨rfl, f9, g9, rfl⟩ := h9
          rw [← hEj]
          refine j_atw (w' := tw (cX X 39 (seS (RkC cd vl st an en n v) (ruS (RkC cd vl st an en n v) (evp (rE L S) p m) (odp (rE L S) p m) c0 i).1 ((evp (rE L S) p m) i) ((odp (rE L S) p m) i)).1) (scr (cA A 39 (seS (RkC cd vl st an en n v) (ruS (RkC cd vl st an en n v) (evp (rE L S) p m) (odp (rE L S) p m) c0 i).1 ((evp (rE L S) p m) i) ((odp (rE L S) p m) i)).1 (seS (RkC cd vl st an en n v) (ruS (RkC cd vl st an en n v) (evp (rE L S) p m) (odp (rE L S) p m) c0 i).1 ((evp (rE L S) p m) i) ((odp (rE L S) p m) i)).2) B f9 g9) L) rfl ?_
          refine j_ats (st' := [.int (plP (seP (RkC cd vl st an en n v) (ruS (RkC cd vl st an en n v) (evp (rE L S) p m) (odp (rE L S) p m) c0 i).1 ((evp (rE L S) p m) i) ((odp (rE L S) p m) i)))]) rfl ?_
          refine j_ats (st' := [.int _]) rfl ?_
          refine j_if_lt (tgt := 87) dX9_outcome_80 (by decide) (fun h80 => ?_) (fun h80 => ?_)
          · have hnone := plP_neg' h80 (fun q hq => seP_lt hq)
            refine j_iconst (v := nI 0) dX9_outcome_87 rfl ?_
            refine j_istore (lv' := [some (.ref 35), some (.ref S), some (.ref K), some (.int _), some (.int _), some (.int _), some (.int _), some (.int _)]) dX9_outcome_88 (by decide) rfl ?_
            refine jn_iinc (lv' := [some (.ref 35), some (.ref S), some (.ref K), some (.int _), some (.int _), some (.int _), some (.int _), some (.int _)]) dX9_outcome_90 rfl (by decide) rfl ?_
            refine j_goto (tgt := 14) dX9_outcome_93 (by decide) ?_
            have hru := ru_t h25
            have e3 := ru_none hnone
            rw [hnone, e3] at hru
            rw [e3]
            refine j_sub ?_ (j_atw ?_ (ih (i + 1) f9 g9 (by omega) (by omega)))
            · rw [hru]; exact ⟨rfl, rfl, rfl, rfl, rfl, rfl, rfl, trivial⟩
            · rw [hru]
          · have hsome := plP_pos (Int32.not_lt.mp h80)
            refine j_iconst (v := nI 1) dX9_outcome_83 rfl ?_
            refine j_goto (tgt := 88) dX9_outcome_84 (by decide) ?_
            refine j_istore (lv' := [some (.ref 35), some (.ref S), some (.ref K), some (.int _), some (.int _), some (.int _), some (.int _), some (.int _)]) dX9_outcome_88 (by decide) rfl ?_
            refine jn_iinc (lv' := [some (.ref 35), some (.ref S), some (.ref K), some (.int _), some (.int _), some (.int _), some (.int _), some (.int _)]) dX9_outcome_90 rfl (by decide) rfl ?_
            refine j_goto (tgt := 14) dX9_outcome_93 (by decide) ?_
            have hru := ru_t h25
            refine j_sub ?_ (j_atw ?_ (ih (i + 1) f9 g9 (by omega) (by omega)))
            · rw [hru]; simp only [hsome]; exact ⟨rfl, rfl, rfl, rfl, rfl, rfl, rfl, trivial⟩
            · rw [hru]

set_option maxHeartbeats 4000000 in
set_option maxRecDepth 100000 in
theorem c_X9_outcome (hr : rul B cd vl st an en n na v X A) {S ln : Nat} (hS : isSh S) (hh : X S 0 = nI 2) (hln : X S 3 = nI ln) (l60 : ln ≤ 60) {K : Nat} (hK : isK K) (hc : cok X A K) (hc9 : cok X A 39) {p : Nat → Nat} {m N : Nat} (hp : A 37 = nIf p) (hm : X 35 7 = nI m) (hm5 : m ≤ 5) (hN : X 35 6 = nI N) (hN30 : N ≤ 30) (hsa : ∀ i, i < N → saB na ln (rE L S) (plc p m i) = true ∧ plc p m i < 30) {wn : Nat} (hwn : wn < 2 ^ 31) {a : Int32} : jMet (d + 5) yX9_outcome cX9_outcome 8 (some .int) 0 0 [.ref 35, .ref S, .ref K, .int a, .int (nI wn)] (tw X A L) ((fun z w => z = some (.int (balS (ouC (RkC cd vl st an en n v) (rE L S) p m N wn (A (K + 1), A (K + 2))).1 (ouC (RkC cd vl st an en n v) (rE L S) p m N wn (A (K + 1), A (K + 2))).2 a 49)) ∧ ∃ f g, w = tw (cX X 39 (ouC (RkC cd vl st an en n v) (rE L S) p m N wn (A (K + 1), A (K + 2))).1) (scr (cA A 39 (ouC (RkC cd vl st an en n v) (rE L S) p m N wn (A (K + 1), A (K + 2))).1 (ouC (RkC cd vl st an en n v) (rE L S) p m N wn (A (K + 1), A (K + 2))).2) B f g) L)) := by
  refine jMet_of (by decide) (Nat.le_of_ble_eq_true rfl) none (Or.inl rfl) ?_
  show jWP none RX9 cX9_outcome 8 (some .int) (d + 5) 0 0 0 [some (.ref 35), some (.ref S), some (.ref K), some (.int a), some (.int (nI wn)), none, none, none] [] (tw X A L) ((fun z w => z = some (.int (balS (ouC (RkC cd vl st an en n v) (rE L S) p m N wn (A (K + 1), A (K + 2))).1 (ouC (RkC cd vl st an en n v) (rE L S) p m N wn (A (K + 1), A (K + 2))).2 a 49)) ∧ ∃ f g, w = tw (cX X 39 (ouC (RkC cd vl st an en n v) (rE L S) p m N wn (A (K + 1), A (K + 2))).1) (scr (cA A 39 (ouC (RkC cd vl st an en n v) (rE L S) p m N wn (A (K + 1), A (K + 2))).1 (ouC (RkC cd vl st an en n v) (rE L S) p m N wn (A (K + 1), A (K + 2))).2) B f g) L))
  refine j_aload_n dX9_outcome_0 rfl rfl ?_
  refine t_getR (b := 39) dX9_outcome_1 jfl_X9_42 (fun _ _ _ => rfl) rfl ?_
  refine j_aload_n dX9_outcome_4 rfl rfl ?_
  refine j_callVv [.ref K] [] dX9_outcome_5 jlk_X9_46 rfl rfl rfl rfl (Nat.le_of_ble_eq_true rfl) (c_X0_become (Or.inl rfl) hK hc9 hc) ?_
  refine j_iconst (v := nI 1) dX9_outcome_8 rfl ?_
  refine j_istore (lv' := [some (.ref 35), some (.ref S), some (.ref K), some (.int _), some (.int _), some (.int _), none, none]) dX9_outcome_9 (by decide) rfl ?_
  refine j_iconst (v := nI 0) dX9_outcome_11 rfl ?_
  refine j_istore (lv' := [some (.ref 35), some (.ref S), some (.ref K), some (.int _), some (.int _), some (.int _), some (.int _), none]) dX9_outcome_12 (by decide) rfl ?_
  refine j_atw ?_ (l_X9_outcome (c0 := (A (K + 1), A (K + 2))) hr hS hh hln l60 ⟨hc.1, hc.2.1⟩ hp hm hm5 hN hN30 hsa hwn (N + 1) 0 (cA A 39 (A (K + 1)) (A (K + 2)) (B + 6)) (cA A 39 (A (K + 1)) (A (K + 2)) (B + 7)) (by omega) (by omega))
  exact tw_eq rfl (scr_self _ _).symm rfl

end CT15