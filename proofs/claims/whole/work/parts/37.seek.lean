theorem min5 (N : Nat) (h : N < 2 ^ 31) : (if nI 5 < nI N then nI 5 else nI N) = nI (min N 5) := by
  by_cases q : 5 < N
  · rw [if_pos ((nI_ltI (by decide) h).mpr q), Nat.min_eq_right (by omega)]
  · rw [if_neg (fun e => q ((nI_ltI (by decide) h).mp e)), Nat.min_eq_left (by omega)]
theorem nxO_lt {m : Nat} {p q : Nat → Nat} (hm5 : m ≤ 5) (hp : ∀ i, i < m → p i < m) (h : nxO m p = some q) : ∀ i, i < m → q i < m := by
  unfold nxO at h
  by_cases h2 : m < 2
  · rw [if_pos h2] at h; cases h
  · rw [if_neg h2] at h
    obtain ⟨r, hr, rfl⟩ := Option.map_eq_some_iff.mp h
    have := riF_lt hr
    have := grF_le (p := p) (r := r) (m - 1)
    exact rvF_lt (swN_lt hp (by omega) (by omega)) (by omega)
/-- the best of the orders that follow -/
def skF (m : Nat) (ou : (Nat → Nat) → Int32) : Nat → (Nat → Nat) → Int32 → (Nat → Int32) → Int32 × (Nat → Int32)
  | 0, _, b, q => (b, q)
  | k + 1, p, b, q => match nxO m p with
    | none => (if ou p ≤ b then b else ou p, if ou p ≤ b then q else va_cpy (nIf p) q 0 0 m)
    | some p' => skF m ou k p' (if ou p ≤ b then b else ou p) (if ou p ≤ b then q else va_cpy (nIf p) q 0 0 m)
theorem skF_n {m k : Nat} {ou : (Nat → Nat) → Int32} {p : Nat → Nat} {b : Int32} {q : Nat → Int32} (h : nxO m p = none) : skF m ou (k + 1) p b q = (if ou p ≤ b then b else ou p, if ou p ≤ b then q else va_cpy (nIf p) q 0 0 m) := by
  show (match nxO m p with | none => _ | some p' => _) = _
  rw [h]
theorem skF_s {m k : Nat} {ou : (Nat → Nat) → Int32} {p p' : Nat → Nat} {b : Int32} {q : Nat → Int32} (h : nxO m p = some p') : skF m ou (k + 1) p b q = skF m ou k p' (if ou p ≤ b then b else ou p) (if ou p ≤ b then q else va_cpy (nIf p) q 0 0 m) := by
  show (match nxO m p with | none => _ | some p' => _) = _
  rw [h]
def idF (f : Nat → Int32) : Nat → (Nat → Int32)
  | 0 => f
  | i + 1 => upd (idF f i) i (nI i)
def sX (X : Nat → Nat → Int32) (N : Nat) : Nat → Nat → Int32 := va_up X 35 (upd (upd (X 35) 6 (nI N)) 7 (nI (min N 5)))
def sA (A : Nat → Nat → Int32) (p : Nat → Nat) (q : Nat → Int32) : Nat → Nat → Int32 := va_up (va_up A 37 (nIf p)) 38 q
theorem sA_n (A : Nat → Nat → Int32) (p : Nat → Nat) (q : Nat → Int32) {c : Nat} (h1 : c ≠ 37) (h2 : c ≠ 38) : sA A p q c = A c := by
  unfold sA
  rw [vu_n _ _ _ h2, vu_n _ _ _ h1]
theorem sA_37 (A : Nat → Nat → Int32) (p : Nat → Nat) (q : Nat → Int32) : sA A p q 37 = nIf p := by
  unfold sA
  rw [vu_n _ _ _ (by decide), vu_s]
theorem sA_38 (A : Nat → Nat → Int32) (p : Nat → Nat) (q : Nat → Int32) : sA A p q 38 = q := vu_s _ _ _
theorem sA_u38 (A : Nat → Nat → Int32) (p : Nat → Nat) (q q' : Nat → Int32) : va_up (sA A p q) 38 q' = sA A p q' := vu_up _ _ _ _
theorem sA_u37 (A : Nat → Nat → Int32) (p p' : Nat → Nat) (q : Nat → Int32) : va_up (sA A p q) 37 (nIf p') = sA A p' q := by
  unfold sA
  rw [vu_comm _ _ _ (by decide), vu_up]
section CT17
variable {d : Nat} {X A : Nat → Nat → Int32} {L : Nat → Nat → Int64} {w : jW} {B : Nat} {cd vl st an en : Nat → Nat} {n na : Nat} {v : Nat → Nat}
theorem c_X9_nextOrder_any {m : Nat} {p : Nat → Nat} (hm : X 35 7 = nI m) (hm5 : m ≤ 5) (hpa : A 37 = nIf p) (hp : ∀ i, i < m → p i < 5) : jMet (d + 1) yX9_nextOrder cX9_nextOrder 5 (some .boolean) 0 0 [.ref 35] (tw X A L) (jRi (match nxO m p with | none => nI 0 | some _ => nI 1) (tw X (va_up A 37 (nIf ((nxO m p).getD p))) L)) := by
  by_cases h : m < 2
  · have e : nxO m p = none := if_pos h
    rw [e]
    refine jMet_i (c_X9_nextOrder_no hm h) rfl ?_
    show tw X A L = tw X (va_up A 37 (nIf p)) L
    rw [← hpa, vu_self]
  · exact c_X9_nextOrder hm hm5 hpa hp (by omega)

set_option maxHeartbeats 200000 in
set_option maxRecDepth 100000 in
theorem l_X9_seekOrder_58 (hr : rul B cd vl st an en n na v X A) {S ln : Nat} (hS : isSh S) (hh : X S 0 = nI 2) (hln : X S 3 = nI ln) (l60 : ln ≤ 60) {N : Nat} (hN30 : N ≤ 30) (hsa : ∀ k, k < N → saB na ln (rE L S) k = true) (hc43 : cok X A 43) {wn : Nat} (hwn : wn < 2 ^ 31) {a : Int32} {R : Int32 × (Nat → Int32)} : ∀ (k i : Nat) (p : Nat → Nat) (q f g : Nat → Int32) (b : Int32) (c : cS), i + k = 120 → (∀ i, i < min N 5 → p i < min N 5) → zb 49 c.1 ∧ zb 49 c.2 → (skF (min N 5) (fun p => balS (ouC (RkC cd vl st an en n v) (rE L S) p (min N 5) N wn (A 44, A 45)).1 (ouC (RkC cd vl st an en n v) (rE L S) p (min N 5) N wn (A 44, A 45)).2 a 49) k p b q) = R → jWP none RX9 cX9_seekOrder 9 (some .int) (d + 6) 0 0 58 [some (.ref 35), some (.ref S), some (.ref 43), some (.int a), some (.int (nI wn)), some (.int b), some (.int (nI 1)), some (.int (nI i)), none] [] (tw (cX (sX X N) 39 c.1) (scr (cA (sA A p q) 39 c.1 c.2) B f g) L) ((fun z w => z = some (.int R.1) ∧ ∃ (f g : Nat → Int32) (p : Nat → Nat) (c : cS), (zb 49 c.1 ∧ zb 49 c.2) ∧ w = tw (cX (sX X N) 39 c.1) (scr (cA (sA A p R.2) 39 c.1 c.2) B f g) L)) := by
  have hS9 : 64 ≤ S := by unfold isSh at hS; omega
  have hB := hr.1
  have hna := hr.2.2.2.2.2.2.2.2.2.2.1
  have hB34 := isB_34 hB
  intro k
  induction k with
  | zero =>
    intro i p q f g b c hi hp hz hR
    refine j_iload dX9_seekOrder_58 rfl ?_
    refine j_bipush (v := nI 120) dX9_seekOrder_60 rfl ?_
    refine jn_icmp_ge (tgt := 121) dX9_seekOrder_62 (by decide) (by omega) (by omega) (fun h62 => ?_) (fun h62 => absurd h62 (by omega))
    refine j_iload dX9_seekOrder_121 rfl ?_
    refine j_ireturn dX9_seekOrder_123 rfl ?_
    obtain rfl : R = (b, q) := hR.symm
    exact ⟨rfl, f, g, p, c, hz, rfl⟩
  | succ k ih =>
    intro i p q f g b c hi hp hz hR
    have hm7 : (cX (sX X N) 39 c.1) 35 7 = nI (min N 5) := by rw [cX_n _ _ (by decide)]; unfold sX; rw [vu_s]; exact pk_us
    have hm6 : (cX (sX X N) 39 c.1) 35 6 = nI N := by rw [cX_n _ _ (by decide)]; unfold sX; rw [vu_s, pk_un (by decide)]; exact pk_us
    have hm5 : min N 5 ≤ 5 := Nat.min_le_right _ _
    have hmN : min N 5 ≤ N := Nat.min_le_left _ _
    have hrs : rul B cd vl st an en n na v (sX X N) (sA A p q) := (rul_c hr (fun c hc => vu_n _ _ _ (by omega)) (fun c hc _ _ => sA_n _ _ _ (by omega) (by omega)))
    have hcs := cok_scr (X := cX (sX X N) 39 c.1) hB (Or.inl rfl) (f := f) (g := g) (cok_c (X := sX X N) (A := sA A p q) (K := 39) hz.1 hz.2)
    have e44 : (scr (cA (sA A p q) 39 c.1 c.2) B f g) (43 + 1) = A 44 := by rw [scr_k hB (by decide), cA_n _ _ _ (by decide) (by decide) (by decide), sA_n _ _ _ (by decide) (by decide)]
    have e45 : (scr (cA (sA A p q) 39 c.1 c.2) B f g) (43 + 2) = A 45 := by rw [scr_k hB (by decide), cA_n _ _ _ (by decide) (by decide) (by decide), sA_n _ _ _ (by decide) (by decide)]
    have e46 : (scr (cA (sA A p q) 39 c.1 c.2) B f g) (43 + 3) = A 46 := by rw [scr_k hB (by decide), cA_n _ _ _ (by decide) (by decide) (by decide), sA_n _ _ _ (by decide) (by decide)]
    have e37 : (scr (cA (sA A p q) 39 c.1 c.2) B f g) 37 = nIf p := by rw [scr_k hB (by decide), cA_n _ _ _ (by decide) (by decide) (by decide), sA_37]
    have hck : cok (cX (sX X N) 39 c.1) (scr (cA (sA A p q) 39 c.1 c.2) B f g) 43 := by
      unfold cok
      rw [e44, e45, e46, cX_n _ _ (by decide)]
      unfold sX
      rw [vu_n _ _ _ (by decide)]
      exact hc43
    have hpl : ∀ i, i < N → saB na ln (rE L S) (plc p (min N 5) i) = true ∧ plc p (min N 5) i < 30 := by
      intro i hi
      have h1 : plc p (min N 5) i < N := by
        unfold plc
        split
        · exact Nat.lt_of_lt_of_le (hp i (by assumption)) hmN
        · exact hi
      exact ⟨hsa _ h1, Nat.lt_of_lt_of_le h1 hN30⟩
    have hzo : zb 49 (ouC (RkC cd vl st an en n v) (rE L S) p (min N 5) N wn (A 44, A 45)).1 ∧ zb 49 (ouC (RkC cd vl st an en n v) (rE L S) p (min N 5) N wn (A 44, A 45)).2 := winS_z (ruS_z ⟨hc43.1, hc43.2.1⟩ N).1 (ruS_z ⟨hc43.1, hc43.2.1⟩ N).2 _
    refine j_iload dX9_seekOrder_58 rfl ?_
    refine j_bipush (v := nI 120) dX9_seekOrder_60 rfl ?_
    refine jn_icmp_ge (tgt := 121) dX9_seekOrder_62 (by decide) (by omega) (by omega) (fun h62 => absurd h62 (by omega)) (fun h62 => ?_)
    refine j_iload dX9_seekOrder_65 rfl ?_
    refine j_if_eq (tgt := 121) dX9_seekOrder_67 (by decide) (fun h => absurd h (by decide)) (fun _ => ?_)
    refine j_aload_n dX9_seekOrder_70 rfl rfl ?_
    refine j_aload_n dX9_seekOrder_71 rfl rfl ?_
    refine j_aload_n dX9_seekOrder_72 rfl rfl ?_
    refine j_iload_n dX9_seekOrder_73 rfl rfl ?_
    refine j_iload dX9_seekOrder_74 rfl ?_
    refine j_callV [.ref S, .ref 43, .int _, .int _] [] dX9_seekOrder_76 jlk_X9_85 rfl rfl rfl rfl (Nat.le_of_ble_eq_true rfl) (c_X9_outcome (rul_k hrs (Or.inl rfl)) hS (by rw [cX_n _ _ (by omega)]; unfold sX; rw [vu_n _ _ _ (by omega)]; exact hh) (by rw [cX_n _ _ (by omega)]; unfold sX; rw [vu_n _ _ _ (by omega)]; exact hln) l60 (Or.inr (Or.inl rfl)) hck hcs e37 hm7 hm5 hm6 hN30 hpl hwn) (fun r9 w9 h9 => ?_)
    obtain ⟨rfl, f9, g9, rfl⟩ := h9
    rw [e44, e45, cX_cX, scA hB (Or.inl rfl)]
    have e37 : (scr (cA (sA A p q) 39 (ouC (RkC cd vl st an en n v) (rE L S) p (min N 5) N wn (A 44, A 45)).1 (ouC (RkC cd vl st an en n v) (rE L S) p (min N 5) N wn (A 44, A 45)).2) B f9 g9) 37 = nIf p := by rw [scr_k hB (by decide), cA_n _ _ _ (by decide) (by decide) (by decide), sA_37]
    have e38 : (scr (cA (sA A p q) 39 (ouC (RkC cd vl st an en n v) (rE L S) p (min N 5) N wn (A 44, A 45)).1 (ouC (RkC cd vl st an en n v) (rE L S) p (min N 5) N wn (A 44, A 45)).2) B f9 g9) 38 = q := by rw [scr_k hB (by decide), cA_n _ _ _ (by decide) (by decide) (by decide), sA_38]
    have hm7 : (cX (sX X N) 39 (ouC (RkC cd vl st an en n v) (rE L S) p (min N 5) N wn (A 44, A 45)).1) 35 7 = nI (min N 5) := by rw [cX_n _ _ (by decide)]; unfold sX; rw [vu_s]; exact pk_us
    refine j_ats (st' := [.int _]) rfl ?_
    refine j_istore (lv' := [some (.ref 35), some (.ref S), some (.ref 43), some (.int _), some (.int _), some (.int _), some (.int _), some (.int _), some (.int _)]) dX9_seekOrder_79 (by decide) rfl ?_
    refine j_iload dX9_seekOrder_81 rfl ?_
    refine j_iload dX9_seekOrder_83 rfl ?_
    refine j_icmp_le (tgt := 109) dX9_seekOrder_85 (by decide) (fun h85 => ?_) (fun h85 => ?_)
    · have hq9 : (if (balS (ouC (RkC cd vl st an en n v) (rE L S) p (min N 5) N wn (A 44, A 45)).1 (ouC (RkC cd vl st an en n v) (rE L S) p (min N 5) N wn (A 44, A 45)).2 a 49) ≤ b then q else va_cpy (nIf p) q 0 0 (min N 5)) = q := if_pos h85
      have hb9 : (if (balS (ouC (RkC cd vl st an en n v) (rE L S) p (min N 5) N wn (A 44, A 45)).1 (ouC (RkC cd vl st an en n v) (rE L S) p (min N 5) N wn (A 44, A 45)).2 a 49) ≤ b then b else (balS (ouC (RkC cd vl st an en n v) (rE L S) p (min N 5) N wn (A 44, A 45)).1 (ouC (RkC cd vl st an en n v) (rE L S) p (min N 5) N wn (A 44, A 45)).2 a 49)) = b := if_pos h85
      refine j_aload_n dX9_seekOrder_109 rfl rfl ?_
      refine j_callVi [] [] dX9_seekOrder_110 jlk_X9_95 rfl rfl rfl rfl (Nat.le_of_ble_eq_true rfl) (c_X9_nextOrder_any (p := p) hm7 hm5 (by first | exact e37 | (rw [scr_k hB (by decide), cA_n _ _ _ (by decide) (by decide) (by decide), sA_37])) (fun i hi => Nat.lt_of_lt_of_le (hp i hi) hm5)) ?_
      refine j_istore (lv' := [some (.ref 35), some (.ref S), some (.ref 43), some (.int _), some (.int _), some (.int _), some (.int _), some (.int _), some (.int _)]) dX9_seekOrder_113 (by decide) rfl ?_
      refine jn_iinc (lv' := [some (.ref 35), some (.ref S), some (.ref 43), some (.int _), some (.int _), some (.int _), some (.int _), some (.int _), some (.int _)]) dX9_seekOrder_115 rfl (by decide) rfl ?_
      refine j_goto (tgt := 58) dX9_seekOrder_118 (by decide) ?_
      cases hnx : nxO (min N 5) p with
      | none =>
        rw [scr_vu _ _ _ _ (by omega) (by omega), cA_vu _ _ _ _ (by decide) (by decide) (by decide), sA_u37]
        have hR9 := hR
        rw [skF_n hnx] at hR9
        refine j_iload dX9_seekOrder_58 rfl ?_
        refine j_bipush (v := nI 120) dX9_seekOrder_60 rfl ?_
        refine jn_icmp_ge (tgt := 121) dX9_seekOrder_62 (by decide) (by omega) (by omega) (fun h62 => ?_) (fun h62 => ?_)
        · refine j_iload dX9_seekOrder_121 rfl ?_
          refine j_ireturn dX9_seekOrder_123 rfl ?_
          refine ⟨?_, f9, g9, p, (ouC (RkC cd vl st an en n v) (rE L S) p (min N 5) N wn (A 44, A 45)), hzo, ?_⟩
          · rw [← hR9]; show _ = some (Value.int (if (balS (ouC (RkC cd vl st an en n v) (rE L S) p (min N 5) N wn (A 44, A 45)).1 (ouC (RkC cd vl st an en n v) (rE L S) p (min N 5) N wn (A 44, A 45)).2 a 49) ≤ b then b else (balS (ouC (RkC cd vl st an en n v) (rE L S) p (min N 5) N wn (A 44, A 45)).1 (ouC (RkC cd vl st an en n v) (rE L S) p (min N 5) N wn (A 44, A 45)).2 a 49))); rw [hb9]
          · rw [← hR9]; show _ = tw _ (scr (cA (sA A _ (if (balS (ouC (RkC cd vl st an en n v) (rE L S) p (min N 5) N wn (A 44, A 45)).1 (ouC (RkC cd vl st an en n v) (rE L S) p (min N 5) N wn (A 44, A 45)).2 a 49) ≤ b then q else va_cpy (nIf p) q 0 0 (min N 5))) 39 _ _) B _ _) _; rw [hq9]; rfl
        · refine j_iload dX9_seekOrder_65 rfl ?_
          refine j_if_eq (tgt := 121) dX9_seekOrder_67 (by decide) (fun _ => ?_) (fun h => absurd (by decide) h)
          refine j_iload dX9_seekOrder_121 rfl ?_
          refine j_ireturn dX9_seekOrder_123 rfl ?_
          refine ⟨?_, f9, g9, p, (ouC (RkC cd vl st an en n v) (rE L S) p (min N 5) N wn (A 44, A 45)), hzo, ?_⟩
          · rw [← hR9]; show _ = some (Value.int (if (balS (ouC (RkC cd vl st an en n v) (rE L S) p (min N 5) N wn (A 44, A 45)).1 (ouC (RkC cd vl st an en n v) (rE L S) p (min N 5) N wn (A 44, A 45)).2 a 49) ≤ b then b else (balS (ouC (RkC cd vl st an en n v) (rE L S) p (min N 5) N wn (A 44, A 45)).1 (ouC (RkC cd vl st an en n v) (rE L S) p (min N 5) N wn (A 44, A 45)).2 a 49))); rw [hb9]
          · rw [← hR9]; show _ = tw _ (scr (cA (sA A _ (if (balS (ouC (RkC cd vl st an en n v) (rE L S) p (min N 5) N wn (A 44, A 45)).1 (ouC (RkC cd vl st an en n v) (rE L S) p (min N 5) N wn (A 44, A 45)).2 a 49) ≤ b then q else va_cpy (nIf p) q 0 0 (min N 5))) 39 _ _) B _ _) _; rw [hq9]; rfl
      | some p9 =>
        rw [scr_vu _ _ _ _ (by omega) (by omega), cA_vu _ _ _ _ (by decide) (by decide) (by decide), sA_u37]
        refine j_sub (by exact ⟨rfl, rfl, rfl, rfl, rfl, rfl, rfl, rfl, trivial⟩) (ih (i + 1) p9 _ f9 g9 _ _ (by omega) (nxO_lt hm5 hp hnx) hzo ?_)
        rw [← hR, skF_s hnx]
        show skF (min N 5) _ k p9 _ _ = skF (min N 5) _ k p9 (if (balS (ouC (RkC cd vl st an en n v) (rE L S) p (min N 5) N wn (A 44, A 45)).1 (ouC (RkC cd vl st an en n v) (rE L S) p (min N 5) N wn (A 44, A 45)).2 a 49) ≤ b then b else (balS (ouC (RkC cd vl st an en n v) (rE L S) p (min N 5) N wn (A 44, A 45)).1 (ouC (RkC cd vl st an en n v) (rE L S) p (min N 5) N wn (A 44, A 45)).2 a 49)) (if (balS (ouC (RkC cd vl st an en n v) (rE L S) p (min N 5) N wn (A 44, A 45)).1 (ouC (RkC cd vl st an en n v) (rE L S) p (min N 5) N wn (A 44, A 45)).2 a 49) ≤ b then q else va_cpy (nIf p) q 0 0 (min N 5))
        rw [hq9, hb9]
    · refine j_iload dX9_seekOrder_88 rfl ?_
      refine j_istore (lv' := [some (.ref 35), some (.ref S), some (.ref 43), some (.int _), some (.int _), some (.int _), some (.int _), some (.int _), some (.int _)]) dX9_seekOrder_90 (by decide) rfl ?_
      refine j_aload_n dX9_seekOrder_92 rfl rfl ?_
      refine t_getR (b := 37) dX9_seekOrder_93 jfl_X9_21 (fun _ _ _ => rfl) rfl ?_
      refine j_iconst (v := nI 0) dX9_seekOrder_96 rfl ?_
      refine j_aload_n dX9_seekOrder_97 rfl rfl ?_
      refine t_getR (b := 38) dX9_seekOrder_98 jfl_X9_24 (fun _ _ _ => rfl) rfl ?_
      refine j_iconst (v := nI 0) dX9_seekOrder_101 rfl ?_
      refine j_aload_n dX9_seekOrder_102 rfl rfl ?_
      refine t_getI dX9_seekOrder_103 jfl_X9_30 (fun _ _ _ => rfl) (fun _ => rfl) ?_
      refine j_topE (e' := nI (min N 5)) hm7 ?_
      refine t_copyi dX9_seekOrder_106 jlc_X9_89 (fun _ _ _ => rfl) (fun _ _ _ => rfl) (Nat.le_trans (Nat.le_of_eq (Nat.zero_add _)) hm5) (Nat.le_trans (Nat.le_of_eq (Nat.zero_add _)) hm5) (by decide) (by decide) (Nat.le_of_ble_eq_true rfl) ?_
      rw [e37, e38, scr_vu _ _ _ _ (by omega) (by omega), cA_vu _ _ _ _ (by decide) (by decide) (by decide), sA_u38]
      have hq9 : (if (balS (ouC (RkC cd vl st an en n v) (rE L S) p (min N 5) N wn (A 44, A 45)).1 (ouC (RkC cd vl st an en n v) (rE L S) p (min N 5) N wn (A 44, A 45)).2 a 49) ≤ b then q else va_cpy (nIf p) q 0 0 (min N 5)) = va_cpy (nIf p) q 0 0 (min N 5) := if_neg h85
      have hb9 : (if (balS (ouC (RkC cd vl st an en n v) (rE L S) p (min N 5) N wn (A 44, A 45)).1 (ouC (RkC cd vl st an en n v) (rE L S) p (min N 5) N wn (A 44, A 45)).2 a 49) ≤ b then b else (balS (ouC (RkC cd vl st an en n v) (rE L S) p (min N 5) N wn (A 44, A 45)).1 (ouC (RkC cd vl st an en n v) (rE L S) p (min N 5) N wn (A 44, A 45)).2 a 49)) = (balS (ouC (RkC cd vl st an en n v) (rE L S) p (min N 5) N wn (A 44, A 45)).1 (ouC (RkC cd vl st an en n v) (rE L S) p (min N 5) N wn (A 44, A 45)).2 a 49) := if_neg h85
      refine j_aload_n dX9_seekOrder_109 rfl rfl ?_
      refine j_callVi [] [] dX9_seekOrder_110 jlk_X9_95 rfl rfl rfl rfl (Nat.le_of_ble_eq_true rfl) (c_X9_nextOrder_any (p := p) hm7 hm5 (by first | exact e37 | (rw [scr_k hB (by decide), cA_n _ _ _ (by decide) (by decide) (by decide), sA_37])) (fun i hi => Nat.lt_of_lt_of_le (hp i hi) hm5)) ?_
      refine j_istore (lv' := [some (.ref 35), some (.ref S), some (.ref 43), some (.int _), some (.int _), some (.int _), some (.int _), some (.int _), some (.int _)]) dX9_seekOrder_113 (by decide) rfl ?_
      refine jn_iinc (lv' := [some (.ref 35), some (.ref S), some (.ref 43), some (.int _), some (.int _), some (.int _), some (.int _), some (.int _), some (.int _)]) dX9_seekOrder_115 rfl (by decide) rfl ?_
      refine j_goto (tgt := 58) dX9_seekOrder_118 (by decide) ?_
      cases hnx : nxO (min N 5) p with
      | none =>
        rw [scr_vu _ _ _ _ (by omega) (by omega), cA_vu _ _ _ _ (by decide) (by decide) (by decide), sA_u37]
        have hR9 := hR
        rw [skF_n hnx] at hR9
        refine j_iload dX9_seekOrder_58 rfl ?_
        refine j_bipush (v := nI 120) dX9_seekOrder_60 rfl ?_
        refine jn_icmp_ge (tgt := 121) dX9_seekOrder_62 (by decide) (by omega) (by omega) (fun h62 => ?_) (fun h62 => ?_)
        · refine j_iload dX9_seekOrder_121 rfl ?_
          refine j_ireturn dX9_seekOrder_123 rfl ?_
          refine ⟨?_, f9, g9, p, (ouC (RkC cd vl st an en n v) (rE L S) p (min N 5) N wn (A 44, A 45)), hzo, ?_⟩
          · rw [← hR9]; show _ = some (Value.int (if (balS (ouC (RkC cd vl st an en n v) (rE L S) p (min N 5) N wn (A 44, A 45)).1 (ouC (RkC cd vl st an en n v) (rE L S) p (min N 5) N wn (A 44, A 45)).2 a 49) ≤ b then b else (balS (ouC (RkC cd vl st an en n v) (rE L S) p (min N 5) N wn (A 44, A 45)).1 (ouC (RkC cd vl st an en n v) (rE L S) p (min N 5) N wn (A 44, A 45)).2 a 49))); rw [hb9]
          · rw [← hR9]; show _ = tw _ (scr (cA (sA A _ (if (balS (ouC (RkC cd vl st an en n v) (rE L S) p (min N 5) N wn (A 44, A 45)).1 (ouC (RkC cd vl st an en n v) (rE L S) p (min N 5) N wn (A 44, A 45)).2 a 49) ≤ b then q else va_cpy (nIf p) q 0 0 (min N 5))) 39 _ _) B _ _) _; rw [hq9]; rfl
        · refine j_iload dX9_seekOrder_65 rfl ?_
          refine j_if_eq (tgt := 121) dX9_seekOrder_67 (by decide) (fun _ => ?_) (fun h => absurd (by decide) h)
          refine j_iload dX9_seekOrder_121 rfl ?_
          refine j_ireturn dX9_seekOrder_123 rfl ?_
          refine ⟨?_, f9, g9, p, (ouC (RkC cd vl st an en n v) (rE L S) p (min N 5) N wn (A 44, A 45)), hzo, ?_⟩
          · rw [← hR9]; show _ = some (Value.int (if (balS (ouC (RkC cd vl st an en n v) (rE L S) p (min N 5) N wn (A 44, A 45)).1 (ouC (RkC cd vl st an en n v) (rE L S) p (min N 5) N wn (A 44, A 45)).2 a 49) ≤ b then b else (balS (ouC (RkC cd vl st an en n v) (rE L S) p (min N 5) N wn (A 44, A 45)).1 (ouC (RkC cd vl st an en n v) (rE L S) p (min N 5) N wn (A 44, A 45)).2 a 49))); rw [hb9]
          · rw [← hR9]; show _ = tw _ (scr (cA (sA A _ (if (balS (ouC (RkC cd vl st an en n v) (rE L S) p (min N 5) N wn (A 44, A 45)).1 (ouC (RkC cd vl st an en n v) (rE L S) p (min N 5) N wn (A 44, A 45)).2 a 49) ≤ b then q else va_cpy (nIf p) q 0 0 (min N 5))) 39 _ _) B _ _) _; rw [hq9]; rfl
      | some p9 =>
        rw [scr_vu _ _ _ _ (by omega) (by omega), cA_vu _ _ _ _ (by decide) (by decide) (by decide), sA_u37]
        refine j_sub (by exact ⟨rfl, rfl, rfl, rfl, rfl, rfl, rfl, rfl, trivial⟩) (ih (i + 1) p9 _ f9 g9 _ _ (by omega) (nxO_lt hm5 hp hnx) hzo ?_)
        rw [← hR, skF_s hnx]
        show skF (min N 5) _ k p9 _ _ = skF (min N 5) _ k p9 (if (balS (ouC (RkC cd vl st an en n v) (rE L S) p (min N 5) N wn (A 44, A 45)).1 (ouC (RkC cd vl st an en n v) (rE L S) p (min N 5) N wn (A 44, A 45)).2 a 49) ≤ b then b else (balS (ouC (RkC cd vl st an en n v) (rE L S) p (min N 5) N wn (A 44, A 45)).1 (ouC (RkC cd vl st an en n v) (rE L S) p (min N 5) N wn (A 44, A 45)).2 a 49)) (if (balS (ouC (RkC cd vl st an en n v) (rE L S) p (min N 5) N wn (A 44, A 45)).1 (ouC (RkC cd vl st an en n v) (rE L S) p (min N 5) N wn (A 44, A 45)).2 a 49) ≤ b then q else va_cpy (nIf p) q 0 0 (min N 5))
        rw [hq9, hb9]

set_option maxHeartbeats 200000 in
set_option maxRecDepth 100000 in
theorem l_X9_seekOrder_24 {S K wn N : Nat} {a : Int32} {post : Option Value → jW → Prop} (hm : X 35 7 = nI (min N 5)) (kk : jWP none RX9 cX9_seekOrder 9 (some .int) d 0 0 48 [some (.ref 35), some (.ref S), some (.ref K), some (.int a), some (.int (nI wn)), none, none, none, none] [] (tw X (va_up A 37 (idF (A 37) (min N 5))) L) post) : ∀ (k i : Nat), i ≤ min N 5 → min N 5 - i < k → jWP none RX9 cX9_seekOrder 9 (some .int) (d) 0 0 24 [some (.ref 35), some (.ref S), some (.ref K), some (.int a), some (.int (nI wn)), some (.int (nI i)), none, none, none] [] (tw X (va_up A 37 (idF (A 37) i)) L) (post) := by
  have hm5 : min N 5 ≤ 5 := Nat.min_le_right _ _
  intro k
  induction k with
  | zero => intro i h1 h2; omega
  | succ k ih =>
    intro i hi hk
    refine j_iload dX9_seekOrder_24 rfl ?_
    refine j_aload_n dX9_seekOrder_26 rfl rfl ?_
    refine t_getI dX9_seekOrder_27 jfl_X9_30 (fun _ _ _ => rfl) (fun _ => rfl) ?_
    refine j_topE (e' := nI (min N 5)) hm ?_
    refine jn_icmp_ge (tgt := 48) dX9_seekOrder_30 (by decide) (by omega) (by omega) (fun h30 => ?_) (fun h30 => ?_)
    · obtain rfl : i = min N 5 := by omega
      exact j_sub (by exact ⟨rfl, rfl, rfl, rfl, rfl, trivial⟩) kk
    · refine j_aload_n dX9_seekOrder_33 rfl rfl ?_
      refine t_getR (b := 37) dX9_seekOrder_34 jfl_X9_21 (fun _ _ _ => rfl) rfl ?_
      refine j_iload dX9_seekOrder_37 rfl ?_
      refine j_iload dX9_seekOrder_39 rfl ?_
      refine t_iastore dX9_seekOrder_41 (fun _ _ _ => rfl) (by omega) (by decide) ?_
      refine jn_iinc (lv' := [some (.ref 35), some (.ref S), some (.ref K), some (.int _), some (.int _), some (.int _), none, none, none]) dX9_seekOrder_42 rfl (by decide) rfl ?_
      refine j_goto (tgt := 24) dX9_seekOrder_45 (by decide) ?_
      refine j_atw ?_ (ih (i + 1) (by omega) (by omega))
      rw [vu_s, vu_up]
      rfl

end CT17