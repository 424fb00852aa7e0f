def idN (p : Nat → Nat) : Nat → (Nat → Nat)
  | 0 => p
  | i + 1 => updN (idN p i) i i
theorem idF_N (p : Nat → Nat) : ∀ i, idF (nIf p) i = nIf (idN p i)
  | 0 => rfl
  | i + 1 => by
    show upd (idF (nIf p) i) i (nI i) = _
    rw [idF_N p i, upd_nIf]
    rfl
theorem idN_at (p : Nat → Nat) : ∀ {m i : Nat}, i < m → idN p m i = i
  | 0, i, h => by omega
  | m + 1, i, h => by
    show updN (idN p m) m m i = i
    by_cases e : i = m
    · subst e; exact updN_s _ _ _
    · rw [updN_n _ _ _ e]; exact idN_at p (by omega)
section CT18
variable {d : Nat} {X A : Nat → Nat → Int32} {L : Nat → Nat → Int64} {w : jW} {B : Nat} {cd vl st an en : Nat → Nat} {n na : Nat} {v : Nat → Nat}

set_option maxHeartbeats 200000 in
set_option maxRecDepth 100000 in
theorem c_X9_seekOrder (hr : rul B cd vl st an en n na v X A) {S ln : Nat} (hS : isSh S) (hh : X S 0 = nI 2) (hln : X S 3 = nI ln) (l60 : ln ≤ 60) {N : Nat} (hN : saC (saB na ln (rE L S)) 30 0 = N) (hc43 : cok X A 43) (hc9 : cok X A 39) {p0 : Nat → Nat} (hp0 : A 37 = nIf p0) {wn : Nat} (hwn : wn < 2 ^ 31) {a : Int32} : jMet (d + 6) yX9_seekOrder cX9_seekOrder 9 (some .int) 0 0 [.ref 35, .ref S, .ref 43, .int a, .int (nI wn)] (tw X A L) ((fun z w => z = some (.int (skF (min N 5) (fun p => balS (ouC (RkC cd vl st an en n v) (rE L S) p (min N 5) N wn (A 44, A 45)).1 (ouC (RkC cd vl st an en n v) (rE L S) p (min N 5) N wn (A 44, A 45)).2 a 49) 120 (idN p0 (min N 5)) (-2) (A 38)).1) ∧ ∃ (f g : Nat → Int32) (p : Nat → Nat) (c : cS), (zb 49 c.1 ∧ zb 49 c.2) ∧ w = tw (cX (sX X N) 39 c.1) (scr (cA (sA A p (skF (min N 5) (fun p => balS (ouC (RkC cd vl st an en n v) (rE L S) p (min N 5) N wn (A 44, A 45)).1 (ouC (RkC cd vl st an en n v) (rE L S) p (min N 5) N wn (A 44, A 45)).2 a 49) 120 (idN p0 (min N 5)) (-2) (A 38)).2) 39 c.1 c.2) B f g) L)) := by
  refine jMet_of (by decide) (Nat.le_of_ble_eq_true rfl) none (Or.inl rfl) ?_
  show jWP none RX9 cX9_seekOrder 9 (some .int) (d + 6) 0 0 0 [some (.ref 35), some (.ref S), some (.ref 43), some (.int a), some (.int (nI wn)), none, none, none, none] [] (tw X A L) ((fun z w => z = some (.int (skF (min N 5) (fun p => balS (ouC (RkC cd vl st an en n v) (rE L S) p (min N 5) N wn (A 44, A 45)).1 (ouC (RkC cd vl st an en n v) (rE L S) p (min N 5) N wn (A 44, A 45)).2 a 49) 120 (idN p0 (min N 5)) (-2) (A 38)).1) ∧ ∃ (f g : Nat → Int32) (p : Nat → Nat) (c : cS), (zb 49 c.1 ∧ zb 49 c.2) ∧ w = tw (cX (sX X N) 39 c.1) (scr (cA (sA A p (skF (min N 5) (fun p => balS (ouC (RkC cd vl st an en n v) (rE L S) p (min N 5) N wn (A 44, A 45)).1 (ouC (RkC cd vl st an en n v) (rE L S) p (min N 5) N wn (A 44, A 45)).2 a 49) 120 (idN p0 (min N 5)) (-2) (A 38)).2) 39 c.1 c.2) B f g) L))
  have hN30 : N ≤ 30 := by rw [← hN]; exact saC_le 30 0
  have hsa : ∀ k, k < N → saB na ln (rE L S) k = true := fun k hk => saC_all (Nat.zero_le k) (by rw [hN]; exact hk)
  have hm5 : min N 5 ≤ 5 := Nat.min_le_right _ _
  refine j_aload_n dX9_seekOrder_0 rfl rfl ?_
  refine j_aload_n dX9_seekOrder_1 rfl rfl ?_
  refine j_aload_n dX9_seekOrder_2 rfl rfl ?_
  refine j_callVi [.ref S] [.ref 35] dX9_seekOrder_3 jlk_X9_75 rfl rfl rfl rfl (Nat.le_of_ble_eq_true rfl) (c_X9_salesIn hr hS hh hln l60) ?_
  rw [hN]
  refine t_putI dX9_seekOrder_6 jfl_X9_27 (fun _ _ _ => rfl) (fun _ _ => rfl) (Nat.le_of_ble_eq_true rfl) rfl rfl ?_
  refine j_aload_n dX9_seekOrder_9 rfl rfl ?_
  refine j_aload_n dX9_seekOrder_10 rfl rfl ?_
  refine t_getI dX9_seekOrder_11 jfl_X9_27 (fun _ _ _ => rfl) (fun _ => rfl) ?_
  refine j_topE (e' := nI N) (by rw [vu_s]; exact pk_us) ?_
  refine j_iconst (v := nI 5) dX9_seekOrder_14 rfl ?_
  refine j_min dX9_seekOrder_15 jlm_X9_79 (Nat.le_of_ble_eq_true rfl) ?_
  refine j_topE (e' := nI (min N 5)) (min5 N (by omega)) ?_
  refine t_putI dX9_seekOrder_18 jfl_X9_30 (fun _ _ _ => rfl) (fun _ _ => rfl) (Nat.le_of_ble_eq_true rfl) rfl rfl ?_
  refine j_iconst (v := nI 0) dX9_seekOrder_21 rfl ?_
  refine j_istore (lv' := [some (.ref 35), some (.ref S), some (.ref 43), some (.int _), some (.int _), some (.int _), none, none, none]) dX9_seekOrder_22 (by decide) rfl ?_
  refine j_atw (w' := tw (sX X N) (va_up A 37 (idF (A 37) 0)) L) (tw_eq (by unfold sX; rw [vu_up, vu_s]) (vu_self A 37).symm rfl) ?_
  refine l_X9_seekOrder_24 (X := sX X N) (N := N) (by unfold sX; rw [vu_s]; exact pk_us) ?_ (min N 5 + 1) 0 (Nat.zero_le _) (Nat.lt_succ_self _)
  refine j_bipush (v := (-2)) dX9_seekOrder_48 rfl ?_
  refine j_istore (lv' := [some (.ref 35), some (.ref S), some (.ref 43), some (.int _), some (.int _), some (.int _), none, none, none]) dX9_seekOrder_50 (by decide) rfl ?_
  refine j_iconst (v := nI 1) dX9_seekOrder_52 rfl ?_
  refine j_istore (lv' := [some (.ref 35), some (.ref S), some (.ref 43), some (.int _), some (.int _), some (.int _), some (.int _), none, none]) dX9_seekOrder_53 (by decide) rfl ?_
  refine j_iconst (v := nI 0) dX9_seekOrder_55 rfl ?_
  refine j_istore (lv' := [some (.ref 35), some (.ref S), some (.ref 43), some (.int _), some (.int _), some (.int _), some (.int _), some (.int _), none]) dX9_seekOrder_56 (by decide) rfl ?_
  refine j_atw ?_ (l_X9_seekOrder_58 hr hS hh hln l60 hN30 hsa hc43 hwn 120 0 (idN p0 (min N 5)) (A 38) (cA (sA A (idN p0 (min N 5)) (A 38)) 39 (A 40) (A 41) (B + 6)) (cA (sA A (idN p0 (min N 5)) (A 38)) 39 (A 40) (A 41) (B + 7)) (-2) (A 40, A 41) (by omega) (fun i hi => by rw [idN_at p0 hi]; exact hi) ⟨hc9.1, hc9.2.1⟩ rfl)
  have h39 : cok (sX X N) (sA A (idN p0 (min N 5)) (A 38)) 39 := by
    unfold cok sX
    rw [vu_n _ _ _ (by decide), sA_n _ _ _ (by decide) (by decide), sA_n _ _ _ (by decide) (by decide), sA_n _ _ _ (by decide) (by decide)]
    exact hc9
  have hq := cok_self h39
  refine tw_eq ?_ ?_ rfl
  · exact hq.2.symm.trans (by rw [sA_n _ _ _ (by decide) (by decide)])
  · rw [scr_self, hp0, idF_N]
    refine Eq.trans ?_ (hq.1.symm.trans (by rw [sA_n _ _ _ (by decide) (by decide), sA_n _ _ _ (by decide) (by decide)]))
    unfold sA
    refine (vu_self (va_up A 37 _) 38).symm.trans ?_
    rw [vu_n _ _ _ (by decide)]

end CT18