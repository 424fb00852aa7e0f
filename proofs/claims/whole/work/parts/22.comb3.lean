/-! combs: pure rows of winter, heat, swarm -/
abbrev cS : Type := (Nat → Int32) × (Nat → Int32)
def emS (c : cS) (j : Nat) : cS := (upd c.1 j (-1), upd c.2 j (nI 0))
def stepE (c : cS) : cS := match nxE c.1 c.2 with
  | none => c
  | some j => emS c j
def winS : Nat → cS → cS
  | 0, c => c
  | n + 1, c => stepE (winS n c)
theorem nxt_some {O S : Nat → Int32} {sp : Bool} {j : Nat} (hb : (heldB O j && !(sp && slB O j)) = true) : ∀ {i : Nat}, j < i → ∃ m, nxt O S sp i = some m
  | 0, h => by omega
  | i + 1, h => by
    unfold nxt
    by_cases e : j = i
    · subst e
      rw [if_pos hb]
      split
      · exact ⟨_, rfl⟩
      · split <;> exact ⟨_, rfl⟩
    · obtain ⟨m, hm⟩ := nxt_some (O := O) (S := S) (sp := sp) hb (i := i) (by omega)
      rw [hm]
      split
      · simp only
        split <;> exact ⟨_, rfl⟩
      · exact ⟨_, rfl⟩
theorem cnt_lt_ex {p q : Nat → Bool} : ∀ {n : Nat}, (∀ x, q x = true → p x = true) → cnt q n < cnt p n → ∃ j, j < n ∧ p j = true ∧ q j = false
  | 0, _, h => absurd h (Nat.lt_irrefl 0)
  | n + 1, hq, h => by
    by_cases h1 : p n = true
    · by_cases h2 : q n = true
      · have e1 : cnt p (n + 1) = cnt p n + 1 := if_pos h1
        have e2 : cnt q (n + 1) = cnt q n + 1 := if_pos h2
        obtain ⟨j, a, b⟩ := cnt_lt_ex (n := n) hq (by omega)
        exact ⟨j, by omega, b⟩
      · exact ⟨n, Nat.lt_succ_self n, h1, by simpa using h2⟩
    · have h2 : ¬ q n = true := fun z => h1 (hq n z)
      have e1 : cnt p (n + 1) = cnt p n := if_neg h1
      have e2 : cnt q (n + 1) = cnt q n := if_neg h2
      obtain ⟨j, a, b⟩ := cnt_lt_ex (n := n) hq (by omega)
      exact ⟨j, by omega, b⟩
theorem nxE_ex {O S : Nat → Int32} (h : 0 < hN O) : ∃ j, nxE O S = some j := by
  unfold nxE
  cases hs : spB O with
  | true =>
    have hs : cnt (slB O) 49 < hN O := of_decide_eq_true hs
    obtain ⟨j, h1, h2, h3⟩ := cnt_lt_ex (p := heldB O) (q := slB O) (fun x hx => by unfold slB at hx; simp at hx; exact hx.1) hs
    exact nxt_some (by rw [h2, h3]; rfl) h1
  | false =>
    obtain ⟨j, h1, h2⟩ := cnt_ex h
    exact nxt_some (by rw [h2]; rfl) h1
theorem nxE_held {O S : Nat → Int32} {j : Nat} (h : nxE O S = some j) : j < 49 ∧ heldB O j = true := ⟨nxt_lt h, nxt_held h⟩
theorem nxE_none {O S : Nat → Int32} (h : nxE O S = none) : hN O = 0 := by
  cases e : hN O with
  | zero => rfl
  | succ n =>
    obtain ⟨j, hj⟩ := nxE_ex (O := O) (S := S) (by omega)
    rw [h] at hj; cases hj
theorem winS_hN (c : cS) : ∀ e, hN (winS e c).1 = hN c.1 - e
  | 0 => rfl
  | e + 1 => by
    have ih := winS_hN c e
    unfold winS stepE
    cases h : nxE (winS e c).1 (winS e c).2 with
    | none =>
      have := nxE_none h
      simp only
      omega
    | some j =>
      obtain ⟨h1, h2⟩ := nxE_held h
      have := hN_empty h1 h2
      show hN (upd (winS e c).1 j (-1)) = _
      omega
theorem winS_z {c : cS} (h1 : zb 49 c.1) (h2 : zb 49 c.2) : ∀ e, zb 49 (winS e c).1 ∧ zb 49 (winS e c).2
  | 0 => ⟨h1, h2⟩
  | e + 1 => by
    have ih := winS_z h1 h2 e
    unfold winS stepE
    cases h : nxE (winS e c).1 (winS e c).2 with
    | none => exact ih
    | some j => exact ⟨zb_upd ih.1 (nxE_held h).1, zb_upd ih.2 (nxE_held h).1⟩
theorem cX_4n (X : Nat → Nat → Int32) (K : Nat) (O : Nat → Int32) : cX X K O K 4 = nI (hN O) := cX_4 X K O
/-- two run together -/
def rtB (O : Nat → Int32) (c o : Nat) : Bool := heldB O c && (heldB O o && (!slB O c && (!slB O o && decide (O c ≠ O o))))
def rtO (O S : Nat → Int32) (c o : Nat) : Nat → Int32 := if S c < S o then upd O c (O o) else upd O o (O c)
def rtS (O S : Nat → Int32) (c o : Nat) : Nat → Int32 := if rtB O c o = true then rtO O S c o else O
theorem rtS_held {O S : Nat → Int32} {c o : Nat} (x : Nat) : heldB (rtS O S c o) x = heldB O x := by
  unfold rtS
  split
  · rename_i h
    have h1 : heldB O c = true ∧ heldB O o = true := by
      unfold rtB at h
      simp at h
      exact ⟨h.1, h.2.1⟩
    obtain ⟨h1, h2⟩ := h1
    have q1 : O c ≠ -1 := of_decide_eq_true h1
    have q2 : O o ≠ -1 := of_decide_eq_true h2
    unfold rtO
    split
    · rw [heldB_upd]
      split
      · rename_i e; subst e; rw [h1]; exact decide_eq_true q2
      · rfl
    · rw [heldB_upd]
      split
      · rename_i e; subst e; rw [h2]; exact decide_eq_true q1
      · rfl
  · rfl
theorem rtS_z {O S : Nat → Int32} {c o : Nat} (h : zb 49 O) (hc : c < 49) (ho : o < 49) : zb 49 (rtS O S c o) := by
  unfold rtS rtO
  split
  · split
    · exact zb_upd h hc
    · exact zb_upd h ho
  · exact h
def htK (S : Nat → Int32) (c : Nat) : Nat → (Nat → Int32) × Nat → (Nat → Int32) × Nat
  | 0, s => s
  | k + 1, s => if c < nb c k then (rtS (htK S c k s).1 S c (nb c k), if rtB (htK S c k s).1 c (nb c k) = true then (htK S c k s).2 + 1 else (htK S c k s).2) else htK S c k s
def htC (O S : Nat → Int32) : Nat → (Nat → Int32) × Nat
  | 0 => (O, 0)
  | c + 1 => htK S c (dg c) (htC O S c)
theorem htK_z {S : Nat → Int32} {c : Nat} (hc : c < 49) {s : (Nat → Int32) × Nat} (h : zb 49 s.1) : ∀ k, zb 49 (htK S c k s).1
  | 0 => h
  | k + 1 => by
    unfold htK
    split
    · exact rtS_z (htK_z hc h k) hc nb_lt
    · exact htK_z hc h k
theorem htC_z {O S : Nat → Int32} (h : zb 49 O) : ∀ c, c ≤ 49 → zb 49 (htC O S c).1
  | 0, _ => h
  | c + 1, hc => htK_z (by omega) (htC_z h c (by omega)) _
/-- a swarm -/
def abS (z m : Nat) (c : cS) : Nat → cS × Nat
  | 0 => (c, 0)
  | i + 1 => if (heldB (abS z m c i).1.1 i && decide (dsN z i ≤ m)) = true then (emS (abS z m c i).1 i, (abS z m c i).2 + 1) else abS z m c i
theorem abS_z {z m : Nat} {c : cS} (h1 : zb 49 c.1) (h2 : zb 49 c.2) : ∀ i, i ≤ 49 → zb 49 (abS z m c i).1.1 ∧ zb 49 (abS z m c i).1.2
  | 0, _ => ⟨h1, h2⟩
  | i + 1, hi => by
    have ih := abS_z (z := z) (m := m) h1 h2 i (by omega)
    unfold abS
    split
    · exact ⟨zb_upd ih.1 (by omega), zb_upd ih.2 (by omega)⟩
    · exact ih
def lossS (O S : Nat → Int32) (z m : Nat) (a : Int32) : Nat → Int32
  | 0 => nI 0
  | i + 1 => if O i = a then (if dsN z i ≤ m then lossS O S z m a i + S i else lossS O S z m a i) else lossS O S z m a i
theorem cpy49 {f g : Nat → Int32} (h1 : zb 49 f) (h2 : zb 49 g) : va_cpy f g 0 0 49 = f := by
  funext c
  by_cases h : c < 49
  · rw [pk_cpy_in (by omega) (by omega)]
    exact congrArg f (by omega)
  · rw [pk_cpy_out (by omega), h1 c (by omega), h2 c (by omega)]
theorem zb_eOf (O : Nat → Int32) : zb 49 (eOf O) := fun c hc => if_neg (by omega)
theorem tw_eq {X X' A A' : Nat → Nat → Int32} {L L' : Nat → Nat → Int64} (h1 : X = X') (h2 : A = A') (h3 : L = L') : tw X A L = tw X' A' L' := by rw [h1, h2, h3]
section CT2
variable {d : Nat} {X A : Nat → Nat → Int32} {L : Nat → Nat → Int64} {w : jW}

set_option maxHeartbeats 4000000 in
set_option maxRecDepth 100000 in
theorem l_X0_eatCells {K : Nat} (hK : isK K) {O S : Nat → Int32} (h1 : zb 49 O) (h2 : zb 49 S) {n : Nat} (hn : n < 2 ^ 31) : ∀ (m e : Nat), e ≤ n → e ≤ hN O → n - e < m → jWP none RX0 cX0_eatCells 3 (some .int) (d + 4) 0 0 2 [some (.ref K), some (.int (nI n)), some (.int (nI e))] [] (tw (cX X K (winS e (O, S)).1) (cA A K (winS e (O, S)).1 (winS e (O, S)).2) L) (jRi (nI (min n (hN O))) (tw (cX X K (winS (min n (hN O)) (O, S)).1) (cA A K (winS (min n (hN O)) (O, S)).1 (winS (min n (hN O)) (O, S)).2) L)) := by
  intro m
  induction m with
  | zero => intro e h1 h2; omega
  | succ m ih =>
    intro e he he2 hm
    have hs2 : hN O ≤ 49 := cnt_le _ 49
    have hw := winS_hN (O, S) e
    have hw : hN (winS e (O, S)).1 = hN O - e := hw
    have hz := winS_z (c := (O, S)) h1 h2 e
    have hck := cok_c (X := X) (A := A) (K := K) hz.1 hz.2
    refine j_iload_n dX0_eatCells_2 rfl rfl ?_
    refine j_iload_n dX0_eatCells_3 rfl rfl ?_
    refine jn_icmp_ge (tgt := 28) dX0_eatCells_4 (by decide) (by omega) (by omega) (fun h4 => ?_) (fun h4 => ?_)
    · refine j_iload_n dX0_eatCells_28 rfl rfl ?_
      refine j_ireturn dX0_eatCells_29 rfl ?_
      have hmin : min n (hN O) = e := by omega
      rw [hmin]
      exact ⟨rfl, rfl⟩
    · refine j_aload_n dX0_eatCells_7 rfl rfl ?_
      refine t_getI dX0_eatCells_8 jfl_X0_21 (shK0 hK) (fun _ => rfl) ?_
      refine j_topE (cX_4n _ _ _) ?_
      refine jn_if_le (tgt := 28) dX0_eatCells_11 (by decide) (by omega) (fun h11 => ?_) (fun h11 => ?_)
      · refine j_iload_n dX0_eatCells_28 rfl rfl ?_
        refine j_ireturn dX0_eatCells_29 rfl ?_
        have hmin : min n (hN O) = e := by omega
        rw [hmin]
        exact ⟨rfl, rfl⟩
      · obtain ⟨j, hj⟩ := nxE_ex (S := (winS e (O, S)).2) h11
        obtain ⟨hj1, hj2⟩ := nxE_held hj
        refine j_aload_n dX0_eatCells_14 rfl rfl ?_
        refine j_aload_n dX0_eatCells_15 rfl rfl ?_
        refine j_callVi [] [.ref K] dX0_eatCells_16 jlk_X0_62 rfl rfl ((shK0 hK) _ _ _) rfl (Nat.le_of_ble_eq_true rfl) (c_X0_nextEaten hK hck) ?_
        refine j_topE (e' := nI j) (by rw [cA_1, cA_2, hj]; rfl) ?_
        refine j_callVv [.int _] [] dX0_eatCells_19 jlk_X0_66 rfl rfl ((shK0 hK) _ _ _) rfl (Nat.le_of_ble_eq_true rfl) (c_X0_empty hK hck hj1 (by rw [cA_1]; exact hj2)) ?_
        refine jn_iinc (lv' := [some (.ref K), some (.int _), some (.int _)]) dX0_eatCells_22 rfl (by decide) rfl ?_
        refine j_goto (tgt := 2) dX0_eatCells_25 (by decide) ?_
        refine j_atw ?_ (ih (e + 1) (by omega) (by omega) (by omega))
        simp only [cX_cX, cA_cA, cA_1, cA_2, winS, stepE, hj, emS]

set_option maxHeartbeats 4000000 in
set_option maxRecDepth 100000 in
theorem c_X0_eatCells {K : Nat} (hK : isK K) (hc : cok X A K) {n : Nat} (hn : n < 2 ^ 31) : jMet (d + 4) yX0_eatCells cX0_eatCells 3 (some .int) 0 0 [.ref K, .int (nI n)] (tw X A L) (jRi (nI (min n (hN (A (K + 1))))) (tw (cX X K (winS (min n (hN (A (K + 1)))) (A (K + 1), A (K + 2))).1) (cA A K (winS (min n (hN (A (K + 1)))) (A (K + 1), A (K + 2))).1 (winS (min n (hN (A (K + 1)))) (A (K + 1), A (K + 2))).2) L)) := by
  refine jMet_of (by decide) (Nat.le_of_ble_eq_true rfl) none (Or.inl rfl) ?_
  show jWP none RX0 cX0_eatCells 3 (some .int) (d + 4) 0 0 0 [some (.ref K), some (.int (nI n)), none] [] (tw X A L) (jRi (nI (min n (hN (A (K + 1))))) (tw (cX X K (winS (min n (hN (A (K + 1)))) (A (K + 1), A (K + 2))).1) (cA A K (winS (min n (hN (A (K + 1)))) (A (K + 1), A (K + 2))).1 (winS (min n (hN (A (K + 1)))) (A (K + 1), A (K + 2))).2) L))
  refine j_iconst (v := nI 0) dX0_eatCells_0 rfl ?_
  refine j_istore_n (lv' := [some (.ref K), some (.int _), some (.int _)]) dX0_eatCells_1 rfl (by decide) rfl ?_
  refine j_atw ?_ (l_X0_eatCells (O := A (K + 1)) (S := A (K + 2)) (A := A) (X := X) hK hc.1 hc.2.1 hn (n + 1) 0 (by omega) (by omega) (by omega))
  exact (tw_eq (cok_self hc).2 (cok_self hc).1 rfl).symm

set_option maxHeartbeats 4000000 in
set_option maxRecDepth 100000 in
theorem c_X0_runTogether {K : Nat} (hK : isK K) (hc : cok X A K) {c o : Nat} (h1 : c < 49) (h2 : o < 49) : jMet (d + 2) yX0_runTogether cX0_runTogether 3 (some .boolean) 0 0 [.ref K, .int (nI c), .int (nI o)] (tw X A L) (jRi (bz (rtB (A (K + 1)) c o)) (tw (cX X K (rtS (A (K + 1)) (A (K + 2)) c o)) (cA A K (rtS (A (K + 1)) (A (K + 2)) c o) (A (K + 2))) L)) := by
  refine jMet_of (by decide) (Nat.le_of_ble_eq_true rfl) none (Or.inl rfl) ?_
  show jWP none RX0 cX0_runTogether 3 (some .boolean) (d + 2) 0 0 0 [some (.ref K), some (.int (nI c)), some (.int (nI o))] [] (tw X A L) (jRi (bz (rtB (A (K + 1)) c o)) (tw (cX X K (rtS (A (K + 1)) (A (K + 2)) c o)) (cA A K (rtS (A (K + 1)) (A (K + 2)) c o) (A (K + 2))) L))
  refine j_aload_n dX0_runTogether_0 rfl rfl ?_
  refine j_iload_n dX0_runTogether_1 rfl rfl ?_
  refine j_callVi [.int _] [] dX0_runTogether_2 jlk_X0_55 rfl rfl ((shK0 hK) _ _ _) rfl (Nat.le_of_ble_eq_true rfl) (c_X0_holds hK (by omega)) ?_
  refine j_if_eq (tgt := 32) dX0_runTogether_5 (by decide) (fun h5 => ?_) (fun h5 => ?_)
  · have h5 := bz_f h5
    refine j_iconst (v := nI 0) dX0_runTogether_32 rfl ?_
    refine j_zreturn dX0_runTogether_33 rfl (by decide) ?_
    have hr : rtS (A (K + 1)) (A (K + 2)) c o = A (K + 1) := by unfold rtS; exact if_neg (by simp [rtB, h5])
    refine ⟨by simp [bz, rtB, h5], ?_⟩
    rw [hr]
    exact (tw_eq (cok_self hc).2 (cok_self hc).1 rfl).symm
  · have h5 := bz_t h5
    refine j_aload_n dX0_runTogether_8 rfl rfl ?_
    refine j_iload_n dX0_runTogether_9 rfl rfl ?_
    refine j_callVi [.int _] [] dX0_runTogether_10 jlk_X0_55 rfl rfl ((shK0 hK) _ _ _) rfl (Nat.le_of_ble_eq_true rfl) (c_X0_holds hK (by omega)) ?_
    refine j_if_eq (tgt := 32) dX0_runTogether_13 (by decide) (fun h13 => ?_) (fun h13 => ?_)
    · have h13 := bz_f h13
      refine j_iconst (v := nI 0) dX0_runTogether_32 rfl ?_
      refine j_zreturn dX0_runTogether_33 rfl (by decide) ?_
      have hr : rtS (A (K + 1)) (A (K + 2)) c o = A (K + 1) := by unfold rtS; exact if_neg (by simp [rtB, h5, h13])
      refine ⟨by simp [bz, rtB, h5, h13], ?_⟩
      rw [hr]
      exact (tw_eq (cok_self hc).2 (cok_self hc).1 rfl).symm
    · have h13 := bz_t h13
      refine j_aload_n dX0_runTogether_16 rfl rfl ?_
      refine j_iload_n dX0_runTogether_17 rfl rfl ?_
      refine j_callVi [.int _] [] dX0_runTogether_18 jlk_X0_45 rfl rfl ((shK0 hK) _ _ _) rfl (Nat.le_of_ble_eq_true rfl) (c_X0_isSealed hK (by omega) hc) ?_
      refine j_if_ne (tgt := 32) dX0_runTogether_21 (by decide) (fun h21 => ?_) (fun h21 => ?_)
      · have h21 := bz_t h21
        refine j_iconst (v := nI 0) dX0_runTogether_32 rfl ?_
        refine j_zreturn dX0_runTogether_33 rfl (by decide) ?_
        have hr : rtS (A (K + 1)) (A (K + 2)) c o = A (K + 1) := by unfold rtS; exact if_neg (by simp [rtB, h5, h13, h21])
        refine ⟨by simp [bz, rtB, h5, h13, h21], ?_⟩
        rw [hr]
        exact (tw_eq (cok_self hc).2 (cok_self hc).1 rfl).symm
      · have h21 := bz_f h21
        refine j_aload_n dX0_runTogether_24 rfl rfl ?_
        refine j_iload_n dX0_runTogether_25 rfl rfl ?_
        refine j_callVi [.int _] [] dX0_runTogether_26 jlk_X0_45 rfl rfl ((shK0 hK) _ _ _) rfl (Nat.le_of_ble_eq_true rfl) (c_X0_isSealed hK (by omega) hc) ?_
        refine j_if_eq (tgt := 34) dX0_runTogether_29 (by decide) (fun h29 => ?_) (fun h29 => ?_)
        · have h29 := bz_f h29
          refine j_aload_n dX0_runTogether_34 rfl rfl ?_
          refine t_getR (b := (K + 1)) dX0_runTogether_35 jfl_X0_9 (shK0 hK) rfl ?_
          refine j_iload_n dX0_runTogether_38 rfl rfl ?_
          refine t_iaload dX0_runTogether_39 (shK1 hK) (by omega) (by decide) ?_
          refine j_aload_n dX0_runTogether_40 rfl rfl ?_
          refine t_getR (b := (K + 1)) dX0_runTogether_41 jfl_X0_9 (shK0 hK) rfl ?_
          refine j_iload_n dX0_runTogether_44 rfl rfl ?_
          refine t_iaload dX0_runTogether_45 (shK1 hK) (by omega) (by decide) ?_
          refine j_icmp_ne (tgt := 51) dX0_runTogether_46 (by decide) (fun h46 => ?_) (fun h46 => ?_)
          · refine j_aload_n dX0_runTogether_51 rfl rfl ?_
            refine t_getR (b := (K + 2)) dX0_runTogether_52 jfl_X0_15 (shK0 hK) rfl ?_
            refine j_iload_n dX0_runTogether_55 rfl rfl ?_
            refine t_iaload dX0_runTogether_56 (shK2 hK) (by omega) (by decide) ?_
            refine j_aload_n dX0_runTogether_57 rfl rfl ?_
            refine t_getR (b := (K + 2)) dX0_runTogether_58 jfl_X0_15 (shK0 hK) rfl ?_
            refine j_iload_n dX0_runTogether_61 rfl rfl ?_
            refine t_iaload dX0_runTogether_62 (shK2 hK) (by omega) (by decide) ?_
            refine j_icmp_ge (tgt := 81) dX0_runTogether_63 (by decide) (fun h63 => ?_) (fun h63 => ?_)
            · refine j_aload_n dX0_runTogether_81 rfl rfl ?_
              refine t_getR (b := (K + 1)) dX0_runTogether_82 jfl_X0_9 (shK0 hK) rfl ?_
              refine j_iload_n dX0_runTogether_85 rfl rfl ?_
              refine j_aload_n dX0_runTogether_86 rfl rfl ?_
              refine t_getR (b := (K + 1)) dX0_runTogether_87 jfl_X0_9 (shK0 hK) rfl ?_
              refine j_iload_n dX0_runTogether_90 rfl rfl ?_
              refine t_iaload dX0_runTogether_91 (shK1 hK) (by omega) (by decide) ?_
              refine t_iastore dX0_runTogether_92 (shK1 hK) (by omega) (by decide) ?_
              refine j_iconst (v := nI 1) dX0_runTogether_93 rfl ?_
              refine j_zreturn dX0_runTogether_94 rfl (by decide) ?_
              have hb : rtB (A (K + 1)) c o = true := by simp [rtB, h5, h13, h21, h29, h46, h63]
              have hr : rtS (A (K + 1)) (A (K + 2)) c o = upd (A (K + 1)) o (A (K + 1) c) := by unfold rtS rtO; simp only [hb, if_true, if_neg (Int32.not_lt.mpr h63)]
              have hz := rtS_held (O := A (K + 1)) (S := A (K + 2)) (c := c) (o := o)
              have he : eOf (rtS (A (K + 1)) (A (K + 2)) c o) = A (K + 3) := (eOf_same (fun x _ => hz x)).trans hc.2.2.1.symm
              have hh : hOf (rtS (A (K + 1)) (A (K + 2)) c o) = X K 4 := (hOf_same (fun x _ => hz x)).trans hc.2.2.2.symm
              refine ⟨by rw [hb]; rfl, ?_⟩
              refine tw_eq ?_ ?_ rfl
              · rw [cX, hh, ud_self, vu_self]
              · rw [cA, he, hr, vu_n A (K + 1) _ (show K + 2 ≠ K + 1 by omega) |>.symm, vu_self, vu_n A (K + 1) _ (show K + 3 ≠ K + 1 by omega) |>.symm, vu_self]
            · refine j_aload_n dX0_runTogether_66 rfl rfl ?_
              refine t_getR (b := (K + 1)) dX0_runTogether_67 jfl_X0_9 (shK0 hK) rfl ?_
              refine j_iload_n dX0_runTogether_70 rfl rfl ?_
              refine j_aload_n dX0_runTogether_71 rfl rfl ?_
              refine t_getR (b := (K + 1)) dX0_runTogether_72 jfl_X0_9 (shK0 hK) rfl ?_
              refine j_iload_n dX0_runTogether_75 rfl rfl ?_
              refine t_iaload dX0_runTogether_76 (shK1 hK) (by omega) (by decide) ?_
              refine t_iastore dX0_runTogether_77 (shK1 hK) (by omega) (by decide) ?_
              refine j_goto (tgt := 93) dX0_runTogether_78 (by decide) ?_
              refine j_iconst (v := nI 1) dX0_runTogether_93 rfl ?_
              refine j_zreturn dX0_runTogether_94 rfl (by decide) ?_
              have hb : rtB (A (K + 1)) c o = true := by simp [rtB, h5, h13, h21, h29, h46, h63]
              have hr : rtS (A (K + 1)) (A (K + 2)) c o = upd (A (K + 1)) c (A (K + 1) o) := by unfold rtS rtO; simp only [hb, if_true, if_pos (Int32.not_le.mp h63)]
              have hz := rtS_held (O := A (K + 1)) (S := A (K + 2)) (c := c) (o := o)
              have he : eOf (rtS (A (K + 1)) (A (K + 2)) c o) = A (K + 3) := (eOf_same (fun x _ => hz x)).trans hc.2.2.1.symm
              have hh : hOf (rtS (A (K + 1)) (A (K + 2)) c o) = X K 4 := (hOf_same (fun x _ => hz x)).trans hc.2.2.2.symm
              refine ⟨by rw [hb]; rfl, ?_⟩
              refine tw_eq ?_ ?_ rfl
              · rw [cX, hh, ud_self, vu_self]
              · rw [cA, he, hr, vu_n A (K + 1) _ (show K + 2 ≠ K + 1 by omega) |>.symm, vu_self, vu_n A (K + 1) _ (show K + 3 ≠ K + 1 by omega) |>.symm, vu_self]
          · refine j_iconst (v := nI 0) dX0_runTogether_49 rfl ?_
            refine j_zreturn dX0_runTogether_50 rfl (by decide) ?_
            have hr : rtS (A (K + 1)) (A (K + 2)) c o = A (K + 1) := by unfold rtS; exact if_neg (by simp [rtB, h5, h13, h21, h29, h46])
            refine ⟨by simp [bz, rtB, h5, h13, h21, h29, h46], ?_⟩
            rw [hr]
            exact (tw_eq (cok_self hc).2 (cok_self hc).1 rfl).symm
        · have h29 := bz_t h29
          refine j_iconst (v := nI 0) dX0_runTogether_32 rfl ?_
          refine j_zreturn dX0_runTogether_33 rfl (by decide) ?_
          have hr : rtS (A (K + 1)) (A (K + 2)) c o = A (K + 1) := by unfold rtS; exact if_neg (by simp [rtB, h5, h13, h21, h29])
          refine ⟨by simp [bz, rtB, h5, h13, h21, h29], ?_⟩
          rw [hr]
          exact (tw_eq (cok_self hc).2 (cok_self hc).1 rfl).symm

end CT2