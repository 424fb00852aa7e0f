section CT3
variable {d : Nat} {X A : Nat → Nat → Int32} {L : Nat → Nat → Int64} {w : jW}

set_option maxHeartbeats 4000000 in
set_option maxRecDepth 100000 in
theorem l_X0_heatUp_12 {K : Nat} (hK : isK K) {O S : Nat → Int32} (h1 : zb 49 O) (h2 : zb 49 S) {c : Nat} (hc : c < 49) (kk : jWP none RX0 cX0_heatUp 5 (some .int) (d + 3) 0 0 4 [some (.ref K), some (.int (nI (htC O S (c + 1)).2)), some (.int (nI (c + 1))), none, none] [] (tw (cX X K (htC O S (c + 1)).1) (cA A K (htC O S (c + 1)).1 S) L) (jRi (nI (htC O S 49).2) (tw (cX X K (htC O S 49).1) (cA A K (htC O S 49).1 S) L))) : ∀ (m k : Nat), k ≤ dg c → dg c - k < m → jWP none RX0 cX0_heatUp 5 (some .int) (d + 3) 0 0 12 [some (.ref K), some (.int (nI (htK S c k (htC O S c)).2)), some (.int (nI c)), some (.int (nI k)), none] [] (tw (cX X K (htK S c k (htC O S c)).1) (cA A K (htK S c k (htC O S c)).1 S) L) (jRi (nI (htC O S 49).2) (tw (cX X K (htC O S 49).1) (cA A K (htC O S 49).1 S) L)) := by
  intro m
  induction m with
  | zero => intro k h1 h2; omega
  | succ m ih =>
    intro k hk hm
    have hd6 := dg_le c hc
    have hz := htK_z (S := S) hc (s := htC O S c) (htC_z h1 c (by omega)) k
    have hck := cok_c (X := X) (A := A) (K := K) hz h2
    refine j_iload_n dX0_heatUp_12 rfl rfl ?_
    refine j_aload_n dX0_heatUp_13 rfl rfl ?_
    refine t_getR (b := 5) dX0_heatUp_14 jfl_X0_25 (shK0 hK) rfl ?_
    refine j_iload_n dX0_heatUp_17 rfl rfl ?_
    refine j_callVi [.int _] [.int _] dX0_heatUp_18 jlk_X0_29 rfl rfl rfl rfl (Nat.le_of_ble_eq_true rfl) (c_X1_degree (by omega)) ?_
    refine jn_icmp_ge (tgt := 60) dX0_heatUp_21 (by decide) (by omega) (by omega) (fun h21 => ?_) (fun h21 => ?_)
    · refine jn_iinc (lv' := [some (.ref K), some (.int _), some (.int _), some (.int _), none]) dX0_heatUp_60 rfl (by decide) rfl ?_
      refine j_goto (tgt := 4) dX0_heatUp_63 (by decide) ?_
      have hke : k = dg c := by omega
      subst hke
      exact j_sub (by exact ⟨rfl, rfl, rfl, trivial⟩) kk
    · refine j_aload_n dX0_heatUp_24 rfl rfl ?_
      refine t_getR (b := 5) dX0_heatUp_25 jfl_X0_25 (shK0 hK) rfl ?_
      refine j_iload_n dX0_heatUp_28 rfl rfl ?_
      refine j_iload_n dX0_heatUp_29 rfl rfl ?_
      refine j_callVi [.int _, .int _] [] dX0_heatUp_30 jlk_X0_48 rfl rfl rfl rfl (Nat.le_of_ble_eq_true rfl) (c_X1_neighbour hc (by omega)) ?_
      refine j_istore (lv' := [some (.ref K), some (.int _), some (.int _), some (.int _), some (.int _)]) dX0_heatUp_33 (by decide) rfl ?_
      refine j_iload dX0_heatUp_35 rfl ?_
      refine j_iload_n dX0_heatUp_37 rfl rfl ?_
      refine jn_icmp_le (tgt := 54) dX0_heatUp_38 (by decide) (Nat.lt_trans nb_lt (by decide)) (by omega) (fun h38 => ?_) (fun h38 => ?_)
      · refine jn_iinc (lv' := [some (.ref K), some (.int _), some (.int _), some (.int _), some (.int _)]) dX0_heatUp_54 rfl (by decide) rfl ?_
        refine j_goto (tgt := 12) dX0_heatUp_57 (by decide) ?_
        refine j_sub ?_ (j_atw ?_ (ih (k + 1) (by omega) (by omega)))
        · simp only [jsub, htK, if_neg (Nat.not_lt.mpr h38), and_self]
        · simp only [htK, if_neg (Nat.not_lt.mpr h38)]
      · refine j_aload_n dX0_heatUp_41 rfl rfl ?_
        refine j_iload_n dX0_heatUp_42 rfl rfl ?_
        refine j_iload dX0_heatUp_43 rfl ?_
        refine j_callVi [.int _, .int _] [] dX0_heatUp_45 jlk_X0_73 rfl rfl ((shK0 hK) _ _ _) rfl (Nat.le_of_ble_eq_true rfl) (c_X0_runTogether hK hck hc nb_lt) ?_
        rw [cA_1, cA_2, cX_cX, cA_cA]
        refine j_if_eq (tgt := 54) dX0_heatUp_48 (by decide) (fun h48 => ?_) (fun h48 => ?_)
        · refine jn_iinc (lv' := [some (.ref K), some (.int _), some (.int _), some (.int _), some (.int _)]) dX0_heatUp_54 rfl (by decide) rfl ?_
          refine j_goto (tgt := 12) dX0_heatUp_57 (by decide) ?_
          refine j_sub ?_ (j_atw ?_ (ih (k + 1) (by omega) (by omega)))
          · simp only [jsub, htK, if_pos h38, bz_f h48, and_self]; simp
          · simp only [htK, if_pos h38]
        · refine jn_iinc (lv' := [some (.ref K), some (.int _), some (.int _), some (.int _), some (.int _)]) dX0_heatUp_51 rfl (by decide) rfl ?_
          refine jn_iinc (lv' := [some (.ref K), some (.int _), some (.int _), some (.int _), some (.int _)]) dX0_heatUp_54 rfl (by decide) rfl ?_
          refine j_goto (tgt := 12) dX0_heatUp_57 (by decide) ?_
          refine j_sub ?_ (j_atw ?_ (ih (k + 1) (by omega) (by omega)))
          · simp only [jsub, htK, if_pos h38, bz_t h48, and_self]; simp
          · simp only [htK, if_pos h38]

set_option maxHeartbeats 4000000 in
set_option maxRecDepth 100000 in
theorem l_X0_heatUp {K : Nat} (hK : isK K) {O S : Nat → Int32} (h1 : zb 49 O) (h2 : zb 49 S) : ∀ (m c : Nat), c ≤ 49 → 49 - c < m → jWP none RX0 cX0_heatUp 5 (some .int) (d + 3) 0 0 4 [some (.ref K), some (.int (nI (htC O S c).2)), some (.int (nI c)), none, none] [] (tw (cX X K (htC O S c).1) (cA A K (htC O S c).1 S) L) (jRi (nI (htC O S 49).2) (tw (cX X K (htC O S 49).1) (cA A K (htC O S 49).1 S) L)) := by
  intro m
  induction m with
  | zero => intro c h1 h2; omega
  | succ m ih =>
    intro c hc hm
    refine j_iload_n dX0_heatUp_4 rfl rfl ?_
    refine j_bipush (v := nI 49) dX0_heatUp_5 rfl ?_
    refine jn_icmp_ge (tgt := 66) dX0_heatUp_7 (by decide) (by omega) (by omega) (fun h7 => ?_) (fun h7 => ?_)
    · refine j_iload_n dX0_heatUp_66 rfl rfl ?_
      refine j_ireturn dX0_heatUp_67 rfl ?_
      obtain rfl : c = 49 := by omega
      exact ⟨rfl, rfl⟩
    · refine j_iconst (v := nI 0) dX0_heatUp_10 rfl ?_
      refine j_istore_n (lv' := [some (.ref K), some (.int _), some (.int _), some (.int _), none]) dX0_heatUp_11 rfl (by decide) rfl ?_
      exact j_sub (by exact ⟨rfl, rfl, rfl, rfl, trivial⟩) (l_X0_heatUp_12 hK h1 h2 h7 (ih (c + 1) (by omega) (by omega)) 50 0 (by omega) (by have := dg_le c h7; omega))

set_option maxHeartbeats 4000000 in
set_option maxRecDepth 100000 in
theorem c_X0_heatUp {K : Nat} (hK : isK K) (hc : cok X A K) : jMet (d + 3) yX0_heatUp cX0_heatUp 5 (some .int) 0 0 [.ref K] (tw X A L) (jRi (nI (htC (A (K + 1)) (A (K + 2)) 49).2) (tw (cX X K (htC (A (K + 1)) (A (K + 2)) 49).1) (cA A K (htC (A (K + 1)) (A (K + 2)) 49).1 (A (K + 2))) L)) := by
  refine jMet_of (by decide) (Nat.le_of_ble_eq_true rfl) none (Or.inl rfl) ?_
  show jWP none RX0 cX0_heatUp 5 (some .int) (d + 3) 0 0 0 [some (.ref K), none, none, none, none] [] (tw X A L) (jRi (nI (htC (A (K + 1)) (A (K + 2)) 49).2) (tw (cX X K (htC (A (K + 1)) (A (K + 2)) 49).1) (cA A K (htC (A (K + 1)) (A (K + 2)) 49).1 (A (K + 2))) L))
  refine j_iconst (v := nI 0) dX0_heatUp_0 rfl ?_
  refine j_istore_n (lv' := [some (.ref K), some (.int _), none, none, none]) dX0_heatUp_1 rfl (by decide) rfl ?_
  refine j_iconst (v := nI 0) dX0_heatUp_2 rfl ?_
  refine j_istore_n (lv' := [some (.ref K), some (.int _), some (.int _), none, none]) dX0_heatUp_3 rfl (by decide) rfl ?_
  refine j_atw ?_ (l_X0_heatUp (O := A (K + 1)) (S := A (K + 2)) (A := A) (X := X) hK hc.1 hc.2.1 50 0 (by omega) (by omega))
  exact (tw_eq (cok_self hc).2 (cok_self hc).1 rfl).symm

set_option maxHeartbeats 4000000 in
set_option maxRecDepth 100000 in
theorem l_X0_emptyAbout {K : Nat} (hK : isK K) {O S : Nat → Int32} (h1 : zb 49 O) (h2 : zb 49 S) {z m : Nat} (hz : z < 49) (hm9 : m < 2 ^ 31) : ∀ (n i : Nat), i ≤ 49 → 49 - i < n → jWP none RX0 cX0_emptyAbout 5 (some .int) (d + 4) 0 0 5 [some (.ref K), some (.int (nI z)), some (.int (nI m)), some (.int (nI (abS z m (O, S) i).2)), some (.int (nI i))] [] (tw (cX X K (abS z m (O, S) i).1.1) (cA A K (abS z m (O, S) i).1.1 (abS z m (O, S) i).1.2) L) (jRi (nI (abS z m (O, S) 49).2) (tw (cX X K (abS z m (O, S) 49).1.1) (cA A K (abS z m (O, S) 49).1.1 (abS z m (O, S) 49).1.2) L)) := by
  intro n
  induction n with
  | zero => intro i h1 h2; omega
  | succ n ih =>
    intro i hi hm
    have hz9 := abS_z (c := (O, S)) (z := z) (m := m) h1 h2 i hi
    have hck := cok_c (X := X) (A := A) (K := K) hz9.1 hz9.2
    refine j_iload dX0_emptyAbout_5 rfl ?_
    refine j_bipush (v := nI 49) dX0_emptyAbout_7 rfl ?_
    refine jn_icmp_ge (tgt := 50) dX0_emptyAbout_9 (by decide) (by omega) (by omega) (fun h9 => ?_) (fun h9 => ?_)
    · refine j_iload_n dX0_emptyAbout_50 rfl rfl ?_
      refine j_ireturn dX0_emptyAbout_51 rfl ?_
      obtain rfl : i = 49 := by omega
      exact ⟨rfl, rfl⟩
    · refine j_aload_n dX0_emptyAbout_12 rfl rfl ?_
      refine j_iload dX0_emptyAbout_13 rfl ?_
      refine j_callVi [.int _] [] dX0_emptyAbout_15 jlk_X0_55 rfl rfl ((shK0 hK) _ _ _) rfl (Nat.le_of_ble_eq_true rfl) (c_X0_holds hK (by omega)) ?_
      rw [cA_1]
      refine j_if_eq (tgt := 44) dX0_emptyAbout_18 (by decide) (fun h18 => ?_) (fun h18 => ?_)
      · have h18 := bz_f h18
        refine jn_iinc (lv' := [some (.ref K), some (.int _), some (.int _), some (.int _), some (.int _)]) dX0_emptyAbout_44 rfl (by decide) rfl ?_
        refine j_goto (tgt := 5) dX0_emptyAbout_47 (by decide) ?_
        refine j_sub ?_ (j_atw ?_ (ih (i + 1) (by omega) (by omega)))
        · simp [jsub, abS, h18]
        · simp [abS, h18]
      · have h18 := bz_t h18
        refine j_aload_n dX0_emptyAbout_21 rfl rfl ?_
        refine t_getR (b := 5) dX0_emptyAbout_22 jfl_X0_25 (shK0 hK) rfl ?_
        refine j_iload_n dX0_emptyAbout_25 rfl rfl ?_
        refine j_iload dX0_emptyAbout_26 rfl ?_
        refine j_callVi [.int _, .int _] [] dX0_emptyAbout_28 jlk_X0_77 rfl rfl rfl rfl (Nat.le_of_ble_eq_true rfl) (c_X1_distance (by omega) (by omega)) ?_
        refine j_iload_n dX0_emptyAbout_31 rfl rfl ?_
        refine jn_icmp_gt (tgt := 44) dX0_emptyAbout_32 (by decide) (dsN_le hz (by omega)) (by omega) (fun h32 => ?_) (fun h32 => ?_)
        · refine jn_iinc (lv' := [some (.ref K), some (.int _), some (.int _), some (.int _), some (.int _)]) dX0_emptyAbout_44 rfl (by decide) rfl ?_
          refine j_goto (tgt := 5) dX0_emptyAbout_47 (by decide) ?_
          refine j_sub ?_ (j_atw ?_ (ih (i + 1) (by omega) (by omega)))
          · simp [jsub, abS, h18, Nat.not_le.mpr h32]
          · simp [abS, h18, Nat.not_le.mpr h32]
        · refine j_aload_n dX0_emptyAbout_35 rfl rfl ?_
          refine j_iload dX0_emptyAbout_36 rfl ?_
          refine j_callVv [.int _] [] dX0_emptyAbout_38 jlk_X0_66 rfl rfl ((shK0 hK) _ _ _) rfl (Nat.le_of_ble_eq_true rfl) (c_X0_empty hK hck h9 (by rw [cA_1]; exact h18)) ?_
          refine jn_iinc (lv' := [some (.ref K), some (.int _), some (.int _), some (.int _), some (.int _)]) dX0_emptyAbout_41 rfl (by decide) rfl ?_
          refine jn_iinc (lv' := [some (.ref K), some (.int _), some (.int _), some (.int _), some (.int _)]) dX0_emptyAbout_44 rfl (by decide) rfl ?_
          refine j_goto (tgt := 5) dX0_emptyAbout_47 (by decide) ?_
          refine j_sub ?_ (j_atw ?_ (ih (i + 1) (by omega) (by omega)))
          · simp [jsub, abS, h18, h32]
          · simp only [cX_cX, cA_cA, cA_1, cA_2]; simp [abS, h18, h32, emS]

set_option maxHeartbeats 4000000 in
set_option maxRecDepth 100000 in
theorem c_X0_emptyAbout {K : Nat} (hK : isK K) (hc : cok X A K) {z m : Nat} (hz : z < 49) (hm9 : m < 2 ^ 31) : jMet (d + 4) yX0_emptyAbout cX0_emptyAbout 5 (some .int) 0 0 [.ref K, .int (nI z), .int (nI m)] (tw X A L) (jRi (nI (abS z m (A (K + 1), A (K + 2)) 49).2) (tw (cX X K (abS z m (A (K + 1), A (K + 2)) 49).1.1) (cA A K (abS z m (A (K + 1), A (K + 2)) 49).1.1 (abS z m (A (K + 1), A (K + 2)) 49).1.2) L)) := by
  refine jMet_of (by decide) (Nat.le_of_ble_eq_true rfl) none (Or.inl rfl) ?_
  show jWP none RX0 cX0_emptyAbout 5 (some .int) (d + 4) 0 0 0 [some (.ref K), some (.int (nI z)), some (.int (nI m)), none, none] [] (tw X A L) (jRi (nI (abS z m (A (K + 1), A (K + 2)) 49).2) (tw (cX X K (abS z m (A (K + 1), A (K + 2)) 49).1.1) (cA A K (abS z m (A (K + 1), A (K + 2)) 49).1.1 (abS z m (A (K + 1), A (K + 2)) 49).1.2) L))
  refine j_iconst (v := nI 0) dX0_emptyAbout_0 rfl ?_
  refine j_istore_n (lv' := [some (.ref K), some (.int _), some (.int _), some (.int _), none]) dX0_emptyAbout_1 rfl (by decide) rfl ?_
  refine j_iconst (v := nI 0) dX0_emptyAbout_2 rfl ?_
  refine j_istore (lv' := [some (.ref K), some (.int _), some (.int _), some (.int _), some (.int _)]) dX0_emptyAbout_3 (by decide) rfl ?_
  refine j_atw ?_ (l_X0_emptyAbout (O := A (K + 1)) (S := A (K + 2)) (A := A) (X := X) hK hc.1 hc.2.1 hz hm9 50 0 (by omega) (by omega))
  exact (tw_eq (cok_self hc).2 (cok_self hc).1 rfl).symm

set_option maxHeartbeats 4000000 in
set_option maxRecDepth 100000 in
theorem l_X0_heldAbout {K : Nat} (hK : isK K) {z m : Nat} (hz : z < 49) (hm9 : m < 2 ^ 31) : ∀ (n i : Nat), i ≤ 49 → 49 - i < n → jWP none RX0 cX0_heldAbout 5 (some .int) (d + 2) 0 0 5 [some (.ref K), some (.int (nI z)), some (.int (nI m)), some (.int (nI (cnt (fun i => heldB (A (K + 1)) i && decide (dsN z i ≤ m)) i))), some (.int (nI i))] [] (tw X A L) (jRi (nI (cnt (fun i => heldB (A (K + 1)) i && decide (dsN z i ≤ m)) 49)) (tw X A L)) := by
  intro n
  induction n with
  | zero => intro i h1 h2; omega
  | succ n ih =>
    intro i hi hm
    refine j_iload dX0_heldAbout_5 rfl ?_
    refine j_bipush (v := nI 49) dX0_heldAbout_7 rfl ?_
    refine jn_icmp_ge (tgt := 44) dX0_heldAbout_9 (by decide) (by omega) (by omega) (fun h9 => ?_) (fun h9 => ?_)
    · refine j_iload_n dX0_heldAbout_44 rfl rfl ?_
      refine j_ireturn dX0_heldAbout_45 rfl ?_
      exact ⟨by rw [show i = 49 by omega], rfl⟩
    · refine j_aload_n dX0_heldAbout_12 rfl rfl ?_
      refine j_iload dX0_heldAbout_13 rfl ?_
      refine j_callVi [.int _] [] dX0_heldAbout_15 jlk_X0_55 rfl rfl ((shK0 hK) _ _ _) rfl (Nat.le_of_ble_eq_true rfl) (c_X0_holds hK (by omega)) ?_
      refine j_if_eq (tgt := 38) dX0_heldAbout_18 (by decide) (fun h18 => ?_) (fun h18 => ?_)
      · have h18 := bz_f h18
        refine jn_iinc (lv' := [some (.ref K), some (.int _), some (.int _), some (.int _), some (.int _)]) dX0_heldAbout_38 rfl (by decide) rfl ?_
        refine j_goto (tgt := 5) dX0_heldAbout_41 (by decide) ?_
        refine j_sub ?_ (ih (i + 1) (by omega) (by omega))
        simp [jsub, cnt, h18]
      · have h18 := bz_t h18
        refine j_aload_n dX0_heldAbout_21 rfl rfl ?_
        refine t_getR (b := 5) dX0_heldAbout_22 jfl_X0_25 (shK0 hK) rfl ?_
        refine j_iload_n dX0_heldAbout_25 rfl rfl ?_
        refine j_iload dX0_heldAbout_26 rfl ?_
        refine j_callVi [.int _, .int _] [] dX0_heldAbout_28 jlk_X0_77 rfl rfl rfl rfl (Nat.le_of_ble_eq_true rfl) (c_X1_distance (by omega) (by omega)) ?_
        refine j_iload_n dX0_heldAbout_31 rfl rfl ?_
        refine jn_icmp_gt (tgt := 38) dX0_heldAbout_32 (by decide) (dsN_le hz (by omega)) (by omega) (fun h32 => ?_) (fun h32 => ?_)
        · refine jn_iinc (lv' := [some (.ref K), some (.int _), some (.int _), some (.int _), some (.int _)]) dX0_heldAbout_38 rfl (by decide) rfl ?_
          refine j_goto (tgt := 5) dX0_heldAbout_41 (by decide) ?_
          refine j_sub ?_ (ih (i + 1) (by omega) (by omega))
          simp [jsub, cnt, h18, Nat.not_le.mpr h32]
        · refine jn_iinc (lv' := [some (.ref K), some (.int _), some (.int _), some (.int _), some (.int _)]) dX0_heldAbout_35 rfl (by decide) rfl ?_
          refine jn_iinc (lv' := [some (.ref K), some (.int _), some (.int _), some (.int _), some (.int _)]) dX0_heldAbout_38 rfl (by decide) rfl ?_
          refine j_goto (tgt := 5) dX0_heldAbout_41 (by decide) ?_
          refine j_sub ?_ (ih (i + 1) (by omega) (by omega))
          simp [jsub, cnt, h18, h32]

set_option maxHeartbeats 4000000 in
set_option maxRecDepth 100000 in
theorem c_X0_heldAbout {K : Nat} (hK : isK K) {z m : Nat} (hz : z < 49) (hm9 : m < 2 ^ 31) : jMet (d + 2) yX0_heldAbout cX0_heldAbout 5 (some .int) 0 0 [.ref K, .int (nI z), .int (nI m)] (tw X A L) (jRi (nI (cnt (fun i => heldB (A (K + 1)) i && decide (dsN z i ≤ m)) 49)) (tw X A L)) := by
  refine jMet_of (by decide) (Nat.le_of_ble_eq_true rfl) none (Or.inl rfl) ?_
  show jWP none RX0 cX0_heldAbout 5 (some .int) (d + 2) 0 0 0 [some (.ref K), some (.int (nI z)), some (.int (nI m)), none, none] [] (tw X A L) (jRi (nI (cnt (fun i => heldB (A (K + 1)) i && decide (dsN z i ≤ m)) 49)) (tw X A L))
  refine j_iconst (v := nI 0) dX0_heldAbout_0 rfl ?_
  refine j_istore_n (lv' := [some (.ref K), some (.int _), some (.int _), some (.int _), none]) dX0_heldAbout_1 rfl (by decide) rfl ?_
  refine j_iconst (v := nI 0) dX0_heldAbout_2 rfl ?_
  refine j_istore (lv' := [some (.ref K), some (.int _), some (.int _), some (.int _), some (.int _)]) dX0_heldAbout_3 (by decide) rfl ?_
  exact l_X0_heldAbout hK hz hm9 50 0 (by omega) (by omega)

set_option maxHeartbeats 4000000 in
set_option maxRecDepth 100000 in
theorem l_X0_lossAbout {K : Nat} (hK : isK K) {z m : Nat} (hz : z < 49) (hm9 : m < 2 ^ 31) {a : Int32} : ∀ (n i : Nat), i ≤ 49 → 49 - i < n → jWP none RX0 cX0_lossAbout 6 (some .int) (d + 2) 0 0 6 [some (.ref K), some (.int (nI z)), some (.int (nI m)), some (.int a), some (.int (lossS (A (K + 1)) (A (K + 2)) z m a i)), some (.int (nI i))] [] (tw X A L) (jRi (lossS (A (K + 1)) (A (K + 2)) z m a 49) (tw X A L)) := by
  intro n
  induction n with
  | zero => intro i h1 h2; omega
  | succ n ih =>
    intro i hi hm
    refine j_iload dX0_lossAbout_6 rfl ?_
    refine j_bipush (v := nI 49) dX0_lossAbout_8 rfl ?_
    refine jn_icmp_ge (tgt := 56) dX0_lossAbout_10 (by decide) (by omega) (by omega) (fun h10 => ?_) (fun h10 => ?_)
    · refine j_iload dX0_lossAbout_56 rfl ?_
      refine j_ireturn dX0_lossAbout_58 rfl ?_
      exact ⟨by rw [show i = 49 by omega], rfl⟩
    · refine j_aload_n dX0_lossAbout_13 rfl rfl ?_
      refine t_getR (b := (K + 1)) dX0_lossAbout_14 jfl_X0_9 (shK0 hK) rfl ?_
      refine j_iload dX0_lossAbout_17 rfl ?_
      refine t_iaload dX0_lossAbout_19 (shK1 hK) (by omega) (by decide) ?_
      refine j_iload_n dX0_lossAbout_20 rfl rfl ?_
      refine j_icmp_ne (tgt := 50) dX0_lossAbout_21 (by decide) (fun h21 => ?_) (fun h21 => ?_)
      · refine jn_iinc (lv' := [some (.ref K), some (.int _), some (.int _), some (.int _), some (.int _), some (.int _)]) dX0_lossAbout_50 rfl (by decide) rfl ?_
        refine j_goto (tgt := 6) dX0_lossAbout_53 (by decide) ?_
        refine j_sub ?_ (ih (i + 1) (by omega) (by omega))
        simp [jsub, lossS, h21]
      · refine j_aload_n dX0_lossAbout_24 rfl rfl ?_
        refine t_getR (b := 5) dX0_lossAbout_25 jfl_X0_25 (shK0 hK) rfl ?_
        refine j_iload_n dX0_lossAbout_28 rfl rfl ?_
        refine j_iload dX0_lossAbout_29 rfl ?_
        refine j_callVi [.int _, .int _] [] dX0_lossAbout_31 jlk_X0_77 rfl rfl rfl rfl (Nat.le_of_ble_eq_true rfl) (c_X1_distance (by omega) (by omega)) ?_
        refine j_iload_n dX0_lossAbout_34 rfl rfl ?_
        refine jn_icmp_gt (tgt := 50) dX0_lossAbout_35 (by decide) (dsN_le hz (by omega)) (by omega) (fun h35 => ?_) (fun h35 => ?_)
        · refine jn_iinc (lv' := [some (.ref K), some (.int _), some (.int _), some (.int _), some (.int _), some (.int _)]) dX0_lossAbout_50 rfl (by decide) rfl ?_
          refine j_goto (tgt := 6) dX0_lossAbout_53 (by decide) ?_
          refine j_sub ?_ (ih (i + 1) (by omega) (by omega))
          simp [jsub, lossS, h21, Nat.not_le.mpr h35]
        · refine j_iload dX0_lossAbout_38 rfl ?_
          refine j_aload_n dX0_lossAbout_40 rfl rfl ?_
          refine t_getR (b := (K + 2)) dX0_lossAbout_41 jfl_X0_15 (shK0 hK) rfl ?_
          refine j_iload dX0_lossAbout_44 rfl ?_
          refine t_iaload dX0_lossAbout_46 (shK2 hK) (by omega) (by decide) ?_
          refine j_iadd dX0_lossAbout_47 ?_
          refine j_istore (lv' := [some (.ref K), some (.int _), some (.int _), some (.int _), some (.int _), some (.int _)]) dX0_lossAbout_48 (by decide) rfl ?_
          refine jn_iinc (lv' := [some (.ref K), some (.int _), some (.int _), some (.int _), some (.int _), some (.int _)]) dX0_lossAbout_50 rfl (by decide) rfl ?_
          refine j_goto (tgt := 6) dX0_lossAbout_53 (by decide) ?_
          refine j_sub ?_ (ih (i + 1) (by omega) (by omega))
          simp [jsub, lossS, h21, h35]

set_option maxHeartbeats 4000000 in
set_option maxRecDepth 100000 in
theorem c_X0_lossAbout {K : Nat} (hK : isK K) {z m : Nat} (hz : z < 49) (hm9 : m < 2 ^ 31) {a : Int32} : jMet (d + 2) yX0_lossAbout cX0_lossAbout 6 (some .int) 0 0 [.ref K, .int (nI z), .int (nI m), .int a] (tw X A L) (jRi (lossS (A (K + 1)) (A (K + 2)) z m a 49) (tw X A L)) := by
  refine jMet_of (by decide) (Nat.le_of_ble_eq_true rfl) none (Or.inl rfl) ?_
  show jWP none RX0 cX0_lossAbout 6 (some .int) (d + 2) 0 0 0 [some (.ref K), some (.int (nI z)), some (.int (nI m)), some (.int a), none, none] [] (tw X A L) (jRi (lossS (A (K + 1)) (A (K + 2)) z m a 49) (tw X A L))
  refine j_iconst (v := nI 0) dX0_lossAbout_0 rfl ?_
  refine j_istore (lv' := [some (.ref K), some (.int _), some (.int _), some (.int _), some (.int _), none]) dX0_lossAbout_1 (by decide) rfl ?_
  refine j_iconst (v := nI 0) dX0_lossAbout_3 rfl ?_
  refine j_istore (lv' := [some (.ref K), some (.int _), some (.int _), some (.int _), some (.int _), some (.int _)]) dX0_lossAbout_4 (by decide) rfl ?_
  exact l_X0_lossAbout hK hz hm9 50 0 (by omega) (by omega)

set_option maxHeartbeats 4000000 in
set_option maxRecDepth 100000 in
theorem c_X0_become {K : Nat} (hK : isK K) {J : Nat} (hJ : isK J) (hc : cok X A K) (hcj : cok X A J) : jMet (d + 1) yX0_become cX0_become 2 none 0 0 [.ref K, .ref J] (tw X A L) (jRv (tw (cX X K (A (J + 1))) (cA A K (A (J + 1)) (A (J + 2))) L)) := by
  refine jMet_of (by decide) (Nat.le_of_ble_eq_true rfl) none (Or.inl rfl) ?_
  show jWP none RX0 cX0_become 2 none (d + 1) 0 0 0 [some (.ref K), some (.ref J)] [] (tw X A L) (jRv (tw (cX X K (A (J + 1))) (cA A K (A (J + 1)) (A (J + 2))) L))
  have q1 : J + 2 ≠ K + 1 := by unfold isK at hK hJ; omega
  have q2 : J + 3 ≠ K + 1 := by unfold isK at hK hJ; omega
  have q3 : J + 3 ≠ K + 2 := by unfold isK at hK hJ; omega
  have q4 : K + 2 ≠ K + 1 := by omega
  have q5 : K + 3 ≠ K + 1 := by omega
  have q6 : K + 3 ≠ K + 2 := by omega
  refine j_aload_n dX0_become_0 rfl rfl ?_
  refine t_getR (b := (J + 1)) dX0_become_1 jfl_X0_9 (shK0 hJ) rfl ?_
  refine j_iconst (v := nI 0) dX0_become_4 rfl ?_
  refine j_aload_n dX0_become_5 rfl rfl ?_
  refine t_getR (b := (K + 1)) dX0_become_6 jfl_X0_9 (shK0 hK) rfl ?_
  refine j_iconst (v := nI 0) dX0_become_9 rfl ?_
  refine j_bipush (v := nI 49) dX0_become_10 rfl ?_
  refine t_copyi dX0_become_12 jlc_X0_35 (shK1 hJ) (shK1 hK) (by omega) (by omega) (by decide) (by decide) (Nat.le_of_ble_eq_true rfl) ?_
  refine j_aload_n dX0_become_15 rfl rfl ?_
  refine t_getR (b := (J + 2)) dX0_become_16 jfl_X0_15 (shK0 hJ) rfl ?_
  refine j_iconst (v := nI 0) dX0_become_19 rfl ?_
  refine j_aload_n dX0_become_20 rfl rfl ?_
  refine t_getR (b := (K + 2)) dX0_become_21 jfl_X0_15 (shK0 hK) rfl ?_
  refine j_iconst (v := nI 0) dX0_become_24 rfl ?_
  refine j_bipush (v := nI 49) dX0_become_25 rfl ?_
  refine t_copyi dX0_become_27 jlc_X0_35 (shK2 hJ) (shK2 hK) (by omega) (by omega) (by decide) (by decide) (Nat.le_of_ble_eq_true rfl) ?_
  refine j_aload_n dX0_become_30 rfl rfl ?_
  refine t_getR (b := (J + 3)) dX0_become_31 jfl_X0_18 (shK0 hJ) rfl ?_
  refine j_iconst (v := nI 0) dX0_become_34 rfl ?_
  refine j_aload_n dX0_become_35 rfl rfl ?_
  refine t_getR (b := (K + 3)) dX0_become_36 jfl_X0_18 (shK0 hK) rfl ?_
  refine j_iconst (v := nI 0) dX0_become_39 rfl ?_
  refine j_bipush (v := nI 49) dX0_become_40 rfl ?_
  refine t_copyi dX0_become_42 jlc_X0_35 (shK3 hJ) (shK3 hK) (by omega) (by omega) (by decide) (by decide) (Nat.le_of_ble_eq_true rfl) ?_
  refine j_aload_n dX0_become_45 rfl rfl ?_
  refine j_aload_n dX0_become_46 rfl rfl ?_
  refine t_getI dX0_become_47 jfl_X0_21 (shK0 hJ) (fun _ => rfl) ?_
  refine t_putI dX0_become_50 jfl_X0_21 (shK0 hK) (fun _ _ => rfl) (Nat.le_of_ble_eq_true rfl) rfl rfl ?_
  refine j_return dX0_become_53 rfl ?_
  refine ⟨rfl, tw_eq ?_ ?_ rfl⟩
  · rw [cX, ← hcj.2.2.2]
  · simp only [vu_n _ _ _ q1, vu_n _ _ _ q2, vu_n _ _ _ q3, vu_n _ _ _ q4, vu_n _ _ _ q5, vu_n _ _ _ q6]
    rw [cpy49 hcj.1 hc.1, cpy49 hcj.2.1 hc.2.1, hcj.2.2.1, hc.2.2.1, cpy49 (zb_eOf _) (zb_eOf _)]
    rfl

end CT3