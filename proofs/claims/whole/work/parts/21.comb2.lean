/-! pure rows about combs -/
theorem cnt_eq {p q : Nat → Bool} {n : Nat} (h : ∀ x, x < n → p x = q x) : cnt p n = cnt q n := by
  induction n with
  | zero => rfl
  | succ n ih =>
    unfold cnt
    rw [ih (fun x hx => h x (Nat.lt_succ_of_lt hx)), h n (Nat.lt_succ_self n)]
theorem cnt_less {p q : Nat → Bool} {n j : Nat} (hj : j < n) (h : ∀ x, x < n → x ≠ j → p x = q x) (h1 : p j = true) (h2 : q j = false) : cnt p n = cnt q n + 1 := by
  induction n with
  | zero => omega
  | succ n ih =>
    unfold cnt
    by_cases e : j = n
    · subst e
      rw [if_pos h1, if_neg (by rw [h2]; decide), cnt_eq (fun x hx => h x (Nat.lt_succ_of_lt hx) (Nat.ne_of_lt hx))]
    · rw [h n (Nat.lt_succ_self n) (fun q => e q.symm)]
      have := ih (by omega) (fun x hx => h x (Nat.lt_succ_of_lt hx))
      split <;> omega
theorem cnt_pos {p : Nat → Bool} {n j : Nat} (hj : j < n) (h : p j = true) : 0 < cnt p n := by
  induction n with
  | zero => omega
  | succ n ih =>
    unfold cnt
    by_cases e : j = n
    · subst e; rw [if_pos h]; omega
    · have := ih (by omega)
      split <;> omega
theorem cnt_zero {p : Nat → Bool} {n : Nat} (h : cnt p n = 0) {j : Nat} (hj : j < n) : p j = false := by
  cases hp : p j with
  | false => rfl
  | true => have := cnt_pos hj hp; omega
theorem cnt_ex {p : Nat → Bool} {n : Nat} (h : 0 < cnt p n) : ∃ j, j < n ∧ p j = true := by
  induction n with
  | zero => exact absurd h (Nat.lt_irrefl 0)
  | succ n ih =>
    by_cases hp : p n = true
    · exact ⟨n, Nat.lt_succ_self n, hp⟩
    · unfold cnt at h
      rw [if_neg hp] at h
      obtain ⟨j, h1, h2⟩ := ih h
      exact ⟨j, Nat.lt_succ_of_lt h1, h2⟩
theorem dsN_comm (a b : Nat) : dsN a b = dsN b a := by
  unfold dsN
  simp only
  omega
theorem isNx_comm (a b : Nat) : isNx a b = isNx b a := by unfold isNx; rw [dsN_comm]
theorem dsN_self (a : Nat) : dsN a a = 0 := by
  unfold dsN
  simp
theorem isNx_irr (a : Nat) : isNx a a = false := by unfold isNx; rw [dsN_self]; rfl
theorem nbL_nodup (a : Nat) : (nbL a).Nodup := List.Pairwise.filter _ List.nodup_range
theorem nb_inj {j k i : Nat} (hk : k < dg j) (hi : i < dg j) (h : nb j k = nb j i) : k = i := by
  unfold nb at h
  rw [List.getD_eq_getElem?_getD, List.getD_eq_getElem?_getD, List.getElem?_eq_getElem hk, List.getElem?_eq_getElem hi] at h
  have hp := List.pairwise_iff_getElem.mp (nbL_nodup j)
  have h : (nbL j)[k] = (nbL j)[i] := h
  rcases Nat.lt_trichotomy k i with q | q | q
  · exact absurd h (hp k i hk hi q)
  · exact q
  · exact absurd h.symm (hp i k hi hk q)
theorem nb_nx {j k : Nat} (hk : k < dg j) : isNx j (nb j k) = true := by
  unfold nb
  rw [List.getD_eq_getElem?_getD, List.getElem?_eq_getElem hk]
  exact (List.mem_filter.mp (List.getElem_mem hk)).2
theorem nx_nb {j o : Nat} (ho : o < 49) (h : isNx j o = true) : ∃ k, k < dg j ∧ nb j k = o := by
  have hm : o ∈ nbL j := List.mem_filter.mpr ⟨List.mem_range.mpr ho, h⟩
  obtain ⟨k, hk, e⟩ := List.getElem_of_mem hm
  exact ⟨k, hk, by unfold nb; rw [List.getD_eq_getElem?_getD, List.getElem?_eq_getElem hk]; exact e⟩
def esub (E : Nat → Int32) (j : Nat) (m : Int32) : Nat → Nat → Int32
  | 0 => E
  | k + 1 => upd (esub E j m k) (nb j k) (esub E j m k (nb j k) - m)
theorem esub_no {E : Nat → Int32} {j : Nat} {m : Int32} {c : Nat} : ∀ k, (∀ i, i < k → nb j i ≠ c) → esub E j m k c = E c
  | 0, _ => rfl
  | k + 1, h => by
    unfold esub
    rw [pk_un (fun q => h k (Nat.lt_succ_self k) q.symm)]
    exact esub_no k (fun i hi => h i (Nat.lt_succ_of_lt hi))
theorem esub_yes {E : Nat → Int32} {j : Nat} {m : Int32} {i : Nat} : ∀ k, k ≤ dg j → i < k → esub E j m k (nb j i) = E (nb j i) - m
  | 0, _, h => by omega
  | k + 1, hk, h => by
    unfold esub
    by_cases e : i = k
    · subst e
      rw [pk_us, esub_no i (fun x hx q => by have := nb_inj (by omega) (by omega) q; omega)]
    · rw [pk_un (fun q => e (nb_inj (by omega) (by omega) q))]
      exact esub_yes k (by omega) (by omega)
theorem esub_at {E : Nat → Int32} {j : Nat} {m : Int32} {c : Nat} (hc : c < 49) : esub E j m (dg j) c = if isNx j c = true then E c - m else E c := by
  by_cases h : isNx j c = true
  · obtain ⟨k, hk, rfl⟩ := nx_nb hc h
    rw [if_pos h, esub_yes (dg j) (Nat.le_refl _) hk]
  · rw [if_neg h]
    exact esub_no _ (fun i hi q => h (q ▸ nb_nx hi))
theorem esub_out {E : Nat → Int32} {j : Nat} {m : Int32} {c : Nat} (hc : 49 ≤ c) (k : Nat) : esub E j m k c = E c := esub_no k (fun i _ q => by have := @nb_lt j i; omega)
theorem heldB_upd (O : Nat → Int32) (j : Nat) (a : Int32) (c : Nat) : heldB (upd O j a) c = if c = j then decide (a ≠ -1) else heldB O c := by
  unfold heldB
  by_cases h : c = j
  · subst h; rw [pk_us, if_pos rfl]
  · rw [pk_un h, if_neg h]
theorem eOf_fill {O : Nat → Int32} {j : Nat} {a : Int32} (hj : j < 49) (h0 : heldB O j = false) (ha : a ≠ -1) : esub (eOf O) j (nI 1) (dg j) = eOf (upd O j a) := by
  funext c
  by_cases hc : c < 49
  · rw [esub_at hc]
    unfold eOf
    rw [if_pos hc, if_pos hc]
    by_cases hn : isNx j c = true
    · rw [if_pos hn]
      have : eN O c = eN (upd O j a) c + 1 := by
        refine cnt_less hj (fun x _ hx => ?_) ?_ ?_
        · simp only [heldB_upd, if_neg hx]
        · simp [h0, isNx_comm c j, hn]
        · simp [heldB_upd, ha]
      rw [this, pk_sub (by omega)]
      rfl
    · rw [if_neg hn]
      refine congrArg nI (cnt_eq fun x _ => ?_)
      by_cases hx : x = j
      · subst hx; simp [isNx_comm c x, hn]
      · simp only [heldB_upd, if_neg hx]
  · rw [esub_out (by omega)]
    unfold eOf
    rw [if_neg hc, if_neg hc]
theorem nI_m1 (n : Nat) : nI n - (-1) = nI (n + 1) := by
  rw [nI_succ]
  exact Int32.sub_neg
theorem nI_p1 (n : Nat) : nI (n + 1) + (-1) = nI n := pk_m1 n
theorem eOf_empty {O : Nat → Int32} {j : Nat} (hj : j < 49) (h0 : heldB O j = true) : esub (eOf O) j (-1) (dg j) = eOf (upd O j (-1)) := by
  funext c
  by_cases hc : c < 49
  · rw [esub_at hc]
    unfold eOf
    rw [if_pos hc, if_pos hc]
    by_cases hn : isNx j c = true
    · rw [if_pos hn]
      have : eN (upd O j (-1)) c = eN O c + 1 := by
        refine cnt_less hj (fun x _ hx => ?_) ?_ ?_
        · simp only [heldB_upd, if_neg hx]
        · simp [heldB_upd, isNx_comm c j, hn]
        · simp [h0]
      rw [this, nI_m1]
    · rw [if_neg hn]
      refine congrArg nI (cnt_eq fun x _ => ?_)
      by_cases hx : x = j
      · subst hx; simp [isNx_comm c x, hn]
      · simp only [heldB_upd, if_neg hx]
  · rw [esub_out (by omega)]
    unfold eOf
    rw [if_neg hc, if_neg hc]
theorem hN_fill {O : Nat → Int32} {j : Nat} {a : Int32} (hj : j < 49) (h0 : heldB O j = false) (ha : a ≠ -1) : hN (upd O j a) = hN O + 1 :=
  cnt_less hj (fun x _ hx => by simp only [heldB_upd, if_neg hx]) (by simp [heldB_upd, ha]) h0
theorem hN_empty {O : Nat → Int32} {j : Nat} (hj : j < 49) (h0 : heldB O j = true) : hN O = hN (upd O j (-1)) + 1 :=
  cnt_less hj (fun x _ hx => by simp only [heldB_upd, if_neg hx]) h0 (by simp [heldB_upd])
theorem eOf_same {O O' : Nat → Int32} (h : ∀ c, c < 49 → heldB O c = heldB O' c) : eOf O = eOf O' := by
  funext c
  unfold eOf
  by_cases hc : c < 49
  · rw [if_pos hc, if_pos hc]
    exact congrArg nI (cnt_eq fun x hx => by simp only [h x hx])
  · rw [if_neg hc, if_neg hc]
theorem hOf_same {O O' : Nat → Int32} (h : ∀ c, c < 49 → heldB O c = heldB O' c) : hOf O = hOf O' := congrArg nI (cnt_eq h)
theorem slB_same {O O' : Nat → Int32} (h : ∀ c, c < 49 → heldB O c = heldB O' c) {c : Nat} (hc : c < 49) : slB O c = slB O' c := by
  unfold slB eN
  rw [h c hc, cnt_eq (q := fun x => isNx c x && !heldB O' x) fun x hx => by simp only [h x hx]]
theorem zb_upd {n : Nat} {f : Nat → Int32} {j : Nat} {v : Int32} (h : zb n f) (hj : j < n) : zb n (upd f j v) := fun c hc => by rw [pk_un (by omega)]; exact h c hc
theorem cA_cA {A : Nat → Nat → Int32} {K : Nat} {O S O' S' : Nat → Int32} : cA (cA A K O S) K O' S' = cA A K O' S' := by
  unfold cA
  funext c
  by_cases h3 : c = K + 3
  · subst h3; simp [va_up]
  · by_cases h2 : c = K + 2
    · subst h2; simp [va_up]
    · by_cases h1 : c = K + 1
      · subst h1; simp [va_up]
      · simp [va_up, h1, h2, h3]
theorem cX_cX {X : Nat → Nat → Int32} {K : Nat} {O O' : Nat → Int32} : cX (cX X K O) K O' = cX X K O' := by
  unfold cX
  rw [vu_up, vu_s, ud_ud]
theorem cA_1 (A : Nat → Nat → Int32) (K : Nat) (O S : Nat → Int32) : cA A K O S (K + 1) = O := by simp [cA, va_up]
theorem cA_2 (A : Nat → Nat → Int32) (K : Nat) (O S : Nat → Int32) : cA A K O S (K + 2) = S := by simp [cA, va_up]
theorem cA_3 (A : Nat → Nat → Int32) (K : Nat) (O S : Nat → Int32) : cA A K O S (K + 3) = eOf O := by simp [cA, va_up]
theorem cA_n (A : Nat → Nat → Int32) {K : Nat} (O S : Nat → Int32) {a : Nat} (h1 : a ≠ K + 1) (h2 : a ≠ K + 2) (h3 : a ≠ K + 3) : cA A K O S a = A a := by simp [cA, va_up, h1, h2, h3]
theorem cX_n (X : Nat → Nat → Int32) {K : Nat} (O : Nat → Int32) {a : Nat} (h : a ≠ K) : cX X K O a = X a := by simp [cX, va_up, h]
theorem cX_4 (X : Nat → Nat → Int32) (K : Nat) (O : Nat → Int32) : cX X K O K 4 = hOf O := by simp [cX, va_up, pk_us]
theorem cok_c {X A : Nat → Nat → Int32} {K : Nat} {O S : Nat → Int32} (h1 : zb 49 O) (h2 : zb 49 S) : cok (cX X K O) (cA A K O S) K := ⟨by rw [cA_1]; exact h1, by rw [cA_2]; exact h2, by rw [cA_3, cA_1], by rw [cX_4, cA_1]⟩
theorem cok_self {X A : Nat → Nat → Int32} {K : Nat} (h : cok X A K) : cA A K (A (K + 1)) (A (K + 2)) = A ∧ cX X K (A (K + 1)) = X := by
  constructor
  · unfold cA
    rw [← h.2.2.1]
    funext c
    by_cases h3 : c = K + 3
    · subst h3; simp [va_up]
    · by_cases h2 : c = K + 2
      · subst h2; simp [va_up]
      · by_cases h1 : c = K + 1
        · subst h1; simp [va_up]
        · simp [va_up, h1, h2, h3]
  · unfold cX
    rw [← h.2.2.2, ud_self, vu_self]
section CT1
variable {d : Nat} {X A : Nat → Nat → Int32} {L : Nat → Nat → Int64} {w : jW}

set_option maxHeartbeats 4000000 in
set_option maxRecDepth 100000 in
theorem l_X0_sidesOwned {K : Nat} (hK : isK K) {j : Nat} (h : j < 49) {a : Int32} : ∀ (m i : Nat), i ≤ dg j → dg j - i < m → jWP none RX0 cX0_sidesOwned 5 (some .int) (d + 2) 0 0 5 [some (.ref K), some (.int (nI j)), some (.int a), some (.int (nI (cnt (fun k => decide (A (K + 1) (nb j k) = a)) i))), some (.int (nI i))] [] (tw X A L) (jRi (nI (cnt (fun k => decide (A (K + 1) (nb j k) = a)) (dg j))) (tw X A L)) := by
  intro m
  induction m with
  | zero => intro i h1 h2; omega
  | succ m ih =>
    intro i hi hm
    have hd6 := dg_le j h
    refine j_iload dX0_sidesOwned_5 rfl ?_
    refine j_aload_n dX0_sidesOwned_7 rfl rfl ?_
    refine t_getR (b := 5) dX0_sidesOwned_8 jfl_X0_25 (shK0 hK) rfl ?_
    refine j_iload_n dX0_sidesOwned_11 rfl rfl ?_
    refine j_callVi [.int _] [.int _] dX0_sidesOwned_12 jlk_X0_29 rfl rfl rfl rfl (Nat.le_of_ble_eq_true rfl) (c_X1_degree (by omega)) ?_
    refine jn_icmp_ge (tgt := 45) dX0_sidesOwned_15 (by decide) (by omega) (by omega) (fun h15 => ?_) (fun h15 => ?_)
    · refine j_iload_n dX0_sidesOwned_45 rfl rfl ?_
      refine j_ireturn dX0_sidesOwned_46 rfl ?_
      exact ⟨by rw [show i = dg j by omega], rfl⟩
    · refine j_aload_n dX0_sidesOwned_18 rfl rfl ?_
      refine j_aload_n dX0_sidesOwned_19 rfl rfl ?_
      refine t_getR (b := 5) dX0_sidesOwned_20 jfl_X0_25 (shK0 hK) rfl ?_
      refine j_iload_n dX0_sidesOwned_23 rfl rfl ?_
      refine j_iload dX0_sidesOwned_24 rfl ?_
      refine j_callVi [.int _, .int _] [.ref K] dX0_sidesOwned_26 jlk_X0_48 rfl rfl rfl rfl (Nat.le_of_ble_eq_true rfl) (c_X1_neighbour h (by omega)) ?_
      refine j_callVi [.int _] [] dX0_sidesOwned_29 jlk_X0_52 rfl rfl ((shK0 hK) _ _ _) rfl (Nat.le_of_ble_eq_true rfl) (c_X0_ownerOf hK nb_lt) ?_
      refine j_iload_n dX0_sidesOwned_32 rfl rfl ?_
      refine j_icmp_ne (tgt := 39) dX0_sidesOwned_33 (by decide) (fun h33 => ?_) (fun h33 => ?_)
      · refine jn_iinc (lv' := [some (.ref K), some (.int _), some (.int _), some (.int _), some (.int _)]) dX0_sidesOwned_39 rfl (by decide) rfl ?_
        refine j_goto (tgt := 5) dX0_sidesOwned_42 (by decide) ?_
        refine j_sub ?_ (ih (i + 1) (by omega) (by omega))
        simp [jsub, cnt, h15, h33]
      · refine jn_iinc (lv' := [some (.ref K), some (.int _), some (.int _), some (.int _), some (.int _)]) dX0_sidesOwned_36 rfl (by decide) rfl ?_
        refine jn_iinc (lv' := [some (.ref K), some (.int _), some (.int _), some (.int _), some (.int _)]) dX0_sidesOwned_39 rfl (by decide) rfl ?_
        refine j_goto (tgt := 5) dX0_sidesOwned_42 (by decide) ?_
        refine j_sub ?_ (ih (i + 1) (by omega) (by omega))
        simp [jsub, cnt, h15, h33]

set_option maxHeartbeats 4000000 in
set_option maxRecDepth 100000 in
theorem c_X0_sidesOwned {K : Nat} (hK : isK K) {j : Nat} (h : j < 49) {a : Int32} : jMet (d + 2) yX0_sidesOwned cX0_sidesOwned 5 (some .int) 0 0 [.ref K, .int (nI j), .int a] (tw X A L) (jRi (nI (cnt (fun k => decide (A (K + 1) (nb j k) = a)) (dg j))) (tw X A L)) := by
  refine jMet_of (by decide) (Nat.le_of_ble_eq_true rfl) none (Or.inl rfl) ?_
  show jWP none RX0 cX0_sidesOwned 5 (some .int) (d + 2) 0 0 0 [some (.ref K), some (.int (nI j)), some (.int a), none, none] [] (tw X A L) (jRi (nI (cnt (fun k => decide (A (K + 1) (nb j k) = a)) (dg j))) (tw X A L))
  have hd6 := dg_le j h
  refine j_iconst (v := nI 0) dX0_sidesOwned_0 rfl ?_
  refine j_istore_n (lv' := [some (.ref K), some (.int _), some (.int _), some (.int _), none]) dX0_sidesOwned_1 rfl (by decide) rfl ?_
  refine j_iconst (v := nI 0) dX0_sidesOwned_2 rfl ?_
  refine j_istore (lv' := [some (.ref K), some (.int _), some (.int _), some (.int _), some (.int _)]) dX0_sidesOwned_3 (by decide) rfl ?_
  exact l_X0_sidesOwned hK h 50 0 (by omega) (by omega)

set_option maxHeartbeats 4000000 in
set_option maxRecDepth 100000 in
theorem l_X0_countSides {K : Nat} (hK : isK K) {j : Nat} (h : j < 49) {v : Int32} : ∀ (m i : Nat), i ≤ dg j → dg j - i < m → jWP none RX0 cX0_countSides 5 none (d + 2) 0 0 12 [some (.ref K), some (.int (nI j)), some (.int v), some (.int (nI i)), none] [] (tw X (va_up A (K + 3) (esub (A (K + 3)) j v i)) L) (jRv (tw X (va_up A (K + 3) (esub (A (K + 3)) j v (dg j))) L)) := by
  intro m
  induction m with
  | zero => intro i h1 h2; omega
  | succ m ih =>
    intro i hi hm
    have hd6 := dg_le j h
    refine j_iload_n dX0_countSides_12 rfl rfl ?_
    refine j_aload_n dX0_countSides_13 rfl rfl ?_
    refine t_getR (b := 5) dX0_countSides_14 jfl_X0_25 (shK0 hK) rfl ?_
    refine j_iload_n dX0_countSides_17 rfl rfl ?_
    refine j_callVi [.int _] [.int _] dX0_countSides_18 jlk_X0_29 rfl rfl rfl rfl (Nat.le_of_ble_eq_true rfl) (c_X1_degree (by omega)) ?_
    refine jn_icmp_ge (tgt := 60) dX0_countSides_21 (by decide) (by omega) (by omega) (fun h21 => ?_) (fun h21 => ?_)
    · refine j_return dX0_countSides_60 rfl ?_
      exact ⟨rfl, by rw [show i = dg j by omega]⟩
    · refine j_aload_n dX0_countSides_24 rfl rfl ?_
      refine t_getR (b := 5) dX0_countSides_25 jfl_X0_25 (shK0 hK) rfl ?_
      refine j_iload_n dX0_countSides_28 rfl rfl ?_
      refine j_iload_n dX0_countSides_29 rfl rfl ?_
      refine j_callVi [.int _, .int _] [] dX0_countSides_30 jlk_X0_48 rfl rfl rfl rfl (Nat.le_of_ble_eq_true rfl) (c_X1_neighbour h (by omega)) ?_
      refine j_istore (lv' := [some (.ref K), some (.int _), some (.int _), some (.int _), some (.int _)]) dX0_countSides_33 (by decide) rfl ?_
      refine j_iload dX0_countSides_35 rfl ?_
      refine j_callSi [.int _] [] dX0_countSides_37 jlk_X0_41 rfl rfl (Nat.le_of_ble_eq_true rfl) (c_X1_isCell_in nb_lt) ?_
      refine j_if_eq (tgt := 54) dX0_countSides_40 (by decide) (fun h => absurd h (by decide)) (fun _ => ?_)
      refine j_aload_n dX0_countSides_43 rfl rfl ?_
      refine t_getR (b := (K + 3)) dX0_countSides_44 jfl_X0_18 (shK0 hK) rfl ?_
      refine j_iload dX0_countSides_47 rfl ?_
      refine j_dup2 dX0_countSides_49 rfl rfl ?_
      refine t_iaload dX0_countSides_50 (shK3 hK) nb_lt (by decide) ?_
      refine j_iload_n dX0_countSides_51 rfl rfl ?_
      refine j_isub dX0_countSides_52 ?_
      refine t_iastore dX0_countSides_53 (shK3 hK) nb_lt (by decide) ?_
      refine jn_iinc (lv' := [some (.ref K), some (.int _), some (.int _), some (.int _), some (.int _)]) dX0_countSides_54 rfl (by decide) rfl ?_
      refine j_goto (tgt := 12) dX0_countSides_57 (by decide) ?_
      refine j_sub (by exact ⟨rfl, rfl, rfl, rfl, trivial⟩) (j_atw ?_ (ih (i + 1) (by omega) (by omega)))
      simp only [vu_s, vu_up, esub]

set_option maxHeartbeats 4000000 in
set_option maxRecDepth 100000 in
theorem c_X0_countSides {K : Nat} (hK : isK K) {j : Nat} (h : j < 49) {v : Int32} : jMet (d + 2) yX0_countSides cX0_countSides 5 none 0 0 [.ref K, .int (nI j), .int v] (tw X A L) (jRv (tw (va_up X K (upd (X K) 4 (X K 4 + v))) (va_up A (K + 3) (esub (A (K + 3)) j v (dg j))) L)) := by
  refine jMet_of (by decide) (Nat.le_of_ble_eq_true rfl) none (Or.inl rfl) ?_
  show jWP none RX0 cX0_countSides 5 none (d + 2) 0 0 0 [some (.ref K), some (.int (nI j)), some (.int v), none, none] [] (tw X A L) (jRv (tw (va_up X K (upd (X K) 4 (X K 4 + v))) (va_up A (K + 3) (esub (A (K + 3)) j v (dg j))) L))
  have hd6 := dg_le j h
  refine j_aload_n dX0_countSides_0 rfl rfl ?_
  refine j_dup dX0_countSides_1 rfl ?_
  refine t_getI dX0_countSides_2 jfl_X0_21 (shK0 hK) (fun _ => rfl) ?_
  refine j_iload_n dX0_countSides_5 rfl rfl ?_
  refine j_iadd dX0_countSides_6 ?_
  refine t_putI dX0_countSides_7 jfl_X0_21 (shK0 hK) (fun _ _ => rfl) (Nat.le_of_ble_eq_true rfl) rfl rfl ?_
  refine j_iconst (v := nI 0) dX0_countSides_10 rfl ?_
  refine j_istore_n (lv' := [some (.ref K), some (.int _), some (.int _), some (.int _), none]) dX0_countSides_11 rfl (by decide) rfl ?_
  refine j_sub (by exact ⟨rfl, rfl, rfl, rfl, trivial⟩) (j_atw ?_ (l_X0_countSides hK h 50 0 (by omega) (by omega)))
  simp only [esub, vu_self]

theorem hOf_fill {O : Nat → Int32} {j : Nat} {a : Int32} (hj : j < 49) (h0 : heldB O j = false) (ha : a ≠ -1) : hOf O + nI 1 = hOf (upd O j a) := by
  unfold hOf
  rw [hN_fill hj h0 ha, nI_add]
theorem hOf_empty {O : Nat → Int32} {j : Nat} (hj : j < 49) (h0 : heldB O j = true) : hOf O + (-1) = hOf (upd O j (-1)) := by
  unfold hOf
  rw [hN_empty hj h0, nI_p1]

set_option maxHeartbeats 4000000 in
set_option maxRecDepth 100000 in
theorem c_X0_fill {K : Nat} (hK : isK K) (hc : cok X A K) {j : Nat} (h : j < 49) {a s : Int32} (h0 : heldB (A (K + 1)) j = false) (ha : a ≠ -1) : jMet (d + 3) yX0_fill cX0_fill 4 none 0 0 [.ref K, .int (nI j), .int a, .int s] (tw X A L) (jRv (tw (cX X K (upd (A (K + 1)) j a)) (cA A K (upd (A (K + 1)) j a) (upd (A (K + 2)) j s)) L)) := by
  refine jMet_of (by decide) (Nat.le_of_ble_eq_true rfl) none (Or.inl rfl) ?_
  show jWP none RX0 cX0_fill 4 none (d + 3) 0 0 0 [some (.ref K), some (.int (nI j)), some (.int a), some (.int s)] [] (tw X A L) (jRv (tw (cX X K (upd (A (K + 1)) j a)) (cA A K (upd (A (K + 1)) j a) (upd (A (K + 2)) j s)) L))
  refine j_iload_n dX0_fill_0 rfl rfl ?_
  refine j_callSi [.int _] [] dX0_fill_1 jlk_X0_41 rfl rfl (Nat.le_of_ble_eq_true rfl) (c_X1_isCell_in (by omega)) ?_
  refine j_if_eq (tgt := 35) dX0_fill_4 (by decide) (fun h => absurd h (by decide)) (fun _ => ?_)
  refine j_aload_n dX0_fill_7 rfl rfl ?_
  refine j_iload_n dX0_fill_8 rfl rfl ?_
  refine j_callVi [.int _] [] dX0_fill_9 jlk_X0_55 rfl rfl ((shK0 hK) _ _ _) rfl (Nat.le_of_ble_eq_true rfl) (c_X0_holds hK (by omega)) ?_
  refine j_if_ne (tgt := 35) dX0_fill_12 (by decide) (fun h12 => absurd (by rw [h0]; rfl) h12) (fun h12 => ?_)
  refine j_aload_n dX0_fill_15 rfl rfl ?_
  refine t_getR (b := (K + 1)) dX0_fill_16 jfl_X0_9 (shK0 hK) rfl ?_
  refine j_iload_n dX0_fill_19 rfl rfl ?_
  refine j_iload_n dX0_fill_20 rfl rfl ?_
  refine t_iastore dX0_fill_21 (shK1 hK) (by omega) (by decide) ?_
  refine j_aload_n dX0_fill_22 rfl rfl ?_
  refine t_getR (b := (K + 2)) dX0_fill_23 jfl_X0_15 (shK0 hK) rfl ?_
  refine j_iload_n dX0_fill_26 rfl rfl ?_
  refine j_iload_n dX0_fill_27 rfl rfl ?_
  refine t_iastore dX0_fill_28 (shK2 hK) (by omega) (by decide) ?_
  refine j_aload_n dX0_fill_29 rfl rfl ?_
  refine j_iload_n dX0_fill_30 rfl rfl ?_
  refine j_iconst (v := nI 1) dX0_fill_31 rfl ?_
  refine j_callVv [.int _, .int _] [] dX0_fill_32 jlk_X0_58 rfl rfl ((shK0 hK) _ _ _) rfl (Nat.le_of_ble_eq_true rfl) (c_X0_countSides hK (by omega)) ?_
  refine j_return dX0_fill_35 rfl ?_
  refine ⟨rfl, ?_⟩
  have e21 : K + 2 ≠ K + 1 := by omega
  have e32 : K + 3 ≠ K + 2 := by omega
  have e31 : K + 3 ≠ K + 1 := by omega
  simp only [vu_n _ _ _ e21, vu_n _ _ _ e32, vu_n _ _ _ e31, hc.2.2.1, hc.2.2.2, eOf_fill h h0 ha, hOf_fill h h0 ha, cX, cA]

set_option maxHeartbeats 4000000 in
set_option maxRecDepth 100000 in
theorem c_X0_empty {K : Nat} (hK : isK K) (hc : cok X A K) {j : Nat} (h : j < 49) (h0 : heldB (A (K + 1)) j = true) : jMet (d + 3) yX0_empty cX0_empty 2 none 0 0 [.ref K, .int (nI j)] (tw X A L) (jRv (tw (cX X K (upd (A (K + 1)) j (-1))) (cA A K (upd (A (K + 1)) j (-1)) (upd (A (K + 2)) j (nI 0))) L)) := by
  refine jMet_of (by decide) (Nat.le_of_ble_eq_true rfl) none (Or.inl rfl) ?_
  show jWP none RX0 cX0_empty 2 none (d + 3) 0 0 0 [some (.ref K), some (.int (nI j))] [] (tw X A L) (jRv (tw (cX X K (upd (A (K + 1)) j (-1))) (cA A K (upd (A (K + 1)) j (-1)) (upd (A (K + 2)) j (nI 0))) L))
  refine j_aload_n dX0_empty_0 rfl rfl ?_
  refine j_iload_n dX0_empty_1 rfl rfl ?_
  refine j_callVi [.int _] [] dX0_empty_2 jlk_X0_55 rfl rfl ((shK0 hK) _ _ _) rfl (Nat.le_of_ble_eq_true rfl) (c_X0_holds hK (by omega)) ?_
  refine j_if_eq (tgt := 28) dX0_empty_5 (by decide) (fun h5 => absurd h5 (by rw [h0]; decide)) (fun h5 => ?_)
  refine j_aload_n dX0_empty_8 rfl rfl ?_
  refine t_getR (b := (K + 1)) dX0_empty_9 jfl_X0_9 (shK0 hK) rfl ?_
  refine j_iload_n dX0_empty_12 rfl rfl ?_
  refine j_iconst (v := (-1)) dX0_empty_13 rfl ?_
  refine t_iastore dX0_empty_14 (shK1 hK) (by omega) (by decide) ?_
  refine j_aload_n dX0_empty_15 rfl rfl ?_
  refine t_getR (b := (K + 2)) dX0_empty_16 jfl_X0_15 (shK0 hK) rfl ?_
  refine j_iload_n dX0_empty_19 rfl rfl ?_
  refine j_iconst (v := nI 0) dX0_empty_20 rfl ?_
  refine t_iastore dX0_empty_21 (shK2 hK) (by omega) (by decide) ?_
  refine j_aload_n dX0_empty_22 rfl rfl ?_
  refine j_iload_n dX0_empty_23 rfl rfl ?_
  refine j_iconst (v := (-1)) dX0_empty_24 rfl ?_
  refine j_callVv [.int _, .int _] [] dX0_empty_25 jlk_X0_58 rfl rfl ((shK0 hK) _ _ _) rfl (Nat.le_of_ble_eq_true rfl) (c_X0_countSides hK (by omega)) ?_
  refine j_return dX0_empty_28 rfl ?_
  refine ⟨rfl, ?_⟩
  have e21 : K + 2 ≠ K + 1 := by omega
  have e32 : K + 3 ≠ K + 2 := by omega
  have e31 : K + 3 ≠ K + 1 := by omega
  simp only [vu_n _ _ _ e21, vu_n _ _ _ e32, vu_n _ _ _ e31, hc.2.2.1, hc.2.2.2, eOf_empty h h0, hOf_empty h h0, cX, cA]

/-- the cell that is eaten next -/
def oN : Option Nat → Int32
  | none => (-2)
  | some m => nI m
def nxt (O S : Nat → Int32) (sp : Bool) : Nat → Option Nat
  | 0 => none
  | i + 1 => if (heldB O i && !(sp && slB O i)) = true then (match nxt O S sp i with
    | none => some i
    | some m => if S m < S i then some m else some i) else nxt O S sp i
theorem nxt_lt {O S : Nat → Int32} {sp : Bool} : ∀ {i m : Nat}, nxt O S sp i = some m → m < i
  | 0, m, h => by cases h
  | i + 1, m, h => by
    unfold nxt at h
    split at h
    · split at h
      · cases h; omega
      · rename_i q hq
        split at h <;> cases h
        · have := nxt_lt hq; omega
        · omega
    · have := nxt_lt h; omega
theorem nxt_held {O S : Nat → Int32} {sp : Bool} : ∀ {i m : Nat}, nxt O S sp i = some m → heldB O m = true
  | 0, m, h => by cases h
  | i + 1, m, h => by
    unfold nxt at h
    split at h
    · rename_i hb
      have hb : heldB O i = true := by
        cases hh : heldB O i with
        | true => rfl
        | false => rw [hh] at hb; cases hb
      split at h
      · cases h; exact hb
      · rename_i q hq
        split at h <;> cases h
        · exact nxt_held hq
        · exact hb
    · exact nxt_held h
def spB (O : Nat → Int32) : Bool := decide (cnt (slB O) 49 < hN O)
def nxE (O S : Nat → Int32) : Option Nat := nxt O S (spB O) 49

set_option maxHeartbeats 4000000 in
set_option maxRecDepth 100000 in
theorem l_X0_nextEaten {K : Nat} (hK : isK K) (hc : cok X A K) {sp : Bool} : ∀ (m i : Nat), i ≤ 49 → 49 - i < m → jWP none RX0 cX0_nextEaten 5 (some .int) (d + 2) 0 0 22 [some (.ref K), some (.int (bz sp)), some (.int (oN (nxt (A (K + 1)) (A (K + 2)) sp i))), some (.int (nI i)), none] [] (tw X A L) (jRi (oN (nxt (A (K + 1)) (A (K + 2)) sp 49)) (tw X A L)) := by
  intro m
  induction m with
  | zero => intro i h1 h2; omega
  | succ m ih =>
    intro i hi hm
    rcases hx : nxt (A (K + 1)) (A (K + 2)) sp i with _ | m1
    · refine j_at (lv' := [some (.ref K), some (.int (bz sp)), some (.int (-2)), some (.int (nI i)), none]) rfl ?_
      refine j_iload_n dX0_nextEaten_22 rfl rfl ?_
      refine j_bipush (v := nI 49) dX0_nextEaten_23 rfl ?_
      refine jn_icmp_ge (tgt := 87) dX0_nextEaten_25 (by decide) (by omega) (by omega) (fun h25 => ?_) (fun h25 => ?_)
      · refine j_iload_n dX0_nextEaten_87 rfl rfl ?_
        refine j_ireturn dX0_nextEaten_88 rfl ?_
        obtain rfl : i = 49 := by omega
        exact ⟨by rw [hx]; rfl, rfl⟩
      · refine j_aload_n dX0_nextEaten_28 rfl rfl ?_
        refine j_iload_n dX0_nextEaten_29 rfl rfl ?_
        refine j_callVi [.int _] [] dX0_nextEaten_30 jlk_X0_55 rfl rfl ((shK0 hK) _ _ _) rfl (Nat.le_of_ble_eq_true rfl) (c_X0_holds hK (by omega)) ?_
        refine j_if_eq (tgt := 52) dX0_nextEaten_33 (by decide) (fun h33 => ?_) (fun h33 => ?_)
        · have h33 := bz_f h33
          refine j_iconst (v := nI 0) dX0_nextEaten_52 rfl ?_
          refine j_istore (lv' := [some (.ref K), some (.int _), some (.int _), some (.int _), some (.int _)]) dX0_nextEaten_53 (by decide) rfl ?_
          refine j_iload dX0_nextEaten_55 rfl ?_
          refine j_if_eq (tgt := 81) dX0_nextEaten_57 (by decide) (fun _ => ?_) (fun h => absurd (by decide) h)
          refine jn_iinc (lv' := [some (.ref K), some (.int _), some (.int _), some (.int _), some (.int _)]) dX0_nextEaten_81 rfl (by decide) rfl ?_
          refine j_goto (tgt := 22) dX0_nextEaten_84 (by decide) ?_
          refine j_sub ?_ (ih (i + 1) (by omega) (by omega))
          simp [jsub, nxt, hx, h25, h33, oN]
        · have h33 := bz_t h33
          refine j_iload_n dX0_nextEaten_36 rfl rfl ?_
          refine j_if_eq (tgt := 48) dX0_nextEaten_37 (by decide) (fun h37 => ?_) (fun h37 => ?_)
          · have h37 := bz_f h37
            subst h37
            refine j_iconst (v := nI 1) dX0_nextEaten_48 rfl ?_
            refine j_goto (tgt := 53) dX0_nextEaten_49 (by decide) ?_
            refine j_istore (lv' := [some (.ref K), some (.int _), some (.int _), some (.int _), some (.int _)]) dX0_nextEaten_53 (by decide) rfl ?_
            refine j_iload dX0_nextEaten_55 rfl ?_
            refine j_if_eq (tgt := 81) dX0_nextEaten_57 (by decide) (fun h => absurd h (by decide)) (fun _ => ?_)
            refine j_iload_n dX0_nextEaten_60 rfl rfl ?_
            refine j_if_lt (tgt := 79) dX0_nextEaten_61 (by decide) (fun _ => ?_) (fun h => absurd (by decide) h)
            refine j_iload_n dX0_nextEaten_79 rfl rfl ?_
            refine j_istore_n (lv' := [some (.ref K), some (.int _), some (.int _), some (.int _), some (.int _)]) dX0_nextEaten_80 rfl (by decide) rfl ?_
            refine jn_iinc (lv' := [some (.ref K), some (.int _), some (.int _), some (.int _), some (.int _)]) dX0_nextEaten_81 rfl (by decide) rfl ?_
            refine j_goto (tgt := 22) dX0_nextEaten_84 (by decide) ?_
            refine j_sub ?_ (ih (i + 1) (by omega) (by omega))
            simp [jsub, nxt, hx, h25, h33, h37, oN]
          · have h37 := bz_t h37
            subst h37
            refine j_aload_n dX0_nextEaten_40 rfl rfl ?_
            refine j_iload_n dX0_nextEaten_41 rfl rfl ?_
            refine j_callVi [.int _] [] dX0_nextEaten_42 jlk_X0_45 rfl rfl ((shK0 hK) _ _ _) rfl (Nat.le_of_ble_eq_true rfl) (c_X0_isSealed hK (by omega) hc) ?_
            refine j_if_ne (tgt := 52) dX0_nextEaten_45 (by decide) (fun h45 => ?_) (fun h45 => ?_)
            · have h45 := bz_t h45
              refine j_iconst (v := nI 0) dX0_nextEaten_52 rfl ?_
              refine j_istore (lv' := [some (.ref K), some (.int _), some (.int _), some (.int _), some (.int _)]) dX0_nextEaten_53 (by decide) rfl ?_
              refine j_iload dX0_nextEaten_55 rfl ?_
              refine j_if_eq (tgt := 81) dX0_nextEaten_57 (by decide) (fun _ => ?_) (fun h => absurd (by decide) h)
              refine jn_iinc (lv' := [some (.ref K), some (.int _), some (.int _), some (.int _), some (.int _)]) dX0_nextEaten_81 rfl (by decide) rfl ?_
              refine j_goto (tgt := 22) dX0_nextEaten_84 (by decide) ?_
              refine j_sub ?_ (ih (i + 1) (by omega) (by omega))
              simp [jsub, nxt, hx, h25, h33, h37, h45, oN]
            · have h45 := bz_f h45
              refine j_iconst (v := nI 1) dX0_nextEaten_48 rfl ?_
              refine j_goto (tgt := 53) dX0_nextEaten_49 (by decide) ?_
              refine j_istore (lv' := [some (.ref K), some (.int _), some (.int _), some (.int _), some (.int _)]) dX0_nextEaten_53 (by decide) rfl ?_
              refine j_iload dX0_nextEaten_55 rfl ?_
              refine j_if_eq (tgt := 81) dX0_nextEaten_57 (by decide) (fun h => absurd h (by decide)) (fun _ => ?_)
              refine j_iload_n dX0_nextEaten_60 rfl rfl ?_
              refine j_if_lt (tgt := 79) dX0_nextEaten_61 (by decide) (fun _ => ?_) (fun h => absurd (by decide) h)
              refine j_iload_n dX0_nextEaten_79 rfl rfl ?_
              refine j_istore_n (lv' := [some (.ref K), some (.int _), some (.int _), some (.int _), some (.int _)]) dX0_nextEaten_80 rfl (by decide) rfl ?_
              refine jn_iinc (lv' := [some (.ref K), some (.int _), some (.int _), some (.int _), some (.int _)]) dX0_nextEaten_81 rfl (by decide) rfl ?_
              refine j_goto (tgt := 22) dX0_nextEaten_84 (by decide) ?_
              refine j_sub ?_ (ih (i + 1) (by omega) (by omega))
              simp [jsub, nxt, hx, h25, h33, h37, h45, oN]
    · have hml := nxt_lt hx
      refine j_at (lv' := [some (.ref K), some (.int (bz sp)), some (.int (nI m1)), some (.int (nI i)), none]) rfl ?_
      refine j_iload_n dX0_nextEaten_22 rfl rfl ?_
      refine j_bipush (v := nI 49) dX0_nextEaten_23 rfl ?_
      refine jn_icmp_ge (tgt := 87) dX0_nextEaten_25 (by decide) (by omega) (by omega) (fun h25 => ?_) (fun h25 => ?_)
      · refine j_iload_n dX0_nextEaten_87 rfl rfl ?_
        refine j_ireturn dX0_nextEaten_88 rfl ?_
        obtain rfl : i = 49 := by omega
        exact ⟨by rw [hx]; rfl, rfl⟩
      · refine j_aload_n dX0_nextEaten_28 rfl rfl ?_
        refine j_iload_n dX0_nextEaten_29 rfl rfl ?_
        refine j_callVi [.int _] [] dX0_nextEaten_30 jlk_X0_55 rfl rfl ((shK0 hK) _ _ _) rfl (Nat.le_of_ble_eq_true rfl) (c_X0_holds hK (by omega)) ?_
        refine j_if_eq (tgt := 52) dX0_nextEaten_33 (by decide) (fun h33 => ?_) (fun h33 => ?_)
        · have h33 := bz_f h33
          refine j_iconst (v := nI 0) dX0_nextEaten_52 rfl ?_
          refine j_istore (lv' := [some (.ref K), some (.int _), some (.int _), some (.int _), some (.int _)]) dX0_nextEaten_53 (by decide) rfl ?_
          refine j_iload dX0_nextEaten_55 rfl ?_
          refine j_if_eq (tgt := 81) dX0_nextEaten_57 (by decide) (fun _ => ?_) (fun h => absurd (by decide) h)
          refine jn_iinc (lv' := [some (.ref K), some (.int _), some (.int _), some (.int _), some (.int _)]) dX0_nextEaten_81 rfl (by decide) rfl ?_
          refine j_goto (tgt := 22) dX0_nextEaten_84 (by decide) ?_
          refine j_sub ?_ (ih (i + 1) (by omega) (by omega))
          simp [jsub, nxt, hx, h25, h33, oN]
        · have h33 := bz_t h33
          refine j_iload_n dX0_nextEaten_36 rfl rfl ?_
          refine j_if_eq (tgt := 48) dX0_nextEaten_37 (by decide) (fun h37 => ?_) (fun h37 => ?_)
          · have h37 := bz_f h37
            subst h37
            refine j_iconst (v := nI 1) dX0_nextEaten_48 rfl ?_
            refine j_goto (tgt := 53) dX0_nextEaten_49 (by decide) ?_
            refine j_istore (lv' := [some (.ref K), some (.int _), some (.int _), some (.int _), some (.int _)]) dX0_nextEaten_53 (by decide) rfl ?_
            refine j_iload dX0_nextEaten_55 rfl ?_
            refine j_if_eq (tgt := 81) dX0_nextEaten_57 (by decide) (fun h => absurd h (by decide)) (fun _ => ?_)
            refine j_iload_n dX0_nextEaten_60 rfl rfl ?_
            refine jn_if_lt (tgt := 79) dX0_nextEaten_61 (by decide) (by omega) ?_
            refine j_aload_n dX0_nextEaten_64 rfl rfl ?_
            refine t_getR (b := (K + 2)) dX0_nextEaten_65 jfl_X0_15 (shK0 hK) rfl ?_
            refine j_iload_n dX0_nextEaten_68 rfl rfl ?_
            refine t_iaload dX0_nextEaten_69 (shK2 hK) (by omega) (by decide) ?_
            refine j_aload_n dX0_nextEaten_70 rfl rfl ?_
            refine t_getR (b := (K + 2)) dX0_nextEaten_71 jfl_X0_15 (shK0 hK) rfl ?_
            refine j_iload_n dX0_nextEaten_74 rfl rfl ?_
            refine t_iaload dX0_nextEaten_75 (shK2 hK) (by omega) (by decide) ?_
            refine j_icmp_gt (tgt := 81) dX0_nextEaten_76 (by decide) (fun h76 => ?_) (fun h76 => ?_)
            · refine jn_iinc (lv' := [some (.ref K), some (.int _), some (.int _), some (.int _), some (.int _)]) dX0_nextEaten_81 rfl (by decide) rfl ?_
              refine j_goto (tgt := 22) dX0_nextEaten_84 (by decide) ?_
              refine j_sub ?_ (ih (i + 1) (by omega) (by omega))
              simp [jsub, nxt, hx, h25, h33, h37, h76, oN]
            · refine j_iload_n dX0_nextEaten_79 rfl rfl ?_
              refine j_istore_n (lv' := [some (.ref K), some (.int _), some (.int _), some (.int _), some (.int _)]) dX0_nextEaten_80 rfl (by decide) rfl ?_
              refine jn_iinc (lv' := [some (.ref K), some (.int _), some (.int _), some (.int _), some (.int _)]) dX0_nextEaten_81 rfl (by decide) rfl ?_
              refine j_goto (tgt := 22) dX0_nextEaten_84 (by decide) ?_
              refine j_sub ?_ (ih (i + 1) (by omega) (by omega))
              simp [jsub, nxt, hx, h25, h33, h37, h76, oN]
          · have h37 := bz_t h37
            subst h37
            refine j_aload_n dX0_nextEaten_40 rfl rfl ?_
            refine j_iload_n dX0_nextEaten_41 rfl rfl ?_
            refine j_callVi [.int _] [] dX0_nextEaten_42 jlk_X0_45 rfl rfl ((shK0 hK) _ _ _) rfl (Nat.le_of_ble_eq_true rfl) (c_X0_isSealed hK (by omega) hc) ?_
            refine j_if_ne (tgt := 52) dX0_nextEaten_45 (by decide) (fun h45 => ?_) (fun h45 => ?_)
            · have h45 := bz_t h45
              refine j_iconst (v := nI 0) dX0_nextEaten_52 rfl ?_
              refine j_istore (lv' := [some (.ref K), some (.int _), some (.int _), some (.int _), some (.int _)]) dX0_nextEaten_53 (by decide) rfl ?_
              refine j_iload dX0_nextEaten_55 rfl ?_
              refine j_if_eq (tgt := 81) dX0_nextEaten_57 (by decide) (fun _ => ?_) (fun h => absurd (by decide) h)
              refine jn_iinc (lv' := [some (.ref K), some (.int _), some (.int _), some (.int _), some (.int _)]) dX0_nextEaten_81 rfl (by decide) rfl ?_
              refine j_goto (tgt := 22) dX0_nextEaten_84 (by decide) ?_
              refine j_sub ?_ (ih (i + 1) (by omega) (by omega))
              simp [jsub, nxt, hx, h25, h33, h37, h45, oN]
            · have h45 := bz_f h45
              refine j_iconst (v := nI 1) dX0_nextEaten_48 rfl ?_
              refine j_goto (tgt := 53) dX0_nextEaten_49 (by decide) ?_
              refine j_istore (lv' := [some (.ref K), some (.int _), some (.int _), some (.int _), some (.int _)]) dX0_nextEaten_53 (by decide) rfl ?_
              refine j_iload dX0_nextEaten_55 rfl ?_
              refine j_if_eq (tgt := 81) dX0_nextEaten_57 (by decide) (fun h => absurd h (by decide)) (fun _ => ?_)
              refine j_iload_n dX0_nextEaten_60 rfl rfl ?_
              refine jn_if_lt (tgt := 79) dX0_nextEaten_61 (by decide) (by omega) ?_
              refine j_aload_n dX0_nextEaten_64 rfl rfl ?_
              refine t_getR (b := (K + 2)) dX0_nextEaten_65 jfl_X0_15 (shK0 hK) rfl ?_
              refine j_iload_n dX0_nextEaten_68 rfl rfl ?_
              refine t_iaload dX0_nextEaten_69 (shK2 hK) (by omega) (by decide) ?_
              refine j_aload_n dX0_nextEaten_70 rfl rfl ?_
              refine t_getR (b := (K + 2)) dX0_nextEaten_71 jfl_X0_15 (shK0 hK) rfl ?_
              refine j_iload_n dX0_nextEaten_74 rfl rfl ?_
              refine t_iaload dX0_nextEaten_75 (shK2 hK) (by omega) (by decide) ?_
              refine j_icmp_gt (tgt := 81) dX0_nextEaten_76 (by decide) (fun h76 => ?_) (fun h76 => ?_)
              · refine jn_iinc (lv' := [some (.ref K), some (.int _), some (.int _), some (.int _), some (.int _)]) dX0_nextEaten_81 rfl (by decide) rfl ?_
                refine j_goto (tgt := 22) dX0_nextEaten_84 (by decide) ?_
                refine j_sub ?_ (ih (i + 1) (by omega) (by omega))
                simp [jsub, nxt, hx, h25, h33, h37, h45, h76, oN]
              · refine j_iload_n dX0_nextEaten_79 rfl rfl ?_
                refine j_istore_n (lv' := [some (.ref K), some (.int _), some (.int _), some (.int _), some (.int _)]) dX0_nextEaten_80 rfl (by decide) rfl ?_
                refine jn_iinc (lv' := [some (.ref K), some (.int _), some (.int _), some (.int _), some (.int _)]) dX0_nextEaten_81 rfl (by decide) rfl ?_
                refine j_goto (tgt := 22) dX0_nextEaten_84 (by decide) ?_
                refine j_sub ?_ (ih (i + 1) (by omega) (by omega))
                simp [jsub, nxt, hx, h25, h33, h37, h45, h76, oN]

set_option maxHeartbeats 4000000 in
set_option maxRecDepth 100000 in
theorem c_X0_nextEaten {K : Nat} (hK : isK K) (hc : cok X A K) : jMet (d + 3) yX0_nextEaten cX0_nextEaten 5 (some .int) 0 0 [.ref K] (tw X A L) (jRi (oN (nxE (A (K + 1)) (A (K + 2)))) (tw X A L)) := by
  refine jMet_of (by decide) (Nat.le_of_ble_eq_true rfl) none (Or.inl rfl) ?_
  show jWP none RX0 cX0_nextEaten 5 (some .int) (d + 3) 0 0 0 [some (.ref K), none, none, none, none] [] (tw X A L) (jRi (oN (nxE (A (K + 1)) (A (K + 2)))) (tw X A L))
  have hs1 := cnt_le (slB (A (K + 1))) 49
  have hs2 := cnt_le (heldB (A (K + 1))) 49
  have hs3 : hN (A (K + 1)) ≤ 49 := hs2
  refine j_aload_n dX0_nextEaten_0 rfl rfl ?_
  refine j_callVi [] [] dX0_nextEaten_1 jlk_X0_70 rfl rfl ((shK0 hK) _ _ _) rfl (Nat.le_of_ble_eq_true rfl) (c_X0_sealedCount hK hc) ?_
  refine j_aload_n dX0_nextEaten_4 rfl rfl ?_
  refine t_getI dX0_nextEaten_5 jfl_X0_21 (shK0 hK) (fun _ => rfl) ?_
  refine j_topE (cokH hc) ?_
  refine jn_icmp_ge (tgt := 15) dX0_nextEaten_8 (by decide) (by omega) (by omega) (fun h8 => ?_) (fun h8 => ?_)
  · refine j_iconst (v := nI 0) dX0_nextEaten_15 rfl ?_
    refine j_istore_n (lv' := [some (.ref K), some (.int _), none, none, none]) dX0_nextEaten_16 rfl (by decide) rfl ?_
    refine j_bipush (v := (-2)) dX0_nextEaten_17 rfl ?_
    refine j_istore_n (lv' := [some (.ref K), some (.int _), some (.int _), none, none]) dX0_nextEaten_19 rfl (by decide) rfl ?_
    refine j_iconst (v := nI 0) dX0_nextEaten_20 rfl ?_
    refine j_istore_n (lv' := [some (.ref K), some (.int _), some (.int _), some (.int _), none]) dX0_nextEaten_21 rfl (by decide) rfl ?_
    have hsp : spB (A (K + 1)) = false := by unfold spB; exact decide_eq_false (by omega)
    unfold nxE
    rw [hsp]
    exact j_sub (by exact ⟨rfl, rfl, rfl, rfl, trivial⟩) (l_X0_nextEaten (d := d + 1) (sp := false) hK hc 50 0 (by omega) (by omega))
  · refine j_iconst (v := nI 1) dX0_nextEaten_11 rfl ?_
    refine j_goto (tgt := 16) dX0_nextEaten_12 (by decide) ?_
    refine j_istore_n (lv' := [some (.ref K), some (.int _), none, none, none]) dX0_nextEaten_16 rfl (by decide) rfl ?_
    refine j_bipush (v := (-2)) dX0_nextEaten_17 rfl ?_
    refine j_istore_n (lv' := [some (.ref K), some (.int _), some (.int _), none, none]) dX0_nextEaten_19 rfl (by decide) rfl ?_
    refine j_iconst (v := nI 0) dX0_nextEaten_20 rfl ?_
    refine j_istore_n (lv' := [some (.ref K), some (.int _), some (.int _), some (.int _), none]) dX0_nextEaten_21 rfl (by decide) rfl ?_
    have hsp : spB (A (K + 1)) = true := by unfold spB; exact decide_eq_true h8
    unfold nxE
    rw [hsp]
    exact j_sub (by exact ⟨rfl, rfl, rfl, rfl, trivial⟩) (l_X0_nextEaten (d := d + 1) (sp := true) hK hc 50 0 (by omega) (by omega))

end CT1