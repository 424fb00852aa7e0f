/-! bits -/
def ush (x k : Int32) : Int32 := (x.toUInt32 >>> (k.toUInt32 &&& Int32.toUInt32 31)).toInt32
def bc1 (x : Int32) : Int32 := x - (ush x (nI 1) &&& 1431655765)
def bc2 (x : Int32) : Int32 := (x &&& 858993459) + (ush x (nI 2) &&& 858993459)
def bc3 (x : Int32) : Int32 := (x + ush x (nI 4)) &&& 252645135
def bc4 (x : Int32) : Int32 := x + ush x (nI 8)
def bc5 (x : Int32) : Int32 := x + ush x (nI 16)
def bcI (x : Int32) : Int32 := bc5 (bc4 (bc3 (bc2 (bc1 x)))) &&& nI 63
def pcN (n : Nat) : Nat := cnt (fun k => n.testBit k) 10
theorem bc_all : ∀ {n : Nat}, n < 1024 → bcI (nI n) = nI (pcN n) := by
  have h : (List.range 1024).all (fun n => decide (bcI (nI n) = nI (pcN n))) = true := by decide +kernel
  intro n hn
  exact of_decide_eq_true (List.all_eq_true.mp h n (List.mem_range.mpr hn))
theorem pcN_le (n : Nat) : pcN n ≤ 10 := cnt_le _ 10
theorem nI_or (a b : Nat) : nI a ||| nI b = nI (a ||| b) := by
  apply Int32.toBitVec_inj.mp
  rw [Int32.toBitVec_or]
  show BitVec.ofNat 32 a ||| BitVec.ofNat 32 b = BitVec.ofNat 32 (a ||| b)
  rw [BitVec.ofNat_or]
theorem nI_and (a b : Nat) : nI a &&& nI b = nI (a &&& b) := by
  apply Int32.toBitVec_inj.mp
  rw [Int32.toBitVec_and]
  show BitVec.ofNat 32 a &&& BitVec.ofNat 32 b = BitVec.ofNat 32 (a &&& b)
  rw [BitVec.ofNat_and]
/-! cells read with gaps -/
def befB (b : Nat → Int32) (c : Int32) : Nat → Bool
  | 0 => false
  | i + 1 => befB b c i || decide (b i = c)
theorem befB_congr {f g : Nat → Int32} {c : Int32} : ∀ {n : Nat}, (∀ i, i < n → f i = g i) → befB f c n = befB g c n
  | 0, _ => rfl
  | n + 1, h => by
    unfold befB
    rw [befB_congr (fun i hi => h i (Nat.lt_succ_of_lt hi)), h n (Nat.lt_succ_self n)]
def cN (b : Nat → Int32) (i : Nat) : Nat := (b i).toNatClampNeg
def gok (O b : Nat → Int32) (i : Nat) : Bool := decide (isc (b i) = nI 1) && (heldB O (cN b i) && !befB b (b i) i)
def gcF (O b : Nat → Int32) : Nat → Nat → Nat
  | 0, i => i
  | m + 1, i => if gok O b i = true then gcF O b m (i + 1) else i
/-- how many cells are read -/
def gC (O b : Nat → Int32) (ln : Nat) : Nat := gcF O b (min 10 ln) 0
theorem gcF_le {O b : Nat → Int32} : ∀ (m i : Nat), gcF O b m i ≤ i + m ∧ i ≤ gcF O b m i
  | 0, i => ⟨Nat.le_refl _, Nat.le_refl _⟩
  | m + 1, i => by
    unfold gcF
    split
    · have := gcF_le (O := O) (b := b) m (i + 1); omega
    · omega
theorem gcF_ok {O b : Nat → Int32} : ∀ (m i j : Nat), i ≤ j → j < gcF O b m i → gok O b j = true
  | 0, i, j, h1, h2 => by unfold gcF at h2; omega
  | m + 1, i, j, h1, h2 => by
    unfold gcF at h2
    split at h2
    · rename_i hg
      by_cases e : i = j
      · subst e; exact hg
      · exact gcF_ok m (i + 1) j (by omega) h2
    · omega
theorem gC_le (O b : Nat → Int32) (ln : Nat) : gC O b ln ≤ 10 ∧ gC O b ln ≤ ln := by
  have := (gcF_le (O := O) (b := b) (min 10 ln) 0).1
  unfold gC
  omega
theorem isc_nat {c : Int32} (h : isc c = nI 1) : c.toNatClampNeg < 49 ∧ c = nI c.toNatClampNeg := by
  rcases isc_cases c with q | ⟨j, hj, rfl⟩
  · rw [q] at h; exact absurd h (by decide)
  · rw [nI_clamp (by omega)]; exact ⟨hj, rfl⟩
theorem gok_cell {O b : Nat → Int32} {i : Nat} (h : gok O b i = true) : cN b i < 49 ∧ b i = nI (cN b i) ∧ heldB O (cN b i) = true := by
  unfold gok at h
  simp only [Bool.and_eq_true, decide_eq_true_eq] at h
  exact ⟨(isc_nat h.1).1, (isc_nat h.1).2, h.2.1⟩
def ssum (S b : Nat → Int32) (t : Nat) : Nat → Int32
  | 0 => nI 0
  | k + 1 => if t.testBit k = true then ssum S b t k + S (cN b k) else ssum S b t k
def rsS (O S b : Nat → Int32) (a : Int32) (bal : Int32) : Nat → Int32
  | 0 => bal
  | k + 1 => if O (cN b k) = a then rsS O S b a bal k - S (cN b k) else rsS O S b a bal k
def trS (O b : Nat → Int32) (a : Int32) : Nat → Nat
  | 0 => 0
  | k + 1 => if O (cN b k) = a then trS O b a k ||| 2 ^ k else trS O b a k
theorem trS_lt {O b : Nat → Int32} {a : Int32} : ∀ k, trS O b a k < 2 ^ k
  | 0 => Nat.zero_lt_one
  | k + 1 => by
    have ih := trS_lt (O := O) (b := b) (a := a) k
    unfold trS
    split
    · exact Nat.or_lt_two_pow (Nat.lt_of_lt_of_le ih (Nat.pow_le_pow_right (by decide) (Nat.le_succ k))) (Nat.pow_lt_pow_right (by decide) (Nat.lt_succ_self k))
    · exact Nat.lt_of_lt_of_le ih (Nat.pow_le_pow_right (by decide) (Nat.le_succ k))
def ssI (f : Nat → Int32) (n : Nat) (v : Int32) : Nat → Nat → Int32
  | 0 => f
  | s + 1 => upd (ssI f n v s) (s + n) (ssI f n v s s + v)
theorem ssI_at {f : Nat → Int32} {n : Nat} {v : Int32} : ∀ {s : Nat}, s ≤ n → ∀ t, ssI f n v s t = if n ≤ t ∧ t < n + s then f (t - n) + v else f t
  | 0, _, t => by rw [if_neg (by omega)]; rfl
  | s + 1, h, t => by
    show upd (ssI f n v s) (s + n) (ssI f n v s s + v) t = _
    by_cases e : t = s + n
    · subst e
      rw [pk_us, ssI_at (by omega) s, if_neg (by omega), if_pos (by omega), show s + n - n = s by omega]
    · rw [pk_un e, ssI_at (by omega) t]
      by_cases q : n ≤ t ∧ t < n + s
      · rw [if_pos q, if_pos (by omega)]
      · rw [if_neg q, if_neg (by omega)]
def ssF (f S b : Nat → Int32) : Nat → Nat → Int32
  | 0 => upd f 0 (nI 0)
  | k + 1 => ssI (ssF f S b k) (2 ^ k) (S (cN b k)) (2 ^ k)
theorem ssum_low {S b : Nat → Int32} {t k : Nat} : ∀ {i : Nat}, i ≤ k → ssum S b (t + 2 ^ k) i = ssum S b t i
  | 0, _ => rfl
  | i + 1, h => by
    unfold ssum
    rw [ssum_low (by omega), Nat.add_comm t, Nat.testBit_two_pow_add_gt (by omega)]
theorem ssF_at {f S b : Nat → Int32} : ∀ {k t : Nat}, t < 2 ^ k → ssF f S b k t = ssum S b t k
  | 0, t, h => by
    have : t = 0 := by simpa using h
    subst this
    exact pk_us
  | k + 1, t, h => by
    have hp : 2 ^ (k + 1) = 2 ^ k * 2 := Nat.pow_succ 2 k
    show ssI (ssF f S b k) (2 ^ k) (S (cN b k)) (2 ^ k) t = _
    rw [ssI_at (Nat.le_refl _)]
    unfold ssum
    by_cases q : 2 ^ k ≤ t
    · rw [if_pos ⟨q, by omega⟩]
      obtain ⟨u, rfl⟩ : ∃ u, t = u + 2 ^ k := ⟨t - 2 ^ k, by omega⟩
      have hu : u < 2 ^ k := by omega
      rw [show u + 2 ^ k - 2 ^ k = u by omega, ssF_at hu, if_pos (by rw [Nat.add_comm, Nat.testBit_two_pow_add_eq, Nat.testBit_lt_two_pow hu]; rfl), ssum_low (Nat.le_refl k)]
    · rw [if_neg (by omega), ssF_at (by omega), if_neg (by rw [Nat.testBit_lt_two_pow (by omega)]; decide)]
def csF (f b : Nat → Int32) : Nat → Nat → Int32
  | 0 => f
  | k + 1 => upd (csF f b k) k (b k)
theorem csF_at {f b : Nat → Int32} : ∀ {k i : Nat}, i < k → csF f b k i = b i
  | 0, _, h => by omega
  | k + 1, i, h => by
    unfold csF
    by_cases e : i = k
    · subst e; exact pk_us
    · rw [pk_un e]; exact csF_at (by omega)
theorem bz_or1 (x : Bool) : bz x ||| nI 1 = bz true := by cases x <;> decide
theorem bz_or0 (x : Bool) : bz x ||| nI 0 = bz x := by cases x <;> decide
section CT8
variable {d : Nat} {X A : Nat → Nat → Int32} {L : Nat → Nat → Int64} {w : jW}

set_option maxHeartbeats 4000000 in
set_option maxRecDepth 100000 in
theorem c_J6_bitCount {x : Int32} : jMet (d) yJ6_bitCount_0f7a4 cJ6_bitCount_0f7a4 1 (some .int) 0 0 [.int x] (w) (jRi (bcI x) w) := by
  refine jMet_of (by decide) (Nat.le_of_ble_eq_true rfl) none (Or.inl rfl) ?_
  show jWP none RJ6 cJ6_bitCount_0f7a4 1 (some .int) (d) 0 0 0 [some (.int x)] [] (w) (jRi (bcI x) w)
  refine j_iload_n dJ6_bitCount_0f7a4_0 rfl rfl ?_
  refine j_iload_n dJ6_bitCount_0f7a4_1 rfl rfl ?_
  refine j_iconst (v := nI 1) dJ6_bitCount_0f7a4_2 rfl ?_
  refine j_iushr dJ6_bitCount_0f7a4_3 ?_
  refine j_ldcw dJ6_bitCount_0f7a4_4 jw_k_J6_265 ?_
  refine j_iand dJ6_bitCount_0f7a4_7 ?_
  refine j_isub dJ6_bitCount_0f7a4_8 ?_
  refine j_istore_n (lv' := [some (.int _)]) dJ6_bitCount_0f7a4_9 rfl (by decide) rfl ?_
  refine j_iload_n dJ6_bitCount_0f7a4_10 rfl rfl ?_
  refine j_ldcw dJ6_bitCount_0f7a4_11 jw_k_J6_266 ?_
  refine j_iand dJ6_bitCount_0f7a4_14 ?_
  refine j_iload_n dJ6_bitCount_0f7a4_15 rfl rfl ?_
  refine j_iconst (v := nI 2) dJ6_bitCount_0f7a4_16 rfl ?_
  refine j_iushr dJ6_bitCount_0f7a4_17 ?_
  refine j_ldcw dJ6_bitCount_0f7a4_18 jw_k_J6_266 ?_
  refine j_iand dJ6_bitCount_0f7a4_21 ?_
  refine j_iadd dJ6_bitCount_0f7a4_22 ?_
  refine j_istore_n (lv' := [some (.int _)]) dJ6_bitCount_0f7a4_23 rfl (by decide) rfl ?_
  refine j_iload_n dJ6_bitCount_0f7a4_24 rfl rfl ?_
  refine j_iload_n dJ6_bitCount_0f7a4_25 rfl rfl ?_
  refine j_iconst (v := nI 4) dJ6_bitCount_0f7a4_26 rfl ?_
  refine j_iushr dJ6_bitCount_0f7a4_27 ?_
  refine j_iadd dJ6_bitCount_0f7a4_28 ?_
  refine j_ldcw dJ6_bitCount_0f7a4_29 jw_k_J6_267 ?_
  refine j_iand dJ6_bitCount_0f7a4_32 ?_
  refine j_istore_n (lv' := [some (.int _)]) dJ6_bitCount_0f7a4_33 rfl (by decide) rfl ?_
  refine j_iload_n dJ6_bitCount_0f7a4_34 rfl rfl ?_
  refine j_iload_n dJ6_bitCount_0f7a4_35 rfl rfl ?_
  refine j_bipush (v := nI 8) dJ6_bitCount_0f7a4_36 rfl ?_
  refine j_iushr dJ6_bitCount_0f7a4_38 ?_
  refine j_iadd dJ6_bitCount_0f7a4_39 ?_
  refine j_istore_n (lv' := [some (.int _)]) dJ6_bitCount_0f7a4_40 rfl (by decide) rfl ?_
  refine j_iload_n dJ6_bitCount_0f7a4_41 rfl rfl ?_
  refine j_iload_n dJ6_bitCount_0f7a4_42 rfl rfl ?_
  refine j_bipush (v := nI 16) dJ6_bitCount_0f7a4_43 rfl ?_
  refine j_iushr dJ6_bitCount_0f7a4_45 ?_
  refine j_iadd dJ6_bitCount_0f7a4_46 ?_
  refine j_istore_n (lv' := [some (.int _)]) dJ6_bitCount_0f7a4_47 rfl (by decide) rfl ?_
  refine j_iload_n dJ6_bitCount_0f7a4_48 rfl rfl ?_
  refine j_bipush (v := nI 63) dJ6_bitCount_0f7a4_49 rfl ?_
  refine j_iand dJ6_bitCount_0f7a4_51 ?_
  refine j_ireturn dJ6_bitCount_0f7a4_52 rfl ?_
  exact ⟨rfl, rfl⟩

theorem c_J6_bitCountN {n : Nat} (h : n < 1024) : jMet d yJ6_bitCount_0f7a4 cJ6_bitCount_0f7a4 1 (some .int) 0 0 [.int (nI n)] w (jRi (nI (pcN n)) w) := jMet_i c_J6_bitCount (bc_all h) rfl

set_option maxHeartbeats 4000000 in
set_option maxRecDepth 100000 in
theorem l_X5_isUnread {n : Nat} (hcn : X 57 1 = nI n) (hn : n ≤ 10) {K : Nat} (hK : isK K) {c : Int32} {res : Bool} (hres : isc c = nI 0 ∧ res = false ∨ ∃ j, j < 49 ∧ c = nI j ∧ res = (heldB (A (K + 1)) j && !befB (A 58) c n)) : ∀ (m i : Nat), i ≤ n → n - i < m → jWP none RX5 cX5_isUnread 5 (some .boolean) (d + 2) 0 0 5 [some (.ref 57), some (.int c), some (.ref K), some (.int (bz (befB (A 58) c i))), some (.int (nI i))] [] (tw X A L) (jRi (bz res) (tw X A L)) := by
  intro m
  induction m with
  | zero => intro i h1 h2; omega
  | succ m ih =>
    intro i hi hm
    refine j_iload dX5_isUnread_5 rfl ?_
    refine j_aload_n dX5_isUnread_7 rfl rfl ?_
    refine t_getI dX5_isUnread_8 jfl_X5_15 (fun _ _ _ => rfl) (fun _ => rfl) ?_
    refine j_topE (e' := nI n) hcn ?_
    refine jn_icmp_ge (tgt := 39) dX5_isUnread_11 (by decide) (by omega) (by omega) (fun h11 => ?_) (fun h11 => ?_)
    · obtain rfl : i = n := by omega
      rcases hres with ⟨h0, rfl⟩ | ⟨j, hj, rfl, rfl⟩
      · refine j_aload_n dX5_isUnread_39 rfl rfl ?_
        refine j_iload_n dX5_isUnread_40 rfl rfl ?_
        refine j_callVi [.int _] [] dX5_isUnread_41 jlk_X5_54 rfl rfl ((shK0 hK) _ _ _) rfl (Nat.le_of_ble_eq_true rfl) (c_X0_holds_out hK h0) ?_
        refine j_if_eq (tgt := 55) dX5_isUnread_44 (by decide) (fun _ => ?_) (fun h => absurd (by decide) h)
        refine j_iconst (v := nI 0) dX5_isUnread_55 rfl ?_
        refine j_zreturn dX5_isUnread_56 rfl (by decide) ?_
        exact ⟨rfl, rfl⟩
      · refine j_aload_n dX5_isUnread_39 rfl rfl ?_
        refine j_iload_n dX5_isUnread_40 rfl rfl ?_
        refine j_callVi [.int _] [] dX5_isUnread_41 jlk_X5_54 rfl rfl ((shK0 hK) _ _ _) rfl (Nat.le_of_ble_eq_true rfl) (c_X0_holds hK hj) ?_
        refine j_if_eq (tgt := 55) dX5_isUnread_44 (by decide) (fun h44 => ?_) (fun h44 => ?_)
        · have h44 := bz_f h44
          refine j_iconst (v := nI 0) dX5_isUnread_55 rfl ?_
          refine j_zreturn dX5_isUnread_56 rfl (by decide) ?_
          refine ⟨?_, rfl⟩
          simp [bz, h44]
        · have h44 := bz_t h44
          refine j_iload_n dX5_isUnread_47 rfl rfl ?_
          refine j_if_ne (tgt := 55) dX5_isUnread_48 (by decide) (fun h48 => ?_) (fun h48 => ?_)
          · have h48 := bz_t h48
            refine j_iconst (v := nI 0) dX5_isUnread_55 rfl ?_
            refine j_zreturn dX5_isUnread_56 rfl (by decide) ?_
            refine ⟨?_, rfl⟩
            simp [bz, h44, h48]
          · have h48 := bz_f h48
            refine j_iconst (v := nI 1) dX5_isUnread_51 rfl ?_
            refine j_goto (tgt := 56) dX5_isUnread_52 (by decide) ?_
            refine j_zreturn dX5_isUnread_56 rfl (by decide) ?_
            refine ⟨?_, rfl⟩
            simp [bz, h44, h48]
    · refine j_iload_n dX5_isUnread_14 rfl rfl ?_
      refine j_aload_n dX5_isUnread_15 rfl rfl ?_
      refine t_getR (b := 58) dX5_isUnread_16 jfl_X5_11 (fun _ _ _ => rfl) rfl ?_
      refine j_iload dX5_isUnread_19 rfl ?_
      refine t_iaload dX5_isUnread_21 (fun _ _ _ => rfl) (by omega) (by decide) ?_
      refine j_iload_n dX5_isUnread_22 rfl rfl ?_
      refine j_icmp_ne (tgt := 30) dX5_isUnread_23 (by decide) (fun h23 => ?_) (fun h23 => ?_)
      · refine j_iconst (v := nI 0) dX5_isUnread_30 rfl ?_
        refine j_ior dX5_isUnread_31 ?_
        refine j_istore_n (lv' := [some (.ref 57), some (.int _), some (.ref K), some (.int _), some (.int _)]) dX5_isUnread_32 rfl (by decide) rfl ?_
        refine jn_iinc (lv' := [some (.ref 57), some (.int _), some (.ref K), some (.int _), some (.int _)]) dX5_isUnread_33 rfl (by decide) rfl ?_
        refine j_goto (tgt := 5) dX5_isUnread_36 (by decide) ?_
        refine j_sub ?_ (ih (i + 1) (by omega) (by omega))
        simp only [jsub, befB, decide_eq_false h23, Bool.or_false, bz_or0]; simp
      · refine j_iconst (v := nI 1) dX5_isUnread_26 rfl ?_
        refine j_goto (tgt := 31) dX5_isUnread_27 (by decide) ?_
        refine j_ior dX5_isUnread_31 ?_
        refine j_istore_n (lv' := [some (.ref 57), some (.int _), some (.ref K), some (.int _), some (.int _)]) dX5_isUnread_32 rfl (by decide) rfl ?_
        refine jn_iinc (lv' := [some (.ref 57), some (.int _), some (.ref K), some (.int _), some (.int _)]) dX5_isUnread_33 rfl (by decide) rfl ?_
        refine j_goto (tgt := 5) dX5_isUnread_36 (by decide) ?_
        refine j_sub ?_ (ih (i + 1) (by omega) (by omega))
        simp only [jsub, befB, h23, decide_true, Bool.or_true, bz_or1]; simp

set_option maxHeartbeats 4000000 in
set_option maxRecDepth 100000 in
theorem c_X5_isUnread {n : Nat} (hcn : X 57 1 = nI n) (hn : n ≤ 10) {K : Nat} (hK : isK K) {c : Int32} {res : Bool} (hres : isc c = nI 0 ∧ res = false ∨ ∃ j, j < 49 ∧ c = nI j ∧ res = (heldB (A (K + 1)) j && !befB (A 58) c n)) : jMet (d + 2) yX5_isUnread cX5_isUnread 5 (some .boolean) 0 0 [.ref 57, .int c, .ref K] (tw X A L) (jRi (bz res) (tw X A L)) := by
  refine jMet_of (by decide) (Nat.le_of_ble_eq_true rfl) none (Or.inl rfl) ?_
  show jWP none RX5 cX5_isUnread 5 (some .boolean) (d + 2) 0 0 0 [some (.ref 57), some (.int c), some (.ref K), none, none] [] (tw X A L) (jRi (bz res) (tw X A L))
  refine j_iconst (v := nI 0) dX5_isUnread_0 rfl ?_
  refine j_istore_n (lv' := [some (.ref 57), some (.int _), some (.ref K), some (.int _), none]) dX5_isUnread_1 rfl (by decide) rfl ?_
  refine j_iconst (v := nI 0) dX5_isUnread_2 rfl ?_
  refine j_istore (lv' := [some (.ref 57), some (.int _), some (.ref K), some (.int _), some (.int _)]) dX5_isUnread_3 (by decide) rfl ?_
  exact l_X5_isUnread hcn hn hK hres 11 0 (by omega) (by omega)

set_option maxHeartbeats 4000000 in
set_option maxRecDepth 100000 in
theorem l_X5_addCell {post : Option Value → jW → Prop} {n : Nat} (hn : n < 10) (hsets : X 57 3 = nI (2 ^ n)) {v : Int32} {c k a : Value} (kk : jWP none RX5 cX5_addCell 6 none (d + 2) 0 0 47 [some (.ref 57), some c, some k, some a, some (.int v), none] [] (tw X (va_up A 59 (ssI (A 59) (2 ^ n) v (2 ^ n))) L) post) : ∀ (m s : Nat), s ≤ 2 ^ n → 2 ^ n - s < m → jWP none RX5 cX5_addCell 6 none (d + 2) 0 0 10 [some (.ref 57), some c, some k, some a, some (.int v), some (.int (nI s))] [] (tw X (va_up A 59 (ssI (A 59) (2 ^ n) v s)) L) post := by
  have hp : 2 ^ n ≤ 512 := Nat.pow_le_pow_right (by decide) (show n ≤ 9 by omega)
  intro m
  induction m with
  | zero => intro s h1 h2; omega
  | succ m ih =>
    intro s hi hm
    refine j_iload dX5_addCell_10 rfl ?_
    refine j_aload_n dX5_addCell_12 rfl rfl ?_
    refine t_getI dX5_addCell_13 jfl_X5_22 (fun _ _ _ => rfl) (fun _ => rfl) ?_
    refine j_topE (e' := nI (2 ^ n)) hsets ?_
    refine jn_icmp_ge (tgt := 47) dX5_addCell_16 (by decide) (by omega) (by omega) (fun h16 => ?_) (fun h16 => ?_)
    · obtain rfl : s = 2 ^ n := by omega
      exact j_sub (by exact ⟨rfl, rfl, rfl, rfl, rfl, trivial⟩) kk
    · refine j_aload_n dX5_addCell_19 rfl rfl ?_
      refine t_getR (b := 59) dX5_addCell_20 jfl_X5_19 (fun _ _ _ => rfl) rfl ?_
      refine j_iload dX5_addCell_23 rfl ?_
      refine j_aload_n dX5_addCell_25 rfl rfl ?_
      refine t_getI dX5_addCell_26 jfl_X5_22 (fun _ _ _ => rfl) (fun _ => rfl) ?_
      refine j_topE (e' := nI (2 ^ n)) hsets ?_
      refine jn_iadd dX5_addCell_29 ?_
      refine j_aload_n dX5_addCell_30 rfl rfl ?_
      refine t_getR (b := 59) dX5_addCell_31 jfl_X5_19 (fun _ _ _ => rfl) rfl ?_
      refine j_iload dX5_addCell_34 rfl ?_
      refine t_iaload dX5_addCell_36 (fun _ _ _ => rfl) (by omega) (by decide) ?_
      refine j_iload dX5_addCell_37 rfl ?_
      refine j_iadd dX5_addCell_39 ?_
      refine t_iastore dX5_addCell_40 (fun _ _ _ => rfl) (by omega) (by decide) ?_
      refine jn_iinc (lv' := [some (.ref 57), some _, some _, some _, some (.int _), some (.int _)]) dX5_addCell_41 rfl (by decide) rfl ?_
      refine j_goto (tgt := 10) dX5_addCell_44 (by decide) ?_
      refine j_sub (by exact ⟨rfl, rfl, rfl, rfl, rfl, rfl, trivial⟩) (j_atw ?_ (ih (s + 1) (by omega) (by omega)))
      simp only [vu_s, vu_up, ssI]

set_option maxHeartbeats 4000000 in
set_option maxRecDepth 100000 in
theorem c_X5_addCell {n tn : Nat} (hcn : X 57 1 = nI n) (hn : n < 10) (hsets : X 57 3 = nI (2 ^ n)) (ht : X 57 5 = nI tn) {K : Nat} (hK : isK K) {j : Nat} (hj : j < 49) {a : Int32} : jMet (d + 2) yX5_addCell cX5_addCell 6 none 0 0 [.ref 57, .int (nI j), .ref K, .int a] (tw X A L) (jRv (tw (va_up X 57 (upd (upd (upd (upd (X 57) 4 (if A (K + 1) j = a then X 57 4 - A (K + 2) j else X 57 4)) 5 (nI (if A (K + 1) j = a then tn ||| 2 ^ n else tn))) 1 (nI (n + 1))) 3 (nI (2 ^ (n + 1))))) (va_up (va_up A 59 (ssI (A 59) (2 ^ n) (A (K + 2) j) (2 ^ n))) 58 (upd (A 58) n (nI j))) L)) := by
  refine jMet_of (by decide) (Nat.le_of_ble_eq_true rfl) none (Or.inl rfl) ?_
  show jWP none RX5 cX5_addCell 6 none (d + 2) 0 0 0 [some (.ref 57), some (.int (nI j)), some (.ref K), some (.int a), none, none] [] (tw X A L) (jRv (tw (va_up X 57 (upd (upd (upd (upd (X 57) 4 (if A (K + 1) j = a then X 57 4 - A (K + 2) j else X 57 4)) 5 (nI (if A (K + 1) j = a then tn ||| 2 ^ n else tn))) 1 (nI (n + 1))) 3 (nI (2 ^ (n + 1))))) (va_up (va_up A 59 (ssI (A 59) (2 ^ n) (A (K + 2) j) (2 ^ n))) 58 (upd (A 58) n (nI j))) L))
  have hp : 2 ^ n ≤ 512 := Nat.pow_le_pow_right (by decide) (show n ≤ 9 by omega)
  have hK9 : K + 1 ≠ 59 ∧ K + 2 ≠ 59 := by unfold isK at hK; omega
  refine j_aload_n dX5_addCell_0 rfl rfl ?_
  refine j_iload_n dX5_addCell_1 rfl rfl ?_
  refine j_callVi [.int _] [] dX5_addCell_2 jlk_X5_57 rfl rfl ((shK0 hK) _ _ _) rfl (Nat.le_of_ble_eq_true rfl) (c_X0_sumOf hK (by omega)) ?_
  refine j_istore (lv' := [some (.ref 57), some (.int _), some (.ref K), some (.int _), some (.int _), none]) dX5_addCell_5 (by decide) rfl ?_
  refine j_iconst (v := nI 0) dX5_addCell_7 rfl ?_
  refine j_istore (lv' := [some (.ref 57), some (.int _), some (.ref K), some (.int _), some (.int _), some (.int _)]) dX5_addCell_8 (by decide) rfl ?_
  refine j_atw (tw_eq rfl (show A = va_up A 59 (ssI (A 59) (2 ^ n) (A (K + 2) j) 0) from (vu_self A 59).symm) rfl) (l_X5_addCell (A := A) (v := A (K + 2) j) hn hsets ?_ (2 ^ n + 1) 0 (Nat.zero_le _) (Nat.lt_succ_self _))
  refine j_aload_n dX5_addCell_47 rfl rfl ?_
  refine j_iload_n dX5_addCell_48 rfl rfl ?_
  refine j_callVi [.int _] [] dX5_addCell_49 jlk_X5_60 rfl rfl ((shK0 hK) _ _ _) rfl (Nat.le_of_ble_eq_true rfl) (c_X0_ownerOf hK hj) ?_
  rw [vu_n _ _ _ hK9.1]
  refine j_iload_n dX5_addCell_52 rfl rfl ?_
  refine j_icmp_ne (tgt := 80) dX5_addCell_53 (by decide) (fun h53 => ?_) (fun h53 => ?_)
  · refine j_aload_n dX5_addCell_80 rfl rfl ?_
    refine t_getR (b := 58) dX5_addCell_81 jfl_X5_11 (fun _ _ _ => rfl) rfl ?_
    refine j_aload_n dX5_addCell_84 rfl rfl ?_
    refine t_getI dX5_addCell_85 jfl_X5_15 (fun _ _ _ => rfl) (fun _ => rfl) ?_
    refine j_topE (e' := nI n) (by exact hcn) ?_
    refine j_iload_n dX5_addCell_88 rfl rfl ?_
    refine t_iastore dX5_addCell_89 (fun _ _ _ => rfl) (by omega) (by decide) ?_
    refine j_aload_n dX5_addCell_90 rfl rfl ?_
    refine j_dup dX5_addCell_91 rfl ?_
    refine t_getI dX5_addCell_92 jfl_X5_15 (fun _ _ _ => rfl) (fun _ => rfl) ?_
    refine j_topE (e' := nI n) (by exact hcn) ?_
    refine j_iconst (v := nI 1) dX5_addCell_95 rfl ?_
    refine jn_iadd dX5_addCell_96 ?_
    refine t_putI dX5_addCell_97 jfl_X5_15 (fun _ _ _ => rfl) (fun _ _ => rfl) (Nat.le_of_ble_eq_true rfl) rfl rfl ?_
    refine j_aload_n dX5_addCell_100 rfl rfl ?_
    refine j_dup dX5_addCell_101 rfl ?_
    refine t_getI dX5_addCell_102 jfl_X5_22 (fun _ _ _ => rfl) (fun _ => rfl) ?_
    refine j_topE (e' := nI (2 ^ n)) (by rw [vu_s, pk_un (by decide)]; exact hsets) ?_
    refine j_iconst (v := nI 2) dX5_addCell_105 rfl ?_
    refine jn_imul dX5_addCell_106 ?_
    refine j_topE (e' := nI (2 ^ (n + 1))) (by rw [Nat.pow_succ]) ?_
    refine t_putI dX5_addCell_107 jfl_X5_22 (fun _ _ _ => rfl) (fun _ _ => rfl) (Nat.le_of_ble_eq_true rfl) rfl rfl ?_
    refine j_return dX5_addCell_110 rfl ?_
    refine ⟨rfl, tw_eq ?_ ?_ rfl⟩
    · simp only [if_neg h53, vu_s, vu_up]
      refine congrArg (va_up X 57) (funext fun c => ?_)
      by_cases q1 : c = 3
      · subst q1; simp [pk_us]
      · by_cases q2 : c = 1
        · subst q2; simp [pk_us, pk_un]
        · by_cases q3 : c = 5
          · subst q3; simp [pk_us, pk_un, ht]
          · by_cases q4 : c = 4
            · subst q4; simp [pk_us, pk_un]
            · simp only [pk_un q1, pk_un q2, pk_un q3, pk_un q4]
    · simp only [vu_n _ _ _ (show 58 ≠ 59 by decide)]
  · refine j_aload_n dX5_addCell_56 rfl rfl ?_
    refine j_dup dX5_addCell_57 rfl ?_
    refine t_getI dX5_addCell_58 jfl_X5_25 (fun _ _ _ => rfl) (fun _ => rfl) ?_
    refine j_iload dX5_addCell_61 rfl ?_
    refine j_isub dX5_addCell_63 ?_
    refine t_putI dX5_addCell_64 jfl_X5_25 (fun _ _ _ => rfl) (fun _ _ => rfl) (Nat.le_of_ble_eq_true rfl) rfl rfl ?_
    refine j_aload_n dX5_addCell_67 rfl rfl ?_
    refine j_dup dX5_addCell_68 rfl ?_
    refine t_getI dX5_addCell_69 jfl_X5_28 (fun _ _ _ => rfl) (fun _ => rfl) ?_
    refine j_topE (e' := nI tn) (by rw [vu_s, pk_un (by decide)]; exact ht) ?_
    refine j_aload_n dX5_addCell_72 rfl rfl ?_
    refine t_getI dX5_addCell_73 jfl_X5_22 (fun _ _ _ => rfl) (fun _ => rfl) ?_
    refine j_topE (e' := nI (2 ^ n)) (by rw [vu_s, pk_un (by decide)]; exact hsets) ?_
    refine j_ior dX5_addCell_76 ?_
    refine j_topE (e' := nI (tn ||| 2 ^ n)) (nI_or tn (2 ^ n)) ?_
    refine t_putI dX5_addCell_77 jfl_X5_28 (fun _ _ _ => rfl) (fun _ _ => rfl) (Nat.le_of_ble_eq_true rfl) rfl rfl ?_
    refine j_aload_n dX5_addCell_80 rfl rfl ?_
    refine t_getR (b := 58) dX5_addCell_81 jfl_X5_11 (fun _ _ _ => rfl) rfl ?_
    refine j_aload_n dX5_addCell_84 rfl rfl ?_
    refine t_getI dX5_addCell_85 jfl_X5_15 (fun _ _ _ => rfl) (fun _ => rfl) ?_
    refine j_topE (e' := nI n) (by simp only [vu_s, vu_up]; rw [pk_un (by decide), pk_un (by decide)]; exact hcn) ?_
    refine j_iload_n dX5_addCell_88 rfl rfl ?_
    refine t_iastore dX5_addCell_89 (fun _ _ _ => rfl) (by omega) (by decide) ?_
    refine j_aload_n dX5_addCell_90 rfl rfl ?_
    refine j_dup dX5_addCell_91 rfl ?_
    refine t_getI dX5_addCell_92 jfl_X5_15 (fun _ _ _ => rfl) (fun _ => rfl) ?_
    refine j_topE (e' := nI n) (by simp only [vu_s, vu_up]; rw [pk_un (by decide), pk_un (by decide)]; exact hcn) ?_
    refine j_iconst (v := nI 1) dX5_addCell_95 rfl ?_
    refine jn_iadd dX5_addCell_96 ?_
    refine t_putI dX5_addCell_97 jfl_X5_15 (fun _ _ _ => rfl) (fun _ _ => rfl) (Nat.le_of_ble_eq_true rfl) rfl rfl ?_
    refine j_aload_n dX5_addCell_100 rfl rfl ?_
    refine j_dup dX5_addCell_101 rfl ?_
    refine t_getI dX5_addCell_102 jfl_X5_22 (fun _ _ _ => rfl) (fun _ => rfl) ?_
    refine j_topE (e' := nI (2 ^ n)) (by simp only [vu_s, vu_up]; rw [pk_un (by decide), pk_un (by decide), pk_un (by decide)]; exact hsets) ?_
    refine j_iconst (v := nI 2) dX5_addCell_105 rfl ?_
    refine jn_imul dX5_addCell_106 ?_
    refine j_topE (e' := nI (2 ^ (n + 1))) (by rw [Nat.pow_succ]) ?_
    refine t_putI dX5_addCell_107 jfl_X5_22 (fun _ _ _ => rfl) (fun _ _ => rfl) (Nat.le_of_ble_eq_true rfl) rfl rfl ?_
    refine j_return dX5_addCell_110 rfl ?_
    refine ⟨rfl, tw_eq ?_ ?_ rfl⟩
    · simp only [if_pos h53, vu_s, vu_up]
    · simp only [vu_n _ _ _ (show 58 ≠ 59 by decide)]

end CT8