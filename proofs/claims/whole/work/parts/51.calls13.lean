/-- dances: the sum of all weights, the likeliest, its weight -/
def dwS (W : Nat → Int64) : Nat → Int64 × Int32 × Int64
  | 0 => (0, -2, 0)
  | s + 1 => if lg_cmp (W (s + 1)) (dwS W s).2.2 ≤ 0 then ((dwS W s).1 + W (s + 1), (dwS W s).2) else ((dwS W s).1 + W (s + 1), nI (s + 1), W (s + 1))
def drZ (z : Int32) : Int32 := z * 1103515245 + 12345
def uS (z : Int32) : Nat := z.toBitVec.toNat / 256
theorem uS_lt (z : Int32) : uS z < 2 ^ 24 := by
  have := z.toBitVec.isLt
  unfold uS
  omega
theorem uS_eq (z : Int32) : (z.toUInt32 >>> ((nI 8).toUInt32 &&& Int32.toUInt32 31)).toInt32 = nI (uS z) := by
  have h := pk_ushr z (nI 8) 8 (by decide)
  apply Int32.toBitVec_inj.mp
  apply BitVec.eq_of_toNat_eq
  have hu := uS_lt z
  rw [h, pk_tn (by omega)]
  rfl
/-- years by draws: the comb, how many sales were lost -/
def drF (Rk : (Nat → Int32) → Int32 → Int32 → Nat → Int32) (na : Nat) : Nat → cS → Int32 → Nat → cS × Nat
  | 0, c, _, l => (c, l)
  | m + 1, c, z, l => drF Rk na m (seS Rk c (nI (uS (drZ z) % na)) (nI (1 + uS (drZ (drZ z)) % 6))) (drZ (drZ z)) (if (seP Rk c (nI (uS (drZ z) % na)) (nI (1 + uS (drZ (drZ z)) % 6))).isSome = true then l else l + 1)
section CT32
variable {d : Nat} {X A : Nat → Nat → Int32} {L : Nat → Nat → Int64} {w : jW} {B : Nat} {cd vl st an en : Nat → Nat} {n na : Nat} {v : Nat → Nat} {nb : Nat} {kd : Nat → Nat}

set_option maxHeartbeats 200000 in
set_option maxRecDepth 100000 in
theorem l_dances (hr : rul B cd vl st an en n na v X A) (hv7 : v 7 ≤ 6) {j : Nat} (hj : j < 6) (hh : X (64 + 2 * j) 0 = nI 2) {ln : Nat} (hln : X (64 + 2 * j) 3 = nI ln) (l60 : ln ≤ 60) {y p lk : Int32} {post : Option Value → jW → Prop} (kk : jWP none RX10 cX10_dances 13 (some .long) (d + 6) 0 0 121 [some (.ref 4), some (.int (nI j)), some (.int y), some (.int p), some (.int lk), some (.long (dwS (fun s => rwF (v 7) ln (rE L (64 + 2 * j)) s 4 0 1) 6).1), none, some (.int (dwS (fun s => rwF (v 7) ln (rE L (64 + 2 * j)) s 4 0 1) 6).2.1), some (.long (dwS (fun s => rwF (v 7) ln (rE L (64 + 2 * j)) s 4 0 1) 6).2.2), none, some (.int (nI (6 + 1))), none, none] [] (tw X A L) post) : ∀ (m i : Nat), i ≤ 6 → 6 - i < m → jWP none RX10 cX10_dances 13 (some .long) (d + 6) 0 0 71 [some (.ref 4), some (.int (nI j)), some (.int y), some (.int p), some (.int lk), some (.long (dwS (fun s => rwF (v 7) ln (rE L (64 + 2 * j)) s 4 0 1) i).1), none, some (.int (dwS (fun s => rwF (v 7) ln (rE L (64 + 2 * j)) s 4 0 1) i).2.1), some (.long (dwS (fun s => rwF (v 7) ln (rE L (64 + 2 * j)) s 4 0 1) i).2.2), none, some (.int (nI (i + 1))), none, none] [] (tw X A L) (post) := by
  intro m
  induction m with
  | zero => intro i h1 h2; omega
  | succ m ih =>
    intro i hi hm
    refine j_iload dX10_dances_71 rfl ?_
    refine j_bipush (v := nI 6) dX10_dances_73 rfl ?_
    refine jn_icmp_gt (tgt := 121) dX10_dances_75 (by decide) (by omega) (by omega) (fun h75 => ?_) (fun h75 => ?_)
    · obtain rfl : i = 6 := by omega
      exact kk
    · refine j_aload_n dX10_dances_78 rfl rfl ?_
      refine j_aload_n dX10_dances_79 rfl rfl ?_
      refine t_getR (b := 63) dX10_dances_80 jfl_X10_83 (fun _ _ _ => rfl) rfl ?_
      refine j_iload_n dX10_dances_83 rfl rfl ?_
      refine t_aaload dX10_dances_84 (by omega) ?_
      refine j_iload dX10_dances_85 rfl ?_
      refine j_callVl [.ref (64 + 2 * j), .int _] [] dX10_dances_87 jlk_X10_228 rfl rfl rfl rfl (Nat.le_of_ble_eq_true rfl) (c_rowWeight hr hv7 (sh_of hj) hh hln l60 (by omega)) ?_
      refine j_lstore (lv' := [some (.ref 4), some (.int _), some (.int _), some (.int _), some (.int _), some (.long _), none, some (.int _), some (.long _), none, some (.int _), some (.long _), none]) dX10_dances_90 (by decide) rfl ?_
      refine j_lload dX10_dances_92 rfl ?_
      refine j_lload dX10_dances_94 rfl ?_
      refine j_ladd dX10_dances_96 ?_
      refine j_lstore (lv' := [some (.ref 4), some (.int _), some (.int _), some (.int _), some (.int _), some (.long _), none, some (.int _), some (.long _), none, some (.int _), some (.long _), none]) dX10_dances_97 (by decide) rfl ?_
      refine j_lload dX10_dances_99 rfl ?_
      refine j_lload dX10_dances_101 rfl ?_
      refine j_lcmp dX10_dances_103 ?_
      refine j_if_le (tgt := 115) dX10_dances_104 (by decide) (fun h104 => ?_) (fun h104 => ?_)
      · refine jn_iinc (lv' := [some (.ref 4), some (.int _), some (.int _), some (.int _), some (.int _), some (.long _), none, some (.int _), some (.long _), none, some (.int _), some (.long _), none]) dX10_dances_115 rfl (by decide) rfl ?_
        refine j_goto (tgt := 71) dX10_dances_118 (by decide) ?_
        refine j_sub ?_ (ih (i + 1) (by omega) (by omega))
        have hst : (dwS (fun s => rwF (v 7) ln (rE L (64 + 2 * j)) s 4 0 1) (i + 1)) = (if lg_cmp ((fun s => rwF (v 7) ln (rE L (64 + 2 * j)) s 4 0 1) (i + 1)) (dwS (fun s => rwF (v 7) ln (rE L (64 + 2 * j)) s 4 0 1) i).2.2 ≤ 0 then ((dwS (fun s => rwF (v 7) ln (rE L (64 + 2 * j)) s 4 0 1) i).1 + (fun s => rwF (v 7) ln (rE L (64 + 2 * j)) s 4 0 1) (i + 1), (dwS (fun s => rwF (v 7) ln (rE L (64 + 2 * j)) s 4 0 1) i).2) else ((dwS (fun s => rwF (v 7) ln (rE L (64 + 2 * j)) s 4 0 1) i).1 + (fun s => rwF (v 7) ln (rE L (64 + 2 * j)) s 4 0 1) (i + 1), nI (i + 1), (fun s => rwF (v 7) ln (rE L (64 + 2 * j)) s 4 0 1) (i + 1))) := rfl
        rw [hst, if_pos h104]
        exact ⟨rfl, rfl, rfl, rfl, rfl, rfl, rfl, rfl, rfl, trivial⟩
      · refine j_iload dX10_dances_107 rfl ?_
        refine j_istore (lv' := [some (.ref 4), some (.int _), some (.int _), some (.int _), some (.int _), some (.long _), none, some (.int _), some (.long _), none, some (.int _), some (.long _), none]) dX10_dances_109 (by decide) rfl ?_
        refine j_lload dX10_dances_111 rfl ?_
        refine j_lstore (lv' := [some (.ref 4), some (.int _), some (.int _), some (.int _), some (.int _), some (.long _), none, some (.int _), some (.long _), none, some (.int _), some (.long _), none]) dX10_dances_113 (by decide) rfl ?_
        refine jn_iinc (lv' := [some (.ref 4), some (.int _), some (.int _), some (.int _), some (.int _), some (.long _), none, some (.int _), some (.long _), none, some (.int _), some (.long _), none]) dX10_dances_115 rfl (by decide) rfl ?_
        refine j_goto (tgt := 71) dX10_dances_118 (by decide) ?_
        refine j_sub ?_ (ih (i + 1) (by omega) (by omega))
        have hst : (dwS (fun s => rwF (v 7) ln (rE L (64 + 2 * j)) s 4 0 1) (i + 1)) = (if lg_cmp ((fun s => rwF (v 7) ln (rE L (64 + 2 * j)) s 4 0 1) (i + 1)) (dwS (fun s => rwF (v 7) ln (rE L (64 + 2 * j)) s 4 0 1) i).2.2 ≤ 0 then ((dwS (fun s => rwF (v 7) ln (rE L (64 + 2 * j)) s 4 0 1) i).1 + (fun s => rwF (v 7) ln (rE L (64 + 2 * j)) s 4 0 1) (i + 1), (dwS (fun s => rwF (v 7) ln (rE L (64 + 2 * j)) s 4 0 1) i).2) else ((dwS (fun s => rwF (v 7) ln (rE L (64 + 2 * j)) s 4 0 1) i).1 + (fun s => rwF (v 7) ln (rE L (64 + 2 * j)) s 4 0 1) (i + 1), nI (i + 1), (fun s => rwF (v 7) ln (rE L (64 + 2 * j)) s 4 0 1) (i + 1))) := rfl
        rw [hst, if_neg h104]
        exact ⟨rfl, rfl, rfl, rfl, rfl, rfl, rfl, rfl, rfl, trivial⟩

set_option maxHeartbeats 200000 in
set_option maxRecDepth 100000 in
theorem t_dances_2 {j ln : Nat} {y : Int32} : jWP none RX10 cX10_dances 13 (some .long) (d + 6) 0 0 121 [some (.ref 4), some (.int (nI j)), some (.int y), some (.int (nI 2)), some (.int (nI 1)), some (.long (dwS (fun s => rwF (v 7) ln (rE L (64 + 2 * j)) s 4 0 1) 6).1), none, some (.int (dwS (fun s => rwF (v 7) ln (rE L (64 + 2 * j)) s 4 0 1) 6).2.1), some (.long (dwS (fun s => rwF (v 7) ln (rE L (64 + 2 * j)) s 4 0 1) 6).2.2), none, some (.int (nI (6 + 1))), none, none] [] (tw X A L) (jRl (if (dwS (fun s => rwF (v 7) ln (rE L (64 + 2 * j)) s 4 0 1) 6).1 = 0 then (-2) else (dwS (fun s => rwF (v 7) ln (rE L (64 + 2 * j)) s 4 0 1) 6).2.1.toInt64) (tw X A L)) := by
  refine j_lload dX10_dances_121 rfl ?_
  refine j_lconst (v := 0) dX10_dances_123 rfl ?_
  refine j_lcmp dX10_dances_124 ?_
  refine j_if_ne (tgt := 132) dX10_dances_125 (by decide) (fun h125 => ?_) (fun h125 => ?_)
  · refine j_iload dX10_dances_132 rfl ?_
    refine j_if_eq (tgt := 143) dX10_dances_134 (by decide) (fun h => absurd h (by decide)) (fun _ => ?_)
    refine j_iload dX10_dances_137 rfl ?_
    refine j_i2l dX10_dances_139 ?_
    refine j_goto (tgt := 160) dX10_dances_140 (by decide) ?_
    refine j_lreturn dX10_dances_160 rfl ?_
    exact ⟨by rw [if_neg (fun q => h125 (lcmp0.mpr q))], rfl⟩
  · refine j_ldc2 dX10_dances_128 jw_k_X10_222 ?_
    refine j_lreturn dX10_dances_131 rfl ?_
    exact ⟨by rw [if_pos (lcmp0.mp (by first | exact h125 | simpa using h125))], rfl⟩

set_option maxHeartbeats 200000 in
set_option maxRecDepth 100000 in
theorem t_dances (hr : rul B cd vl st an en n na v X A) (hv7 : v 7 ≤ 6) {j : Nat} (hj : j < 6) (hh : X (64 + 2 * j) 0 = nI 2) {ln : Nat} (hln : X (64 + 2 * j) 3 = nI ln) (l60 : ln ≤ 60) {s : Nat} (hs : s < 8) {p : Int32} : jWP none RX10 cX10_dances 13 (some .long) (d + 6) 0 0 121 [some (.ref 4), some (.int (nI j)), some (.int (nI s)), some (.int p), some (.int (nI 0)), some (.long (dwS (fun s => rwF (v 7) ln (rE L (64 + 2 * j)) s 4 0 1) 6).1), none, some (.int (dwS (fun s => rwF (v 7) ln (rE L (64 + 2 * j)) s 4 0 1) 6).2.1), some (.long (dwS (fun s => rwF (v 7) ln (rE L (64 + 2 * j)) s 4 0 1) 6).2.2), none, some (.int (nI (6 + 1))), none, none] [] (tw X A L) (jRl (if (dwS (fun s => rwF (v 7) ln (rE L (64 + 2 * j)) s 4 0 1) 6).1 = 0 then (-2) else frJ ((fun s => rwF (v 7) ln (rE L (64 + 2 * j)) s 4 0 1) s) (dwS (fun s => rwF (v 7) ln (rE L (64 + 2 * j)) s 4 0 1) 6).1 p) (tw X A L)) := by
  refine j_lload dX10_dances_121 rfl ?_
  refine j_lconst (v := 0) dX10_dances_123 rfl ?_
  refine j_lcmp dX10_dances_124 ?_
  refine j_if_ne (tgt := 132) dX10_dances_125 (by decide) (fun h125 => ?_) (fun h125 => ?_)
  · refine j_iload dX10_dances_132 rfl ?_
    refine j_if_eq (tgt := 143) dX10_dances_134 (by decide) (fun _ => ?_) (fun h => absurd (by decide) h)
    refine j_aload_n dX10_dances_143 rfl rfl ?_
    refine j_aload_n dX10_dances_144 rfl rfl ?_
    refine t_getR (b := 63) dX10_dances_145 jfl_X10_83 (fun _ _ _ => rfl) rfl ?_
    refine j_iload_n dX10_dances_148 rfl rfl ?_
    refine t_aaload dX10_dances_149 (by omega) ?_
    refine j_iload_n dX10_dances_150 rfl rfl ?_
    refine j_callVl [.ref (64 + 2 * j), .int _] [] dX10_dances_151 jlk_X10_228 rfl rfl rfl rfl (Nat.le_of_ble_eq_true rfl) (c_rowWeight hr hv7 (sh_of hj) hh hln l60 (by omega)) ?_
    refine j_lload dX10_dances_154 rfl ?_
    refine j_iload_n dX10_dances_156 rfl rfl ?_
    refine j_callSl [.long _, .long _, .int _] [] dX10_dances_157 jlk_X10_224 rfl rfl (Nat.le_of_ble_eq_true rfl) (c_fraction) ?_
    refine j_lreturn dX10_dances_160 rfl ?_
    exact ⟨by rw [if_neg (fun q => h125 (lcmp0.mpr q))], rfl⟩
  · refine j_ldc2 dX10_dances_128 jw_k_X10_222 ?_
    refine j_lreturn dX10_dances_131 rfl ?_
    exact ⟨by rw [if_pos (lcmp0.mp (by first | exact h125 | simpa using h125))], rfl⟩

set_option maxHeartbeats 200000 in
set_option maxRecDepth 100000 in
theorem c_dances_no {c s p : Int32} (h : isA 6 c = nI 0 ∨ (p ≠ nI 2 ∧ (is16 s = nI 0 ∨ is01 p = nI 0))) : jMet (d + 6) yX10_dances cX10_dances 13 (some .long) 0 0 [.ref 4, .int c, .int s, .int p] (tw X A L) (jRl (-9223372036854775808) (tw X A L)) := by
  refine jMet_of (by decide) (Nat.le_of_ble_eq_true rfl) none (Or.inl rfl) ?_
  show jWP none RX10 cX10_dances 13 (some .long) (d + 6) 0 0 0 [some (.ref 4), some (.int c), some (.int s), some (.int p), none, none, none, none, none, none, none, none, none] [] (tw X A L) (jRl (-9223372036854775808) (tw X A L))
  refine j_iload_n dX10_dances_0 rfl rfl ?_
  refine j_iconst (v := nI 2) dX10_dances_1 rfl ?_
  refine j_icmp_ne (tgt := 9) dX10_dances_2 (by decide) (fun h2 => ?_) (fun h2 => ?_)
  · refine j_iconst (v := nI 0) dX10_dances_9 rfl ?_
    refine j_istore (lv' := [some (.ref 4), some (.int _), some (.int _), some (.int _), some (.int _), none, none, none, none, none, none, none, none]) dX10_dances_10 (by decide) rfl ?_
    refine j_iload_n dX10_dances_12 rfl rfl ?_
    refine j_callSi [.int _] [] dX10_dances_13 jlk_X10_96 rfl rfl (Nat.le_of_ble_eq_true rfl) (c_X10_isShelf) ?_
    refine j_if_eq (tgt := 38) dX10_dances_16 (by decide) (fun h16 => ?_) (fun h16 => ?_)
    · refine j_ldc2 dX10_dances_38 jw_k_X10_216 ?_
      refine j_lreturn dX10_dances_41 rfl ?_
      exact ⟨rfl, rfl⟩
    · refine j_iload dX10_dances_19 rfl ?_
      refine j_if_ne (tgt := 42) dX10_dances_21 (by decide) (fun h => absurd (by decide) h) (fun _ => ?_)
      refine j_iload_n dX10_dances_24 rfl rfl ?_
      refine j_callSi [.int _] [] dX10_dances_25 jlk_X10_210 rfl rfl (Nat.le_of_ble_eq_true rfl) (c_X10_isSum) ?_
      refine j_if_eq (tgt := 38) dX10_dances_28 (by decide) (fun h28 => ?_) (fun h28 => ?_)
      · refine j_ldc2 dX10_dances_38 jw_k_X10_216 ?_
        refine j_lreturn dX10_dances_41 rfl ?_
        exact ⟨rfl, rfl⟩
      · refine j_iload_n dX10_dances_31 rfl rfl ?_
        refine j_callSi [.int _] [] dX10_dances_32 jlk_X10_213 rfl rfl (Nat.le_of_ble_eq_true rfl) (c_X10_isPart) ?_
        refine j_if_ne (tgt := 42) dX10_dances_35 (by decide) (fun h35 => ?_) (fun h35 => ?_)
        · exfalso
          rcases h with h | ⟨h, h0⟩
          · exact h16 h
          · exact h0.elim (fun q => h28 q) (fun q => absurd q (by first | exact h35 | simpa using h35))
        · refine j_ldc2 dX10_dances_38 jw_k_X10_216 ?_
          refine j_lreturn dX10_dances_41 rfl ?_
          exact ⟨rfl, rfl⟩
  · refine j_iconst (v := nI 1) dX10_dances_5 rfl ?_
    refine j_goto (tgt := 10) dX10_dances_6 (by decide) ?_
    refine j_istore (lv' := [some (.ref 4), some (.int _), some (.int _), some (.int _), some (.int _), none, none, none, none, none, none, none, none]) dX10_dances_10 (by decide) rfl ?_
    refine j_iload_n dX10_dances_12 rfl rfl ?_
    refine j_callSi [.int _] [] dX10_dances_13 jlk_X10_96 rfl rfl (Nat.le_of_ble_eq_true rfl) (c_X10_isShelf) ?_
    refine j_if_eq (tgt := 38) dX10_dances_16 (by decide) (fun h16 => ?_) (fun h16 => ?_)
    · refine j_ldc2 dX10_dances_38 jw_k_X10_216 ?_
      refine j_lreturn dX10_dances_41 rfl ?_
      exact ⟨rfl, rfl⟩
    · refine j_iload dX10_dances_19 rfl ?_
      refine j_if_ne (tgt := 42) dX10_dances_21 (by decide) (fun _ => ?_) (fun h => absurd h (by decide))
      exfalso
      rcases h with h | ⟨h, h0⟩
      · exact h16 h
      · exact absurd (by first | exact h2 | simpa using h2) h

set_option maxHeartbeats 200000 in
set_option maxRecDepth 100000 in
theorem c_dances_f {j : Nat} (hj : j < 6) {h so : Nat} (hh : X (64 + 2 * j) 0 = nI h) (hle : h ≤ 2) (hso : X (64 + 2 * j) 2 = nI so) (so4 : so ≤ 4) (hf : bfI h so ≠ 0) {s p : Int32} : jMet (d + 6) yX10_dances cX10_dances 13 (some .long) 0 0 [.ref 4, .int (nI j), .int s, .int p] (tw X A L) (jRl (-9223372036854775808) (tw X A L)) := by
  refine jMet_of (by decide) (Nat.le_of_ble_eq_true rfl) none (Or.inl rfl) ?_
  show jWP none RX10 cX10_dances 13 (some .long) (d + 6) 0 0 0 [some (.ref 4), some (.int (nI j)), some (.int s), some (.int p), none, none, none, none, none, none, none, none, none] [] (tw X A L) (jRl (-9223372036854775808) (tw X A L))
  refine j_iload_n dX10_dances_0 rfl rfl ?_
  refine j_iconst (v := nI 2) dX10_dances_1 rfl ?_
  refine j_icmp_ne (tgt := 9) dX10_dances_2 (by decide) (fun h2 => ?_) (fun h2 => ?_)
  · refine j_iconst (v := nI 0) dX10_dances_9 rfl ?_
    refine j_istore (lv' := [some (.ref 4), some (.int _), some (.int _), some (.int _), some (.int _), none, none, none, none, none, none, none, none]) dX10_dances_10 (by decide) rfl ?_
    refine j_iload_n dX10_dances_12 rfl rfl ?_
    refine j_callSi [.int _] [] dX10_dances_13 jlk_X10_96 rfl rfl (Nat.le_of_ble_eq_true rfl) (c_X10_isShelf_in hj) ?_
    refine j_if_eq (tgt := 38) dX10_dances_16 (by decide) (fun h => absurd h (by decide)) (fun _ => ?_)
    refine j_iload dX10_dances_19 rfl ?_
    refine j_if_ne (tgt := 42) dX10_dances_21 (by decide) (fun h => absurd (by decide) h) (fun _ => ?_)
    refine j_iload_n dX10_dances_24 rfl rfl ?_
    refine j_callSi [.int _] [] dX10_dances_25 jlk_X10_210 rfl rfl (Nat.le_of_ble_eq_true rfl) (c_X10_isSum) ?_
    refine j_if_eq (tgt := 38) dX10_dances_28 (by decide) (fun h28 => ?_) (fun h28 => ?_)
    · refine j_ldc2 dX10_dances_38 jw_k_X10_216 ?_
      refine j_lreturn dX10_dances_41 rfl ?_
      exact ⟨rfl, rfl⟩
    · refine j_iload_n dX10_dances_31 rfl rfl ?_
      refine j_callSi [.int _] [] dX10_dances_32 jlk_X10_213 rfl rfl (Nat.le_of_ble_eq_true rfl) (c_X10_isPart) ?_
      refine j_if_ne (tgt := 42) dX10_dances_35 (by decide) (fun h35 => ?_) (fun h35 => ?_)
      · refine j_aload_n dX10_dances_42 rfl rfl ?_
        refine t_getR (b := 63) dX10_dances_43 jfl_X10_83 (fun _ _ _ => rfl) rfl ?_
        refine j_iload_n dX10_dances_46 rfl rfl ?_
        refine t_aaload dX10_dances_47 (by omega) ?_
        refine j_callVi [] [] dX10_dances_48 jlk_X10_103 rfl rfl ((shS0 (sh_of hj)) _ _ _) rfl (Nat.le_of_ble_eq_true rfl) (c_X8_bytesFault (sh_of hj) hh hle hso so4) ?_
        refine j_if_eq (tgt := 58) dX10_dances_51 (by decide) (fun h51 => absurd h51 hf) (fun h51 => ?_)
        refine j_ldc2 dX10_dances_54 jw_k_X10_216 ?_
        refine j_lreturn dX10_dances_57 rfl ?_
        exact ⟨rfl, rfl⟩
      · refine j_ldc2 dX10_dances_38 jw_k_X10_216 ?_
        refine j_lreturn dX10_dances_41 rfl ?_
        exact ⟨rfl, rfl⟩
  · refine j_iconst (v := nI 1) dX10_dances_5 rfl ?_
    refine j_goto (tgt := 10) dX10_dances_6 (by decide) ?_
    refine j_istore (lv' := [some (.ref 4), some (.int _), some (.int _), some (.int _), some (.int _), none, none, none, none, none, none, none, none]) dX10_dances_10 (by decide) rfl ?_
    refine j_iload_n dX10_dances_12 rfl rfl ?_
    refine j_callSi [.int _] [] dX10_dances_13 jlk_X10_96 rfl rfl (Nat.le_of_ble_eq_true rfl) (c_X10_isShelf_in hj) ?_
    refine j_if_eq (tgt := 38) dX10_dances_16 (by decide) (fun h => absurd h (by decide)) (fun _ => ?_)
    refine j_iload dX10_dances_19 rfl ?_
    refine j_if_ne (tgt := 42) dX10_dances_21 (by decide) (fun _ => ?_) (fun h => absurd h (by decide))
    refine j_aload_n dX10_dances_42 rfl rfl ?_
    refine t_getR (b := 63) dX10_dances_43 jfl_X10_83 (fun _ _ _ => rfl) rfl ?_
    refine j_iload_n dX10_dances_46 rfl rfl ?_
    refine t_aaload dX10_dances_47 (by omega) ?_
    refine j_callVi [] [] dX10_dances_48 jlk_X10_103 rfl rfl ((shS0 (sh_of hj)) _ _ _) rfl (Nat.le_of_ble_eq_true rfl) (c_X8_bytesFault (sh_of hj) hh hle hso so4) ?_
    refine j_if_eq (tgt := 58) dX10_dances_51 (by decide) (fun h51 => absurd h51 hf) (fun h51 => ?_)
    refine j_ldc2 dX10_dances_54 jw_k_X10_216 ?_
    refine j_lreturn dX10_dances_57 rfl ?_
    exact ⟨rfl, rfl⟩

set_option maxHeartbeats 200000 in
set_option maxRecDepth 100000 in
theorem c_dances_2 (hr : rul B cd vl st an en n na v X A) (hv7 : v 7 ≤ 6) {j : Nat} (hj : j < 6) (hh : X (64 + 2 * j) 0 = nI 2) (hso : X (64 + 2 * j) 2 = nI 0) {ln : Nat} (hln : X (64 + 2 * j) 3 = nI ln) (l60 : ln ≤ 60) {y : Int32} : jMet (d + 6) yX10_dances cX10_dances 13 (some .long) 0 0 [.ref 4, .int (nI j), .int y, .int (nI 2)] (tw X A L) (jRl (if (dwS (fun s => rwF (v 7) ln (rE L (64 + 2 * j)) s 4 0 1) 6).1 = 0 then (-2) else (dwS (fun s => rwF (v 7) ln (rE L (64 + 2 * j)) s 4 0 1) 6).2.1.toInt64) (tw X A L)) := by
  refine jMet_of (by decide) (Nat.le_of_ble_eq_true rfl) none (Or.inl rfl) ?_
  show jWP none RX10 cX10_dances 13 (some .long) (d + 6) 0 0 0 [some (.ref 4), some (.int (nI j)), some (.int y), some (.int (nI 2)), none, none, none, none, none, none, none, none, none] [] (tw X A L) (jRl (if (dwS (fun s => rwF (v 7) ln (rE L (64 + 2 * j)) s 4 0 1) 6).1 = 0 then (-2) else (dwS (fun s => rwF (v 7) ln (rE L (64 + 2 * j)) s 4 0 1) 6).2.1.toInt64) (tw X A L))
  refine j_iload_n dX10_dances_0 rfl rfl ?_
  refine j_iconst (v := nI 2) dX10_dances_1 rfl ?_
  refine j_icmp_ne (tgt := 9) dX10_dances_2 (by decide) (fun h => absurd (by decide) h) (fun _ => ?_)
  refine j_iconst (v := nI 1) dX10_dances_5 rfl ?_
  refine j_goto (tgt := 10) dX10_dances_6 (by decide) ?_
  refine j_istore (lv' := [some (.ref 4), some (.int _), some (.int _), some (.int _), some (.int _), none, none, none, none, none, none, none, none]) dX10_dances_10 (by decide) rfl ?_
  refine j_iload_n dX10_dances_12 rfl rfl ?_
  refine j_callSi [.int _] [] dX10_dances_13 jlk_X10_96 rfl rfl (Nat.le_of_ble_eq_true rfl) (c_X10_isShelf_in hj) ?_
  refine j_if_eq (tgt := 38) dX10_dances_16 (by decide) (fun h => absurd h (by decide)) (fun _ => ?_)
  refine j_iload dX10_dances_19 rfl ?_
  refine j_if_ne (tgt := 42) dX10_dances_21 (by decide) (fun _ => ?_) (fun h => absurd h (by decide))
  refine j_aload_n dX10_dances_42 rfl rfl ?_
  refine t_getR (b := 63) dX10_dances_43 jfl_X10_83 (fun _ _ _ => rfl) rfl ?_
  refine j_iload_n dX10_dances_46 rfl rfl ?_
  refine t_aaload dX10_dances_47 (by omega) ?_
  refine j_callVi [] [] dX10_dances_48 jlk_X10_103 rfl rfl ((shS0 (sh_of hj)) _ _ _) rfl (Nat.le_of_ble_eq_true rfl) (jMet_i (c_X8_bytesFault (sh_of hj) hh (by decide) hso (by decide)) (show bfI 2 0 = nI 0 from rfl) rfl) ?_
  refine j_if_eq (tgt := 58) dX10_dances_51 (by decide) (fun _ => ?_) (fun h => absurd (by decide) h)
  refine j_lconst (v := 0) dX10_dances_58 rfl ?_
  refine j_lstore (lv' := [some (.ref 4), some (.int _), some (.int _), some (.int _), some (.int _), some (.long _), none, none, none, none, none, none, none]) dX10_dances_59 (by decide) rfl ?_
  refine j_bipush (v := (-2)) dX10_dances_61 rfl ?_
  refine j_istore (lv' := [some (.ref 4), some (.int _), some (.int _), some (.int _), some (.int _), some (.long _), none, some (.int _), none, none, none, none, none]) dX10_dances_63 (by decide) rfl ?_
  refine j_lconst (v := 0) dX10_dances_65 rfl ?_
  refine j_lstore (lv' := [some (.ref 4), some (.int _), some (.int _), some (.int _), some (.int _), some (.long _), none, some (.int _), some (.long _), none, none, none, none]) dX10_dances_66 (by decide) rfl ?_
  refine j_iconst (v := nI 1) dX10_dances_68 rfl ?_
  refine j_istore (lv' := [some (.ref 4), some (.int _), some (.int _), some (.int _), some (.int _), some (.long _), none, some (.int _), some (.long _), none, some (.int _), none, none]) dX10_dances_69 (by decide) rfl ?_
  exact l_dances hr hv7 hj hh hln l60 t_dances_2 7 0 (by decide) (by decide)

set_option maxHeartbeats 200000 in
set_option maxRecDepth 100000 in
theorem c_dances (hr : rul B cd vl st an en n na v X A) (hv7 : v 7 ≤ 6) {j : Nat} (hj : j < 6) (hh : X (64 + 2 * j) 0 = nI 2) (hso : X (64 + 2 * j) 2 = nI 0) {ln : Nat} (hln : X (64 + 2 * j) 3 = nI ln) (l60 : ln ≤ 60) {s : Nat} (hs1 : 1 ≤ s) (hs6 : s ≤ 6) {p : Int32} (hp : is01 p = nI 1) : jMet (d + 6) yX10_dances cX10_dances 13 (some .long) 0 0 [.ref 4, .int (nI j), .int (nI s), .int p] (tw X A L) (jRl (if (dwS (fun s => rwF (v 7) ln (rE L (64 + 2 * j)) s 4 0 1) 6).1 = 0 then (-2) else frJ ((fun s => rwF (v 7) ln (rE L (64 + 2 * j)) s 4 0 1) s) (dwS (fun s => rwF (v 7) ln (rE L (64 + 2 * j)) s 4 0 1) 6).1 p) (tw X A L)) := by
  refine jMet_of (by decide) (Nat.le_of_ble_eq_true rfl) none (Or.inl rfl) ?_
  show jWP none RX10 cX10_dances 13 (some .long) (d + 6) 0 0 0 [some (.ref 4), some (.int (nI j)), some (.int (nI s)), some (.int p), none, none, none, none, none, none, none, none, none] [] (tw X A L) (jRl (if (dwS (fun s => rwF (v 7) ln (rE L (64 + 2 * j)) s 4 0 1) 6).1 = 0 then (-2) else frJ ((fun s => rwF (v 7) ln (rE L (64 + 2 * j)) s 4 0 1) s) (dwS (fun s => rwF (v 7) ln (rE L (64 + 2 * j)) s 4 0 1) 6).1 p) (tw X A L))
  have hp2 : p ≠ nI 2 := fun q => by rw [q] at hp; exact absurd hp (by decide)
  refine j_iload_n dX10_dances_0 rfl rfl ?_
  refine j_iconst (v := nI 2) dX10_dances_1 rfl ?_
  refine j_icmp_ne (tgt := 9) dX10_dances_2 (by decide) (fun h2 => ?_) (fun h2 => absurd (by first | exact h2 | simpa using h2) hp2)
  refine j_iconst (v := nI 0) dX10_dances_9 rfl ?_
  refine j_istore (lv' := [some (.ref 4), some (.int _), some (.int _), some (.int _), some (.int _), none, none, none, none, none, none, none, none]) dX10_dances_10 (by decide) rfl ?_
  refine j_iload_n dX10_dances_12 rfl rfl ?_
  refine j_callSi [.int _] [] dX10_dances_13 jlk_X10_96 rfl rfl (Nat.le_of_ble_eq_true rfl) (c_X10_isShelf_in hj) ?_
  refine j_if_eq (tgt := 38) dX10_dances_16 (by decide) (fun h => absurd h (by decide)) (fun _ => ?_)
  refine j_iload dX10_dances_19 rfl ?_
  refine j_if_ne (tgt := 42) dX10_dances_21 (by decide) (fun h => absurd (by decide) h) (fun _ => ?_)
  refine j_iload_n dX10_dances_24 rfl rfl ?_
  refine j_callSi [.int _] [] dX10_dances_25 jlk_X10_210 rfl rfl (Nat.le_of_ble_eq_true rfl) (jMet_i c_X10_isSum (is16_in hs1 hs6) rfl) ?_
  refine j_if_eq (tgt := 38) dX10_dances_28 (by decide) (fun h => absurd h (by decide)) (fun _ => ?_)
  refine j_iload_n dX10_dances_31 rfl rfl ?_
  refine j_callSi [.int _] [] dX10_dances_32 jlk_X10_213 rfl rfl (Nat.le_of_ble_eq_true rfl) (jMet_i c_X10_isPart hp rfl) ?_
  refine j_if_ne (tgt := 42) dX10_dances_35 (by decide) (fun _ => ?_) (fun h => absurd h (by decide))
  refine j_aload_n dX10_dances_42 rfl rfl ?_
  refine t_getR (b := 63) dX10_dances_43 jfl_X10_83 (fun _ _ _ => rfl) rfl ?_
  refine j_iload_n dX10_dances_46 rfl rfl ?_
  refine t_aaload dX10_dances_47 (by omega) ?_
  refine j_callVi [] [] dX10_dances_48 jlk_X10_103 rfl rfl ((shS0 (sh_of hj)) _ _ _) rfl (Nat.le_of_ble_eq_true rfl) (jMet_i (c_X8_bytesFault (sh_of hj) hh (by decide) hso (by decide)) (show bfI 2 0 = nI 0 from rfl) rfl) ?_
  refine j_if_eq (tgt := 58) dX10_dances_51 (by decide) (fun _ => ?_) (fun h => absurd (by decide) h)
  refine j_lconst (v := 0) dX10_dances_58 rfl ?_
  refine j_lstore (lv' := [some (.ref 4), some (.int _), some (.int _), some (.int _), some (.int _), some (.long _), none, none, none, none, none, none, none]) dX10_dances_59 (by decide) rfl ?_
  refine j_bipush (v := (-2)) dX10_dances_61 rfl ?_
  refine j_istore (lv' := [some (.ref 4), some (.int _), some (.int _), some (.int _), some (.int _), some (.long _), none, some (.int _), none, none, none, none, none]) dX10_dances_63 (by decide) rfl ?_
  refine j_lconst (v := 0) dX10_dances_65 rfl ?_
  refine j_lstore (lv' := [some (.ref 4), some (.int _), some (.int _), some (.int _), some (.int _), some (.long _), none, some (.int _), some (.long _), none, none, none, none]) dX10_dances_66 (by decide) rfl ?_
  refine j_iconst (v := nI 1) dX10_dances_68 rfl ?_
  refine j_istore (lv' := [some (.ref 4), some (.int _), some (.int _), some (.int _), some (.int _), some (.long _), none, some (.int _), some (.long _), none, some (.int _), none, none]) dX10_dances_69 (by decide) rfl ?_
  exact l_dances hr hv7 hj hh hln l60 (t_dances hr hv7 hj hh hln l60 (by omega)) 7 0 (by decide) (by decide)

set_option maxHeartbeats 200000 in
set_option maxRecDepth 100000 in
theorem c_drawnBehind {z : Int32} : jMet (d) yX10_drawnBehind cX10_drawnBehind 1 (some .int) 0 0 [.int z] (w) (jRi (drZ z) w) := by
  refine jMet_of (by decide) (Nat.le_of_ble_eq_true rfl) none (Or.inl rfl) ?_
  show jWP none RX10 cX10_drawnBehind 1 (some .int) (d) 0 0 0 [some (.int z)] [] (w) (jRi (drZ z) w)
  refine j_iload_n dX10_drawnBehind_0 rfl rfl ?_
  refine j_ldcw dX10_drawnBehind_1 jw_k_X10_363 ?_
  refine j_imul dX10_drawnBehind_4 ?_
  refine j_sipush (v := nI 12345) dX10_drawnBehind_5 rfl ?_
  refine j_iadd dX10_drawnBehind_8 ?_
  refine j_ireturn dX10_drawnBehind_9 rfl ?_
  exact ⟨rfl, rfl⟩

set_option maxHeartbeats 200000 in
set_option maxRecDepth 100000 in
theorem l_drawn (hr : rul B cd vl st an en n na v X A) {k : Nat} (hk : k < 2 ^ 31) {y : Int32} {r : cS × Nat} (hna : 0 < na) (na6 : na ≤ 6) : ∀ (m : Nat) (e : Int32) (i : Nat) (c : cS) (z : Int32) (l : Nat) (f g : Nat → Int32), i + m = k / 100 → (zb 49 c.1 ∧ zb 49 c.2) → drF (RkC cd vl st an en n v) na m c z l = r → jWP none RX10 cX10_drawn 10 (some .int) (d + 5) 0 0 73 [some (.ref 4), some (.int e), some (.int (nI k)), some (.int y), some (.int (nI na)), some (.int z), some (.int (nI l)), some (.int (nI i)), none, none] [] (tw (cX X 47 c.1) (scr (cA A 47 c.1 c.2) B f g) L) ((fun z w => z = some (.int (if y = 0 then allS (winS (min (k % 100) (hN r.1.1)) r.1).2 49 else nI r.2)) ∧ ∃ f g, w = tw (cX X 47 (winS (min (k % 100) (hN r.1.1)) r.1).1) (scr (cA A 47 (winS (min (k % 100) (hN r.1.1)) r.1).1 (winS (min (k % 100) (hN r.1.1)) r.1).2) B f g) L)) := by
  intro m
  induction m with
  | zero =>
    intro e i c z l f g hi hz hf
    subst hf
    have hB := hr.1
    have hcs := cok_scr hB (Or.inr (Or.inr (Or.inl rfl))) (f := f) (g := g) (cok_c (X := X) (A := A) (K := 47) hz.1 hz.2)
    have hu1 : uS (drZ z) < 2 ^ 31 := by have := uS_lt (drZ z); omega
    have hu2 : uS (drZ (drZ z)) < 2 ^ 31 := by have := uS_lt (drZ (drZ z)); omega
    have e48 : scr (cA A 47 c.1 c.2) B f g 48 = c.1 := by rw [scr_k hB (by decide)]; exact cA_1 _ _ _ _
    have e49 : scr (cA A 47 c.1 c.2) B f g 49 = c.2 := by rw [scr_k hB (by decide)]; exact cA_2 _ _ _ _
    refine j_iload dX10_drawn_73 rfl ?_
    refine j_iload_n dX10_drawn_75 rfl rfl ?_
    refine j_bipush (v := nI 100) dX10_drawn_76 rfl ?_
    refine jn_idiv dX10_drawn_78 hk (by decide) (by decide) ?_
    refine jn_icmp_ge (tgt := 145) dX10_drawn_79 (by decide) (by omega) (by omega) (fun h79 => ?_) (fun h79 => absurd h79 (by omega))
    refine j_aload_n dX10_drawn_145 rfl rfl ?_
    refine t_getR (b := 47) dX10_drawn_146 jfl_X10_50 (fun _ _ _ => rfl) rfl ?_
    refine j_iload_n dX10_drawn_149 rfl rfl ?_
    refine j_bipush (v := nI 100) dX10_drawn_150 rfl ?_
    refine jn_irem dX10_drawn_152 hk (by decide) (by decide) ?_
    refine j_callVi [.int _] [] dX10_drawn_153 jlk_X10_185 rfl rfl rfl rfl (Nat.le_of_ble_eq_true rfl) (c_X0_eatCells (Or.inr (Or.inr (Or.inl rfl))) hcs (by omega)) ?_
    rw [show (47 + 1 : Nat) = 48 from rfl, show (47 + 2 : Nat) = 49 from rfl, e48, e49, cX_cX, scr_cA hB (Or.inr (Or.inr (Or.inl rfl))), cA_cA]
    refine j_pop dX10_drawn_156 rfl ?_
    refine j_iload_n dX10_drawn_157 rfl rfl ?_
    refine j_if_ne (tgt := 171) dX10_drawn_158 (by decide) (fun h158 => ?_) (fun h158 => ?_)
    · refine j_iload dX10_drawn_171 rfl ?_
      refine j_ireturn dX10_drawn_173 rfl ?_
      refine ⟨?_, f, g, rfl⟩
      exact congrArg (fun z => some (Value.int z)) (if_neg (by first | exact h158 | simpa using h158)).symm
    · refine j_aload_n dX10_drawn_161 rfl rfl ?_
      refine t_getR (b := 47) dX10_drawn_162 jfl_X10_50 (fun _ _ _ => rfl) rfl ?_
      refine j_callVi [] [] dX10_drawn_165 jlk_X10_270 rfl rfl rfl rfl (Nat.le_of_ble_eq_true rfl) (c_X0_allBalances (Or.inr (Or.inr (Or.inl rfl)))) ?_
      rw [scr_k hB (by decide), cA_2]
      refine j_goto (tgt := 173) dX10_drawn_168 (by decide) ?_
      refine j_ireturn dX10_drawn_173 rfl ?_
      refine ⟨?_, f, g, rfl⟩
      exact congrArg (fun z => some (Value.int z)) (if_pos (by first | exact h158 | simpa using h158)).symm
  | succ m ih =>
    intro e i c z l f g hi hz hf
    have hB := hr.1
    have hcs := cok_scr hB (Or.inr (Or.inr (Or.inl rfl))) (f := f) (g := g) (cok_c (X := X) (A := A) (K := 47) hz.1 hz.2)
    have hu1 : uS (drZ z) < 2 ^ 31 := by have := uS_lt (drZ z); omega
    have hu2 : uS (drZ (drZ z)) < 2 ^ 31 := by have := uS_lt (drZ (drZ z)); omega
    have e48 : scr (cA A 47 c.1 c.2) B f g 48 = c.1 := by rw [scr_k hB (by decide)]; exact cA_1 _ _ _ _
    have e49 : scr (cA A 47 c.1 c.2) B f g 49 = c.2 := by rw [scr_k hB (by decide)]; exact cA_2 _ _ _ _
    refine j_iload dX10_drawn_73 rfl ?_
    refine j_iload_n dX10_drawn_75 rfl rfl ?_
    refine j_bipush (v := nI 100) dX10_drawn_76 rfl ?_
    refine jn_idiv dX10_drawn_78 hk (by decide) (by decide) ?_
    refine jn_icmp_ge (tgt := 145) dX10_drawn_79 (by decide) (by omega) (by omega) (fun h79 => absurd h79 (by omega)) (fun h79 => ?_)
    refine j_iload dX10_drawn_82 rfl ?_
    refine j_callSi [.int _] [] dX10_drawn_84 jlk_X10_264 rfl rfl (Nat.le_of_ble_eq_true rfl) (c_drawnBehind) ?_
    refine j_istore (lv' := [some (.ref 4), some (.int _), some (.int _), some (.int _), some (.int _), some (.int _), some (.int _), some (.int _), none, none]) dX10_drawn_87 (by decide) rfl ?_
    refine j_iload dX10_drawn_89 rfl ?_
    refine j_bipush (v := nI 8) dX10_drawn_91 rfl ?_
    refine j_iushr dX10_drawn_93 ?_
    refine j_topE (e' := nI (uS (drZ z))) (uS_eq _) ?_
    refine j_iload dX10_drawn_94 rfl ?_
    refine jn_irem dX10_drawn_96 hu1 hna (by omega) ?_
    refine j_istore (lv' := [some (.ref 4), some (.int _), some (.int _), some (.int _), some (.int _), some (.int _), some (.int _), some (.int _), some (.int _), none]) dX10_drawn_97 (by decide) rfl ?_
    refine j_iload dX10_drawn_99 rfl ?_
    refine j_callSi [.int _] [] dX10_drawn_101 jlk_X10_264 rfl rfl (Nat.le_of_ble_eq_true rfl) (c_drawnBehind) ?_
    refine j_istore (lv' := [some (.ref 4), some (.int _), some (.int _), some (.int _), some (.int _), some (.int _), some (.int _), some (.int _), some (.int _), none]) dX10_drawn_104 (by decide) rfl ?_
    refine j_iconst (v := nI 1) dX10_drawn_106 rfl ?_
    refine j_iload dX10_drawn_107 rfl ?_
    refine j_bipush (v := nI 8) dX10_drawn_109 rfl ?_
    refine j_iushr dX10_drawn_111 ?_
    refine j_topE (e' := nI (uS (drZ (drZ z)))) (uS_eq _) ?_
    refine j_bipush (v := nI 6) dX10_drawn_112 rfl ?_
    refine jn_irem dX10_drawn_114 hu2 (by decide) (by decide) ?_
    refine jn_iadd dX10_drawn_115 ?_
    refine j_istore (lv' := [some (.ref 4), some (.int _), some (.int _), some (.int _), some (.int _), some (.int _), some (.int _), some (.int _), some (.int _), some (.int _)]) dX10_drawn_116 (by decide) rfl ?_
    refine j_aload_n dX10_drawn_118 rfl rfl ?_
    refine t_getR (b := 15) dX10_drawn_119 jfl_X10_28 (fun _ _ _ => rfl) rfl ?_
    refine j_aload_n dX10_drawn_122 rfl rfl ?_
    refine t_getR (b := 47) dX10_drawn_123 jfl_X10_50 (fun _ _ _ => rfl) rfl ?_
    refine j_iload dX10_drawn_126 rfl ?_
    refine j_iload dX10_drawn_128 rfl ?_
    refine j_callV [.ref 47, .int _, .int _] [] dX10_drawn_130 jlk_X10_267 rfl rfl rfl rfl (Nat.le_of_ble_eq_true rfl) (c_write hr (Or.inr (Or.inr (Or.inl rfl))) hz.1 hz.2 (Nat.mod_lt _ hna)) (fun r9 w9 h9 => ?_)
    obtain ⟨rfl, f9, g9, rfl⟩ := h9
    refine j_ats (st' := [.int _]) rfl ?_
    refine j_if_ge (tgt := 139) dX10_drawn_133 (by decide) (fun h133 => ?_) (fun h133 => ?_)
    · have hs := plP_pos h133
      refine jn_iinc (lv' := [some (.ref 4), some (.int _), some (.int _), some (.int _), some (.int _), some (.int _), some (.int _), some (.int _), some (.int _), some (.int _)]) dX10_drawn_139 rfl (by decide) rfl ?_
      refine j_goto (tgt := 73) dX10_drawn_142 (by decide) ?_
      refine j_sub (by exact ⟨rfl, rfl, rfl, rfl, rfl, rfl, rfl, rfl, trivial⟩) (ih e (i + 1) (seS (RkC cd vl st an en n v) c (nI (uS (drZ z) % na)) (nI (1 + uS (drZ (drZ z)) % 6))) (drZ (drZ z)) l f9 g9 (by omega) (seS_z hz) ?_)
      rw [← hf]
      show _ = drF _ _ m _ _ (if (seP (RkC cd vl st an en n v) c (nI (uS (drZ z) % na)) (nI (1 + uS (drZ (drZ z)) % 6))).isSome = true then l else l + 1)
      rw [if_pos hs]
    · have hs := plP_neg' (Int32.not_le.mp h133) (fun q hq => seP_lt hq)
      refine jn_iinc (lv' := [some (.ref 4), some (.int _), some (.int _), some (.int _), some (.int _), some (.int _), some (.int _), some (.int _), some (.int _), some (.int _)]) dX10_drawn_136 rfl (by decide) rfl ?_
      refine jn_iinc (lv' := [some (.ref 4), some (.int _), some (.int _), some (.int _), some (.int _), some (.int _), some (.int _), some (.int _), some (.int _), some (.int _)]) dX10_drawn_139 rfl (by decide) rfl ?_
      refine j_goto (tgt := 73) dX10_drawn_142 (by decide) ?_
      refine j_sub (by exact ⟨rfl, rfl, rfl, rfl, rfl, rfl, rfl, rfl, trivial⟩) (ih e (i + 1) (seS (RkC cd vl st an en n v) c (nI (uS (drZ z) % na)) (nI (1 + uS (drZ (drZ z)) % 6))) (drZ (drZ z)) (l + 1) f9 g9 (by omega) (seS_z hz) ?_)
      rw [← hf]
      show _ = drF _ _ m _ _ (if (seP (RkC cd vl st an en n v) c (nI (uS (drZ z) % na)) (nI (1 + uS (drZ (drZ z)) % 6))).isSome = true then l else l + 1)
      rw [if_neg (by rw [hs]; decide)]

set_option maxHeartbeats 200000 in
set_option maxRecDepth 100000 in
theorem c_drawn_neg {e c y : Int32} (h : c < nI 100) : jMet (d + 5) yX10_drawn cX10_drawn 10 (some .int) 0 0 [.ref 4, .int e, .int c, .int y] (tw X A L) (jRi (-1) (tw X A L)) := by
  refine jMet_of (by decide) (Nat.le_of_ble_eq_true rfl) none (Or.inl rfl) ?_
  show jWP none RX10 cX10_drawn 10 (some .int) (d + 5) 0 0 0 [some (.ref 4), some (.int e), some (.int c), some (.int y), none, none, none, none, none, none] [] (tw X A L) (jRi (-1) (tw X A L))
  refine j_iload_n dX10_drawn_0 rfl rfl ?_
  refine j_bipush (v := nI 100) dX10_drawn_1 rfl ?_
  refine j_icmp_lt (tgt := 33) dX10_drawn_3 (by decide) (fun h3 => ?_) (fun h3 => absurd h h3)
  refine j_iconst (v := (-1)) dX10_drawn_33 rfl ?_
  refine j_ireturn dX10_drawn_34 rfl ?_
  exact ⟨rfl, rfl⟩

set_option maxHeartbeats 200000 in
set_option maxRecDepth 100000 in
theorem c_drawn_no {e y : Int32} {k : Nat} (hk : k < 2 ^ 31) (h : k < 100 ∨ 60 < k / 100 ∨ 49 < k % 100 ∨ isA 2 y = nI 0) : jMet (d + 5) yX10_drawn cX10_drawn 10 (some .int) 0 0 [.ref 4, .int e, .int (nI k), .int y] (tw X A L) (jRi (-1) (tw X A L)) := by
  refine jMet_of (by decide) (Nat.le_of_ble_eq_true rfl) none (Or.inl rfl) ?_
  show jWP none RX10 cX10_drawn 10 (some .int) (d + 5) 0 0 0 [some (.ref 4), some (.int e), some (.int (nI k)), some (.int y), none, none, none, none, none, none] [] (tw X A L) (jRi (-1) (tw X A L))
  refine j_iload_n dX10_drawn_0 rfl rfl ?_
  refine j_bipush (v := nI 100) dX10_drawn_1 rfl ?_
  refine jn_icmp_lt (tgt := 33) dX10_drawn_3 (by decide) hk (by omega) (fun h3 => ?_) (fun h3 => ?_)
  · refine j_iconst (v := (-1)) dX10_drawn_33 rfl ?_
    refine j_ireturn dX10_drawn_34 rfl ?_
    exact ⟨rfl, rfl⟩
  · refine j_iload_n dX10_drawn_6 rfl rfl ?_
    refine j_bipush (v := nI 100) dX10_drawn_7 rfl ?_
    refine jn_idiv dX10_drawn_9 hk (by decide) (by decide) ?_
    refine j_bipush (v := nI 60) dX10_drawn_10 rfl ?_
    refine jn_icmp_gt (tgt := 33) dX10_drawn_12 (by decide) (by omega) (by omega) (fun h12 => ?_) (fun h12 => ?_)
    · refine j_iconst (v := (-1)) dX10_drawn_33 rfl ?_
      refine j_ireturn dX10_drawn_34 rfl ?_
      exact ⟨rfl, rfl⟩
    · refine j_iload_n dX10_drawn_15 rfl rfl ?_
      refine j_bipush (v := nI 100) dX10_drawn_16 rfl ?_
      refine jn_irem dX10_drawn_18 hk (by decide) (by decide) ?_
      refine j_bipush (v := nI 49) dX10_drawn_19 rfl ?_
      refine jn_icmp_gt (tgt := 33) dX10_drawn_21 (by decide) (by omega) (by omega) (fun h21 => ?_) (fun h21 => ?_)
      · refine j_iconst (v := (-1)) dX10_drawn_33 rfl ?_
        refine j_ireturn dX10_drawn_34 rfl ?_
        exact ⟨rfl, rfl⟩
      · refine j_iload_n dX10_drawn_24 rfl rfl ?_
        refine j_if_lt (tgt := 33) dX10_drawn_25 (by decide) (fun h25 => ?_) (fun h25 => ?_)
        · refine j_iconst (v := (-1)) dX10_drawn_33 rfl ?_
          refine j_ireturn dX10_drawn_34 rfl ?_
          exact ⟨rfl, rfl⟩
        · refine j_iload_n dX10_drawn_28 rfl rfl ?_
          refine j_iconst (v := nI 1) dX10_drawn_29 rfl ?_
          refine j_icmp_le (tgt := 35) dX10_drawn_30 (by decide) (fun h30 => ?_) (fun h30 => ?_)
          · exfalso
            rcases h with h | h | h | h
            · omega
            · omega
            · omega
            · obtain ⟨q, hq, rfl⟩ := ixle (m := 1) h25 (Int32.not_lt.mpr h30) (by decide)
              rw [isA_in (by omega) (by decide)] at h
              exact absurd h (by decide)
          · refine j_iconst (v := (-1)) dX10_drawn_33 rfl ?_
            refine j_ireturn dX10_drawn_34 rfl ?_
            exact ⟨rfl, rfl⟩

set_option maxHeartbeats 200000 in
set_option maxRecDepth 100000 in
theorem c_drawn_0 (hr : rul B cd vl st an en n na v X A) (h0 : na = 0) {e : Int32} {k : Nat} (hk : k < 2 ^ 31) (h1 : 100 ≤ k) (h2 : k / 100 ≤ 60) (h3 : k % 100 ≤ 49) {y : Int32} (hy : isA 2 y ≠ nI 0) : jMet (d + 5) yX10_drawn cX10_drawn 10 (some .int) 0 0 [.ref 4, .int e, .int (nI k), .int y] (tw X A L) (jRi (-5) (tw X A L)) := by
  refine jMet_of (by decide) (Nat.le_of_ble_eq_true rfl) none (Or.inl rfl) ?_
  show jWP none RX10 cX10_drawn 10 (some .int) (d + 5) 0 0 0 [some (.ref 4), some (.int e), some (.int (nI k)), some (.int y), none, none, none, none, none, none] [] (tw X A L) (jRi (-5) (tw X A L))
  obtain ⟨hB, r2, r3, r4, r5, r6, r7, r8, r9, r10, r11, r12, r13⟩ := id hr
  have hy2 : ¬ y < 0 ∧ y ≤ nI 1 := by
    rcases isA_cases (n := 2) (by decide) y with q | ⟨i, hi, rfl⟩
    · exact absurd q hy
    · exact ⟨nI_pos (by omega), nI_le (by omega) (by decide)⟩
  refine j_iload_n dX10_drawn_0 rfl rfl ?_
  refine j_bipush (v := nI 100) dX10_drawn_1 rfl ?_
  refine jn_icmp_lt (tgt := 33) dX10_drawn_3 (by decide) hk (by omega) (fun h3 => absurd h3 (by omega)) (fun h3 => ?_)
  refine j_iload_n dX10_drawn_6 rfl rfl ?_
  refine j_bipush (v := nI 100) dX10_drawn_7 rfl ?_
  refine jn_idiv dX10_drawn_9 hk (by decide) (by decide) ?_
  refine j_bipush (v := nI 60) dX10_drawn_10 rfl ?_
  refine jn_icmp_gt (tgt := 33) dX10_drawn_12 (by decide) (by omega) (by omega) (fun h12 => absurd h12 (by omega)) (fun h12 => ?_)
  refine j_iload_n dX10_drawn_15 rfl rfl ?_
  refine j_bipush (v := nI 100) dX10_drawn_16 rfl ?_
  refine jn_irem dX10_drawn_18 hk (by decide) (by decide) ?_
  refine j_bipush (v := nI 49) dX10_drawn_19 rfl ?_
  refine jn_icmp_gt (tgt := 33) dX10_drawn_21 (by decide) (by omega) (by omega) (fun h21 => absurd h21 (by omega)) (fun h21 => ?_)
  refine j_iload_n dX10_drawn_24 rfl rfl ?_
  refine j_if_lt (tgt := 33) dX10_drawn_25 (by decide) (fun h25 => absurd h25 hy2.1) (fun h25 => ?_)
  refine j_iload_n dX10_drawn_28 rfl rfl ?_
  refine j_iconst (v := nI 1) dX10_drawn_29 rfl ?_
  refine j_icmp_le (tgt := 35) dX10_drawn_30 (by decide) (fun h30 => ?_) (fun h30 => absurd hy2.2 h30)
  refine j_aload_n dX10_drawn_35 rfl rfl ?_
  refine t_getR (b := 10) dX10_drawn_36 jfl_X10_19 (fun _ _ _ => rfl) rfl ?_
  refine j_callVi [] [] dX10_drawn_39 jlk_X10_261 rfl rfl rfl rfl (Nat.le_of_ble_eq_true rfl) (c_X7_accountCount r10 r11) ?_
  refine j_istore (lv' := [some (.ref 4), some (.int _), some (.int _), some (.int _), some (.int _), none, none, none, none, none]) dX10_drawn_42 (by decide) rfl ?_
  refine j_iload dX10_drawn_44 rfl ?_
  refine j_iconst (v := nI 1) dX10_drawn_46 rfl ?_
  refine jn_icmp_ge (tgt := 53) dX10_drawn_47 (by decide) (by omega) (by omega) (fun h47 => absurd h47 (by omega)) (fun h47 => ?_)
  refine j_bipush (v := (-5)) dX10_drawn_50 rfl ?_
  refine j_ireturn dX10_drawn_52 rfl ?_
  exact ⟨rfl, rfl⟩

set_option maxHeartbeats 200000 in
set_option maxRecDepth 100000 in
theorem c_drawn (hr : rul B cd vl st an en n na v X A) (hc : cok X A 43) (hc47 : cok X A 47) (h0 : 0 < na) {e : Int32} {k : Nat} (hk : k < 2 ^ 31) (h1 : 100 ≤ k) (h2 : k / 100 ≤ 60) (h3 : k % 100 ≤ 49) {y : Int32} (hy : isA 2 y ≠ nI 0) : jMet (d + 5) yX10_drawn cX10_drawn 10 (some .int) 0 0 [.ref 4, .int e, .int (nI k), .int y] (tw X A L) ((fun z w => z = some (.int (if y = 0 then allS (winS (min (k % 100) (hN (drF (RkC cd vl st an en n v) na (k / 100) (A 44, A 45) e 0).1.1)) (drF (RkC cd vl st an en n v) na (k / 100) (A 44, A 45) e 0).1).2 49 else nI (drF (RkC cd vl st an en n v) na (k / 100) (A 44, A 45) e 0).2)) ∧ ∃ f g, w = tw (cX X 47 (winS (min (k % 100) (hN (drF (RkC cd vl st an en n v) na (k / 100) (A 44, A 45) e 0).1.1)) (drF (RkC cd vl st an en n v) na (k / 100) (A 44, A 45) e 0).1).1) (scr (cA A 47 (winS (min (k % 100) (hN (drF (RkC cd vl st an en n v) na (k / 100) (A 44, A 45) e 0).1.1)) (drF (RkC cd vl st an en n v) na (k / 100) (A 44, A 45) e 0).1).1 (winS (min (k % 100) (hN (drF (RkC cd vl st an en n v) na (k / 100) (A 44, A 45) e 0).1.1)) (drF (RkC cd vl st an en n v) na (k / 100) (A 44, A 45) e 0).1).2) B f g) L)) := by
  refine jMet_of (by decide) (Nat.le_of_ble_eq_true rfl) none (Or.inl rfl) ?_
  show jWP none RX10 cX10_drawn 10 (some .int) (d + 5) 0 0 0 [some (.ref 4), some (.int e), some (.int (nI k)), some (.int y), none, none, none, none, none, none] [] (tw X A L) ((fun z w => z = some (.int (if y = 0 then allS (winS (min (k % 100) (hN (drF (RkC cd vl st an en n v) na (k / 100) (A 44, A 45) e 0).1.1)) (drF (RkC cd vl st an en n v) na (k / 100) (A 44, A 45) e 0).1).2 49 else nI (drF (RkC cd vl st an en n v) na (k / 100) (A 44, A 45) e 0).2)) ∧ ∃ f g, w = tw (cX X 47 (winS (min (k % 100) (hN (drF (RkC cd vl st an en n v) na (k / 100) (A 44, A 45) e 0).1.1)) (drF (RkC cd vl st an en n v) na (k / 100) (A 44, A 45) e 0).1).1) (scr (cA A 47 (winS (min (k % 100) (hN (drF (RkC cd vl st an en n v) na (k / 100) (A 44, A 45) e 0).1.1)) (drF (RkC cd vl st an en n v) na (k / 100) (A 44, A 45) e 0).1).1 (winS (min (k % 100) (hN (drF (RkC cd vl st an en n v) na (k / 100) (A 44, A 45) e 0).1.1)) (drF (RkC cd vl st an en n v) na (k / 100) (A 44, A 45) e 0).1).2) B f g) L))
  obtain ⟨hB, r2, r3, r4, r5, r6, r7, r8, r9, r10, r11, r12, r13⟩ := id hr
  have hy2 : ¬ y < 0 ∧ y ≤ nI 1 := by
    rcases isA_cases (n := 2) (by decide) y with q | ⟨i, hi, rfl⟩
    · exact absurd q hy
    · exact ⟨nI_pos (by omega), nI_le (by omega) (by decide)⟩
  refine j_iload_n dX10_drawn_0 rfl rfl ?_
  refine j_bipush (v := nI 100) dX10_drawn_1 rfl ?_
  refine jn_icmp_lt (tgt := 33) dX10_drawn_3 (by decide) hk (by omega) (fun h3 => absurd h3 (by omega)) (fun h3 => ?_)
  refine j_iload_n dX10_drawn_6 rfl rfl ?_
  refine j_bipush (v := nI 100) dX10_drawn_7 rfl ?_
  refine jn_idiv dX10_drawn_9 hk (by decide) (by decide) ?_
  refine j_bipush (v := nI 60) dX10_drawn_10 rfl ?_
  refine jn_icmp_gt (tgt := 33) dX10_drawn_12 (by decide) (by omega) (by omega) (fun h12 => absurd h12 (by omega)) (fun h12 => ?_)
  refine j_iload_n dX10_drawn_15 rfl rfl ?_
  refine j_bipush (v := nI 100) dX10_drawn_16 rfl ?_
  refine jn_irem dX10_drawn_18 hk (by decide) (by decide) ?_
  refine j_bipush (v := nI 49) dX10_drawn_19 rfl ?_
  refine jn_icmp_gt (tgt := 33) dX10_drawn_21 (by decide) (by omega) (by omega) (fun h21 => absurd h21 (by omega)) (fun h21 => ?_)
  refine j_iload_n dX10_drawn_24 rfl rfl ?_
  refine j_if_lt (tgt := 33) dX10_drawn_25 (by decide) (fun h25 => absurd h25 hy2.1) (fun h25 => ?_)
  refine j_iload_n dX10_drawn_28 rfl rfl ?_
  refine j_iconst (v := nI 1) dX10_drawn_29 rfl ?_
  refine j_icmp_le (tgt := 35) dX10_drawn_30 (by decide) (fun h30 => ?_) (fun h30 => absurd hy2.2 h30)
  refine j_aload_n dX10_drawn_35 rfl rfl ?_
  refine t_getR (b := 10) dX10_drawn_36 jfl_X10_19 (fun _ _ _ => rfl) rfl ?_
  refine j_callVi [] [] dX10_drawn_39 jlk_X10_261 rfl rfl rfl rfl (Nat.le_of_ble_eq_true rfl) (c_X7_accountCount r10 r11) ?_
  refine j_istore (lv' := [some (.ref 4), some (.int _), some (.int _), some (.int _), some (.int _), none, none, none, none, none]) dX10_drawn_42 (by decide) rfl ?_
  refine j_iload dX10_drawn_44 rfl ?_
  refine j_iconst (v := nI 1) dX10_drawn_46 rfl ?_
  refine jn_icmp_ge (tgt := 53) dX10_drawn_47 (by decide) (by omega) (by omega) (fun h47 => ?_) (fun h47 => absurd h47 (by omega))
  refine j_aload_n dX10_drawn_53 rfl rfl ?_
  refine t_getR (b := 47) dX10_drawn_54 jfl_X10_50 (fun _ _ _ => rfl) rfl ?_
  refine j_aload_n dX10_drawn_57 rfl rfl ?_
  refine t_getR (b := 43) dX10_drawn_58 jfl_X10_46 (fun _ _ _ => rfl) rfl ?_
  refine j_callVv [.ref 43] [] dX10_drawn_61 jlk_X10_181 rfl rfl rfl rfl (Nat.le_of_ble_eq_true rfl) (c_X0_become (Or.inr (Or.inr (Or.inl rfl))) (Or.inr (Or.inl rfl)) hc47 hc) ?_
  rw [show (43 + 1 : Nat) = 44 from rfl, show (43 + 2 : Nat) = 45 from rfl]
  refine j_iload_n dX10_drawn_64 rfl rfl ?_
  refine j_istore (lv' := [some (.ref 4), some (.int _), some (.int _), some (.int _), some (.int _), some (.int _), none, none, none, none]) dX10_drawn_65 (by decide) rfl ?_
  refine j_iconst (v := nI 0) dX10_drawn_67 rfl ?_
  refine j_istore (lv' := [some (.ref 4), some (.int _), some (.int _), some (.int _), some (.int _), some (.int _), some (.int _), none, none, none]) dX10_drawn_68 (by decide) rfl ?_
  refine j_iconst (v := nI 0) dX10_drawn_70 rfl ?_
  refine j_istore (lv' := [some (.ref 4), some (.int _), some (.int _), some (.int _), some (.int _), some (.int _), some (.int _), some (.int _), none, none]) dX10_drawn_71 (by decide) rfl ?_
  refine j_atw (tw_eq rfl (scr_self _ B).symm rfl) (l_drawn hr hk h0 r11 (k / 100) e 0 (A 44, A 45) e 0 _ _ (by omega) ⟨hc.1, hc.2.1⟩ rfl)

set_option maxHeartbeats 200000 in
set_option maxRecDepth 100000 in
theorem c_feed_no {c : Int32} (h : c < 0 ∨ nI 255 < c) : jMet (d + 2) yX10_feed cX10_feed 2 (some .int) 0 0 [.ref 4, .int c] (tw X A L) (jRi (-1) (tw X A L)) := by
  refine jMet_of (by decide) (Nat.le_of_ble_eq_true rfl) none (Or.inl rfl) ?_
  show jWP none RX10 cX10_feed 2 (some .int) (d + 2) 0 0 0 [some (.ref 4), some (.int c)] [] (tw X A L) (jRi (-1) (tw X A L))
  refine j_iload_n dX10_feed_0 rfl rfl ?_
  refine j_if_lt (tgt := 11) dX10_feed_1 (by decide) (fun h1 => ?_) (fun h1 => ?_)
  · refine j_iconst (v := (-1)) dX10_feed_11 rfl ?_
    refine j_goto (tgt := 23) dX10_feed_12 (by decide) ?_
    refine j_ireturn dX10_feed_23 rfl ?_
    exact ⟨rfl, rfl⟩
  · refine j_iload_n dX10_feed_4 rfl rfl ?_
    refine j_sipush (v := nI 255) dX10_feed_5 rfl ?_
    refine j_icmp_le (tgt := 15) dX10_feed_8 (by decide) (fun h8 => ?_) (fun h8 => ?_)
    · exfalso
      exact h.elim (fun q => h1 q) (fun q => Int32.not_lt.mpr h8 q)
    · refine j_iconst (v := (-1)) dX10_feed_11 rfl ?_
      refine j_goto (tgt := 23) dX10_feed_12 (by decide) ?_
      refine j_ireturn dX10_feed_23 rfl ?_
      exact ⟨rfl, rfl⟩

set_option maxHeartbeats 200000 in
set_option maxRecDepth 100000 in
theorem c_X4_feedLetter_full {c : Int32} (h : X 16 1 = nI 120) : jMet (d) yX4_feedLetter cX4_feedLetter 2 (some .int) 0 0 [.ref 16, .int c] (tw X A L) (jRi (-3) (tw X A L)) := by
  refine jMet_of (by decide) (Nat.le_of_ble_eq_true rfl) none (Or.inl rfl) ?_
  show jWP none RX4 cX4_feedLetter 2 (some .int) (d) 0 0 0 [some (.ref 16), some (.int c)] [] (tw X A L) (jRi (-3) (tw X A L))
  refine j_aload_n dX4_feedLetter_0 rfl rfl ?_
  refine t_getI dX4_feedLetter_1 jfl_X4_17 (fun _ _ _ => rfl) (fun _ => rfl) ?_
  refine j_topE (e' := nI 120) h ?_
  refine j_bipush (v := nI 120) dX4_feedLetter_4 rfl ?_
  refine jn_icmp_lt (tgt := 12) dX4_feedLetter_6 (by decide) (by omega) (by omega) (fun h6 => absurd h6 (by omega)) (fun h6 => ?_)
  refine j_bipush (v := (-3)) dX4_feedLetter_9 rfl ?_
  refine j_ireturn dX4_feedLetter_11 rfl ?_
  exact ⟨rfl, rfl⟩

set_option maxHeartbeats 200000 in
set_option maxRecDepth 100000 in
theorem c_X4_feedLetter {c q : Nat} (h : X 16 1 = nI q) (hq : q < 120) : jMet (d) yX4_feedLetter cX4_feedLetter 2 (some .int) 0 0 [.ref 16, .int (nI c)] (tw X A L) (jRi (nI (q + 1)) (tw (va_up X 16 (upd (X 16) 1 (nI (q + 1)))) (va_up A 17 (upd (A 17) q (nI c))) L)) := by
  refine jMet_of (by decide) (Nat.le_of_ble_eq_true rfl) none (Or.inl rfl) ?_
  show jWP none RX4 cX4_feedLetter 2 (some .int) (d) 0 0 0 [some (.ref 16), some (.int (nI c))] [] (tw X A L) (jRi (nI (q + 1)) (tw (va_up X 16 (upd (X 16) 1 (nI (q + 1)))) (va_up A 17 (upd (A 17) q (nI c))) L))
  refine j_aload_n dX4_feedLetter_0 rfl rfl ?_
  refine t_getI dX4_feedLetter_1 jfl_X4_17 (fun _ _ _ => rfl) (fun _ => rfl) ?_
  refine j_topE (e' := nI q) h ?_
  refine j_bipush (v := nI 120) dX4_feedLetter_4 rfl ?_
  refine jn_icmp_lt (tgt := 12) dX4_feedLetter_6 (by decide) (by omega) (by omega) (fun h6 => ?_) (fun h6 => absurd h6 (by omega))
  refine j_aload_n dX4_feedLetter_12 rfl rfl ?_
  refine t_getR (b := 17) dX4_feedLetter_13 jfl_X4_11 (fun _ _ _ => rfl) rfl ?_
  refine j_aload_n dX4_feedLetter_16 rfl rfl ?_
  refine t_getI dX4_feedLetter_17 jfl_X4_17 (fun _ _ _ => rfl) (fun _ => rfl) ?_
  refine j_topE (e' := nI q) h ?_
  refine j_iload_n dX4_feedLetter_20 rfl rfl ?_
  refine t_iastore dX4_feedLetter_21 (fun _ _ _ => rfl) (by omega) (by decide) ?_
  refine j_aload_n dX4_feedLetter_22 rfl rfl ?_
  refine j_dup dX4_feedLetter_23 rfl ?_
  refine t_getI dX4_feedLetter_24 jfl_X4_17 (fun _ _ _ => rfl) (fun _ => rfl) ?_
  refine j_topE (e' := nI q) h ?_
  refine j_iconst (v := nI 1) dX4_feedLetter_27 rfl ?_
  refine jn_iadd dX4_feedLetter_28 ?_
  refine t_putI dX4_feedLetter_29 jfl_X4_17 (fun _ _ _ => rfl) (fun _ _ => rfl) (Nat.le_of_ble_eq_true rfl) rfl rfl ?_
  refine j_aload_n dX4_feedLetter_32 rfl rfl ?_
  refine t_getI dX4_feedLetter_33 jfl_X4_17 (fun _ _ _ => rfl) (fun _ => rfl) ?_
  refine j_topE (e' := nI (q + 1)) (by rw [vu_s, ud_s]) ?_
  refine j_ireturn dX4_feedLetter_36 rfl ?_
  exact ⟨rfl, rfl⟩

set_option maxHeartbeats 200000 in
set_option maxRecDepth 100000 in
theorem c_X6_feedLetter_full {c : Int32} (h : X 16 1 = nI 120) : jMet (d + 1) yX6_feedLetter cX6_feedLetter 2 (some .int) 0 0 [.ref 15, .int c] (tw X A L) (jRi (-3) (tw X A L)) := by
  refine jMet_of (by decide) (Nat.le_of_ble_eq_true rfl) none (Or.inl rfl) ?_
  show jWP none RX6 cX6_feedLetter 2 (some .int) (d + 1) 0 0 0 [some (.ref 15), some (.int c)] [] (tw X A L) (jRi (-3) (tw X A L))
  refine j_aload_n dX6_feedLetter_0 rfl rfl ?_
  refine t_getR (b := 16) dX6_feedLetter_1 jfl_X6_12 (fun _ _ _ => rfl) rfl ?_
  refine j_iload_n dX6_feedLetter_4 rfl rfl ?_
  refine j_callVi [.int _] [] dX6_feedLetter_5 jlk_X6_40 rfl rfl rfl rfl (Nat.le_of_ble_eq_true rfl) (c_X4_feedLetter_full h) ?_
  refine j_ireturn dX6_feedLetter_8 rfl ?_
  exact ⟨rfl, rfl⟩

set_option maxHeartbeats 200000 in
set_option maxRecDepth 100000 in
theorem c_X6_feedLetter {c q : Nat} (h : X 16 1 = nI q) (hq : q < 120) : jMet (d + 1) yX6_feedLetter cX6_feedLetter 2 (some .int) 0 0 [.ref 15, .int (nI c)] (tw X A L) (jRi (nI (q + 1)) (tw (va_up X 16 (upd (X 16) 1 (nI (q + 1)))) (va_up A 17 (upd (A 17) q (nI c))) L)) := by
  refine jMet_of (by decide) (Nat.le_of_ble_eq_true rfl) none (Or.inl rfl) ?_
  show jWP none RX6 cX6_feedLetter 2 (some .int) (d + 1) 0 0 0 [some (.ref 15), some (.int (nI c))] [] (tw X A L) (jRi (nI (q + 1)) (tw (va_up X 16 (upd (X 16) 1 (nI (q + 1)))) (va_up A 17 (upd (A 17) q (nI c))) L))
  refine j_aload_n dX6_feedLetter_0 rfl rfl ?_
  refine t_getR (b := 16) dX6_feedLetter_1 jfl_X6_12 (fun _ _ _ => rfl) rfl ?_
  refine j_iload_n dX6_feedLetter_4 rfl rfl ?_
  refine j_callVi [.int _] [] dX6_feedLetter_5 jlk_X6_40 rfl rfl rfl rfl (Nat.le_of_ble_eq_true rfl) (c_X4_feedLetter h hq) ?_
  refine j_ireturn dX6_feedLetter_8 rfl ?_
  exact ⟨rfl, rfl⟩

set_option maxHeartbeats 200000 in
set_option maxRecDepth 100000 in
theorem c_feed_full {c : Nat} (hc : c ≤ 255) (h : X 16 1 = nI 120) : jMet (d + 2) yX10_feed cX10_feed 2 (some .int) 0 0 [.ref 4, .int (nI c)] (tw X A L) (jRi (-3) (tw X A L)) := by
  refine jMet_of (by decide) (Nat.le_of_ble_eq_true rfl) none (Or.inl rfl) ?_
  show jWP none RX10 cX10_feed 2 (some .int) (d + 2) 0 0 0 [some (.ref 4), some (.int (nI c))] [] (tw X A L) (jRi (-3) (tw X A L))
  refine j_iload_n dX10_feed_0 rfl rfl ?_
  refine jn_if_lt (tgt := 11) dX10_feed_1 (by decide) (by omega) ?_
  refine j_iload_n dX10_feed_4 rfl rfl ?_
  refine j_sipush (v := nI 255) dX10_feed_5 rfl ?_
  refine jn_icmp_le (tgt := 15) dX10_feed_8 (by decide) (by omega) (by omega) (fun h8 => ?_) (fun h8 => absurd h8 (by omega))
  refine j_aload_n dX10_feed_15 rfl rfl ?_
  refine t_getR (b := 15) dX10_feed_16 jfl_X10_28 (fun _ _ _ => rfl) rfl ?_
  refine j_iload_n dX10_feed_19 rfl rfl ?_
  refine j_callVi [.int _] [] dX10_feed_20 jlk_X10_158 rfl rfl rfl rfl (Nat.le_of_ble_eq_true rfl) (c_X6_feedLetter_full h) ?_
  refine j_ireturn dX10_feed_23 rfl ?_
  exact ⟨rfl, rfl⟩

set_option maxHeartbeats 200000 in
set_option maxRecDepth 100000 in
theorem c_feed {c q : Nat} (hc : c ≤ 255) (h : X 16 1 = nI q) (hq : q < 120) : jMet (d + 2) yX10_feed cX10_feed 2 (some .int) 0 0 [.ref 4, .int (nI c)] (tw X A L) (jRi (nI (q + 1)) (tw (va_up X 16 (upd (X 16) 1 (nI (q + 1)))) (va_up A 17 (upd (A 17) q (nI c))) L)) := by
  refine jMet_of (by decide) (Nat.le_of_ble_eq_true rfl) none (Or.inl rfl) ?_
  show jWP none RX10 cX10_feed 2 (some .int) (d + 2) 0 0 0 [some (.ref 4), some (.int (nI c))] [] (tw X A L) (jRi (nI (q + 1)) (tw (va_up X 16 (upd (X 16) 1 (nI (q + 1)))) (va_up A 17 (upd (A 17) q (nI c))) L))
  refine j_iload_n dX10_feed_0 rfl rfl ?_
  refine jn_if_lt (tgt := 11) dX10_feed_1 (by decide) (by omega) ?_
  refine j_iload_n dX10_feed_4 rfl rfl ?_
  refine j_sipush (v := nI 255) dX10_feed_5 rfl ?_
  refine jn_icmp_le (tgt := 15) dX10_feed_8 (by decide) (by omega) (by omega) (fun h8 => ?_) (fun h8 => absurd h8 (by omega))
  refine j_aload_n dX10_feed_15 rfl rfl ?_
  refine t_getR (b := 15) dX10_feed_16 jfl_X10_28 (fun _ _ _ => rfl) rfl ?_
  refine j_iload_n dX10_feed_19 rfl rfl ?_
  refine j_callVi [.int _] [] dX10_feed_20 jlk_X10_158 rfl rfl rfl rfl (Nat.le_of_ble_eq_true rfl) (c_X6_feedLetter h hq) ?_
  refine j_ireturn dX10_feed_23 rfl ?_
  exact ⟨rfl, rfl⟩

end CT32