/-! sales told one after another; Rk ranks a cell for an account and a sum where the owners are O -/
def RkC (cd vl st an en : Nat → Nat) (n : Nat) (v : Nat → Nat) (O : Nat → Int32) (a s : Int32) (c : Nat) : Int32 := rkC cd vl st an en n (v a.toNatClampNeg) O a s c
theorem RkC_at {cd vl st an en : Nat → Nat} {n : Nat} {v : Nat → Nat} {O : Nat → Int32} {j : Nat} (hj : j < 6) {s : Int32} : RkC cd vl st an en n v O (nI j) s = rkC cd vl st an en n (v j) O (nI j) s := by
  funext c
  unfold RkC
  rw [nI_clamp (by omega)]
def seP (Rk : (Nat → Int32) → Int32 → Int32 → Nat → Int32) (c : cS) (a s : Int32) : Option (Nat × Int32) := plS (heldB c.1) (Rk c.1 a s) 49
def seS (Rk : (Nat → Int32) → Int32 → Int32 → Nat → Int32) (c : cS) (a s : Int32) : cS := (wrO (seP Rk c a s) c.1 a, wrO (seP Rk c a s) c.2 s)
def ruS (Rk : (Nat → Int32) → Int32 → Int32 → Nat → Int32) (a s : Nat → Int32) (c : cS) : Nat → cS × Bool
  | 0 => (c, true)
  | i + 1 => if (ruS Rk a s c i).2 = true then (seS Rk (ruS Rk a s c i).1 (a i) (s i), (seP Rk (ruS Rk a s c i).1 (a i) (s i)).isSome) else ruS Rk a s c i
def wnS (Rk : (Nat → Int32) → Int32 → Int32 → Nat → Int32) (a s : Nat → Int32) (c : cS) : Nat → Nat
  | 0 => 0
  | i + 1 => if (ruS Rk a s c (i + 1)).2 = true then wnS Rk a s c i + 1 else wnS Rk a s c i
def clS (Rk : (Nat → Int32) → Int32 → Int32 → Nat → Int32) (a s : Nat → Int32) (c : cS) (k : Nat) : Int32 := plP (seP Rk (ruS Rk a s c k).1 (a k) (s k))
def saC (p : Nat → Bool) : Nat → Nat → Nat
  | 0, i => i
  | m + 1, i => if p i = true then saC p m (i + 1) else i
section RU
variable {Rk : (Nat → Int32) → Int32 → Int32 → Nat → Int32} {a s : Nat → Int32} {c : cS}
theorem ru_t {i : Nat} (h : (ruS Rk a s c i).2 = true) : ruS Rk a s c (i + 1) = (seS Rk (ruS Rk a s c i).1 (a i) (s i), (seP Rk (ruS Rk a s c i).1 (a i) (s i)).isSome) := if_pos h
theorem ru_f {i : Nat} (h : (ruS Rk a s c i).2 = false) : ruS Rk a s c (i + 1) = ruS Rk a s c i := if_neg (by rw [h]; decide)
theorem ru_dead {i : Nat} (h : (ruS Rk a s c i).2 = false) : ∀ k, ruS Rk a s c (i + k) = ruS Rk a s c i ∧ wnS Rk a s c (i + k) = wnS Rk a s c i
  | 0 => ⟨rfl, rfl⟩
  | k + 1 => by
    obtain ⟨h1, h2⟩ := ru_dead h k
    have e : ruS Rk a s c (i + k + 1) = ruS Rk a s c i := by rw [ru_f (by rw [h1]; exact h), h1]
    refine ⟨e, ?_⟩
    show (if (ruS Rk a s c (i + k + 1)).2 = true then wnS Rk a s c (i + k) + 1 else wnS Rk a s c (i + k)) = _
    rw [e, if_neg (by rw [h]; decide), h2]
theorem ru_dead' {i N : Nat} (h : (ruS Rk a s c i).2 = false) (hN : i ≤ N) : ruS Rk a s c N = ruS Rk a s c i ∧ wnS Rk a s c N = wnS Rk a s c i := by
  have := ru_dead h (N - i)
  rw [show i + (N - i) = N by omega] at this
  exact this
theorem ru_pre {i : Nat} (h : (ruS Rk a s c (i + 1)).2 = true) : (ruS Rk a s c i).2 = true := by
  cases e : (ruS Rk a s c i).2 with
  | true => rfl
  | false => rw [ru_f e, e] at h; cases h
theorem wn_t : ∀ {i : Nat}, (ruS Rk a s c i).2 = true → wnS Rk a s c i = i
  | 0, _ => rfl
  | i + 1, h => by
    show (if (ruS Rk a s c (i + 1)).2 = true then _ else _) = _
    rw [if_pos h, wn_t (ru_pre h)]
theorem wn_fail {i N : Nat} (h : (ruS Rk a s c i).2 = true) (hp : seP Rk (ruS Rk a s c i).1 (a i) (s i) = none) (hN : i < N) : (ruS Rk a s c N).1 = (ruS Rk a s c i).1 ∧ (ruS Rk a s c N).2 = false ∧ wnS Rk a s c N = i := by
  have e : ruS Rk a s c (i + 1) = ((ruS Rk a s c i).1, false) := by rw [ru_t h]; unfold seS; rw [hp]; rfl
  have hd := ru_dead' (i := i + 1) (N := N) (by rw [e]) hN
  rw [hd.1, hd.2, e]
  refine ⟨rfl, rfl, ?_⟩
  show (if (ruS Rk a s c (i + 1)).2 = true then _ else _) = _
  rw [e, if_neg (by simp), wn_t h]
theorem seP_lt {q : Nat × Int32} {x y : Int32} (h : seP Rk c x y = some q) : q.1 < 49 := (plS_lt h).1
theorem seS_z {x y : Int32} (h : zb 49 c.1 ∧ zb 49 c.2) : zb 49 (seS Rk c x y).1 ∧ zb 49 (seS Rk c x y).2 := by
  unfold seS wrO
  cases e : seP Rk c x y with
  | none => exact h
  | some q => exact ⟨zb_upd h.1 (seP_lt e), zb_upd h.2 (seP_lt e)⟩
theorem ruS_z (h : zb 49 c.1 ∧ zb 49 c.2) : ∀ i, zb 49 (ruS Rk a s c i).1.1 ∧ zb 49 (ruS Rk a s c i).1.2
  | 0 => h
  | i + 1 => by
    cases e : (ruS Rk a s c i).2 with
    | true => rw [ru_t e]; exact seS_z (ruS_z h i)
    | false => rw [ru_f e]; exact ruS_z h i
theorem ru_none {i : Nat} (hp : seP Rk (ruS Rk a s c i).1 (a i) (s i) = none) : seS Rk (ruS Rk a s c i).1 (a i) (s i) = (ruS Rk a s c i).1 := by unfold seS; rw [hp]; rfl
end RU
theorem saC_ge {p : Nat → Bool} : ∀ m i, i ≤ saC p m i
  | 0, i => Nat.le_refl _
  | m + 1, i => by
    unfold saC
    split
    · exact Nat.le_trans (Nat.le_succ i) (saC_ge m (i + 1))
    · exact Nat.le_refl _
theorem saC_t {p : Nat → Bool} {m i : Nat} (h : p i = true) : saC p (m + 1) i = saC p m (i + 1) := if_pos h
theorem saC_f {p : Nat → Bool} {m i : Nat} (h : p i = false) : saC p (m + 1) i = i := if_neg (by rw [h]; decide)
theorem saC_le {p : Nat → Bool} : ∀ m i, saC p m i ≤ i + m
  | 0, i => Nat.le_refl _
  | m + 1, i => by
    unfold saC
    split
    · have := saC_le (p := p) m (i + 1); omega
    · omega
theorem saC_all {p : Nat → Bool} : ∀ {m i k : Nat}, i ≤ k → k < saC p m i → p k = true
  | 0, i, k, h1, h2 => by unfold saC at h2; omega
  | m + 1, i, k, h1, h2 => by
    unfold saC at h2
    by_cases h : p i = true
    · rw [if_pos h] at h2
      by_cases e : i = k
      · subst e; exact h
      · exact saC_all (by omega) h2
    · rw [if_neg h] at h2; omega
/-- a row of bytes told by twos -/
def slA (na : Nat) (a s : Int32) : Bool := decide (isA na a ≠ 0) && decide (is16 s ≠ 0)
def saB (na ln : Nat) (E : Nat → Int32) (i : Nat) : Bool := decide (2 * i + 1 < ln) && slA na (E (2 * i)) (E (2 * i + 1))
def rE (L : Nat → Nat → Int64) (S : Nat) : Nat → Int32 := fun i => (L (S + 1) i).toInt32
theorem slA_acc {na : Nat} {a s : Int32} (hn : na ≤ 6) (h : slA na a s = true) : ∃ j, j < na ∧ a = nI j := by
  unfold slA at h
  simp only [Bool.and_eq_true, decide_eq_true_eq] at h
  rcases isA_cases (n := na) (by omega) a with q | q
  · exact absurd q h.1
  · exact q
theorem saB_1 {na ln : Nat} {E : Nat → Int32} {i : Nat} (h : saB na ln E i = true) : 2 * i + 1 < ln ∧ slA na (E (2 * i)) (E (2 * i + 1)) = true := by
  unfold saB at h
  simpa using h
def ev (E : Nat → Int32) : Nat → Int32 := fun i => E (2 * i)
def od (E : Nat → Int32) : Nat → Int32 := fun i => E (2 * i + 1)
theorem cX_vu (X : Nat → Nat → Int32) {K c : Nat} (O : Nat → Int32) (u : Nat → Int32) (h : c ≠ K) : va_up (cX X K O) c u = cX (va_up X c u) K O := by
  unfold cX
  rw [vu_comm _ _ _ (Ne.symm h), vu_n _ _ _ (Ne.symm h)]
theorem cA_vu (A : Nat → Nat → Int32) {K c : Nat} (O S u : Nat → Int32) (h1 : c ≠ K + 1) (h2 : c ≠ K + 2) (h3 : c ≠ K + 3) : va_up (cA A K O S) c u = cA (va_up A c u) K O S := by
  unfold cA
  rw [vu_comm _ _ _ (Ne.symm h3), vu_comm _ _ _ (Ne.symm h2), vu_comm _ _ _ (Ne.symm h1)]
theorem scr_vu (A : Nat → Nat → Int32) {B c : Nat} (f g u : Nat → Int32) (h1 : c ≠ B + 6) (h2 : c ≠ B + 7) : va_up (scr A B f g) c u = scr (va_up A c u) B f g := by
  unfold scr
  rw [vu_comm _ _ _ (Ne.symm h2), vu_comm _ _ _ (Ne.symm h1)]
theorem scA {A : Nat → Nat → Int32} {B K : Nat} (hB : isB B) (hK : isK K) {O S f g O' S' f' g' : Nat → Int32} : scr (cA (scr (cA A K O S) B f g) K O' S') B f' g' = scr (cA A K O' S') B f' g' := by
  rw [scr_cA hB hK, scr_scr, cA_cA]
section CT14
variable {d : Nat} {X A : Nat → Nat → Int32} {L : Nat → Nat → Int64} {w : jW} {B : Nat} {cd vl st an en : Nat → Nat} {n na : Nat} {v : Nat → Nat}

set_option maxHeartbeats 4000000 in
set_option maxRecDepth 100000 in
theorem c_write (hr : rul B cd vl st an en n na v X A) {K : Nat} (hK : isK K) {O S : Nat → Int32} (h1 : zb 49 O) (h2 : zb 49 S) {f g : Nat → Int32} {j : Nat} (hj : j < na) {s : Int32} : jMet (d + 4) yX6_write cX6_write 5 (some .int) 0 0 [.ref 15, .ref K, .int (nI j), .int s] (tw (cX X K O) (scr (cA A K O S) B f g) L) ((fun z w => z = some (.int (plP (seP (RkC cd vl st an en n v) (O, S) (nI j) s))) ∧ ∃ f g, w = tw (cX X K (seS (RkC cd vl st an en n v) (O, S) (nI j) s).1) (scr (cA A K (seS (RkC cd vl st an en n v) (O, S) (nI j) s).1 (seS (RkC cd vl st an en n v) (O, S) (nI j) s).2) B f g) L)) := by
  refine jMet_of (by decide) (Nat.le_of_ble_eq_true rfl) none (Or.inl rfl) ?_
  show jWP none RX6 cX6_write 5 (some .int) (d + 4) 0 0 0 [some (.ref 15), some (.ref K), some (.int (nI j)), some (.int s), none] [] (tw (cX X K O) (scr (cA A K O S) B f g) L) ((fun z w => z = some (.int (plP (seP (RkC cd vl st an en n v) (O, S) (nI j) s))) ∧ ∃ f g, w = tw (cX X K (seS (RkC cd vl st an en n v) (O, S) (nI j) s).1) (scr (cA A K (seS (RkC cd vl st an en n v) (O, S) (nI j) s).1 (seS (RkC cd vl st an en n v) (O, S) (nI j) s).2) B f g) L))
  have hB := hr.1
  have hna := hr.2.2.2.2.2.2.2.2.2.2.1
  have k1 := isK_35 hK
  have hck := cok_c (X := X) (A := A) (K := K) h1 h2
  have e1 : (scr (cA A K O S) B f g) (K + 1) = O := by rw [scr_k hB (by omega), cA_1]
  have hcs := cok_scr hB hK (f := f) (g := g) hck
  have hse : plS (heldB O) (rkC cd vl st an en n (v j) O (nI j) s) 49 = (seP (RkC cd vl st an en n v) (O, S) (nI j) s) := by unfold seP; rw [RkC_at (by omega)]
  unfold seS
  generalize (seP (RkC cd vl st an en n v) (O, S) (nI j) s) = p at *
  refine j_aload_n dX6_write_0 rfl rfl ?_
  refine j_aload_n dX6_write_1 rfl rfl ?_
  refine j_iload_n dX6_write_2 rfl rfl ?_
  refine j_iload_n dX6_write_3 rfl rfl ?_
  refine j_callV [.ref K, .int _, .int _] [] dX6_write_4 jlk_X6_85 rfl rfl rfl rfl (Nat.le_of_ble_eq_true rfl) (c_X6_placeFor (rul_k hr hK) hK hcs hj) (fun r9 w9 h9 => ?_)
  obtain ⟨rfl, f9, g9, rfl⟩ := h9
  rw [e1, hse, scr_scr]
  refine j_ats (st' := [.int _]) rfl ?_
  refine j_istore (lv' := [some (.ref 15), some (.ref K), some (.int _), some (.int _), some (.int _)]) dX6_write_7 (by decide) rfl ?_
  refine j_iload dX6_write_9 rfl ?_
  refine j_if_lt (tgt := 22) dX6_write_11 (by decide) (fun h11 => ?_) (fun h11 => ?_)
  · obtain rfl : p = none := by
      cases p with
      | none => rfl
      | some q => exact absurd h11 (nI_pos (Nat.lt_trans (plS_lt hse).1 (by decide)))
    refine j_iload dX6_write_22 rfl ?_
    refine j_ireturn dX6_write_24 rfl ?_
    exact ⟨rfl, f9, g9, rfl⟩
  · rcases p with _ | q
    · exact absurd (by decide) h11
    have hq := plS_lt hse
    refine j_at (lv' := [some (.ref 15), some (.ref K), some (.int (nI j)), some (.int s), some (.int (nI q.1))]) rfl ?_
    refine j_aload_n dX6_write_14 rfl rfl ?_
    refine j_iload dX6_write_15 rfl ?_
    refine j_iload_n dX6_write_17 rfl rfl ?_
    refine j_iload_n dX6_write_18 rfl rfl ?_
    refine j_callVv [.int _, .int _, .int _] [] dX6_write_19 jlk_X6_89 rfl rfl ((shK0 hK) _ _ _) rfl (Nat.le_of_ble_eq_true rfl) (c_X0_fill hK (cok_scr hB hK hck) hq.1 (by rw [scr_k hB (by omega), cA_1]; exact hq.2) (nI_nm1 (by omega))) ?_
    rw [scr_k hB (by omega), scr_k hB (by omega), cA_1, cA_2, cX_cX, scr_cA hB hK, cA_cA]
    refine j_iload dX6_write_22 rfl ?_
    refine j_ireturn dX6_write_24 rfl ?_
    exact ⟨rfl, f9, g9, rfl⟩

set_option maxHeartbeats 4000000 in
set_option maxRecDepth 100000 in
theorem c_X6_isSale (hr : rul B cd vl st an en n na v X A) {a s : Int32} : jMet (d + 1) yX6_isSale cX6_isSale 3 (some .boolean) 0 0 [.ref 15, .int a, .int s] (tw X A L) (jRi (bz (slA na a s)) (tw X A L)) := by
  refine jMet_of (by decide) (Nat.le_of_ble_eq_true rfl) none (Or.inl rfl) ?_
  show jWP none RX6 cX6_isSale 3 (some .boolean) (d + 1) 0 0 0 [some (.ref 15), some (.int a), some (.int s)] [] (tw X A L) (jRi (bz (slA na a s)) (tw X A L))
  obtain ⟨hB, r2, r3, r4, r5, r6, r7, r8, r9, r10, r11, r12, r13⟩ := id hr
  refine j_aload_n dX6_isSale_0 rfl rfl ?_
  refine t_getR (b := 10) dX6_isSale_1 jfl_X6_32 (fun _ _ _ => rfl) rfl ?_
  refine j_iload_n dX6_isSale_4 rfl rfl ?_
  refine j_callVi [.int _] [] dX6_isSale_5 jlk_X6_93 rfl rfl rfl rfl (Nat.le_of_ble_eq_true rfl) (c_X7_isAccount r10 r11) ?_
  refine j_if_eq (tgt := 22) dX6_isSale_8 (by decide) (fun h8 => ?_) (fun h8 => ?_)
  · refine j_iconst (v := nI 0) dX6_isSale_22 rfl ?_
    refine j_zreturn dX6_isSale_23 rfl (by decide) ?_
    exact ⟨by simp [slA, bz, h8], rfl⟩
  · refine j_iload_n dX6_isSale_11 rfl rfl ?_
    refine j_callNi [.int _] [] dX6_isSale_12 jlk_X6_96 rfl rfl (Nat.le_of_ble_eq_true rfl) (c_X10_isSum) ?_
    refine j_if_eq (tgt := 22) dX6_isSale_15 (by decide) (fun h15 => ?_) (fun h15 => ?_)
    · refine j_iconst (v := nI 0) dX6_isSale_22 rfl ?_
      refine j_zreturn dX6_isSale_23 rfl (by decide) ?_
      exact ⟨by simp [slA, bz, h8, h15], rfl⟩
    · refine j_iconst (v := nI 1) dX6_isSale_18 rfl ?_
      refine j_goto (tgt := 23) dX6_isSale_19 (by decide) ?_
      refine j_zreturn dX6_isSale_23 rfl (by decide) ?_
      exact ⟨by simp [slA, bz, h8, h15], rfl⟩

set_option maxHeartbeats 4000000 in
set_option maxRecDepth 100000 in
theorem c_X9_isSaleAt (hr : rul B cd vl st an en n na v X A) {S ln : Nat} (hS : isSh S) (hh : X S 0 = nI 2) (hln : X S 3 = nI ln) (l60 : ln ≤ 60) {i : Nat} (hi : i < 30) : jMet (d + 3) yX9_isSaleAt cX9_isSaleAt 3 (some .boolean) 0 0 [.ref 35, .ref S, .int (nI i)] (tw X A L) (jRi (bz (saB na ln (rE L S) i)) (tw X A L)) := by
  refine jMet_of (by decide) (Nat.le_of_ble_eq_true rfl) none (Or.inl rfl) ?_
  show jWP none RX9 cX9_isSaleAt 3 (some .boolean) (d + 3) 0 0 0 [some (.ref 35), some (.ref S), some (.int (nI i))] [] (tw X A L) (jRi (bz (saB na ln (rE L S) i)) (tw X A L))
  refine j_aload_n dX9_isSaleAt_0 rfl rfl ?_
  refine j_iconst (v := nI 2) dX9_isSaleAt_1 rfl ?_
  refine j_iload_n dX9_isSaleAt_2 rfl rfl ?_
  refine jn_imul dX9_isSaleAt_3 ?_
  refine j_iconst (v := nI 1) dX9_isSaleAt_4 rfl ?_
  refine jn_iadd dX9_isSaleAt_5 ?_
  refine j_callVi [.int _] [] dX9_isSaleAt_6 jlk_X9_64 rfl rfl ((shS0 hS) _ _ _) rfl (Nat.le_of_ble_eq_true rfl) (c_X8_hasPlace hS hh (by decide) hln l60) ?_
  refine j_if_eq (tgt := 42) dX9_isSaleAt_9 (by decide) (fun h9 => ?_) (fun h9 => ?_)
  · have h9b : ¬ 2 * i + 1 < ln := fun q => by rw [hpI_in q l60] at h9; exact absurd h9 (by decide)
    refine j_iconst (v := nI 0) dX9_isSaleAt_42 rfl ?_
    refine j_zreturn dX9_isSaleAt_43 rfl (by decide) ?_
    exact ⟨by simp [saB, h9b, bz], rfl⟩
  · have h9b : 2 * i + 1 < ln := Nat.lt_of_not_le fun q => h9 (hpI_ge q (by omega))
    refine j_aload_n dX9_isSaleAt_12 rfl rfl ?_
    refine t_getR (b := 15) dX9_isSaleAt_13 jfl_X9_33 (fun _ _ _ => rfl) rfl ?_
    refine j_aload_n dX9_isSaleAt_16 rfl rfl ?_
    refine j_iconst (v := nI 2) dX9_isSaleAt_17 rfl ?_
    refine j_iload_n dX9_isSaleAt_18 rfl rfl ?_
    refine jn_imul dX9_isSaleAt_19 ?_
    refine j_callVi [.int _] [.ref 15] dX9_isSaleAt_20 jlk_X9_54 rfl rfl ((shS0 hS) _ _ _) rfl (Nat.le_of_ble_eq_true rfl) (c_X8_byteAt hS hh hln l60 (by omega)) ?_
    refine j_aload_n dX9_isSaleAt_23 rfl rfl ?_
    refine j_iconst (v := nI 2) dX9_isSaleAt_24 rfl ?_
    refine j_iload_n dX9_isSaleAt_25 rfl rfl ?_
    refine jn_imul dX9_isSaleAt_26 ?_
    refine j_iconst (v := nI 1) dX9_isSaleAt_27 rfl ?_
    refine jn_iadd dX9_isSaleAt_28 ?_
    refine j_callVi [.int _] [.int _, .ref 15] dX9_isSaleAt_29 jlk_X9_54 rfl rfl ((shS0 hS) _ _ _) rfl (Nat.le_of_ble_eq_true rfl) (c_X8_byteAt hS hh hln l60 (by omega)) ?_
    refine j_callVi [.int _, .int _] [] dX9_isSaleAt_32 jlk_X9_68 rfl rfl rfl rfl (Nat.le_of_ble_eq_true rfl) (c_X6_isSale hr) ?_
    refine j_if_eq (tgt := 42) dX9_isSaleAt_35 (by decide) (fun h35 => ?_) (fun h35 => ?_)
    · refine j_iconst (v := nI 0) dX9_isSaleAt_42 rfl ?_
      refine j_zreturn dX9_isSaleAt_43 rfl (by decide) ?_
      exact ⟨by have h35 := bz_f h35; unfold saB; show _ = some (Value.int (bz (_ && slA na (rE L S (2 * i)) (rE L S (2 * i + 1))))); unfold rE; rw [h35, Bool.and_false]; rfl, rfl⟩
    · refine j_iconst (v := nI 1) dX9_isSaleAt_38 rfl ?_
      refine j_goto (tgt := 43) dX9_isSaleAt_39 (by decide) ?_
      refine j_zreturn dX9_isSaleAt_43 rfl (by decide) ?_
      exact ⟨by have h35 := bz_t h35; unfold saB; rw [decide_eq_true h9b]; show _ = some (Value.int (bz (_ && slA na (rE L S (2 * i)) (rE L S (2 * i + 1))))); unfold rE; rw [h35]; rfl, rfl⟩

set_option maxHeartbeats 4000000 in
set_option maxRecDepth 100000 in
theorem l_X9_salesIn (hr : rul B cd vl st an en n na v X A) {S ln : Nat} (hS : isSh S) (hh : X S 0 = nI 2) (hln : X S 3 = nI ln) (l60 : ln ≤ 60) {N : Nat} : ∀ (m i : Nat), i + m = 30 → saC (saB na ln (rE L S)) m i = N → jWP none RX9 cX9_salesIn 3 (some .int) (d + 4) 0 0 2 [some (.ref 35), some (.ref S), some (.int (nI i))] [] (tw X A L) (jRi (nI N) (tw X A L)) := by
  intro m
  induction m with
  | zero =>
    intro i hi hN
    refine j_iload_n dX9_salesIn_2 rfl rfl ?_
    refine j_bipush (v := nI 30) dX9_salesIn_3 rfl ?_
    refine jn_icmp_ge (tgt := 23) dX9_salesIn_5 (by decide) (by omega) (by omega) (fun h5 => ?_) (fun h5 => absurd h5 (by omega))
    refine j_iload_n dX9_salesIn_23 rfl rfl ?_
    refine j_ireturn dX9_salesIn_24 rfl ?_
    obtain rfl : N = i := hN.symm
    exact ⟨rfl, rfl⟩
  | succ m ih =>
    intro i hi hN
    refine j_iload_n dX9_salesIn_2 rfl rfl ?_
    refine j_bipush (v := nI 30) dX9_salesIn_3 rfl ?_
    refine jn_icmp_ge (tgt := 23) dX9_salesIn_5 (by decide) (by omega) (by omega) (fun h5 => absurd h5 (by omega)) (fun h5 => ?_)
    refine j_aload_n dX9_salesIn_8 rfl rfl ?_
    refine j_aload_n dX9_salesIn_9 rfl rfl ?_
    refine j_iload_n dX9_salesIn_10 rfl rfl ?_
    refine j_callVi [.ref S, .int _] [] dX9_salesIn_11 jlk_X9_50 rfl rfl rfl rfl (Nat.le_of_ble_eq_true rfl) (c_X9_isSaleAt hr hS hh hln l60 (by omega)) ?_
    refine j_if_eq (tgt := 23) dX9_salesIn_14 (by decide) (fun h14 => ?_) (fun h14 => ?_)
    · have h14 := bz_f h14
      refine j_iload_n dX9_salesIn_23 rfl rfl ?_
      refine j_ireturn dX9_salesIn_24 rfl ?_
      obtain rfl : N = i := by rw [← hN]; exact saC_f h14
      exact ⟨rfl, rfl⟩
    · have h14 := bz_t h14
      refine jn_iinc (lv' := [some (.ref 35), some (.ref S), some (.int _)]) dX9_salesIn_17 rfl (by decide) rfl ?_
      refine j_goto (tgt := 2) dX9_salesIn_20 (by decide) ?_
      refine ih (i + 1) (by omega) ?_
      rw [← hN]
      exact (saC_t h14).symm

set_option maxHeartbeats 4000000 in
set_option maxRecDepth 100000 in
theorem c_X9_salesIn (hr : rul B cd vl st an en n na v X A) {S ln : Nat} (hS : isSh S) (hh : X S 0 = nI 2) (hln : X S 3 = nI ln) (l60 : ln ≤ 60) : jMet (d + 4) yX9_salesIn cX9_salesIn 3 (some .int) 0 0 [.ref 35, .ref S] (tw X A L) (jRi (nI (saC (saB na ln (rE L S)) 30 0)) (tw X A L)) := by
  refine jMet_of (by decide) (Nat.le_of_ble_eq_true rfl) none (Or.inl rfl) ?_
  show jWP none RX9 cX9_salesIn 3 (some .int) (d + 4) 0 0 0 [some (.ref 35), some (.ref S), none] [] (tw X A L) (jRi (nI (saC (saB na ln (rE L S)) 30 0)) (tw X A L))
  refine j_iconst (v := nI 0) dX9_salesIn_0 rfl ?_
  refine j_istore_n (lv' := [some (.ref 35), some (.ref S), some (.int _)]) dX9_salesIn_1 rfl (by decide) rfl ?_
  exact l_X9_salesIn hr hS hh hln l60 30 0 (by omega) rfl

set_option maxHeartbeats 4000000 in
set_option maxRecDepth 100000 in
theorem c_X9_cellOf {t : Nat} (ht : X 35 3 = nI t) (t30 : t ≤ 30) {k : Nat} (hk : k < 2 ^ 31) : jMet (d) yX9_cellOf cX9_cellOf 2 (some .int) 0 0 [.ref 35, .int (nI k)] (tw X A L) (jRi (if k < t then A 36 k else (-2)) (tw X A L)) := by
  refine jMet_of (by decide) (Nat.le_of_ble_eq_true rfl) none (Or.inl rfl) ?_
  show jWP none RX9 cX9_cellOf 2 (some .int) (d) 0 0 0 [some (.ref 35), some (.int (nI k))] [] (tw X A L) (jRi (if k < t then A 36 k else (-2)) (tw X A L))
  refine j_iload_n dX9_cellOf_0 rfl rfl ?_
  refine jn_if_lt (tgt := 21) dX9_cellOf_1 (by decide) (by omega) ?_
  refine j_iload_n dX9_cellOf_4 rfl rfl ?_
  refine j_aload_n dX9_cellOf_5 rfl rfl ?_
  refine t_getI dX9_cellOf_6 jfl_X9_17 (fun _ _ _ => rfl) (fun _ => rfl) ?_
  refine j_topE (e' := nI t) ht ?_
  refine jn_icmp_ge (tgt := 21) dX9_cellOf_9 (by decide) (by omega) (by omega) (fun h9 => ?_) (fun h9 => ?_)
  · refine j_bipush (v := (-2)) dX9_cellOf_21 rfl ?_
    refine j_ireturn dX9_cellOf_23 rfl ?_
    exact ⟨by rw [if_neg (by omega)], rfl⟩
  · refine j_aload_n dX9_cellOf_12 rfl rfl ?_
    refine t_getR (b := 36) dX9_cellOf_13 jfl_X9_13 (fun _ _ _ => rfl) rfl ?_
    refine j_iload_n dX9_cellOf_16 rfl rfl ?_
    refine t_iaload dX9_cellOf_17 (fun _ _ _ => rfl) (by omega) (by decide) ?_
    refine j_goto (tgt := 23) dX9_cellOf_18 (by decide) ?_
    refine j_ireturn dX9_cellOf_23 rfl ?_
    exact ⟨by rw [if_pos h9], rfl⟩

set_option maxHeartbeats 4000000 in
set_option maxRecDepth 100000 in
theorem c_X9_placeOf {t : Nat} (ht : X 35 7 = nI t) (t5 : t ≤ 5) {k : Nat} (hk : k < 2 ^ 31) : jMet (d) yX9_placeOf cX9_placeOf 2 (some .int) 0 0 [.ref 35, .int (nI k)] (tw X A L) (jRi (if k < t then A 38 k else (-2)) (tw X A L)) := by
  refine jMet_of (by decide) (Nat.le_of_ble_eq_true rfl) none (Or.inl rfl) ?_
  show jWP none RX9 cX9_placeOf 2 (some .int) (d) 0 0 0 [some (.ref 35), some (.int (nI k))] [] (tw X A L) (jRi (if k < t then A 38 k else (-2)) (tw X A L))
  refine j_iload_n dX9_placeOf_0 rfl rfl ?_
  refine jn_if_lt (tgt := 21) dX9_placeOf_1 (by decide) (by omega) ?_
  refine j_iload_n dX9_placeOf_4 rfl rfl ?_
  refine j_aload_n dX9_placeOf_5 rfl rfl ?_
  refine t_getI dX9_placeOf_6 jfl_X9_30 (fun _ _ _ => rfl) (fun _ => rfl) ?_
  refine j_topE (e' := nI t) ht ?_
  refine jn_icmp_ge (tgt := 21) dX9_placeOf_9 (by decide) (by omega) (by omega) (fun h9 => ?_) (fun h9 => ?_)
  · refine j_bipush (v := (-2)) dX9_placeOf_21 rfl ?_
    refine j_ireturn dX9_placeOf_23 rfl ?_
    exact ⟨by rw [if_neg (by omega)], rfl⟩
  · refine j_aload_n dX9_placeOf_12 rfl rfl ?_
    refine t_getR (b := 38) dX9_placeOf_13 jfl_X9_24 (fun _ _ _ => rfl) rfl ?_
    refine j_iload_n dX9_placeOf_16 rfl rfl ?_
    refine t_iaload dX9_placeOf_17 (fun _ _ _ => rfl) (by omega) (by decide) ?_
    refine j_goto (tgt := 23) dX9_placeOf_18 (by decide) ?_
    refine j_ireturn dX9_placeOf_23 rfl ?_
    exact ⟨by rw [if_pos h9], rfl⟩

set_option maxHeartbeats 4000000 in
set_option maxRecDepth 100000 in
theorem c_X9_balanceThen {a : Int32} : jMet (d + 1) yX9_balanceThen cX9_balanceThen 2 (some .int) 0 0 [.ref 35, .int a] (tw X A L) (jRi (balS (A 40) (A 41) a 49) (tw X A L)) := by
  refine jMet_of (by decide) (Nat.le_of_ble_eq_true rfl) none (Or.inl rfl) ?_
  show jWP none RX9 cX9_balanceThen 2 (some .int) (d + 1) 0 0 0 [some (.ref 35), some (.int a)] [] (tw X A L) (jRi (balS (A 40) (A 41) a 49) (tw X A L))
  refine j_aload_n dX9_balanceThen_0 rfl rfl ?_
  refine t_getR (b := 39) dX9_balanceThen_1 jfl_X9_42 (fun _ _ _ => rfl) rfl ?_
  refine j_iload_n dX9_balanceThen_4 rfl rfl ?_
  refine j_callVi [.int _] [] dX9_balanceThen_5 jlk_X9_72 rfl rfl rfl rfl (Nat.le_of_ble_eq_true rfl) (c_X0_balanceOf (Or.inl rfl)) ?_
  refine j_ireturn dX9_balanceThen_8 rfl ?_
  exact ⟨rfl, rfl⟩

end CT14