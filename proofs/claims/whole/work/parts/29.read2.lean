def tkX (X : Nat → Nat → Int32) (O S b : Nat → Int32) (a : Int32) (bal : Int32) (i : Nat) : Nat → Nat → Int32 := va_up X 57 (upd (upd (upd (upd (X 57) 1 (nI i)) 3 (nI (2 ^ i))) 5 (nI (trS O b a i))) 4 (rsS O S b a bal i))
def tkA (A : Nat → Nat → Int32) (S b : Nat → Int32) (i : Nat) : Nat → Nat → Int32 := va_up (va_up A 59 (ssF (A 59) S b i)) 58 (csF (A 58) b i)
theorem tkX_n (X : Nat → Nat → Int32) (O S b : Nat → Int32) (a : Int32) (bal : Int32) (i : Nat) {c : Nat} (h : c ≠ 57) : tkX X O S b a bal i c = X c := by simp [tkX, va_up, h]
theorem tkX_1 (X : Nat → Nat → Int32) (O S b : Nat → Int32) (a : Int32) (bal : Int32) (i : Nat) : tkX X O S b a bal i 57 1 = nI i := by
  unfold tkX; rw [vu_s, pk_un (by decide), pk_un (by decide), pk_un (by decide), pk_us]
theorem tkX_3 (X : Nat → Nat → Int32) (O S b : Nat → Int32) (a : Int32) (bal : Int32) (i : Nat) : tkX X O S b a bal i 57 3 = nI (2 ^ i) := by
  unfold tkX; rw [vu_s, pk_un (by decide), pk_un (by decide), pk_us]
theorem tkX_5 (X : Nat → Nat → Int32) (O S b : Nat → Int32) (a : Int32) (bal : Int32) (i : Nat) : tkX X O S b a bal i 57 5 = nI (trS O b a i) := by
  unfold tkX; rw [vu_s, pk_un (by decide), pk_us]
theorem tkX_4 (X : Nat → Nat → Int32) (O S b : Nat → Int32) (a : Int32) (bal : Int32) (i : Nat) : tkX X O S b a bal i 57 4 = rsS O S b a bal i := by
  unfold tkX; rw [vu_s, pk_us]
theorem tkA_n (A : Nat → Nat → Int32) (S b : Nat → Int32) (i : Nat) {c : Nat} (h : c ≠ 58) (h2 : c ≠ 59) : tkA A S b i c = A c := by simp [tkA, va_up, h, h2]
theorem tkA_58 (A : Nat → Nat → Int32) (S b : Nat → Int32) (i : Nat) : tkA A S b i 58 = csF (A 58) b i := by simp [tkA, va_up]
theorem tkA_59 (A : Nat → Nat → Int32) (S b : Nat → Int32) (i : Nat) : tkA A S b i 59 = ssF (A 59) S b i := by simp [tkA, va_up]
theorem tkX_s (X : Nat → Nat → Int32) (O S b : Nat → Int32) (a : Int32) (bal : Int32) (i : Nat) : va_up (tkX X O S b a bal i) 57 (upd (upd (upd (upd (tkX X O S b a bal i 57) 4 (if O (cN b i) = a then rsS O S b a bal i - S (cN b i) else rsS O S b a bal i)) 5 (nI (if O (cN b i) = a then trS O b a i ||| 2 ^ i else trS O b a i))) 1 (nI (i + 1))) 3 (nI (2 ^ (i + 1)))) = tkX X O S b a bal (i + 1) := by
  unfold tkX
  rw [vu_up, vu_s]
  refine congrArg (va_up X 57) (funext fun c => ?_)
  by_cases q1 : c = 3
  · subst q1; simp [pk_us, pk_un]
  · by_cases q2 : c = 1
    · subst q2; simp [pk_us, pk_un]
    · by_cases q3 : c = 5
      · subst q3; simp [pk_us, pk_un, trS]
      · by_cases q4 : c = 4
        · subst q4; simp [pk_us, pk_un, rsS]
        · simp only [pk_un q1, pk_un q2, pk_un q3, pk_un q4]
theorem tkA_s (A : Nat → Nat → Int32) (S b : Nat → Int32) (i : Nat) (h : b i = nI (cN b i)) : va_up (va_up (tkA A S b i) 59 (ssI (ssF (A 59) S b i) (2 ^ i) (S (cN b i)) (2 ^ i))) 58 (upd (csF (A 58) b i) i (nI (cN b i))) = tkA A S b (i + 1) := by
  unfold tkA
  rw [← h]
  funext c
  by_cases q1 : c = 58
  · subst q1; simp [va_up, csF]
  · by_cases q2 : c = 59
    · subst q2; simp [va_up, ssF]
    · simp [va_up, q1, q2]
def fsF (p : Nat → Bool) : Nat → Nat → Option Nat
  | 0, _ => none
  | m + 1, i => if p i = true then some i else fsF p m (i + 1)
theorem fsF_t {p : Nat → Bool} {m i : Nat} (h : p i = true) : fsF p (m + 1) i = some i := if_pos h
theorem fsF_f {p : Nat → Bool} {m i : Nat} (h : p i = false) : fsF p (m + 1) i = fsF p m (i + 1) := if_neg (by rw [h]; decide)
def sureS (p : Nat → Bool) (st : Nat) : Nat → Nat
  | 0 => st
  | s + 1 => if p s = true then sureS p st s &&& s else sureS p st s
def anyB (p : Nat → Bool) : Nat → Bool
  | 0 => false
  | s + 1 => if p s = true then true else anyB p s
theorem sureS_le (p : Nat → Bool) (st : Nat) : ∀ s, sureS p st s ≤ st
  | 0 => Nat.le_refl _
  | s + 1 => by
    have := sureS_le p st s
    unfold sureS
    split
    · exact Nat.le_trans Nat.and_le_left this
    · exact this
def fwS (g : Nat → Bool) (st : Nat) : Nat → Nat
  | 0 => st
  | s + 1 => if pcN s < pcN (fwS g st s) then (if g s = true then s else fwS g st s) else fwS g st s
theorem fwS_le (g : Nat → Bool) (st : Nat) : ∀ s, s ≤ st + 1 → fwS g st s ≤ st
  | 0, _ => Nat.le_refl _
  | s + 1, h => by
    have := fwS_le g st s (by omega)
    unfold fwS
    split
    · split <;> omega
    · exact this
theorem cnt_z {p : Nat → Bool} {n : Nat} (h : cnt p n = 0) (hp : p n = false) : cnt p (n + 1) = 0 := by
  show (if p n = true then cnt p n + 1 else cnt p n) = 0
  rw [if_neg (by rw [hp]; decide)]
  exact h
def badB (p : Nat → Bool) (tr op s : Nat) : Bool := decide (s &&& op = tr &&& op) && (decide (s ≠ tr) && p s)
section CT9
variable {d : Nat} {X A : Nat → Nat → Int32} {L : Nat → Nat → Int64} {w : jW}

set_option maxHeartbeats 4000000 in
set_option maxRecDepth 100000 in
theorem l_X5_take {S ln : Nat} (hS : isSh S) (hh : X S 0 = nI 2) (hln : X S 3 = nI ln) (l60 : ln ≤ 60) {b : Nat → Int32} (hbr : ∀ j, j < ln → (L (S + 1) j).toInt32 = b j) {K : Nat} (hK : isK K) (hc : cok X A K) {a : Int32} : ∀ (m i : Nat), i ≤ min 10 ln → min 10 ln - i < m → gcF (A (K + 1)) b (min 10 ln - i) i = (gC (A (K + 1)) b ln) → jWP none RX5 cX5_take 5 none (d + 3) 0 0 34 [some (.ref 57), some (.ref S), some (.ref K), some (.int a), some (.int (nI i))] [] (tw (tkX X (A (K + 1)) (A (K + 2)) b a (balS (A (K + 1)) (A (K + 2)) a 49) i) (tkA A (A (K + 2)) b i) L) (jRv (tw (tkX X (A (K + 1)) (A (K + 2)) b a (balS (A (K + 1)) (A (K + 2)) a 49) (gC (A (K + 1)) b ln)) (tkA A (A (K + 2)) b (gC (A (K + 1)) b ln)) L)) := by
  have k1 : K + 1 ≠ 58 := by unfold isK at hK; omega
  have k2 : K + 1 ≠ 59 := by unfold isK at hK; omega
  have k3 : K + 2 ≠ 58 := by unfold isK at hK; omega
  have k4 : K + 2 ≠ 59 := by unfold isK at hK; omega
  have k5 : K + 3 ≠ 58 := by unfold isK at hK; omega
  have k6 : K + 3 ≠ 59 := by unfold isK at hK; omega
  have k7 : K ≠ 57 := by unfold isK at hK; omega
  have s1 : S ≠ 57 := by unfold isSh at hS; omega
  intro m
  induction m with
  | zero => intro i h1 h2; omega
  | succ m ih =>
    intro i hi hm hg
    have hh9 : (tkX X (A (K + 1)) (A (K + 2)) b a (balS (A (K + 1)) (A (K + 2)) a 49) i) S 0 = nI 2 := by rw [tkX_n _ _ _ _ _ _ _ s1]; exact hh
    have hln9 : (tkX X (A (K + 1)) (A (K + 2)) b a (balS (A (K + 1)) (A (K + 2)) a 49) i) S 3 = nI ln := by rw [tkX_n _ _ _ _ _ _ _ s1]; exact hln
    have hc1 := tkX_1 X (A (K + 1)) (A (K + 2)) b a (balS (A (K + 1)) (A (K + 2)) a 49) i
    have hc3 := tkX_3 X (A (K + 1)) (A (K + 2)) b a (balS (A (K + 1)) (A (K + 2)) a 49) i
    have hc5 := tkX_5 X (A (K + 1)) (A (K + 2)) b a (balS (A (K + 1)) (A (K + 2)) a 49) i
    have hlt := gcF_le (O := A (K + 1)) (b := b) (min 10 ln - i) i
    refine j_iload dX5_take_34 rfl ?_
    refine j_bipush (v := nI 10) dX5_take_36 rfl ?_
    refine jn_icmp_ge (tgt := 82) dX5_take_38 (by decide) (by omega) (by omega) (fun h38 => ?_) (fun h38 => ?_)
    · refine j_return dX5_take_82 rfl ?_
      have e : (gC (A (K + 1)) b ln) = i := by rw [← hg, show min 10 ln - i = 0 by omega]; rfl
      rw [e]
      exact ⟨rfl, rfl⟩
    · refine j_aload_n dX5_take_41 rfl rfl ?_
      refine j_iload dX5_take_42 rfl ?_
      refine j_callVi [.int _] [] dX5_take_44 jlk_X5_37 rfl rfl ((shS0 hS) _ _ _) rfl (Nat.le_of_ble_eq_true rfl) (c_X8_hasPlace hS hh9 (by decide) hln9 l60) ?_
      refine j_if_eq (tgt := 82) dX5_take_47 (by decide) (fun h47 => ?_) (fun h47 => ?_)
      · have hge : ln ≤ i := Nat.le_of_not_lt fun q => by rw [hpI_in q l60] at h47; exact absurd h47 (by decide)
        refine j_return dX5_take_82 rfl ?_
        have e : (gC (A (K + 1)) b ln) = i := by rw [← hg, show min 10 ln - i = 0 by omega]; rfl
        rw [e]
        exact ⟨rfl, rfl⟩
      · have hlt2 : i < ln := Nat.lt_of_not_le fun q => h47 (by rw [hpI_ge q (by omega)]; rfl)
        have hres : isc (b i) = nI 0 ∧ gok (A (K + 1)) b i = false ∨ ∃ j, j < 49 ∧ b i = nI j ∧ gok (A (K + 1)) b i = (heldB ((tkA A (A (K + 2)) b i) (K + 1)) j && !befB ((tkA A (A (K + 2)) b i) 58) (b i) i) := by
          rw [tkA_n _ _ _ _ k1 k2, tkA_58, befB_congr (f := csF (A 58) b i) (g := b) (fun q hq => csF_at hq)]
          rcases isc_cases (b i) with q | ⟨j, hj, hq⟩
          · exact Or.inl ⟨q, by unfold gok; rw [q]; rfl⟩
          · refine Or.inr ⟨j, hj, hq, ?_⟩
            unfold gok cN
            rw [hq, isc_in hj, nI_clamp (by omega)]
            rfl
        refine j_aload_n dX5_take_50 rfl rfl ?_
        refine j_aload_n dX5_take_51 rfl rfl ?_
        refine j_iload dX5_take_52 rfl ?_
        refine j_callVi [.int _] [.ref 57] dX5_take_54 jlk_X5_43 rfl rfl ((shS0 hS) _ _ _) rfl (Nat.le_of_ble_eq_true rfl) (c_X8_byteAt hS hh9 hln9 l60 (by omega)) ?_
        rw [hbr i (by omega)]
        refine j_aload_n dX5_take_57 rfl rfl ?_
        refine j_callVi [.int _, .ref K] [] dX5_take_58 jlk_X5_46 rfl rfl rfl rfl (Nat.le_of_ble_eq_true rfl) (c_X5_isUnread (n := i) (res := gok (A (K + 1)) b i) hc1 (by omega) hK hres) ?_
        refine j_if_eq (tgt := 82) dX5_take_61 (by decide) (fun h61 => ?_) (fun h61 => ?_)
        · have h61 := bz_f h61
          refine j_return dX5_take_82 rfl ?_
          have e : (gC (A (K + 1)) b ln) = i := by rw [← hg, show min 10 ln - i = (min 10 ln - i - 1) + 1 by omega]; unfold gcF; rw [h61]; rfl
          rw [e]
          exact ⟨rfl, rfl⟩
        · have h61 := bz_t h61
          have hgk := gok_cell h61
          refine j_aload_n dX5_take_64 rfl rfl ?_
          refine j_aload_n dX5_take_65 rfl rfl ?_
          refine j_iload dX5_take_66 rfl ?_
          refine j_callVi [.int _] [.ref 57] dX5_take_68 jlk_X5_43 rfl rfl ((shS0 hS) _ _ _) rfl (Nat.le_of_ble_eq_true rfl) (c_X8_byteAt hS hh9 hln9 l60 (by omega)) ?_
          refine j_topE (e' := nI (cN b i)) ((hbr i (by omega)).trans hgk.2.1) ?_
          refine j_aload_n dX5_take_71 rfl rfl ?_
          refine j_iload_n dX5_take_72 rfl rfl ?_
          refine j_callVv [.int _, .ref K, .int _] [] dX5_take_73 jlk_X5_50 rfl rfl rfl rfl (Nat.le_of_ble_eq_true rfl) (c_X5_addCell (n := i) (j := cN b i) hc1 (by omega) hc3 hc5 hK hgk.1) ?_
          refine jn_iinc (lv' := [some (.ref 57), some (.ref S), some (.ref K), some (.int _), some (.int _)]) dX5_take_76 rfl (by decide) rfl ?_
          refine j_goto (tgt := 34) dX5_take_79 (by decide) ?_
          have hg2 : gcF (A (K + 1)) b (min 10 ln - (i + 1)) (i + 1) = (gC (A (K + 1)) b ln) := by rw [← hg, show min 10 ln - i = (min 10 ln - (i + 1)) + 1 by omega]; exact (if_pos h61).symm
          refine j_atw ?_ (ih (i + 1) (by omega) (by omega) hg2)
          rw [tkA_n _ _ _ _ k1 k2, tkA_n _ _ _ _ k3 k4, tkX_4, tkA_59, tkA_58]
          exact tw_eq (tkX_s X _ _ b a _ i) (tkA_s A _ b i hgk.2.1) rfl

set_option maxHeartbeats 4000000 in
set_option maxRecDepth 100000 in
theorem c_X5_take {S ln : Nat} (hS : isSh S) (hh : X S 0 = nI 2) (hln : X S 3 = nI ln) (l60 : ln ≤ 60) {b : Nat → Int32} (hbr : ∀ j, j < ln → (L (S + 1) j).toInt32 = b j) {K : Nat} (hK : isK K) (hc : cok X A K) {a : Int32} : jMet (d + 3) yX5_take cX5_take 5 none 0 0 [.ref 57, .ref S, .ref K, .int a] (tw X A L) (jRv (tw (tkX X (A (K + 1)) (A (K + 2)) b a (balS (A (K + 1)) (A (K + 2)) a 49) (gC (A (K + 1)) b ln)) (tkA A (A (K + 2)) b (gC (A (K + 1)) b ln)) L)) := by
  refine jMet_of (by decide) (Nat.le_of_ble_eq_true rfl) none (Or.inl rfl) ?_
  show jWP none RX5 cX5_take 5 none (d + 3) 0 0 0 [some (.ref 57), some (.ref S), some (.ref K), some (.int a), none] [] (tw X A L) (jRv (tw (tkX X (A (K + 1)) (A (K + 2)) b a (balS (A (K + 1)) (A (K + 2)) a 49) (gC (A (K + 1)) b ln)) (tkA A (A (K + 2)) b (gC (A (K + 1)) b ln)) L))
  have k1 : K + 1 ≠ 59 := by unfold isK at hK; omega
  have k2 : K + 2 ≠ 59 := by unfold isK at hK; omega
  refine j_aload_n dX5_take_0 rfl rfl ?_
  refine j_iconst (v := nI 0) dX5_take_1 rfl ?_
  refine t_putI dX5_take_2 jfl_X5_15 (fun _ _ _ => rfl) (fun _ _ => rfl) (Nat.le_of_ble_eq_true rfl) rfl rfl ?_
  refine j_aload_n dX5_take_5 rfl rfl ?_
  refine j_iconst (v := nI 1) dX5_take_6 rfl ?_
  refine t_putI dX5_take_7 jfl_X5_22 (fun _ _ _ => rfl) (fun _ _ => rfl) (Nat.le_of_ble_eq_true rfl) rfl rfl ?_
  refine j_aload_n dX5_take_10 rfl rfl ?_
  refine j_iconst (v := nI 0) dX5_take_11 rfl ?_
  refine t_putI dX5_take_12 jfl_X5_28 (fun _ _ _ => rfl) (fun _ _ => rfl) (Nat.le_of_ble_eq_true rfl) rfl rfl ?_
  refine j_aload_n dX5_take_15 rfl rfl ?_
  refine t_getR (b := 59) dX5_take_16 jfl_X5_19 (fun _ _ _ => rfl) rfl ?_
  refine j_iconst (v := nI 0) dX5_take_19 rfl ?_
  refine j_iconst (v := nI 0) dX5_take_20 rfl ?_
  refine t_iastore dX5_take_21 (fun _ _ _ => rfl) (by omega) (by decide) ?_
  refine j_aload_n dX5_take_22 rfl rfl ?_
  refine j_aload_n dX5_take_23 rfl rfl ?_
  refine j_iload_n dX5_take_24 rfl rfl ?_
  refine j_callVi [.int _] [.ref 57] dX5_take_25 jlk_X5_31 rfl rfl ((shK0 hK) _ _ _) rfl (Nat.le_of_ble_eq_true rfl) (c_X0_balanceOf hK) ?_
  refine t_putI dX5_take_28 jfl_X5_25 (fun _ _ _ => rfl) (fun _ _ => rfl) (Nat.le_of_ble_eq_true rfl) rfl rfl ?_
  refine j_iconst (v := nI 0) dX5_take_31 rfl ?_
  refine j_istore (lv' := [some (.ref 57), some (.ref S), some (.ref K), some (.int _), some (.int _)]) dX5_take_32 (by decide) rfl ?_
  refine j_atw ?_ (l_X5_take hS hh hln l60 hbr hK hc 100 0 (by omega) (by omega) rfl)
  refine tw_eq ?_ ?_ rfl
  · rw [vu_n _ _ _ k1, vu_n _ _ _ k2]
    unfold tkX
    simp only [vu_s, vu_up]
    refine congrArg (va_up X 57) (funext fun c => ?_)
    by_cases q4 : c = 4
    · subst q4; simp [pk_us, rsS]
    · by_cases q5 : c = 5
      · subst q5; simp [pk_us, pk_un, trS]
      · by_cases q3 : c = 3
        · subst q3; simp [pk_us, pk_un]
        · by_cases q1 : c = 1
          · subst q1; simp [pk_us, pk_un]
          · simp only [pk_un q1, pk_un q3, pk_un q4, pk_un q5]
  · unfold tkA
    refine funext fun c => ?_
    by_cases q : c = 58
    · subst q; simp [va_up, csF]
    · simp [va_up, q, ssF]

set_option maxHeartbeats 4000000 in
set_option maxRecDepth 100000 in
theorem c_X5_makes {sz : Nat} (hs : X 57 3 = nI sz) (hsz : sz ≤ 1024) {s : Nat} (h : s < sz) {x : Int32} : jMet (d) yX5_makes cX5_makes 3 (some .boolean) 0 0 [.ref 57, .int (nI s), .int x] (tw X A L) (jRi (bz ((fun s => decide (X 57 4 + A 59 s = x)) s)) (tw X A L)) := by
  refine jMet_of (by decide) (Nat.le_of_ble_eq_true rfl) none (Or.inl rfl) ?_
  show jWP none RX5 cX5_makes 3 (some .boolean) (d) 0 0 0 [some (.ref 57), some (.int (nI s)), some (.int x)] [] (tw X A L) (jRi (bz ((fun s => decide (X 57 4 + A 59 s = x)) s)) (tw X A L))
  refine j_iload_n dX5_makes_0 rfl rfl ?_
  refine jn_if_lt (tgt := 31) dX5_makes_1 (by decide) (by omega) ?_
  refine j_iload_n dX5_makes_4 rfl rfl ?_
  refine j_aload_n dX5_makes_5 rfl rfl ?_
  refine t_getI dX5_makes_6 jfl_X5_22 (fun _ _ _ => rfl) (fun _ => rfl) ?_
  refine j_topE (e' := nI sz) hs ?_
  refine jn_icmp_ge (tgt := 31) dX5_makes_9 (by decide) (by omega) (by omega) (fun h9 => by omega) (fun h9 => ?_)
  refine j_aload_n dX5_makes_12 rfl rfl ?_
  refine t_getI dX5_makes_13 jfl_X5_25 (fun _ _ _ => rfl) (fun _ => rfl) ?_
  refine j_aload_n dX5_makes_16 rfl rfl ?_
  refine t_getR (b := 59) dX5_makes_17 jfl_X5_19 (fun _ _ _ => rfl) rfl ?_
  refine j_iload_n dX5_makes_20 rfl rfl ?_
  refine t_iaload dX5_makes_21 (fun _ _ _ => rfl) (by omega) (by decide) ?_
  refine j_iadd dX5_makes_22 ?_
  refine j_iload_n dX5_makes_23 rfl rfl ?_
  refine j_icmp_ne (tgt := 31) dX5_makes_24 (by decide) (fun h24 => ?_) (fun h24 => ?_)
  · refine j_iconst (v := nI 0) dX5_makes_31 rfl ?_
    refine j_zreturn dX5_makes_32 rfl (by decide) ?_
    exact ⟨by simp [bz, h9, h24], rfl⟩
  · refine j_iconst (v := nI 1) dX5_makes_27 rfl ?_
    refine j_goto (tgt := 32) dX5_makes_28 (by decide) ?_
    refine j_zreturn dX5_makes_32 rfl (by decide) ?_
    exact ⟨by simp [bz, h9, h24], rfl⟩

set_option maxHeartbeats 4000000 in
set_option maxRecDepth 100000 in
theorem l_X5_ways {sz : Nat} (hs : X 57 3 = nI sz) (hsz : sz ≤ 1024) {x : Int32} : ∀ (m i : Nat), i ≤ sz → sz - i < m → jWP none RX5 cX5_ways 4 (some .int) (d + 1) 0 0 4 [some (.ref 57), some (.int x), some (.int (nI (cnt (fun s => decide (X 57 4 + A 59 s = x)) i))), some (.int (nI i))] [] (tw X A L) (jRi (nI (cnt (fun s => decide (X 57 4 + A 59 s = x)) sz)) (tw X A L)) := by
  intro m
  induction m with
  | zero => intro i h1 h2; omega
  | succ m ih =>
    intro i hi hm
    refine j_iload_n dX5_ways_4 rfl rfl ?_
    refine j_aload_n dX5_ways_5 rfl rfl ?_
    refine t_getI dX5_ways_6 jfl_X5_22 (fun _ _ _ => rfl) (fun _ => rfl) ?_
    refine j_topE (e' := nI sz) hs ?_
    refine jn_icmp_ge (tgt := 30) dX5_ways_9 (by decide) (by omega) (by omega) (fun h9 => ?_) (fun h9 => ?_)
    · refine j_iload_n dX5_ways_30 rfl rfl ?_
      refine j_ireturn dX5_ways_31 rfl ?_
      obtain rfl : i = sz := by omega
      exact ⟨rfl, rfl⟩
    · refine j_aload_n dX5_ways_12 rfl rfl ?_
      refine j_iload_n dX5_ways_13 rfl rfl ?_
      refine j_iload_n dX5_ways_14 rfl rfl ?_
      refine j_callVi [.int _, .int _] [] dX5_ways_15 jlk_X5_63 rfl rfl rfl rfl (Nat.le_of_ble_eq_true rfl) (c_X5_makes hs hsz (by omega)) ?_
      refine j_if_eq (tgt := 24) dX5_ways_18 (by decide) (fun h18 => ?_) (fun h18 => ?_)
      · have h18 := bz_f h18
        refine jn_iinc (lv' := [some (.ref 57), some (.int _), some (.int _), some (.int _)]) dX5_ways_24 rfl (by decide) rfl ?_
        refine j_goto (tgt := 4) dX5_ways_27 (by decide) ?_
        refine j_sub ?_ (ih (i + 1) (by omega) (by omega))
        simp only [jsub, cnt, h18]; simp
      · have h18 := bz_t h18
        refine jn_iinc (lv' := [some (.ref 57), some (.int _), some (.int _), some (.int _)]) dX5_ways_21 rfl (by decide) rfl ?_
        refine jn_iinc (lv' := [some (.ref 57), some (.int _), some (.int _), some (.int _)]) dX5_ways_24 rfl (by decide) rfl ?_
        refine j_goto (tgt := 4) dX5_ways_27 (by decide) ?_
        refine j_sub ?_ (ih (i + 1) (by omega) (by omega))
        simp only [jsub, cnt, h18]; simp

set_option maxHeartbeats 4000000 in
set_option maxRecDepth 100000 in
theorem c_X5_ways {sz : Nat} (hs : X 57 3 = nI sz) (hsz : sz ≤ 1024) {x : Int32} : jMet (d + 1) yX5_ways cX5_ways 4 (some .int) 0 0 [.ref 57, .int x] (tw X A L) (jRi (nI (cnt (fun s => decide (X 57 4 + A 59 s = x)) sz)) (tw X A L)) := by
  refine jMet_of (by decide) (Nat.le_of_ble_eq_true rfl) none (Or.inl rfl) ?_
  show jWP none RX5 cX5_ways 4 (some .int) (d + 1) 0 0 0 [some (.ref 57), some (.int x), none, none] [] (tw X A L) (jRi (nI (cnt (fun s => decide (X 57 4 + A 59 s = x)) sz)) (tw X A L))
  refine j_iconst (v := nI 0) dX5_ways_0 rfl ?_
  refine j_istore_n (lv' := [some (.ref 57), some (.int _), some (.int _), none]) dX5_ways_1 rfl (by decide) rfl ?_
  refine j_iconst (v := nI 0) dX5_ways_2 rfl ?_
  refine j_istore_n (lv' := [some (.ref 57), some (.int _), some (.int _), some (.int _)]) dX5_ways_3 rfl (by decide) rfl ?_
  exact l_X5_ways hs hsz (sz + 1) 0 (by omega) (by omega)

set_option maxHeartbeats 4000000 in
set_option maxRecDepth 100000 in
theorem l_X5_sure {sz : Nat} (hs : X 57 3 = nI sz) (hsz : sz ≤ 1024) {x : Int32} (h0 : 0 < sz) : ∀ (m i : Nat), i ≤ sz → sz - i < m → jWP none RX5 cX5_sure 5 (some .int) (d + 1) 0 0 12 [some (.ref 57), some (.int x), some (.int (nI (sureS (fun s => decide (X 57 4 + A 59 s = x)) (sz - 1) i))), some (.int (bz (anyB (fun s => decide (X 57 4 + A 59 s = x)) i))), some (.int (nI i))] [] (tw X A L) (jRi (if anyB (fun s => decide (X 57 4 + A 59 s = x)) sz = true then nI (sureS (fun s => decide (X 57 4 + A 59 s = x)) (sz - 1) sz) else nI 0) (tw X A L)) := by
  intro m
  induction m with
  | zero => intro i h1 h2; omega
  | succ m ih =>
    intro i hi hm
    refine j_iload dX5_sure_12 rfl ?_
    refine j_aload_n dX5_sure_14 rfl rfl ?_
    refine t_getI dX5_sure_15 jfl_X5_22 (fun _ _ _ => rfl) (fun _ => rfl) ?_
    refine j_topE (e' := nI sz) hs ?_
    refine jn_icmp_ge (tgt := 44) dX5_sure_18 (by decide) (by omega) (by omega) (fun h18 => ?_) (fun h18 => ?_)
    · refine j_iload_n dX5_sure_44 rfl rfl ?_
      refine j_if_eq (tgt := 52) dX5_sure_45 (by decide) (fun h45 => ?_) (fun h45 => ?_)
      · have h45 := bz_f h45
        refine j_iconst (v := nI 0) dX5_sure_52 rfl ?_
        refine j_ireturn dX5_sure_53 rfl ?_
        obtain rfl : i = sz := by omega
        exact ⟨by rw [h45]; rfl, rfl⟩
      · have h45 := bz_t h45
        refine j_iload_n dX5_sure_48 rfl rfl ?_
        refine j_goto (tgt := 53) dX5_sure_49 (by decide) ?_
        refine j_ireturn dX5_sure_53 rfl ?_
        obtain rfl : i = sz := by omega
        exact ⟨by rw [h45]; rfl, rfl⟩
    · refine j_aload_n dX5_sure_21 rfl rfl ?_
      refine j_iload dX5_sure_22 rfl ?_
      refine j_iload_n dX5_sure_24 rfl rfl ?_
      refine j_callVi [.int _, .int _] [] dX5_sure_25 jlk_X5_63 rfl rfl rfl rfl (Nat.le_of_ble_eq_true rfl) (c_X5_makes hs hsz (by omega)) ?_
      refine j_if_eq (tgt := 38) dX5_sure_28 (by decide) (fun h28 => ?_) (fun h28 => ?_)
      · have h28 := bz_f h28
        refine jn_iinc (lv' := [some (.ref 57), some (.int _), some (.int _), some (.int _), some (.int _)]) dX5_sure_38 rfl (by decide) rfl ?_
        refine j_goto (tgt := 12) dX5_sure_41 (by decide) ?_
        refine j_sub ?_ (ih (i + 1) (by omega) (by omega))
        simp only [jsub, sureS, anyB, h28, if_true]; simp
      · have h28 := bz_t h28
        refine j_iload_n dX5_sure_31 rfl rfl ?_
        refine j_iload dX5_sure_32 rfl ?_
        refine j_iand dX5_sure_34 ?_
        refine j_istore_n (lv' := [some (.ref 57), some (.int _), some (.int _), some (.int _), some (.int _)]) dX5_sure_35 rfl (by decide) rfl ?_
        refine j_iconst (v := nI 1) dX5_sure_36 rfl ?_
        refine j_istore_n (lv' := [some (.ref 57), some (.int _), some (.int _), some (.int _), some (.int _)]) dX5_sure_37 rfl (by decide) rfl ?_
        refine jn_iinc (lv' := [some (.ref 57), some (.int _), some (.int _), some (.int _), some (.int _)]) dX5_sure_38 rfl (by decide) rfl ?_
        refine j_goto (tgt := 12) dX5_sure_41 (by decide) ?_
        refine j_sub ?_ (ih (i + 1) (by omega) (by omega))
        simp only [jsub, sureS, anyB, h28, if_true, nI_and]; simp [bz]

set_option maxHeartbeats 4000000 in
set_option maxRecDepth 100000 in
theorem c_X5_sure {sz : Nat} (hs : X 57 3 = nI sz) (hsz : sz ≤ 1024) {x : Int32} (h0 : 0 < sz) : jMet (d + 1) yX5_sure cX5_sure 5 (some .int) 0 0 [.ref 57, .int x] (tw X A L) (jRi (if anyB (fun s => decide (X 57 4 + A 59 s = x)) sz = true then nI (sureS (fun s => decide (X 57 4 + A 59 s = x)) (sz - 1) sz) else nI 0) (tw X A L)) := by
  refine jMet_of (by decide) (Nat.le_of_ble_eq_true rfl) none (Or.inl rfl) ?_
  show jWP none RX5 cX5_sure 5 (some .int) (d + 1) 0 0 0 [some (.ref 57), some (.int x), none, none, none] [] (tw X A L) (jRi (if anyB (fun s => decide (X 57 4 + A 59 s = x)) sz = true then nI (sureS (fun s => decide (X 57 4 + A 59 s = x)) (sz - 1) sz) else nI 0) (tw X A L))
  refine j_aload_n dX5_sure_0 rfl rfl ?_
  refine t_getI dX5_sure_1 jfl_X5_22 (fun _ _ _ => rfl) (fun _ => rfl) ?_
  refine j_topE (e' := nI sz) hs ?_
  refine j_iconst (v := nI 1) dX5_sure_4 rfl ?_
  refine jn_isub dX5_sure_5 (by omega) ?_
  refine j_istore_n (lv' := [some (.ref 57), some (.int _), some (.int _), none, none]) dX5_sure_6 rfl (by decide) rfl ?_
  refine j_iconst (v := nI 0) dX5_sure_7 rfl ?_
  refine j_istore_n (lv' := [some (.ref 57), some (.int _), some (.int _), some (.int _), none]) dX5_sure_8 rfl (by decide) rfl ?_
  refine j_iconst (v := nI 0) dX5_sure_9 rfl ?_
  refine j_istore (lv' := [some (.ref 57), some (.int _), some (.int _), some (.int _), some (.int _)]) dX5_sure_10 (by decide) rfl ?_
  exact l_X5_sure hs hsz h0 (sz + 1) 0 (by omega) (by omega)

set_option maxHeartbeats 4000000 in
set_option maxRecDepth 100000 in
theorem l_X5_leastSet {sz : Nat} (hs : X 57 3 = nI sz) (hsz : sz ≤ 1024) {x : Int32} {res : Option Nat} : ∀ (m i : Nat), i ≤ sz → sz - i < m → fsF (fun s => decide (X 57 4 + A 59 s = x)) (sz - i) i = res → jWP none RX5 cX5_leastSet 3 (some .int) (d + 1) 0 0 2 [some (.ref 57), some (.int x), some (.int (nI i))] [] (tw X A L) (jRi (oN res) (tw X A L)) := by
  intro m
  induction m with
  | zero => intro i h1 h2; omega
  | succ m ih =>
    intro i hi hm
    intro hr
    refine j_iload_n dX5_leastSet_2 rfl rfl ?_
    refine j_aload_n dX5_leastSet_3 rfl rfl ?_
    refine t_getI dX5_leastSet_4 jfl_X5_22 (fun _ _ _ => rfl) (fun _ => rfl) ?_
    refine j_topE (e' := nI sz) hs ?_
    refine jn_icmp_ge (tgt := 27) dX5_leastSet_7 (by decide) (by omega) (by omega) (fun h7 => ?_) (fun h7 => ?_)
    · refine j_bipush (v := (-2)) dX5_leastSet_27 rfl ?_
      refine j_ireturn dX5_leastSet_29 rfl ?_
      have e : res = none := by rw [← hr, show sz - i = 0 by omega]; rfl
      rw [e]
      exact ⟨rfl, rfl⟩
    · refine j_aload_n dX5_leastSet_10 rfl rfl ?_
      refine j_iload_n dX5_leastSet_11 rfl rfl ?_
      refine j_iload_n dX5_leastSet_12 rfl rfl ?_
      refine j_callVi [.int _, .int _] [] dX5_leastSet_13 jlk_X5_63 rfl rfl rfl rfl (Nat.le_of_ble_eq_true rfl) (c_X5_makes hs hsz (by omega)) ?_
      refine j_if_eq (tgt := 21) dX5_leastSet_16 (by decide) (fun h16 => ?_) (fun h16 => ?_)
      · have h16 := bz_f h16
        refine jn_iinc (lv' := [some (.ref 57), some (.int _), some (.int _)]) dX5_leastSet_21 rfl (by decide) rfl ?_
        refine j_goto (tgt := 2) dX5_leastSet_24 (by decide) ?_
        have hr2 : fsF (fun s => decide (X 57 4 + A 59 s = x)) (sz - (i + 1)) (i + 1) = res := by rw [← hr, show sz - i = (sz - (i + 1)) + 1 by omega]; exact (fsF_f h16).symm
        exact ih (i + 1) (by omega) (by omega) hr2
      · have h16 := bz_t h16
        refine j_iload_n dX5_leastSet_19 rfl rfl ?_
        refine j_ireturn dX5_leastSet_20 rfl ?_
        have e : res = some i := by rw [← hr, show sz - i = (sz - i - 1) + 1 by omega]; exact fsF_t h16
        rw [e]
        exact ⟨rfl, rfl⟩

set_option maxHeartbeats 4000000 in
set_option maxRecDepth 100000 in
theorem c_X5_leastSet {sz : Nat} (hs : X 57 3 = nI sz) (hsz : sz ≤ 1024) {x : Int32} : jMet (d + 1) yX5_leastSet cX5_leastSet 3 (some .int) 0 0 [.ref 57, .int x] (tw X A L) (jRi (oN (fsF (fun s => decide (X 57 4 + A 59 s = x)) sz 0)) (tw X A L)) := by
  refine jMet_of (by decide) (Nat.le_of_ble_eq_true rfl) none (Or.inl rfl) ?_
  show jWP none RX5 cX5_leastSet 3 (some .int) (d + 1) 0 0 0 [some (.ref 57), some (.int x), none] [] (tw X A L) (jRi (oN (fsF (fun s => decide (X 57 4 + A 59 s = x)) sz 0)) (tw X A L))
  refine j_iconst (v := nI 0) dX5_leastSet_0 rfl ?_
  refine j_istore_n (lv' := [some (.ref 57), some (.int _), some (.int _)]) dX5_leastSet_1 rfl (by decide) rfl ?_
  exact l_X5_leastSet hs hsz (sz + 1) 0 (by omega) (by omega) (by rw [Nat.sub_zero])

set_option maxHeartbeats 4000000 in
set_option maxRecDepth 100000 in
theorem l_X5_leaves {sz : Nat} (hs : X 57 3 = nI sz) (hsz : sz ≤ 1024) {tr op : Nat} (ht : X 57 5 = nI tr) (htr : tr < sz) (hop : op < 1024) : ∀ (m i : Nat), i ≤ sz → sz - i < m → cnt (badB (fun s => decide (X 57 4 + A 59 s = X 57 4 + A 59 tr)) tr op) i = 0 → jWP none RX5 cX5_leavesTruthAlone 5 (some .boolean) (d + 1) 0 0 17 [some (.ref 57), some (.int (nI op)), some (.int (X 57 4 + A 59 tr)), some (.int (nI i)), none] [] (tw X A L) (jRi (bz (decide (cnt (badB (fun s => decide (X 57 4 + A 59 s = X 57 4 + A 59 tr)) tr op) sz = 0))) (tw X A L)) := by
  intro m
  induction m with
  | zero => intro i h1 h2; omega
  | succ m ih =>
    intro i hi hm
    intro hz
    refine j_iload_n dX5_leavesTruthAlone_17 rfl rfl ?_
    refine j_aload_n dX5_leavesTruthAlone_18 rfl rfl ?_
    refine t_getI dX5_leavesTruthAlone_19 jfl_X5_22 (fun _ _ _ => rfl) (fun _ => rfl) ?_
    refine j_topE (e' := nI sz) hs ?_
    refine jn_icmp_ge (tgt := 74) dX5_leavesTruthAlone_22 (by decide) (by omega) (by omega) (fun h22 => ?_) (fun h22 => ?_)
    · refine j_iconst (v := nI 1) dX5_leavesTruthAlone_74 rfl ?_
      refine j_zreturn dX5_leavesTruthAlone_75 rfl (by decide) ?_
      obtain rfl : i = sz := by omega
      exact ⟨by rw [decide_eq_true hz]; rfl, rfl⟩
    · refine j_iload_n dX5_leavesTruthAlone_25 rfl rfl ?_
      refine j_iload_n dX5_leavesTruthAlone_26 rfl rfl ?_
      refine j_iand dX5_leavesTruthAlone_27 ?_
      refine j_topE (e' := nI (i &&& op)) (nI_and i op) ?_
      refine j_aload_n dX5_leavesTruthAlone_28 rfl rfl ?_
      refine t_getI dX5_leavesTruthAlone_29 jfl_X5_28 (fun _ _ _ => rfl) (fun _ => rfl) ?_
      refine j_topE (e' := nI tr) ht ?_
      refine j_iload_n dX5_leavesTruthAlone_32 rfl rfl ?_
      refine j_iand dX5_leavesTruthAlone_33 ?_
      refine j_topE (e' := nI (tr &&& op)) (nI_and tr op) ?_
      have hx1 : i &&& op < 2 ^ 31 := Nat.lt_of_le_of_lt Nat.and_le_left (by omega)
      have hx2 : tr &&& op < 2 ^ 31 := Nat.lt_of_le_of_lt Nat.and_le_left (by omega)
      refine jn_icmp_ne (tgt := 41) dX5_leavesTruthAlone_34 (by decide) (by omega) (by omega) (fun h34 => ?_) (fun h34 => ?_)
      · refine j_iconst (v := nI 0) dX5_leavesTruthAlone_41 rfl ?_
        refine j_istore (lv' := [some (.ref 57), some (.int _), some (.int _), some (.int _), some (.int _)]) dX5_leavesTruthAlone_42 (by decide) rfl ?_
        refine j_iload dX5_leavesTruthAlone_44 rfl ?_
        refine j_if_eq (tgt := 68) dX5_leavesTruthAlone_46 (by decide) (fun _ => ?_) (fun h => absurd (by decide) h)
        refine jn_iinc (lv' := [some (.ref 57), some (.int _), some (.int _), some (.int _), some (.int _)]) dX5_leavesTruthAlone_68 rfl (by decide) rfl ?_
        refine j_goto (tgt := 17) dX5_leavesTruthAlone_71 (by decide) ?_
        exact j_sub (by exact ⟨rfl, rfl, rfl, rfl, trivial⟩) (ih (i + 1) (by omega) (by omega) (cnt_z hz (by simp [badB, h34])))
      · refine j_iconst (v := nI 1) dX5_leavesTruthAlone_37 rfl ?_
        refine j_goto (tgt := 42) dX5_leavesTruthAlone_38 (by decide) ?_
        refine j_istore (lv' := [some (.ref 57), some (.int _), some (.int _), some (.int _), some (.int _)]) dX5_leavesTruthAlone_42 (by decide) rfl ?_
        refine j_iload dX5_leavesTruthAlone_44 rfl ?_
        refine j_if_eq (tgt := 68) dX5_leavesTruthAlone_46 (by decide) (fun h => absurd h (by decide)) (fun _ => ?_)
        refine j_iload_n dX5_leavesTruthAlone_49 rfl rfl ?_
        refine j_aload_n dX5_leavesTruthAlone_50 rfl rfl ?_
        refine t_getI dX5_leavesTruthAlone_51 jfl_X5_28 (fun _ _ _ => rfl) (fun _ => rfl) ?_
        refine j_topE (e' := nI tr) ht ?_
        refine jn_icmp_eq (tgt := 68) dX5_leavesTruthAlone_54 (by decide) (by omega) (by omega) (fun h54 => ?_) (fun h54 => ?_)
        · refine jn_iinc (lv' := [some (.ref 57), some (.int _), some (.int _), some (.int _), some (.int _)]) dX5_leavesTruthAlone_68 rfl (by decide) rfl ?_
          refine j_goto (tgt := 17) dX5_leavesTruthAlone_71 (by decide) ?_
          exact j_sub (by exact ⟨rfl, rfl, rfl, rfl, trivial⟩) (ih (i + 1) (by omega) (by omega) (cnt_z hz (by simp [badB, h54])))
        · refine j_aload_n dX5_leavesTruthAlone_57 rfl rfl ?_
          refine j_iload_n dX5_leavesTruthAlone_58 rfl rfl ?_
          refine j_iload_n dX5_leavesTruthAlone_59 rfl rfl ?_
          refine j_callVi [.int _, .int _] [] dX5_leavesTruthAlone_60 jlk_X5_63 rfl rfl rfl rfl (Nat.le_of_ble_eq_true rfl) (c_X5_makes hs hsz (by omega)) ?_
          refine j_if_eq (tgt := 68) dX5_leavesTruthAlone_63 (by decide) (fun h63 => ?_) (fun h63 => ?_)
          · have h63 := bz_f h63
            refine jn_iinc (lv' := [some (.ref 57), some (.int _), some (.int _), some (.int _), some (.int _)]) dX5_leavesTruthAlone_68 rfl (by decide) rfl ?_
            refine j_goto (tgt := 17) dX5_leavesTruthAlone_71 (by decide) ?_
            exact j_sub (by exact ⟨rfl, rfl, rfl, rfl, trivial⟩) (ih (i + 1) (by omega) (by omega) (cnt_z hz (by unfold badB; rw [h63]; simp)))
          · have h63 := bz_t h63
            refine j_iconst (v := nI 0) dX5_leavesTruthAlone_66 rfl ?_
            refine j_zreturn dX5_leavesTruthAlone_67 rfl (by decide) ?_
            have hbd : (badB (fun s => decide (X 57 4 + A 59 s = X 57 4 + A 59 tr)) tr op) i = true := by unfold badB; rw [h63]; simp [h34, h54]
            have := cnt_pos (p := (badB (fun s => decide (X 57 4 + A 59 s = X 57 4 + A 59 tr)) tr op)) h22 hbd
            exact ⟨by rw [decide_eq_false (by omega)]; rfl, rfl⟩

set_option maxHeartbeats 4000000 in
set_option maxRecDepth 100000 in
theorem c_X5_leaves {sz : Nat} (hs : X 57 3 = nI sz) (hsz : sz ≤ 1024) {tr op : Nat} (ht : X 57 5 = nI tr) (htr : tr < sz) (hop : op < 1024) : jMet (d + 1) yX5_leavesTruthAlone cX5_leavesTruthAlone 5 (some .boolean) 0 0 [.ref 57, .int (nI op)] (tw X A L) (jRi (bz (decide (cnt (badB (fun s => decide (X 57 4 + A 59 s = X 57 4 + A 59 tr)) tr op) sz = 0))) (tw X A L)) := by
  refine jMet_of (by decide) (Nat.le_of_ble_eq_true rfl) none (Or.inl rfl) ?_
  show jWP none RX5 cX5_leavesTruthAlone 5 (some .boolean) (d + 1) 0 0 0 [some (.ref 57), some (.int (nI op)), none, none, none] [] (tw X A L) (jRi (bz (decide (cnt (badB (fun s => decide (X 57 4 + A 59 s = X 57 4 + A 59 tr)) tr op) sz = 0))) (tw X A L))
  refine j_aload_n dX5_leavesTruthAlone_0 rfl rfl ?_
  refine t_getI dX5_leavesTruthAlone_1 jfl_X5_25 (fun _ _ _ => rfl) (fun _ => rfl) ?_
  refine j_aload_n dX5_leavesTruthAlone_4 rfl rfl ?_
  refine t_getR (b := 59) dX5_leavesTruthAlone_5 jfl_X5_19 (fun _ _ _ => rfl) rfl ?_
  refine j_aload_n dX5_leavesTruthAlone_8 rfl rfl ?_
  refine t_getI dX5_leavesTruthAlone_9 jfl_X5_28 (fun _ _ _ => rfl) (fun _ => rfl) ?_
  refine j_topE (e' := nI tr) ht ?_
  refine t_iaload dX5_leavesTruthAlone_12 (fun _ _ _ => rfl) (by omega) (by decide) ?_
  refine j_iadd dX5_leavesTruthAlone_13 ?_
  refine j_istore_n (lv' := [some (.ref 57), some (.int _), some (.int _), none, none]) dX5_leavesTruthAlone_14 rfl (by decide) rfl ?_
  refine j_iconst (v := nI 0) dX5_leavesTruthAlone_15 rfl ?_
  refine j_istore_n (lv' := [some (.ref 57), some (.int _), some (.int _), some (.int _), none]) dX5_leavesTruthAlone_16 rfl (by decide) rfl ?_
  exact l_X5_leaves hs hsz ht htr hop (sz + 1) 0 (by omega) (by omega) rfl

set_option maxHeartbeats 4000000 in
set_option maxRecDepth 100000 in
theorem l_X5_fewest {sz : Nat} (hs : X 57 3 = nI sz) (hsz : sz ≤ 1024) {tr : Nat} (ht : X 57 5 = nI tr) (htr : tr < sz) : ∀ (m i : Nat), i ≤ sz → sz - i < m → jWP none RX5 cX5_fewestToOpen 3 (some .int) (d + 2) 0 0 9 [some (.ref 57), some (.int (nI (fwS (fun op => decide (cnt (badB (fun s => decide (X 57 4 + A 59 s = X 57 4 + A 59 tr)) tr op) sz = 0)) (sz - 1) i))), some (.int (nI i))] [] (tw X A L) (jRi (nI (fwS (fun op => decide (cnt (badB (fun s => decide (X 57 4 + A 59 s = X 57 4 + A 59 tr)) tr op) sz = 0)) (sz - 1) sz)) (tw X A L)) := by
  intro m
  induction m with
  | zero => intro i h1 h2; omega
  | succ m ih =>
    intro i hi hm
    have hfl := fwS_le (fun op => decide (cnt (badB (fun s => decide (X 57 4 + A 59 s = X 57 4 + A 59 tr)) tr op) sz = 0)) (sz - 1) i (by omega)
    have hp1 := pcN_le i
    have hp2 := pcN_le (fwS (fun op => decide (cnt (badB (fun s => decide (X 57 4 + A 59 s = X 57 4 + A 59 tr)) tr op) sz = 0)) (sz - 1) i)
    refine j_iload_n dX5_fewestToOpen_9 rfl rfl ?_
    refine j_aload_n dX5_fewestToOpen_10 rfl rfl ?_
    refine t_getI dX5_fewestToOpen_11 jfl_X5_22 (fun _ _ _ => rfl) (fun _ => rfl) ?_
    refine j_topE (e' := nI sz) hs ?_
    refine jn_icmp_ge (tgt := 44) dX5_fewestToOpen_14 (by decide) (by omega) (by omega) (fun h14 => ?_) (fun h14 => ?_)
    · refine j_iload_n dX5_fewestToOpen_44 rfl rfl ?_
      refine j_ireturn dX5_fewestToOpen_45 rfl ?_
      obtain rfl : i = sz := by omega
      exact ⟨rfl, rfl⟩
    · refine j_iload_n dX5_fewestToOpen_17 rfl rfl ?_
      refine j_callSi [.int _] [] dX5_fewestToOpen_18 jlk_X5_67 rfl rfl (Nat.le_of_ble_eq_true rfl) (c_J6_bitCountN (by omega)) ?_
      refine j_iload_n dX5_fewestToOpen_21 rfl rfl ?_
      refine j_callSi [.int _] [.int _] dX5_fewestToOpen_22 jlk_X5_67 rfl rfl (Nat.le_of_ble_eq_true rfl) (c_J6_bitCountN (by omega)) ?_
      refine jn_icmp_ge (tgt := 38) dX5_fewestToOpen_25 (by decide) (by omega) (by omega) (fun h25 => ?_) (fun h25 => ?_)
      · refine jn_iinc (lv' := [some (.ref 57), some (.int _), some (.int _)]) dX5_fewestToOpen_38 rfl (by decide) rfl ?_
        refine j_goto (tgt := 9) dX5_fewestToOpen_41 (by decide) ?_
        refine j_sub ?_ (ih (i + 1) (by omega) (by omega))
        simp only [jsub, fwS, if_neg (Nat.not_lt.mpr h25), and_self]
      · refine j_aload_n dX5_fewestToOpen_28 rfl rfl ?_
        refine j_iload_n dX5_fewestToOpen_29 rfl rfl ?_
        refine j_callVi [.int _] [] dX5_fewestToOpen_30 jlk_X5_72 rfl rfl rfl rfl (Nat.le_of_ble_eq_true rfl) (c_X5_leaves hs hsz ht htr (by omega)) ?_
        refine j_if_eq (tgt := 38) dX5_fewestToOpen_33 (by decide) (fun h33 => ?_) (fun h33 => ?_)
        · have h33 := bz_f h33
          refine jn_iinc (lv' := [some (.ref 57), some (.int _), some (.int _)]) dX5_fewestToOpen_38 rfl (by decide) rfl ?_
          refine j_goto (tgt := 9) dX5_fewestToOpen_41 (by decide) ?_
          refine j_sub ?_ (ih (i + 1) (by omega) (by omega))
          simp only [jsub, fwS, if_pos h25, h33]; simp
        · have h33 := bz_t h33
          refine j_iload_n dX5_fewestToOpen_36 rfl rfl ?_
          refine j_istore_n (lv' := [some (.ref 57), some (.int _), some (.int _)]) dX5_fewestToOpen_37 rfl (by decide) rfl ?_
          refine jn_iinc (lv' := [some (.ref 57), some (.int _), some (.int _)]) dX5_fewestToOpen_38 rfl (by decide) rfl ?_
          refine j_goto (tgt := 9) dX5_fewestToOpen_41 (by decide) ?_
          refine j_sub ?_ (ih (i + 1) (by omega) (by omega))
          simp only [jsub, fwS, if_pos h25, h33]; simp

set_option maxHeartbeats 4000000 in
set_option maxRecDepth 100000 in
theorem c_X5_fewest {sz : Nat} (hs : X 57 3 = nI sz) (hsz : sz ≤ 1024) (h0 : 0 < sz) {tr : Nat} (ht : X 57 5 = nI tr) (htr : tr < sz) : jMet (d + 2) yX5_fewestToOpen cX5_fewestToOpen 3 (some .int) 0 0 [.ref 57] (tw X A L) (jRi (nI (fwS (fun op => decide (cnt (badB (fun s => decide (X 57 4 + A 59 s = X 57 4 + A 59 tr)) tr op) sz = 0)) (sz - 1) sz)) (tw X A L)) := by
  refine jMet_of (by decide) (Nat.le_of_ble_eq_true rfl) none (Or.inl rfl) ?_
  show jWP none RX5 cX5_fewestToOpen 3 (some .int) (d + 2) 0 0 0 [some (.ref 57), none, none] [] (tw X A L) (jRi (nI (fwS (fun op => decide (cnt (badB (fun s => decide (X 57 4 + A 59 s = X 57 4 + A 59 tr)) tr op) sz = 0)) (sz - 1) sz)) (tw X A L))
  refine j_aload_n dX5_fewestToOpen_0 rfl rfl ?_
  refine t_getI dX5_fewestToOpen_1 jfl_X5_22 (fun _ _ _ => rfl) (fun _ => rfl) ?_
  refine j_topE (e' := nI sz) hs ?_
  refine j_iconst (v := nI 1) dX5_fewestToOpen_4 rfl ?_
  refine jn_isub dX5_fewestToOpen_5 (by omega) ?_
  refine j_istore_n (lv' := [some (.ref 57), some (.int _), none]) dX5_fewestToOpen_6 rfl (by decide) rfl ?_
  refine j_iconst (v := nI 0) dX5_fewestToOpen_7 rfl ?_
  refine j_istore_n (lv' := [some (.ref 57), some (.int _), some (.int _)]) dX5_fewestToOpen_8 rfl (by decide) rfl ?_
  exact l_X5_fewest hs hsz ht htr (sz + 1) 0 (by omega) (by omega)

end CT9