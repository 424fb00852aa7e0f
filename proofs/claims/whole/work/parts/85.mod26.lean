/-- the fewest to open by the reference: mk tells which sets make the sum -/
def opB (mk : Nat → Bool) (t op s : Nat) : Bool := mk s && decide ((s ^^^ t) &&& op = 0)
def boM (mk : Nat → Bool) (t g : Nat) : Nat → Nat
  | 0 => 2 ^ g - 1
  | op + 1 => if pcN op < pcN (boM mk t g op) then (if cnt (opB mk t op) (2 ^ g) = 1 then op else boM mk t g op) else boM mk t g op
theorem boM_le (mk : Nat → Bool) (t g : Nat) : ∀ n, n ≤ 2 ^ g → boM mk t g n < 2 ^ g
  | 0, _ => by have : 0 < 2 ^ g := Nat.pow_pos (by decide); show 2 ^ g - 1 < 2 ^ g; omega
  | n + 1, h => by
    have ih := boM_le mk t g n (by omega)
    unfold boM
    split
    · split
      · omega
      · exact ih
    · exact ih
theorem nI_xor (a b : Nat) : nI a ^^^ nI b = nI (a ^^^ b) := by
  apply Int32.toBitVec_inj.mp
  rw [Int32.toBitVec_xor]
  show BitVec.ofNat 32 a ^^^ BitVec.ofNat 32 b = BitVec.ofNat 32 (a ^^^ b)
  rw [BitVec.ofNat_xor]
theorem p1024 {g : Nat} (h : g ≤ 10) : 2 ^ g ≤ 1024 ∧ 0 < 2 ^ g := ⟨Nat.pow_le_pow_right (by decide) h, Nat.pow_pos (by decide)⟩
section CT65
variable {d : Nat} {X A : Nat → Nat → Int32} {L : Nat → Nat → Int64} {w : jW} {tx v : Nat → Nat} {na tm : Nat} {td : Bool}

set_option maxHeartbeats 200000 in
set_option maxRecDepth 100000 in
theorem l_read_m {g t : Nat} {e : Int32} {E : Nat → Int32} (hg : g ≤ 10) (ht : t < 1024) (h92 : ∀ i, i < g → A 92 i = E i) (hce : ∀ i, i < g → cN E i < 49 ∧ E i = nI (cN E i)) {x : Nat} (hx : x < 300) {y y1 y2 : Int32} : ∀ (m i : Nat), i ≤ 2 ^ g → 2 ^ g - i < m → jWP none RX11 cX11_read 9 (some .int) (d + 2) 0 0 85 [some (.ref 76), some (.int y1), some (.int y2), some (.int (nI x)), some (.int y), some (.int (nI (cnt (fun s => decide (e + ssum (A 85) E s g = nI x)) i))), some (.int (fiS (fun s => decide (e + ssum (A 85) E s g = nI x)) i)), some (.int (nI (sureS (fun s => decide (e + ssum (A 85) E s g = nI x)) (2 ^ g - 1) i))), some (.int (nI i))] [] (tw (gX X g e t) A L) (jRi (if y = 0 then nI (cnt (fun s => decide (e + ssum (A 85) E s g = nI x)) (2 ^ g)) else if y = nI 1 then (if cnt (fun s => decide (e + ssum (A 85) E s g = nI x)) (2 ^ g) = 0 then nI 0 else nI (sureS (fun s => decide (e + ssum (A 85) E s g = nI x)) (2 ^ g - 1) (2 ^ g))) else fiS (fun s => decide (e + ssum (A 85) E s g = nI x)) (2 ^ g)) (tw (gX X g e t) A L)) := by
  have hp2 := p1024 hg
  intro m
  induction m with
  | zero => intro i h1 h2; omega
  | succ m ih =>
    intro i hi hm
    have hcn := cnt_le (fun s => decide (e + ssum (A 85) E s g = nI x)) i
    have hsu := sureS_le (fun s => decide (e + ssum (A 85) E s g = nI x)) (2 ^ g - 1) i
    refine j_iload dX11_read_85 rfl ?_
    refine j_iconst (v := nI 1) dX11_read_87 rfl ?_
    refine j_aload_n dX11_read_88 rfl rfl ?_
    refine t_getI dX11_read_89 jfl_X11_295 (fun _ _ _ => rfl) (fun _ => rfl) ?_
    refine j_topE gX_27 ?_
    refine j_ishl dX11_read_92 ?_
    refine j_topE (e' := nI (2 ^ g)) (shl_tab hg) ?_
    refine jn_icmp_ge (tgt := 136) dX11_read_93 (by decide) (by omega) (by omega) (fun h93 => ?_) (fun h93 => ?_)
    · refine j_iload dX11_read_136 rfl ?_
      refine j_if_ne (tgt := 146) dX11_read_138 (by decide) (fun h138 => ?_) (fun h138 => ?_)
      · refine j_iload dX11_read_146 rfl ?_
        refine j_iconst (v := nI 1) dX11_read_148 rfl ?_
        refine j_icmp_ne (tgt := 166) dX11_read_149 (by decide) (fun h149 => ?_) (fun h149 => ?_)
        · refine j_iload dX11_read_166 rfl ?_
          refine j_ireturn dX11_read_168 rfl ?_
          obtain rfl : i = 2 ^ g := by omega
          exact ⟨by rw [if_neg h138, if_neg h149], rfl⟩
        · refine j_iload dX11_read_152 rfl ?_
          refine jn_if_ne (tgt := 161) dX11_read_154 (by decide) (by omega) (fun h154 => ?_) (fun h154 => ?_)
          · refine j_iload dX11_read_161 rfl ?_
            refine j_goto (tgt := 168) dX11_read_163 (by decide) ?_
            refine j_ireturn dX11_read_168 rfl ?_
            obtain rfl : i = 2 ^ g := by omega
            exact ⟨by rw [if_neg h138, if_pos (by first | exact h149 | simpa using h149), if_neg (by omega)], rfl⟩
          · refine j_iconst (v := nI 0) dX11_read_157 rfl ?_
            refine j_goto (tgt := 168) dX11_read_158 (by decide) ?_
            refine j_ireturn dX11_read_168 rfl ?_
            obtain rfl : i = 2 ^ g := by omega
            exact ⟨by rw [if_neg h138, if_pos (by first | exact h149 | simpa using h149), if_pos (by omega)], rfl⟩
      · refine j_iload dX11_read_141 rfl ?_
        refine j_goto (tgt := 168) dX11_read_143 (by decide) ?_
        refine j_ireturn dX11_read_168 rfl ?_
        obtain rfl : i = 2 ^ g := by omega
        exact ⟨by rw [if_pos (by first | exact h138 | simpa using h138)], rfl⟩
    · refine j_aload_n dX11_read_96 rfl rfl ?_
      refine j_iload dX11_read_97 rfl ?_
      refine j_callVi [.int _] [] dX11_read_99 jlk_X11_310 rfl rfl rfl rfl (Nat.le_of_ble_eq_true rfl) (m_sumBy hg h92 hce (by omega)) ?_
      refine j_iload_n dX11_read_102 rfl rfl ?_
      refine j_icmp_ne (tgt := 130) dX11_read_103 (by decide) (fun h103 => ?_) (fun h103 => ?_)
      · refine jn_iinc (lv' := [some (.ref 76), some (.int _), some (.int _), some (.int _), some (.int _), some (.int _), some (.int _), some (.int _), some (.int _)]) dX11_read_130 rfl (by decide) rfl ?_
        refine j_goto (tgt := 85) dX11_read_133 (by decide) ?_
        have hp : (fun s => decide (e + ssum (A 85) E s g = nI x)) i = false := decide_eq_false h103
        have e1 : cnt (fun s => decide (e + ssum (A 85) E s g = nI x)) (i + 1) = cnt (fun s => decide (e + ssum (A 85) E s g = nI x)) i := by show (if (fun s => decide (e + ssum (A 85) E s g = nI x)) i = true then _ else _) = _; rw [hp, if_neg (by decide)]
        have e2 : fiS (fun s => decide (e + ssum (A 85) E s g = nI x)) (i + 1) = fiS (fun s => decide (e + ssum (A 85) E s g = nI x)) i := by show (if (fun s => decide (e + ssum (A 85) E s g = nI x)) i = true then _ else _) = _; rw [hp, if_neg (by decide)]
        have e3 : sureS (fun s => decide (e + ssum (A 85) E s g = nI x)) (2 ^ g - 1) (i + 1) = sureS (fun s => decide (e + ssum (A 85) E s g = nI x)) (2 ^ g - 1) i := by show (if (fun s => decide (e + ssum (A 85) E s g = nI x)) i = true then _ else _) = _; rw [hp, if_neg (by decide)]
        refine j_sub ?_ (ih (i + 1) (by omega) (by omega))
        rw [e1, e2, e3]
        exact ⟨rfl, rfl, rfl, rfl, rfl, rfl, rfl, rfl, rfl, trivial⟩
      · refine j_iload dX11_read_106 rfl ?_
        refine jn_if_ne (tgt := 116) dX11_read_108 (by decide) (by omega) (fun h108 => ?_) (fun h108 => ?_)
        · refine j_iload dX11_read_116 rfl ?_
          refine j_istore (lv' := [some (.ref 76), some (.int _), some (.int _), some (.int _), some (.int _), some (.int _), some (.int _), some (.int _), some (.int _)]) dX11_read_118 (by decide) rfl ?_
          refine jn_iinc (lv' := [some (.ref 76), some (.int _), some (.int _), some (.int _), some (.int _), some (.int _), some (.int _), some (.int _), some (.int _)]) dX11_read_120 rfl (by decide) rfl ?_
          refine j_iload dX11_read_123 rfl ?_
          refine j_iload dX11_read_125 rfl ?_
          refine j_iand dX11_read_127 ?_
          refine j_topE (e' := nI (sureS (fun s => decide (e + ssum (A 85) E s g = nI x)) (2 ^ g - 1) i &&& i)) (nI_and _ _) ?_
          refine j_istore (lv' := [some (.ref 76), some (.int _), some (.int _), some (.int _), some (.int _), some (.int _), some (.int _), some (.int _), some (.int _)]) dX11_read_128 (by decide) rfl ?_
          refine jn_iinc (lv' := [some (.ref 76), some (.int _), some (.int _), some (.int _), some (.int _), some (.int _), some (.int _), some (.int _), some (.int _)]) dX11_read_130 rfl (by decide) rfl ?_
          refine j_goto (tgt := 85) dX11_read_133 (by decide) ?_
          have hp : (fun s => decide (e + ssum (A 85) E s g = nI x)) i = true := decide_eq_true (by first | exact h103 | simpa using h103)
          have e1 : cnt (fun s => decide (e + ssum (A 85) E s g = nI x)) (i + 1) = cnt (fun s => decide (e + ssum (A 85) E s g = nI x)) i + 1 := by show (if (fun s => decide (e + ssum (A 85) E s g = nI x)) i = true then _ else _) = _; rw [hp, if_pos rfl]
          have e2 : fiS (fun s => decide (e + ssum (A 85) E s g = nI x)) (i + 1) = fiS (fun s => decide (e + ssum (A 85) E s g = nI x)) i := by show (if (fun s => decide (e + ssum (A 85) E s g = nI x)) i = true then (if cnt (fun s => decide (e + ssum (A 85) E s g = nI x)) i = 0 then nI i else fiS (fun s => decide (e + ssum (A 85) E s g = nI x)) i) else _) = _; rw [hp, if_pos rfl, if_neg (by omega)]
          have e3 : sureS (fun s => decide (e + ssum (A 85) E s g = nI x)) (2 ^ g - 1) (i + 1) = sureS (fun s => decide (e + ssum (A 85) E s g = nI x)) (2 ^ g - 1) i &&& i := by show (if (fun s => decide (e + ssum (A 85) E s g = nI x)) i = true then _ else _) = _; rw [hp, if_pos rfl]
          refine j_sub ?_ (ih (i + 1) (by omega) (by omega))
          rw [e1, e2, e3]
          exact ⟨rfl, rfl, rfl, rfl, rfl, rfl, rfl, rfl, rfl, trivial⟩
        · refine j_iload dX11_read_111 rfl ?_
          refine j_goto (tgt := 118) dX11_read_113 (by decide) ?_
          refine j_istore (lv' := [some (.ref 76), some (.int _), some (.int _), some (.int _), some (.int _), some (.int _), some (.int _), some (.int _), some (.int _)]) dX11_read_118 (by decide) rfl ?_
          refine jn_iinc (lv' := [some (.ref 76), some (.int _), some (.int _), some (.int _), some (.int _), some (.int _), some (.int _), some (.int _), some (.int _)]) dX11_read_120 rfl (by decide) rfl ?_
          refine j_iload dX11_read_123 rfl ?_
          refine j_iload dX11_read_125 rfl ?_
          refine j_iand dX11_read_127 ?_
          refine j_topE (e' := nI (sureS (fun s => decide (e + ssum (A 85) E s g = nI x)) (2 ^ g - 1) i &&& i)) (nI_and _ _) ?_
          refine j_istore (lv' := [some (.ref 76), some (.int _), some (.int _), some (.int _), some (.int _), some (.int _), some (.int _), some (.int _), some (.int _)]) dX11_read_128 (by decide) rfl ?_
          refine jn_iinc (lv' := [some (.ref 76), some (.int _), some (.int _), some (.int _), some (.int _), some (.int _), some (.int _), some (.int _), some (.int _)]) dX11_read_130 rfl (by decide) rfl ?_
          refine j_goto (tgt := 85) dX11_read_133 (by decide) ?_
          have hp : (fun s => decide (e + ssum (A 85) E s g = nI x)) i = true := decide_eq_true (by first | exact h103 | simpa using h103)
          have e1 : cnt (fun s => decide (e + ssum (A 85) E s g = nI x)) (i + 1) = cnt (fun s => decide (e + ssum (A 85) E s g = nI x)) i + 1 := by show (if (fun s => decide (e + ssum (A 85) E s g = nI x)) i = true then _ else _) = _; rw [hp, if_pos rfl]
          have e2 : fiS (fun s => decide (e + ssum (A 85) E s g = nI x)) (i + 1) = nI i := by show (if (fun s => decide (e + ssum (A 85) E s g = nI x)) i = true then (if cnt (fun s => decide (e + ssum (A 85) E s g = nI x)) i = 0 then nI i else fiS (fun s => decide (e + ssum (A 85) E s g = nI x)) i) else _) = _; rw [hp, if_pos rfl, if_pos (by omega)]
          have e3 : sureS (fun s => decide (e + ssum (A 85) E s g = nI x)) (2 ^ g - 1) (i + 1) = sureS (fun s => decide (e + ssum (A 85) E s g = nI x)) (2 ^ g - 1) i &&& i := by show (if (fun s => decide (e + ssum (A 85) E s g = nI x)) i = true then _ else _) = _; rw [hp, if_pos rfl]
          refine j_sub ?_ (ih (i + 1) (by omega) (by omega))
          rw [e1, e2, e3]
          exact ⟨rfl, rfl, rfl, rfl, rfl, rfl, rfl, rfl, rfl, trivial⟩

set_option maxHeartbeats 200000 in
set_option maxRecDepth 100000 in
theorem m_read (hn : X 76 7 = nI na) (h6a : na ≤ 6) (z1 : zb 49 (A 82)) (z2 : zb 49 (A 83)) (z3 : zb 49 (A 84)) (z4 : zb 49 (A 85)) (hw : ow (A 82)) {j ln : Nat} (hj : j < 6) {E : Nat → Int32} (hs : A 100 j = nI 50) (hm : A 101 j = nI ln) (l60 : ln ≤ 60) (hE : ∀ i, i < ln → L 102 (60 * j + i) = (E i).toInt64) {k x : Nat} (hk : k < na) (hx : x < 300) {y : Int32} (hy : isA 3 y ≠ nI 0) : jMet (d + 3) yX11_read cX11_read 9 (some .int) 0 0 [.ref 76, .int (nI j), .int (nI k), .int (nI x), .int y] (tw X A L) (jRi (if y = 0 then nI (cnt (fun s => decide ((rsS (A 82) (A 83) E (nI k) (balS (A 82) (A 83) (nI k) 49) (gC (A 82) E ln)) + ssum (A 83) E s (gC (A 82) E ln) = nI x)) (2 ^ (gC (A 82) E ln))) else if y = nI 1 then (if cnt (fun s => decide ((rsS (A 82) (A 83) E (nI k) (balS (A 82) (A 83) (nI k) 49) (gC (A 82) E ln)) + ssum (A 83) E s (gC (A 82) E ln) = nI x)) (2 ^ (gC (A 82) E ln)) = 0 then nI 0 else nI (sureS (fun s => decide ((rsS (A 82) (A 83) E (nI k) (balS (A 82) (A 83) (nI k) 49) (gC (A 82) E ln)) + ssum (A 83) E s (gC (A 82) E ln) = nI x)) (2 ^ (gC (A 82) E ln) - 1) (2 ^ (gC (A 82) E ln)))) else fiS (fun s => decide ((rsS (A 82) (A 83) E (nI k) (balS (A 82) (A 83) (nI k) 49) (gC (A 82) E ln)) + ssum (A 83) E s (gC (A 82) E ln) = nI x)) (2 ^ (gC (A 82) E ln))) (tw (gX X (gC (A 82) E ln) (rsS (A 82) (A 83) E (nI k) (balS (A 82) (A 83) (nI k) 49) (gC (A 82) E ln)) (trS (A 82) E (nI k) (gC (A 82) E ln))) (va_up (mA A (A 82) (A 83)) 92 (csF (A 92) E (gC (A 82) E ln))) L)) := by
  refine jMet_of (by decide) (Nat.le_of_ble_eq_true rfl) none (Or.inl rfl) ?_
  show jWP none RX11 cX11_read 9 (some .int) (d + 3) 0 0 0 [some (.ref 76), some (.int (nI j)), some (.int (nI k)), some (.int (nI x)), some (.int y), none, none, none, none] [] (tw X A L) (jRi (if y = 0 then nI (cnt (fun s => decide ((rsS (A 82) (A 83) E (nI k) (balS (A 82) (A 83) (nI k) 49) (gC (A 82) E ln)) + ssum (A 83) E s (gC (A 82) E ln) = nI x)) (2 ^ (gC (A 82) E ln))) else if y = nI 1 then (if cnt (fun s => decide ((rsS (A 82) (A 83) E (nI k) (balS (A 82) (A 83) (nI k) 49) (gC (A 82) E ln)) + ssum (A 83) E s (gC (A 82) E ln) = nI x)) (2 ^ (gC (A 82) E ln)) = 0 then nI 0 else nI (sureS (fun s => decide ((rsS (A 82) (A 83) E (nI k) (balS (A 82) (A 83) (nI k) 49) (gC (A 82) E ln)) + ssum (A 83) E s (gC (A 82) E ln) = nI x)) (2 ^ (gC (A 82) E ln) - 1) (2 ^ (gC (A 82) E ln)))) else fiS (fun s => decide ((rsS (A 82) (A 83) E (nI k) (balS (A 82) (A 83) (nI k) 49) (gC (A 82) E ln)) + ssum (A 83) E s (gC (A 82) E ln) = nI x)) (2 ^ (gC (A 82) E ln))) (tw (gX X (gC (A 82) E ln) (rsS (A 82) (A 83) E (nI k) (balS (A 82) (A 83) (nI k) 49) (gC (A 82) E ln)) (trS (A 82) E (nI k) (gC (A 82) E ln))) (va_up (mA A (A 82) (A 83)) 92 (csF (A 92) E (gC (A 82) E ln))) L))
  have hg := gC_le (A 82) E ln
  have hp1 := p1024 hg.1
  have htr : (trS (A 82) E (nI k) (gC (A 82) E ln)) < 1024 := Nat.lt_of_lt_of_le (trS_lt _) hp1.1
  have hce : ∀ i, i < (gC (A 82) E ln) → cN E i < 49 ∧ E i = nI (cN E i) := fun i hi => by have q := gok_cell (gcF_ok (O := A 82) (b := E) (min 10 ln) 0 i (Nat.zero_le _) hi); exact ⟨q.1, q.2.1⟩
  have h92 : ∀ i, i < (gC (A 82) E ln) → va_up (mA A (A 82) (A 83)) 92 (csF (A 92) E (gC (A 82) E ln)) 92 i = E i := fun i hi => by rw [vu_s]; exact csF_at hi
  have h85 : va_up (mA A (A 82) (A 83)) 92 (csF (A 92) E (gC (A 82) E ln)) 85 = A 83 := by rw [vu_n _ _ _ (by decide), mA_85]
  refine j_aload_n dX11_read_0 rfl rfl ?_
  refine j_iload_n dX11_read_1 rfl rfl ?_
  refine j_callVi [.int _] [] dX11_read_2 jlk_X11_228 rfl rfl rfl rfl (Nat.le_of_ble_eq_true rfl) (m_bytesIs hj hs) ?_
  refine j_iconst (v := (-1)) dX11_read_5 rfl ?_
  refine j_icmp_eq (tgt := 43) dX11_read_6 (by decide) (fun h => absurd h (by decide)) (fun _ => ?_)
  refine j_aload_n dX11_read_9 rfl rfl ?_
  refine j_iload_n dX11_read_10 rfl rfl ?_
  refine j_i2l dX11_read_11 ?_
  refine j_callVi [.long _] [] dX11_read_12 jlk_X11_128 rfl rfl rfl rfl (Nat.le_of_ble_eq_true rfl) (jMet_i (m_isAccount hn h6a) (isA_in hk (by omega)) rfl) ?_
  refine j_if_eq (tgt := 43) dX11_read_15 (by decide) (fun h => absurd h (by decide)) (fun _ => ?_)
  refine j_iload_n dX11_read_18 rfl rfl ?_
  refine j_i2l dX11_read_19 ?_
  refine j_lconst (v := 0) dX11_read_20 rfl ?_
  refine j_ldc2 dX11_read_21 jw_k_X11_304 ?_
  refine j_callSi [.long _, .long _, .long _] [] dX11_read_24 jlk_X11_111 rfl rfl (Nat.le_of_ble_eq_true rfl) (jMet_i m_within (wi_in (k := 299) (by omega) (by decide) (by decide)) rfl) ?_
  refine j_if_eq (tgt := 43) dX11_read_27 (by decide) (fun h => absurd h (by decide)) (fun _ => ?_)
  refine j_iload dX11_read_30 rfl ?_
  refine j_i2l dX11_read_32 ?_
  refine j_lconst (v := 0) dX11_read_33 rfl ?_
  refine j_ldc2 dX11_read_34 jw_k_X11_131 ?_
  refine j_callSi [.long _, .long _, .long _] [] dX11_read_37 jlk_X11_111 rfl rfl (Nat.le_of_ble_eq_true rfl) (jMet_i m_within (wi_A (k := 2) (by decide) (by decide)) rfl) ?_
  refine j_if_ne (tgt := 45) dX11_read_40 (by decide) (fun h40 => ?_) (fun h40 => absurd (by first | exact h40 | simpa using h40) hy)
  refine j_aload_n dX11_read_45 rfl rfl ?_
  refine j_iload_n dX11_read_46 rfl rfl ?_
  refine j_callVi [.int _] [] dX11_read_47 jlk_X11_228 rfl rfl rfl rfl (Nat.le_of_ble_eq_true rfl) (m_bytesIs hj hs) ?_
  refine j_if_ge (tgt := 59) dX11_read_50 (by decide) (fun _ => ?_) (fun h => absurd (by decide) h)
  refine j_aload_n dX11_read_59 rfl rfl ?_
  refine j_iload_n dX11_read_60 rfl rfl ?_
  refine j_iload_n dX11_read_61 rfl rfl ?_
  refine j_callVv [.int _, .int _] [] dX11_read_62 jlk_X11_306 rfl rfl rfl rfl (Nat.le_of_ble_eq_true rfl) (m_asksGaps z1 z2 z3 z4 hw hj hm l60 hE) ?_
  refine j_iconst (v := nI 0) dX11_read_65 rfl ?_
  refine j_istore (lv' := [some (.ref 76), some (.int _), some (.int _), some (.int _), some (.int _), some (.int _), none, none, none]) dX11_read_66 (by decide) rfl ?_
  refine j_bipush (v := (-2)) dX11_read_68 rfl ?_
  refine j_istore (lv' := [some (.ref 76), some (.int _), some (.int _), some (.int _), some (.int _), some (.int _), some (.int _), none, none]) dX11_read_70 (by decide) rfl ?_
  refine j_iconst (v := nI 1) dX11_read_72 rfl ?_
  refine j_aload_n dX11_read_73 rfl rfl ?_
  refine t_getI dX11_read_74 jfl_X11_295 (fun _ _ _ => rfl) (fun _ => rfl) ?_
  refine j_topE gX_27 ?_
  refine j_ishl dX11_read_77 ?_
  refine j_topE (e' := nI (2 ^ (gC (A 82) E ln))) (shl_tab hg.1) ?_
  refine j_iconst (v := nI 1) dX11_read_78 rfl ?_
  refine jn_isub dX11_read_79 hp1.2 ?_
  refine j_istore (lv' := [some (.ref 76), some (.int _), some (.int _), some (.int _), some (.int _), some (.int _), some (.int _), some (.int _), none]) dX11_read_80 (by decide) rfl ?_
  refine j_iconst (v := nI 0) dX11_read_82 rfl ?_
  refine j_istore (lv' := [some (.ref 76), some (.int _), some (.int _), some (.int _), some (.int _), some (.int _), some (.int _), some (.int _), some (.int _)]) dX11_read_83 (by decide) rfl ?_
  have q := l_read_m (d := d + 1) (X := X) (A := va_up (mA A (A 82) (A 83)) 92 (csF (A 92) E (gC (A 82) E ln))) (L := L) hg.1 (e := (rsS (A 82) (A 83) E (nI k) (balS (A 82) (A 83) (nI k) 49) (gC (A 82) E ln))) htr h92 hce hx (y := y) (y1 := nI j) (y2 := nI k) (2 ^ (gC (A 82) E ln) + 1) 0 (Nat.zero_le _) (by omega)
  rw [h85] at q
  exact q

set_option maxHeartbeats 200000 in
set_option maxRecDepth 100000 in
theorem m_read_no {c a x q : Int32} (h : isA 6 c = nI 0) : jMet (d + 3) yX11_read cX11_read 9 (some .int) 0 0 [.ref 76, .int c, .int a, .int x, .int q] (tw X A L) (jRi (-1) (tw X A L)) := by
  refine jMet_of (by decide) (Nat.le_of_ble_eq_true rfl) none (Or.inl rfl) ?_
  show jWP none RX11 cX11_read 9 (some .int) (d + 3) 0 0 0 [some (.ref 76), some (.int c), some (.int a), some (.int x), some (.int q), none, none, none, none] [] (tw X A L) (jRi (-1) (tw X A L))
  refine j_aload_n dX11_read_0 rfl rfl ?_
  refine j_iload_n dX11_read_1 rfl rfl ?_
  refine j_callVi [.int _] [] dX11_read_2 jlk_X11_228 rfl rfl rfl rfl (Nat.le_of_ble_eq_true rfl) (m_bytesIs_no h) ?_
  refine j_iconst (v := (-1)) dX11_read_5 rfl ?_
  refine j_icmp_eq (tgt := 43) dX11_read_6 (by decide) (fun _ => ?_) (fun h => absurd (by decide) h)
  refine j_iconst (v := (-1)) dX11_read_43 rfl ?_
  refine j_ireturn dX11_read_44 rfl ?_
  exact ⟨rfl, rfl⟩

set_option maxHeartbeats 200000 in
set_option maxRecDepth 100000 in
theorem m_read_f (hn : X 76 7 = nI na) (h6a : na ≤ 6) {j : Nat} (hj : j < 6) {h b so : Nat} (hs : A 100 j = mshI h b so) (h2 : h ≤ 2) (hb50 : h = 1 → b < 50) (so4 : so ≤ 4) (hf : bfI h so ≠ 0) {k x q : Nat} (hk : k < na) (hx : x < 300) (hq : q < 3) : jMet (d + 3) yX11_read cX11_read 9 (some .int) 0 0 [.ref 76, .int (nI j), .int (nI k), .int (nI x), .int (nI q)] (tw X A L) (jRi (bfI h so) (tw X A L)) := by
  refine jMet_of (by decide) (Nat.le_of_ble_eq_true rfl) none (Or.inl rfl) ?_
  show jWP none RX11 cX11_read 9 (some .int) (d + 3) 0 0 0 [some (.ref 76), some (.int (nI j)), some (.int (nI k)), some (.int (nI x)), some (.int (nI q)), none, none, none, none] [] (tw X A L) (jRi (bfI h so) (tw X A L))
  refine j_aload_n dX11_read_0 rfl rfl ?_
  refine j_iload_n dX11_read_1 rfl rfl ?_
  refine j_callVi [.int _] [] dX11_read_2 jlk_X11_228 rfl rfl rfl rfl (Nat.le_of_ble_eq_true rfl) (m_bytesIs_f hj hs h2 hb50 so4 hf) ?_
  refine j_iconst (v := (-1)) dX11_read_5 rfl ?_
  refine j_icmp_eq (tgt := 43) dX11_read_6 (by decide) (fun h6 => absurd h6 (bf_neg h2 hf).2) (fun h6 => ?_)
  refine j_aload_n dX11_read_9 rfl rfl ?_
  refine j_iload_n dX11_read_10 rfl rfl ?_
  refine j_i2l dX11_read_11 ?_
  refine j_callVi [.long _] [] dX11_read_12 jlk_X11_128 rfl rfl rfl rfl (Nat.le_of_ble_eq_true rfl) (jMet_i (m_isAccount hn h6a) (isA_in hk (by omega)) rfl) ?_
  refine j_if_eq (tgt := 43) dX11_read_15 (by decide) (fun h => absurd h (by decide)) (fun _ => ?_)
  refine j_iload_n dX11_read_18 rfl rfl ?_
  refine j_i2l dX11_read_19 ?_
  refine j_lconst (v := 0) dX11_read_20 rfl ?_
  refine j_ldc2 dX11_read_21 jw_k_X11_304 ?_
  refine j_callSi [.long _, .long _, .long _] [] dX11_read_24 jlk_X11_111 rfl rfl (Nat.le_of_ble_eq_true rfl) (jMet_i m_within (wi_in (k := 299) (by omega) (by decide) (by decide)) rfl) ?_
  refine j_if_eq (tgt := 43) dX11_read_27 (by decide) (fun h => absurd h (by decide)) (fun _ => ?_)
  refine j_iload dX11_read_30 rfl ?_
  refine j_i2l dX11_read_32 ?_
  refine j_lconst (v := 0) dX11_read_33 rfl ?_
  refine j_ldc2 dX11_read_34 jw_k_X11_131 ?_
  refine j_callSi [.long _, .long _, .long _] [] dX11_read_37 jlk_X11_111 rfl rfl (Nat.le_of_ble_eq_true rfl) (jMet_i m_within (wi_in (k := 2) (by omega) (by decide) (by decide)) rfl) ?_
  refine j_if_ne (tgt := 45) dX11_read_40 (by decide) (fun _ => ?_) (fun h => absurd h (by decide))
  refine j_aload_n dX11_read_45 rfl rfl ?_
  refine j_iload_n dX11_read_46 rfl rfl ?_
  refine j_callVi [.int _] [] dX11_read_47 jlk_X11_228 rfl rfl rfl rfl (Nat.le_of_ble_eq_true rfl) (m_bytesIs_f hj hs h2 hb50 so4 hf) ?_
  refine j_if_ge (tgt := 59) dX11_read_50 (by decide) (fun h50 => absurd (bf_neg h2 hf).1 (Int32.not_lt.mpr h50)) (fun h50 => ?_)
  refine j_aload_n dX11_read_53 rfl rfl ?_
  refine j_iload_n dX11_read_54 rfl rfl ?_
  refine j_callVi [.int _] [] dX11_read_55 jlk_X11_228 rfl rfl rfl rfl (Nat.le_of_ble_eq_true rfl) (m_bytesIs_f hj hs h2 hb50 so4 hf) ?_
  refine j_ireturn dX11_read_58 rfl ?_
  exact ⟨rfl, rfl⟩

set_option maxHeartbeats 200000 in
set_option maxRecDepth 100000 in
theorem m_read_x0 (hn : X 76 7 = nI na) (h6a : na ≤ 6) {j : Nat} (hj : j < 6) {h b so : Nat} (hs : A 100 j = mshI h b so) (h2 : h ≤ 2) (hb50 : h = 1 → b < 50) (so4 : so ≤ 4) (hf : bfI h so ≠ 0) {a x q : Int32} (hx : isA na a = nI 0 ∨ isA 300 x = nI 0 ∨ isA 3 q = nI 0) : jMet (d + 3) yX11_read cX11_read 9 (some .int) 0 0 [.ref 76, .int (nI j), .int a, .int x, .int q] (tw X A L) (jRi (-1) (tw X A L)) := by
  refine jMet_of (by decide) (Nat.le_of_ble_eq_true rfl) none (Or.inl rfl) ?_
  show jWP none RX11 cX11_read 9 (some .int) (d + 3) 0 0 0 [some (.ref 76), some (.int (nI j)), some (.int a), some (.int x), some (.int q), none, none, none, none] [] (tw X A L) (jRi (-1) (tw X A L))
  refine j_aload_n dX11_read_0 rfl rfl ?_
  refine j_iload_n dX11_read_1 rfl rfl ?_
  refine j_callVi [.int _] [] dX11_read_2 jlk_X11_228 rfl rfl rfl rfl (Nat.le_of_ble_eq_true rfl) (m_bytesIs_f hj hs h2 hb50 so4 hf) ?_
  refine j_iconst (v := (-1)) dX11_read_5 rfl ?_
  refine j_icmp_eq (tgt := 43) dX11_read_6 (by decide) (fun h6 => absurd h6 (bf_neg h2 hf).2) (fun h6 => ?_)
  refine j_aload_n dX11_read_9 rfl rfl ?_
  refine j_iload_n dX11_read_10 rfl rfl ?_
  refine j_i2l dX11_read_11 ?_
  refine j_callVi [.long _] [] dX11_read_12 jlk_X11_128 rfl rfl rfl rfl (Nat.le_of_ble_eq_true rfl) (m_isAccount hn h6a) ?_
  refine j_if_eq (tgt := 43) dX11_read_15 (by decide) (fun h15 => ?_) (fun h15 => ?_)
  · refine j_iconst (v := (-1)) dX11_read_43 rfl ?_
    refine j_ireturn dX11_read_44 rfl ?_
    exact ⟨rfl, rfl⟩
  · refine j_iload_n dX11_read_18 rfl rfl ?_
    refine j_i2l dX11_read_19 ?_
    refine j_lconst (v := 0) dX11_read_20 rfl ?_
    refine j_ldc2 dX11_read_21 jw_k_X11_304 ?_
    refine j_callSi [.long _, .long _, .long _] [] dX11_read_24 jlk_X11_111 rfl rfl (Nat.le_of_ble_eq_true rfl) (jMet_i m_within (wi_A (k := 299) (by decide) (by decide)) rfl) ?_
    refine j_if_eq (tgt := 43) dX11_read_27 (by decide) (fun h27 => ?_) (fun h27 => ?_)
    · refine j_iconst (v := (-1)) dX11_read_43 rfl ?_
      refine j_ireturn dX11_read_44 rfl ?_
      exact ⟨rfl, rfl⟩
    · refine j_iload dX11_read_30 rfl ?_
      refine j_i2l dX11_read_32 ?_
      refine j_lconst (v := 0) dX11_read_33 rfl ?_
      refine j_ldc2 dX11_read_34 jw_k_X11_131 ?_
      refine j_callSi [.long _, .long _, .long _] [] dX11_read_37 jlk_X11_111 rfl rfl (Nat.le_of_ble_eq_true rfl) (jMet_i m_within (wi_A (k := 2) (by decide) (by decide)) rfl) ?_
      refine j_if_ne (tgt := 45) dX11_read_40 (by decide) (fun h40 => ?_) (fun h40 => ?_)
      · exact absurd hx (fun z => z.elim h15 (fun z => z.elim h27 h40))
      · refine j_iconst (v := (-1)) dX11_read_43 rfl ?_
        refine j_ireturn dX11_read_44 rfl ?_
        exact ⟨rfl, rfl⟩

set_option maxHeartbeats 200000 in
set_option maxRecDepth 100000 in
theorem m_read_x1 (hn : X 76 7 = nI na) (h6a : na ≤ 6) {j : Nat} (hj : j < 6) (hs : A 100 j = nI 50) {a x q : Int32} (hx : isA na a = nI 0 ∨ isA 300 x = nI 0 ∨ isA 3 q = nI 0) : jMet (d + 3) yX11_read cX11_read 9 (some .int) 0 0 [.ref 76, .int (nI j), .int a, .int x, .int q] (tw X A L) (jRi (-1) (tw X A L)) := by
  refine jMet_of (by decide) (Nat.le_of_ble_eq_true rfl) none (Or.inl rfl) ?_
  show jWP none RX11 cX11_read 9 (some .int) (d + 3) 0 0 0 [some (.ref 76), some (.int (nI j)), some (.int a), some (.int x), some (.int q), none, none, none, none] [] (tw X A L) (jRi (-1) (tw X A L))
  refine j_aload_n dX11_read_0 rfl rfl ?_
  refine j_iload_n dX11_read_1 rfl rfl ?_
  refine j_callVi [.int _] [] dX11_read_2 jlk_X11_228 rfl rfl rfl rfl (Nat.le_of_ble_eq_true rfl) (m_bytesIs hj hs) ?_
  refine j_iconst (v := (-1)) dX11_read_5 rfl ?_
  refine j_icmp_eq (tgt := 43) dX11_read_6 (by decide) (fun h => absurd h (by decide)) (fun _ => ?_)
  refine j_aload_n dX11_read_9 rfl rfl ?_
  refine j_iload_n dX11_read_10 rfl rfl ?_
  refine j_i2l dX11_read_11 ?_
  refine j_callVi [.long _] [] dX11_read_12 jlk_X11_128 rfl rfl rfl rfl (Nat.le_of_ble_eq_true rfl) (m_isAccount hn h6a) ?_
  refine j_if_eq (tgt := 43) dX11_read_15 (by decide) (fun h15 => ?_) (fun h15 => ?_)
  · refine j_iconst (v := (-1)) dX11_read_43 rfl ?_
    refine j_ireturn dX11_read_44 rfl ?_
    exact ⟨rfl, rfl⟩
  · refine j_iload_n dX11_read_18 rfl rfl ?_
    refine j_i2l dX11_read_19 ?_
    refine j_lconst (v := 0) dX11_read_20 rfl ?_
    refine j_ldc2 dX11_read_21 jw_k_X11_304 ?_
    refine j_callSi [.long _, .long _, .long _] [] dX11_read_24 jlk_X11_111 rfl rfl (Nat.le_of_ble_eq_true rfl) (jMet_i m_within (wi_A (k := 299) (by decide) (by decide)) rfl) ?_
    refine j_if_eq (tgt := 43) dX11_read_27 (by decide) (fun h27 => ?_) (fun h27 => ?_)
    · refine j_iconst (v := (-1)) dX11_read_43 rfl ?_
      refine j_ireturn dX11_read_44 rfl ?_
      exact ⟨rfl, rfl⟩
    · refine j_iload dX11_read_30 rfl ?_
      refine j_i2l dX11_read_32 ?_
      refine j_lconst (v := 0) dX11_read_33 rfl ?_
      refine j_ldc2 dX11_read_34 jw_k_X11_131 ?_
      refine j_callSi [.long _, .long _, .long _] [] dX11_read_37 jlk_X11_111 rfl rfl (Nat.le_of_ble_eq_true rfl) (jMet_i m_within (wi_A (k := 2) (by decide) (by decide)) rfl) ?_
      refine j_if_ne (tgt := 45) dX11_read_40 (by decide) (fun h40 => ?_) (fun h40 => ?_)
      · exact absurd hx (fun z => z.elim h15 (fun z => z.elim h27 h40))
      · refine j_iconst (v := (-1)) dX11_read_43 rfl ?_
        refine j_ireturn dX11_read_44 rfl ?_
        exact ⟨rfl, rfl⟩

set_option maxHeartbeats 200000 in
set_option maxRecDepth 100000 in
theorem l_open1 {g t : Nat} {e : Int32} {E : Nat → Int32} (hg : g ≤ 10) (ht : t < 1024) (h92 : ∀ i, i < g → A 92 i = E i) (hce : ∀ i, i < g → cN E i < 49 ∧ E i = nI (cN E i)) {u : Int32} {y1 y2 : Int32} {post : Option Value → jW → Prop} (kk : jWP none RX11 cX11_open 8 (some .int) (d + 2) 0 0 91 [some (.ref 76), some (.int y1), some (.int y2), some (.int u), some (.int (nI (2 ^ g))), none, none, none] [] (tw (gX X g e t) (va_up A 93 (cpN (fun s => bz ((fun s => decide (e + ssum (A 85) E s g = u)) s)) (A 93) (2 ^ g))) L) post) : ∀ (m i : Nat), i ≤ 2 ^ g → 2 ^ g - i < m → jWP none RX11 cX11_open 8 (some .int) (d + 2) 0 0 52 [some (.ref 76), some (.int y1), some (.int y2), some (.int u), some (.int (nI i)), none, none, none] [] (tw (gX X g e t) (va_up A 93 (cpN (fun s => bz ((fun s => decide (e + ssum (A 85) E s g = u)) s)) (A 93) i)) L) (post) := by
  have hp2 := p1024 hg
  intro m
  induction m with
  | zero => intro i h1 h2; omega
  | succ m ih =>
    intro i hi hm
    refine j_iload dX11_open_52 rfl ?_
    refine j_iconst (v := nI 1) dX11_open_54 rfl ?_
    refine j_aload_n dX11_open_55 rfl rfl ?_
    refine t_getI dX11_open_56 jfl_X11_295 (fun _ _ _ => rfl) (fun _ => rfl) ?_
    refine j_topE gX_27 ?_
    refine j_ishl dX11_open_59 ?_
    refine j_topE (e' := nI (2 ^ g)) (shl_tab hg) ?_
    refine jn_icmp_ge (tgt := 91) dX11_open_60 (by decide) (by omega) (by omega) (fun h60 => ?_) (fun h60 => ?_)
    · obtain rfl : i = 2 ^ g := by omega
      exact j_sub (by exact ⟨rfl, rfl, rfl, rfl, rfl, trivial⟩) kk
    · refine j_aload_n dX11_open_63 rfl rfl ?_
      refine t_getR (b := 93) dX11_open_64 jfl_X11_61 (fun _ _ _ => rfl) rfl ?_
      refine j_iload dX11_open_67 rfl ?_
      refine j_aload_n dX11_open_69 rfl rfl ?_
      refine j_iload dX11_open_70 rfl ?_
      refine j_callVi [.int _] [.int _, .ref 93] dX11_open_72 jlk_X11_310 rfl rfl rfl rfl (Nat.le_of_ble_eq_true rfl) (m_sumBy (A := va_up A 93 _) hg (fun i hi => (congrFun (vu_n _ _ _ (show (92 : Nat) ≠ 93 by decide)) i).trans (h92 i hi)) hce (by omega)) ?_
      rw [vu_n _ _ _ (show (85 : Nat) ≠ 93 by decide)]
      refine j_iload_n dX11_open_75 rfl rfl ?_
      refine j_icmp_ne (tgt := 83) dX11_open_76 (by decide) (fun h76 => ?_) (fun h76 => ?_)
      · refine j_iconst (v := nI 0) dX11_open_83 rfl ?_
        refine t_bastore dX11_open_84 (fun _ _ _ => rfl) (by omega) (by decide) (by decide) ?_
        refine jn_iinc (lv' := [some (.ref 76), some (.int _), some (.int _), some (.int _), some (.int _), none, none, none]) dX11_open_85 rfl (by decide) rfl ?_
        refine j_goto (tgt := 52) dX11_open_88 (by decide) ?_
        refine j_atw ?_ (ih (i + 1) (by omega) (by omega))
        rw [vu_s, vu_up]
        rw [cpN_v (f := fun s => bz ((fun s => decide (e + ssum (A 85) E s g = u)) s)) (i := i) (show _ = bz ((fun s => decide (e + ssum (A 85) E s g = u)) i) from by rw [show (fun s => decide (e + ssum (A 85) E s g = u)) i = false from decide_eq_false h76]; rfl)]
      · refine j_iconst (v := nI 1) dX11_open_79 rfl ?_
        refine j_goto (tgt := 84) dX11_open_80 (by decide) ?_
        refine t_bastore dX11_open_84 (fun _ _ _ => rfl) (by omega) (by decide) (by decide) ?_
        refine jn_iinc (lv' := [some (.ref 76), some (.int _), some (.int _), some (.int _), some (.int _), none, none, none]) dX11_open_85 rfl (by decide) rfl ?_
        refine j_goto (tgt := 52) dX11_open_88 (by decide) ?_
        refine j_atw ?_ (ih (i + 1) (by omega) (by omega))
        rw [vu_s, vu_up]
        rw [cpN_v (f := fun s => bz ((fun s => decide (e + ssum (A 85) E s g = u)) s)) (i := i) (show _ = bz ((fun s => decide (e + ssum (A 85) E s g = u)) i) from by rw [show (fun s => decide (e + ssum (A 85) E s g = u)) i = true from decide_eq_true (by first | exact h76 | simpa using h76)]; rfl)]

end CT65