section CT66
variable {d : Nat} {X A : Nat → Nat → Int32} {L : Nat → Nat → Int64} {w : jW} {tx v : Nat → Nat} {na tm : Nat} {td : Bool}

set_option maxHeartbeats 200000 in
set_option maxRecDepth 100000 in
theorem l_open_in {g t : Nat} {e : Int32} (hg : g ≤ 10) (ht : t < 1024) {mk : Nat → Bool} {P : Nat → Nat → Int32} (h93 : ∀ s, s < 2 ^ g → P 93 s = bz (mk s)) {b op : Nat} (hb : b < 1024) (hop : op < 1024) {u y1 y2 : Int32} {post : Option Value → jW → Prop} (kk : jWP none RX11 cX11_open 8 (some .int) (d + 2) 0 0 184 [some (.ref 76), some (.int y1), some (.int y2), some (.int u), some (.int (nI b)), some (.int (nI op)), some (.int (nI (cnt (opB mk t op) (2 ^ g)))), some (.int (nI (2 ^ g)))] [] (tw (gX X g e t) P L) post) : ∀ (m i : Nat), i ≤ 2 ^ g → 2 ^ g - i < m → jWP none RX11 cX11_open 8 (some .int) (d + 2) 0 0 134 [some (.ref 76), some (.int y1), some (.int y2), some (.int u), some (.int (nI b)), some (.int (nI op)), some (.int (nI (cnt (opB mk t op) i))), some (.int (nI i))] [] (tw (gX X g e t) P L) (post) := by
  have hp2 := p1024 hg
  intro m
  induction m with
  | zero => intro i h1 h2; omega
  | succ m ih =>
    intro i hi hm
    have hcn := cnt_le (opB mk t op) i
    refine j_iload dX11_open_134 rfl ?_
    refine j_iconst (v := nI 1) dX11_open_136 rfl ?_
    refine j_aload_n dX11_open_137 rfl rfl ?_
    refine t_getI dX11_open_138 jfl_X11_295 (fun _ _ _ => rfl) (fun _ => rfl) ?_
    refine j_topE gX_27 ?_
    refine j_ishl dX11_open_141 ?_
    refine j_topE (e' := nI (2 ^ g)) (shl_tab hg) ?_
    refine jn_icmp_ge (tgt := 184) dX11_open_142 (by decide) (by omega) (by omega) (fun h142 => ?_) (fun h142 => ?_)
    · obtain rfl : i = 2 ^ g := by omega
      exact j_sub (by exact ⟨rfl, rfl, rfl, rfl, rfl, rfl, rfl, rfl, trivial⟩) kk
    · refine j_iload dX11_open_145 rfl ?_
      refine j_aload_n dX11_open_147 rfl rfl ?_
      refine t_getR (b := 93) dX11_open_148 jfl_X11_61 (fun _ _ _ => rfl) rfl ?_
      refine j_iload dX11_open_151 rfl ?_
      refine t_baload dX11_open_153 (fun _ _ _ => rfl) (by omega) (by decide) ?_
      refine j_topE (e' := bz (mk i)) (h93 i (by omega)) ?_
      refine j_if_eq (tgt := 174) dX11_open_154 (by decide) (fun h154 => ?_) (fun h154 => ?_)
      · have h154 := bz_f h154
        refine j_iconst (v := nI 0) dX11_open_174 rfl ?_
        refine jn_iadd dX11_open_175 ?_
        refine j_istore (lv' := [some (.ref 76), some (.int _), some (.int _), some (.int _), some (.int _), some (.int _), some (.int _), some (.int _)]) dX11_open_176 (by decide) rfl ?_
        refine jn_iinc (lv' := [some (.ref 76), some (.int _), some (.int _), some (.int _), some (.int _), some (.int _), some (.int _), some (.int _)]) dX11_open_178 rfl (by decide) rfl ?_
        refine j_goto (tgt := 134) dX11_open_181 (by decide) ?_
        refine j_sub ?_ (ih (i + 1) (by omega) (by omega))
        have hp : opB mk t op i = false := by unfold opB; rw [h154]; rfl
        have e1 : cnt (opB mk t op) (i + 1) = cnt (opB mk t op) i := by show (if opB mk t op i = true then _ else _) = _; rw [hp, if_neg (by decide)]
        rw [e1]
        exact ⟨rfl, rfl, rfl, rfl, rfl, rfl, rfl, rfl, trivial⟩
      · have h154 := bz_t h154
        refine j_iload dX11_open_157 rfl ?_
        refine j_aload_n dX11_open_159 rfl rfl ?_
        refine t_getI dX11_open_160 jfl_X11_301 (fun _ _ _ => rfl) (fun _ => rfl) ?_
        refine j_topE gX_29 ?_
        refine j_ixor dX11_open_163 ?_
        refine j_topE (e' := nI (i ^^^ t)) (nI_xor _ _) ?_
        refine j_iload dX11_open_164 rfl ?_
        refine j_iand dX11_open_166 ?_
        refine j_topE (e' := nI ((i ^^^ t) &&& op)) (nI_and _ _) ?_
        refine jn_if_ne (tgt := 174) dX11_open_167 (by decide) (Nat.lt_of_le_of_lt Nat.and_le_right (by omega)) (fun h167 => ?_) (fun h167 => ?_)
        · refine j_iconst (v := nI 0) dX11_open_174 rfl ?_
          refine jn_iadd dX11_open_175 ?_
          refine j_istore (lv' := [some (.ref 76), some (.int _), some (.int _), some (.int _), some (.int _), some (.int _), some (.int _), some (.int _)]) dX11_open_176 (by decide) rfl ?_
          refine jn_iinc (lv' := [some (.ref 76), some (.int _), some (.int _), some (.int _), some (.int _), some (.int _), some (.int _), some (.int _)]) dX11_open_178 rfl (by decide) rfl ?_
          refine j_goto (tgt := 134) dX11_open_181 (by decide) ?_
          refine j_sub ?_ (ih (i + 1) (by omega) (by omega))
          have hp : opB mk t op i = false := by unfold opB; rw [decide_eq_false (Nat.ne_of_gt h167), Bool.and_false]
          have e1 : cnt (opB mk t op) (i + 1) = cnt (opB mk t op) i := by show (if opB mk t op i = true then _ else _) = _; rw [hp, if_neg (by decide)]
          rw [e1]
          exact ⟨rfl, rfl, rfl, rfl, rfl, rfl, rfl, rfl, trivial⟩
        · refine j_iconst (v := nI 1) dX11_open_170 rfl ?_
          refine j_goto (tgt := 175) dX11_open_171 (by decide) ?_
          refine jn_iadd dX11_open_175 ?_
          refine j_istore (lv' := [some (.ref 76), some (.int _), some (.int _), some (.int _), some (.int _), some (.int _), some (.int _), some (.int _)]) dX11_open_176 (by decide) rfl ?_
          refine jn_iinc (lv' := [some (.ref 76), some (.int _), some (.int _), some (.int _), some (.int _), some (.int _), some (.int _), some (.int _)]) dX11_open_178 rfl (by decide) rfl ?_
          refine j_goto (tgt := 134) dX11_open_181 (by decide) ?_
          refine j_sub ?_ (ih (i + 1) (by omega) (by omega))
          have hp : opB mk t op i = true := by unfold opB; rw [h154, decide_eq_true h167]; rfl
          have e1 : cnt (opB mk t op) (i + 1) = cnt (opB mk t op) i + 1 := by show (if opB mk t op i = true then _ else _) = _; rw [if_pos hp]
          rw [e1]
          exact ⟨rfl, rfl, rfl, rfl, rfl, rfl, rfl, rfl, trivial⟩

set_option maxHeartbeats 200000 in
set_option maxRecDepth 100000 in
theorem l_open_out {g t : Nat} {e : Int32} (hg : g ≤ 10) (ht : t < 1024) {mk : Nat → Bool} {P : Nat → Nat → Int32} (h93 : ∀ s, s < 2 ^ g → P 93 s = bz (mk s)) {u y1 y2 : Int32} : ∀ (m i : Nat), i ≤ 2 ^ g → 2 ^ g - i < m → ∀ (z6 z7 : Option Value), jWP none RX11 cX11_open 8 (some .int) (d + 2) 0 0 104 [some (.ref 76), some (.int y1), some (.int y2), some (.int u), some (.int (nI (boM mk t g i))), some (.int (nI i)), z6, z7] [] (tw (gX X g e t) P L) (jRi (nI (boM mk t g (2 ^ g))) (tw (gX X g e t) P L)) := by
  have hp2 := p1024 hg
  intro m
  induction m with
  | zero => intro i h1 h2; omega
  | succ m ih =>
    intro i hi hm z6 z7
    have hb := boM_le mk t g i hi
    have hb1 := pcN_le (boM mk t g i)
    have hb2 := pcN_le i
    refine j_iload dX11_open_104 rfl ?_
    refine j_iconst (v := nI 1) dX11_open_106 rfl ?_
    refine j_aload_n dX11_open_107 rfl rfl ?_
    refine t_getI dX11_open_108 jfl_X11_295 (fun _ _ _ => rfl) (fun _ => rfl) ?_
    refine j_topE gX_27 ?_
    refine j_ishl dX11_open_111 ?_
    refine j_topE (e' := nI (2 ^ g)) (shl_tab hg) ?_
    refine jn_icmp_ge (tgt := 205) dX11_open_112 (by decide) (by omega) (by omega) (fun h112 => ?_) (fun h112 => ?_)
    · refine j_iload dX11_open_205 rfl ?_
      refine j_ireturn dX11_open_207 rfl ?_
      obtain rfl : i = 2 ^ g := by omega
      exact ⟨rfl, rfl⟩
    · refine j_iload dX11_open_115 rfl ?_
      refine j_callSi [.int _] [] dX11_open_117 jlk_X11_313 rfl rfl (Nat.le_of_ble_eq_true rfl) (m_bitsOf (by omega)) ?_
      refine j_iload dX11_open_120 rfl ?_
      refine j_callSi [.int _] [.int _] dX11_open_122 jlk_X11_313 rfl rfl (Nat.le_of_ble_eq_true rfl) (m_bitsOf (by omega)) ?_
      refine jn_icmp_ge (tgt := 199) dX11_open_125 (by decide) (by omega) (by omega) (fun h125 => ?_) (fun h125 => ?_)
      · refine jn_iinc (lv' := [some (.ref 76), some (.int _), some (.int _), some (.int _), some (.int _), some (.int _), _, _]) dX11_open_199 rfl (by decide) rfl ?_
        refine j_goto (tgt := 104) dX11_open_202 (by decide) ?_
        have e1 : boM mk t g (i + 1) = boM mk t g i := by
          show (if pcN i < pcN (boM mk t g i) then (if cnt (opB mk t i) (2 ^ g) = 1 then i else boM mk t g i) else boM mk t g i) = _
          rw [if_neg (by omega)]
        refine j_at ?_ (ih (i + 1) (by omega) (by omega) z6 z7)
        rw [e1]
      · refine j_iconst (v := nI 0) dX11_open_128 rfl ?_
        refine j_istore (lv' := [some (.ref 76), some (.int _), some (.int _), some (.int _), some (.int _), some (.int _), some (.int _), _]) dX11_open_129 (by decide) rfl ?_
        refine j_iconst (v := nI 0) dX11_open_131 rfl ?_
        refine j_istore (lv' := [some (.ref 76), some (.int _), some (.int _), some (.int _), some (.int _), some (.int _), some (.int _), some (.int _)]) dX11_open_132 (by decide) rfl ?_
        refine l_open_in hg ht h93 (b := boM mk t g i) (op := i) (by omega) (by omega) ?_ (2 ^ g + 1) 0 (Nat.zero_le _) (by omega)
        refine j_iload dX11_open_184 rfl ?_
        refine j_iconst (v := nI 1) dX11_open_186 rfl ?_
        refine jn_icmp_ne (tgt := 195) dX11_open_187 (by decide) (Nat.lt_of_le_of_lt (cnt_le _ _) (by omega)) (by omega) (fun h187 => ?_) (fun h187 => ?_)
        · refine j_iload dX11_open_195 rfl ?_
          refine j_istore (lv' := [some (.ref 76), some (.int _), some (.int _), some (.int _), some (.int _), some (.int _), some (.int _), some (.int _)]) dX11_open_197 (by decide) rfl ?_
          refine jn_iinc (lv' := [some (.ref 76), some (.int _), some (.int _), some (.int _), some (.int _), some (.int _), some (.int _), some (.int _)]) dX11_open_199 rfl (by decide) rfl ?_
          refine j_goto (tgt := 104) dX11_open_202 (by decide) ?_
          have e1 : boM mk t g (i + 1) = boM mk t g i := by
            show (if pcN i < pcN (boM mk t g i) then (if cnt (opB mk t i) (2 ^ g) = 1 then i else boM mk t g i) else boM mk t g i) = _
            rw [if_pos (by omega), if_neg h187]
          refine j_at ?_ (ih (i + 1) (by omega) (by omega) (some (.int (nI (cnt (opB mk t i) (2 ^ g))))) (some (.int (nI (2 ^ g)))))
          rw [e1]
        · refine j_iload dX11_open_190 rfl ?_
          refine j_goto (tgt := 197) dX11_open_192 (by decide) ?_
          refine j_istore (lv' := [some (.ref 76), some (.int _), some (.int _), some (.int _), some (.int _), some (.int _), some (.int _), some (.int _)]) dX11_open_197 (by decide) rfl ?_
          refine jn_iinc (lv' := [some (.ref 76), some (.int _), some (.int _), some (.int _), some (.int _), some (.int _), some (.int _), some (.int _)]) dX11_open_199 rfl (by decide) rfl ?_
          refine j_goto (tgt := 104) dX11_open_202 (by decide) ?_
          have e1 : boM mk t g (i + 1) = i := by
            show (if pcN i < pcN (boM mk t g i) then (if cnt (opB mk t i) (2 ^ g) = 1 then i else boM mk t g i) else boM mk t g i) = _
            rw [if_pos (by omega), if_pos (by first | exact h187 | simpa using h187)]
          refine j_at ?_ (ih (i + 1) (by omega) (by omega) (some (.int (nI (cnt (opB mk t i) (2 ^ g))))) (some (.int (nI (2 ^ g)))))
          rw [e1]

set_option maxHeartbeats 200000 in
set_option maxRecDepth 100000 in
theorem m_open (hn : X 76 7 = nI na) (h6a : na ≤ 6) (z1 : zb 49 (A 82)) (z2 : zb 49 (A 83)) (z3 : zb 49 (A 84)) (z4 : zb 49 (A 85)) (hw : ow (A 82)) {j ln : Nat} (hj : j < 6) {E : Nat → Int32} (hs : A 100 j = nI 50) (hm : A 101 j = nI ln) (l60 : ln ≤ 60) (hE : ∀ i, i < ln → L 102 (60 * j + i) = (E i).toInt64) {k : Nat} (hk : k < na) : jMet (d + 3) yX11_open cX11_open 8 (some .int) 0 0 [.ref 76, .int (nI j), .int (nI k)] (tw X A L) (jRi (nI (boM (fun s => decide ((rsS (A 82) (A 83) E (nI k) (balS (A 82) (A 83) (nI k) 49) (gC (A 82) E ln)) + ssum (A 83) E s (gC (A 82) E ln) = ((rsS (A 82) (A 83) E (nI k) (balS (A 82) (A 83) (nI k) 49) (gC (A 82) E ln)) + ssum (A 83) E (trS (A 82) E (nI k) (gC (A 82) E ln)) (gC (A 82) E ln)))) (trS (A 82) E (nI k) (gC (A 82) E ln)) (gC (A 82) E ln) (2 ^ (gC (A 82) E ln)))) (tw (gX X (gC (A 82) E ln) (rsS (A 82) (A 83) E (nI k) (balS (A 82) (A 83) (nI k) 49) (gC (A 82) E ln)) (trS (A 82) E (nI k) (gC (A 82) E ln))) (va_up (va_up (mA A (A 82) (A 83)) 92 (csF (A 92) E (gC (A 82) E ln))) 93 (cpN (fun s => bz ((fun s => decide ((rsS (A 82) (A 83) E (nI k) (balS (A 82) (A 83) (nI k) 49) (gC (A 82) E ln)) + ssum (A 83) E s (gC (A 82) E ln) = ((rsS (A 82) (A 83) E (nI k) (balS (A 82) (A 83) (nI k) 49) (gC (A 82) E ln)) + ssum (A 83) E (trS (A 82) E (nI k) (gC (A 82) E ln)) (gC (A 82) E ln)))) s)) (A 93) (2 ^ (gC (A 82) E ln)))) L)) := by
  refine jMet_of (by decide) (Nat.le_of_ble_eq_true rfl) none (Or.inl rfl) ?_
  show jWP none RX11 cX11_open 8 (some .int) (d + 3) 0 0 0 [some (.ref 76), some (.int (nI j)), some (.int (nI k)), none, none, none, none, none] [] (tw X A L) (jRi (nI (boM (fun s => decide ((rsS (A 82) (A 83) E (nI k) (balS (A 82) (A 83) (nI k) 49) (gC (A 82) E ln)) + ssum (A 83) E s (gC (A 82) E ln) = ((rsS (A 82) (A 83) E (nI k) (balS (A 82) (A 83) (nI k) 49) (gC (A 82) E ln)) + ssum (A 83) E (trS (A 82) E (nI k) (gC (A 82) E ln)) (gC (A 82) E ln)))) (trS (A 82) E (nI k) (gC (A 82) E ln)) (gC (A 82) E ln) (2 ^ (gC (A 82) E ln)))) (tw (gX X (gC (A 82) E ln) (rsS (A 82) (A 83) E (nI k) (balS (A 82) (A 83) (nI k) 49) (gC (A 82) E ln)) (trS (A 82) E (nI k) (gC (A 82) E ln))) (va_up (va_up (mA A (A 82) (A 83)) 92 (csF (A 92) E (gC (A 82) E ln))) 93 (cpN (fun s => bz ((fun s => decide ((rsS (A 82) (A 83) E (nI k) (balS (A 82) (A 83) (nI k) 49) (gC (A 82) E ln)) + ssum (A 83) E s (gC (A 82) E ln) = ((rsS (A 82) (A 83) E (nI k) (balS (A 82) (A 83) (nI k) 49) (gC (A 82) E ln)) + ssum (A 83) E (trS (A 82) E (nI k) (gC (A 82) E ln)) (gC (A 82) E ln)))) s)) (A 93) (2 ^ (gC (A 82) E ln)))) L))
  have hg := gC_le (A 82) E ln
  have hp1 := p1024 hg.1
  have htr : (trS (A 82) E (nI k) (gC (A 82) E ln)) < 1024 := Nat.lt_of_lt_of_le (trS_lt _) hp1.1
  have hce : ∀ i, i < (gC (A 82) E ln) → cN E i < 49 ∧ E i = nI (cN E i) := fun i hi => by have q := gok_cell (gcF_ok (O := A 82) (b := E) (min 10 ln) 0 i (Nat.zero_le _) hi); exact ⟨q.1, q.2.1⟩
  have h92 : ∀ i, i < (gC (A 82) E ln) → va_up (mA A (A 82) (A 83)) 92 (csF (A 92) E (gC (A 82) E ln)) 92 i = E i := fun i hi => by rw [vu_s]; exact csF_at hi
  have h85 : va_up (mA A (A 82) (A 83)) 92 (csF (A 92) E (gC (A 82) E ln)) 85 = A 83 := by rw [vu_n _ _ _ (by decide), mA_85]
  refine j_aload_n dX11_open_0 rfl rfl ?_
  refine j_iload_n dX11_open_1 rfl rfl ?_
  refine j_callVi [.int _] [] dX11_open_2 jlk_X11_228 rfl rfl rfl rfl (Nat.le_of_ble_eq_true rfl) (m_bytesIs hj hs) ?_
  refine j_iconst (v := (-1)) dX11_open_5 rfl ?_
  refine j_icmp_eq (tgt := 18) dX11_open_6 (by decide) (fun h => absurd h (by decide)) (fun _ => ?_)
  refine j_aload_n dX11_open_9 rfl rfl ?_
  refine j_iload_n dX11_open_10 rfl rfl ?_
  refine j_i2l dX11_open_11 ?_
  refine j_callVi [.long _] [] dX11_open_12 jlk_X11_128 rfl rfl rfl rfl (Nat.le_of_ble_eq_true rfl) (jMet_i (m_isAccount hn h6a) (isA_in hk (by omega)) rfl) ?_
  refine j_if_ne (tgt := 20) dX11_open_15 (by decide) (fun _ => ?_) (fun h => absurd h (by decide))
  refine j_aload_n dX11_open_20 rfl rfl ?_
  refine j_iload_n dX11_open_21 rfl rfl ?_
  refine j_callVi [.int _] [] dX11_open_22 jlk_X11_228 rfl rfl rfl rfl (Nat.le_of_ble_eq_true rfl) (m_bytesIs hj hs) ?_
  refine j_if_ge (tgt := 34) dX11_open_25 (by decide) (fun _ => ?_) (fun h => absurd (by decide) h)
  refine j_aload_n dX11_open_34 rfl rfl ?_
  refine j_iload_n dX11_open_35 rfl rfl ?_
  refine j_iload_n dX11_open_36 rfl rfl ?_
  refine j_callVv [.int _, .int _] [] dX11_open_37 jlk_X11_306 rfl rfl rfl rfl (Nat.le_of_ble_eq_true rfl) (m_asksGaps z1 z2 z3 z4 hw hj hm l60 hE) ?_
  refine j_aload_n dX11_open_40 rfl rfl ?_
  refine j_aload_n dX11_open_41 rfl rfl ?_
  refine t_getI dX11_open_42 jfl_X11_301 (fun _ _ _ => rfl) (fun _ => rfl) ?_
  refine j_topE gX_29 ?_
  refine j_callVi [.int _] [] dX11_open_45 jlk_X11_310 rfl rfl rfl rfl (Nat.le_of_ble_eq_true rfl) (m_sumBy (A := (va_up (mA A (A 82) (A 83)) 92 (csF (A 92) E (gC (A 82) E ln)))) (g := (gC (A 82) E ln)) hg.1 h92 hce htr) ?_
  rw [h85]
  refine j_istore_n (lv' := [some (.ref 76), some (.int _), some (.int _), some (.int _), none, none, none, none]) dX11_open_48 rfl (by decide) rfl ?_
  refine j_iconst (v := nI 0) dX11_open_49 rfl ?_
  refine j_istore (lv' := [some (.ref 76), some (.int _), some (.int _), some (.int _), some (.int _), none, none, none]) dX11_open_50 (by decide) rfl ?_
  have q := l_open1 (d := d + 1) (X := X) (A := (va_up (mA A (A 82) (A 83)) 92 (csF (A 92) E (gC (A 82) E ln)))) (L := L) (g := (gC (A 82) E ln)) (t := (trS (A 82) E (nI k) (gC (A 82) E ln))) (e := (rsS (A 82) (A 83) E (nI k) (balS (A 82) (A 83) (nI k) 49) (gC (A 82) E ln))) hg.1 htr h92 hce (u := ((rsS (A 82) (A 83) E (nI k) (balS (A 82) (A 83) (nI k) 49) (gC (A 82) E ln)) + ssum (A 83) E (trS (A 82) E (nI k) (gC (A 82) E ln)) (gC (A 82) E ln))) (y1 := nI j) (y2 := nI k) (post := jRi (nI (boM (fun s => decide ((rsS (A 82) (A 83) E (nI k) (balS (A 82) (A 83) (nI k) 49) (gC (A 82) E ln)) + ssum (A 83) E s (gC (A 82) E ln) = ((rsS (A 82) (A 83) E (nI k) (balS (A 82) (A 83) (nI k) 49) (gC (A 82) E ln)) + ssum (A 83) E (trS (A 82) E (nI k) (gC (A 82) E ln)) (gC (A 82) E ln)))) (trS (A 82) E (nI k) (gC (A 82) E ln)) (gC (A 82) E ln) (2 ^ (gC (A 82) E ln)))) (tw (gX X (gC (A 82) E ln) (rsS (A 82) (A 83) E (nI k) (balS (A 82) (A 83) (nI k) 49) (gC (A 82) E ln)) (trS (A 82) E (nI k) (gC (A 82) E ln))) (va_up (va_up (mA A (A 82) (A 83)) 92 (csF (A 92) E (gC (A 82) E ln))) 93 (cpN (fun s => bz ((fun s => decide ((rsS (A 82) (A 83) E (nI k) (balS (A 82) (A 83) (nI k) 49) (gC (A 82) E ln)) + ssum (A 83) E s (gC (A 82) E ln) = ((rsS (A 82) (A 83) E (nI k) (balS (A 82) (A 83) (nI k) 49) (gC (A 82) E ln)) + ssum (A 83) E (trS (A 82) E (nI k) (gC (A 82) E ln)) (gC (A 82) E ln)))) s)) (A 93) (2 ^ (gC (A 82) E ln)))) L)) ?kk (2 ^ (gC (A 82) E ln) + 1) 0 (Nat.zero_le _) (by omega)
  case kk =>
    rw [h85]
    rw [show va_up (mA A (A 82) (A 83)) 92 (csF (A 92) E (gC (A 82) E ln)) 93 = A 93 from by rw [vu_n _ _ _ (by decide), mA_n _ _ _ (by decide) (by decide)]]
    refine j_iconst (v := nI 1) dX11_open_91 rfl ?_
    refine j_aload_n dX11_open_92 rfl rfl ?_
    refine t_getI dX11_open_93 jfl_X11_295 (fun _ _ _ => rfl) (fun _ => rfl) ?_
    refine j_topE gX_27 ?_
    refine j_ishl dX11_open_96 ?_
    refine j_topE (e' := nI (2 ^ (gC (A 82) E ln))) (shl_tab hg.1) ?_
    refine j_iconst (v := nI 1) dX11_open_97 rfl ?_
    refine jn_isub dX11_open_98 (by omega) ?_
    refine j_istore (lv' := [some (.ref 76), some (.int _), some (.int _), some (.int _), some (.int _), none, none, none]) dX11_open_99 (by decide) rfl ?_
    refine j_iconst (v := nI 0) dX11_open_101 rfl ?_
    refine j_istore (lv' := [some (.ref 76), some (.int _), some (.int _), some (.int _), some (.int _), some (.int _), none, none]) dX11_open_102 (by decide) rfl ?_
    have q := l_open_out (d := d + 1) (X := X) (L := L) (g := (gC (A 82) E ln)) (t := (trS (A 82) E (nI k) (gC (A 82) E ln))) (e := (rsS (A 82) (A 83) E (nI k) (balS (A 82) (A 83) (nI k) 49) (gC (A 82) E ln))) hg.1 htr (mk := (fun s => decide ((rsS (A 82) (A 83) E (nI k) (balS (A 82) (A 83) (nI k) 49) (gC (A 82) E ln)) + ssum (A 83) E s (gC (A 82) E ln) = ((rsS (A 82) (A 83) E (nI k) (balS (A 82) (A 83) (nI k) 49) (gC (A 82) E ln)) + ssum (A 83) E (trS (A 82) E (nI k) (gC (A 82) E ln)) (gC (A 82) E ln))))) (P := va_up (va_up (mA A (A 82) (A 83)) 92 (csF (A 92) E (gC (A 82) E ln))) 93 (cpN (fun s => bz ((fun s => decide ((rsS (A 82) (A 83) E (nI k) (balS (A 82) (A 83) (nI k) 49) (gC (A 82) E ln)) + ssum (A 83) E s (gC (A 82) E ln) = ((rsS (A 82) (A 83) E (nI k) (balS (A 82) (A 83) (nI k) 49) (gC (A 82) E ln)) + ssum (A 83) E (trS (A 82) E (nI k) (gC (A 82) E ln)) (gC (A 82) E ln)))) s)) (A 93) (2 ^ (gC (A 82) E ln)))) (fun s hs => by rw [vu_s, cpN_at hs]) (u := ((rsS (A 82) (A 83) E (nI k) (balS (A 82) (A 83) (nI k) 49) (gC (A 82) E ln)) + ssum (A 83) E (trS (A 82) E (nI k) (gC (A 82) E ln)) (gC (A 82) E ln))) (y1 := nI j) (y2 := nI k) (2 ^ (gC (A 82) E ln) + 1) 0 (Nat.zero_le _) (by omega) none none
    exact q
  rw [h85] at q
  rw [cpN_0, vu_self] at q
  exact q

set_option maxHeartbeats 200000 in
set_option maxRecDepth 100000 in
theorem m_open_no {c a : Int32} (h : isA 6 c = nI 0) : jMet (d + 3) yX11_open cX11_open 8 (some .int) 0 0 [.ref 76, .int c, .int a] (tw X A L) (jRi (-1) (tw X A L)) := by
  refine jMet_of (by decide) (Nat.le_of_ble_eq_true rfl) none (Or.inl rfl) ?_
  show jWP none RX11 cX11_open 8 (some .int) (d + 3) 0 0 0 [some (.ref 76), some (.int c), some (.int a), none, none, none, none, none] [] (tw X A L) (jRi (-1) (tw X A L))
  refine j_aload_n dX11_open_0 rfl rfl ?_
  refine j_iload_n dX11_open_1 rfl rfl ?_
  refine j_callVi [.int _] [] dX11_open_2 jlk_X11_228 rfl rfl rfl rfl (Nat.le_of_ble_eq_true rfl) (m_bytesIs_no h) ?_
  refine j_iconst (v := (-1)) dX11_open_5 rfl ?_
  refine j_icmp_eq (tgt := 18) dX11_open_6 (by decide) (fun _ => ?_) (fun h => absurd (by decide) h)
  refine j_iconst (v := (-1)) dX11_open_18 rfl ?_
  refine j_ireturn dX11_open_19 rfl ?_
  exact ⟨rfl, rfl⟩

set_option maxHeartbeats 200000 in
set_option maxRecDepth 100000 in
theorem m_open_f (hn : X 76 7 = nI na) (h6a : na ≤ 6) {j : Nat} (hj : j < 6) {h b so : Nat} (hs : A 100 j = mshI h b so) (h2 : h ≤ 2) (hb50 : h = 1 → b < 50) (so4 : so ≤ 4) (hf : bfI h so ≠ 0) {k : Nat} (hk : k < na) : jMet (d + 3) yX11_open cX11_open 8 (some .int) 0 0 [.ref 76, .int (nI j), .int (nI k)] (tw X A L) (jRi (bfI h so) (tw X A L)) := by
  refine jMet_of (by decide) (Nat.le_of_ble_eq_true rfl) none (Or.inl rfl) ?_
  show jWP none RX11 cX11_open 8 (some .int) (d + 3) 0 0 0 [some (.ref 76), some (.int (nI j)), some (.int (nI k)), none, none, none, none, none] [] (tw X A L) (jRi (bfI h so) (tw X A L))
  refine j_aload_n dX11_open_0 rfl rfl ?_
  refine j_iload_n dX11_open_1 rfl rfl ?_
  refine j_callVi [.int _] [] dX11_open_2 jlk_X11_228 rfl rfl rfl rfl (Nat.le_of_ble_eq_true rfl) (m_bytesIs_f hj hs h2 hb50 so4 hf) ?_
  refine j_iconst (v := (-1)) dX11_open_5 rfl ?_
  refine j_icmp_eq (tgt := 18) dX11_open_6 (by decide) (fun h6 => absurd h6 (bf_neg h2 hf).2) (fun h6 => ?_)
  refine j_aload_n dX11_open_9 rfl rfl ?_
  refine j_iload_n dX11_open_10 rfl rfl ?_
  refine j_i2l dX11_open_11 ?_
  refine j_callVi [.long _] [] dX11_open_12 jlk_X11_128 rfl rfl rfl rfl (Nat.le_of_ble_eq_true rfl) (jMet_i (m_isAccount hn h6a) (isA_in hk (by omega)) rfl) ?_
  refine j_if_ne (tgt := 20) dX11_open_15 (by decide) (fun _ => ?_) (fun h => absurd h (by decide))
  refine j_aload_n dX11_open_20 rfl rfl ?_
  refine j_iload_n dX11_open_21 rfl rfl ?_
  refine j_callVi [.int _] [] dX11_open_22 jlk_X11_228 rfl rfl rfl rfl (Nat.le_of_ble_eq_true rfl) (m_bytesIs_f hj hs h2 hb50 so4 hf) ?_
  refine j_if_ge (tgt := 34) dX11_open_25 (by decide) (fun h25 => absurd (bf_neg h2 hf).1 (Int32.not_lt.mpr h25)) (fun h25 => ?_)
  refine j_aload_n dX11_open_28 rfl rfl ?_
  refine j_iload_n dX11_open_29 rfl rfl ?_
  refine j_callVi [.int _] [] dX11_open_30 jlk_X11_228 rfl rfl rfl rfl (Nat.le_of_ble_eq_true rfl) (m_bytesIs_f hj hs h2 hb50 so4 hf) ?_
  refine j_ireturn dX11_open_33 rfl ?_
  exact ⟨rfl, rfl⟩

set_option maxHeartbeats 200000 in
set_option maxRecDepth 100000 in
theorem m_open_x0 (hn : X 76 7 = nI na) (h6a : na ≤ 6) {j : Nat} (hj : j < 6) {h b so : Nat} (hs : A 100 j = mshI h b so) (h2 : h ≤ 2) (hb50 : h = 1 → b < 50) (so4 : so ≤ 4) (hf : bfI h so ≠ 0) {a : Int32} (hx : isA na a = nI 0) : jMet (d + 3) yX11_open cX11_open 8 (some .int) 0 0 [.ref 76, .int (nI j), .int a] (tw X A L) (jRi (-1) (tw X A L)) := by
  refine jMet_of (by decide) (Nat.le_of_ble_eq_true rfl) none (Or.inl rfl) ?_
  show jWP none RX11 cX11_open 8 (some .int) (d + 3) 0 0 0 [some (.ref 76), some (.int (nI j)), some (.int a), none, none, none, none, none] [] (tw X A L) (jRi (-1) (tw X A L))
  refine j_aload_n dX11_open_0 rfl rfl ?_
  refine j_iload_n dX11_open_1 rfl rfl ?_
  refine j_callVi [.int _] [] dX11_open_2 jlk_X11_228 rfl rfl rfl rfl (Nat.le_of_ble_eq_true rfl) (m_bytesIs_f hj hs h2 hb50 so4 hf) ?_
  refine j_iconst (v := (-1)) dX11_open_5 rfl ?_
  refine j_icmp_eq (tgt := 18) dX11_open_6 (by decide) (fun h6 => absurd h6 (bf_neg h2 hf).2) (fun h6 => ?_)
  refine j_aload_n dX11_open_9 rfl rfl ?_
  refine j_iload_n dX11_open_10 rfl rfl ?_
  refine j_i2l dX11_open_11 ?_
  refine j_callVi [.long _] [] dX11_open_12 jlk_X11_128 rfl rfl rfl rfl (Nat.le_of_ble_eq_true rfl) (m_isAccount hn h6a) ?_
  refine j_if_ne (tgt := 20) dX11_open_15 (by decide) (fun h15 => ?_) (fun h15 => ?_)
  · exact absurd hx h15
  · refine j_iconst (v := (-1)) dX11_open_18 rfl ?_
    refine j_ireturn dX11_open_19 rfl ?_
    exact ⟨rfl, rfl⟩

set_option maxHeartbeats 200000 in
set_option maxRecDepth 100000 in
theorem m_open_x1 (hn : X 76 7 = nI na) (h6a : na ≤ 6) {j : Nat} (hj : j < 6) (hs : A 100 j = nI 50) {a : Int32} (hx : isA na a = nI 0) : jMet (d + 3) yX11_open cX11_open 8 (some .int) 0 0 [.ref 76, .int (nI j), .int a] (tw X A L) (jRi (-1) (tw X A L)) := by
  refine jMet_of (by decide) (Nat.le_of_ble_eq_true rfl) none (Or.inl rfl) ?_
  show jWP none RX11 cX11_open 8 (some .int) (d + 3) 0 0 0 [some (.ref 76), some (.int (nI j)), some (.int a), none, none, none, none, none] [] (tw X A L) (jRi (-1) (tw X A L))
  refine j_aload_n dX11_open_0 rfl rfl ?_
  refine j_iload_n dX11_open_1 rfl rfl ?_
  refine j_callVi [.int _] [] dX11_open_2 jlk_X11_228 rfl rfl rfl rfl (Nat.le_of_ble_eq_true rfl) (m_bytesIs hj hs) ?_
  refine j_iconst (v := (-1)) dX11_open_5 rfl ?_
  refine j_icmp_eq (tgt := 18) dX11_open_6 (by decide) (fun h => absurd h (by decide)) (fun _ => ?_)
  refine j_aload_n dX11_open_9 rfl rfl ?_
  refine j_iload_n dX11_open_10 rfl rfl ?_
  refine j_i2l dX11_open_11 ?_
  refine j_callVi [.long _] [] dX11_open_12 jlk_X11_128 rfl rfl rfl rfl (Nat.le_of_ble_eq_true rfl) (m_isAccount hn h6a) ?_
  refine j_if_ne (tgt := 20) dX11_open_15 (by decide) (fun h15 => ?_) (fun h15 => ?_)
  · exact absurd hx h15
  · refine j_iconst (v := (-1)) dX11_open_18 rfl ?_
    refine j_ireturn dX11_open_19 rfl ?_
    exact ⟨rfl, rfl⟩

end CT66