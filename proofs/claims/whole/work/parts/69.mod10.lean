/-- heat by the reference: all cells behind a that lie beside it -/
def hbS (S : Nat → Int32) (a : Nat) : Nat → (Nat → Int32) × Nat → (Nat → Int32) × Nat
  | 0, s => s
  | n + 1, s => if (decide (a < n) && isNx a n) = true then (rtS (hbS S a n s).1 S a n, if rtB (hbS S a n s).1 a n = true then (hbS S a n s).2 + 1 else (hbS S a n s).2) else hbS S a n s
def hmC (O S : Nat → Int32) : Nat → (Nat → Int32) × Nat
  | 0 => (O, 0)
  | a + 1 => hbS S a 49 (hmC O S a)
theorem hbS_lo {S : Nat → Int32} {a : Nat} {s : (Nat → Int32) × Nat} : ∀ n, n ≤ a + 1 → hbS S a n s = s
  | 0, _ => rfl
  | n + 1, h => by
    show (if (decide (a < n) && isNx a n) = true then _ else hbS S a n s) = s
    rw [if_neg (by rw [decide_eq_false (by omega)]; simp)]
    exact hbS_lo n (by omega)
theorem nb_cnt {c n : Nat} (hc : c < 49) (hn : n < 49) (h : isNx c n = true) : nb c (cnt (isNx c) n) = n := by
  have q : (List.range 49).all (fun c => (List.range 49).all fun n => !isNx c n || decide (nb c (cnt (isNx c) n) = n)) = true := by decide +kernel
  have q2 := List.all_eq_true.mp (List.all_eq_true.mp q c (List.mem_range.mpr hc)) n (List.mem_range.mpr hn)
  rw [h] at q2
  exact of_decide_eq_true (by simpa using q2)
theorem hbS_htK {S : Nat → Int32} {c : Nat} (hc : c < 49) {s : (Nat → Int32) × Nat} : ∀ n, n ≤ 49 → hbS S c n s = htK S c (cnt (isNx c) n) s
  | 0, _ => rfl
  | n + 1, hn => by
    have ih := hbS_htK hc (s := s) (S := S) n (by omega)
    show (if (decide (c < n) && isNx c n) = true then _ else hbS S c n s) = htK S c (if isNx c n = true then cnt (isNx c) n + 1 else cnt (isNx c) n) s
    rw [ih]
    by_cases hx : isNx c n = true
    · rw [if_pos hx]
      have e := nb_cnt hc (show n < 49 by omega) hx
      show _ = if c < nb c (cnt (isNx c) n) then _ else _
      rw [e]
      by_cases hl : c < n
      · rw [if_pos hl, if_pos (by rw [hx]; simp [hl])]
      · rw [if_neg hl, if_neg (by simp [hl])]
    · rw [if_neg hx, if_neg (by simp [hx])]
theorem hmC_eq (O S : Nat → Int32) : ∀ c, c ≤ 49 → hmC O S c = htC O S c
  | 0, _ => rfl
  | c + 1, h => by
    show hbS S c 49 (hmC O S c) = htK S c (dg c) (htC O S c)
    rw [hmC_eq O S c (by omega), hbS_htK (by omega) 49 (Nat.le_refl _), dg_cnt]
/-- as held and as sealed as before -/
def sm (O O' : Nat → Int32) : Prop := ∀ x, heldB O' x = heldB O x
theorem sm_sl {O O' : Nat → Int32} (h : sm O O') (c : Nat) : slB O' c = slB O c := by
  unfold slB eN
  rw [h c, show (fun x => isNx c x && !heldB O' x) = (fun x => isNx c x && !heldB O x) from funext fun x => by rw [h x]]
theorem sm_rt {O O' S : Nat → Int32} (h : sm O O') (a b : Nat) : sm O (rtS O' S a b) := fun x => (rtS_held x).trans (h x)
theorem ow_rt {O S : Nat → Int32} (h : ow O) {a b : Nat} (ha : a < 49) (hb : b < 49) : ow (rtS O S a b) := by
  unfold rtS rtO
  split
  · split
    · exact ow_upd h (h b hb)
    · exact ow_upd h (h a ha)
  · exact h
theorem hbS_ok {O S : Nat → Int32} {a : Nat} (ha : a < 49) {s : (Nat → Int32) × Nat} (h1 : sm O s.1) (h2 : ow s.1) : ∀ n, n ≤ 49 → sm O (hbS S a n s).1 ∧ ow (hbS S a n s).1
  | 0, _ => ⟨h1, h2⟩
  | n + 1, hn => by
    have ih := hbS_ok ha h1 h2 (S := S) n (by omega)
    unfold hbS
    split
    · exact ⟨sm_rt ih.1 _ _, ow_rt ih.2 ha (by omega)⟩
    · exact ih
theorem hmC_ok {O S : Nat → Int32} (h : ow O) : ∀ a, a ≤ 49 → sm O (hmC O S a).1 ∧ ow (hmC O S a).1
  | 0, _ => ⟨fun _ => rfl, h⟩
  | a + 1, ha => hbS_ok (by omega) (hmC_ok h a (by omega)).1 (hmC_ok h a (by omega)).2 49 (Nat.le_refl _)
theorem hbS_n {S : Nat → Int32} {a n : Nat} {s : (Nat → Int32) × Nat} (h : isNx a n = false) : hbS S a (n + 1) s = hbS S a n s := by
  show (if (decide (a < n) && isNx a n) = true then _ else hbS S a n s) = _
  rw [if_neg (by rw [h]; simp)]
theorem hbS_f {S : Nat → Int32} {a n : Nat} {s : (Nat → Int32) × Nat} (h : rtB (hbS S a n s).1 a n = false) : hbS S a (n + 1) s = hbS S a n s := by
  show (if (decide (a < n) && isNx a n) = true then (rtS (hbS S a n s).1 S a n, if rtB (hbS S a n s).1 a n = true then _ else _) else hbS S a n s) = _
  split
  · unfold rtS
    rw [h]
    rfl
  · rfl
theorem hbS_t {S : Nat → Int32} {a n : Nat} {s : (Nat → Int32) × Nat} (hl : a < n) (hx : isNx a n = true) (h : rtB (hbS S a n s).1 a n = true) : hbS S a (n + 1) s = (rtO (hbS S a n s).1 S a n, (hbS S a n s).2 + 1) := by
  show (if (decide (a < n) && isNx a n) = true then (rtS (hbS S a n s).1 S a n, if rtB (hbS S a n s).1 a n = true then (hbS S a n s).2 + 1 else (hbS S a n s).2) else hbS S a n s) = _
  rw [if_pos (by rw [hx]; simp [hl]), if_pos h]
  unfold rtS
  rw [if_pos h]
theorem hbS_2 {S : Nat → Int32} {a : Nat} {s : (Nat → Int32) × Nat} : ∀ n, (hbS S a n s).2 ≤ s.2 + n
  | 0 => Nat.le_refl _
  | n + 1 => by
    have h := hbS_2 (S := S) (a := a) (s := s) n
    have e : hbS S a (n + 1) s = if (decide (a < n) && isNx a n) = true then (rtS (hbS S a n s).1 S a n, if rtB (hbS S a n s).1 a n = true then (hbS S a n s).2 + 1 else (hbS S a n s).2) else hbS S a n s := rfl
    rw [e]
    by_cases q : (decide (a < n) && isNx a n) = true
    · rw [if_pos q]
      show (if rtB (hbS S a n s).1 a n = true then (hbS S a n s).2 + 1 else (hbS S a n s).2) ≤ s.2 + (n + 1)
      by_cases q2 : rtB (hbS S a n s).1 a n = true
      · rw [if_pos q2]; omega
      · rw [if_neg q2]; omega
    · rw [if_neg q]; omega
theorem hmC_2 {O S : Nat → Int32} : ∀ a, (hmC O S a).2 ≤ 49 * a
  | 0 => Nat.le_refl _
  | a + 1 => by
    have h1 := hmC_2 (O := O) (S := S) a
    have h2 := hbS_2 (S := S) (a := a) (s := hmC O S a) 49
    show (hbS S a 49 (hmC O S a)).2 ≤ 49 * (a + 1)
    omega
section CT49
variable {d : Nat} {X A : Nat → Nat → Int32} {L : Nat → Nat → Int64} {w : jW} {na nb : Nat} {v kd : Nat → Nat}

set_option maxHeartbeats 200000 in
set_option maxRecDepth 100000 in
theorem l_heats1 (hw : ow (A 84)) {post : Option Value → jW → Prop} (kk : jWP none RX11 cX11_heats 5 (some .int) (d + 2) 0 0 27 [some (.ref 76), some (.int (nI 0)), some (.int (nI 49)), none, none] [] (tw X (eA A (A 84) (A 85) (cpN (fun c => bz (slB (A 84) c)) (A 89) 49)) L) post) : ∀ (m i : Nat), i ≤ 49 → 49 - i < m → jWP none RX11 cX11_heats 5 (some .int) (d + 2) 0 0 4 [some (.ref 76), some (.int (nI 0)), some (.int (nI i)), none, none] [] (tw X (eA A (A 84) (A 85) (cpN (fun c => bz (slB (A 84) c)) (A 89) i)) L) (post) := by
  intro m
  induction m with
  | zero => intro i h1 h2; omega
  | succ m ih =>
    intro i hi hm
    refine j_iload_n dX11_heats_4 rfl rfl ?_
    refine j_bipush (v := nI 49) dX11_heats_5 rfl ?_
    refine jn_icmp_ge (tgt := 27) dX11_heats_7 (by decide) (by omega) (by omega) (fun h7 => ?_) (fun h7 => ?_)
    · obtain rfl : i = 49 := by omega
      exact kk
    · refine j_aload_n dX11_heats_10 rfl rfl ?_
      refine t_getR (b := 89) dX11_heats_11 jfl_X11_48 (fun _ _ _ => rfl) rfl ?_
      refine j_iload_n dX11_heats_14 rfl rfl ?_
      refine j_aload_n dX11_heats_15 rfl rfl ?_
      refine j_iload_n dX11_heats_16 rfl rfl ?_
      refine j_callVi [.int _] [.int _, .ref 89] dX11_heats_17 jlk_X11_152 rfl rfl rfl rfl (Nat.le_of_ble_eq_true rfl) (m_isSealed (by rw [eA_84]; exact hw) (by omega)) ?_
      rw [eA_84]
      refine t_bastore dX11_heats_20 (fun _ _ _ => rfl) (by omega) (by decide) (bz01 _) ?_
      rw [eA_89, cpN_v rfl, eA_p89]
      refine jn_iinc (lv' := [some (.ref 76), some (.int _), some (.int _), none, none]) dX11_heats_21 rfl (by decide) rfl ?_
      refine j_goto (tgt := 4) dX11_heats_24 (by decide) ?_
      exact ih (i + 1) (by omega) (by omega)

set_option maxHeartbeats 200000 in
set_option maxRecDepth 100000 in
theorem l_heats2 {a : Nat} (ha : a < 49) {s : (Nat → Int32) × Nat} (h1 : sm (A 84) s.1) (h2 : ow s.1) (h3 : s.2 ≤ 49 * a) {post : Option Value → jW → Prop} (kk : jWP none RX11 cX11_heats 5 (some .int) (d + 2) 0 0 156 [some (.ref 76), some (.int (nI (hbS (A 85) a 49 s).2)), some (.int (nI a)), some (.int (nI 49)), none] [] (tw X (eA A (hbS (A 85) a 49 s).1 (A 85) (cpN (fun c => bz (slB (A 84) c)) (A 89) 49)) L) post) : ∀ (m b : Nat), a < b → b ≤ 49 → 49 - b < m → jWP none RX11 cX11_heats 5 (some .int) (d + 2) 0 0 39 [some (.ref 76), some (.int (nI (hbS (A 85) a b s).2)), some (.int (nI a)), some (.int (nI b)), none] [] (tw X (eA A (hbS (A 85) a b s).1 (A 85) (cpN (fun c => bz (slB (A 84) c)) (A 89) 49)) L) (post) := by
  intro m
  induction m with
  | zero => intro b h1 h2 h3; omega
  | succ m ih =>
    intro b hb1 hb2 hm
    obtain ⟨hsm, hwo⟩ := hbS_ok (S := A 85) ha h1 h2 b hb2
    have hc2 := hbS_2 (S := A 85) (a := a) (s := s) b
    refine j_iload_n dX11_heats_39 rfl rfl ?_
    refine j_bipush (v := nI 49) dX11_heats_40 rfl ?_
    refine jn_icmp_ge (tgt := 156) dX11_heats_42 (by decide) (by omega) (by omega) (fun h42 => ?_) (fun h42 => ?_)
    · obtain rfl : b = 49 := by omega
      exact j_sub (by exact ⟨rfl, rfl, rfl, rfl, trivial⟩) kk
    · refine j_iload_n dX11_heats_45 rfl rfl ?_
      refine j_iload_n dX11_heats_46 rfl rfl ?_
      refine j_callSi [.int _, .int _] [] dX11_heats_47 jlk_X11_99 rfl rfl (Nat.le_of_ble_eq_true rfl) (m_isNext ha (by omega)) ?_
      refine j_if_eq (tgt := 150) dX11_heats_50 (by decide) (fun h50 => ?_) (fun h50 => ?_)
      · have h50 := bz_f h50
        refine jn_iinc (lv' := [some (.ref 76), some (.int _), some (.int _), some (.int _), none]) dX11_heats_150 rfl (by decide) rfl ?_
        refine j_goto (tgt := 39) dX11_heats_153 (by decide) ?_
        refine j_sub ?_ (j_atw ?_ (ih (b + 1) (by omega) (by omega) (by omega)))
        · rw [hbS_n h50]
          exact ⟨rfl, rfl, rfl, rfl, trivial⟩
        · rw [hbS_n h50]
      · have h50 := bz_t h50
        refine j_aload_n dX11_heats_53 rfl rfl ?_
        refine j_iload_n dX11_heats_54 rfl rfl ?_
        refine j_callVi [.int _] [] dX11_heats_55 jlk_X11_147 rfl rfl rfl rfl (Nat.le_of_ble_eq_true rfl) (m_holds (c := a) (show ow _ from by rw [eA_84]; exact hwo) (by omega)) ?_
        rw [eA_84]
        refine j_if_eq (tgt := 150) dX11_heats_58 (by decide) (fun h58 => ?_) (fun h58 => ?_)
        · have h58 := bz_f h58
          refine jn_iinc (lv' := [some (.ref 76), some (.int _), some (.int _), some (.int _), none]) dX11_heats_150 rfl (by decide) rfl ?_
          refine j_goto (tgt := 39) dX11_heats_153 (by decide) ?_
          refine j_sub ?_ (j_atw ?_ (ih (b + 1) (by omega) (by omega) (by omega)))
          · have hb : rtB (hbS (A 85) a b s).1 a b = false := by unfold rtB; rw [h58]; simp
            rw [hbS_f hb]
            exact ⟨rfl, rfl, rfl, rfl, trivial⟩
          · have hb : rtB (hbS (A 85) a b s).1 a b = false := by unfold rtB; rw [h58]; simp
            rw [hbS_f hb]
        · have h58 := bz_t h58
          refine j_aload_n dX11_heats_61 rfl rfl ?_
          refine j_iload_n dX11_heats_62 rfl rfl ?_
          refine j_callVi [.int _] [] dX11_heats_63 jlk_X11_147 rfl rfl rfl rfl (Nat.le_of_ble_eq_true rfl) (m_holds (c := b) (show ow _ from by rw [eA_84]; exact hwo) (by omega)) ?_
          rw [eA_84]
          refine j_if_eq (tgt := 150) dX11_heats_66 (by decide) (fun h66 => ?_) (fun h66 => ?_)
          · have h66 := bz_f h66
            refine jn_iinc (lv' := [some (.ref 76), some (.int _), some (.int _), some (.int _), none]) dX11_heats_150 rfl (by decide) rfl ?_
            refine j_goto (tgt := 39) dX11_heats_153 (by decide) ?_
            refine j_sub ?_ (j_atw ?_ (ih (b + 1) (by omega) (by omega) (by omega)))
            · have hb : rtB (hbS (A 85) a b s).1 a b = false := by unfold rtB; rw [h58, h66]; simp
              rw [hbS_f hb]
              exact ⟨rfl, rfl, rfl, rfl, trivial⟩
            · have hb : rtB (hbS (A 85) a b s).1 a b = false := by unfold rtB; rw [h58, h66]; simp
              rw [hbS_f hb]
          · have h66 := bz_t h66
            refine j_aload_n dX11_heats_69 rfl rfl ?_
            refine t_getR (b := 89) dX11_heats_70 jfl_X11_48 (fun _ _ _ => rfl) rfl ?_
            refine j_iload_n dX11_heats_73 rfl rfl ?_
            refine t_baload dX11_heats_74 (fun _ _ _ => rfl) (by omega) (by decide) ?_
            refine j_topE (e' := bz (slB (A 84) a)) (by rw [eA_89, cpN_at (by omega)]) ?_
            refine j_if_ne (tgt := 150) dX11_heats_75 (by decide) (fun h75 => ?_) (fun h75 => ?_)
            · have h75 : slB (A 84) a = true := by
                cases q : slB (A 84) a with
                | true => rfl
                | false => rw [q] at h75; exact absurd rfl h75
              refine jn_iinc (lv' := [some (.ref 76), some (.int _), some (.int _), some (.int _), none]) dX11_heats_150 rfl (by decide) rfl ?_
              refine j_goto (tgt := 39) dX11_heats_153 (by decide) ?_
              refine j_sub ?_ (j_atw ?_ (ih (b + 1) (by omega) (by omega) (by omega)))
              · have hb : rtB (hbS (A 85) a b s).1 a b = false := by unfold rtB; rw [h58, h66, sm_sl hsm, h75]; simp
                rw [hbS_f hb]
                exact ⟨rfl, rfl, rfl, rfl, trivial⟩
              · have hb : rtB (hbS (A 85) a b s).1 a b = false := by unfold rtB; rw [h58, h66, sm_sl hsm, h75]; simp
                rw [hbS_f hb]
            · have h75 : slB (A 84) a = false := by
                cases q : slB (A 84) a with
                | false => rfl
                | true => rw [q] at h75; exact absurd (show bz true = 0 from by first | exact h75 | simpa using h75) (by decide)
              refine j_aload_n dX11_heats_78 rfl rfl ?_
              refine t_getR (b := 89) dX11_heats_79 jfl_X11_48 (fun _ _ _ => rfl) rfl ?_
              refine j_iload_n dX11_heats_82 rfl rfl ?_
              refine t_baload dX11_heats_83 (fun _ _ _ => rfl) (by omega) (by decide) ?_
              refine j_topE (e' := bz (slB (A 84) b)) (by rw [eA_89, cpN_at (by omega)]) ?_
              refine j_if_ne (tgt := 150) dX11_heats_84 (by decide) (fun h84 => ?_) (fun h84 => ?_)
              · have h84 : slB (A 84) b = true := by
                  cases q : slB (A 84) b with
                  | true => rfl
                  | false => rw [q] at h84; exact absurd rfl h84
                refine jn_iinc (lv' := [some (.ref 76), some (.int _), some (.int _), some (.int _), none]) dX11_heats_150 rfl (by decide) rfl ?_
                refine j_goto (tgt := 39) dX11_heats_153 (by decide) ?_
                refine j_sub ?_ (j_atw ?_ (ih (b + 1) (by omega) (by omega) (by omega)))
                · have hb : rtB (hbS (A 85) a b s).1 a b = false := by unfold rtB; rw [h58, h66, sm_sl hsm, sm_sl hsm, h75, h84]; simp
                  rw [hbS_f hb]
                  exact ⟨rfl, rfl, rfl, rfl, trivial⟩
                · have hb : rtB (hbS (A 85) a b s).1 a b = false := by unfold rtB; rw [h58, h66, sm_sl hsm, sm_sl hsm, h75, h84]; simp
                  rw [hbS_f hb]
              · have h84 : slB (A 84) b = false := by
                  cases q : slB (A 84) b with
                  | false => rfl
                  | true => rw [q] at h84; exact absurd (show bz true = 0 from by first | exact h84 | simpa using h84) (by decide)
                refine j_aload_n dX11_heats_87 rfl rfl ?_
                refine t_getR (b := 84) dX11_heats_88 jfl_X11_33 (fun _ _ _ => rfl) rfl ?_
                refine j_iload_n dX11_heats_91 rfl rfl ?_
                refine t_iaload dX11_heats_92 (fun _ _ _ => rfl) (by omega) (by decide) ?_
                refine j_topE (e' := (hbS (A 85) a b s).1 a) (by rw [eA_84]) ?_
                refine j_aload_n dX11_heats_93 rfl rfl ?_
                refine t_getR (b := 84) dX11_heats_94 jfl_X11_33 (fun _ _ _ => rfl) rfl ?_
                refine j_iload_n dX11_heats_97 rfl rfl ?_
                refine t_iaload dX11_heats_98 (fun _ _ _ => rfl) (by omega) (by decide) ?_
                refine j_topE (e' := (hbS (A 85) a b s).1 b) (by rw [eA_84]) ?_
                refine j_icmp_eq (tgt := 150) dX11_heats_99 (by decide) (fun h99 => ?_) (fun h99 => ?_)
                · have h99 := (by first | exact h99 | simpa using h99 : (hbS (A 85) a b s).1 a = (hbS (A 85) a b s).1 b)
                  refine jn_iinc (lv' := [some (.ref 76), some (.int _), some (.int _), some (.int _), none]) dX11_heats_150 rfl (by decide) rfl ?_
                  refine j_goto (tgt := 39) dX11_heats_153 (by decide) ?_
                  refine j_sub ?_ (j_atw ?_ (ih (b + 1) (by omega) (by omega) (by omega)))
                  · have hb : rtB (hbS (A 85) a b s).1 a b = false := by unfold rtB; rw [h58, h66, sm_sl hsm, sm_sl hsm, h75, h84, decide_eq_false (fun q => q h99)]; simp
                    rw [hbS_f hb]
                    exact ⟨rfl, rfl, rfl, rfl, trivial⟩
                  · have hb : rtB (hbS (A 85) a b s).1 a b = false := by unfold rtB; rw [h58, h66, sm_sl hsm, sm_sl hsm, h75, h84, decide_eq_false (fun q => q h99)]; simp
                    rw [hbS_f hb]
                · have hrt : rtB (hbS (A 85) a b s).1 a b = true := by unfold rtB; rw [h58, h66, sm_sl hsm, sm_sl hsm, h75, h84, decide_eq_true h99]; rfl
                  refine j_aload_n dX11_heats_102 rfl rfl ?_
                  refine t_getR (b := 85) dX11_heats_103 jfl_X11_36 (fun _ _ _ => rfl) rfl ?_
                  refine j_iload_n dX11_heats_106 rfl rfl ?_
                  refine t_iaload dX11_heats_107 (fun _ _ _ => rfl) (by omega) (by decide) ?_
                  refine j_topE (e' := A 85 a) (by rw [eA_85]) ?_
                  refine j_aload_n dX11_heats_108 rfl rfl ?_
                  refine t_getR (b := 85) dX11_heats_109 jfl_X11_36 (fun _ _ _ => rfl) rfl ?_
                  refine j_iload_n dX11_heats_112 rfl rfl ?_
                  refine t_iaload dX11_heats_113 (fun _ _ _ => rfl) (by omega) (by decide) ?_
                  refine j_topE (e' := A 85 b) (by rw [eA_85]) ?_
                  refine j_icmp_ge (tgt := 121) dX11_heats_114 (by decide) (fun h114 => ?_) (fun h114 => ?_)
                  · refine j_iload_n dX11_heats_121 rfl rfl ?_
                    refine j_istore (lv' := [some (.ref 76), some (.int _), some (.int _), some (.int _), some (.int _)]) dX11_heats_122 (by decide) rfl ?_
                    refine j_aload_n dX11_heats_124 rfl rfl ?_
                    refine t_getR (b := 84) dX11_heats_125 jfl_X11_33 (fun _ _ _ => rfl) rfl ?_
                    refine j_iload dX11_heats_128 rfl ?_
                    refine j_aload_n dX11_heats_130 rfl rfl ?_
                    refine t_getR (b := 84) dX11_heats_131 jfl_X11_33 (fun _ _ _ => rfl) rfl ?_
                    refine j_iload dX11_heats_134 rfl ?_
                    refine j_iload_n dX11_heats_136 rfl rfl ?_
                    refine jn_icmp_ne (tgt := 144) dX11_heats_137 (by decide) (by omega) (by omega) (fun h137 => ?_) (fun h137 => absurd h137 (by omega))
                    refine j_iload_n dX11_heats_144 rfl rfl ?_
                    refine t_iaload dX11_heats_145 (fun _ _ _ => rfl) (by omega) (by decide) ?_
                    refine j_topE (e' := _) (by rw [eA_84]) ?_
                    refine t_iastore dX11_heats_146 (fun _ _ _ => rfl) (by omega) (by decide) ?_
                    refine jn_iinc (lv' := [some (.ref 76), some (.int _), some (.int _), some (.int _), some (.int _)]) dX11_heats_147 rfl (by decide) rfl ?_
                    refine jn_iinc (lv' := [some (.ref 76), some (.int _), some (.int _), some (.int _), some (.int _)]) dX11_heats_150 rfl (by decide) rfl ?_
                    refine j_goto (tgt := 39) dX11_heats_153 (by decide) ?_
                    refine j_sub ?_ (j_atw ?_ (ih (b + 1) (by omega) (by omega) (by omega)))
                    · rw [hbS_t hb1 h50 hrt]; exact ⟨rfl, rfl, rfl, rfl, trivial⟩
                    · rw [hbS_t hb1 h50 hrt]; unfold rtO; rw [if_neg (Int32.not_lt.mpr h114), eA_84, eA_p84]
                  · refine j_iload_n dX11_heats_117 rfl rfl ?_
                    refine j_goto (tgt := 122) dX11_heats_118 (by decide) ?_
                    refine j_istore (lv' := [some (.ref 76), some (.int _), some (.int _), some (.int _), some (.int _)]) dX11_heats_122 (by decide) rfl ?_
                    refine j_aload_n dX11_heats_124 rfl rfl ?_
                    refine t_getR (b := 84) dX11_heats_125 jfl_X11_33 (fun _ _ _ => rfl) rfl ?_
                    refine j_iload dX11_heats_128 rfl ?_
                    refine j_aload_n dX11_heats_130 rfl rfl ?_
                    refine t_getR (b := 84) dX11_heats_131 jfl_X11_33 (fun _ _ _ => rfl) rfl ?_
                    refine j_iload dX11_heats_134 rfl ?_
                    refine j_iload_n dX11_heats_136 rfl rfl ?_
                    refine jn_icmp_ne (tgt := 144) dX11_heats_137 (by decide) (by omega) (by omega) (fun h137 => absurd rfl h137) (fun h137 => ?_)
                    refine j_iload_n dX11_heats_140 rfl rfl ?_
                    refine j_goto (tgt := 145) dX11_heats_141 (by decide) ?_
                    refine t_iaload dX11_heats_145 (fun _ _ _ => rfl) (by omega) (by decide) ?_
                    refine j_topE (e' := _) (by rw [eA_84]) ?_
                    refine t_iastore dX11_heats_146 (fun _ _ _ => rfl) (by omega) (by decide) ?_
                    refine jn_iinc (lv' := [some (.ref 76), some (.int _), some (.int _), some (.int _), some (.int _)]) dX11_heats_147 rfl (by decide) rfl ?_
                    refine jn_iinc (lv' := [some (.ref 76), some (.int _), some (.int _), some (.int _), some (.int _)]) dX11_heats_150 rfl (by decide) rfl ?_
                    refine j_goto (tgt := 39) dX11_heats_153 (by decide) ?_
                    refine j_sub ?_ (j_atw ?_ (ih (b + 1) (by omega) (by omega) (by omega)))
                    · rw [hbS_t hb1 h50 hrt]; exact ⟨rfl, rfl, rfl, rfl, trivial⟩
                    · rw [hbS_t hb1 h50 hrt]; unfold rtO; rw [if_pos (Int32.not_le.mp h114), eA_84, eA_p84]

set_option maxHeartbeats 200000 in
set_option maxRecDepth 100000 in
theorem l_heats3 (hw : ow (A 84)) : ∀ (m a : Nat), a ≤ 49 → 49 - a < m → jWP none RX11 cX11_heats 5 (some .int) (d + 2) 0 0 29 [some (.ref 76), some (.int (nI (hmC (A 84) (A 85) a).2)), some (.int (nI a)), none, none] [] (tw X (eA A (hmC (A 84) (A 85) a).1 (A 85) (cpN (fun c => bz (slB (A 84) c)) (A 89) 49)) L) ((fun z w => z = some (.int (nI (hmC (A 84) (A 85) 49).2)) ∧ ∃ Z, w = tw X (eA A (hmC (A 84) (A 85) 49).1 (A 85) Z) L)) := by
  intro m
  induction m with
  | zero => intro a h1 h2; omega
  | succ m ih =>
    intro a hi hm
    obtain ⟨hsm, hwo⟩ := hmC_ok (S := A 85) hw a hi
    have hc2 := hmC_2 (O := A 84) (S := A 85) a
    refine j_iload_n dX11_heats_29 rfl rfl ?_
    refine j_bipush (v := nI 49) dX11_heats_30 rfl ?_
    refine jn_icmp_ge (tgt := 162) dX11_heats_32 (by decide) (by omega) (by omega) (fun h32 => ?_) (fun h32 => ?_)
    · refine j_iload_n dX11_heats_162 rfl rfl ?_
      refine j_ireturn dX11_heats_163 rfl ?_
      obtain rfl : a = 49 := by omega
      exact ⟨rfl, _, rfl⟩
    · refine j_iload_n dX11_heats_35 rfl rfl ?_
      refine j_iconst (v := nI 1) dX11_heats_36 rfl ?_
      refine jn_iadd dX11_heats_37 ?_
      refine j_istore_n (lv' := [some (.ref 76), some (.int _), some (.int _), some (.int _), none]) dX11_heats_38 rfl (by decide) rfl ?_
      have q := l_heats2 (d := d) (X := X) (A := A) (L := L) (by omega) hsm hwo hc2 (post := (fun z w => z = some (.int (nI (hmC (A 84) (A 85) 49).2)) ∧ ∃ Z, w = tw X (eA A (hmC (A 84) (A 85) 49).1 (A 85) Z) L)) ?_ 49 (a + 1) (by omega) (by omega) (by omega)
      · rw [hbS_lo (a + 1) (Nat.le_refl _)] at q
        exact q
      · refine jn_iinc (lv' := [some (.ref 76), some (.int _), some (.int _), some (.int _), none]) dX11_heats_156 rfl (by decide) rfl ?_
        refine j_goto (tgt := 29) dX11_heats_159 (by decide) ?_
        exact j_sub (by exact ⟨rfl, rfl, rfl, trivial⟩) (ih (a + 1) (by omega) (by omega))

set_option maxHeartbeats 200000 in
set_option maxRecDepth 100000 in
theorem m_heats (hw : ow (A 84)) : jMet (d + 2) yX11_heats cX11_heats 5 (some .int) 0 0 [.ref 76] (tw X A L) ((fun z w => z = some (.int (nI (hmC (A 84) (A 85) 49).2)) ∧ ∃ Z, w = tw X (eA A (hmC (A 84) (A 85) 49).1 (A 85) Z) L)) := by
  refine jMet_of (by decide) (Nat.le_of_ble_eq_true rfl) none (Or.inl rfl) ?_
  show jWP none RX11 cX11_heats 5 (some .int) (d + 2) 0 0 0 [some (.ref 76), none, none, none, none] [] (tw X A L) ((fun z w => z = some (.int (nI (hmC (A 84) (A 85) 49).2)) ∧ ∃ Z, w = tw X (eA A (hmC (A 84) (A 85) 49).1 (A 85) Z) L))
  refine j_iconst (v := nI 0) dX11_heats_0 rfl ?_
  refine j_istore_n (lv' := [some (.ref 76), some (.int _), none, none, none]) dX11_heats_1 rfl (by decide) rfl ?_
  refine j_iconst (v := nI 0) dX11_heats_2 rfl ?_
  refine j_istore_n (lv' := [some (.ref 76), some (.int _), some (.int _), none, none]) dX11_heats_3 rfl (by decide) rfl ?_
  refine j_atw (congrArg (fun z => tw X z L) (show A = eA A (A 84) (A 85) (cpN (fun c => bz (slB (A 84) c)) (A 89) 0) from by rw [cpN_0, eA_self])) (l_heats1 hw ?_ 50 0 (by decide) (by decide))
  refine j_iconst (v := nI 0) dX11_heats_27 rfl ?_
  refine j_istore_n (lv' := [some (.ref 76), some (.int _), some (.int _), none, none]) dX11_heats_28 rfl (by decide) rfl ?_
  exact j_sub (by exact ⟨rfl, rfl, rfl, trivial⟩) (l_heats3 hw 50 0 (by decide) (by decide))

set_option maxHeartbeats 200000 in
set_option maxRecDepth 100000 in
theorem m_heat_all (z1 : zb 49 (A 82)) (z2 : zb 49 (A 83)) (z3 : zb 49 (A 84)) (z4 : zb 49 (A 85)) (hw : ow (A 82)) : jMet (d + 3) yX11_heat cX11_heat 3 (some .int) 0 0 [.ref 76, .int (-1)] (tw X A L) ((fun z w => z = some (.int (nI (hmC (A 82) (A 83) 49).2)) ∧ ∃ Z, w = tw X (eA A (hmC (A 82) (A 83) 49).1 (A 83) Z) L)) := by
  refine jMet_of (by decide) (Nat.le_of_ble_eq_true rfl) none (Or.inl rfl) ?_
  show jWP none RX11 cX11_heat 3 (some .int) (d + 3) 0 0 0 [some (.ref 76), some (.int (-1)), none] [] (tw X A L) ((fun z w => z = some (.int (nI (hmC (A 82) (A 83) 49).2)) ∧ ∃ Z, w = tw X (eA A (hmC (A 82) (A 83) 49).1 (A 83) Z) L))
  refine j_iload_n dX11_heat_0 rfl rfl ?_
  refine j_iconst (v := (-1)) dX11_heat_1 rfl ?_
  refine j_icmp_eq (tgt := 16) dX11_heat_2 (by decide) (fun _ => ?_) (fun h => absurd (by decide) h)
  refine j_aload_n dX11_heat_16 rfl rfl ?_
  refine j_callVv [] [] dX11_heat_17 jlk_X11_140 rfl rfl rfl rfl (Nat.le_of_ble_eq_true rfl) (m_begins1 z1 z2 z3 z4) ?_
  refine j_aload_n dX11_heat_20 rfl rfl ?_
  refine j_callV [] [] dX11_heat_21 jlk_X11_261 rfl rfl rfl rfl (Nat.le_of_ble_eq_true rfl) (m_heats (by rw [mA_84]; exact hw)) (fun r9 w9 h9 => ?_)
  obtain ⟨rfl, Z9, rfl⟩ := h9
  rw [mA_84, mA_85, mA_e]
  refine j_ats (st' := [.int _]) rfl ?_
  refine j_istore_n (lv' := [some (.ref 76), some (.int _), some (.int _)]) dX11_heat_24 rfl (by decide) rfl ?_
  refine j_iload_n dX11_heat_25 rfl rfl ?_
  refine j_if_ge (tgt := 33) dX11_heat_26 (by decide) (fun h => absurd h (by decide)) (fun _ => ?_)
  refine j_iload_n dX11_heat_29 rfl rfl ?_
  refine j_goto (tgt := 38) dX11_heat_30 (by decide) ?_
  refine j_ireturn dX11_heat_38 rfl ?_
  exact ⟨rfl, Z9, rfl⟩

set_option maxHeartbeats 200000 in
set_option maxRecDepth 100000 in
theorem m_heat (hn : X 76 7 = nI na) (h6 : na ≤ 6) (z1 : zb 49 (A 82)) (z2 : zb 49 (A 83)) (z3 : zb 49 (A 84)) (z4 : zb 49 (A 85)) (hw : ow (A 82)) {k : Nat} (hk : k < na) : jMet (d + 3) yX11_heat cX11_heat 3 (some .int) 0 0 [.ref 76, .int (nI k)] (tw X A L) ((fun z w => z = some (.int (balS (hmC (A 82) (A 83) 49).1 (A 83) (nI k) 49)) ∧ ∃ Z, w = tw X (eA A (hmC (A 82) (A 83) 49).1 (A 83) Z) L)) := by
  refine jMet_of (by decide) (Nat.le_of_ble_eq_true rfl) none (Or.inl rfl) ?_
  show jWP none RX11 cX11_heat 3 (some .int) (d + 3) 0 0 0 [some (.ref 76), some (.int (nI k)), none] [] (tw X A L) ((fun z w => z = some (.int (balS (hmC (A 82) (A 83) 49).1 (A 83) (nI k) 49)) ∧ ∃ Z, w = tw X (eA A (hmC (A 82) (A 83) 49).1 (A 83) Z) L))
  refine j_iload_n dX11_heat_0 rfl rfl ?_
  refine j_iconst (v := (-1)) dX11_heat_1 rfl ?_
  refine j_icmp_eq (tgt := 16) dX11_heat_2 (by decide) (fun h2 => absurd h2 (nI_nm1 (by omega))) (fun h2 => ?_)
  refine j_aload_n dX11_heat_5 rfl rfl ?_
  refine j_iload_n dX11_heat_6 rfl rfl ?_
  refine j_i2l dX11_heat_7 ?_
  refine j_callVi [.long _] [] dX11_heat_8 jlk_X11_128 rfl rfl rfl rfl (Nat.le_of_ble_eq_true rfl) (jMet_i (m_isAccount hn h6) (isA_in hk (by omega)) rfl) ?_
  refine j_if_ne (tgt := 16) dX11_heat_11 (by decide) (fun _ => ?_) (fun h => absurd h (by decide))
  refine j_aload_n dX11_heat_16 rfl rfl ?_
  refine j_callVv [] [] dX11_heat_17 jlk_X11_140 rfl rfl rfl rfl (Nat.le_of_ble_eq_true rfl) (m_begins1 z1 z2 z3 z4) ?_
  refine j_aload_n dX11_heat_20 rfl rfl ?_
  refine j_callV [] [] dX11_heat_21 jlk_X11_261 rfl rfl rfl rfl (Nat.le_of_ble_eq_true rfl) (m_heats (by rw [mA_84]; exact hw)) (fun r9 w9 h9 => ?_)
  obtain ⟨rfl, Z9, rfl⟩ := h9
  rw [mA_84, mA_85, mA_e]
  refine j_ats (st' := [.int _]) rfl ?_
  refine j_istore_n (lv' := [some (.ref 76), some (.int _), some (.int _)]) dX11_heat_24 rfl (by decide) rfl ?_
  refine j_iload_n dX11_heat_25 rfl rfl ?_
  refine jn_if_ge (tgt := 33) dX11_heat_26 (by decide) (by omega) ?_
  refine j_aload_n dX11_heat_33 rfl rfl ?_
  refine j_iload_n dX11_heat_34 rfl rfl ?_
  refine j_callVi [.int _] [] dX11_heat_35 jlk_X11_143 rfl rfl rfl rfl (Nat.le_of_ble_eq_true rfl) (m_balanceOf) ?_
  rw [eA_84, eA_85]
  refine j_ireturn dX11_heat_38 rfl ?_
  exact ⟨rfl, Z9, rfl⟩

set_option maxHeartbeats 200000 in
set_option maxRecDepth 100000 in
theorem m_heat_no (hn : X 76 7 = nI na) (h6 : na ≤ 6) {c : Int32} (h1 : c ≠ -1) (h : isA na c = nI 0) : jMet (d + 3) yX11_heat cX11_heat 3 (some .int) 0 0 [.ref 76, .int c] (tw X A L) (jRi (-1) (tw X A L)) := by
  refine jMet_of (by decide) (Nat.le_of_ble_eq_true rfl) none (Or.inl rfl) ?_
  show jWP none RX11 cX11_heat 3 (some .int) (d + 3) 0 0 0 [some (.ref 76), some (.int c), none] [] (tw X A L) (jRi (-1) (tw X A L))
  refine j_iload_n dX11_heat_0 rfl rfl ?_
  refine j_iconst (v := (-1)) dX11_heat_1 rfl ?_
  refine j_icmp_eq (tgt := 16) dX11_heat_2 (by decide) (fun h2 => absurd h2 h1) (fun h2 => ?_)
  refine j_aload_n dX11_heat_5 rfl rfl ?_
  refine j_iload_n dX11_heat_6 rfl rfl ?_
  refine j_i2l dX11_heat_7 ?_
  refine j_callVi [.long _] [] dX11_heat_8 jlk_X11_128 rfl rfl rfl rfl (Nat.le_of_ble_eq_true rfl) (jMet_i (m_isAccount hn h6) h rfl) ?_
  refine j_if_ne (tgt := 16) dX11_heat_11 (by decide) (fun h => absurd (by decide) h) (fun _ => ?_)
  refine j_iconst (v := (-1)) dX11_heat_14 rfl ?_
  refine j_ireturn dX11_heat_15 rfl ?_
  exact ⟨rfl, rfl⟩

set_option maxHeartbeats 200000 in
set_option maxRecDepth 100000 in
theorem m_run (z1 : zb 49 (A 82)) (z2 : zb 49 (A 83)) (z3 : zb 49 (A 84)) (z4 : zb 49 (A 85)) (hw : ow (A 82)) : jMet (d + 3) yX11_run cX11_run 2 (some .int) 0 0 [.ref 76] (tw X A L) ((fun z w => z = some (.int (nI (hmC (A 82) (A 83) 49).2)) ∧ ∃ Z, w = tw X (dA A (hmC (A 82) (A 83) 49).1 (A 83) Z (upd (A 94) 3 (A 94 3 + nI (hmC (A 82) (A 83) 49).2))) L)) := by
  refine jMet_of (by decide) (Nat.le_of_ble_eq_true rfl) none (Or.inl rfl) ?_
  show jWP none RX11 cX11_run 2 (some .int) (d + 3) 0 0 0 [some (.ref 76), none] [] (tw X A L) ((fun z w => z = some (.int (nI (hmC (A 82) (A 83) 49).2)) ∧ ∃ Z, w = tw X (dA A (hmC (A 82) (A 83) 49).1 (A 83) Z (upd (A 94) 3 (A 94 3 + nI (hmC (A 82) (A 83) 49).2))) L))
  refine j_aload_n dX11_run_0 rfl rfl ?_
  refine j_callVv [] [] dX11_run_1 jlk_X11_140 rfl rfl rfl rfl (Nat.le_of_ble_eq_true rfl) (m_begins1 z1 z2 z3 z4) ?_
  refine j_aload_n dX11_run_4 rfl rfl ?_
  refine j_callV [] [] dX11_run_5 jlk_X11_261 rfl rfl rfl rfl (Nat.le_of_ble_eq_true rfl) (m_heats (by rw [mA_84]; exact hw)) (fun r9 w9 h9 => ?_)
  obtain ⟨rfl, Z9, rfl⟩ := h9
  rw [mA_84, mA_85, mA_e]
  refine j_ats (st' := [.int _]) rfl ?_
  refine j_istore_n (lv' := [some (.ref 76), some (.int _)]) dX11_run_8 rfl (by decide) rfl ?_
  refine j_aload_n dX11_run_9 rfl rfl ?_
  refine j_callVv [] [] dX11_run_10 jlk_X11_326 rfl rfl rfl rfl (Nat.le_of_ble_eq_true rfl) (m_lays (by rw [eA_n _ _ _ _ (by decide) (by decide) (by decide)]; exact z1) (by rw [eA_n _ _ _ _ (by decide) (by decide) (by decide)]; exact z2) (by rw [eA_84, hmC_eq _ _ _ (by decide)]; exact htC_z z1 49 (by decide)) (by rw [eA_85]; exact z2)) ?_
  refine j_aload_n dX11_run_13 rfl rfl ?_
  refine t_getR (b := 94) dX11_run_14 jfl_X11_64 (fun _ _ _ => rfl) rfl ?_
  refine j_iconst (v := nI 3) dX11_run_17 rfl ?_
  refine j_dup2 dX11_run_18 rfl rfl ?_
  refine t_iaload dX11_run_19 (fun _ _ _ => rfl) (by omega) (by decide) ?_
  refine j_iload_n dX11_run_20 rfl rfl ?_
  refine j_iadd dX11_run_21 ?_
  refine t_iastore dX11_run_22 (fun _ _ _ => rfl) (by omega) (by decide) ?_
  refine j_iload_n dX11_run_23 rfl rfl ?_
  refine j_ireturn dX11_run_24 rfl ?_
  refine ⟨rfl, Z9, tw_eq rfl ?_ rfl⟩
  unfold dA
  rw [eA_84, eA_85, lA_n _ _ _ (by decide) (by decide), eA_n _ _ _ _ (by decide) (by decide) (by decide)]

end CT49