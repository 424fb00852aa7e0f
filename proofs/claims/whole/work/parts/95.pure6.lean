/-- two rankings that agree for accounts and cells -/
def rkA (na : Nat) (Rk Rk' : (Nat → Int32) → Int32 → Int32 → Nat → Int32) : Prop := ∀ (O : Nat → Int32) (k : Nat) (s : Int32) (c : Nat), k < na → c < 49 → Rk O (nI k) s c = Rk' O (nI k) s c
def vls (na N : Nat) (a s : Nat → Int32) : Prop := ∀ i, i < N → (∃ k, k < na ∧ a i = nI k) ∧ (∃ x, 1 ≤ x ∧ x ≤ 6 ∧ s i = nI x)
theorem plS_cg {H : Nat → Bool} {r r' : Nat → Int32} : ∀ n, (∀ c, c < n → r c = r' c) → plS H r n = plS H r' n
  | 0, _ => rfl
  | n + 1, h => by
    unfold plS
    rw [plS_cg n (fun c hc => h c (by omega)), h n (by omega)]
theorem seP_cg {na : Nat} {Rk Rk' : (Nat → Int32) → Int32 → Int32 → Nat → Int32} (h : rkA na Rk Rk') {c : cS} {k : Nat} (hk : k < na) {s : Int32} : seP Rk c (nI k) s = seP Rk' c (nI k) s := plS_cg 49 fun x hx => h c.1 k s x hk hx
theorem seS_cg {na : Nat} {Rk Rk' : (Nat → Int32) → Int32 → Int32 → Nat → Int32} (h : rkA na Rk Rk') {c : cS} {k : Nat} (hk : k < na) {s : Int32} : seS Rk c (nI k) s = seS Rk' c (nI k) s := by
  unfold seS
  rw [seP_cg h hk]
theorem ruS_cg {na : Nat} {Rk Rk' : (Nat → Int32) → Int32 → Int32 → Nat → Int32} (h : rkA na Rk Rk') {a s : Nat → Int32} {c : cS} {N : Nat} (hv : vls na N a s) : ∀ i, i ≤ N → ruS Rk a s c i = ruS Rk' a s c i
  | 0, _ => rfl
  | i + 1, hi => by
    unfold ruS
    obtain ⟨⟨k, hk, e⟩, _⟩ := hv i (by omega)
    rw [ruS_cg h hv i (by omega), e, seS_cg h hk, seP_cg h hk]
theorem wnS_cg {na : Nat} {Rk Rk' : (Nat → Int32) → Int32 → Int32 → Nat → Int32} (h : rkA na Rk Rk') {a s : Nat → Int32} {c : cS} {N : Nat} (hv : vls na N a s) : ∀ i, i ≤ N → wnS Rk a s c i = wnS Rk' a s c i
  | 0, _ => rfl
  | i + 1, hi => by
    unfold wnS
    rw [wnS_cg h hv i (by omega), ruS_cg h hv (i + 1) hi]
theorem clS_cg {na : Nat} {Rk Rk' : (Nat → Int32) → Int32 → Int32 → Nat → Int32} (h : rkA na Rk Rk') {a s : Nat → Int32} {c : cS} {N : Nat} (hv : vls na N a s) {k : Nat} (hk : k < N) : clS Rk a s c k = clS Rk' a s c k := by
  unfold clS
  obtain ⟨⟨k', hk', e⟩, _⟩ := hv k hk
  rw [ruS_cg h hv k (by omega), e, seP_cg h hk']
theorem wnS_le {Rk : (Nat → Int32) → Int32 → Int32 → Nat → Int32} {a s : Nat → Int32} {c : cS} : ∀ N, wnS Rk a s c N ≤ N
  | 0 => Nat.le_refl _
  | N + 1 => by
    have := wnS_le (Rk := Rk) (a := a) (s := s) (c := c) N
    unfold wnS
    split <;> omega
theorem owI_eq {Rk : (Nat → Int32) → Int32 → Int32 → Nat → Int32} {a s : Nat → Int32} {c : cS} {k : Nat} (hk : k < 2 ^ 31) : ∀ N, N ≤ 30 → owI Rk a s c (nI k) N = if k < wnS Rk a s c N then clS Rk a s c k else (-2)
  | 0, _ => rfl
  | N + 1, hN => by
    have ih := owI_eq (Rk := Rk) (a := a) (s := s) (c := c) hk N (by omega)
    show (if (ruS Rk a s c (N + 1)).2 = true then (if nI N = nI k then clS Rk a s c N else owI Rk a s c (nI k) N) else owI Rk a s c (nI k) N) = _
    have ew : wnS Rk a s c (N + 1) = if (ruS Rk a s c (N + 1)).2 = true then wnS Rk a s c N + 1 else wnS Rk a s c N := rfl
    rw [ew, ih]
    by_cases h : (ruS Rk a s c (N + 1)).2 = true
    · have e := wn_t (ru_pre h)
      rw [if_pos h, if_pos h, e]
      by_cases q : N = k
      · subst q
        rw [if_pos rfl, if_pos (by omega)]
      · rw [if_neg (fun w => q ((nI_eq (by omega) hk).mp w))]
        by_cases l : k < N
        · rw [if_pos l, if_pos (by omega)]
        · rw [if_neg l, if_neg (by omega)]
    · rw [if_neg h, if_neg h]
theorem is16_x {c : Int32} (h : is16 c ≠ 0) : ∃ x, 1 ≤ x ∧ x ≤ 6 ∧ c = nI x := by
  unfold is16 at h
  by_cases h1 : c < nI 1
  · rw [if_pos h1] at h; exact absurd rfl h
  · rw [if_neg h1] at h
    by_cases h2 : nI 6 < c
    · rw [if_pos h2] at h; exact absurd rfl h
    · have q : isA 7 c = nI 1 := by
        unfold isA
        rw [if_neg (fun w => h1 (Int32.lt_of_lt_of_le w (by decide))), if_neg (fun w => h2 (Int32.lt_of_lt_of_le (by decide) w))]
      rcases isA_cases (n := 7) (by decide) c with w | ⟨j, hj, e⟩
      · rw [w] at q; exact absurd q (by decide)
      · refine ⟨j, ?_, by omega, e⟩
        by_cases l : 1 ≤ j
        · exact l
        · exact absurd (show c < nI 1 by rw [e, show j = 0 by omega]; decide) h1
theorem slA_in {na : Nat} (hna : na ≤ 6) {a s : Int32} (h : slA na a s = true) : (∃ k, k < na ∧ a = nI k) ∧ (∃ x, 1 ≤ x ∧ x ≤ 6 ∧ s = nI x) := by
  unfold slA at h
  rw [Bool.and_eq_true] at h
  have h1 := of_decide_eq_true h.1
  refine ⟨?_, is16_x (of_decide_eq_true h.2)⟩
  rcases isA_cases (n := na) (by omega) a with w | ⟨j, hj, e⟩
  · exact absurd w h1
  · exact ⟨j, hj, e⟩
theorem vls_E {na ln N : Nat} (hna : na ≤ 6) {E : Nat → Int32} (h : ∀ i, i < N → saB na ln E i = true) : vls na N (ev E) (od E) := fun i hi => by
  have q := h i hi
  unfold saB at q
  rw [Bool.and_eq_true] at q
  exact slA_in hna q.2
theorem jgF_cg {na ln : Nat} (hna : na ≤ 6) {Rk Rk' : (Nat → Int32) → Int32 → Int32 → Nat → Int32} (h : rkA na Rk Rk') {E : Nat → Int32} : ∀ {m i : Nat} {c : cS}, jgF Rk na ln E m i c = jgF Rk' na ln E m i c
  | 0, _, _ => rfl
  | m + 1, i, c => by
    have hp : jgP Rk na ln E c i = jgP Rk' na ln E c i := by
      unfold jgP
      cases hs : slA na (E (3 * i)) (E (3 * i + 1)) with
      | false => simp
      | true =>
        obtain ⟨⟨k, hk, e⟩, _⟩ := slA_in hna hs
        rw [e, seP_cg h hk]
    show (if 3 * i < ln then (if jgP Rk na ln E c i = true then jgF Rk na ln E m (i + 1) (seS Rk c (E (3 * i)) (E (3 * i + 1))) else nI i) else -2) = if 3 * i < ln then (if jgP Rk' na ln E c i = true then jgF Rk' na ln E m (i + 1) (seS Rk' c (E (3 * i)) (E (3 * i + 1))) else nI i) else -2
    rw [hp]
    by_cases q : jgP Rk' na ln E c i = true
    · have hs : slA na (E (3 * i)) (E (3 * i + 1)) = true := by
        unfold jgP at q
        rw [Bool.and_eq_true, Bool.and_eq_true] at q
        exact q.2.1
      obtain ⟨⟨k, hk, e⟩, _⟩ := slA_in hna hs
      rw [if_pos q, if_pos q, e, seS_cg h hk, jgF_cg hna h]
    · rw [if_neg q, if_neg q]
theorem drF_cg {na : Nat} (h0 : 0 < na) {Rk Rk' : (Nat → Int32) → Int32 → Int32 → Nat → Int32} (h : rkA na Rk Rk') : ∀ {m : Nat} {c : cS} {z : Int32} {l : Nat}, drF Rk na m c z l = drF Rk' na m c z l
  | 0, _, _, _ => rfl
  | m + 1, c, z, l => by
    unfold drF
    rw [seP_cg h (Nat.mod_lt _ h0), seS_cg h (Nat.mod_lt _ h0), drF_cg h0 h]
/-- sums stay 0 to 6 -/
theorem s6_upd {S : Nat → Int32} (h : s6 S) {j x : Nat} (hx : x ≤ 6) : s6 (upd S j (nI x)) := fun i hi => by
  have e : ∀ y : Int32, upd S j y i = if i = j then y else S i := fun y => by
    by_cases q : i = j
    · rw [if_pos q, q, pk_us]
    · rw [if_neg q, pk_un q]
  unfold sN
  rw [e]
  by_cases q : i = j
  · rw [if_pos q, nI_clamp (by omega)]; exact ⟨hx, rfl⟩
  · rw [if_neg q]; exact h i hi
theorem s6_seS {Rk : (Nat → Int32) → Int32 → Int32 → Nat → Int32} {c : cS} (h : s6 c.2) {a : Int32} {x : Nat} (hx : x ≤ 6) : s6 (seS Rk c a (nI x)).2 := by
  unfold seS wrO
  cases seP Rk c a (nI x) with
  | none => exact h
  | some q => exact s6_upd h hx
theorem s6_ruS {Rk : (Nat → Int32) → Int32 → Int32 → Nat → Int32} {c : cS} (h : s6 c.2) {na N : Nat} {a s : Nat → Int32} (hv : vls na N a s) : ∀ i, i ≤ N → s6 (ruS Rk a s c i).1.2
  | 0, _ => h
  | i + 1, hi => by
    have ih := s6_ruS (Rk := Rk) h hv i (by omega)
    obtain ⟨_, x, _, hx, e⟩ := hv i (by omega)
    unfold ruS
    split
    · show s6 (seS Rk (ruS Rk a s c i).1 (a i) (s i)).2
      rw [e]; exact s6_seS ih hx
    · exact ih
theorem s6_win {c : cS} (h : s6 c.2) : ∀ n, s6 (winS n c).2
  | 0 => h
  | n + 1 => s6_step (s6_win h n)
theorem vls_p {na ln N : Nat} (hna : na ≤ 6) {E : Nat → Int32} (h : ∀ i, i < N → saB na ln E i = true) {m : Nat} (hm : m ≤ N) {p : Nat → Nat} (hp : ∀ i, i < m → p i < m) : vls na N (evp E p m) (odp E p m) := fun i hi => by
  have hi2 : plc p m i < N := by
    unfold plc
    split
    · have := hp i (by assumption); omega
    · exact hi
  exact vls_E hna h (plc p m i) hi2
theorem ouC_cg {na ln N : Nat} (hna : na ≤ 6) {Rk Rk' : (Nat → Int32) → Int32 → Int32 → Nat → Int32} (hr : rkA na Rk Rk') {E : Nat → Int32} (h : ∀ i, i < N → saB na ln E i = true) {m : Nat} (hm : m ≤ N) {p : Nat → Nat} (hp : ∀ i, i < m → p i < m) {wn : Nat} {c : cS} : ouC Rk E p m N wn c = ouC Rk' E p m N wn c := by
  unfold ouC
  rw [ruS_cg hr (vls_p hna h hm hp) N (Nat.le_refl _)]
theorem s6_ouC {na ln N : Nat} (hna : na ≤ 6) {Rk : (Nat → Int32) → Int32 → Int32 → Nat → Int32} {E : Nat → Int32} (h : ∀ i, i < N → saB na ln E i = true) {m : Nat} (hm : m ≤ N) {p : Nat → Nat} (hp : ∀ i, i < m → p i < m) {wn : Nat} {c : cS} (hc : s6 c.2) : s6 (ouC Rk E p m N wn c).2 := s6_win (s6_ruS hc (vls_p hna h hm hp) N (Nat.le_refl _)) _
theorem ouC_m {Rk : (Nat → Int32) → Int32 → Int32 → Nat → Int32} {E : Nat → Int32} {m N wn : Nat} {c : cS} {a : Int32} : oum m (fun p => balS (ouC Rk E p m N wn c).1 (ouC Rk E p m N wn c).2 a 49) := fun p p' hp => by
  have e1 : evp E p m = evp E p' m := funext fun i => by
    unfold evp plc
    by_cases q : i < m
    · rw [if_pos q, if_pos q, hp i q]
    · rw [if_neg q, if_neg q]
  have e2 : odp E p m = odp E p' m := funext fun i => by
    unfold odp plc
    by_cases q : i < m
    · rw [if_pos q, if_pos q, hp i q]
    · rw [if_neg q, if_neg q]
  show balS (ouC Rk E p m N wn c).1 (ouC Rk E p m N wn c).2 a 49 = balS (ouC Rk E p' m N wn c).1 (ouC Rk E p' m N wn c).2 a 49
  unfold ouC
  rw [e1, e2]
theorem gL_lt {m : Nat} : ∀ {D u : Nat} {l : List Nat}, l ∈ gL m D u → l.length = D ∧ ∀ x ∈ l, x < m
  | 0, u, l, h => by
    have : l = [] := by simpa [gL] using h
    subst this
    exact ⟨rfl, fun x hx => by cases hx⟩
  | D + 1, u, l, h => by
    unfold gL at h
    obtain ⟨p, hp, hl⟩ := List.mem_flatMap.mp h
    have hp2 := List.mem_range.mp hp
    by_cases q : isB1 u p = true
    · rw [if_pos q] at hl; cases hl
    · rw [if_neg q] at hl
      obtain ⟨t, ht, rfl⟩ := List.mem_map.mp hl
      have ih := gL_lt ht
      refine ⟨by rw [List.length_cons, ih.1], fun x hx => ?_⟩
      rcases List.mem_cons.mp hx with rfl | w
      · exact hp2
      · exact ih.2 x w
theorem gL_lf {m : Nat} {l : List Nat} (h : l ∈ gL m m 0) : ∀ i, i < m → lf l i < m := fun i hi => by
  have q := gL_lt h
  unfold lf
  rw [List.getD_eq_getElem?_getD, List.getElem?_eq_getElem (by omega)]
  exact q.2 _ (List.getElem_mem _)
theorem foldl_cg {α β : Type} {f g : β → α → β} : ∀ {l : List α} {b : β}, (∀ b x, x ∈ l → f b x = g b x) → l.foldl f b = l.foldl g b
  | [], _, _ => rfl
  | x :: t, b, h => by
    show t.foldl f (f b x) = t.foldl g (g b x)
    rw [h b x (List.mem_cons_self ..)]
    exact foldl_cg fun b y hy => h b y (List.mem_cons_of_mem _ hy)
theorem order_eq {na ln N : Nat} (hna : na ≤ 6) {Rk Rk' : (Nat → Int32) → Int32 → Int32 → Nat → Int32} (hr : rkA na Rk Rk') {E : Nat → Int32} (h : ∀ i, i < N → saB na ln E i = true) {wn : Nat} {c : cS} (hc : s6 c.2) {a : Int32} {p0 r0 : Nat → Nat} {q q' : Nat → Int32} :
    bqR (min N 5) (skF (min N 5) (fun p => balS (ouC Rk E p (min N 5) N wn c).1 (ouC Rk E p (min N 5) N wn c).2 a 49) 120 (idN p0 (min N 5)) (-2) q) (ooF (min N 5) (fun p => balS (ouC Rk' E p (min N 5) N wn c).1 (ouC Rk' E p (min N 5) N wn c).2 a 49) (min N 5) 0 0 (r0, -1, q')).2 := by
  have hm : min N 5 ≤ N := Nat.min_le_left _ _
  have e : (ooF (min N 5) (fun p => balS (ouC Rk' E p (min N 5) N wn c).1 (ouC Rk' E p (min N 5) N wn c).2 a 49) (min N 5) 0 0 (r0, -1, q')).2 = (ooF (min N 5) (fun p => balS (ouC Rk E p (min N 5) N wn c).1 (ouC Rk E p (min N 5) N wn c).2 a 49) (min N 5) 0 0 (r0, -1, q')).2 := by
    rw [ooF_L ouC_m (by omega), ooF_L ouC_m (by omega)]
    refine foldl_cg fun b x hx => ?_
    unfold stO
    have hx2 := gL_lf hx
    show (if balS (ouC Rk' E (lf x) (min N 5) N wn c).1 (ouC Rk' E (lf x) (min N 5) N wn c).2 a 49 ≤ b.1 then b.1 else balS (ouC Rk' E (lf x) (min N 5) N wn c).1 (ouC Rk' E (lf x) (min N 5) N wn c).2 a 49, if balS (ouC Rk' E (lf x) (min N 5) N wn c).1 (ouC Rk' E (lf x) (min N 5) N wn c).2 a 49 ≤ b.1 then b.2 else cpN (nIf (lf x)) b.2 (min N 5)) = _
    rw [← ouC_cg hna hr h hm hx2]
    rfl
  rw [e]
  refine orders_eq (Nat.min_le_right _ _) ouC_m ?_
  have hid : ∀ i, i < min N 5 → lf (List.range (min N 5)) i < min N 5 := fun i hi => by
    unfold lf
    rw [List.getD_eq_getElem?_getD, List.getElem?_range hi]
    exact hi
  have hs := s6_ouC (Rk := Rk) hna h hm hid (wn := wn) hc
  show 0 ≤ balS _ _ a 49
  have hb := balN_le (O := (ouC Rk E (lf (List.range (min N 5))) (min N 5) N wn c).1) (a := a) hs 49 (Nat.le_refl _)
  rw [bal_nI hs 49 (Nat.le_refl _)]
  exact (nI_leI (a := 0) (by decide) (by omega)).mpr (Nat.zero_le _)
