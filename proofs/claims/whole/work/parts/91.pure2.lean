/-- the sums of a comb: each 0 to 6 -/
def sN (S : Nat → Int32) (c : Nat) : Nat := (S c).toNatClampNeg
def s6 (S : Nat → Int32) : Prop := ∀ c, c < 49 → sN S c ≤ 6 ∧ S c = nI (sN S c)
def balN (O S : Nat → Int32) (a : Int32) : Nat → Nat
  | 0 => 0
  | n + 1 => if O n = a then balN O S a n + sN S n else balN O S a n
theorem balN_le {O S : Nat → Int32} {a : Int32} (h : s6 S) : ∀ n, n ≤ 49 → balN O S a n ≤ 6 * n
  | 0, _ => Nat.le_refl _
  | n + 1, hn => by
    have ih := balN_le (O := O) (a := a) h n (by omega)
    have := (h n (by omega)).1
    unfold balN
    split <;> omega
theorem bal_nI {O S : Nat → Int32} {a : Int32} (h : s6 S) : ∀ n, n ≤ 49 → balS O S a n = nI (balN O S a n)
  | 0, _ => rfl
  | n + 1, hn => by
    have ih := bal_nI (O := O) (a := a) h n (by omega)
    show (if O n = a then balS O S a n + S n else balS O S a n) = nI (if O n = a then balN O S a n + sN S n else balN O S a n)
    rw [ih]
    split
    · rw [← nI_add, ← (h n (by omega)).2]
    · rfl
theorem sN_upd0 {S : Nat → Int32} {j c : Nat} : sN (upd S j (nI 0)) c = if c = j then 0 else sN S c := by
  unfold sN
  by_cases e : c = j
  · subst e; rw [pk_us, if_pos rfl]; rfl
  · rw [pk_un e, if_neg e]
theorem s6_em {c : cS} {j : Nat} (h : s6 c.2) : s6 (emS c j).2 := fun i hi => by
  show sN (upd c.2 j (nI 0)) i ≤ 6 ∧ upd c.2 j (nI 0) i = nI (sN (upd c.2 j (nI 0)) i)
  rw [sN_upd0]
  by_cases e : i = j
  · rw [if_pos e, show upd c.2 j (nI 0) i = nI 0 from by rw [e, pk_us]]; exact ⟨Nat.zero_le _, rfl⟩
  · rw [if_neg e, pk_un e]; exact h i hi
theorem s6_step {c : cS} (h : s6 c.2) : s6 (stepE c).2 := by
  unfold stepE
  split
  · exact h
  · exact s6_em h
theorem balN_em {c : cS} {j : Nat} {a : Int32} (ha : a ≠ -1) : ∀ n, balN (emS c j).1 (emS c j).2 a n ≤ balN c.1 c.2 a n
  | 0 => Nat.le_refl _
  | n + 1 => by
    have ih := balN_em (c := c) (j := j) ha n
    show (if upd c.1 j (-1) n = a then balN (emS c j).1 (emS c j).2 a n + sN (upd c.2 j (nI 0)) n else balN (emS c j).1 (emS c j).2 a n) ≤ if c.1 n = a then balN c.1 c.2 a n + sN c.2 n else balN c.1 c.2 a n
    by_cases e : n = j
    · subst e
      rw [pk_us, if_neg (fun q => ha q.symm)]
      split <;> omega
    · rw [pk_un e, sN_upd0, if_neg e]
      split <;> omega
theorem balN_step {c : cS} {a : Int32} (ha : a ≠ -1) (n : Nat) : balN (stepE c).1 (stepE c).2 a n ≤ balN c.1 c.2 a n := by
  unfold stepE
  split
  · exact Nat.le_refl _
  · exact balN_em ha n
theorem nI_n1 {k : Nat} (h : k < 2 ^ 31) : nI k ≠ -1 := fun q => absurd (show nI k < 0 by rw [q]; decide) (nI_pos h)
theorem e1S_eq (c : cS) : e1S c = stepE c := by
  unfold e1S
  cases e : hN c.1 with
  | zero =>
    show c = stepE c
    unfold stepE
    cases h : nxE c.1 c.2 with
    | none => rfl
    | some j => have := nxE_pos h; omega
  | succ n =>
    rw [show min 1 (n + 1) = 1 by omega]
    rfl
theorem omF_stop {a : Int32} {x : Nat} (ha : a ≠ -1) (hx : x < 2 ^ 31) : ∀ {f i : Nat} {c : cS} {m : Int32}, s6 c.2 → balN c.1 c.2 a 49 < x → omF a (nI x) f i c m = m
  | 0, _, _, _, _, _ => rfl
  | f + 1, i, c, m, h, hb => by
    have h1 := bal_nI (O := c.1) (a := a) h 49 (Nat.le_refl _)
    have h2 := balN_le (O := c.1) (a := a) h 49 (Nat.le_refl _)
    show omF a (nI x) f (i + 1) (stepE c) (if balS c.1 c.2 a 49 < nI x then m else nI i) = m
    rw [if_pos (by rw [h1]; exact (nI_ltI (by omega) hx).mpr hb)]
    exact omF_stop ha hx (s6_step h) (Nat.lt_of_le_of_lt (balN_step ha 49) hb)
theorem om_ol {a : Int32} {x : Nat} (ha : a ≠ -1) (hx : x < 2 ^ 31) : ∀ {f i : Nat} {c : cS} {m : Int32}, s6 c.2 → omF a (nI x) f i c m = olF a (nI x) f i c m
  | 0, _, _, _, _ => rfl
  | f + 1, i, c, m, h => by
    have h1 := bal_nI (O := c.1) (a := a) h 49 (Nat.le_refl _)
    have h2 := balN_le (O := c.1) (a := a) h 49 (Nat.le_refl _)
    show omF a (nI x) f (i + 1) (stepE c) (if balS c.1 c.2 a 49 < nI x then m else nI i) = if balS c.1 c.2 a 49 < nI x then m else olF a (nI x) f (i + 1) (e1S c) (nI i)
    by_cases q : balS c.1 c.2 a 49 < nI x
    · rw [if_pos q, if_pos q]
      exact omF_stop ha hx (s6_step h) (Nat.lt_of_le_of_lt (balN_step ha 49) ((nI_ltI (by omega) hx).mp (by rw [← h1]; exact q)))
    · rw [if_neg q, if_neg q, e1S_eq]
      exact om_ol ha hx (s6_step h)
/-- least -/
theorem abS_at {z m : Nat} {c : cS} : ∀ (n : Nat) (x : Nat), (abS z m c n).1.1 x = (if x < n ∧ heldB c.1 x = true ∧ dsN z x ≤ m then -1 else c.1 x) ∧ (abS z m c n).1.2 x = (if x < n ∧ heldB c.1 x = true ∧ dsN z x ≤ m then nI 0 else c.2 x)
  | 0, x => by rw [if_neg (fun q => by omega), if_neg (fun q => by omega)]; exact ⟨rfl, rfl⟩
  | n + 1, x => by
    have ih := abS_at (z := z) (m := m) (c := c) n x
    have ihn := abS_at (z := z) (m := m) (c := c) n n
    have hh : heldB (abS z m c n).1.1 n = heldB c.1 n := by
      unfold heldB
      rw [ihn.1, if_neg (fun q => by omega)]
    show (if (heldB (abS z m c n).1.1 n && decide (dsN z n ≤ m)) = true then (emS (abS z m c n).1 n, (abS z m c n).2 + 1) else abS z m c n).1.1 x = _ ∧ (if (heldB (abS z m c n).1.1 n && decide (dsN z n ≤ m)) = true then (emS (abS z m c n).1 n, (abS z m c n).2 + 1) else abS z m c n).1.2 x = _
    rw [hh]
    by_cases q : heldB c.1 n = true ∧ dsN z n ≤ m
    · rw [if_pos (by rw [q.1, decide_eq_true q.2]; rfl)]
      show upd (abS z m c n).1.1 n (-1) x = _ ∧ upd (abS z m c n).1.2 n (nI 0) x = _
      by_cases e : x = n
      · subst e
        rw [pk_us, pk_us, if_pos ⟨by omega, q⟩, if_pos ⟨by omega, q⟩]; exact ⟨rfl, rfl⟩
      · rw [pk_un e, pk_un e, ih.1, ih.2]
        have e2 : (x < n ∧ heldB c.1 x = true ∧ dsN z x ≤ m) = (x < n + 1 ∧ heldB c.1 x = true ∧ dsN z x ≤ m) := propext ⟨fun w => ⟨by omega, w.2⟩, fun w => ⟨by omega, w.2⟩⟩
        simp only [e2]
        exact ⟨trivial, trivial⟩
    · rw [if_neg (by intro w; simp at w; exact q w)]
      rw [ih.1, ih.2]
      have e2 : (x < n ∧ heldB c.1 x = true ∧ dsN z x ≤ m) = (x < n + 1 ∧ heldB c.1 x = true ∧ dsN z x ≤ m) := propext ⟨fun w => ⟨by omega, w.2⟩, fun w => ⟨by
        by_cases e : x = n
        · subst e; exact absurd w.2 q
        · omega, w.2⟩⟩
      simp only [e2]
      exact ⟨trivial, trivial⟩
theorem abS_cnt {z m : Nat} {c : cS} : ∀ n, (abS z m c n).2 = cnt (fun i => heldB c.1 i && decide (dsN z i ≤ m)) n
  | 0 => rfl
  | n + 1 => by
    have ih := abS_cnt (z := z) (m := m) (c := c) n
    have hh : heldB (abS z m c n).1.1 n = heldB c.1 n := by
      unfold heldB
      rw [(abS_at n n).1, if_neg (fun q => by omega)]
    show (if (heldB (abS z m c n).1.1 n && decide (dsN z n ≤ m)) = true then (emS (abS z m c n).1 n, (abS z m c n).2 + 1) else abS z m c n).2 = if (heldB c.1 n && decide (dsN z n ≤ m)) = true then _ else _
    rw [hh, ← ih]
    split <;> rfl
def losN (O S : Nat → Int32) (z m : Nat) (a : Int32) : Nat → Nat
  | 0 => 0
  | i + 1 => if O i = a then (if dsN z i ≤ m then losN O S z m a i + sN S i else losN O S z m a i) else losN O S z m a i
theorem losN_le {O S : Nat → Int32} {z m : Nat} {a : Int32} (h : s6 S) : ∀ n, n ≤ 49 → losN O S z m a n ≤ 6 * n
  | 0, _ => Nat.le_refl _
  | n + 1, hn => by
    have ih := losN_le (O := O) (z := z) (m := m) (a := a) h n (by omega)
    have := (h n (by omega)).1
    unfold losN
    split
    · split <;> omega
    · omega
theorem los_nI {O S : Nat → Int32} {z m : Nat} {a : Int32} (h : s6 S) : ∀ n, n ≤ 49 → lossS O S z m a n = nI (losN O S z m a n)
  | 0, _ => rfl
  | n + 1, hn => by
    have ih := los_nI (O := O) (z := z) (m := m) (a := a) h n (by omega)
    show (if O n = a then (if dsN z n ≤ m then lossS O S z m a n + S n else lossS O S z m a n) else lossS O S z m a n) = nI (if O n = a then (if dsN z n ≤ m then losN O S z m a n + sN S n else losN O S z m a n) else losN O S z m a n)
    rw [ih]
    split
    · split
      · rw [← nI_add, ← (h n (by omega)).2]
      · rfl
    · rfl
theorem s6_ab {z m : Nat} {c : cS} (h : s6 c.2) : s6 (abS z m c 49).1.2 := fun i hi => by
  unfold sN
  rw [(abS_at 49 i).2]
  split
  · exact ⟨Nat.zero_le _, rfl⟩
  · exact h i hi
theorem bal_split {z m : Nat} {c : cS} {a : Int32} (ha : a ≠ -1) : ∀ n, n ≤ 49 → balN c.1 c.2 a n = balN (abS z m c 49).1.1 (abS z m c 49).1.2 a n + losN c.1 c.2 z m a n
  | 0, _ => rfl
  | n + 1, hn => by
    have ih := bal_split (z := z) (m := m) (c := c) ha n (by omega)
    have q1 := (abS_at (z := z) (m := m) (c := c) 49 n).1
    have q2 := (abS_at (z := z) (m := m) (c := c) 49 n).2
    show (if c.1 n = a then balN c.1 c.2 a n + sN c.2 n else balN c.1 c.2 a n) = (if (abS z m c 49).1.1 n = a then balN (abS z m c 49).1.1 (abS z m c 49).1.2 a n + sN (abS z m c 49).1.2 n else balN (abS z m c 49).1.1 (abS z m c 49).1.2 a n) + (if c.1 n = a then (if dsN z n ≤ m then losN c.1 c.2 z m a n + sN c.2 n else losN c.1 c.2 z m a n) else losN c.1 c.2 z m a n)
    have hs : sN (abS z m c 49).1.2 n = if n < 49 ∧ heldB c.1 n = true ∧ dsN z n ≤ m then 0 else sN c.2 n := by
      unfold sN
      rw [q2]
      split <;> rfl
    rw [q1, hs]
    have hlt : n < 49 := by omega
    have hna : ¬ ((-1 : Int32) = a) := fun w => ha w.symm
    by_cases e : c.1 n = a
    · have hh : heldB c.1 n = true := decide_eq_true (by rw [e]; exact ha)
      by_cases l : dsN z n ≤ m
      · simp only [e, hh, l, hlt, hna, and_self, if_true, if_false]; omega
      · simp only [e, l, and_false, if_true, if_false]; omega
    · by_cases l : n < 49 ∧ heldB c.1 n = true ∧ dsN z n ≤ m
      · rw [if_pos l]; simp only [e, hna, if_false]; omega
      · rw [if_neg l]; simp only [e, if_false]; omega
theorem bal_loss {z m : Nat} {O S : Nat → Int32} {a : Int32} (ha : a ≠ -1) (h : s6 S) : balS O S a 49 - balS (abS z m (O, S) 49).1.1 (abS z m (O, S) 49).1.2 a 49 = lossS O S z m a 49 := by
  have q := bal_split (z := z) (m := m) (c := (O, S)) ha 49 (Nat.le_refl _)
  have q' : balN O S a 49 = balN (abS z m (O, S) 49).1.1 (abS z m (O, S) 49).1.2 a 49 + losN O S z m a 49 := q
  rw [bal_nI h 49 (Nat.le_refl _), bal_nI (s6_ab (c := (O, S)) h) 49 (Nat.le_refl _), los_nI h 49 (Nat.le_refl _), pk_sub (by omega)]
  exact congrArg nI (by omega)
/-- both programs' least: none yet, or the same -/
def lsR (s : Int32 × Int32 × Int32) (t : Int32 × Int32) : Prop := (s = (-2, -2, -2) ∧ t = (-2, -2)) ∨ ∃ l c m : Nat, l < 2 ^ 31 ∧ c < 49 ∧ m < 4 ∧ s = (nI l, nI c, nI m) ∧ t = (nI (10 * c + m), nI l)
theorem lsR_T {O S : Nat → Int32} {a : Int32} {x m c : Nat} (ha : a ≠ -1) (h : s6 S) (hm : m < 4) (hc : c < 49) {s : Int32 × Int32 × Int32} {t : Int32 × Int32} (hr : lsR s t) : lsR (lsT O S a x m c s) (lmT O S a x m c t) := by
  have hl := losN_le (O := O) (z := c) (m := m) (a := a) h 49 (Nat.le_refl _)
  have e2 := los_nI (O := O) (z := c) (m := m) (a := a) h 49 (Nat.le_refl _)
  unfold lsT lmT
  rw [bal_loss ha h, abS_cnt, e2]
  by_cases q : cnt (fun i => heldB O i && decide (dsN c i ≤ m)) 49 < x
  · rw [if_pos q, if_pos q]; exact hr
  · rw [if_neg q, if_neg q, if_neg (nI_pos (by omega))]
    rcases hr with ⟨rfl, rfl⟩ | ⟨l, c', m', h1, h2, h3, rfl, rfl⟩
    · rw [if_pos (by decide), if_pos (by decide)]
      exact Or.inr ⟨_, c, m, by omega, hc, hm, rfl, rfl⟩
    · rw [if_neg (nI_pos h1), if_neg (nI_pos (by omega))]
      show lsR (if nI l ≤ nI (losN O S c m a 49) then _ else _) (if nI l ≤ nI (losN O S c m a 49) then _ else _)
      by_cases w : nI l ≤ nI (losN O S c m a 49)
      · rw [if_pos w, if_pos w]; exact Or.inr ⟨l, c', m', h1, h2, h3, rfl, rfl⟩
      · rw [if_neg w, if_neg w]; exact Or.inr ⟨_, c, m, by omega, hc, hm, rfl, rfl⟩
theorem lsR_I {O S : Nat → Int32} {a : Int32} {x m : Nat} (ha : a ≠ -1) (h : s6 S) (hm : m < 4) {s : Int32 × Int32 × Int32} {t : Int32 × Int32} (hr : lsR s t) : ∀ c, c ≤ 49 → lsR (lsI O S a x m s c) (lmI O S a x m t c)
  | 0, _ => hr
  | c + 1, hc => lsR_T ha h hm (by omega) (lsR_I ha h hm hr c (by omega))
theorem lsR_O {O S : Nat → Int32} {a : Int32} {x : Nat} (ha : a ≠ -1) (h : s6 S) : ∀ m, m ≤ 4 → lsR (lsO O S a x m) (lmO O S a x m)
  | 0, _ => Or.inl ⟨rfl, rfl⟩
  | m + 1, hm => lsR_I ha h (by omega) (lsR_O ha h m (by omega)) 49 (Nat.le_refl _)
theorem least_eq {O S : Nat → Int32} {a y : Int32} {x : Nat} (ha : a ≠ -1) (h : s6 S) : (if y = 0 ∨ (lmO O S a x 4).1 < 0 then (lmO O S a x 4).2 else if y = nI 1 then (lmO O S a x 4).1 / nI 10 else (lmO O S a x 4).1 - (lmO O S a x 4).1 / nI 10 * nI 10) = if y = 0 then (lsO O S a x 4).1 else if y = nI 1 then (lsO O S a x 4).2.1 else (lsO O S a x 4).2.2 := by
  rcases lsR_O (x := x) ha h 4 (Nat.le_refl _) with ⟨e1, e2⟩ | ⟨l, c, m, h1, h2, h3, e1, e2⟩
  · rw [e1, e2, if_pos (Or.inr (by decide))]
    split
    · rfl
    · split <;> rfl
  · rw [e1, e2]
    have hb : (nI (10 * c + m)) / nI 10 = nI c := by rw [pk_div (by omega) (by decide) (by decide)]; exact congrArg nI (by omega)
    by_cases q : y = 0
    · rw [if_pos (Or.inl q), if_pos q]
    · rw [if_neg (fun w => w.elim q (nI_pos (by omega))), if_neg q]
      by_cases w : y = nI 1
      · rw [if_pos w, if_pos w]; exact hb
      · rw [if_neg w, if_neg w]
        show nI (10 * c + m) - nI (10 * c + m) / nI 10 * nI 10 = nI m
        rw [hb, pk_mul, pk_sub (by omega)]
        exact congrArg nI (by omega)
