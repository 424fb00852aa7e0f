/-! A SMALLER MACHINE over the kit's: worlds whose cells bear numbers (0 the script, 1 and 2 the two tables, 3 the text; from 4 on what was made), locals as a list by place, a judgement jWP that hides the machine, and a contract jMet. -/
abbrev jE : Type := (Nat × vp_A) ⊕ (Nat × List Value)
abbrev jW : Type := Nat × (Nat → jE)
def jAbs : jE := .inr (1000, [])
def ju (w : jW) (a : Nat) (e : jE) : jW := (w.1, va_up w.2 a e)
def jv (ad : Nat → Nat) : Value → Value
  | .ref k => .ref (ad k)
  | v => v
def jd (ad : Nat → Nat) (x : vp_A) : vp_A := (x.1, match x.2 with
  | .inr (.inr (.inr (.inr f))) => .inr (.inr (.inr (.inr fun j => (f j).map ad)))
  | z => z)
def jc (dA : Nat → ClassId) (ad : Nat → Nat) : jE → va_E
  | .inl a => .inl (dA a.1, jd ad a.2)
  | .inr o => .inr (o.1, o.2.map (jv ad))
def jl (dA : Nat → ClassId) (ad : Nat → Nat) (w : jW) : va_W := (List.range (w.1 - 4)).map fun k => (ad (k + 4), jc dA ad (w.2 (k + 4)))
def jrv (n : Nat) : Value → Prop
  | .ref k => k < n
  | _ => True
def jrd (n : Nat) (x : vp_A) : Prop := match x.2 with
  | .inr (.inr (.inr (.inr f))) => ∀ j k, f j = some k → k < n
  | _ => True
def jre (n : Nat) : jE → Prop
  | .inl a => jrd n a.2
  | .inr o => ∀ v ∈ o.2, jrv n v
def jok (w : jW) : Prop := 4 ≤ w.1 ∧ (∀ k, k < 4 ∨ w.1 ≤ k → w.2 k = jAbs) ∧ ∀ k, jre w.1 (w.2 k)
def jH (D : va_G) (dA : Nat → ClassId) (ad : Nat → Nat) (A : Nat → Prop) (w : jW) (H : Heap) : Prop := jok w ∧ va_P D vwCl (jl dA ad w) H ∧ va_D A (jl dA ad w)
def jtys (dA : Nat → ClassId) : List (ClassId × FieldType) := [(dA 0, .int), (dA 1, .long), (dA 2, .boolean), (dA 3, .object RX8)]
theorem jrv_mono {n n' : Nat} (h : n ≤ n') {v : Value} (hv : jrv n v) : jrv n' v := by
  cases v <;> first | trivial | exact Nat.lt_of_lt_of_le hv h
theorem jrd_mono {n n' : Nat} (h : n ≤ n') {x : vp_A} (hv : jrd n x) : jrd n' x := by
  obtain ⟨k, z⟩ := x
  rcases z with f | f | f | f | f <;> first | trivial | exact fun j i hj => Nat.lt_of_lt_of_le (hv j i hj) h
theorem jre_mono {n n' : Nat} (h : n ≤ n') {e : jE} (hv : jre n e) : jre n' e := by
  rcases e with a | o
  · exact jrd_mono h hv
  · exact fun v hm => jrv_mono h (hv v hm)
theorem jv_eq {ad ad' : Nat → Nat} {n : Nat} (h : ∀ k, k < n → ad' k = ad k) {v : Value} (hv : jrv n v) : jv ad' v = jv ad v := by
  cases v <;> first | rfl | exact congrArg Value.ref (h _ hv)
theorem jvs_eq {ad ad' : Nat → Nat} {n : Nat} (h : ∀ k, k < n → ad' k = ad k) {l : List Value} (hv : ∀ v ∈ l, jrv n v) : l.map (jv ad') = l.map (jv ad) := List.map_congr_left fun v hm => jv_eq h (hv v hm)
theorem jd_eq {ad ad' : Nat → Nat} {n : Nat} (h : ∀ k, k < n → ad' k = ad k) {x : vp_A} (hv : jrd n x) : jd ad' x = jd ad x := by
  obtain ⟨k, z⟩ := x
  rcases z with f | f | f | f | f
  · rfl
  · rfl
  · rfl
  · rfl
  · refine congrArg (fun g => ((k, .inr (.inr (.inr (.inr g)))) : vp_A)) (funext fun j => ?_)
    cases hf : f j with
    | none => rfl
    | some i => exact congrArg some (h i (hv j i hf))
theorem jc_eq {dA : Nat → ClassId} {ad ad' : Nat → Nat} {n : Nat} (h : ∀ k, k < n → ad' k = ad k) {e : jE} (hv : jre n e) : jc dA ad' e = jc dA ad e := by
  rcases e with a | o
  · exact congrArg (fun z => (.inl (dA a.1, z) : va_E)) (jd_eq h hv)
  · exact congrArg (fun z => (.inr (o.1, z) : va_E)) (jvs_eq h hv)
theorem jl_len (dA : Nat → ClassId) (ad : Nat → Nat) (w : jW) : (jl dA ad w).length = w.1 - 4 := by simp [jl]
theorem jok_in {w : jW} (h : jok w) {a : Nat} (hne : w.2 a ≠ jAbs) : 4 ≤ a ∧ a < w.1 := by
  refine ⟨Nat.le_of_not_lt fun q => hne (h.2.1 a (Or.inl q)), Nat.lt_of_not_le fun q => hne (h.2.1 a (Or.inr q))⟩
theorem jl_get {dA : Nat → ClassId} {ad : Nat → Nat} {w : jW} {a : Nat} (ha : 4 ≤ a ∧ a < w.1) : (jl dA ad w)[a - 4]? = some (ad a, jc dA ad (w.2 a)) := by
  have h1 : a - 4 < w.1 - 4 := by omega
  have h2 : a - 4 + 4 = a := by omega
  simp [jl, h1, h2]
theorem jl_set {dA : Nat → ClassId} {ad : Nat → Nat} {w : jW} {a : Nat} (ha : 4 ≤ a ∧ a < w.1) (e : jE) : (jl dA ad w).set (a - 4) (ad a, jc dA ad e) = jl dA ad (ju w a e) := by
  refine List.ext_getElem? fun k => ?_
  rw [List.getElem?_set]
  have hl : (jl dA ad (ju w a e)).length = w.1 - 4 := jl_len dA ad _
  by_cases hk : a - 4 = k
  · subst hk
    rw [if_pos rfl, if_pos (by rw [jl_len]; omega), jl_get (w := ju w a e) ha]
    simp [ju, va_up]
  · rw [if_neg hk]
    by_cases hkl : k < w.1 - 4
    · have h1 : 4 ≤ k + 4 ∧ k + 4 < w.1 := by omega
      have e1 := jl_get (dA := dA) (ad := ad) (w := w) h1
      have e2 := jl_get (dA := dA) (ad := ad) (w := ju w a e) (a := k + 4) h1
      rw [Nat.add_sub_cancel] at e1 e2
      rw [e1, e2]
      have hne : ¬ k + 4 = a := by omega
      simp [ju, va_up, hne]
    · rw [List.getElem?_eq_none (by rw [jl_len]; omega), List.getElem?_eq_none (by rw [hl]; omega)]
theorem jl_push {dA : Nat → ClassId} {ad : Nat → Nat} {w : jW} (hw : jok w) (q : Nat) (e : jE) (he : jre (w.1 + 1) e) (x : va_E) (hx : x = jc dA (va_up ad w.1 q) e) : jl dA ad w ++ [(q, x)] = jl dA (va_up ad w.1 q) (w.1 + 1, va_up w.2 w.1 e) := by
  have h4 := hw.1
  have hq : ∀ k, k < w.1 → va_up ad w.1 q k = ad k := fun k hk => by
    have : ¬ k = w.1 := by omega
    simp [va_up, this]
  have e1 : w.1 + 1 - 4 = (w.1 - 4) + 1 := by omega
  have e2 : w.1 - 4 + 4 = w.1 := by omega
  unfold jl
  simp only [e1, List.range_succ, List.map_append, List.map_cons, List.map_nil, e2]
  refine congr (congrArg _ (List.map_congr_left fun k hk => ?_)) ?_
  · have hk2 : k < w.1 - 4 := List.mem_range.mp hk
    have hk3 : k + 4 < w.1 := by omega
    have hne : ¬ k + 4 = w.1 := by omega
    rw [hq _ hk3]
    have e3 : va_up w.2 w.1 e (k + 4) = w.2 (k + 4) := by simp [va_up, hne]
    rw [e3, jc_eq hq (hw.2.2 (k + 4))]
  · rw [hx]
    simp [va_up]
theorem jok_set {w : jW} (hw : jok w) {a : Nat} (ha : 4 ≤ a ∧ a < w.1) {e : jE} (he : jre w.1 e) : jok (ju w a e) := by
  refine ⟨hw.1, fun k hk => ?_, fun k => ?_⟩
  · have hk : k < 4 ∨ w.1 ≤ k := hk
    have hne : ¬ k = a := by omega
    have := hw.2.1 k hk
    simpa [ju, va_up, hne] using this
  · by_cases hk : k = a
    · subst hk
      simpa [ju, va_up] using he
    · have := hw.2.2 k
      simpa [ju, va_up, hk] using this
theorem jok_push {w : jW} (hw : jok w) {e : jE} (he : jre (w.1 + 1) e) : jok (w.1 + 1, va_up w.2 w.1 e) := by
  have h4 := hw.1
  refine ⟨by show 4 ≤ w.1 + 1; omega, fun k hk => ?_, fun k => ?_⟩
  · have hk : k < 4 ∨ w.1 + 1 ≤ k := hk
    have hne : ¬ k = w.1 := by omega
    have := hw.2.1 k (by omega)
    simpa [va_up, hne] using this
  · show jre (w.1 + 1) (va_up w.2 w.1 e k)
    by_cases hk : k = w.1
    · subst hk
      simpa [va_up] using he
    · have := jre_mono (Nat.le_succ w.1) (hw.2.2 k)
      simpa [va_up, hk] using this
theorem ju_1 (w : jW) (a : Nat) (e : jE) : (ju w a e).1 = w.1 := rfl
theorem ju_s (w : jW) (a : Nat) (e : jE) : (ju w a e).2 a = e := by simp [ju, va_up]
theorem ju_n (w : jW) (a : Nat) (e : jE) {b : Nat} (h : b ≠ a) : (ju w a e).2 b = w.2 b := by simp [ju, va_up, h]
-- locals by place
def jcat2 : Option (Option Value) → Bool
  | some (some v) => v.category == 2
  | _ => false
def jkill (lv : List (Option Value)) (i : Nat) : List (Option Value) := bif (decide (0 < i) && jcat2 (lv[i - 1]?)) then lv.set (i - 1) none else lv
def jput1 (lv : List (Option Value)) (i : Nat) (v : Value) : List (Option Value) := (jkill lv i).set i (some v)
def jput2 (lv : List (Option Value)) (i : Nat) (v : Value) : List (Option Value) := ((jkill lv i).set i (some v)).set (i + 1) none
def jhas (ad : Nat → Nat) (ls : Array Slot) (nL : Nat) (lv : List (Option Value)) : Prop := ls.size = nL ∧ lv_wf ls ∧ lv.length = nL ∧ ∀ (i : Nat) (v : Value), lv[i]? = some (some v) → ls[i]? = some (.val (jv ad v))
def jkl (ad : Nat → Nat) (nL : Nat) (lv : List (Option Value)) : List (Nat × Value) := (List.range nL).filterMap fun i => match lv[i]? with
  | some (some v) => some (i, jv ad v)
  | _ => none
theorem jkl_mem {ad : Nat → Nat} {nL : Nat} {lv : List (Option Value)} {i : Nat} {u : Value} : (i, u) ∈ jkl ad nL lv ↔ i < nL ∧ ∃ v, lv[i]? = some (some v) ∧ u = jv ad v := by
  unfold jkl
  rw [List.mem_filterMap]
  constructor
  · rintro ⟨a, ha, h⟩
    have ha := List.mem_range.mp ha
    split at h
    · rename_i v hv
      cases h
      exact ⟨ha, v, hv, rfl⟩
    · cases h
  · rintro ⟨hi, v, hv, rfl⟩
    exact ⟨i, List.mem_range.mpr hi, by rw [hv]⟩
theorem jhas.kl {ad : Nat → Nat} {ls : Array Slot} {nL : Nat} {lv : List (Option Value)} (h : jhas ad ls nL lv) : lv_has ls nL (jkl ad nL lv) := by
  refine ⟨h.1, h.2.1, fun q hq => ?_⟩
  obtain ⟨-, v, hv, hu⟩ := jkl_mem.mp hq
  rw [hu]
  exact h.2.2.2 q.1 v hv
theorem jcat_jv (ad : Nat → Nat) (v : Value) : (jv ad v).category = v.category := by cases v <;> rfl
theorem jput1_spec {lv : List (Option Value)} {i j : Nat} {x v : Value} (h : (jput1 lv i x)[j]? = some (some v)) : (j = i ∧ v = x) ∨ (j ≠ i ∧ lv[j]? = some (some v) ∧ ¬ (j + 1 = i ∧ v.category = 2)) := by
  unfold jput1 jkill at h
  by_cases hji : j = i
  · subst hji
    rw [List.getElem?_set_self'] at h
    cases hb : (bif (decide (0 < j) && jcat2 (lv[j - 1]?)) then lv.set (j - 1) none else lv)[j]? with
    | none => rw [hb] at h; cases h
    | some z => rw [hb] at h; cases h; exact Or.inl ⟨rfl, rfl⟩
  · rw [List.getElem?_set_ne (fun q => hji q.symm)] at h
    refine Or.inr ⟨hji, ?_⟩
    cases hb : (decide (0 < i) && jcat2 (lv[i - 1]?)) with
    | true =>
      rw [hb, cond_true] at h
      by_cases hj : j = i - 1
      · subst hj
        rw [List.getElem?_set_self'] at h
        cases hz : lv[i - 1]? with
        | none => rw [hz] at h; cases h
        | some z => rw [hz] at h; cases h
      · rw [List.getElem?_set_ne (fun q => hj q.symm)] at h
        exact ⟨h, fun q => hj (by omega)⟩
    | false =>
      rw [hb, cond_false] at h
      refine ⟨h, fun q => ?_⟩
      have h0 : decide (0 < i) = true := by simp; omega
      rw [h0, Bool.true_and] at hb
      rw [show i - 1 = j by omega, h] at hb
      simp [jcat2, q.2] at hb
theorem jput1_len (lv : List (Option Value)) (i : Nat) (x : Value) : (jput1 lv i x).length = lv.length := by
  unfold jput1 jkill
  cases (decide (0 < i) && jcat2 (lv[i - 1]?)) <;> simp
theorem jhas.put1 {ad : Nat → Nat} {ls ls' : Array Slot} {nL i : Nat} {lv : List (Option Value)} {x : Value} (h : jhas ad ls nL lv) (h' : lv_has ls' nL ((i, jv ad x) :: (jkl ad nL lv).filter (fun q => !(q.1 == i) && !(q.1 + 1 == i && q.2.category == 2)))) : jhas ad ls' nL (jput1 lv i x) := by
  refine ⟨h'.1, h'.2.1, by rw [jput1_len]; exact h.2.2.1, fun j v hj => ?_⟩
  rcases jput1_spec hj with ⟨rfl, rfl⟩ | ⟨h1, h2, h3⟩
  · exact h'.2.2 _ List.mem_cons_self
  · refine h'.2.2 (j, jv ad v) (List.mem_cons_of_mem _ (List.mem_filter.mpr ⟨jkl_mem.mpr ⟨?_, v, h2, rfl⟩, ?_⟩))
    · rw [← h.2.2.1]
      exact (List.getElem?_eq_some_iff.mp h2).1
    · simp only [Bool.and_eq_true, Bool.not_eq_true', beq_eq_false_iff_ne, Bool.and_eq_false_iff, jcat_jv]
      refine ⟨h1, ?_⟩
      by_cases hq : j + 1 = i
      · exact Or.inr fun q => h3 ⟨hq, q⟩
      · exact Or.inl hq
theorem jput2_spec {lv : List (Option Value)} {i j : Nat} {x v : Value} (h : (jput2 lv i x)[j]? = some (some v)) : (j = i ∧ v = x) ∨ (j ≠ i ∧ j ≠ i + 1 ∧ lv[j]? = some (some v) ∧ ¬ (j + 1 = i ∧ v.category = 2)) := by
  have h0 : ((jput1 lv i x).set (i + 1) none)[j]? = some (some v) := h
  by_cases hj : j = i + 1
  · subst hj
    rw [List.getElem?_set_self'] at h0
    cases hz : (jput1 lv i x)[i + 1]? with
    | none => rw [hz] at h0; cases h0
    | some z => rw [hz] at h0; cases h0
  · rw [List.getElem?_set_ne (fun q => hj q.symm)] at h0
    rcases jput1_spec h0 with q | ⟨q1, q2, q3⟩
    · exact Or.inl q
    · exact Or.inr ⟨q1, hj, q2, q3⟩
theorem jhas.put2 {ad : Nat → Nat} {ls ls' : Array Slot} {nL i : Nat} {lv : List (Option Value)} {x : Value} (h : jhas ad ls nL lv) (h' : lv_has ls' nL ((i, jv ad x) :: (jkl ad nL lv).filter (fun q => !(q.1 == i) && (!(q.1 == i + 1) && !(q.1 + 1 == i && q.2.category == 2))))) : jhas ad ls' nL (jput2 lv i x) := by
  refine ⟨h'.1, h'.2.1, by unfold jput2; rw [List.length_set, List.length_set]; unfold jkill; cases (decide (0 < i) && jcat2 (lv[i - 1]?)) <;> simp [h.2.2.1], fun j v hj => ?_⟩
  rcases jput2_spec hj with ⟨rfl, rfl⟩ | ⟨h1, h1', h2, h3⟩
  · exact h'.2.2 _ List.mem_cons_self
  · refine h'.2.2 (j, jv ad v) (List.mem_cons_of_mem _ (List.mem_filter.mpr ⟨jkl_mem.mpr ⟨?_, v, h2, rfl⟩, ?_⟩))
    · rw [← h.2.2.1]
      exact (List.getElem?_eq_some_iff.mp h2).1
    · simp only [Bool.and_eq_true, Bool.not_eq_true', beq_eq_false_iff_ne, Bool.and_eq_false_iff, jcat_jv]
      refine ⟨h1, h1', ?_⟩
      by_cases hq : j + 1 = i
      · exact Or.inr fun q => h3 ⟨hq, q⟩
      · exact Or.inl hq
