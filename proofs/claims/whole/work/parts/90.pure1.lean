/-- both programs' own words for the same numbers: readings of a byte row -/
theorem cnt_cg {p q : Nat → Bool} : ∀ n, (∀ i, i < n → p i = q i) → cnt p n = cnt q n
  | 0, _ => rfl
  | n + 1, h => by
    show (if p n = true then cnt p n + 1 else cnt p n) = if q n = true then cnt q n + 1 else cnt q n
    rw [cnt_cg n (fun i hi => h i (by omega)), h n (by omega)]
theorem fsF_app {p : Nat → Bool} : ∀ {m n i : Nat}, fsF p (m + n) i = match fsF p m i with
    | some x => some x
    | none => fsF p n (i + m)
  | 0, n, i => by rw [Nat.zero_add]; rfl
  | m + 1, n, i => by
    rw [show m + 1 + n = (m + n) + 1 by omega]
    show (if p i = true then some i else fsF p (m + n) (i + 1)) = match (if p i = true then some i else fsF p m (i + 1)) with
      | some x => some x
      | none => fsF p n (i + (m + 1))
    by_cases h : p i = true
    · rw [if_pos h, if_pos h]
    · rw [if_neg h, if_neg h, fsF_app, show i + 1 + m = i + (m + 1) by omega]
theorem fsF_s {p : Nat → Bool} {n : Nat} : fsF p (n + 1) 0 = match fsF p n 0 with
    | some x => some x
    | none => if p n = true then some n else none := by
  rw [fsF_app (m := n) (n := 1)]
  cases fsF p n 0 with
  | some x => rfl
  | none => show (if p (0 + n) = true then some (0 + n) else none) = _; rw [Nat.zero_add]
theorem fsF_s1 {p : Nat → Bool} {n x : Nat} (h : fsF p n 0 = some x) : fsF p (n + 1) 0 = some x := by rw [fsF_s, h]
theorem fsF_s0 {p : Nat → Bool} {n : Nat} (h : fsF p n 0 = none) : fsF p (n + 1) 0 = if p n = true then some n else none := by rw [fsF_s, h]
theorem fsF_cnt {p : Nat → Bool} : ∀ n, (fsF p n 0 = none ↔ cnt p n = 0)
  | 0 => ⟨fun _ => rfl, fun _ => rfl⟩
  | n + 1 => by
    have ih := fsF_cnt (p := p) n
    show _ ↔ (if p n = true then cnt p n + 1 else cnt p n) = 0
    cases hf : fsF p n 0 with
    | some x =>
      have h0 : cnt p n ≠ 0 := fun q => by rw [ih.mpr q] at hf; cases hf
      rw [fsF_s1 hf]
      constructor
      · intro q; cases q
      · intro q
        by_cases h : p n = true
        · rw [if_pos h] at q; omega
        · rw [if_neg h] at q; omega
    | none =>
      have h0 := ih.mp hf
      rw [fsF_s0 hf]
      by_cases h : p n = true
      · rw [if_pos h, if_pos h]
        constructor
        · intro q; cases q
        · intro q; omega
      · rw [if_neg h, if_neg h]
        exact ⟨fun _ => h0, fun _ => rfl⟩
theorem fiS_eq {p : Nat → Bool} : ∀ n, fiS p n = oN (fsF p n 0)
  | 0 => rfl
  | n + 1 => by
    show (if p n = true then (if cnt p n = 0 then nI n else fiS p n) else fiS p n) = _
    rw [fsF_s, fiS_eq n]
    have q := fsF_cnt (p := p) n
    cases hf : fsF p n 0 with
    | some x =>
      have h0 : cnt p n ≠ 0 := fun e => by rw [q.mpr e] at hf; cases hf
      by_cases h : p n = true
      · rw [if_pos h, if_neg h0]
      · rw [if_neg h]
    | none =>
      have h0 := q.mp hf
      by_cases h : p n = true
      · rw [if_pos h, if_pos h0]
        show nI n = oN (if p n = true then some n else none)
        rw [if_pos h]; rfl
      · rw [if_neg h]
        show oN none = oN (if p n = true then some n else none)
        rw [if_neg h]
theorem anyB_cnt {p : Nat → Bool} : ∀ n, (anyB p n = true ↔ cnt p n ≠ 0)
  | 0 => ⟨fun h => (by cases h), fun h => absurd rfl h⟩
  | n + 1 => by
    have ih := anyB_cnt (p := p) n
    show (if p n = true then true else anyB p n) = true ↔ (if p n = true then cnt p n + 1 else cnt p n) ≠ 0
    by_cases h : p n = true
    · rw [if_pos h, if_pos h]; exact ⟨fun _ => by omega, fun _ => rfl⟩
    · rw [if_neg h, if_neg h]; exact ih
theorem sure_eq {p : Nat → Bool} {st n : Nat} : (if anyB p n = true then nI (sureS p st n) else nI 0) = if cnt p n = 0 then nI 0 else nI (sureS p st n) := by
  by_cases h : cnt p n = 0
  · rw [if_pos h, if_neg (fun q => (anyB_cnt n).mp q h)]
  · rw [if_neg h, if_pos ((anyB_cnt n).mpr h)]
theorem sureS_cg {p q : Nat → Bool} {st : Nat} : ∀ n, (∀ i, i < n → p i = q i) → sureS p st n = sureS q st n
  | 0, _ => rfl
  | n + 1, h => by
    show (if p n = true then sureS p st n &&& n else sureS p st n) = if q n = true then sureS q st n &&& n else sureS q st n
    rw [sureS_cg n (fun i hi => h i (by omega)), h n (by omega)]
theorem fsF_cg {p q : Nat → Bool} : ∀ {n i : Nat}, (∀ k, i ≤ k → k < i + n → p k = q k) → fsF p n i = fsF q n i
  | 0, _, _ => rfl
  | n + 1, i, h => by
    show (if p i = true then some i else fsF p n (i + 1)) = if q i = true then some i else fsF q n (i + 1)
    rw [h i (Nat.le_refl _) (by omega), fsF_cg (n := n) (fun k h1 h2 => h k (by omega) (by omega))]
/-- open -/
theorem xor_and0 {s t op : Nat} : (s ^^^ t) &&& op = 0 ↔ s &&& op = t &&& op := by
  rw [Nat.and_xor_distrib_right]
  constructor
  · intro h
    have : (s &&& op) ^^^ ((s &&& op) ^^^ (t &&& op)) = (s &&& op) ^^^ 0 := by rw [h]
    rw [← Nat.xor_assoc, Nat.xor_self, Nat.zero_xor, Nat.xor_zero] at this
    exact this.symm
  · intro h
    rw [h, Nat.xor_self]
theorem opB_bad {mk : Nat → Bool} {t op s : Nat} (h : mk t = true) : opB mk t op s = (badB mk t op s || decide (s = t)) := by
  unfold opB badB
  by_cases e : s = t
  · subst e; rw [h]; simp
  · have e1 : decide ((s ^^^ t) &&& op = 0) = decide (s &&& op = t &&& op) := decide_eq_decide.mpr xor_and0
    rw [e1]
    simp [e]
    rw [Bool.and_comm]
theorem opB_cnt {mk : Nat → Bool} {t op : Nat} (h : mk t = true) : ∀ n, cnt (opB mk t op) n = cnt (badB mk t op) n + if t < n then 1 else 0
  | 0 => rfl
  | n + 1 => by
    have ih := opB_cnt (op := op) h n
    show (if opB mk t op n = true then _ else _) = (if badB mk t op n = true then _ else _) + _
    rw [ih, opB_bad h]
    by_cases e : n = t
    · subst e
      have hb : badB mk n op n = false := by unfold badB; simp
      rw [hb]
      simp
    · by_cases q : badB mk t op n = true
      · rw [q]; simp only [Bool.true_or, if_true]
        by_cases l : t < n
        · rw [if_pos l, if_pos (by omega)]
        · rw [if_neg l, if_neg (by omega)]
      · have q' : badB mk t op n = false := by simpa using q
        rw [q']
        simp only [Bool.false_or, decide_eq_true_eq, e, if_false]
        by_cases l : t < n
        · rw [if_pos l, if_pos (show t < n + 1 by omega)]; simp
        · rw [if_neg l, if_neg (show ¬ t < n + 1 by omega)]; simp
theorem boM_eq {mk : Nat → Bool} {t g : Nat} (h : mk t = true) (ht : t < 2 ^ g) : ∀ n, boM mk t g n = fwS (fun op => decide (cnt (badB mk t op) (2 ^ g) = 0)) (2 ^ g - 1) n
  | 0 => rfl
  | n + 1 => by
    have ih := boM_eq h ht n
    show (if pcN n < pcN (boM mk t g n) then (if cnt (opB mk t n) (2 ^ g) = 1 then n else boM mk t g n) else boM mk t g n) = _
    rw [ih, opB_cnt h, if_pos ht]
    show _ = if pcN n < pcN (fwS _ (2 ^ g - 1) n) then (if decide (cnt (badB mk t n) (2 ^ g) = 0) = true then n else _) else _
    by_cases l : pcN n < pcN (fwS (fun op => decide (cnt (badB mk t op) (2 ^ g) = 0)) (2 ^ g - 1) n)
    · rw [if_pos l, if_pos l]
      by_cases q : cnt (badB mk t n) (2 ^ g) = 0
      · rw [if_pos (by omega), if_pos (decide_eq_true q)]
      · rw [if_neg (by omega), if_neg (fun e => q (of_decide_eq_true e))]
    · rw [if_neg l, if_neg l]
theorem badB_cg {p q : Nat → Bool} {t op n : Nat} (h : ∀ i, i < n → p i = q i) : cnt (badB p t op) n = cnt (badB q t op) n := cnt_cg n fun i hi => by unfold badB; rw [h i hi]
theorem fwS_cg {f g : Nat → Bool} {st : Nat} (h : ∀ i, f i = g i) (n : Nat) : fwS f st n = fwS g st n := by rw [funext h]
/-- full and own neighbours -/
theorem cnt_split {p q : Nat → Bool} : ∀ n, cnt p n = cnt (fun x => p x && q x) n + cnt (fun x => p x && !q x) n
  | 0 => rfl
  | n + 1 => by
    have ih := cnt_split (p := p) (q := q) n
    show (if p n = true then _ else _) = (if (p n && q n) = true then _ else _) + (if (p n && !q n) = true then _ else _)
    rw [ih]
    cases p n <;> cases q n <;> simp <;> omega
theorem full_eq {O : Nat → Int32} {c : Nat} : dg c - eN O c = cnt (fun o => isNx c o && heldB O o) 49 := by
  have q := cnt_split (p := isNx c) (q := heldB O) 49
  rw [← dg_cnt] at q
  unfold eN
  omega
theorem own_cnt {q : Nat → Bool} {c : Nat} (hc : c < 49) : ∀ n, n ≤ 49 → cnt (fun k => q (nb c k)) (cnt (isNx c) n) = cnt (fun o => isNx c o && q o) n
  | 0, _ => rfl
  | n + 1, h => by
    have ih := own_cnt (q := q) hc n (by omega)
    show cnt _ (if isNx c n = true then cnt (isNx c) n + 1 else cnt (isNx c) n) = if (isNx c n && q n) = true then _ else _
    by_cases e : isNx c n = true
    · rw [if_pos e, e, Bool.true_and, ← ih]
      show (if q (nb c (cnt (isNx c) n)) = true then _ else _) = _
      rw [nb_cnt hc (by omega) e]
    · rw [if_neg e, ih, if_neg (by simp [e])]
theorem own_eq {O : Nat → Int32} {a : Int32} {c : Nat} (hc : c < 49) : owN O a c = cnt (fun o => isNx c o && decide (O o = a)) 49 := by
  unfold owN
  rw [dg_cnt]
  exact own_cnt (q := fun o => decide (O o = a)) hc 49 (Nat.le_refl _)
/-- the sale that fails first -/
theorem ruS_low {Rk : (Nat → Int32) → Int32 → Int32 → Nat → Int32} {a s : Nat → Int32} {c : cS} {k : Nat} (h : (ruS Rk a s c k).2 = false) : ∀ m, k ≤ m → (ruS Rk a s c m).2 = false := by
  intro m hm
  induction m with
  | zero => rw [show k = 0 by omega] at h; cases h
  | succ m ih =>
    by_cases e : k = m + 1
    · rw [← e]; exact h
    · have q := ih (by omega)
      show (if (ruS Rk a s c m).2 = true then _ else ruS Rk a s c m).2 = false
      rw [if_neg (by rw [q]; decide)]
      exact q
