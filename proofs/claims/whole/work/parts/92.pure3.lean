/-- naturals as longs -/
def lI (n : Nat) : Int64 := Int64.ofNat n
theorem lI_toInt {n : Nat} (h : n < 2 ^ 63) : (lI n).toInt = n := Int64.toInt_ofNat_of_lt h
theorem lI_eq {a b : Nat} (ha : a < 2 ^ 63) (hb : b < 2 ^ 63) : lI a = lI b ↔ a = b := by
  constructor
  · intro h
    have : (lI a).toInt = (lI b).toInt := by rw [h]
    rw [lI_toInt ha, lI_toInt hb] at this
    omega
  · intro h; rw [h]
theorem lI_mul (a b : Nat) : lI a * lI b = lI (a * b) := (Int64.ofNat_mul a b).symm
theorem lI_add (a b : Nat) : lI a + lI b = lI (a + b) := (Int64.ofNat_add a b).symm
theorem lI_sub {a b : Nat} (h : b ≤ a) : lI a - lI b = lI (a - b) := (Int64.ofNat_sub a b h).symm
theorem lI_div {a b : Nat} (ha : a < 2 ^ 63) (hb : b < 2 ^ 63) : lI a / lI b = lI (a / b) := by
  apply Int64.toInt_inj.mp
  have hd : a / b < 2 ^ 63 := Nat.lt_of_le_of_lt (Nat.div_le_self a b) ha
  rw [Int64.toInt_div, lI_toInt ha, lI_toInt hb, lI_toInt hd]
  rw [show (a : Int).tdiv b = ((a / b : Nat) : Int) from by rw [Int.tdiv_eq_ediv_of_nonneg (by omega)]; rfl]
  generalize a / b = z at hd ⊢
  exact Int.bmod_eq_of_le (by omega) (by omega)
theorem lI_i {n : Nat} (h : n < 2 ^ 31) : (nI n).toInt64 = lI n := by
  apply Int64.toInt_inj.mp
  rw [lI_toInt (by omega), Int32.toInt_toInt64]
  exact Int32.toInt_ofNat_of_lt h
theorem lI_mod {a b : Nat} (ha : a < 2 ^ 63) (hb : b < 2 ^ 63) : lI a - lI a / lI b * lI b = lI (a % b) := by
  have h := Nat.div_add_mod a b
  rw [Nat.mul_comm] at h
  rw [lI_div ha hb, lI_mul, lI_sub (by omega)]
  exact congrArg lI (by omega)
theorem lI_0 {a : Nat} (ha : a < 2 ^ 63) : lI a = 0 ↔ a = 0 := lI_eq ha (by decide)
/-- Euclid's fuel -/
theorem gcO_fuel : ∀ {k f a b : Nat}, a < 2 ^ 63 → b < 2 ^ 63 → b < 2 ^ k → 2 * k + 1 ≤ f → gcO f (lI a) (lI b) = some (lI (Nat.gcd b a))
  | 0, f + 1, a, b, ha, hb, hk, _ => by
    have : b = 0 := by simpa using hk
    subst this
    rw [gcO_t (show lI 0 = 0 from rfl), Nat.gcd_zero_left]
  | k + 1, f, a, b, ha, hb, hk, hf => by
    obtain ⟨f', rfl⟩ : ∃ f', f = f' + 2 := ⟨f - 2, by omega⟩
    by_cases h0 : b = 0
    · subst h0
      rw [gcO_t (show lI 0 = 0 from rfl), Nat.gcd_zero_left]
    · have hm := Nat.mod_lt a (Nat.pos_of_ne_zero h0)
      rw [gcO_f (fun q => h0 ((lI_0 hb).mp q)), lI_mod ha hb, Nat.gcd_rec]
      by_cases h1 : a % b = 0
      · rw [h1, gcO_t (show lI 0 = 0 from rfl), Nat.gcd_zero_left]
      · have hm2 := Nat.mod_lt b (Nat.pos_of_ne_zero h1)
        rw [gcO_f (fun q => h1 ((lI_0 (by omega)).mp q)), lI_mod hb (by omega), Nat.gcd_rec]
        have hle : 2 * (b % (a % b)) ≤ b := by
          have hd := Nat.div_add_mod b (a % b)
          have h2 : 1 ≤ b / (a % b) := Nat.div_pos (by omega) (Nat.pos_of_ne_zero h1)
          have h3 : a % b ≤ a % b * (b / (a % b)) := Nat.le_mul_of_pos_right _ h2
          omega
        have hp : 2 ^ (k + 1) = 2 ^ k * 2 := Nat.pow_succ 2 k
        exact gcO_fuel (k := k) (by omega) (by omega) (by omega) (by omega)
theorem gcJ_gcO : ∀ {f : Nat} {x y g : Int64}, gcO f x y = some g → gcJ f x y = g
  | 0, _, _, _, h => by cases h
  | f + 1, x, y, g, h => by
    show (if y = 0 then x else gcJ f y (x - x / y * y)) = g
    by_cases q : y = 0
    · rw [gcO_t q] at h
      rw [if_pos q]; exact Option.some.inj h
    · rw [gcO_f q] at h
      rw [if_neg q]; exact gcJ_gcO h
theorem gcO_200 {a b : Nat} (ha : a < 2 ^ 63) (hb : b < 2 ^ 63) : gcO 200 (lI a) (lI b) = some (lI (Nat.gcd b a)) := gcO_fuel (k := 63) ha hb hb (by omega)
theorem fr_eq {a b : Nat} (ha : a < 2 ^ 62) (hb : b < 2 ^ 62) (hb0 : 0 < b) {p : Int32} (hp : is01 p = nI 1) : frJ (lI a) (lI b) p = frM (lI a) (lI b) p := by
  have hg := gcJ_gcO (gcO_200 (a := a) (b := b) (by omega) (by omega))
  have hg2 := gcO_200 (a := b) (b := a) (by omega) (by omega)
  have hpos : 0 < Nat.gcd b a := Nat.gcd_pos_of_pos_left _ hb0
  have hle : Nat.gcd b a ≤ b := Nat.gcd_le_left _ hb0
  unfold frJ frM
  rw [hg, if_neg (fun q => by have := (lI_0 (by omega)).mp q; omega), hg2]
  by_cases h0 : a = 0
  · subst h0
    rw [if_pos (show lI 0 = 0 from rfl), Nat.gcd_zero_right]
    rcases (show p = 0 ∨ p = nI 1 from by
      unfold is01 at hp
      by_cases q : p = 0
      · exact Or.inl q
      · rw [if_neg q] at hp
        by_cases q1 : p = nI 1
        · exact Or.inr q1
        · rw [if_neg q1] at hp; exact absurd hp (by decide)) with rfl | rfl
    · rw [if_pos rfl, lI_div (by omega) (by omega), Nat.zero_div]; rfl
    · rw [if_neg (by decide), lI_div (by omega) (by omega), Nat.div_self hb0]; rfl
  · rw [if_neg (fun q => h0 ((lI_0 (by omega)).mp q)), Nat.gcd_comm a b]
    rfl
theorem gcO_ok {a b : Nat} (ha : a < 2 ^ 62) (hb : b < 2 ^ 62) (hb0 : 0 < b) : ∃ g, gcO 200 (lI b) (lI a) = some g ∧ g ≠ 0 := ⟨_, gcO_200 (by omega) (by omega), fun q => by
  have hpos : 0 < Nat.gcd a b := Nat.gcd_pos_of_pos_right _ hb0
  have hle : Nat.gcd a b ≤ b := Nat.gcd_le_right _ hb0
  have := (lI_0 (by omega)).mp q
  omega⟩
theorem lI_le {a b : Nat} (ha : a < 2 ^ 63) (hb : b < 2 ^ 63) : lI a ≤ lI b ↔ a ≤ b := by
  rw [Int64.le_iff_toInt_le, lI_toInt ha, lI_toInt hb]; omega
theorem lI_lt {a b : Nat} (ha : a < 2 ^ 63) (hb : b < 2 ^ 63) : lI a < lI b ↔ a < b := by
  rw [Int64.lt_iff_toInt_lt, lI_toInt ha, lI_toInt hb]; omega
/-- powers and passes -/
theorem mf_eq {g x : Nat} (hg : g ≤ 12) (hx : x ≤ 12) : mfM g x 8 = mfS g x 9 := by
  have q : (List.range 13).all (fun g => (List.range 13).all fun x => decide (mfM g x 8 = mfS g x 9)) = true := by decide +kernel
  exact of_decide_eq_true (List.all_eq_true.mp (List.all_eq_true.mp q g (List.mem_range.mpr (by omega))) x (List.mem_range.mpr (by omega)))
theorem pw12_eq {m : Nat} (h : m ≤ 8) : pw12 m = pwJ (nI 12) m := by
  have q : (List.range 9).all (fun m => decide (pw12 m = pwJ (nI 12) m)) = true := by decide +kernel
  exact of_decide_eq_true (List.all_eq_true.mp q m (List.mem_range.mpr (by omega)))
theorem pw_nat {b m : Nat} (hb : b ≤ 12) (hm : m ≤ 8) : pwJ (nI b) m = lI (b ^ m) := by
  have q : (List.range 13).all (fun b => (List.range 9).all fun m => decide (pwJ (nI b) m = lI (b ^ m))) = true := by decide +kernel
  exact of_decide_eq_true (List.all_eq_true.mp (List.all_eq_true.mp q b (List.mem_range.mpr (by omega))) m (List.mem_range.mpr (by omega)))
theorem pow_lt12 {b m : Nat} (hb : b ≤ 12) (hm : m ≤ 8) : b ^ m < 2 ^ 62 := by
  have h1 : b ^ m ≤ 12 ^ m := Nat.pow_le_pow_left hb m
  have h2 : 12 ^ m ≤ 12 ^ 8 := Nat.pow_le_pow_right (by decide) hm
  have h3 : 12 ^ 8 < 2 ^ 62 := by decide
  omega
/-- weights -/
def hwN (fl h s : Nat) : Nat := fl ^ (pcN (tdN h s)) * (12 - fl) ^ (3 - pcN (tdN h s))
theorem hw_nat {fl h s : Nat} (hf : fl < 7) (hh : h < 8) (hs : s < 8) : hwJ fl h s = lI (hwN fl h s) ∧ hwN fl h s ≤ 1728 := by
  have q : (List.range 7).all (fun fl => (List.range 8).all fun h => (List.range 8).all fun s => decide (hwJ fl h s = lI (hwN fl h s)) && decide (hwN fl h s ≤ 1728)) = true := by decide +kernel
  have q2 := List.all_eq_true.mp (List.all_eq_true.mp (List.all_eq_true.mp q fl (List.mem_range.mpr hf)) h (List.mem_range.mpr hh)) s (List.mem_range.mpr hs)
  rw [Bool.and_eq_true] at q2
  exact ⟨of_decide_eq_true q2.1, of_decide_eq_true q2.2⟩
