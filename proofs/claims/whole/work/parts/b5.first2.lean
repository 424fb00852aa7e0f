/-! the first world keeps the states side by side -/
section FIRST2
variable {f9 : Nat → Int32}
theorem oI_zb : zb 49 oI := fun c hc => oI_out hc
theorem eOf_zb (O : Nat → Int32) : zb 49 (eOf O) := fun c hc => by
  unfold eOf
  rw [if_neg (by omega)]
theorem z_zb (n : Nat) : zb n (fun _ => (0 : Int32)) := fun _ _ => rfl
theorem hOf_oI : hOf oI = 0 := by
  have : hN oI = 0 := by
    unfold hN
    rw [cnt_eq (q := fun _ => false) (fun x hx => oI_h hx)]
    decide +kernel
  unfold hOf
  rw [this]
  rfl
theorem cok_first {K : Nat} (hX : xI K 4 = 0) (h1 : aI f9 (K + 1) = oI) (h2 : aI f9 (K + 2) = fun _ => 0) (h3 : aI f9 (K + 3) = eOf oI) : cok xI (aI f9) K := by
  unfold cok
  rw [hX, h1, h2, h3, hOf_oI]
  exact ⟨oI_zb, z_zb _, rfl, rfl⟩
def vI (i : Nat) : Nat := if i = 6 then 6 else if i = 7 then 1 else 0
theorem stI_eq : stI = nIf vI := by
  have e6 : (nI 6).toNatClampNeg = 6 := rfl
  have e7 : (nI 7).toNatClampNeg = 7 := rfl
  funext j
  unfold stI
  rw [e6, e7]
  by_cases h7 : j = 7
  · subst h7; rw [ud_s]; rfl
  · rw [ud_n _ _ _ h7]
    by_cases h6 : j = 6
    · subst h6; rw [ud_s]; rfl
    · rw [ud_n _ _ _ h6]
      unfold nIf vI
      rw [if_neg h6, if_neg h7]
      rfl
theorem shI_in {j : Nat} (h : j < 6) : shI j = -1 := by
  rcases (show j = 0 ∨ j = 1 ∨ j = 2 ∨ j = 3 ∨ j = 4 ∨ j = 5 by omega) with rfl | rfl | rfl | rfl | rfl | rfl <;> rfl
theorem nIf_z : (fun _ => (0 : Int32)) = nIf (fun _ => 0) := rfl
def kI (q : Nat) : Nat := if q = 6 then 1 else 0
theorem xI_sh {j : Nat} (h : j < 6) {q : Nat} : xI (64 + 2 * j) q = if q = 1 then -2 else 0 := by
  unfold xI
  rw [if_neg (by omega), if_neg (by omega), if_neg (by omega), if_neg (by omega), if_pos (by omega)]
theorem inv_first : inv xI (aI f9) lZ := by
  refine ⟨⟨cok_first rfl rfl rfl rfl, cok_first rfl rfl rfl rfl, cok_first rfl rfl rfl rfl, cok_first rfl rfl rfl rfl, rfl, rfl, oI_zb, z_zb _, fun c hc => Or.inl (oI_in hc), fun c hc => ⟨Nat.zero_le _, rfl⟩, rfl, z_zb _⟩, ⟨0, vI, by decide, rfl, stI_eq, rfl, stI_eq, fun i hi => ?_, by decide, by decide⟩, ⟨0, 0, fun _ => 0, fun _ => 0, fun _ => 0, Nat.le_refl _, by decide, rfl, rfl, rfl, rfl, rfl, rfl, rfl, rfl, rfl, rfl, fun i hi => absurd hi (Nat.not_lt_zero i)⟩, ⟨Or.inl rfl, rfl, z_zb _, z_zb _, z_zb _, z_zb _, fun h => absurd h (by decide)⟩, ⟨0, fun _ => 0, by decide, fun _ => Nat.pos_of_ne_zero (by decide), rfl, rfl, rfl, rfl⟩, ⟨0, 0, fun _ => 0, by decide, by decide, fun _ => Nat.pos_of_ne_zero (by decide), rfl, rfl, rfl, rfl, rfl, rfl, rfl⟩, ⟨19, 27, fun _ => 0, fun _ => 0, fun _ => 0, fun _ => 0, fun _ => 0, 0, false, 0, fun _ => 0, fun _ _ => 0, kI, Or.inl ⟨rfl, rfl⟩, rfl, rfl, rfl, rfl, rfl, rfl, rfl, rfl, ⟨fun _ => Nat.pos_of_ne_zero (by decide), fun _ => Nat.pos_of_ne_zero (by decide), by decide, fun i hi => absurd hi (Nat.not_lt_zero i)⟩, ⟨0, 0, 0, rfl, rfl, rfl⟩, by decide, fun _ => Nat.pos_of_ne_zero (by decide), rfl, rfl, Or.inl ⟨rfl, rfl⟩, rX_at (by decide) (r16_at rfl rfl rfl rfl) (rG_at rfl rfl rfl rfl), rA_at rfl rfl rfl rfl rfl rfl, fun _ => Nat.pos_of_ne_zero (by decide), fun _ => Nat.pos_of_ne_zero (by decide), fun _ => Nat.pos_of_ne_zero (by decide)⟩, ⟨⟨fun _ => 0, rfl⟩, ⟨fun _ => 0, rfl⟩⟩, fun j hj => ?_⟩
  · unfold vI
    split
    · decide
    · split <;> decide
  · refine ⟨0, 0, 0, 0, by decide, by decide, by decide, by decide, ?_, fun h => absurd h (by decide), ?_, ?_, ?_, fun h => absurd h (by decide), fun _ _ => rfl, fun h => absurd h (by decide)⟩
    · rw [xI_sh hj]; rfl
    · rw [xI_sh hj]; rfl
    · rw [xI_sh hj]; rfl
    · show shI j = _
      rw [shI_in hj]
      rfl
end FIRST2
