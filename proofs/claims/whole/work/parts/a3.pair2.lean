section PR2
variable {X A X' A' : Nat → Nat → Int32} {L : Nat → Nat → Int64}
def gX1 (c : Nat) : Prop := c = 4 ∨ c = 10 ∨ c = 15 ∨ c = 16 ∨ c = 19 ∨ c = 27 ∨ c = 43 ∨ c = 51 ∨ c = 60 ∨ (63 < c ∧ c < 76)
def gA1 (c : Nat) : Prop := (10 < c ∧ c < 19) ∨ (19 < c ∧ c < 25) ∨ (27 < c ∧ c < 33) ∨ (43 < c ∧ c < 47) ∨ (51 < c ∧ c < 57) ∨ c = 61 ∨ c = 62 ∨ (76 < c ∧ c < 81) ∨ c = 82 ∨ c = 83 ∨ c = 86 ∨ c = 87 ∨ (93 < c ∧ c < 102)
def g76 (q : Nat) : Prop := q = 4 ∨ q = 5 ∨ q = 7 ∨ q = 13 ∨ q = 15 ∨ q = 32 ∨ q = 36 ∨ q = 39
/-- only what is thought has changed -/
theorem inv_s (hi : inv X A L) (hX : ∀ c, gX1 c → X' c = X c) (h39 : cok X' A' 39) (h47 : cok X' A' 47) (h76 : ∀ q, g76 q → X' 76 q = X 76 q) (hA : ∀ c, gA1 c → A' c = A c) (z84 : zb 49 (A' 84)) (z85 : zb 49 (A' 85)) (hO : iO A') : inv X' A' L := by
  obtain ⟨iC1, ⟨na, v, hV⟩, ⟨dn, kp, pl, bf, af, hD⟩, iI1, ⟨tl, tp, hT⟩, ⟨nb, r, kd, hH⟩, ⟨B, G, cd, vl, st, an, en, n, td, tm, tx, f, k, hL⟩, _, iS⟩ := hi
  have hX2 : ∀ c, gX1 c → ∀ q, X' c q = X c q := fun c hc q => by rw [hX c hc]
  obtain ⟨h1, h2, h3, h4, h5, h6, h7, h8, h9, h10, h11, h12⟩ := iC1
  refine ⟨⟨cok_i h1 (hX _ (by unfold gX1; omega)) (hA _ (by unfold gA1; omega)) (hA _ (by unfold gA1; omega)) (hA _ (by unfold gA1; omega)), h39, h47, cok_i h4 (hX _ (by unfold gX1; omega)) (hA _ (by unfold gA1; omega)) (hA _ (by unfold gA1; omega)) (hA _ (by unfold gA1; omega)), ?_, ?_, z84, z85, ?_, ?_, ?_, ?_⟩,
    ⟨na, v, iV_c hV (hX2 _ (by unfold gX1; omega) _) (hA _ (by unfold gA1; omega)) (h76 _ (by unfold g76; omega)) (hA _ (by unfold gA1; omega))⟩,
    ⟨dn, kp, pl, bf, af, iD_c hD (hX2 _ (by unfold gX1; omega) _) (hX2 _ (by unfold gX1; omega) _) (h76 _ (by unfold g76; omega)) (h76 _ (by unfold g76; omega)) (fun c hc => hA c (by unfold gA1; omega))⟩,
    iI_c iI1 (hX2 _ (by unfold gX1; omega) _) (h76 _ (by unfold g76; omega)) (fun c hc => hA c (by unfold gA1; omega)),
    ⟨tl, tp, iT_c hT (hX2 _ (by unfold gX1; omega) _) (h76 _ (by unfold g76; omega)) (hA _ (by unfold gA1; omega)) (hA _ (by unfold gA1; omega))⟩,
    ⟨nb, r, kd, iH_c hH (hX _ (by unfold gX1; omega)) (h76 _ (by unfold g76; omega)) (h76 _ (by unfold g76; omega)) (fun c hc => hA c (by unfold gA1; omega))⟩,
    ⟨B, G, cd, vl, st, an, en, n, td, tm, tx, f, k, iL_c hL (fun c hc => hX c (by unfold gX1; omega)) (fun q _ _ => hX2 _ (by unfold gX1; omega) _) (h76 _ (by unfold g76; omega)) (fun c hc => hA c (by unfold gA1; omega))⟩, hO,
    iS_c iS (fun c a b => hX c (by unfold gX1; omega)) (hA _ (by unfold gA1; omega)) (hA _ (by unfold gA1; omega)) rfl (hX2 _ (by unfold gX1; omega) _)⟩
  · rw [hA 82 (by unfold gA1; omega), hA 44 (by unfold gA1; omega)]; exact h5
  · rw [hA 83 (by unfold gA1; omega), hA 45 (by unfold gA1; omega)]; exact h6
  · rw [hA 44 (by unfold gA1; omega)]; exact h9
  · rw [hA 45 (by unfold gA1; omega)]; exact h10
  · rw [hA 94 (by unfold gA1; omega), hA 55 (by unfold gA1; omega)]; exact h11
  · rw [hA 55 (by unfold gA1; omega)]; exact h12
/-- the class's rule, the reference's rule, out of the relation -/
theorem inv_rul (hi : inv X A L) : ∃ B cd vl st an en n na v td tm tx, rul B cd vl st an en n na v X A ∧ mrul td tm tx na v X A ∧ rkA na (RkC cd vl st an en n v) (RkM td tm tx v) ∧ v 6 ≤ 12 ∧ v 7 ≤ 6 ∧ (∀ i, i < 6 → v i < 49) := by
  obtain ⟨_, ⟨na, v, hV⟩, _, _, _, _, ⟨B, G, cd, vl, st, an, en, n, td, tm, tx, f, k, hL⟩, _, _⟩ := hi
  obtain ⟨v1, v2, v3, v4, v5, v6, v7, v8⟩ := hV
  obtain ⟨a1, a2, a3, a4, a5, a6, a7, a8, a9, a10, a11, a12, a13, a14, a15, a16, _⟩ := hL
  exact ⟨B, cd, vl, st, an, en, n, na, v, td, tm, tx, ⟨by unfold isB; omega, a2, a4, a5, a6, a7, a8, a9, a10, v2, v1, v3, fun i hi => v6 i (by omega)⟩, ⟨v5, a12, a13, a14, a15, v4, v1, fun i hi => v6 i (by omega)⟩, lwR_rk a16, v7, v8, v6⟩
end PR2
