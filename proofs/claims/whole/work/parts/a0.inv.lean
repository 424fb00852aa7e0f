/-! both programs' states side by side -/
section INV
variable {X A X' A' : Nat → Nat → Int32} {L L' : Nat → Nat → Int64} {d : Nat}
theorem cok_i {K : Nat} (h : cok X A K) (hX : X' K = X K) (h1 : A' (K + 1) = A (K + 1)) (h2 : A' (K + 2) = A (K + 2)) (h3 : A' (K + 3) = A (K + 3)) : cok X' A' K := by
  unfold cok at h ⊢
  rw [hX, h1, h2, h3]
  exact h
/-- the combs and the ledger -/
def iC (X A : Nat → Nat → Int32) : Prop := cok X A 43 ∧ cok X A 39 ∧ cok X A 47 ∧ cok X A 51 ∧ A 82 = A 44 ∧ A 83 = A 45 ∧ zb 49 (A 84) ∧ zb 49 (A 85) ∧ ow (A 44) ∧ s6 (A 45) ∧ A 94 = A 55 ∧ zb 6 (A 55)
def cC (c : Nat) : Prop := (40 ≤ c ∧ c ≤ 55) ∨ (82 ≤ c ∧ c ≤ 85) ∨ c = 94
theorem iC_c (h : iC X A) (hX : ∀ c, c = 39 ∨ c = 43 ∨ c = 47 ∨ c = 51 → X' c = X c) (hA : ∀ c, cC c → A' c = A c) : iC X' A' := by
  obtain ⟨h1, h2, h3, h4, h5, h6, h7, h8, h9, h10, h11, h12⟩ := h
  refine ⟨cok_i h1 (hX _ (by omega)) (hA _ (by unfold cC; omega)) (hA _ (by unfold cC; omega)) (hA _ (by unfold cC; omega)), cok_i h2 (hX _ (by omega)) (hA _ (by unfold cC; omega)) (hA _ (by unfold cC; omega)) (hA _ (by unfold cC; omega)), cok_i h3 (hX _ (by omega)) (hA _ (by unfold cC; omega)) (hA _ (by unfold cC; omega)) (hA _ (by unfold cC; omega)), cok_i h4 (hX _ (by omega)) (hA _ (by unfold cC; omega)) (hA _ (by unfold cC; omega)) (hA _ (by unfold cC; omega)), ?_, ?_, ?_, ?_, ?_, ?_, ?_, ?_⟩
  · rw [hA 82 (by unfold cC; omega), hA 44 (by unfold cC; omega)]; exact h5
  · rw [hA 83 (by unfold cC; omega), hA 45 (by unfold cC; omega)]; exact h6
  · rw [hA 84 (by unfold cC; omega)]; exact h7
  · rw [hA 85 (by unfold cC; omega)]; exact h8
  · rw [hA 44 (by unfold cC; omega)]; exact h9
  · rw [hA 45 (by unfold cC; omega)]; exact h10
  · rw [hA 94 (by unfold cC; omega), hA 55 (by unfold cC; omega)]; exact h11
  · rw [hA 55 (by unfold cC; omega)]; exact h12
/-- the settings: accounts' places, the rest -/
def iV (X A : Nat → Nat → Int32) (na : Nat) (v : Nat → Nat) : Prop := na ≤ 6 ∧ X 10 1 = nI na ∧ A 11 = nIf v ∧ X 76 7 = nI na ∧ A 77 = nIf v ∧ (∀ i, i < 6 → v i < 49) ∧ v 6 ≤ 12 ∧ v 7 ≤ 6
theorem iV_c {na : Nat} {v : Nat → Nat} (h : iV X A na v) (h1 : X' 10 1 = X 10 1) (h2 : A' 11 = A 11) (h3 : X' 76 7 = X 76 7) (h4 : A' 77 = A 77) : iV X' A' na v := by
  unfold iV at h ⊢
  rw [h1, h2, h3, h4]
  exact h
/-- what was mended -/
def iD (X A : Nat → Nat → Int32) (dn kp : Nat) (pl bf af : Nat → Nat) : Prop := dn ≤ kp ∧ kp ≤ 40 ∧ X 10 5 = nI dn ∧ X 10 6 = nI kp ∧ X 76 5 = nI dn ∧ X 76 4 = nI kp ∧ A 12 = nIf pl ∧ A 13 = nIf bf ∧ A 14 = nIf af ∧ A 78 = nIf pl ∧ A 79 = nIf bf ∧ A 80 = nIf af ∧ ∀ i, i < kp → pl i < 8 ∧ bf i ≤ mx (if pl i < 6 then 0 else pl i - 5) ∧ af i ≤ mx (if pl i < 6 then 0 else pl i - 5)
theorem iD_c {dn kp : Nat} {pl bf af : Nat → Nat} (h : iD X A dn kp pl bf af) (h1 : X' 10 5 = X 10 5) (h2 : X' 10 6 = X 10 6) (h3 : X' 76 5 = X 76 5) (h4 : X' 76 4 = X 76 4) (hA : ∀ c, c = 12 ∨ c = 13 ∨ c = 14 ∨ c = 78 ∨ c = 79 ∨ c = 80 → A' c = A c) : iD X' A' dn kp pl bf af := by
  unfold iD at h ⊢
  rw [h1, h2, h3, h4, hA 12 (by omega), hA 13 (by omega), hA 14 (by omega), hA 78 (by omega), hA 79 (by omega), hA 80 (by omega)]
  exact h
/-- the image -/
def iI (X A : Nat → Nat → Int32) : Prop := (X 4 9 = nI 0 ∨ X 4 9 = nI 1) ∧ X 76 32 = X 4 9 ∧ zb 49 (A 95) ∧ zb 49 (A 96) ∧ zb 6 (A 97) ∧ zb 6 (A 56) ∧ (X 4 9 = nI 1 → A 95 = A 52 ∧ A 96 = A 53 ∧ A 97 = A 56 ∧ ow (A 52) ∧ s6 (A 53))
theorem iI_c (h : iI X A) (h1 : X' 4 9 = X 4 9) (h2 : X' 76 32 = X 76 32) (hA : ∀ c, c = 52 ∨ c = 53 ∨ c = 56 ∨ c = 95 ∨ c = 96 ∨ c = 97 → A' c = A c) : iI X' A' := by
  unfold iI at h ⊢
  rw [h1, h2, hA 95 (by omega), hA 96 (by omega), hA 97 (by omega), hA 52 (by omega), hA 53 (by omega), hA 56 (by omega)]
  exact h
/-- the tape -/
def iT (X A : Nat → Nat → Int32) (tl : Nat) (tp : Nat → Nat) : Prop := tl ≤ 120 ∧ (∀ i, tp i < 256) ∧ X 16 1 = nI tl ∧ A 17 = nIf tp ∧ X 76 13 = nI tl ∧ A 86 = nIf tp
theorem iT_c {tl : Nat} {tp : Nat → Nat} (h : iT X A tl tp) (h1 : X' 16 1 = X 16 1) (h2 : X' 76 13 = X 76 13) (h3 : A' 17 = A 17) (h4 : A' 86 = A 86) : iT X' A' tl tp := by
  unfold iT at h ⊢
  rw [h1, h2, h3, h4]
  exact h
/-- a shelf of the one, the other's -/
def iS1 (X A : Nat → Nat → Int32) (L : Nat → Nat → Int64) (j : Nat) : Prop := ∃ h b so ln : Nat, h ≤ 2 ∧ b < 50 ∧ so ≤ 4 ∧ ln ≤ 60 ∧ X (64 + 2 * j) 0 = nI h ∧ (h = 1 → X (64 + 2 * j) 1 = nI b) ∧ X (64 + 2 * j) 2 = nI so ∧ X (64 + 2 * j) 3 = nI ln ∧ A 100 j = mshI h b so ∧ (h = 2 → A 101 j = nI ln ∧ ∀ i, i < ln → L 102 (60 * j + i) = L (64 + 2 * j + 1) i ∧ (so = 0 → L (64 + 2 * j + 1) i = (L (64 + 2 * j + 1) i).toInt32.toInt64)) ∧ zl 60 (L (64 + 2 * j + 1)) ∧ (h = 1 → ∃ nb, X 60 1 = nI nb ∧ nb ≤ 50 ∧ b < nb)
theorem iS1_c {j : Nat} (h : iS1 X A L j) (h1 : X' (64 + 2 * j) = X (64 + 2 * j)) (h2 : A' 100 j = A 100 j) (h3 : A' 101 j = A 101 j) (h4 : ∀ i, i < 60 → L' 102 (60 * j + i) = L 102 (60 * j + i)) (h5 : L' (64 + 2 * j + 1) = L (64 + 2 * j + 1)) (h6 : ∀ nb, X 60 1 = nI nb → nb ≤ 50 → ∃ n', X' 60 1 = nI n' ∧ n' ≤ 50 ∧ nb ≤ n') : iS1 X' A' L' j := by
  obtain ⟨h, b, so, ln, a1, a2, a3, a4, a5, a6, a7, a8, a9, a10, a11, a12⟩ := h
  refine ⟨h, b, so, ln, a1, a2, a3, a4, by rw [h1]; exact a5, by rw [h1]; exact a6, by rw [h1]; exact a7, by rw [h1]; exact a8, by rw [h2]; exact a9, fun q => ?_, by rw [h5]; exact a11, fun q => ?_⟩
  · obtain ⟨q1, q2⟩ := a10 q
    refine ⟨by rw [h3]; exact q1, fun i hi => ?_⟩
    rw [h4 i (by omega), h5]
    exact q2 i hi
  · obtain ⟨nb, n1, n2, n3⟩ := a12 q
    obtain ⟨n', m1, m2, m3⟩ := h6 nb n1 n2
    exact ⟨n', m1, m2, by omega⟩
end INV
