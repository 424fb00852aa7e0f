section INV2
variable {X A X' A' : Nat → Nat → Int32} {L L' : Nat → Nat → Int64} {d : Nat}
/-- hives, the trace -/
def iH (X A : Nat → Nat → Int32) (nb r : Nat) (kd : Nat → Nat) : Prop := nb ≤ 50 ∧ r < 2 ^ 30 ∧ (∀ i, kd i < 8) ∧ X 60 1 = nI nb ∧ A 61 = nIf kd ∧ X 60 3 = nI r ∧ X 76 36 = nI nb ∧ A 98 = nIf kd ∧ X 76 39 = nI r ∧ A 99 = A 62
theorem iH_c {nb r : Nat} {kd : Nat → Nat} (h : iH X A nb r kd) (h1 : X' 60 = X 60) (h2 : X' 76 36 = X 76 36) (h3 : X' 76 39 = X 76 39) (hA : ∀ c, c = 61 ∨ c = 62 ∨ c = 98 ∨ c = 99 → A' c = A c) : iH X' A' nb r kd := by
  unfold iH at h ⊢
  rw [h1, h2, h3, hA 61 (by omega), hA 62 (by omega), hA 98 (by omega), hA 99 (by omega)]
  exact h
/-- the law that rules, with its text; the draft -/
def iL (X A : Nat → Nat → Int32) (B G : Nat) (cd vl st an en : Nat → Nat) (n : Nat) (td : Bool) (tm : Nat) (tx : Nat → Nat) (f : Nat → Nat → Nat) (k : Nat → Nat) : Prop :=
  ((B = 19 ∧ G = 27) ∨ (B = 27 ∧ G = 19)) ∧ X 15 3 = nI B ∧ X 15 4 = nI G ∧ A (B + 1) = nIf cd ∧ A (B + 2) = nIf vl ∧ A (B + 3) = nIf st ∧ A (B + 4) = nIf an ∧ A (B + 5) = nIf en ∧ X B 6 = nI n ∧ lwf cd vl st an en n ∧ (∃ k0 k2 k3 : Nat, X B 2 = nI k0 ∧ X B 7 = nI k2 ∧ X B 8 = nI k3) ∧
  tm ≤ 120 ∧ (∀ i, tx i < 256) ∧ X 76 15 = (if td = true then nI tm else -1) ∧ A 87 = nIf tx ∧ lwR td tm tx cd vl st an en n ∧
  rX X G k = X ∧ rA A G f = A ∧ (∀ i, f 0 i < 2 ^ 31) ∧ (∀ i, f 1 i < 2 ^ 31) ∧ ∀ i, f 2 i < 2 ^ 31
theorem r16_self {x y : Nat → Int32} {k : Nat → Nat} (h : r16 x k = x) (h1 : ∀ q, 3 ≤ q → q ≤ 6 → y q = x q) : r16 y k = y := by
  funext q
  have e := congrFun h q
  unfold r16 at e ⊢
  by_cases q3 : q = 3
  · rw [if_pos q3] at e ⊢; rw [h1 q (by omega) (by omega)]; exact e
  · rw [if_neg q3] at e ⊢
    by_cases q4 : q = 4
    · rw [if_pos q4] at e ⊢; rw [h1 q (by omega) (by omega)]; exact e
    · rw [if_neg q4] at e ⊢
      by_cases q5 : q = 5
      · rw [if_pos q5] at e ⊢; rw [h1 q (by omega) (by omega)]; exact e
      · rw [if_neg q5] at e ⊢
        by_cases q6 : q = 6
        · rw [if_pos q6] at e ⊢; rw [h1 q (by omega) (by omega)]; exact e
        · rw [if_neg q6]
theorem rX_self {G : Nat} {k : Nat → Nat} (h : rX X G k = X) (hG : G ≠ 16) (h1 : ∀ q, 3 ≤ q → q ≤ 6 → X' 16 q = X 16 q) (h2 : X' G = X G) : rX X' G k = X' := by
  have e1 : r16 (X 16) k = X 16 := by
    have q := congrFun h 16
    unfold rX at q
    rw [vu_n _ _ _ (Ne.symm hG), vu_s] at q
    exact q
  have e2 : rG (X G) k = X G := by
    have q := congrFun h G
    unfold rX at q
    rw [vu_s] at q
    exact q
  unfold rX
  rw [r16_self e1 h1, vu_self, h2, e2, ← h2, vu_self]
theorem rA_self {G : Nat} {f : Nat → Nat → Nat} (h : rA A G f = A) (hA : ∀ c, c = 18 ∨ (G < c ∧ c ≤ G + 5) → A' c = A c) : rA A' G f = A' := by
  funext c
  have q := congrFun h c
  unfold rA at q ⊢
  by_cases e0 : c = 18
  · rw [if_pos e0] at q ⊢; rw [hA c (by omega)]; exact q
  · rw [if_neg e0] at q ⊢
    by_cases e1 : c = G + 1
    · rw [if_pos e1] at q ⊢; rw [hA c (by omega)]; exact q
    · rw [if_neg e1] at q ⊢
      by_cases e2 : c = G + 2
      · rw [if_pos e2] at q ⊢; rw [hA c (by omega)]; exact q
      · rw [if_neg e2] at q ⊢
        by_cases e3 : c = G + 3
        · rw [if_pos e3] at q ⊢; rw [hA c (by omega)]; exact q
        · rw [if_neg e3] at q ⊢
          by_cases e4 : c = G + 4
          · rw [if_pos e4] at q ⊢; rw [hA c (by omega)]; exact q
          · rw [if_neg e4] at q ⊢
            by_cases e5 : c = G + 5
            · rw [if_pos e5] at q ⊢; rw [hA c (by omega)]; exact q
            · rw [if_neg e5]
theorem iL_c {B G : Nat} {cd vl st an en : Nat → Nat} {n : Nat} {td : Bool} {tm : Nat} {tx : Nat → Nat} {f : Nat → Nat → Nat} {k : Nat → Nat} (h : iL X A B G cd vl st an en n td tm tx f k) (hX : ∀ c, c = 15 ∨ c = 19 ∨ c = 27 → X' c = X c) (h16 : ∀ q, 3 ≤ q → q ≤ 6 → X' 16 q = X 16 q) (h15 : X' 76 15 = X 76 15) (hA : ∀ c, c = 18 ∨ (20 ≤ c ∧ c ≤ 24) ∨ (28 ≤ c ∧ c ≤ 32) ∨ c = 87 → A' c = A c) : iL X' A' B G cd vl st an en n td tm tx f k := by
  obtain ⟨a1, a2, a3, a4, a5, a6, a7, a8, a9, a10, a11, a12, a13, a14, a15, a16, a17, a18, a19⟩ := h
  refine ⟨a1, ?_, ?_, ?_, ?_, ?_, ?_, ?_, ?_, a10, ?_, a12, a13, ?_, ?_, a16, ?_, ?_, a19⟩
  · rw [hX 15 (by omega)]; exact a2
  · rw [hX 15 (by omega)]; exact a3
  · rw [hA _ (by omega)]; exact a4
  · rw [hA _ (by omega)]; exact a5
  · rw [hA _ (by omega)]; exact a6
  · rw [hA _ (by omega)]; exact a7
  · rw [hA _ (by omega)]; exact a8
  · rw [hX B (by omega)]; exact a9
  · rw [hX B (by omega)]; exact a11
  · rw [h15]; exact a14
  · rw [hA 87 (by omega)]; exact a15
  · exact rX_self a17 (by omega) h16 (hX G (by omega))
  · exact rA_self a18 (fun c hc => hA c (by omega))
/-- orders' rows -/
def iO (A : Nat → Nat → Int32) : Prop := (∃ p : Nat → Nat, A 37 = nIf p) ∧ ∃ p : Nat → Nat, A 90 = nIf p
theorem iO_c (h : iO A) (h1 : A' 37 = A 37) (h2 : A' 90 = A 90) : iO A' := by
  unfold iO at h ⊢
  rw [h1, h2]
  exact h
/-- both programs say the same of the same -/
def inv (X A : Nat → Nat → Int32) (L : Nat → Nat → Int64) : Prop :=
  iC X A ∧ (∃ na v, iV X A na v) ∧ (∃ dn kp pl bf af, iD X A dn kp pl bf af) ∧ iI X A ∧ (∃ tl tp, iT X A tl tp) ∧ (∃ nb r kd, iH X A nb r kd) ∧ (∃ B G cd vl st an en n td tm tx f k, iL X A B G cd vl st an en n td tm tx f k) ∧ iO A ∧ ∀ j, j < 6 → iS1 X A L j
/-- one call of both: like answers, like states -/
def pairI (D : Nat) (m1 : MethodName) (c1 : ByteArray) (n1 : Nat) (m2 : MethodName) (c2 : ByteArray) (n2 : Nat) (As : List Value) (X A : Nat → Nat → Int32) (L : Nat → Nat → Int64) : Prop :=
  ∃ (z : Int32) (Mid : jW → Prop), jMet D m1 c1 n1 (some .int) 0 0 (.ref 4 :: As) (tw X A L) (fun r w => r = some (.int z) ∧ Mid w) ∧ ∀ w, Mid w → (∃ X' A' L', w = tw X' A' L') ∧ ∃ Fin : jW → Prop, jMet D m2 c2 n2 (some .int) 0 0 (.ref 76 :: As) w (fun r w' => r = some (.int z) ∧ Fin w') ∧ ∀ w', Fin w' → ∃ X' A' L', w' = tw X' A' L' ∧ inv X' A' L'
theorem pair_fn {D : Nat} {m1 : MethodName} {c1 : ByteArray} {n1 : Nat} {m2 : MethodName} {c2 : ByteArray} {n2 : Nat} {As : List Value} {z : Int32} {X1 A1 X2 A2 : Nat → Nat → Int32} {L1 L2 : Nat → Nat → Int64} (h1 : jMet D m1 c1 n1 (some .int) 0 0 (.ref 4 :: As) (tw X A L) (jRi z (tw X1 A1 L1))) (h2 : jMet D m2 c2 n2 (some .int) 0 0 (.ref 76 :: As) (tw X1 A1 L1) (jRi z (tw X2 A2 L2))) (hi : inv X2 A2 L2) : pairI D m1 c1 n1 m2 c2 n2 As X A L :=
  ⟨z, (fun w => w = tw X1 A1 L1), h1, fun w hw => by subst hw; exact ⟨⟨_, _, _, rfl⟩, (fun w' => w' = tw X2 A2 L2), h2, fun w' hw' => ⟨X2, A2, L2, hw', hi⟩⟩⟩
theorem nI_nn {c : Int32} (h : ¬ c < 0) : ∃ k, k < 2 ^ 31 ∧ c = nI k := by
  have h0 : 0 ≤ c.toInt := by
    have q : ¬ c.toInt < (0 : Int32).toInt := fun w => h (Int32.lt_iff_toInt_lt.mpr w)
    have e : (0 : Int32).toInt = 0 := rfl
    omega
  have hl := c.toInt_lt
  refine ⟨c.toInt.toNat, by omega, ?_⟩
  apply Int32.toInt_inj.mp
  have e : (nI c.toInt.toNat).toInt = (c.toInt.toNat : Int) := Int32.toInt_ofNat_of_lt (by omega)
  rw [e]
  omega
theorem up_ne {α : Type} {f : Nat → α} {a c : Nat} {v : α} (h : c ≠ a) : va_up f a v c = f c := vu_n _ _ _ h
end INV2
