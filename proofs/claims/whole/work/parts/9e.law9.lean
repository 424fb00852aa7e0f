section LW9
variable {n : Nat} {tx : Nat → Nat} {s : rT} {a : Nat}
theorem rd_pos : ∀ {m a : Nat} {s : rT}, (rdF n tx m a s).1 = none → 0 < (rdF n tx m a s).2.2 1
  | 0, _, _, h => by cases h
  | m + 1, a, s, h => by
    rw [rdF_u] at h ⊢
    by_cases ha : a < n
    · rw [if_pos ha] at h ⊢
      by_cases h1 : (stp n tx a s).2 < 1
      · rw [if_pos h1] at h; cases h
      · rw [if_neg h1] at h ⊢
        exact rd_pos h
    · rw [if_neg ha] at h ⊢
      by_cases he : s.2 6 = 0 ∧ s.2 5 = 0
      · rw [if_pos he]
        exact Nat.succ_pos _
      · rw [if_neg he] at h; cases h
/-- the law that rules, in both programs: none yet, or the same text -/
def lwR (td : Bool) (tm : Nat) (tx : Nat → Nat) (cd vl st an en : Nat → Nat) (n : Nat) : Prop := (td = false ∧ n = 0) ∨ (td = true ∧ 0 < n ∧ ∀ nm : Nat → Int32, rkF cd vl st an en nm n 0 = (wkF tm tx nm).1)
theorem lwR_rk {td : Bool} {tm : Nat} {cd vl st an en : Nat → Nat} {n na : Nat} {v : Nat → Nat} (h : lwR td tm tx cd vl st an en n) : rkA na (RkC cd vl st an en n v) (RkM td tm tx v) := by
  intro O k s c _ hc
  unfold RkC rkC RkM
  rcases h with ⟨h1, h2⟩ | ⟨h1, h2, h3⟩
  · rw [if_pos h2, h1, if_neg (by decide), dsN_comm]
  · rw [if_neg (by omega), h1, if_pos rfl, h3, full_eq, own_eq hc, dsN_comm]
theorem lwR_new {f : Nat → Nat → Nat} {k : Nat → Nat} (h : (rdF n tx (n + 1) 0 (f, rs0 k)).1 = none) : lwR true n tx ((rdF n tx (n + 1) 0 (f, rs0 k)).2.1 1) ((rdF n tx (n + 1) 0 (f, rs0 k)).2.1 2) ((rdF n tx (n + 1) 0 (f, rs0 k)).2.1 3) ((rdF n tx (n + 1) 0 (f, rs0 k)).2.1 4) ((rdF n tx (n + 1) 0 (f, rs0 k)).2.1 5) ((rdF n tx (n + 1) 0 (f, rs0 k)).2.2 1) := Or.inr ⟨rfl, rd_pos h, fun nm => (law_eq (nm := nm)).2 h |>.1⟩
end LW9
