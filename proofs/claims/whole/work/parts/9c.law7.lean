section LW7
variable {n : Nat} {tx : Nat → Nat} {nm : Nat → Int32}
/-- both programs read a text alike: the same fault's place, the same value -/
theorem law_eq {f : Nat → Nat → Nat} {k : Nat → Nat} : (wkF n tx nm).2.2.1 = (rdF n tx (n + 1) 0 (f, rs0 k)).1 ∧ ((rdF n tx (n + 1) 0 (f, rs0 k)).1 = none → rkF ((rdF n tx (n + 1) 0 (f, rs0 k)).2.1 1) ((rdF n tx (n + 1) 0 (f, rs0 k)).2.1 2) ((rdF n tx (n + 1) 0 (f, rs0 k)).2.1 3) ((rdF n tx (n + 1) 0 (f, rs0 k)).2.1 4) ((rdF n tx (n + 1) 0 (f, rs0 k)).2.1 5) nm ((rdF n tx (n + 1) 0 (f, rs0 k)).2.2 1) 0 = (wkF n tx nm).1 ∧ ∀ i, i < (rdF n tx (n + 1) 0 (f, rs0 k)).2.2 1 → (rdF n tx (n + 1) 0 (f, rs0 k)).2.1 3 i ≤ (rdF n tx (n + 1) 0 (f, rs0 k)).2.1 4 i ∧ (rdF n tx (n + 1) 0 (f, rs0 k)).2.1 4 i ≤ (rdF n tx (n + 1) 0 (f, rs0 k)).2.1 5 i ∧ (rdF n tx (n + 1) 0 (f, rs0 k)).2.1 5 i ≤ (rdF n tx (n + 1) 0 (f, rs0 k)).2.2 0) := by
  have hQ : QL nm (f, rs0 k) false (nI 0) := ⟨rfl, rfl, rfl, rfl, rfl, rfl, (fun i hi => absurd hi (Nat.not_lt_zero i)), rfl⟩
  have hR : rdF n tx (n + 1) 0 (f, rs0 k) = Rd n tx 0 (f, rs0 k) := rfl
  rw [hR]
  obtain ⟨w1, w2⟩ := K_wk (n := n) (tx := tx) (nm := nm) (n + 1) 0 (f, rs0 k) false (nI 0) (Nat.zero_le n) (by omega) hQ
  have eW : wkF n tx nm = if (wkL (exT n tx nm) n tx (n + 1) false (nI 0) (0, none, 0)).2.2.1 = none ∧ (wkL (exT n tx nm) n tx (n + 1) false (nI 0) (0, none, 0)).2.1 < n then (0, wrP (wkL (exT n tx nm) n tx (n + 1) false (nI 0) (0, none, 0)).2) else wkL (exT n tx nm) n tx (n + 1) false (nI 0) (0, none, 0) := rfl
  generalize wkL (exT n tx nm) n tx (n + 1) false (nI 0) (0, none, 0) = r at *
  cases hf : r.2.2.1 with
  | some b =>
    have h1 := w1 b hf
    rw [eW, if_neg (fun q => by rw [hf] at q; cases q.1), h1, hf]
    exact ⟨rfl, fun q => by cases q⟩
  | none =>
    obtain ⟨h1, h2, h3⟩ := w2 hf
    by_cases l : r.2.1 < n
    · rw [eW, if_pos ⟨hf, l⟩, h2 l]
      refine ⟨?_, fun q => by cases q⟩
      show some (r.2.2.1.getD r.2.1) = some r.2.1
      rw [hf]; rfl
    · obtain ⟨h4, gv', h5⟩ := h3 (by omega)
      rw [eW, if_neg (fun q => l q.2), h4, hf]
      refine ⟨rfl, fun _ => ⟨?_, h5.1⟩⟩
      have q := rk_gv (nm := nm) (cd := (Rd n tx 0 (f, rs0 k)).2.1 1) (vl := (Rd n tx 0 (f, rs0 k)).2.1 2) (st := (Rd n tx 0 (f, rs0 k)).2.1 3) (an := (Rd n tx 0 (f, rs0 k)).2.1 4) (en := (Rd n tx 0 (f, rs0 k)).2.1 5) (m := (Rd n tx 0 (f, rs0 k)).2.2 1) (i := 0) rfl
      rw [q, Nat.zero_add, h5.2]
end LW7
