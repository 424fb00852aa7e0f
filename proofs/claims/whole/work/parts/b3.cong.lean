/-! worlds that say the same of the machine: a row's function beyond its length is free -/
def jeq (e e' : jE) : Prop := e = e' ∨ ∃ (n : Nat) (f f' : Nat → Int32), e = .inl (0, n, .inl f) ∧ e' = .inl (0, n, .inl f') ∧ ∀ j, j < n → f j = f' j
theorem arrV_same (cI : ClassId) {N : Nat} {f g : Nat → Value} (h : ∀ j, j < N → f j = g j) : arrV cI N f = arrV cI N g := by
  unfold arrV
  have : (Array.ofFn (n := N) fun j => f j.val) = Array.ofFn (n := N) fun j => g j.val := by
    congr 1
    funext j
    exact h j.val j.isLt
  rw [this]
theorem jeq_at {D : va_G} {dA : Nat → ClassId} {ad : Nat → Nat} {a : Nat} {e e' : jE} {H : Heap} (h : jeq e e') (h1 : va_at D vwCl (a, jc dA ad e) H) : va_at D vwCl (a, jc dA ad e') H := by
  rcases h with rfl | ⟨n, f, f', rfl, rfl, hf⟩
  · exact h1
  · have h2 : H[a]? = some (arrV (dA 0) n (fun j => .int (f j))) := h1
    rw [arrV_same (dA 0) (g := fun j => .int (f' j)) (fun j hj => congrArg Value.int (hf j hj))] at h2
    exact h2
theorem jeq_re {n : Nat} {e e' : jE} (h : jeq e e') (h1 : jre n e) : jre n e' := by
  rcases h with rfl | ⟨m, f, f', rfl, rfl, hf⟩
  · exact h1
  · trivial
theorem jAbs_re (n : Nat) : jre n jAbs := fun v hv => absurd hv List.not_mem_nil
theorem jH_cong {D : va_G} {dA : Nat → ClassId} {ad : Nat → Nat} {A : Nat → Prop} {w w' : jW} {H : Heap} (h0 : w'.1 = w.1) (hc : ∀ k, 4 ≤ k → k < w.1 → jeq (w.2 k) (w'.2 k)) (ho : ∀ k, k < 4 ∨ w.1 ≤ k → w'.2 k = jAbs) (h : jH D dA ad A w H) : jH D dA ad A w' H := by
  obtain ⟨⟨o1, o2, o3⟩, hP, hD1, hD2⟩ := h
  have hget : ∀ (k : Nat) (q : Nat × va_E), (jl dA ad w')[k]? = some q → k < w.1 - 4 ∧ q = (ad (k + 4), jc dA ad (w'.2 (k + 4))) := fun k q hq => by
    have hl := (List.getElem?_eq_some_iff.mp hq).1
    rw [jl_len, h0] at hl
    have := jl_get (dA := dA) (ad := ad) (w := w') (a := k + 4) ⟨by omega, by omega⟩
    rw [Nat.add_sub_cancel, hq] at this
    exact ⟨hl, Option.some.inj this⟩
  have hold : ∀ k, k < w.1 - 4 → (jl dA ad w)[k]? = some (ad (k + 4), jc dA ad (w.2 (k + 4))) := fun k hk => by
    have := jl_get (dA := dA) (ad := ad) (w := w) (a := k + 4) ⟨by omega, by omega⟩
    rwa [Nat.add_sub_cancel] at this
  refine ⟨⟨by rw [h0]; exact o1, fun k hk => ho k (by rw [h0] at hk; exact hk), fun k => ?_⟩, fun k q hq => ?_, fun i j p q hp hq e => ?_, fun k q hq => ?_⟩
  · by_cases hk : 4 ≤ k ∧ k < w.1
    · rw [h0]; exact jeq_re (hc k hk.1 hk.2) (o3 k)
    · rw [ho k (by omega)]; exact jAbs_re _
  · obtain ⟨hk, rfl⟩ := hget k q hq
    exact jeq_at (hc (k + 4) (by omega) (by omega)) (hP k _ (hold k hk))
  · obtain ⟨hi, rfl⟩ := hget i p hp
    obtain ⟨hj, rfl⟩ := hget j q hq
    exact hD1 i j _ _ (hold i hi) (hold j hj) e
  · obtain ⟨hk, rfl⟩ := hget k q hq
    have := hD2 k _ (hold k hk)
    exact this
theorem jWP_cong {scr : jScr} {own : String} {cc : ByteArray} {nL : Nat} {ret : Option FieldType} {d bc bs pc : Nat} {lv : List (Option Value)} {st : List Value} {w w' : jW} {post : Option Value → jW → Prop} (h0 : w'.1 = w.1) (hc : ∀ k, 4 ≤ k → k < w.1 → jeq (w.2 k) (w'.2 k)) (ho : ∀ k, k < 4 ∨ w.1 ≤ k → w'.2 k = jAbs) (k : jWP scr own cc nL ret d bc bs pc lv st w' post) : jWP scr own cc nL ret d bc bs pc lv st w post := by
  intro p l e R s m args below meth c D dA A hC hin Q ad H locs ls cells slots hS h1 h2 hret
  obtain ⟨x1, x2, x3, x4, x5, x6⟩ := hS
  refine k p l e R s m args below meth c D dA A hC hin Q ad H locs ls cells slots ⟨x1, jH_cong h0 hc ho x2, x3, x4, fun v hv => by rw [h0]; exact x5 v hv, fun v hv => by rw [h0]; exact x6 v hv⟩ h1 h2 ?_
  rw [h0]
  exact hret
