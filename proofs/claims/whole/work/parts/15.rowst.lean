section TROWS2
variable {scr : jScr} {own : String} {cc : ByteArray} {nL : Nat} {ret : Option FieldType} {d bc bs pc : Nat} {lv : List (Option Value)} {st : List Value} {X A : Nat → Nat → Int32} {L : Nat → Nat → Int64} {w : jW} {post : Option Value → jW → Prop}
theorem t_copyi {idx a0 a1 n0 n1 sp dp n : Nat} (hd : decode cc pc = .ok (.invokestatic idx, 3)) (hl : jLnkC own idx) (hs0 : ∀ x f g, tcell a0 x f g = .inl (0, n0, .inl f)) (hs1 : ∀ x f g, tcell a1 x f g = .inl (0, n1, .inl f)) (h4 : sp + n ≤ n0) (h5 : dp + n ≤ n1) (b0 : n0 < 2 ^ 31) (b1 : n1 < 2 ^ 31) (hcat : jcatsum st ≤ 8)
    (k : jWP scr own cc nL ret (d + 1) bc bs (pc + 3) lv st (tw X (va_up A a1 (va_cpy (A a0) (A a1) sp dp n)) L) post) : jWP scr own cc nL ret (d + 1) bc bs pc lv (.int (nI n) :: .int (nI dp) :: .ref a1 :: .int (nI sp) :: .ref a0 :: st) (tw X A L) post := by
  have e1 : (nI sp).toNatClampNeg = sp := nI_clamp (by omega)
  have e2 : (nI dp).toNatClampNeg = dp := nI_clamp (by omega)
  have e3 : (nI n).toNatClampNeg = n := nI_clamp (by omega)
  refine j_copyi hd hl (hs0 (X a0) (A a0) (L a0)) (hs1 (X a1) (A a1) (L a1)) (nI_pos (by omega)) (nI_pos (by omega)) (nI_pos (by omega)) (by rw [e1, e3]; exact h4) (by rw [e2, e3]; exact h5) hcat ?_
  rw [e1, e2, e3, ← hs1 (X a1) (va_cpy (A a0) (A a1) sp dp n) (L a1), tw_set, vu_self, vu_self]
  exact k
theorem t_copyl {idx a0 a1 n0 n1 sp dp n : Nat} (hd : decode cc pc = .ok (.invokestatic idx, 3)) (hl : jLnkC own idx) (hs0 : ∀ x f g, tcell a0 x f g = .inl (1, n0, .inr (.inl g))) (hs1 : ∀ x f g, tcell a1 x f g = .inl (1, n1, .inr (.inl g))) (h4 : sp + n ≤ n0) (h5 : dp + n ≤ n1) (b0 : n0 < 2 ^ 31) (b1 : n1 < 2 ^ 31) (hcat : jcatsum st ≤ 8)
    (k : jWP scr own cc nL ret (d + 1) bc bs (pc + 3) lv st (tw X A (va_up L a1 (va_cpy (L a0) (L a1) sp dp n))) post) : jWP scr own cc nL ret (d + 1) bc bs pc lv (.int (nI n) :: .int (nI dp) :: .ref a1 :: .int (nI sp) :: .ref a0 :: st) (tw X A L) post := by
  have e1 : (nI sp).toNatClampNeg = sp := nI_clamp (by omega)
  have e2 : (nI dp).toNatClampNeg = dp := nI_clamp (by omega)
  have e3 : (nI n).toNatClampNeg = n := nI_clamp (by omega)
  refine j_copyl hd hl (hs0 (X a0) (A a0) (L a0)) (hs1 (X a1) (A a1) (L a1)) (nI_pos (by omega)) (nI_pos (by omega)) (nI_pos (by omega)) (by rw [e1, e3]; exact h4) (by rw [e2, e3]; exact h5) hcat ?_
  rw [e1, e2, e3, ← hs1 (X a1) (A a1) (va_cpy (L a0) (L a1) sp dp n), tw_set, vu_self, vu_self]
  exact k
theorem jr_iaload {a N i : Nat} {f : Nat → Int32} (hd : decode cc pc = .ok (.iaload, 1)) (hw : jRom scr a = some (N, f)) (hi : i < N) (hN : N < 2 ^ 31) (k : jWP scr own cc nL ret d bc bs (pc + 1) lv (.int (f i) :: st) w post) : jWP scr own cc nL ret d bc bs pc lv (.int (nI i) :: .ref a :: st) w post :=
  j_iaload_rom hd hw (vp_in_nI hi hN) (by rw [nI_clamp (Nat.lt_trans hi hN)]; exact k)
theorem jn_idec {i x : Nat} {lv' : List (Option Value)} (hd : decode cc pc = .ok (.iinc i (-1), 3)) (hx : lv[i]? = some (some (.int (nI x)))) (h0 : 0 < x) (hn : i < nL) (hl : jput1 lv i (.int (nI (x - 1))) = lv') (k : jWP scr own cc nL ret d bc bs (pc + 3) lv' st w post) : jWP scr own cc nL ret d bc bs pc lv st w post := by
  obtain ⟨y, rfl⟩ : ∃ y, x = y + 1 := ⟨x - 1, by omega⟩
  exact j_iinc hd hx (pk_m1 y) hn hl k
end TROWS2
/-- a list of locals that says less -/
def jsub : List (Option Value) → List (Option Value) → Prop
  | [], [] => True
  | none :: l', _ :: l => jsub l' l
  | some v :: l', o :: l => o = some v ∧ jsub l' l
  | _, _ => False
theorem jsub_spec : ∀ {l' l : List (Option Value)}, jsub l' l → l'.length = l.length ∧ ∀ (i : Nat) (v : Value), l'[i]? = some (some v) → l[i]? = some (some v)
  | [], [], _ => ⟨rfl, fun _ _ h => h⟩
  | none :: l', o :: l, h => by
    have := jsub_spec (l' := l') (l := l) h
    refine ⟨by simp [this.1], fun i v hi => ?_⟩
    cases i with
    | zero => cases hi
    | succ i => exact this.2 i v hi
  | some u :: l', o :: l, h => by
    have := jsub_spec (l' := l') (l := l) h.2
    refine ⟨by simp [this.1], fun i v hi => ?_⟩
    cases i with
    | zero => rw [List.getElem?_cons_zero] at hi ⊢; rw [h.1]; exact hi
    | succ i => exact this.2 i v hi
  | [], _ :: _, h => h.elim
  | none :: _, [], h => h.elim
  | some _ :: _, [], h => h.elim
section TROWS3
variable {scr : jScr} {own : String} {cc : ByteArray} {nL : Nat} {ret : Option FieldType} {d bc bs pc : Nat} {lv : List (Option Value)} {st : List Value} {w : jW} {post : Option Value → jW → Prop}
theorem j_sub {lv' : List (Option Value)} (h : jsub lv' lv) (k : jWP scr own cc nL ret d bc bs pc lv' st w post) : jWP scr own cc nL ret d bc bs pc lv st w post := j_less (jsub_spec h).1 (jsub_spec h).2 k
end TROWS3
