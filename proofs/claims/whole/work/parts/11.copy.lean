/-! rows: System.arraycopy, Math.min -/
section JCOPY
variable {scr : jScr} {own : String} {cc : ByteArray} {nL : Nat} {ret : Option FieldType} {d bc bs pc : Nat} {lv : List (Option Value)} {st : List Value} {w : jW} {post : Option Value → jW → Prop}
def jLnkC (own : String) (idx : Nat) : Prop := ∀ w ∈ ([.methodLink own idx arraycopyName, .native arraycopyName, .static arraycopyName, .initialized "java/lang/System"] : List Cond), w ∈ jT
theorem j_copyi {idx a0 a1 n0 n1 : Nat} {f g : Nat → Int32} {sp dp n : Int32} (hd : decode cc pc = .ok (.invokestatic idx, 3)) (hl : jLnkC own idx) (hw0 : w.2 a0 = .inl (0, n0, .inl f)) (hw1 : w.2 a1 = .inl (0, n1, .inl g)) (h1 : ¬ sp < 0) (h2 : ¬ dp < 0) (h3 : ¬ n < 0) (h4 : sp.toNatClampNeg + n.toNatClampNeg ≤ n0) (h5 : dp.toNatClampNeg + n.toNatClampNeg ≤ n1) (hcat : jcatsum st ≤ 8)
    (k : jWP scr own cc nL ret (d + 1) bc bs (pc + 3) lv st (ju w a1 (.inl (0, n1, .inl (va_cpy f g sp.toNatClampNeg dp.toNatClampNeg n.toNatClampNeg)))) post) : jWP scr own cc nL ret (d + 1) bc bs pc lv (.int n :: .int dp :: .ref a1 :: .int sp :: .ref a0 :: st) w post := by
  simp only [jLnkC, List.forall_mem_cons] at hl
  obtain ⟨l1, l2, l3, l4, -⟩ := hl
  intro p l e R s m args below meth c D dA A hC hI Q ad H locs ls cells slots hS hc hs hret
  obtain ⟨x1, x2, x3, x4, x5, x6⟩ := id hS
  have hain0 := jok_in x2.1 (a := a0) (by rw [hw0]; exact jarr_ne)
  have hain := jok_in x2.1 (a := a1) (by rw [hw1]; exact jarr_ne)
  have hg0 := jl_get (dA := dA) (ad := ad) hain0
  have hg := jl_get (dA := dA) (ad := ad) hain
  rw [hw0] at hg0
  rw [hw1] at hg
  refine va_copyi hC.1 hC.2.1 (hC.2.2.1.trans x4.1.symm) hC.2.2.2.1 (hC.2.2.2.2.1 _ l1) (hC.2.2.2.2.1 _ l2) (hC.2.2.2.2.1 _ l3) (hC.2.2.2.2.1 _ l4) hC.2.2.2.2.2.2.1 x2.2.1 x2.2.2 x3 (a0 - 4) (a1 - 4) 0 0 hg0 hg rfl rfl rfl h1 h2 h3 h4 h5 (fun _ _ => rfl) (Nat.le_trans (by omega) hC.2.2.2.2.2.2.2.1) ?_ hd (fun H1 locs1 hP hD hS1 => ?_)
  · have h9 := hC.2.2.2.2.2.2.2.2
    have e9 : nativeFrameWords "java/lang/System" "arraycopy" 5 = 7 := by decide +kernel
    rw [jcatsum_jv, e9]
    omega
  · have e1 := jl_set (dA := dA) (ad := ad) hain (.inl (0, n1, .inl (va_cpy f g sp.toNatClampNeg dp.toNatClampNeg n.toNatClampNeg)))
    have hP : va_P D vwCl (jl dA ad (ju w a1 (.inl (0, n1, .inl (va_cpy f g sp.toNatClampNeg dp.toNatClampNeg n.toNatClampNeg))))) H1 := by rw [← e1]; exact hP
    have hD : va_D A (jl dA ad (ju w a1 (.inl (0, n1, .inl (va_cpy f g sp.toNatClampNeg dp.toNatClampNeg n.toNatClampNeg))))) := by rw [← e1]; exact hD
    exact k p l e R s m args below meth c D dA A hC hI Q ad H1 locs1 ls cells slots ⟨x1, ⟨jok_set x2.1 hain trivial, hP, hD⟩, hS1, x4, jval_tl (jval_tl (jval_tl (jval_tl (jval_tl x5)))), x6⟩ hc hs hret
theorem j_copyl {idx a0 a1 n0 n1 : Nat} {f g : Nat → Int64} {sp dp n : Int32} (hd : decode cc pc = .ok (.invokestatic idx, 3)) (hl : jLnkC own idx) (hw0 : w.2 a0 = .inl (1, n0, .inr (.inl f))) (hw1 : w.2 a1 = .inl (1, n1, .inr (.inl g))) (h1 : ¬ sp < 0) (h2 : ¬ dp < 0) (h3 : ¬ n < 0) (h4 : sp.toNatClampNeg + n.toNatClampNeg ≤ n0) (h5 : dp.toNatClampNeg + n.toNatClampNeg ≤ n1) (hcat : jcatsum st ≤ 8)
    (k : jWP scr own cc nL ret (d + 1) bc bs (pc + 3) lv st (ju w a1 (.inl (1, n1, .inr (.inl (va_cpy f g sp.toNatClampNeg dp.toNatClampNeg n.toNatClampNeg))))) post) : jWP scr own cc nL ret (d + 1) bc bs pc lv (.int n :: .int dp :: .ref a1 :: .int sp :: .ref a0 :: st) w post := by
  simp only [jLnkC, List.forall_mem_cons] at hl
  obtain ⟨l1, l2, l3, l4, -⟩ := hl
  intro p l e R s m args below meth c D dA A hC hI Q ad H locs ls cells slots hS hc hs hret
  obtain ⟨x1, x2, x3, x4, x5, x6⟩ := id hS
  have hain0 := jok_in x2.1 (a := a0) (by rw [hw0]; exact jarr_ne)
  have hain := jok_in x2.1 (a := a1) (by rw [hw1]; exact jarr_ne)
  have hg0 := jl_get (dA := dA) (ad := ad) hain0
  have hg := jl_get (dA := dA) (ad := ad) hain
  rw [hw0] at hg0
  rw [hw1] at hg
  refine va_copyl hC.1 hC.2.1 (hC.2.2.1.trans x4.1.symm) hC.2.2.2.1 (hC.2.2.2.2.1 _ l1) (hC.2.2.2.2.1 _ l2) (hC.2.2.2.2.1 _ l3) (hC.2.2.2.2.1 _ l4) hC.2.2.2.2.2.2.1 x2.2.1 x2.2.2 x3 (a0 - 4) (a1 - 4) 1 1 hg0 hg rfl rfl rfl h1 h2 h3 h4 h5 (fun _ _ => rfl) (Nat.le_trans (by omega) hC.2.2.2.2.2.2.2.1) ?_ hd (fun H1 locs1 hP hD hS1 => ?_)
  · have h9 := hC.2.2.2.2.2.2.2.2
    have e9 : nativeFrameWords "java/lang/System" "arraycopy" 5 = 7 := by decide +kernel
    rw [jcatsum_jv, e9]
    omega
  · have e1 := jl_set (dA := dA) (ad := ad) hain (.inl (1, n1, .inr (.inl (va_cpy f g sp.toNatClampNeg dp.toNatClampNeg n.toNatClampNeg))))
    have hP : va_P D vwCl (jl dA ad (ju w a1 (.inl (1, n1, .inr (.inl (va_cpy f g sp.toNatClampNeg dp.toNatClampNeg n.toNatClampNeg)))))) H1 := by rw [← e1]; exact hP
    have hD : va_D A (jl dA ad (ju w a1 (.inl (1, n1, .inr (.inl (va_cpy f g sp.toNatClampNeg dp.toNatClampNeg n.toNatClampNeg)))))) := by rw [← e1]; exact hD
    exact k p l e R s m args below meth c D dA A hC hI Q ad H1 locs1 ls cells slots ⟨x1, ⟨jok_set x2.1 hain trivial, hP, hD⟩, hS1, x4, jval_tl (jval_tl (jval_tl (jval_tl (jval_tl x5)))), x6⟩ hc hs hret
end JCOPY
section JMIN
variable {scr : jScr} {own : String} {cc : ByteArray} {nL : Nat} {ret : Option FieldType} {d bc bs pc : Nat} {lv : List (Option Value)} {st : List Value} {w : jW} {post : Option Value → jW → Prop}
theorem j_min {idx : Nat} {x y : Int32} (hd : decode cc pc = .ok (.invokestatic idx, 3)) (hl : ∀ w ∈ ([.methodLink own idx Lib.Math.min.name, .static Lib.Math.min.name, .initialized "java/lang/Math", .code Lib.Math.min.name Lib.Math.min.code 2 (some .int)] : List Cond), w ∈ jT) (hcat : jcatsum st ≤ 8) (k : jWP scr own cc nL ret (d + 1) bc bs (pc + 3) lv (.int (if y < x then y else x) :: st) w post) : jWP scr own cc nL ret (d + 1) bc bs pc lv (.int y :: .int x :: st) w post := by
  simp only [List.forall_mem_cons] at hl
  obtain ⟨l1, l2, l3, l4, -⟩ := hl
  intro p l e R s m args below meth c D dA A hC hI Q ad H locs ls cells slots hS hc hs hret
  obtain ⟨x1, x2, x3, x4, x5, x6⟩ := id hS
  refine va_mmin hC.1 hC.2.1 (hC.2.2.1.trans x4.1.symm) hC.2.2.2.1 (hC.2.2.2.2.1 _ l1) (hC.2.2.2.2.1 _ l2) (hC.2.2.2.2.1 _ l3) (hC.2.2.2.2.1 _ l4) (Nat.le_trans (by omega) hC.2.2.2.2.2.2.2.1) ?_ (by omega) (by omega) hd (k p l e R s m args below meth c D dA A hC hI Q ad H locs ls cells slots ⟨x1, x2, x3, x4, jval_cons trivial (jval_tl (jval_tl x5)), x6⟩ hc hs hret)
  have h9 := hC.2.2.2.2.2.2.2.2
  rw [jcatsum_jv]
  omega
/-- Object's own constructor -/
theorem j_objInit {idx a : Nat} (hd : decode cc pc = .ok (.invokespecial idx, 3)) (hl : ∀ w ∈ ([.methodLink own idx objectInit, .instanceMethod objectInit, .code objectInit ⟨#[0xb1]⟩ 1 none] : List Cond), w ∈ jT) (hcat : jcatsum st ≤ 8) (k : jWP scr own cc nL ret (d + 1) bc bs (pc + 3) lv st w post) : jWP scr own cc nL ret (d + 1) bc bs pc lv (.ref a :: st) w post := by
  simp only [List.forall_mem_cons] at hl
  obtain ⟨l1, l2, l3, -⟩ := hl
  intro p l e R s m args below meth c D dA A hC hI Q ad H locs ls cells slots hS hc hs hret
  obtain ⟨x1, x2, x3, x4, x5, x6⟩ := id hS
  have h9 := hC.2.2.2.2.2.2.2.2
  have h8 := hC.2.2.2.2.2.2.2.1
  refine W.objInit hC.1 hC.2.1 hC.2.2.2.1 (hC.2.2.2.2.1 _ l1) (hC.2.2.2.2.1 _ l2) (hC.2.2.2.2.1 _ l3) rfl (x4.1.trans hC.2.2.1.symm) rfl hd (by omega) ?_ (k p l e R s m args below meth c D dA A hC hI Q ad H locs ls cells slots ⟨x1, x2, x3, x4, jval_tl x5, x6⟩ hc hs hret)
  show 2 * 0 + _ + 12 ≤ _
  rw [jcatsum_jv]
  omega
end JMIN
section JMONO
variable {scr : jScr} {own : String} {cc : ByteArray} {nL : Nat} {ret : Option FieldType} {d bc bs pc : Nat} {lv : List (Option Value)} {st : List Value} {w : jW} {post post2 : Option Value → jW → Prop}
theorem j_mono (h : ∀ r w', post r w' → post2 r w') (k : jWP scr own cc nL ret d bc bs pc lv st w post) : jWP scr own cc nL ret d bc bs pc lv st w post2 := by
  intro p l e R s m args below meth c D dA A hC hI Q ad H locs ls cells slots hS hc hs hret
  exact k p l e R s m args below meth c D dA A hC hI Q ad H locs ls cells slots hS hc hs (fun r w' ad' H' locs' ls' cells' slots' pc' hp => hret r w' ad' H' locs' ls' cells' slots' pc' (h r w' hp))
theorem j_deeper {d' : Nat} (h : d ≤ d') (k : jWP scr own cc nL ret d bc bs pc lv st w post) : jWP scr own cc nL ret d' bc bs pc lv st w post := by
  intro p l e R s m args below meth c D dA A hC hI Q ad H locs ls cells slots hS hc hs hret
  obtain ⟨c1, c2, c3, c4, c5, c6, c7, c8, c9⟩ := hC
  exact k p l e R s m args below meth c D dA A ⟨c1, c2, c3, c4, c5, c6, c7, by omega, by omega⟩ hI Q ad H locs ls cells slots hS hc hs hret
theorem j_less_budget {bc' bs' : Nat} (h1 : bc ≤ bc') (h2 : bs ≤ bs') (k : jWP scr own cc nL ret d bc bs pc lv st w post) : jWP scr own cc nL ret d bc' bs' pc lv st w post := by
  intro p l e R s m args below meth c D dA A hC hI Q ad H locs ls cells slots hS hc hs hret
  exact k p l e R s m args below meth c D dA A hC hI Q ad H locs ls cells slots hS (by omega) (by omega) (fun r w' ad' H' locs' ls' cells' slots' pc' g1 g2 g3 g4 g5 g6 g7 g8 => hret r w' ad' H' locs' ls' cells' slots' pc' g1 g2 g3 g4 g5 g6 (by omega) (by omega))
end JMONO
section JCALL0
variable {scr : jScr} {own : String} {cc : ByteArray} {nL : Nat} {ret : Option FieldType} {d bc bs pc : Nat} {lv : List (Option Value)}
/-- calls that make nothing -/
theorem j_callV {idx b ci k n : Nat} {y : MethodName} {bytes : ByteArray} {rety : Option FieldType} (As rest : List Value) {fs : List Value} {T : u_T} {N : Nat} {post' : Option Value → jW → Prop} {w : jW} {post : Option Value → jW → Prop} {st : List Value} (hd : decode cc pc = .ok (.invokevirtual idx, 3)) (hl : jLnkV own idx y bytes k rety n) (hst : st = As.reverse ++ .ref b :: rest) (hn : As.length = n) (hw : w.2 b = .inr (ci, fs)) (hcl : vwCl[ci]? = some (y.cls, T, N)) (hcat : jcatsum rest ≤ 8)
    (hM : jMet d y bytes k rety 0 0 (.ref b :: As) w post') (kk : ∀ r w', post' r w' → jWP scr own cc nL ret (d + 1) bc bs (pc + 3) lv (r.toList ++ rest) w' post) : jWP scr own cc nL ret (d + 1) bc bs pc lv st w post := by
  have h := j_invV (C := y.cls) (mc := 0) (ms := 0) (bc := bc) (bs := bs) hd hl hst hn hw hcl hcat hM kk
  rw [Nat.zero_add, Nat.zero_add] at h
  exact h
theorem j_callS {idx k n : Nat} {y : MethodName} {bytes : ByteArray} {rety : Option FieldType} (As rest : List Value) {post' : Option Value → jW → Prop} {w : jW} {post : Option Value → jW → Prop} {st : List Value} (hd : decode cc pc = .ok (.invokestatic idx, 3)) (hl : jLnkS own idx y bytes k rety n) (hst : st = As.reverse ++ rest) (hn : As.length = n) (hcat : jcatsum rest ≤ 8)
    (hM : jMet d y bytes k rety 0 0 As w post') (kk : ∀ r w', post' r w' → jWP scr own cc nL ret (d + 1) bc bs (pc + 3) lv (r.toList ++ rest) w' post) : jWP scr own cc nL ret (d + 1) bc bs pc lv st w post := by
  have h := j_invS (mc := 0) (ms := 0) (bc := bc) (bs := bs) hd hl hst hn hcat hM kk
  rw [Nat.zero_add, Nat.zero_add] at h
  exact h
theorem j_callSN {idx k n : Nat} {y : MethodName} {bytes : ByteArray} {rety : Option FieldType} (As rest : List Value) {post' : Option Value → jW → Prop} {w : jW} {post : Option Value → jW → Prop} {st : List Value} (hd : decode cc pc = .ok (.invokestatic idx, 3)) (hl : jLnkSN own idx y bytes k rety n) (hst : st = As.reverse ++ rest) (hn : As.length = n) (hcat : jcatsum rest ≤ 8)
    (hM : jMet d y bytes k rety 0 0 As w post') (kk : ∀ r w', post' r w' → jWP scr own cc nL ret (d + 1) bc bs (pc + 3) lv (r.toList ++ rest) w' post) : jWP scr own cc nL ret (d + 1) bc bs pc lv st w post := by
  have h := j_invSN (mc := 0) (ms := 0) (bc := bc) (bs := bs) hd hl hst hn hcat hM kk
  rw [Nat.zero_add, Nat.zero_add] at h
  exact h
end JCALL0
