/-! rows: arrays, tables, what is made -/
section JROWS3
variable {scr : jScr} {own : String} {cc : ByteArray} {nL : Nat} {ret : Option FieldType} {d bc bs pc : Nat} {lv : List (Option Value)} {st : List Value} {w : jW} {post : Option Value → jW → Prop}
theorem j_iaload {a n : Nat} {f : Nat → Int32} {i : Int32} (hd : decode cc pc = .ok (.iaload, 1)) (hw : w.2 a = .inl (0, n, .inl f)) (hin : vp_in i n) (k : jWP scr own cc nL ret d bc bs (pc + 1) lv (.int (f i.toNatClampNeg) :: st) w post) : jWP scr own cc nL ret d bc bs pc lv (.int i :: .ref a :: st) w post := by
  intro p l e R s m args below meth c D dA A hC hI Q ad H locs ls cells slots hS hc hs hret
  obtain ⟨x1, x2, x3, x4, x5, x6⟩ := id hS
  have hg := jl_get (dA := dA) (ad := ad) (jok_in x2.1 (a := a) (by rw [hw]; exact jarr_ne))
  rw [hw] at hg
  exact va_iald hC.1 hC.2.1 hC.2.2.2.2.2.2.1 x2.2.1 (a - 4) 0 hg rfl hin hd (k p l e R s m args below meth c D dA A hC hI Q ad H locs ls cells slots ⟨x1, x2, x3, x4, jval_cons trivial (jval_tl (jval_tl x5)), x6⟩ hc hs hret)
theorem j_laload {a n : Nat} {f : Nat → Int64} {i : Int32} (hd : decode cc pc = .ok (.laload, 1)) (hw : w.2 a = .inl (1, n, .inr (.inl f))) (hin : vp_in i n) (k : jWP scr own cc nL ret d bc bs (pc + 1) lv (.long (f i.toNatClampNeg) :: st) w post) : jWP scr own cc nL ret d bc bs pc lv (.int i :: .ref a :: st) w post := by
  intro p l e R s m args below meth c D dA A hC hI Q ad H locs ls cells slots hS hc hs hret
  obtain ⟨x1, x2, x3, x4, x5, x6⟩ := id hS
  have hg := jl_get (dA := dA) (ad := ad) (jok_in x2.1 (a := a) (by rw [hw]; exact jarr_ne))
  rw [hw] at hg
  exact va_lald hC.1 hC.2.1 hC.2.2.2.2.2.2.1 x2.2.1 (a - 4) 1 hg rfl hin hd (k p l e R s m args below meth c D dA A hC hI Q ad H locs ls cells slots ⟨x1, x2, x3, x4, jval_cons trivial (jval_tl (jval_tl x5)), x6⟩ hc hs hret)
theorem j_baload {a n : Nat} {f : Nat → Int32} {i : Int32} (hd : decode cc pc = .ok (.baload, 1)) (hw : w.2 a = .inl (2, n, .inl f)) (hin : vp_in i n) (k : jWP scr own cc nL ret d bc bs (pc + 1) lv (.int (f i.toNatClampNeg) :: st) w post) : jWP scr own cc nL ret d bc bs pc lv (.int i :: .ref a :: st) w post := by
  intro p l e R s m args below meth c D dA A hC hI Q ad H locs ls cells slots hS hc hs hret
  obtain ⟨x1, x2, x3, x4, x5, x6⟩ := id hS
  have hg := jl_get (dA := dA) (ad := ad) (jok_in x2.1 (a := a) (by rw [hw]; exact jarr_ne))
  rw [hw] at hg
  exact va_zald hC.1 hC.2.1 hC.2.2.2.2.2.2.1 x2.2.1 (a - 4) 2 hg rfl hin hd (k p l e R s m args below meth c D dA A hC hI Q ad H locs ls cells slots ⟨x1, x2, x3, x4, jval_cons trivial (jval_tl (jval_tl x5)), x6⟩ hc hs hret)
theorem j_aaload {a n b : Nat} {f : Nat → Option Nat} {i : Int32} (hd : decode cc pc = .ok (.aaload, 1)) (hw : w.2 a = .inl (3, n, .inr (.inr (.inr (.inr f))))) (hin : vp_in i n) (hb' : f i.toNatClampNeg = some b) (k : jWP scr own cc nL ret d bc bs (pc + 1) lv (.ref b :: st) w post) : jWP scr own cc nL ret d bc bs pc lv (.int i :: .ref a :: st) w post := by
  intro p l e R s m args below meth c D dA A hC hI Q ad H locs ls cells slots hS hc hs hret
  obtain ⟨x1, x2, x3, x4, x5, x6⟩ := id hS
  have hg := jl_get (dA := dA) (ad := ad) (jok_in x2.1 (a := a) (by rw [hw]; exact jarr_ne))
  have hv := x2.1.2.2 a
  rw [hw] at hg hv
  refine va_aldq hC.1 hC.2.1 hC.2.2.2.2.2.2.1 x2.2.1 (a - 4) 3 hg rfl hin hd ?_
  have e1 : va_rf ((f i.toNatClampNeg).map ad) = .ref (ad b) := by rw [hb']; rfl
  show W p l e R s m args below meth c H locs cells slots Q (F0 m (pc + 1) ls (va_rf ((f i.toNatClampNeg).map ad) :: st.map (jv ad)))
  rw [e1]
  exact k p l e R s m args below meth c D dA A hC hI Q ad H locs ls cells slots ⟨x1, x2, x3, x4, jval_cons (hv _ _ hb') (jval_tl (jval_tl x5)), x6⟩ hc hs hret
theorem j_iastore {a n : Nat} {f : Nat → Int32} {i x : Int32} (hd : decode cc pc = .ok (.iastore, 1)) (hw : w.2 a = .inl (0, n, .inl f)) (hin : vp_in i n) (k : jWP scr own cc nL ret d bc bs (pc + 1) lv st (ju w a (.inl (0, n, .inl (upd f i.toNatClampNeg x)))) post) : jWP scr own cc nL ret d bc bs pc lv (.int x :: .int i :: .ref a :: st) w post := by
  intro p l e R s m args below meth c D dA A hC hI Q ad H locs ls cells slots hS hc hs hret
  obtain ⟨x1, x2, x3, x4, x5, x6⟩ := id hS
  have hain := jok_in x2.1 (a := a) (by rw [hw]; exact jarr_ne)
  have hg := jl_get (dA := dA) (ad := ad) hain
  rw [hw] at hg
  refine va_iast hC.1 hC.2.1 hC.2.2.2.2.2.2.1 x2.2.1 x2.2.2 x3 (a - 4) 0 hg rfl hin hd (fun H1 locs1 hP hD hS1 => ?_)
  have e1 := jl_set (dA := dA) (ad := ad) hain (.inl (0, n, .inl (upd f i.toNatClampNeg x)))
  have hP : va_P D vwCl (jl dA ad (ju w a (.inl (0, n, .inl (upd f i.toNatClampNeg x))))) H1 := by rw [← e1]; exact hP
  have hD : va_D A (jl dA ad (ju w a (.inl (0, n, .inl (upd f i.toNatClampNeg x))))) := by rw [← e1]; exact hD
  exact k p l e R s m args below meth c D dA A hC hI Q ad H1 locs1 ls cells slots ⟨x1, ⟨jok_set x2.1 hain trivial, hP, hD⟩, hS1, x4, jval_tl (jval_tl (jval_tl x5)), x6⟩ hc hs hret
theorem j_lastore {a n : Nat} {f : Nat → Int64} {i : Int32} {x : Int64} (hd : decode cc pc = .ok (.lastore, 1)) (hw : w.2 a = .inl (1, n, .inr (.inl f))) (hin : vp_in i n) (k : jWP scr own cc nL ret d bc bs (pc + 1) lv st (ju w a (.inl (1, n, .inr (.inl (vp_updL f i.toNatClampNeg x))))) post) : jWP scr own cc nL ret d bc bs pc lv (.long x :: .int i :: .ref a :: st) w post := by
  intro p l e R s m args below meth c D dA A hC hI Q ad H locs ls cells slots hS hc hs hret
  obtain ⟨x1, x2, x3, x4, x5, x6⟩ := id hS
  have hain := jok_in x2.1 (a := a) (by rw [hw]; exact jarr_ne)
  have hg := jl_get (dA := dA) (ad := ad) hain
  rw [hw] at hg
  refine va_last hC.1 hC.2.1 hC.2.2.2.2.2.2.1 x2.2.1 x2.2.2 x3 (a - 4) 1 hg rfl hin hd (fun H1 locs1 hP hD hS1 => ?_)
  have e1 := jl_set (dA := dA) (ad := ad) hain (.inl (1, n, .inr (.inl (vp_updL f i.toNatClampNeg x))))
  have hP : va_P D vwCl (jl dA ad (ju w a (.inl (1, n, .inr (.inl (vp_updL f i.toNatClampNeg x)))))) H1 := by rw [← e1]; exact hP
  have hD : va_D A (jl dA ad (ju w a (.inl (1, n, .inr (.inl (vp_updL f i.toNatClampNeg x)))))) := by rw [← e1]; exact hD
  exact k p l e R s m args below meth c D dA A hC hI Q ad H1 locs1 ls cells slots ⟨x1, ⟨jok_set x2.1 hain trivial, hP, hD⟩, hS1, x4, jval_tl (jval_tl (jval_tl x5)), x6⟩ hc hs hret
theorem j_bastore {a n : Nat} {f : Nat → Int32} {i x : Int32} (hd : decode cc pc = .ok (.bastore, 1)) (hw : w.2 a = .inl (2, n, .inl f)) (hin : vp_in i n) (hx : vp_nar .boolean x = x) (k : jWP scr own cc nL ret d bc bs (pc + 1) lv st (ju w a (.inl (2, n, .inl (upd f i.toNatClampNeg x)))) post) : jWP scr own cc nL ret d bc bs pc lv (.int x :: .int i :: .ref a :: st) w post := by
  intro p l e R s m args below meth c D dA A hC hI Q ad H locs ls cells slots hS hc hs hret
  obtain ⟨x1, x2, x3, x4, x5, x6⟩ := id hS
  have hain := jok_in x2.1 (a := a) (by rw [hw]; exact jarr_ne)
  have hg := jl_get (dA := dA) (ad := ad) hain
  rw [hw] at hg
  refine va_zast hC.1 hC.2.1 hC.2.2.2.2.2.2.1 x2.2.1 x2.2.2 x3 (a - 4) 2 hg rfl hin hd (fun H1 locs1 hP hD hS1 => ?_)
  rw [hx] at hP hD
  have e1 := jl_set (dA := dA) (ad := ad) hain (.inl (2, n, .inl (upd f i.toNatClampNeg x)))
  have hP : va_P D vwCl (jl dA ad (ju w a (.inl (2, n, .inl (upd f i.toNatClampNeg x))))) H1 := by rw [← e1]; exact hP
  have hD : va_D A (jl dA ad (ju w a (.inl (2, n, .inl (upd f i.toNatClampNeg x))))) := by rw [← e1]; exact hD
  exact k p l e R s m args below meth c D dA A hC hI Q ad H1 locs1 ls cells slots ⟨x1, ⟨jok_set x2.1 hain trivial, hP, hD⟩, hS1, x4, jval_tl (jval_tl (jval_tl x5)), x6⟩ hc hs hret
theorem j_aastore {a n b : Nat} {f : Nat → Option Nat} {i : Int32} {vs : List Value} (hd : decode cc pc = .ok (.aastore, 1)) (hw : w.2 a = .inl (3, n, .inr (.inr (.inr (.inr f))))) (hin : vp_in i n) (hb' : w.2 b = .inr (8, vs)) (k : jWP scr own cc nL ret d bc bs (pc + 1) lv st (ju w a (.inl (3, n, .inr (.inr (.inr (.inr (va_up f i.toNatClampNeg (some b)))))))) post) : jWP scr own cc nL ret d bc bs pc lv (.ref b :: .int i :: .ref a :: st) w post := by
  intro p l e R s m args below meth c D dA A hC hI Q ad H locs ls cells slots hS hc hs hret
  obtain ⟨x1, x2, x3, x4, x5, x6⟩ := id hS
  have hain := jok_in x2.1 (a := a) (by rw [hw]; exact jarr_ne)
  have hbin := jok_in x2.1 (a := b) (by rw [hb']; exact jobj_ne (ci := 8) (q := (RX8, TX8, 5)) rfl)
  have hg := jl_get (dA := dA) (ad := ad) hain
  have hgb := jl_get (dA := dA) (ad := ad) hbin
  rw [hw] at hg
  rw [hb'] at hgb
  refine va_astq (r := (RX8, TX8, 5)) hC.1 hC.2.1 hC.2.2.2.2.2.2.1 x2.2.1 x2.2.2 x3 (a - 4) 3 (b - 4) 8 hg rfl hgb rfl hin hd (fun H1 locs1 hP hD hS1 => ?_)
  have e0 : (fun j => (va_up f i.toNatClampNeg (some b) j).map ad) = va_up (fun j => (f j).map ad) i.toNatClampNeg (some (ad b)) := by
    funext j
    by_cases h : j = i.toNatClampNeg <;> simp [va_up, h]
  have e1 := jl_set (dA := dA) (ad := ad) hain (.inl (3, n, .inr (.inr (.inr (.inr (va_up f i.toNatClampNeg (some b)))))))
  have e2 : jc dA ad (.inl (3, n, .inr (.inr (.inr (.inr (va_up f i.toNatClampNeg (some b))))))) = .inl (dA 3, n, .inr (.inr (.inr (.inr (va_up (fun j => (f j).map ad) i.toNatClampNeg (some (ad b))))))) := by
    show (.inl (dA 3, n, .inr (.inr (.inr (.inr (fun j => (va_up f i.toNatClampNeg (some b) j).map ad))))) : va_E) = _
    rw [e0]
  rw [e2] at e1
  have hP : va_P D vwCl (jl dA ad (ju w a (.inl (3, n, .inr (.inr (.inr (.inr (va_up f i.toNatClampNeg (some b)))))))) ) H1 := by rw [← e1]; exact hP
  have hD : va_D A (jl dA ad (ju w a (.inl (3, n, .inr (.inr (.inr (.inr (va_up f i.toNatClampNeg (some b)))))))) ) := by rw [← e1]; exact hD
  have hv : jre w.1 (.inl (3, n, .inr (.inr (.inr (.inr (va_up f i.toNatClampNeg (some b))))))) := by
    have h9 := x2.1.2.2 a
    rw [hw] at h9
    intro j q hq
    by_cases h : j = i.toNatClampNeg
    · simp [va_up, h] at hq; rw [← hq]; exact hbin.2
    · simp [va_up, h] at hq; exact h9 j q hq
  exact k p l e R s m args below meth c D dA A hC hI Q ad H1 locs1 ls cells slots ⟨x1, ⟨jok_set x2.1 hain hv, hP, hD⟩, hS1, x4, jval_tl (jval_tl (jval_tl x5)), x6⟩ hc hs hret
/-- a cell of the tables, or of the script -/
theorem j_iaload_rom {a N : Nat} {f : Nat → Int32} {i : Int32} (hd : decode cc pc = .ok (.iaload, 1)) (hw : jRom scr a = some (N, f)) (hin : vp_in i N) (k : jWP scr own cc nL ret d bc bs (pc + 1) lv (.int (f i.toNatClampNeg) :: st) w post) : jWP scr own cc nL ret d bc bs pc lv (.int i :: .ref a :: st) w post := by
  intro p l e R s m args below meth c D dA A hC hI Q ad H locs ls cells slots hS hc hs hret
  obtain ⟨x1, x2, x3, x4, x5, x6⟩ := id hS
  exact va_ti hC.1 hC.2.1 (x1.2.2.2.2.1 a N f hw) x3 hin rfl hd (k p l e R s m args below meth c D dA A hC hI Q ad H locs ls cells slots ⟨x1, x2, x3, x4, jval_cons trivial (jval_tl (jval_tl x5)), x6⟩ hc hs hret)
theorem j_alen_rom {a N : Nat} {f : Nat → Int32} (hd : decode cc pc = .ok (.arraylength, 1)) (hw : jRom scr a = some (N, f)) (k : jWP scr own cc nL ret d bc bs (pc + 1) lv (.int (Int32.ofNat N) :: st) w post) : jWP scr own cc nL ret d bc bs pc lv (.ref a :: st) w post := by
  intro p l e R s m args below meth c D dA A hC hI Q ad H locs ls cells slots hS hc hs hret
  obtain ⟨x1, x2, x3, x4, x5, x6⟩ := id hS
  exact va_tlen hC.1 hC.2.1 (x1.2.2.2.2.1 a N f hw) x3 rfl hd (k p l e R s m args below meth c D dA A hC hI Q ad H locs ls cells slots ⟨x1, x2, x3, x4, jval_cons trivial (jval_tl x5), x6⟩ hc hs hret)
/-- the length of a row of longs -/
theorem j_alen_l {a n : Nat} {f : Nat → Int64} (hd : decode cc pc = .ok (.arraylength, 1)) (hw : w.2 a = .inl (1, n, .inr (.inl f))) (k : jWP scr own cc nL ret d bc bs (pc + 1) lv (.int (Int32.ofNat n) :: st) w post) : jWP scr own cc nL ret d bc bs pc lv (.ref a :: st) w post := by
  intro p l e R s m args below meth c D dA A hC hI Q ad H locs ls cells slots hS hc hs hret
  obtain ⟨x1, x2, x3, x4, x5, x6⟩ := id hS
  have hg := jl_get (dA := dA) (ad := ad) (jok_in x2.1 (a := a) (by rw [hw]; exact jarr_ne))
  rw [hw] at hg
  exact va_alen (ty := .long) hC.1 hC.2.1 hC.2.2.2.2.2.2.1 x2.2.1 (a - 4) 1 hg rfl rfl hd (k p l e R s m args below meth c D dA A hC hI Q ad H locs ls cells slots ⟨x1, x2, x3, x4, jval_cons trivial (jval_tl x5), x6⟩ hc hs hret)
theorem j_gets_above {idx : Nat} (hown : own = RX2) (hd : decode cc pc = .ok (.getstatic idx, 3)) (hl : Cond.fieldLink own idx RX2 "ABOVE" "[I" ∈ jT) (k : jWP scr own cc nL ret d bc bs (pc + 3) lv (.ref 1 :: st) w post) : jWP scr own cc nL ret d bc bs pc lv st w post := by
  intro p l e R s m args below meth c D dA A hC hI Q ad H locs ls cells slots hS hc hs hret
  obtain ⟨x1, x2, x3, x4, x5, x6⟩ := id hS
  exact va_gets hC.1 hC.2.1 x1.2.2.1 x3 hC.2.2.2.1 (hC.2.2.2.2.1 _ hl) (fun _ h => h) hd (k p l e R s m args below meth c D dA A hC hI Q ad H locs ls cells slots ⟨x1, x2, x3, x4, jval_cons (Nat.lt_of_lt_of_le (by decide) x2.1.1) x5, x6⟩ hc hs hret)
theorem j_gets_own {idx : Nat} (hown : own = RX2) (hd : decode cc pc = .ok (.getstatic idx, 3)) (hl : Cond.fieldLink own idx RX2 "OWN" "[I" ∈ jT) (k : jWP scr own cc nL ret d bc bs (pc + 3) lv (.ref 2 :: st) w post) : jWP scr own cc nL ret d bc bs pc lv st w post := by
  intro p l e R s m args below meth c D dA A hC hI Q ad H locs ls cells slots hS hc hs hret
  obtain ⟨x1, x2, x3, x4, x5, x6⟩ := id hS
  exact va_gets hC.1 hC.2.1 x1.2.2.2.1 x3 hC.2.2.2.1 (hC.2.2.2.2.1 _ hl) (fun _ h => h) hd (k p l e R s m args below meth c D dA A hC hI Q ad H locs ls cells slots ⟨x1, x2, x3, x4, jval_cons (Nat.lt_of_lt_of_le (by decide) x2.1.1) x5, x6⟩ hc hs hret)
theorem j_ldc_text (hown : own = RX4) (hd : decode cc pc = .ok (.ldc 58, 2)) (k : jWP scr own cc nL ret d bc bs (pc + 2) lv (.ref 3 :: st) w post) : jWP scr own cc nL ret d bc bs pc lv st w post := by
  subst hown
  intro p l e R s m args below meth c D dA A hC hI Q ad H locs ls cells slots hS hc hs hret
  obtain ⟨x1, x2, x3, x4, x5, x6⟩ := id hS
  exact va_ldcS hC.1 hC.2.1 hC.2.2.2.1 x1.2.2.2.2.2.1 hd (k p l e R s m args below meth c D dA A hC hI Q ad H locs ls cells slots ⟨x1, x2, x3, x4, jval_cons (Nat.lt_of_lt_of_le (by decide) x2.1.1) x5, x6⟩ hc hs hret)
end JROWS3
