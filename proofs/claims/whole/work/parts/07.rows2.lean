/-! rows: locals, fields, arrays, ends -/
section JROWS2
variable {scr : jScr} {own : String} {cc : ByteArray} {nL : Nat} {ret : Option FieldType} {d bc bs pc : Nat} {lv : List (Option Value)} {st : List Value} {w : jW} {post : Option Value → jW → Prop}
theorem jval_put1 {n i : Nat} {x : Value} (h : ∀ v, some v ∈ lv → jrv n v) (hx : jrv n x) : ∀ v, some v ∈ jput1 lv i x → jrv n v := by
  intro v hv
  obtain ⟨j, hj⟩ := List.getElem?_of_mem hv
  rcases jput1_spec hj with ⟨-, rfl⟩ | ⟨-, h2, -⟩
  · exact hx
  · exact h v (List.mem_of_getElem? h2)
theorem jval_put2 {n i : Nat} {x : Value} (h : ∀ v, some v ∈ lv → jrv n v) (hx : jrv n x) : ∀ v, some v ∈ jput2 lv i x → jrv n v := by
  intro v hv
  obtain ⟨j, hj⟩ := List.getElem?_of_mem hv
  rcases jput2_spec hj with ⟨-, rfl⟩ | ⟨-, -, h2, -⟩
  · exact hx
  · exact h v (List.mem_of_getElem? h2)
theorem j_istore_n {q : Fin 4} {i : Nat} {x : Int32} {lv' : List (Option Value)} (hd : decode cc pc = .ok (.istore_n q, 1)) (hi : (q : Nat) = i) (hn : i < nL) (hl : jput1 lv i (.int x) = lv') (k : jWP scr own cc nL ret d bc bs (pc + 1) lv' st w post) : jWP scr own cc nL ret d bc bs pc lv (.int x :: st) w post := by
  subst hl
  intro p l e R s m args below meth c D dA A hC hI Q ad H locs ls cells slots hS hc hs hret
  obtain ⟨x1, x2, x3, x4, x5, x6⟩ := id hS
  exact lv_istore_n hC.1 hC.2.1 hd hi x4.kl hn rfl (fun ls' h' => k p l e R s m args below meth c D dA A hC hI Q ad H locs ls' cells slots ⟨x1, x2, x3, x4.put1 (x := .int x) h', jval_tl x5, jval_put1 x6 trivial⟩ hc hs hret)
theorem j_istore {i : Nat} {x : Int32} {lv' : List (Option Value)} (hd : decode cc pc = .ok (.istore i, 2)) (hn : i < nL) (hl : jput1 lv i (.int x) = lv') (k : jWP scr own cc nL ret d bc bs (pc + 2) lv' st w post) : jWP scr own cc nL ret d bc bs pc lv (.int x :: st) w post := by
  subst hl
  intro p l e R s m args below meth c D dA A hC hI Q ad H locs ls cells slots hS hc hs hret
  obtain ⟨x1, x2, x3, x4, x5, x6⟩ := id hS
  exact lv_istore hC.1 hC.2.1 hd x4.kl hn rfl (fun ls' h' => k p l e R s m args below meth c D dA A hC hI Q ad H locs ls' cells slots ⟨x1, x2, x3, x4.put1 (x := .int x) h', jval_tl x5, jval_put1 x6 trivial⟩ hc hs hret)
theorem j_astore_n {q : Fin 4} {i : Nat} {x : Nat} {lv' : List (Option Value)} (hd : decode cc pc = .ok (.astore_n q, 1)) (hi : (q : Nat) = i) (hn : i < nL) (hl : jput1 lv i (.ref x) = lv') (k : jWP scr own cc nL ret d bc bs (pc + 1) lv' st w post) : jWP scr own cc nL ret d bc bs pc lv (.ref x :: st) w post := by
  subst hl
  intro p l e R s m args below meth c D dA A hC hI Q ad H locs ls cells slots hS hc hs hret
  obtain ⟨x1, x2, x3, x4, x5, x6⟩ := id hS
  exact lv_astore_n hC.1 hC.2.1 hd hi x4.kl hn rfl (fun ls' h' => k p l e R s m args below meth c D dA A hC hI Q ad H locs ls' cells slots ⟨x1, x2, x3, x4.put1 (x := .ref x) h', jval_tl x5, jval_put1 x6 (x5 _ List.mem_cons_self)⟩ hc hs hret)
theorem j_astore {i : Nat} {x : Nat} {lv' : List (Option Value)} (hd : decode cc pc = .ok (.astore i, 2)) (hn : i < nL) (hl : jput1 lv i (.ref x) = lv') (k : jWP scr own cc nL ret d bc bs (pc + 2) lv' st w post) : jWP scr own cc nL ret d bc bs pc lv (.ref x :: st) w post := by
  subst hl
  intro p l e R s m args below meth c D dA A hC hI Q ad H locs ls cells slots hS hc hs hret
  obtain ⟨x1, x2, x3, x4, x5, x6⟩ := id hS
  exact lv_astore hC.1 hC.2.1 hd x4.kl hn rfl (fun ls' h' => k p l e R s m args below meth c D dA A hC hI Q ad H locs ls' cells slots ⟨x1, x2, x3, x4.put1 (x := .ref x) h', jval_tl x5, jval_put1 x6 (x5 _ List.mem_cons_self)⟩ hc hs hret)
theorem j_lstore_n {q : Fin 4} {i : Nat} {x : Int64} {lv' : List (Option Value)} (hd : decode cc pc = .ok (.lstore_n q, 1)) (hi : (q : Nat) = i) (hn : i + 1 < nL) (hl : jput2 lv i (.long x) = lv') (k : jWP scr own cc nL ret d bc bs (pc + 1) lv' st w post) : jWP scr own cc nL ret d bc bs pc lv (.long x :: st) w post := by
  subst hl
  intro p l e R s m args below meth c D dA A hC hI Q ad H locs ls cells slots hS hc hs hret
  obtain ⟨x1, x2, x3, x4, x5, x6⟩ := id hS
  exact lv_lstore_n hC.1 hC.2.1 hd hi x4.kl hn rfl (fun ls' h' => k p l e R s m args below meth c D dA A hC hI Q ad H locs ls' cells slots ⟨x1, x2, x3, x4.put2 (x := .long x) h', jval_tl x5, jval_put2 x6 trivial⟩ hc hs hret)
theorem j_lstore {i : Nat} {x : Int64} {lv' : List (Option Value)} (hd : decode cc pc = .ok (.lstore i, 2)) (hn : i + 1 < nL) (hl : jput2 lv i (.long x) = lv') (k : jWP scr own cc nL ret d bc bs (pc + 2) lv' st w post) : jWP scr own cc nL ret d bc bs pc lv (.long x :: st) w post := by
  subst hl
  intro p l e R s m args below meth c D dA A hC hI Q ad H locs ls cells slots hS hc hs hret
  obtain ⟨x1, x2, x3, x4, x5, x6⟩ := id hS
  exact lv_lstore hC.1 hC.2.1 hd x4.kl hn rfl (fun ls' h' => k p l e R s m args below meth c D dA A hC hI Q ad H locs ls' cells slots ⟨x1, x2, x3, x4.put2 (x := .long x) h', jval_tl x5, jval_put2 x6 trivial⟩ hc hs hret)
theorem j_iinc {i : Nat} {n : Int} {x v : Int32} {lv' : List (Option Value)} (hd : decode cc pc = .ok (.iinc i n, 3)) (hx : lv[i]? = some (some (.int x))) (hv : x + Int32.ofInt n = v) (hn : i < nL) (hl : jput1 lv i (.int v) = lv') (k : jWP scr own cc nL ret d bc bs (pc + 3) lv' st w post) : jWP scr own cc nL ret d bc bs pc lv st w post := by
  subst hl
  intro p l e R s m args below meth c D dA A hC hI Q ad H locs ls cells slots hS hc hs hret
  obtain ⟨x1, x2, x3, x4, x5, x6⟩ := id hS
  obtain ⟨kk, hk⟩ := List.getElem?_of_mem (jkl_mem (ad := ad) (nL := nL).mpr ⟨hn, _, hx, rfl⟩)
  exact lv_iinc hC.1 hC.2.1 hd x4.kl hk hv hn rfl (fun ls' h' => k p l e R s m args below meth c D dA A hC hI Q ad H locs ls' cells slots ⟨x1, x2, x3, x4.put1 (x := .int v) h', x5, jval_put1 x6 trivial⟩ hc hs hret)
/-- fewer locals -/
theorem j_less {lv' : List (Option Value)} (hl : lv'.length = lv.length) (hs : ∀ (i : Nat) (v : Value), lv'[i]? = some (some v) → lv[i]? = some (some v)) (k : jWP scr own cc nL ret d bc bs pc lv' st w post) : jWP scr own cc nL ret d bc bs pc lv st w post := by
  intro p l e R s m args below meth c D dA A hC hI Q ad H locs ls cells slots hS hc hs' hret
  obtain ⟨x1, x2, x3, x4, x5, x6⟩ := id hS
  exact k p l e R s m args below meth c D dA A hC hI Q ad H locs ls cells slots ⟨x1, x2, x3, ⟨x4.1, x4.2.1, hl.trans x4.2.2.1, fun i v hv => x4.2.2.2 i v (hs i v hv)⟩, x5, fun v hv => by
    obtain ⟨j, hj⟩ := List.getElem?_of_mem hv
    exact x6 v (List.mem_of_getElem? (hs j v hj))⟩ hc hs' hret
-- switches
theorem j_lookup {dflt : Int} {ps : Array (Int × Int)} {len : Nat} {x : Int32} {off : Int} {tgt : Nat} (hd : decode cc pc = .ok (.lookupswitch dflt ps, len)) (hp : (ps.toList.zip (ps.toList.drop 1)).all (fun (a, next) => a.1 < next.1) = true) (ho : Op.lookupswitch.offset ps.toList dflt x.toInt = off) (ht : (pc : Int) + off = (tgt : Int)) (k : jWP scr own cc nL ret d bc bs tgt lv st w post) : jWP scr own cc nL ret d bc bs pc lv (.int x :: st) w post :=
  j_lift k (fun _ h _ => jval_tl h) (fun _ _ _ _ _ _ _ _ _ _ _ _ _ _ _ _ _ hx hb _ _ _ k => lv_lookup hx hb hd hp ho ht k)
theorem j_tableOut {dflt lo hi : Int} {offs : Array Int} {len : Nat} {x : Int32} {tgt : Nat} (hd : decode cc pc = .ok (.tableswitch dflt lo hi offs, len)) (h : x.toInt < lo ∨ hi < x.toInt) (ht : (pc : Int) + dflt = (tgt : Int)) (k : jWP scr own cc nL ret d bc bs tgt lv st w post) : jWP scr own cc nL ret d bc bs pc lv (.int x :: st) w post :=
  j_lift k (fun _ h _ => jval_tl h) (fun _ _ _ _ _ _ _ _ _ _ _ _ _ _ _ _ _ hx hb _ _ _ k => lv_tableOut hx hb hd h ht k)
theorem j_tableIn {dflt lo hi : Int} {offs : Array Int} {len : Nat} {x : Int32} {off : Int} {tgt : Nat} (hd : decode cc pc = .ok (.tableswitch dflt lo hi offs, len)) (h1 : ¬ x.toInt < lo) (h2 : ¬ hi < x.toInt) (ho : offs[(x.toInt - lo).toNat]? = some off) (ht : (pc : Int) + off = (tgt : Int)) (k : jWP scr own cc nL ret d bc bs tgt lv st w post) : jWP scr own cc nL ret d bc bs pc lv (.int x :: st) w post :=
  j_lift k (fun _ h _ => jval_tl h) (fun _ _ _ _ _ _ _ _ _ _ _ _ _ _ _ _ _ hx hb _ _ _ k => lv_tableIn hx hb hd h1 h2 ho ht k)
-- ends
theorem j_ireturn {v : Int32} (hd : decode cc pc = .ok (.ireturn, 1)) (hr : ret = some .int) (hp : post (some (.int v)) w) : jWP scr own cc nL ret d bc bs pc lv [.int v] w post := by
  intro p l e R s m args below meth c D dA A hC hI Q ad H locs ls cells slots hS hc hs hret
  exact hret (some (.int v)) w ad H locs ls cells slots pc hp ⟨⟨.int, hr, rfl, by decide⟩, hd⟩ (Nat.le_refl _) (fun _ _ => rfl) hS.2.1 hS.2.2.1 (by omega) (by omega)
theorem j_zreturn {v : Int32} (hd : decode cc pc = .ok (.ireturn, 1)) (hr : ret = some .boolean) (hv : v = 0 ∨ v = 1) (hp : post (some (.int v)) w) : jWP scr own cc nL ret d bc bs pc lv [.int v] w post := by
  intro p l e R s m args below meth c D dA A hC hI Q ad H locs ls cells slots hS hc hs hret
  exact hret (some (.int v)) w ad H locs ls cells slots pc hp ⟨⟨.boolean, hr, by rcases hv with rfl | rfl <;> decide +kernel, by decide⟩, hd⟩ (Nat.le_refl _) (fun _ _ => rfl) hS.2.1 hS.2.2.1 (by omega) (by omega)
theorem j_lreturn {v : Int64} (hd : decode cc pc = .ok (.lreturn, 1)) (hr : ret = some .long) (hp : post (some (.long v)) w) : jWP scr own cc nL ret d bc bs pc lv [.long v] w post := by
  intro p l e R s m args below meth c D dA A hC hI Q ad H locs ls cells slots hS hc hs hret
  exact hret (some (.long v)) w ad H locs ls cells slots pc hp ⟨hr, hd⟩ (Nat.le_refl _) (fun _ _ => rfl) hS.2.1 hS.2.2.1 (by omega) (by omega)
theorem j_return (hd : decode cc pc = .ok (.return_, 1)) (hr : ret = none) (hp : post none w) : jWP scr own cc nL ret d bc bs pc lv [] w post := by
  intro p l e R s m args below meth c D dA A hC hI Q ad H locs ls cells slots hS hc hs hret
  exact hret none w ad H locs ls cells slots pc hp ⟨hr, hd⟩ (Nat.le_refl _) (fun _ _ => rfl) hS.2.1 hS.2.2.1 (by omega) (by omega)
-- fields
/-- class ci of vwCl, and its words -/
def jCls (ci : Nat) (C : String) (T : u_T) (N : Nat) (ty : Nat → FieldType) : Prop := vwCl[ci]? = some (C, T, N) ∧ (∀ w ∈ u_ws C T N, w ∈ jT) ∧ (∀ k, k < N → parseFieldDescriptor (T k).2.2.1 = some (ty k)) ∧ (∀ a, a < N → ∀ b, b < N → a ≠ b → (T a).2.1 ≠ (T b).2.1)
def jFld (own : String) (idx ci k : Nat) (ft : FieldType) (fin : Bool) : Prop := ∃ C T N ty, jCls ci C T N ty ∧ k < N ∧ Cond.fieldLink own idx (T k).1 (T k).2.1 (T k).2.2.1 ∈ jT ∧ ty k = ft ∧ (T k).2.2.2 = fin
theorem jcl_lt {ci : Nat} {q : vw_C} (h : vwCl[ci]? = some q) : ci < 12 := (List.getElem?_eq_some_iff.mp h).1
theorem jobj_ne {ci : Nat} {fs : List Value} {q : vw_C} (h : vwCl[ci]? = some q) : (.inr (ci, fs) : jE) ≠ jAbs := by
  intro e
  have := jcl_lt h
  injection e with e
  injection e with e1 e2
  omega
theorem jarr_ne {x : Nat × vp_A} : (.inl x : jE) ≠ jAbs := by intro e; cases e
theorem j_getfield {idx a ci q : Nat} {fs : List Value} {v : Value} {ft : FieldType} {fin : Bool} (hd : decode cc pc = .ok (.getfield idx, 3)) (hf : jFld own idx ci q ft fin) (hw : w.2 a = .inr (ci, fs)) (hv : fs[q]? = some v) (k : jWP scr own cc nL ret d bc bs (pc + 3) lv (v :: st) w post) : jWP scr own cc nL ret d bc bs pc lv (.ref a :: st) w post := by
  obtain ⟨C, T, N, ty, ⟨hcl, hin, hty, hnm⟩, hk, hlk, -, -⟩ := hf
  intro p l e R s m args below meth c D dA A hC hI Q ad H locs ls cells slots hS hc hs hret
  obtain ⟨x1, x2, x3, x4, x5, x6⟩ := id hS
  have hne : w.2 a ≠ jAbs := by rw [hw]; exact jobj_ne hcl
  have hg := jl_get (dA := dA) (ad := ad) (jok_in x2.1 hne)
  rw [hw] at hg
  have hjr : jrv w.1 v := by
    have := x2.1.2.2 a
    rw [hw] at this
    exact this v (List.mem_of_getElem? hv)
  exact va_get hC.1 hC.2.1 hC.2.2.2.2.1 hin hC.2.2.2.1 hC.2.2.2.2.2.2.1 x2.2.1 (a - 4) hg hcl q hk (hC.2.2.2.2.1 _ hlk) (fun _ h => h) (v := jv ad v) (by rw [List.getElem?_map, hv]; rfl) hd (k p l e R s m args below meth c D dA A hC hI Q ad H locs ls cells slots ⟨x1, x2, x3, x4, jval_cons hjr (jval_tl x5), x6⟩ hc hs hret)
theorem jset_ok {ad : Nat → Nat} {dA : Nat → ClassId} {a ci q : Nat} {fs : List Value} {v : Value} : (.inr (ci, (fs.map (jv ad)).set q (jv ad v)) : va_E) = jc dA ad (.inr (ci, fs.set q v)) := by
  show _ = (.inr (ci, (fs.set q v).map (jv ad)) : va_E)
  rw [List.map_set]
theorem jre_set {n ci q : Nat} {fs : List Value} {v : Value} (h : jre n (.inr (ci, fs))) (hv : jrv n v) : jre n (.inr (ci, fs.set q v)) := by
  intro u hu
  rcases List.mem_or_eq_of_mem_set hu with h1 | h1
  · exact h u h1
  · rw [h1]; exact hv
theorem j_putfield {idx a ci q : Nat} {fs : List Value} {v : Value} {ft : FieldType} (hd : decode cc pc = .ok (.putfield idx, 3)) (hf : jFld own idx ci q ft false) (hw : w.2 a = .inr (ci, fs)) (hn : ∀ ad, narrow ft (jv ad v) = jv ad v) (hfit : ∀ ad, fits ft (jv ad v) = true) (hq : q < fs.length) (k : jWP scr own cc nL ret d bc bs (pc + 3) lv st (ju w a (.inr (ci, fs.set q v))) post) : jWP scr own cc nL ret d bc bs pc lv (v :: .ref a :: st) w post := by
  obtain ⟨C, T, N, ty, ⟨hcl, hin, hty, hnm⟩, hk, hlk, ht, hfin⟩ := hf
  intro p l e R s m args below meth c D dA A hC hI Q ad H locs ls cells slots hS hc hs hret
  obtain ⟨x1, x2, x3, x4, x5, x6⟩ := id hS
  have hne : w.2 a ≠ jAbs := by rw [hw]; exact jobj_ne hcl
  have hain := jok_in x2.1 hne
  have hg := jl_get (dA := dA) (ad := ad) hain
  rw [hw] at hg
  have hjr : jre w.1 (.inr (ci, fs.set q v)) := by
    have h9 := x2.1.2.2 a
    rw [hw] at h9
    exact jre_set h9 (x5 _ List.mem_cons_self)
  refine va_put hC.1 hC.2.1 hC.2.2.2.2.1 hin ty hty hnm hC.2.2.2.1 hC.2.2.2.2.2.2.1 x2.2.1 x2.2.2 x3 (a - 4) hg hcl q hk (hC.2.2.2.2.1 _ hlk) (fun _ h => h) hfin (ty := ft) (by rw [← ht]; exact hty q hk) (hn ad) (hfit ad) (by rw [List.length_map]; exact hq) hd (fun H1 locs1 hP hD hS1 => ?_)
  rw [jset_ok (dA := dA) (a := a), jl_set hain] at hP hD
  exact k p l e R s m args below meth c D dA A hC hI Q ad H1 locs1 ls cells slots ⟨x1, ⟨jok_set x2.1 hain hjr, hP, hD⟩, hS1, x4, jval_tl (jval_tl x5), x6⟩ hc hs hret
theorem j_putfinal {idx a ci q : Nat} {fs : List Value} {v : Value} {ft : FieldType} (hscr : scr = some none) (hd : decode cc pc = .ok (.putfield idx, 3)) (hf : jFld own idx ci q ft true) (hdecl : (vwCl[ci]?.map fun r => (r.2.1 q).1) = some own) (hw : w.2 a = .inr (ci, fs)) (hn : ∀ ad, narrow ft (jv ad v) = jv ad v) (hfit : ∀ ad, fits ft (jv ad v) = true) (hq : q < fs.length) (k : jWP scr own cc nL ret d bc bs (pc + 3) lv st (ju w a (.inr (ci, fs.set q v))) post) : jWP scr own cc nL ret d bc bs pc lv (v :: .ref a :: st) w post := by
  obtain ⟨C, T, N, ty, ⟨hcl, hin, hty, hnm⟩, hk, hlk, ht, hfin⟩ := hf
  rw [hcl] at hdecl
  have hdecl : (T q).1 = own := Option.some.inj hdecl
  intro p l e R s m args below meth c D dA A hC hI Q ad H locs ls cells slots hS hc hs hret
  obtain ⟨x1, x2, x3, x4, x5, x6⟩ := id hS
  have hne : w.2 a ≠ jAbs := by rw [hw]; exact jobj_ne hcl
  have hain := jok_in x2.1 hne
  have hg := jl_get (dA := dA) (ad := ad) hain
  rw [hw] at hg
  have hjr : jre w.1 (.inr (ci, fs.set q v)) := by
    have h9 := x2.1.2.2 a
    rw [hw] at h9
    exact jre_set h9 (x5 _ List.mem_cons_self)
  refine va_putF hC.1 hC.2.1 hC.2.2.2.2.1 hin ty hty hnm hC.2.2.2.1 hC.2.2.2.2.2.2.1 x2.2.1 x2.2.2 x3 (a - 4) hg hcl q hk (hC.2.2.2.2.1 _ hlk) (fun _ h => h) hfin (hI hscr) hdecl (ty := ft) (by rw [← ht]; exact hty q hk) (hn ad) (hfit ad) (by rw [List.length_map]; exact hq) hd (fun H1 locs1 hP hD hS1 => ?_)
  rw [jset_ok (dA := dA) (a := a), jl_set hain] at hP hD
  exact k p l e R s m args below meth c D dA A hC hI Q ad H1 locs1 ls cells slots ⟨x1, ⟨jok_set x2.1 hain hjr, hP, hD⟩, hS1, x4, jval_tl (jval_tl x5), x6⟩ hc hs hret
end JROWS2
