/-! rows: what is made -/
section JROWS4
variable {scr : jScr} {own : String} {cc : ByteArray} {nL : Nat} {ret : Option FieldType} {d bc bs pc : Nat} {lv : List (Option Value)} {st : List Value} {w : jW} {post : Option Value → jW → Prop}
theorem jhas_congr {ad ad' : Nat → Nat} {ls : Array Slot} {n : Nat} (h : ∀ k, k < n → ad' k = ad k) (hv : ∀ v, some v ∈ lv → jrv n v) (hl : jhas ad ls nL lv) : jhas ad' ls nL lv := ⟨hl.1, hl.2.1, hl.2.2.1, fun i v hi => by rw [jv_eq h (hv v (List.mem_of_getElem? hi))]; exact hl.2.2.2 i v hi⟩
theorem jup_lt {ad : Nat → Nat} {n q : Nat} : ∀ k, k < n → va_up ad n q k = ad k := fun k hk => by
  have : ¬ k = n := by omega
  simp [va_up, this]
def jnoref : Value → Bool
  | .ref _ => false
  | _ => true
theorem jnoref_jv {ad : Nat → Nat} {fs : List Value} (h : fs.all jnoref = true) : fs.map (jv ad) = fs := by
  have : ∀ v ∈ fs, jv ad v = v := fun v hv => by
    have := List.all_eq_true.mp h v hv
    cases v <;> first | rfl | simp [jnoref] at this
  rw [List.map_congr_left this, List.map_id']
theorem jnoref_re {n ci : Nat} {fs : List Value} (h : fs.all jnoref = true) : jre n (.inr (ci, fs)) := fun v hv => by
  have := List.all_eq_true.mp h v hv
  cases v <;> first | trivial | simp [jnoref] at this
/-- the common end of all that makes a cell -/
theorem j_made {pc' N : Nat} {e : jE} {st0 : List Value} {p : Program} {l : Launch} {e0 : Env} {R : Room} {s : State} {m : MethodId} {args : Array Value} {below : List Frame} {meth : Method} {c : Code} {D : va_G} {dA : Nat → ClassId} {A : Nat → Prop} {Q : State → Prop} {ad : Nat → Nat} {H H1 : Heap} {locs : List Loc} {ls : Array Slot} {cells slots q : Nat} {x : va_E}
    (hC : jC own cc nL d p R s m args c D dA A) (hI : scr = some none → meth.name = "<init>") (hS : jS scr nL s D dA A w lv st0 ad H locs ls) (hst : ∀ v ∈ st, jrv w.1 v) (he : jre (w.1 + 1) e) (hx : x = jc dA (va_up ad w.1 q) e)
    (hP : va_P D vwCl (jl dA ad w ++ [(q, x)]) H1) (hD : va_D A (jl dA ad w ++ [(q, x)])) (hS1 : va_S A s.heap H1 locs) (hc : cells + (bc + 1) ≤ R.cells) (hs : slots + (bs + N) ≤ R.slots)
    (hret : ∀ (r : Option Value) (w' : jW) (ad' : Nat → Nat) (H' : Heap) (locs' : List Loc) (ls' : Array Slot) (cells' slots' pc' : Nat), post r w' → jRet cc ret pc' r → w.1 ≤ w'.1 → (∀ k, k < w.1 → ad' k = ad k) → jH D dA ad' A w' H' → va_S A s.heap H' locs' → cells' ≤ cells + (bc + 1) → slots' ≤ slots + (bs + N) →
      W p l e0 R s m args below meth c H' locs' cells' slots' Q (F0 m pc' ls' r.toList))
    (k : jWP scr own cc nL ret d bc bs pc' lv (.ref w.1 :: st) (w.1 + 1, va_up w.2 w.1 e) post) : W p l e0 R s m args below meth c H1 locs (cells + 1) (slots + N) Q (F0 m pc' ls (.ref q :: st.map (jv ad))) := by
  obtain ⟨x1, x2, x3, x4, x5, x6⟩ := id hS
  have hE := jl_push (dA := dA) (ad := ad) x2.1 q e he x hx
  rw [hE] at hP hD
  have e1 : st.map (jv ad) = st.map (jv (va_up ad w.1 q)) := (jvs_eq jup_lt hst).symm
  have e2 : Value.ref q = jv (va_up ad w.1 q) (.ref w.1) := by simp [jv, va_up]
  rw [e1, e2]
  refine k p l e0 R s m args below meth c D dA A hC hI Q (va_up ad w.1 q) H1 locs ls (cells + 1) (slots + N) ⟨jX_congr (fun k hk => jup_lt k (Nat.lt_of_lt_of_le hk x2.1.1)) x1, ⟨jok_push x2.1 he, hP, hD⟩, hS1, jhas_congr jup_lt x6 x4, jval_cons (Nat.lt_succ_self _) (fun v hv => jrv_mono (Nat.le_succ _) (hst v hv)), fun v hv => jrv_mono (Nat.le_succ _) (x6 v hv)⟩ (by omega) (by omega) ?_
  intro r w' ad' H' locs' ls' cells' slots' pc'' g1 g2 g3 g4 g5 g6 g7 g8
  have g3 : w.1 + 1 ≤ w'.1 := g3
  exact hret r w' ad' H' locs' ls' cells' slots' pc'' g1 g2 (by omega) (fun k hk => (g4 k (Nat.lt_succ_of_lt hk)).trans (jup_lt k hk)) g5 g6 (by omega) (by omega)
theorem j_new {idx ci N : Nat} {C : String} {T : u_T} {ty : Nat → FieldType} {fs : List Value} (hd : decode cc pc = .ok (.new idx, 3)) (hcls : jCls ci C T N ty) (hcl : Cond.classLink own idx C ∈ jT) (hinst : Cond.instantiable C N ∈ jT) (hini : Cond.initialized C ∈ jT) (hfs : ∀ j, j < N → defaultValue (ty j) = vp_V fs j) (hnr : fs.all jnoref = true)
    (k : jWP scr own cc nL ret d bc bs (pc + 3) lv (.ref w.1 :: st) (w.1 + 1, va_up w.2 w.1 (.inr (ci, fs))) post) : jWP scr own cc nL ret d (bc + 1) (bs + N) pc lv st w post := by
  obtain ⟨hc0, hin, hty, hnm⟩ := hcls
  intro p l e R s m args below meth c D dA A hC hI Q ad H locs ls cells slots hS hc hs hret
  obtain ⟨x1, x2, x3, x4, x5, x6⟩ := id hS
  refine va_new hC.1 hC.2.1 hC.2.2.2.2.1 hin ty hty hC.2.2.2.1 (hC.2.2.2.2.1 _ hcl) (hC.2.2.2.2.1 _ hinst) (hC.2.2.2.2.1 _ hini) hC.2.2.2.2.2.2.1 x2.2.1 x2.2.2 x3 hC.2.2.2.2.2.1 hc0 hfs (by omega) (by omega) hd (fun q H1 hP hD hS1 => ?_)
  exact j_made hC hI hS x5 (jnoref_re hnr) (by show _ = (.inr (ci, fs.map (jv (va_up ad w.1 q))) : va_E); rw [jnoref_jv hnr]) hP hD hS1 hc hs hret k
/-- one name, one class: a new array's class is the one that the world has -/
theorem jtag {D : va_G} {dA : Nat → ClassId} {s : State} {cA : ClassId} {ty : FieldType} {t : Nat} (hK : va_K D vwCl (jtys dA) s) (ht : (jtys dA)[t]? = some (dA t, ty)) (hK1 : va_K D vwCl (jtys dA ++ [(cA, ty)]) s) : cA = dA t := by
  have h1 := (hK.2 t _ ht).2
  have h2 := (hK1.2 4 (cA, ty) rfl).2
  cases ty with
  | object C =>
    obtain ⟨-, -, -, -, -, h1⟩ := h1
    obtain ⟨-, -, -, -, -, h2⟩ := h2
    exact Option.some.inj (h2.symm.trans h1)
  | _ => exact Option.some.inj ((show s.vm.findClass _ = some cA from h2).symm.trans (show s.vm.findClass _ = some (dA t) from h1))
theorem j_newarr_i {n : Int32} {N : Nat} (hd : decode cc pc = .ok (.newarray .int, 2)) (hw : Cond.arrayClass .int ∈ jT) (hn : ¬ n < 0) (hN : n.toNatClampNeg = N) (hbytes : N * 4 ≤ 536870912)
    (k : jWP scr own cc nL ret d bc bs (pc + 2) lv (.ref w.1 :: st) (w.1 + 1, va_up w.2 w.1 (.inl (0, N, .inl fun _ => 0))) post) : jWP scr own cc nL ret d (bc + 1) (bs + N) pc lv (.int n :: st) w post := by
  intro p l e R s m args below meth c D dA A hC hI Q ad H locs ls cells slots hS hc hs hret
  obtain ⟨x1, x2, x3, x4, x5, x6⟩ := id hS
  refine va_newa (atype := .int) (ty := .int) (a0 := (N, .inl fun _ => 0)) hC.1 hC.2.1 (hC.2.2.2.2.1 _ hw) rfl hC.2.2.2.2.2.2.1 x2.2.1 x2.2.2 x3 hC.2.2.2.2.2.1 (fun _ => rfl) hn hN hbytes (by omega) (by omega) hd (fun q cA H1 hK1 hP hD hS1 => ?_)
  rw [jtag (t := 0) hC.2.2.2.2.2.2.1 rfl hK1] at hP hD
  exact j_made hC hI hS (jval_tl x5) (e := .inl (0, N, .inl fun _ => 0)) trivial rfl hP hD hS1 hc hs hret k
theorem j_newarr_l {n : Int32} {N : Nat} (hd : decode cc pc = .ok (.newarray .long, 2)) (hw : Cond.arrayClass .long ∈ jT) (hn : ¬ n < 0) (hN : n.toNatClampNeg = N) (hbytes : N * 8 ≤ 536870912)
    (k : jWP scr own cc nL ret d bc bs (pc + 2) lv (.ref w.1 :: st) (w.1 + 1, va_up w.2 w.1 (.inl (1, N, .inr (.inl fun _ => 0)))) post) : jWP scr own cc nL ret d (bc + 1) (bs + N) pc lv (.int n :: st) w post := by
  intro p l e R s m args below meth c D dA A hC hI Q ad H locs ls cells slots hS hc hs hret
  obtain ⟨x1, x2, x3, x4, x5, x6⟩ := id hS
  refine va_newa (atype := .long) (ty := .long) (a0 := (N, .inr (.inl fun _ => 0))) hC.1 hC.2.1 (hC.2.2.2.2.1 _ hw) rfl hC.2.2.2.2.2.2.1 x2.2.1 x2.2.2 x3 hC.2.2.2.2.2.1 (fun _ => rfl) hn hN hbytes (by omega) (by omega) hd (fun q cA H1 hK1 hP hD hS1 => ?_)
  rw [jtag (t := 1) hC.2.2.2.2.2.2.1 rfl hK1] at hP hD
  exact j_made hC hI hS (jval_tl x5) (e := .inl (1, N, .inr (.inl fun _ => 0))) trivial rfl hP hD hS1 hc hs hret k
theorem j_newarr_z {n : Int32} {N : Nat} (hd : decode cc pc = .ok (.newarray .boolean, 2)) (hw : Cond.arrayClass .boolean ∈ jT) (hn : ¬ n < 0) (hN : n.toNatClampNeg = N) (hbytes : N * 1 ≤ 536870912)
    (k : jWP scr own cc nL ret d bc bs (pc + 2) lv (.ref w.1 :: st) (w.1 + 1, va_up w.2 w.1 (.inl (2, N, .inl fun _ => 0))) post) : jWP scr own cc nL ret d (bc + 1) (bs + N) pc lv (.int n :: st) w post := by
  intro p l e R s m args below meth c D dA A hC hI Q ad H locs ls cells slots hS hc hs hret
  obtain ⟨x1, x2, x3, x4, x5, x6⟩ := id hS
  refine va_newa (atype := .boolean) (ty := .boolean) (a0 := (N, .inl fun _ => 0)) hC.1 hC.2.1 (hC.2.2.2.2.1 _ hw) rfl hC.2.2.2.2.2.2.1 x2.2.1 x2.2.2 x3 hC.2.2.2.2.2.1 (fun _ => rfl) hn hN hbytes (by omega) (by omega) hd (fun q cA H1 hK1 hP hD hS1 => ?_)
  rw [jtag (t := 2) hC.2.2.2.2.2.2.1 rfl hK1] at hP hD
  exact j_made hC hI hS (jval_tl x5) (e := .inl (2, N, .inl fun _ => 0)) trivial rfl hP hD hS1 hc hs hret k
theorem j_newarr_q {idx : Nat} {n : Int32} {N : Nat} (hd : decode cc pc = .ok (.anewarray idx, 3)) (hcl : Cond.classLink own idx RX8 ∈ jT) (hn : ¬ n < 0) (hN : n.toNatClampNeg = N) (hbytes : N * 4 ≤ 536870912)
    (k : jWP scr own cc nL ret d bc bs (pc + 3) lv (.ref w.1 :: st) (w.1 + 1, va_up w.2 w.1 (.inl (3, N, .inr (.inr (.inr (.inr fun _ => none)))))) post) : jWP scr own cc nL ret d (bc + 1) (bs + N) pc lv (.int n :: st) w post := by
  intro p l e R s m args below meth c D dA A hC hI Q ad H locs ls cells slots hS hc hs hret
  obtain ⟨x1, x2, x3, x4, x5, x6⟩ := id hS
  refine va_newq hC.1 hC.2.1 hC.2.2.2.1 (hC.2.2.2.2.1 _ hcl) x1.1 hC.2.2.2.2.2.2.1 x2.2.1 x2.2.2 x3 hC.2.2.2.2.2.1 hn hN hbytes (by omega) (by omega) hd (fun q cA H1 hK1 hP hD hS1 => ?_)
  rw [jtag (t := 3) hC.2.2.2.2.2.2.1 rfl hK1] at hP hD
  exact j_made hC hI hS (jval_tl x5) (e := .inl (3, N, .inr (.inr (.inr (.inr fun _ => none))))) (fun j k h => by cases h) rfl hP hD hS1 hc hs hret k
end JROWS4
