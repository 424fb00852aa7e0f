/-! from the judgement to the contract -/
set_option maxHeartbeats 1000000 in
theorem jMet_of {y : MethodName} {cc : ByteArray} {nL d mc ms : Nat} {ret : Option FieldType} {As : List Value} {w : jW} {post : Option Value → jW → Prop} (hy : plainName y.cls = true) (hn : (jargs As).length ≤ nL) (scr : jScr) (hscr : scr = none ∨ scr = some none ∧ y.name = "<init>")
    (hb : jWP scr y.cls cc nL ret d mc ms 0 (jargs As ++ List.replicate (nL - (jargs As).length) none) [] w post) : jMet d y cc nL ret mc ms As w post := by
  intro l D dA ad sz
  refine Met.ofW (cc := cc) (maxL := nL) (ret := ret) hy rfl ?_
  intro p e s m args below meth c s₁ B hml hv
  obtain ⟨rfl, hsz, hX, hH, hK, hval⟩ := hv
  subst hsz
  have hts := atoms_spec (ws := Cond.code y cc nL ret :: jT) B.pre
  have hown : s.vm.findClass y.cls = some m.cls := findClass_of_methodNamed B.named
  have hr := B.returns
  have hlocks : meth.locks = false := B.notSynchronized
  have hI : scr = some none → meth.name = "<init>" := fun h => by
    rcases hscr with q | q
    · rw [q] at h; cases h
    · rw [← q.2]; exact (name_of_methodNamed B.named B.method).1
  have hX : jX scr ad (va_A (jl dA ad w) s.heap.size) s s.heap := by
    rcases hscr with q | q
    · rw [q]; exact hX
    · rw [q.1]; exact jX_none hX
  rw [lg_entry_eq]
  have hent := jhas_entry (ad := ad) hn
  generalize ((lg_sl (As.map (jv ad)) ++ List.replicate (nL - (lg_sl (As.map (jv ad))).length) Slot.unset).toArray) = ls at hent ⊢
  generalize hAe : va_A (jl dA ad w) s.heap.size = A at hX ⊢
  have hD : va_D A (jl dA ad w) := by rw [← hAe]; exact hH.2.2.self
  have hA : ∀ q, s.heap.size ≤ q → A q := fun q h => by rw [← hAe]; exact Or.inr h
  refine hb p l e _ s m (As.map (jv ad)).toArray below meth c D dA A ⟨B.exec, B.bytes, hml, hown, fun w h => hts w (List.mem_cons_of_mem _ h), hA, hK, Nat.le_refl d, Nat.le_refl _⟩ hI
    (MQ below (jQ ret post (jB D dA ad w.1 A) A) (As.map (jv ad)).toArray s mc ms A) ad s.heap [] ls 0 0
    ⟨hX, ⟨hH.1, hH.2.1, hD⟩, va_S.rf, hent, by simp, fun v hv => ?_⟩ (by show 0 + mc ≤ mc; omega) (by show 0 + ms ≤ ms; omega) ?_
  · rcases List.mem_append.mp hv with h | h
    · exact hval v (jargs_mem h)
    · have := (List.mem_replicate.mp h).2
      cases this
  · intro r w' ad' H' locs' ls' cells' slots' pc' hpost hret hle hag hH' hS' hc hs
    refine W.widen (k := mc) (n := ms) (by omega) (by omega) ?_
    match r, hret with
    | none, ⟨h1, h2⟩ =>
      subst h1
      exact W.vret B.exec B.bytes hr (fun t ht hW => ⟨⟨(w', ad'), rfl, hpost, hle, hag, by rw [ht]; exact hH', va_K.moved hW.alike hK⟩, hS'.F ht⟩) hS'.2.2 h2
    | some (.int v), ⟨⟨ty, h1, h3, h4⟩, h2⟩ =>
      subst h1
      refine W.zret B.exec B.bytes hr h3 (fun t ht hW => ?_) hS'.2.2 h2
      cases ty <;> first | exact absurd rfl h4 | exact ⟨⟨v, (w', ad'), rfl, hpost, hle, hag, by rw [ht]; exact hH', va_K.moved hW.alike hK⟩, hS'.F ht⟩
    | some (.long v), ⟨h1, h2⟩ =>
      subst h1
      exact W.lret B.exec B.bytes hr (fun t ht hW => ⟨⟨v, (w', ad'), rfl, hpost, hle, hag, by rw [ht]; exact hH', va_K.moved hW.alike hK⟩, hS'.F ht⟩) hS'.2.2 h2
/-! the rows: one an instruction -/
section JROWS
variable {scr : jScr} {own : String} {cc : ByteArray} {nL : Nat} {ret : Option FieldType} {d bc bs pc : Nat} {lv : List (Option Value)} {st : List Value} {w : jW} {post : Option Value → jW → Prop}
/-- a row that changes the stack and the place alone -/
theorem j_lift {pc' : Nat} {st' : List Value} (k : jWP scr own cc nL ret d bc bs pc' lv st' w post) (hv : ∀ n, (∀ v ∈ st, jrv n v) → (∀ v, some v ∈ lv → jrv n v) → ∀ v ∈ st', jrv n v)
    (hrow : ∀ (p : Program) (l : Launch) (e : Env) (R : Room) (s : State) (m : MethodId) (args : Array Value) (below : List Frame) (meth : Method) (c : Code) (H : Heap) (locs : List Loc) (cells slots : Nat) (Q : State → Prop) (ls : Array Slot) (ad : Nat → Nat), p.tables.exec = Jvm.exec → c.code = cc → s.vm.findClass own = some m.cls → (∀ w ∈ jT, w.before args s = true) → jhas ad ls nL lv → W p l e R s m args below meth c H locs cells slots Q (F0 m pc' ls (st'.map (jv ad))) → W p l e R s m args below meth c H locs cells slots Q (F0 m pc ls (st.map (jv ad)))) : jWP scr own cc nL ret d bc bs pc lv st w post := by
  intro p l e R s m args below meth c D dA A hC hI Q ad H locs ls cells slots hS hc hs hret
  obtain ⟨x1, x2, x3, x4, x5, x6⟩ := id hS
  exact hrow p l e R s m args below meth c H locs cells slots Q ls ad hC.1 hC.2.1 hC.2.2.2.1 hC.2.2.2.2.1 x4 (k p l e R s m args below meth c D dA A hC hI Q ad H locs ls cells slots ⟨x1, x2, x3, x4, hv w.1 x5 x6, x6⟩ hc hs hret)
theorem jval_cons {n : Nat} {l : List Value} {v : Value} (hv : jrv n v) (h : ∀ u ∈ l, jrv n u) : ∀ u ∈ v :: l, jrv n u := List.forall_mem_cons.mpr ⟨hv, h⟩
theorem jval_tl {n : Nat} {l : List Value} {v : Value} (h : ∀ u ∈ v :: l, jrv n u) : ∀ u ∈ l, jrv n u := (List.forall_mem_cons.mp h).2
theorem jlv_at {ad : Nat → Nat} {ls : Array Slot} {i : Nat} {v : Value} (h : jhas ad ls nL lv) (hi : lv[i]? = some (some v)) : ls[i]? = some (.val (jv ad v)) := h.2.2.2 i v hi
theorem j_iconst {n : Int} {v : Int32} (hd : decode cc pc = .ok (.iconst n, 1)) (hv : Int32.ofInt n = v) (k : jWP scr own cc nL ret d bc bs (pc + 1) lv (.int v :: st) w post) : jWP scr own cc nL ret d bc bs pc lv st w post :=
  j_lift k (fun _ h _ => jval_cons trivial h) (fun _ _ _ _ _ _ _ _ _ _ _ _ _ _ _ _ _ hx hb _ _ _ k => lv_iconst hx hb hd hv k)
theorem j_bipush {n : Int} {v : Int32} (hd : decode cc pc = .ok (.bipush n, 2)) (hv : (Int8.ofInt n).toInt32 = v) (k : jWP scr own cc nL ret d bc bs (pc + 2) lv (.int v :: st) w post) : jWP scr own cc nL ret d bc bs pc lv st w post :=
  j_lift k (fun _ h _ => jval_cons trivial h) (fun _ _ _ _ _ _ _ _ _ _ _ _ _ _ _ _ _ hx hb _ _ _ k => lv_bipush hx hb hd hv k)
theorem j_sipush {n : Int} {v : Int32} (hd : decode cc pc = .ok (.sipush n, 3)) (hv : (Int16.ofInt n).toInt32 = v) (k : jWP scr own cc nL ret d bc bs (pc + 3) lv (.int v :: st) w post) : jWP scr own cc nL ret d bc bs pc lv st w post :=
  j_lift k (fun _ h _ => jval_cons trivial h) (fun _ _ _ _ _ _ _ _ _ _ _ _ _ _ _ _ _ hx hb _ _ _ k => lv_sipush hx hb hd hv k)
theorem j_lconst {n : Fin 2} {v : Int64} (hd : decode cc pc = .ok (.lconst n, 1)) (hv : Int64.ofNat (n : Nat) = v) (k : jWP scr own cc nL ret d bc bs (pc + 1) lv (.long v :: st) w post) : jWP scr own cc nL ret d bc bs pc lv st w post :=
  j_lift k (fun _ h _ => jval_cons trivial h) (fun _ _ _ _ _ _ _ _ _ _ _ _ _ _ _ _ _ hx hb _ _ _ k => lv_lconst hx hb hd hv k)
theorem j_ldc {i : Nat} {v : Int32} (hd : decode cc pc = .ok (.ldc i, 2)) (hw : Cond.constant own i v ∈ jT) (k : jWP scr own cc nL ret d bc bs (pc + 2) lv (.int v :: st) w post) : jWP scr own cc nL ret d bc bs pc lv st w post :=
  j_lift k (fun _ h _ => jval_cons trivial h) (fun _ _ _ _ _ _ _ _ _ _ _ _ _ _ _ _ _ hx hb ho hts _ k => lv_ldc hx hb ho (hts _ hw) hd k)
theorem j_ldcw {i : Nat} {v : Int32} (hd : decode cc pc = .ok (.ldc_w i, 3)) (hw : Cond.constant own i v ∈ jT) (k : jWP scr own cc nL ret d bc bs (pc + 3) lv (.int v :: st) w post) : jWP scr own cc nL ret d bc bs pc lv st w post :=
  j_lift k (fun _ h _ => jval_cons trivial h) (fun _ _ _ _ _ _ _ _ _ _ _ _ _ _ _ _ _ hx hb ho hts _ k => lv_ldcw hx hb ho (hts _ hw) hd k)
theorem j_ldc2 {i : Nat} {v : Int64} (hd : decode cc pc = .ok (.ldc2_w i, 3)) (hw : Cond.constantLong own i v ∈ jT) (k : jWP scr own cc nL ret d bc bs (pc + 3) lv (.long v :: st) w post) : jWP scr own cc nL ret d bc bs pc lv st w post :=
  j_lift k (fun _ h _ => jval_cons trivial h) (fun _ _ _ _ _ _ _ _ _ _ _ _ _ _ _ _ _ hx hb ho hts _ k => lv_ldc2 hx hb ho (hts _ hw) hd k)
theorem j_iload_n {q : Fin 4} {i : Nat} {x : Int32} (hd : decode cc pc = .ok (.iload_n q, 1)) (hi : (q : Nat) = i) (hl : lv[i]? = some (some (.int x))) (k : jWP scr own cc nL ret d bc bs (pc + 1) lv (.int x :: st) w post) : jWP scr own cc nL ret d bc bs pc lv st w post :=
  j_lift k (fun _ h _ => jval_cons trivial h) (fun _ _ _ _ _ _ _ _ _ _ _ _ _ _ _ _ _ hx hb _ _ hh k => lv_iload_n hx hb hd hi (jlv_at hh hl) k)
theorem j_iload {i : Nat} {x : Int32} (hd : decode cc pc = .ok (.iload i, 2)) (hl : lv[i]? = some (some (.int x))) (k : jWP scr own cc nL ret d bc bs (pc + 2) lv (.int x :: st) w post) : jWP scr own cc nL ret d bc bs pc lv st w post :=
  j_lift k (fun _ h _ => jval_cons trivial h) (fun _ _ _ _ _ _ _ _ _ _ _ _ _ _ _ _ _ hx hb _ _ hh k => lv_iload hx hb hd (jlv_at hh hl) k)
theorem j_lload_n {q : Fin 4} {i : Nat} {x : Int64} (hd : decode cc pc = .ok (.lload_n q, 1)) (hi : (q : Nat) = i) (hl : lv[i]? = some (some (.long x))) (k : jWP scr own cc nL ret d bc bs (pc + 1) lv (.long x :: st) w post) : jWP scr own cc nL ret d bc bs pc lv st w post :=
  j_lift k (fun _ h _ => jval_cons trivial h) (fun _ _ _ _ _ _ _ _ _ _ _ _ _ _ _ _ _ hx hb _ _ hh k => lv_lload_n hx hb hd hi (jlv_at hh hl) k)
theorem j_lload {i : Nat} {x : Int64} (hd : decode cc pc = .ok (.lload i, 2)) (hl : lv[i]? = some (some (.long x))) (k : jWP scr own cc nL ret d bc bs (pc + 2) lv (.long x :: st) w post) : jWP scr own cc nL ret d bc bs pc lv st w post :=
  j_lift k (fun _ h _ => jval_cons trivial h) (fun _ _ _ _ _ _ _ _ _ _ _ _ _ _ _ _ _ hx hb _ _ hh k => lv_lload hx hb hd (jlv_at hh hl) k)
theorem j_aload_n {q : Fin 4} {i : Nat} {x : Nat} (hd : decode cc pc = .ok (.aload_n q, 1)) (hi : (q : Nat) = i) (hl : lv[i]? = some (some (.ref x))) (k : jWP scr own cc nL ret d bc bs (pc + 1) lv (.ref x :: st) w post) : jWP scr own cc nL ret d bc bs pc lv st w post :=
  j_lift k (fun _ h h2 => jval_cons (h2 _ (List.mem_of_getElem? hl)) h) (fun _ _ _ _ _ _ _ _ _ _ _ _ _ _ _ _ _ hx hb _ _ hh k => lv_aload_n hx hb hd hi (jlv_at hh hl) k)
theorem j_aload {i : Nat} {x : Nat} (hd : decode cc pc = .ok (.aload i, 2)) (hl : lv[i]? = some (some (.ref x))) (k : jWP scr own cc nL ret d bc bs (pc + 2) lv (.ref x :: st) w post) : jWP scr own cc nL ret d bc bs pc lv st w post :=
  j_lift k (fun _ h h2 => jval_cons (h2 _ (List.mem_of_getElem? hl)) h) (fun _ _ _ _ _ _ _ _ _ _ _ _ _ _ _ _ _ hx hb _ _ hh k => lv_aload hx hb hd (jlv_at hh hl) k)
theorem j_iadd {x y : Int32} (hd : decode cc pc = .ok (.iadd, 1))  (k : jWP scr own cc nL ret d bc bs (pc + 1) lv (.int (x + y) :: st) w post) : jWP scr own cc nL ret d bc bs pc lv (.int y :: .int x :: st) w post :=
  j_lift k (fun _ h _ => (jval_cons trivial (jval_tl (jval_tl h)))) (fun _ _ _ _ _ _ _ _ _ _ _ _ _ _ _ _ _ hx hb _ _ _ k => lv_iadd hx hb hd  k)
theorem j_isub {x y : Int32} (hd : decode cc pc = .ok (.isub, 1))  (k : jWP scr own cc nL ret d bc bs (pc + 1) lv (.int (x - y) :: st) w post) : jWP scr own cc nL ret d bc bs pc lv (.int y :: .int x :: st) w post :=
  j_lift k (fun _ h _ => (jval_cons trivial (jval_tl (jval_tl h)))) (fun _ _ _ _ _ _ _ _ _ _ _ _ _ _ _ _ _ hx hb _ _ _ k => lv_isub hx hb hd  k)
theorem j_imul {x y : Int32} (hd : decode cc pc = .ok (.imul, 1))  (k : jWP scr own cc nL ret d bc bs (pc + 1) lv (.int (x * y) :: st) w post) : jWP scr own cc nL ret d bc bs pc lv (.int y :: .int x :: st) w post :=
  j_lift k (fun _ h _ => (jval_cons trivial (jval_tl (jval_tl h)))) (fun _ _ _ _ _ _ _ _ _ _ _ _ _ _ _ _ _ hx hb _ _ _ k => lv_imul hx hb hd  k)
theorem j_iand {x y : Int32} (hd : decode cc pc = .ok (.iand, 1))  (k : jWP scr own cc nL ret d bc bs (pc + 1) lv (.int (x &&& y) :: st) w post) : jWP scr own cc nL ret d bc bs pc lv (.int y :: .int x :: st) w post :=
  j_lift k (fun _ h _ => (jval_cons trivial (jval_tl (jval_tl h)))) (fun _ _ _ _ _ _ _ _ _ _ _ _ _ _ _ _ _ hx hb _ _ _ k => lv_iand hx hb hd  k)
theorem j_ior {x y : Int32} (hd : decode cc pc = .ok (.ior, 1))  (k : jWP scr own cc nL ret d bc bs (pc + 1) lv (.int (x ||| y) :: st) w post) : jWP scr own cc nL ret d bc bs pc lv (.int y :: .int x :: st) w post :=
  j_lift k (fun _ h _ => (jval_cons trivial (jval_tl (jval_tl h)))) (fun _ _ _ _ _ _ _ _ _ _ _ _ _ _ _ _ _ hx hb _ _ _ k => lv_ior hx hb hd  k)
theorem j_ixor {x y : Int32} (hd : decode cc pc = .ok (.ixor, 1))  (k : jWP scr own cc nL ret d bc bs (pc + 1) lv (.int (x ^^^ y) :: st) w post) : jWP scr own cc nL ret d bc bs pc lv (.int y :: .int x :: st) w post :=
  j_lift k (fun _ h _ => (jval_cons trivial (jval_tl (jval_tl h)))) (fun _ _ _ _ _ _ _ _ _ _ _ _ _ _ _ _ _ hx hb _ _ _ k => lv_ixor hx hb hd  k)
theorem j_ishl {x y : Int32} (hd : decode cc pc = .ok (.ishl, 1))  (k : jWP scr own cc nL ret d bc bs (pc + 1) lv (.int (x <<< (y &&& 31)) :: st) w post) : jWP scr own cc nL ret d bc bs pc lv (.int y :: .int x :: st) w post :=
  j_lift k (fun _ h _ => (jval_cons trivial (jval_tl (jval_tl h)))) (fun _ _ _ _ _ _ _ _ _ _ _ _ _ _ _ _ _ hx hb _ _ _ k => lv_ishl hx hb hd  k)
theorem j_ishr {x y : Int32} (hd : decode cc pc = .ok (.ishr, 1))  (k : jWP scr own cc nL ret d bc bs (pc + 1) lv (.int (x >>> (y &&& 31)) :: st) w post) : jWP scr own cc nL ret d bc bs pc lv (.int y :: .int x :: st) w post :=
  j_lift k (fun _ h _ => (jval_cons trivial (jval_tl (jval_tl h)))) (fun _ _ _ _ _ _ _ _ _ _ _ _ _ _ _ _ _ hx hb _ _ _ k => lv_ishr hx hb hd  k)
theorem j_idiv {x y : Int32} (hd : decode cc pc = .ok (.idiv, 1)) (hne : ¬ y = 0) (k : jWP scr own cc nL ret d bc bs (pc + 1) lv (.int (x / y) :: st) w post) : jWP scr own cc nL ret d bc bs pc lv (.int y :: .int x :: st) w post :=
  j_lift k (fun _ h _ => (jval_cons trivial (jval_tl (jval_tl h)))) (fun _ _ _ _ _ _ _ _ _ _ _ _ _ _ _ _ _ hx hb _ _ _ k => lv_idiv hx hb hd hne k)
theorem j_irem {x y : Int32} (hd : decode cc pc = .ok (.irem, 1)) (hne : ¬ y = 0) (k : jWP scr own cc nL ret d bc bs (pc + 1) lv (.int (x - x / y * y) :: st) w post) : jWP scr own cc nL ret d bc bs pc lv (.int y :: .int x :: st) w post :=
  j_lift k (fun _ h _ => (jval_cons trivial (jval_tl (jval_tl h)))) (fun _ _ _ _ _ _ _ _ _ _ _ _ _ _ _ _ _ hx hb _ _ _ k => lv_irem hx hb hd hne k)
theorem j_ineg {x : Int32} (hd : decode cc pc = .ok (.ineg, 1))  (k : jWP scr own cc nL ret d bc bs (pc + 1) lv (.int (-x) :: st) w post) : jWP scr own cc nL ret d bc bs pc lv (.int x :: st) w post :=
  j_lift k (fun _ h _ => (jval_cons trivial (jval_tl h))) (fun _ _ _ _ _ _ _ _ _ _ _ _ _ _ _ _ _ hx hb _ _ _ k => lv_ineg hx hb hd  k)
theorem j_iushr {x y : Int32} (hd : decode cc pc = .ok (.iushr, 1))  (k : jWP scr own cc nL ret d bc bs (pc + 1) lv (.int ((x.toUInt32 >>> (y.toUInt32 &&& Int32.toUInt32 31)).toInt32) :: st) w post) : jWP scr own cc nL ret d bc bs pc lv (.int y :: .int x :: st) w post :=
  j_lift k (fun _ h _ => (jval_cons trivial (jval_tl (jval_tl h)))) (fun _ _ _ _ _ _ _ _ _ _ _ _ _ _ _ _ _ hx hb _ _ _ k => lv_iushr hx hb hd rfl k)
theorem j_ladd {x y : Int64} (hd : decode cc pc = .ok (.ladd, 1))  (k : jWP scr own cc nL ret d bc bs (pc + 1) lv (.long (x + y) :: st) w post) : jWP scr own cc nL ret d bc bs pc lv (.long y :: .long x :: st) w post :=
  j_lift k (fun _ h _ => (jval_cons trivial (jval_tl (jval_tl h)))) (fun _ _ _ _ _ _ _ _ _ _ _ _ _ _ _ _ _ hx hb _ _ _ k => lv_ladd hx hb hd  k)
theorem j_lsub {x y : Int64} (hd : decode cc pc = .ok (.lsub, 1))  (k : jWP scr own cc nL ret d bc bs (pc + 1) lv (.long (x - y) :: st) w post) : jWP scr own cc nL ret d bc bs pc lv (.long y :: .long x :: st) w post :=
  j_lift k (fun _ h _ => (jval_cons trivial (jval_tl (jval_tl h)))) (fun _ _ _ _ _ _ _ _ _ _ _ _ _ _ _ _ _ hx hb _ _ _ k => lv_lsub hx hb hd  k)
theorem j_lmul {x y : Int64} (hd : decode cc pc = .ok (.lmul, 1))  (k : jWP scr own cc nL ret d bc bs (pc + 1) lv (.long (x * y) :: st) w post) : jWP scr own cc nL ret d bc bs pc lv (.long y :: .long x :: st) w post :=
  j_lift k (fun _ h _ => (jval_cons trivial (jval_tl (jval_tl h)))) (fun _ _ _ _ _ _ _ _ _ _ _ _ _ _ _ _ _ hx hb _ _ _ k => lv_lmul hx hb hd  k)
theorem j_land {x y : Int64} (hd : decode cc pc = .ok (.land, 1))  (k : jWP scr own cc nL ret d bc bs (pc + 1) lv (.long (x &&& y) :: st) w post) : jWP scr own cc nL ret d bc bs pc lv (.long y :: .long x :: st) w post :=
  j_lift k (fun _ h _ => (jval_cons trivial (jval_tl (jval_tl h)))) (fun _ _ _ _ _ _ _ _ _ _ _ _ _ _ _ _ _ hx hb _ _ _ k => lv_land hx hb hd  k)
theorem j_lor {x y : Int64} (hd : decode cc pc = .ok (.lor, 1))  (k : jWP scr own cc nL ret d bc bs (pc + 1) lv (.long (x ||| y) :: st) w post) : jWP scr own cc nL ret d bc bs pc lv (.long y :: .long x :: st) w post :=
  j_lift k (fun _ h _ => (jval_cons trivial (jval_tl (jval_tl h)))) (fun _ _ _ _ _ _ _ _ _ _ _ _ _ _ _ _ _ hx hb _ _ _ k => lv_lor hx hb hd  k)
theorem j_ldiv {x y : Int64} (hd : decode cc pc = .ok (.ldiv, 1)) (hne : ¬ y = 0) (k : jWP scr own cc nL ret d bc bs (pc + 1) lv (.long (x / y) :: st) w post) : jWP scr own cc nL ret d bc bs pc lv (.long y :: .long x :: st) w post :=
  j_lift k (fun _ h _ => (jval_cons trivial (jval_tl (jval_tl h)))) (fun _ _ _ _ _ _ _ _ _ _ _ _ _ _ _ _ _ hx hb _ _ _ k => lv_ldiv hx hb hd hne k)
theorem j_lrem {x y : Int64} (hd : decode cc pc = .ok (.lrem, 1)) (hne : ¬ y = 0) (k : jWP scr own cc nL ret d bc bs (pc + 1) lv (.long (x - x / y * y) :: st) w post) : jWP scr own cc nL ret d bc bs pc lv (.long y :: .long x :: st) w post :=
  j_lift k (fun _ h _ => (jval_cons trivial (jval_tl (jval_tl h)))) (fun _ _ _ _ _ _ _ _ _ _ _ _ _ _ _ _ _ hx hb _ _ _ k => lv_lrem hx hb hd hne k)
theorem j_lshl {x : Int64} {y : Int32} (hd : decode cc pc = .ok (.lshl, 1))  (k : jWP scr own cc nL ret d bc bs (pc + 1) lv (.long (x <<< (y.toInt64 &&& 63)) :: st) w post) : jWP scr own cc nL ret d bc bs pc lv (.int y :: .long x :: st) w post :=
  j_lift k (fun _ h _ => (jval_cons trivial (jval_tl (jval_tl h)))) (fun _ _ _ _ _ _ _ _ _ _ _ _ _ _ _ _ _ hx hb _ _ _ k => lv_lshl hx hb hd rfl k)
theorem j_lcmp {x y : Int64} (hd : decode cc pc = .ok (.lcmp, 1))  (k : jWP scr own cc nL ret d bc bs (pc + 1) lv (.int (lg_cmp x y) :: st) w post) : jWP scr own cc nL ret d bc bs pc lv (.long y :: .long x :: st) w post :=
  j_lift k (fun _ h _ => (jval_cons trivial (jval_tl (jval_tl h)))) (fun _ _ _ _ _ _ _ _ _ _ _ _ _ _ _ _ _ hx hb _ _ _ k => W.lcmp hx hb hd  k)
theorem j_i2l {x : Int32} (hd : decode cc pc = .ok (.i2l, 1))  (k : jWP scr own cc nL ret d bc bs (pc + 1) lv (.long x.toInt64 :: st) w post) : jWP scr own cc nL ret d bc bs pc lv (.int x :: st) w post :=
  j_lift k (fun _ h _ => (jval_cons trivial (jval_tl h))) (fun _ _ _ _ _ _ _ _ _ _ _ _ _ _ _ _ _ hx hb _ _ _ k => lv_i2l hx hb hd rfl k)
theorem j_l2i {x : Int64} (hd : decode cc pc = .ok (.l2i, 1))  (k : jWP scr own cc nL ret d bc bs (pc + 1) lv (.int x.toInt32 :: st) w post) : jWP scr own cc nL ret d bc bs pc lv (.long x :: st) w post :=
  j_lift k (fun _ h _ => (jval_cons trivial (jval_tl h))) (fun _ _ _ _ _ _ _ _ _ _ _ _ _ _ _ _ _ hx hb _ _ _ k => lv_l2i hx hb hd rfl k)
theorem j_i2b {x : Int32} (hd : decode cc pc = .ok (.i2b, 1))  (k : jWP scr own cc nL ret d bc bs (pc + 1) lv (.int x.toInt8.toInt32 :: st) w post) : jWP scr own cc nL ret d bc bs pc lv (.int x :: st) w post :=
  j_lift k (fun _ h _ => (jval_cons trivial (jval_tl h))) (fun _ _ _ _ _ _ _ _ _ _ _ _ _ _ _ _ _ hx hb _ _ _ k => lv_i2b hx hb hd rfl k)
theorem j_i2s {x : Int32} (hd : decode cc pc = .ok (.i2s, 1))  (k : jWP scr own cc nL ret d bc bs (pc + 1) lv (.int x.toInt16.toInt32 :: st) w post) : jWP scr own cc nL ret d bc bs pc lv (.int x :: st) w post :=
  j_lift k (fun _ h _ => (jval_cons trivial (jval_tl h))) (fun _ _ _ _ _ _ _ _ _ _ _ _ _ _ _ _ _ hx hb _ _ _ k => lv_i2s hx hb hd rfl k)
theorem j_i2c {x : Int32} (hd : decode cc pc = .ok (.i2c, 1))  (k : jWP scr own cc nL ret d bc bs (pc + 1) lv (.int (x.toUInt32 % 65536).toInt32 :: st) w post) : jWP scr own cc nL ret d bc bs pc lv (.int x :: st) w post :=
  j_lift k (fun _ h _ => (jval_cons trivial (jval_tl h))) (fun _ _ _ _ _ _ _ _ _ _ _ _ _ _ _ _ _ hx hb _ _ _ k => lv_i2c hx hb hd rfl k)
theorem j_dup {v : Value} (hd : decode cc pc = .ok (.dup, 1)) (hv : v.category = 1) (k : jWP scr own cc nL ret d bc bs (pc + 1) lv (v :: v :: st) w post) : jWP scr own cc nL ret d bc bs pc lv (v :: st) w post :=
  j_lift k (fun _ h _ => jval_cons (h _ List.mem_cons_self) h) (fun _ _ _ _ _ _ _ _ _ _ _ _ _ _ _ _ ad hx hb _ _ _ k => lv_dup (va := jv ad v) hx hb hd (by rw [jcat_jv]; exact hv) k)
theorem j_pop {v : Value} (hd : decode cc pc = .ok (.pop, 1)) (hv : v.category = 1) (k : jWP scr own cc nL ret d bc bs (pc + 1) lv st w post) : jWP scr own cc nL ret d bc bs pc lv (v :: st) w post :=
  j_lift k (fun _ h _ => jval_tl h) (fun _ _ _ _ _ _ _ _ _ _ _ _ _ _ _ _ ad hx hb _ _ _ k => lv_pop (va := jv ad v) hx hb hd (by rw [jcat_jv]; exact hv) k)
theorem j_dup2 {v u : Value} (hd : decode cc pc = .ok (.dup2, 1)) (hv : v.category = 1) (hu : u.category = 1) (k : jWP scr own cc nL ret d bc bs (pc + 1) lv (v :: u :: v :: u :: st) w post) : jWP scr own cc nL ret d bc bs pc lv (v :: u :: st) w post :=
  j_lift k (fun _ h _ => jval_cons (h _ List.mem_cons_self) (jval_cons (jval_tl h _ List.mem_cons_self) h)) (fun _ _ _ _ _ _ _ _ _ _ _ _ _ _ _ _ ad hx hb _ _ _ k => lv_dup2_11 (va := jv ad v) (vb := jv ad u) hx hb hd (by rw [jcat_jv]; exact hv) (by rw [jcat_jv]; exact hu) k)
theorem j_goto {off : Int} {tgt : Nat} (hd : decode cc pc = .ok (.goto off, 3)) (ht : (pc : Int) + off = (tgt : Int)) (k : jWP scr own cc nL ret d bc bs tgt lv st w post) : jWP scr own cc nL ret d bc bs pc lv st w post :=
  j_lift k (fun _ h _ => h) (fun _ _ _ _ _ _ _ _ _ _ _ _ _ _ _ _ _ hx hb _ _ _ k => lv_goto hx hb hd ht k)
theorem j_if_eq {x : Int32} {off : Int} {tgt : Nat} (hd : decode cc pc = .ok (.ifCond .eq off, 3)) (ht : (pc : Int) + off = (tgt : Int)) (kt : x = 0 → jWP scr own cc nL ret d bc bs tgt lv st w post) (kf : ¬ x = 0 → jWP scr own cc nL ret d bc bs (pc + 3) lv st w post) : jWP scr own cc nL ret d bc bs pc lv (.int x :: st) w post := by
  intro p l e R s m args below meth c D dA A hC hI Q ad H locs ls cells slots hS hc hs hret
  obtain ⟨x1, x2, x3, x4, x5, x6⟩ := id hS
  exact lv_if_eq hC.1 hC.2.1 hd ht (fun q => kt (by first | exact q | simpa using q) p l e R s m args below meth c D dA A hC hI Q ad H locs ls cells slots ⟨x1, x2, x3, x4, jval_tl x5, x6⟩ hc hs hret) (fun q => kf (by first | exact q | simpa using q) p l e R s m args below meth c D dA A hC hI Q ad H locs ls cells slots ⟨x1, x2, x3, x4, jval_tl x5, x6⟩ hc hs hret)
theorem j_if_ne {x : Int32} {off : Int} {tgt : Nat} (hd : decode cc pc = .ok (.ifCond .ne off, 3)) (ht : (pc : Int) + off = (tgt : Int)) (kt : ¬ x = 0 → jWP scr own cc nL ret d bc bs tgt lv st w post) (kf : x = 0 → jWP scr own cc nL ret d bc bs (pc + 3) lv st w post) : jWP scr own cc nL ret d bc bs pc lv (.int x :: st) w post := by
  intro p l e R s m args below meth c D dA A hC hI Q ad H locs ls cells slots hS hc hs hret
  obtain ⟨x1, x2, x3, x4, x5, x6⟩ := id hS
  exact lv_if_ne hC.1 hC.2.1 hd ht (fun q => kt (by first | exact q | simpa using q) p l e R s m args below meth c D dA A hC hI Q ad H locs ls cells slots ⟨x1, x2, x3, x4, jval_tl x5, x6⟩ hc hs hret) (fun q => kf (by first | exact q | simpa using q) p l e R s m args below meth c D dA A hC hI Q ad H locs ls cells slots ⟨x1, x2, x3, x4, jval_tl x5, x6⟩ hc hs hret)
theorem j_if_lt {x : Int32} {off : Int} {tgt : Nat} (hd : decode cc pc = .ok (.ifCond .lt off, 3)) (ht : (pc : Int) + off = (tgt : Int)) (kt : x < 0 → jWP scr own cc nL ret d bc bs tgt lv st w post) (kf : ¬ x < 0 → jWP scr own cc nL ret d bc bs (pc + 3) lv st w post) : jWP scr own cc nL ret d bc bs pc lv (.int x :: st) w post := by
  intro p l e R s m args below meth c D dA A hC hI Q ad H locs ls cells slots hS hc hs hret
  obtain ⟨x1, x2, x3, x4, x5, x6⟩ := id hS
  exact lv_if_lt hC.1 hC.2.1 hd ht (fun q => kt (by first | exact q | simpa using q) p l e R s m args below meth c D dA A hC hI Q ad H locs ls cells slots ⟨x1, x2, x3, x4, jval_tl x5, x6⟩ hc hs hret) (fun q => kf (by first | exact q | simpa using q) p l e R s m args below meth c D dA A hC hI Q ad H locs ls cells slots ⟨x1, x2, x3, x4, jval_tl x5, x6⟩ hc hs hret)
theorem j_if_ge {x : Int32} {off : Int} {tgt : Nat} (hd : decode cc pc = .ok (.ifCond .ge off, 3)) (ht : (pc : Int) + off = (tgt : Int)) (kt : 0 ≤ x → jWP scr own cc nL ret d bc bs tgt lv st w post) (kf : ¬ 0 ≤ x → jWP scr own cc nL ret d bc bs (pc + 3) lv st w post) : jWP scr own cc nL ret d bc bs pc lv (.int x :: st) w post := by
  intro p l e R s m args below meth c D dA A hC hI Q ad H locs ls cells slots hS hc hs hret
  obtain ⟨x1, x2, x3, x4, x5, x6⟩ := id hS
  exact lv_if_ge hC.1 hC.2.1 hd ht (fun q => kt (by first | exact q | simpa using q) p l e R s m args below meth c D dA A hC hI Q ad H locs ls cells slots ⟨x1, x2, x3, x4, jval_tl x5, x6⟩ hc hs hret) (fun q => kf (by first | exact q | simpa using q) p l e R s m args below meth c D dA A hC hI Q ad H locs ls cells slots ⟨x1, x2, x3, x4, jval_tl x5, x6⟩ hc hs hret)
theorem j_if_gt {x : Int32} {off : Int} {tgt : Nat} (hd : decode cc pc = .ok (.ifCond .gt off, 3)) (ht : (pc : Int) + off = (tgt : Int)) (kt : 0 < x → jWP scr own cc nL ret d bc bs tgt lv st w post) (kf : ¬ 0 < x → jWP scr own cc nL ret d bc bs (pc + 3) lv st w post) : jWP scr own cc nL ret d bc bs pc lv (.int x :: st) w post := by
  intro p l e R s m args below meth c D dA A hC hI Q ad H locs ls cells slots hS hc hs hret
  obtain ⟨x1, x2, x3, x4, x5, x6⟩ := id hS
  exact lv_if_gt hC.1 hC.2.1 hd ht (fun q => kt (by first | exact q | simpa using q) p l e R s m args below meth c D dA A hC hI Q ad H locs ls cells slots ⟨x1, x2, x3, x4, jval_tl x5, x6⟩ hc hs hret) (fun q => kf (by first | exact q | simpa using q) p l e R s m args below meth c D dA A hC hI Q ad H locs ls cells slots ⟨x1, x2, x3, x4, jval_tl x5, x6⟩ hc hs hret)
theorem j_if_le {x : Int32} {off : Int} {tgt : Nat} (hd : decode cc pc = .ok (.ifCond .le off, 3)) (ht : (pc : Int) + off = (tgt : Int)) (kt : x ≤ 0 → jWP scr own cc nL ret d bc bs tgt lv st w post) (kf : ¬ x ≤ 0 → jWP scr own cc nL ret d bc bs (pc + 3) lv st w post) : jWP scr own cc nL ret d bc bs pc lv (.int x :: st) w post := by
  intro p l e R s m args below meth c D dA A hC hI Q ad H locs ls cells slots hS hc hs hret
  obtain ⟨x1, x2, x3, x4, x5, x6⟩ := id hS
  exact lv_if_le hC.1 hC.2.1 hd ht (fun q => kt (by first | exact q | simpa using q) p l e R s m args below meth c D dA A hC hI Q ad H locs ls cells slots ⟨x1, x2, x3, x4, jval_tl x5, x6⟩ hc hs hret) (fun q => kf (by first | exact q | simpa using q) p l e R s m args below meth c D dA A hC hI Q ad H locs ls cells slots ⟨x1, x2, x3, x4, jval_tl x5, x6⟩ hc hs hret)
theorem j_icmp_eq {x y : Int32} {off : Int} {tgt : Nat} (hd : decode cc pc = .ok (.if_icmp .eq off, 3)) (ht : (pc : Int) + off = (tgt : Int)) (kt : x = y → jWP scr own cc nL ret d bc bs tgt lv st w post) (kf : ¬ x = y → jWP scr own cc nL ret d bc bs (pc + 3) lv st w post) : jWP scr own cc nL ret d bc bs pc lv (.int y :: .int x :: st) w post := by
  intro p l e R s m args below meth c D dA A hC hI Q ad H locs ls cells slots hS hc hs hret
  obtain ⟨x1, x2, x3, x4, x5, x6⟩ := id hS
  exact lv_icmp_eq hC.1 hC.2.1 hd ht (fun q => kt (by first | exact q | simpa using q) p l e R s m args below meth c D dA A hC hI Q ad H locs ls cells slots ⟨x1, x2, x3, x4, jval_tl (jval_tl x5), x6⟩ hc hs hret) (fun q => kf (by first | exact q | simpa using q) p l e R s m args below meth c D dA A hC hI Q ad H locs ls cells slots ⟨x1, x2, x3, x4, jval_tl (jval_tl x5), x6⟩ hc hs hret)
theorem j_icmp_ne {x y : Int32} {off : Int} {tgt : Nat} (hd : decode cc pc = .ok (.if_icmp .ne off, 3)) (ht : (pc : Int) + off = (tgt : Int)) (kt : ¬ x = y → jWP scr own cc nL ret d bc bs tgt lv st w post) (kf : x = y → jWP scr own cc nL ret d bc bs (pc + 3) lv st w post) : jWP scr own cc nL ret d bc bs pc lv (.int y :: .int x :: st) w post := by
  intro p l e R s m args below meth c D dA A hC hI Q ad H locs ls cells slots hS hc hs hret
  obtain ⟨x1, x2, x3, x4, x5, x6⟩ := id hS
  exact lv_icmp_ne hC.1 hC.2.1 hd ht (fun q => kt (by first | exact q | simpa using q) p l e R s m args below meth c D dA A hC hI Q ad H locs ls cells slots ⟨x1, x2, x3, x4, jval_tl (jval_tl x5), x6⟩ hc hs hret) (fun q => kf (by first | exact q | simpa using q) p l e R s m args below meth c D dA A hC hI Q ad H locs ls cells slots ⟨x1, x2, x3, x4, jval_tl (jval_tl x5), x6⟩ hc hs hret)
theorem j_icmp_lt {x y : Int32} {off : Int} {tgt : Nat} (hd : decode cc pc = .ok (.if_icmp .lt off, 3)) (ht : (pc : Int) + off = (tgt : Int)) (kt : x < y → jWP scr own cc nL ret d bc bs tgt lv st w post) (kf : ¬ x < y → jWP scr own cc nL ret d bc bs (pc + 3) lv st w post) : jWP scr own cc nL ret d bc bs pc lv (.int y :: .int x :: st) w post := by
  intro p l e R s m args below meth c D dA A hC hI Q ad H locs ls cells slots hS hc hs hret
  obtain ⟨x1, x2, x3, x4, x5, x6⟩ := id hS
  exact lv_icmp_lt hC.1 hC.2.1 hd ht (fun q => kt (by first | exact q | simpa using q) p l e R s m args below meth c D dA A hC hI Q ad H locs ls cells slots ⟨x1, x2, x3, x4, jval_tl (jval_tl x5), x6⟩ hc hs hret) (fun q => kf (by first | exact q | simpa using q) p l e R s m args below meth c D dA A hC hI Q ad H locs ls cells slots ⟨x1, x2, x3, x4, jval_tl (jval_tl x5), x6⟩ hc hs hret)
theorem j_icmp_ge {x y : Int32} {off : Int} {tgt : Nat} (hd : decode cc pc = .ok (.if_icmp .ge off, 3)) (ht : (pc : Int) + off = (tgt : Int)) (kt : y ≤ x → jWP scr own cc nL ret d bc bs tgt lv st w post) (kf : ¬ y ≤ x → jWP scr own cc nL ret d bc bs (pc + 3) lv st w post) : jWP scr own cc nL ret d bc bs pc lv (.int y :: .int x :: st) w post := by
  intro p l e R s m args below meth c D dA A hC hI Q ad H locs ls cells slots hS hc hs hret
  obtain ⟨x1, x2, x3, x4, x5, x6⟩ := id hS
  exact lv_icmp_ge hC.1 hC.2.1 hd ht (fun q => kt (by first | exact q | simpa using q) p l e R s m args below meth c D dA A hC hI Q ad H locs ls cells slots ⟨x1, x2, x3, x4, jval_tl (jval_tl x5), x6⟩ hc hs hret) (fun q => kf (by first | exact q | simpa using q) p l e R s m args below meth c D dA A hC hI Q ad H locs ls cells slots ⟨x1, x2, x3, x4, jval_tl (jval_tl x5), x6⟩ hc hs hret)
theorem j_icmp_gt {x y : Int32} {off : Int} {tgt : Nat} (hd : decode cc pc = .ok (.if_icmp .gt off, 3)) (ht : (pc : Int) + off = (tgt : Int)) (kt : y < x → jWP scr own cc nL ret d bc bs tgt lv st w post) (kf : ¬ y < x → jWP scr own cc nL ret d bc bs (pc + 3) lv st w post) : jWP scr own cc nL ret d bc bs pc lv (.int y :: .int x :: st) w post := by
  intro p l e R s m args below meth c D dA A hC hI Q ad H locs ls cells slots hS hc hs hret
  obtain ⟨x1, x2, x3, x4, x5, x6⟩ := id hS
  exact lv_icmp_gt hC.1 hC.2.1 hd ht (fun q => kt (by first | exact q | simpa using q) p l e R s m args below meth c D dA A hC hI Q ad H locs ls cells slots ⟨x1, x2, x3, x4, jval_tl (jval_tl x5), x6⟩ hc hs hret) (fun q => kf (by first | exact q | simpa using q) p l e R s m args below meth c D dA A hC hI Q ad H locs ls cells slots ⟨x1, x2, x3, x4, jval_tl (jval_tl x5), x6⟩ hc hs hret)
theorem j_icmp_le {x y : Int32} {off : Int} {tgt : Nat} (hd : decode cc pc = .ok (.if_icmp .le off, 3)) (ht : (pc : Int) + off = (tgt : Int)) (kt : x ≤ y → jWP scr own cc nL ret d bc bs tgt lv st w post) (kf : ¬ x ≤ y → jWP scr own cc nL ret d bc bs (pc + 3) lv st w post) : jWP scr own cc nL ret d bc bs pc lv (.int y :: .int x :: st) w post := by
  intro p l e R s m args below meth c D dA A hC hI Q ad H locs ls cells slots hS hc hs hret
  obtain ⟨x1, x2, x3, x4, x5, x6⟩ := id hS
  exact lv_icmp_le hC.1 hC.2.1 hd ht (fun q => kt (by first | exact q | simpa using q) p l e R s m args below meth c D dA A hC hI Q ad H locs ls cells slots ⟨x1, x2, x3, x4, jval_tl (jval_tl x5), x6⟩ hc hs hret) (fun q => kf (by first | exact q | simpa using q) p l e R s m args below meth c D dA A hC hI Q ad H locs ls cells slots ⟨x1, x2, x3, x4, jval_tl (jval_tl x5), x6⟩ hc hs hret)
end JROWS
