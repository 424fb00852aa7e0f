/-! a judgement for methods that change no heap: the JDK's String.indexOf(int) over the class's text -/
def rF : Nat → Prop := fun _ => False
def sP (q v : Nat) (H0 : Heap) (U : State) : Prop := U.heap = H0 ∧ va_Z "java/lang/String" "COMPACT_STRINGS" "Z" (.int 1) rF U H0 ∧ va_O "java/lang/String" q rF U H0 ∧ va_OF "java/lang/String" "coder" "B" (.int 0) q rF U H0 ∧ va_OF "java/lang/String" "value" "[B" (.ref v) q rF U H0 ∧ va_T .byte v 6 (fun j => .int (jNames.getD j 0)) rF U H0
theorem sP_mv {q v : Nat} {H0 : Heap} {u U : State} (hv : u.vm.Alike U.vm) (hh : U.heap = H0) (h : sP q v H0 u) : sP q v H0 U := ⟨hh, va_Z.moved hv h.2.1, va_O.moved hv h.2.2.1, va_OF.moved hv h.2.2.2.1, va_OF.moved hv h.2.2.2.2.1, va_T.moved hv h.2.2.2.2.2⟩
theorem sP_blind {q v : Nat} {H0 : Heap} {As : List Value} : FrameBlind (va_Pc As (sP q v H0)) := by
  intro a U g mk h
  exact ⟨h.1, sP_mv (u := U) (Vm.Alike.refl U.vm) h.2.1 h.2⟩
def rC (own : String) (cc : ByteArray) (nL d : Nat) (p : Program) (R : Room) (s : State) (m : MethodId) (args : Array Value) (c : Code) : Prop :=
  p.tables.exec = Jvm.exec ∧ c.code = cc ∧ c.maxLocals = nL ∧ s.vm.findClass own = some m.cls ∧ (∀ w ∈ jT, w.before args s = true) ∧ d ≤ R.frames ∧ 60 * d ≤ R.locals
def rW (own : String) (cc : ByteArray) (nL d q v : Nat) (H0 : Heap) (r : Int32) (pc : Nat) (lv : List (Nat × Value)) (st : List Value) : Prop :=
  ∀ (p : Program) (l : Launch) (e : Env) (R : Room) (s : State) (m : MethodId) (args : Array Value) (below : List Frame) (meth : Method) (c : Code) (Q : State → Prop) (ls : Array Slot) (locs : List Loc),
  rC own cc nL d p R s m args c → sP q v H0 s → lv_has ls nL lv → va_S rF s.heap H0 locs →
  (∀ (pc' : Nat) (ls' : Array Slot) (locs' : List Loc), decode cc pc' = .ok (.ireturn, 1) → va_S rF s.heap H0 locs' → W p l e R s m args below meth c H0 locs' 0 0 Q (F0 m pc' ls' [.int r])) →
  W p l e R s m args below meth c H0 locs 0 0 Q (F0 m pc ls st)
def rM (d : Nat) (y : MethodName) (cc : ByteArray) (nL : Nat) (ty : FieldType) (As : List Value) (q v : Nat) (H0 : Heap) (r : Int32) : Prop :=
  ∀ l : Launch, Met l y (Cond.code y cc nL (some ty) :: jT) { frames := d, cells := 0, slots := 0, locals := 60 * d } (va_Pc As (sP q v H0)) (va_Qi (fun z (_ : Unit) => z = r) (fun _ t => t.heap = H0) rF) 0 0 rF
set_option maxHeartbeats 1000000 in
theorem rM_of {d nL q v : Nat} {y : MethodName} {cc : ByteArray} {ty : FieldType} {As : List Value} {H0 : Heap} {r : Int32} (hy : plainName y.cls = true) (hn : (lg_sl As).length ≤ nL) (h3 : narrow ty (.int r) = .int r) (hb : rW y.cls cc nL d q v H0 r 0 (lv_args 0 As) []) : rM d y cc nL ty As q v H0 r := by
  intro l
  refine Met.ofW (cc := cc) (maxL := nL) (ret := some ty) hy rfl ?_
  intro p e s m args below meth c s₁ B hml hv
  obtain ⟨rfl, hP⟩ := hv
  have h0 : s.heap = H0 := hP.1
  subst h0
  have hts := atoms_spec (ws := Cond.code y cc nL (some ty) :: jT) B.pre
  have hown : s.vm.findClass y.cls = some m.cls := findClass_of_methodNamed B.named
  have hr := B.returns
  have hlocks : meth.locks = false := B.notSynchronized
  have hent := lv_entry As (n := nL) hn
  rw [lg_entry_eq]
  generalize ((lg_sl As ++ List.replicate (nL - (lg_sl As).length) Slot.unset).toArray) = ls at hent ⊢
  refine hb p l e _ s m As.toArray below meth c _ ls [] ⟨B.exec, B.bytes, hml, hown, fun w h => hts w (List.mem_cons_of_mem _ h), Nat.le_refl d, Nat.le_refl _⟩ hP hent va_S.rf ?_
  intro pc' ls' locs' hd hS
  exact W.zret B.exec B.bytes hr h3 (fun t ht hW => ⟨⟨r, (), rfl, rfl, ht⟩, hS.F ht⟩) hS.2.2 hd
section RROWS
variable {own : String} {cc : ByteArray} {nL d q v : Nat} {H0 : Heap} {r : Int32} {pc : Nat} {lv : List (Nat × Value)} {st : List Value}
theorem r_lift {pc' : Nat} {st' : List Value} (k : rW own cc nL d q v H0 r pc' lv st') (hrow : ∀ (p : Program) (l : Launch) (e : Env) (R : Room) (s : State) (m : MethodId) (args : Array Value) (below : List Frame) (meth : Method) (c : Code) (locs : List Loc) (Q : State → Prop) (ls : Array Slot), rC own cc nL d p R s m args c → sP q v H0 s → va_S rF s.heap H0 locs → lv_has ls nL lv → W p l e R s m args below meth c H0 locs 0 0 Q (F0 m pc' ls st') → W p l e R s m args below meth c H0 locs 0 0 Q (F0 m pc ls st)) : rW own cc nL d q v H0 r pc lv st := by
  intro p l e R s m args below meth c Q ls locs hC hP hl hS hret
  exact hrow p l e R s m args below meth c locs Q ls hC hP hS hl (k p l e R s m args below meth c Q ls locs hC hP hl hS hret)
theorem r_iload_n {k0 : Fin 4} {i j : Nat} {x : Int32} (hd : decode cc pc = .ok (.iload_n k0, 1)) (hi : (k0 : Nat) = i) (hl : lv[j]? = some (i, .int x)) (k : rW own cc nL d q v H0 r (pc + 1) lv (.int x :: st)) : rW own cc nL d q v H0 r pc lv st :=
  r_lift k (fun _ _ _ _ _ _ _ _ _ _ _ _ _ hC _ _ h k => lv_iload_n hC.1 hC.2.1 hd hi (lv_at h j hl) k)
theorem r_aload_n {k0 : Fin 4} {i j x : Nat} (hd : decode cc pc = .ok (.aload_n k0, 1)) (hi : (k0 : Nat) = i) (hl : lv[j]? = some (i, .ref x)) (k : rW own cc nL d q v H0 r (pc + 1) lv (.ref x :: st)) : rW own cc nL d q v H0 r pc lv st :=
  r_lift k (fun _ _ _ _ _ _ _ _ _ _ _ _ _ hC _ _ h k => lv_aload_n hC.1 hC.2.1 hd hi (lv_at h j hl) k)
theorem r_iload {i j : Nat} {x : Int32} (hd : decode cc pc = .ok (.iload i, 2)) (hl : lv[j]? = some (i, .int x)) (k : rW own cc nL d q v H0 r (pc + 2) lv (.int x :: st)) : rW own cc nL d q v H0 r pc lv st :=
  r_lift k (fun _ _ _ _ _ _ _ _ _ _ _ _ _ hC _ _ h k => lv_iload hC.1 hC.2.1 hd (lv_at h j hl) k)
theorem r_iconst {n : Int} {x : Int32} (hd : decode cc pc = .ok (.iconst n, 1)) (hv : Int32.ofInt n = x) (k : rW own cc nL d q v H0 r (pc + 1) lv (.int x :: st)) : rW own cc nL d q v H0 r pc lv st :=
  r_lift k (fun _ _ _ _ _ _ _ _ _ _ _ _ _ hC _ _ _ k => lv_iconst hC.1 hC.2.1 hd hv k)
theorem r_sipush {n : Int} {x : Int32} (hd : decode cc pc = .ok (.sipush n, 3)) (hv : (Int16.ofInt n).toInt32 = x) (k : rW own cc nL d q v H0 r (pc + 3) lv (.int x :: st)) : rW own cc nL d q v H0 r pc lv st :=
  r_lift k (fun _ _ _ _ _ _ _ _ _ _ _ _ _ hC _ _ _ k => lv_sipush hC.1 hC.2.1 hd hv k)
theorem r_i2b {x : Int32} (hd : decode cc pc = .ok (.i2b, 1)) (k : rW own cc nL d q v H0 r (pc + 1) lv (.int x.toInt8.toInt32 :: st)) : rW own cc nL d q v H0 r pc lv (.int x :: st) :=
  r_lift k (fun _ _ _ _ _ _ _ _ _ _ _ _ _ hC _ _ _ k => lv_i2b hC.1 hC.2.1 hd rfl k)
theorem r_ishr {x y z : Int32} (hd : decode cc pc = .ok (.ishr, 1)) (hz : x >>> (y &&& 31) = z) (k : rW own cc nL d q v H0 r (pc + 1) lv (.int z :: st)) : rW own cc nL d q v H0 r pc lv (.int y :: .int x :: st) := by
  subst hz
  exact r_lift k (fun _ _ _ _ _ _ _ _ _ _ _ _ _ hC _ _ _ k => lv_ishr hC.1 hC.2.1 hd k)
theorem r_goto {off : Int} {tgt : Nat} (hd : decode cc pc = .ok (.goto off, 3)) (ht : (pc : Int) + off = (tgt : Int)) (k : rW own cc nL d q v H0 r tgt lv st) : rW own cc nL d q v H0 r pc lv st :=
  r_lift k (fun _ _ _ _ _ _ _ _ _ _ _ _ _ hC _ _ _ k => lv_goto hC.1 hC.2.1 hd ht k)
theorem r_alen {x : Int32} (hx : Int32.ofNat 6 = x) (hd : decode cc pc = .ok (.arraylength, 1)) (k : rW own cc nL d q v H0 r (pc + 1) lv (.int x :: st)) : rW own cc nL d q v H0 r pc lv (.ref v :: st) :=
  r_lift k (fun _ _ _ _ s _ _ _ _ _ _ _ _ hC hP hS _ k => va_tlen hC.1 hC.2.1 (ty := .byte) (by have h := hP.2.2.2.2.2; rw [← hP.1] at h; exact h) hS hx hd k)
theorem r_bald {i : Nat} (hi : i < 6) (hd : decode cc pc = .ok (.baload, 1)) (k : rW own cc nL d q v H0 r (pc + 1) lv (.int (jNames.getD i 0) :: st)) : rW own cc nL d q v H0 r pc lv (.int (nI i) :: .ref v :: st) :=
  r_lift k (fun _ _ _ _ s _ _ _ _ _ _ _ _ hC hP hS _ k => va_tb (v := .int (jNames.getD i 0)) hC.1 hC.2.1 (by have h := hP.2.2.2.2.2; rw [← hP.1] at h; exact h) hS (vp_in_nI hi (by decide)) (by rw [nI_clamp (by omega)]) hd k)
theorem r_getc (hown : own = RJ0) (hd : decode cc pc = .ok (.getstatic 38, 3)) (k : rW own cc nL d q v H0 r (pc + 3) lv (.int 1 :: st)) : rW own cc nL d q v H0 r pc lv st := by
  subst hown
  exact r_lift k (fun _ _ _ _ s _ _ _ _ _ _ _ _ hC hP hS _ k => va_gets hC.1 hC.2.1 (by have h := hP.2.1; rw [← hP.1] at h; exact h) hS hC.2.2.2.1 (hC.2.2.2.2.1 _ jw_f_J0_38) (fun _ h => h) hd k)
theorem r_getk (hown : own = RJ0) (hd : decode cc pc = .ok (.getfield 15, 3)) (k : rW own cc nL d q v H0 r (pc + 3) lv (.int 0 :: st)) : rW own cc nL d q v H0 r pc lv (.ref q :: st) := by
  subst hown
  exact r_lift k (fun _ _ _ _ s _ _ _ _ _ _ _ _ hC hP hS _ k => vk_getf hC.1 hC.2.1 (by have h := hP.2.2.2.1; rw [← hP.1] at h; exact h) hS hC.2.2.2.1 (hC.2.2.2.2.1 _ jw_f_J0_15) (fun _ h => h) hd k)
theorem r_getv (hown : own = RJ0) (hd : decode cc pc = .ok (.getfield 9, 3)) (k : rW own cc nL d q v H0 r (pc + 3) lv (.ref v :: st)) : rW own cc nL d q v H0 r pc lv (.ref q :: st) := by
  subst hown
  exact r_lift k (fun _ _ _ _ s _ _ _ _ _ _ _ _ hC hP hS _ k => vk_getf hC.1 hC.2.1 (by have h := hP.2.2.2.2.1; rw [← hP.1] at h; exact h) hS hC.2.2.2.1 (hC.2.2.2.2.1 _ jw_f_J0_9) (fun _ h => h) hd k)
theorem r_if_eq {x : Int32} {off : Int} {tgt : Nat} (hd : decode cc pc = .ok (.ifCond .eq off, 3)) (ht : (pc : Int) + off = (tgt : Int)) (kt : x = 0 → rW own cc nL d q v H0 r tgt lv st) (kf : ¬ x = 0 → rW own cc nL d q v H0 r (pc + 3) lv st) : rW own cc nL d q v H0 r pc lv (.int x :: st) := by
  intro p l e R s m args below meth c Q ls locs hC hP hl hS hret
  exact lv_if_eq hC.1 hC.2.1 hd ht (fun z => kt (by first | exact z | simpa using z) p l e R s m args below meth c Q ls locs hC hP hl hS hret) (fun z => kf (by first | exact z | simpa using z) p l e R s m args below meth c Q ls locs hC hP hl hS hret)
theorem r_if_ne {x : Int32} {off : Int} {tgt : Nat} (hd : decode cc pc = .ok (.ifCond .ne off, 3)) (ht : (pc : Int) + off = (tgt : Int)) (kt : ¬ x = 0 → rW own cc nL d q v H0 r tgt lv st) (kf : x = 0 → rW own cc nL d q v H0 r (pc + 3) lv st) : rW own cc nL d q v H0 r pc lv (.int x :: st) := by
  intro p l e R s m args below meth c Q ls locs hC hP hl hS hret
  exact lv_if_ne hC.1 hC.2.1 hd ht (fun z => kt (by first | exact z | simpa using z) p l e R s m args below meth c Q ls locs hC hP hl hS hret) (fun z => kf (by first | exact z | simpa using z) p l e R s m args below meth c Q ls locs hC hP hl hS hret)
theorem r_if_lt {x : Int32} {off : Int} {tgt : Nat} (hd : decode cc pc = .ok (.ifCond .lt off, 3)) (ht : (pc : Int) + off = (tgt : Int)) (kt : x < 0 → rW own cc nL d q v H0 r tgt lv st) (kf : ¬ x < 0 → rW own cc nL d q v H0 r (pc + 3) lv st) : rW own cc nL d q v H0 r pc lv (.int x :: st) := by
  intro p l e R s m args below meth c Q ls locs hC hP hl hS hret
  exact lv_if_lt hC.1 hC.2.1 hd ht (fun z => kt (by first | exact z | simpa using z) p l e R s m args below meth c Q ls locs hC hP hl hS hret) (fun z => kf (by first | exact z | simpa using z) p l e R s m args below meth c Q ls locs hC hP hl hS hret)
theorem r_icmp_gt {x y : Int32} {off : Int} {tgt : Nat} (hd : decode cc pc = .ok (.if_icmp .gt off, 3)) (ht : (pc : Int) + off = (tgt : Int)) (kt : y < x → rW own cc nL d q v H0 r tgt lv st) (kf : ¬ y < x → rW own cc nL d q v H0 r (pc + 3) lv st) : rW own cc nL d q v H0 r pc lv (.int y :: .int x :: st) := by
  intro p l e R s m args below meth c Q ls locs hC hP hl hS hret
  exact lv_icmp_gt hC.1 hC.2.1 hd ht (fun z => kt (by first | exact z | simpa using z) p l e R s m args below meth c Q ls locs hC hP hl hS hret) (fun z => kf (by first | exact z | simpa using z) p l e R s m args below meth c Q ls locs hC hP hl hS hret)
theorem r_icmp_ge {x y : Int32} {off : Int} {tgt : Nat} (hd : decode cc pc = .ok (.if_icmp .ge off, 3)) (ht : (pc : Int) + off = (tgt : Int)) (kt : y ≤ x → rW own cc nL d q v H0 r tgt lv st) (kf : ¬ y ≤ x → rW own cc nL d q v H0 r (pc + 3) lv st) : rW own cc nL d q v H0 r pc lv (.int y :: .int x :: st) := by
  intro p l e R s m args below meth c Q ls locs hC hP hl hS hret
  exact lv_icmp_ge hC.1 hC.2.1 hd ht (fun z => kt (by first | exact z | simpa using z) p l e R s m args below meth c Q ls locs hC hP hl hS hret) (fun z => kf (by first | exact z | simpa using z) p l e R s m args below meth c Q ls locs hC hP hl hS hret)
theorem r_icmp_lt {x y : Int32} {off : Int} {tgt : Nat} (hd : decode cc pc = .ok (.if_icmp .lt off, 3)) (ht : (pc : Int) + off = (tgt : Int)) (kt : x < y → rW own cc nL d q v H0 r tgt lv st) (kf : ¬ x < y → rW own cc nL d q v H0 r (pc + 3) lv st) : rW own cc nL d q v H0 r pc lv (.int y :: .int x :: st) := by
  intro p l e R s m args below meth c Q ls locs hC hP hl hS hret
  exact lv_icmp_lt hC.1 hC.2.1 hd ht (fun z => kt (by first | exact z | simpa using z) p l e R s m args below meth c Q ls locs hC hP hl hS hret) (fun z => kf (by first | exact z | simpa using z) p l e R s m args below meth c Q ls locs hC hP hl hS hret)
theorem r_icmp_ne {x y : Int32} {off : Int} {tgt : Nat} (hd : decode cc pc = .ok (.if_icmp .ne off, 3)) (ht : (pc : Int) + off = (tgt : Int)) (kt : ¬ x = y → rW own cc nL d q v H0 r tgt lv st) (kf : x = y → rW own cc nL d q v H0 r (pc + 3) lv st) : rW own cc nL d q v H0 r pc lv (.int y :: .int x :: st) := by
  intro p l e R s m args below meth c Q ls locs hC hP hl hS hret
  exact lv_icmp_ne hC.1 hC.2.1 hd ht (fun z => kt (by first | exact z | simpa using z) p l e R s m args below meth c Q ls locs hC hP hl hS hret) (fun z => kf (by first | exact z | simpa using z) p l e R s m args below meth c Q ls locs hC hP hl hS hret)
theorem r_istore_n {k0 : Fin 4} {i : Nat} {x : Int32} {lv' : List (Nat × Value)} (hd : decode cc pc = .ok (.istore_n k0, 1)) (hi : (k0 : Nat) = i) (hn : i < nL) (hl : (i, Value.int x) :: lv.filter (fun q => !(q.1 == i) && !(q.1 + 1 == i && q.2.category == 2)) = lv') (k : rW own cc nL d q v H0 r (pc + 1) lv' st) : rW own cc nL d q v H0 r pc lv (.int x :: st) := by
  intro p l e R s m args below meth c Q ls locs hC hP h hS hret
  exact lv_istore_n hC.1 hC.2.1 hd hi h hn hl (fun ls' h' => k p l e R s m args below meth c Q ls' locs hC hP h' hS hret)
theorem r_istore {i : Nat} {x : Int32} {lv' : List (Nat × Value)} (hd : decode cc pc = .ok (.istore i, 2)) (hn : i < nL) (hl : (i, Value.int x) :: lv.filter (fun q => !(q.1 == i) && !(q.1 + 1 == i && q.2.category == 2)) = lv') (k : rW own cc nL d q v H0 r (pc + 2) lv' st) : rW own cc nL d q v H0 r pc lv (.int x :: st) := by
  intro p l e R s m args below meth c Q ls locs hC hP h hS hret
  exact lv_istore hC.1 hC.2.1 hd h hn hl (fun ls' h' => k p l e R s m args below meth c Q ls' locs hC hP h' hS hret)
theorem r_iinc {i j : Nat} {n : Int} {x z : Int32} {lv' : List (Nat × Value)} (hd : decode cc pc = .ok (.iinc i n, 3)) (hj : lv[j]? = some (i, .int x)) (hz : x + Int32.ofInt n = z) (hn : i < nL) (hl : (i, Value.int z) :: lv.filter (fun q => !(q.1 == i) && !(q.1 + 1 == i && q.2.category == 2)) = lv') (k : rW own cc nL d q v H0 r (pc + 3) lv' st) : rW own cc nL d q v H0 r pc lv st := by
  intro p l e R s m args below meth c Q ls locs hC hP h hS hret
  exact lv_iinc hC.1 hC.2.1 hd h hj hz hn hl (fun ls' h' => k p l e R s m args below meth c Q ls' locs hC hP h' hS hret)
theorem r_sub {lv' : List (Nat × Value)} (ks : List Nat) (hl : lv_pick lv ks = lv') (k : rW own cc nL d q v H0 r pc lv' st) : rW own cc nL d q v H0 r pc lv st := by
  intro p l e R s m args below meth c Q ls locs hC hP h hS hret
  exact k p l e R s m args below meth c Q ls locs hC hP (lv_sub h ks hl) hS hret
theorem r_ret (hd : decode cc pc = .ok (.ireturn, 1)) {x : Int32} (hx : x = r) : rW own cc nL d q v H0 r pc lv [.int x] := by
  subst hx
  intro p l e R s m args below meth c Q ls locs hC hP h hS hret
  exact hret pc ls locs hd hS
theorem r_min {idx : Nat} {x y z : Int32} (hd : decode cc pc = .ok (.invokestatic idx, 3)) (hl : ∀ w ∈ ([.methodLink own idx Lib.Math.min.name, .static Lib.Math.min.name, .initialized "java/lang/Math", .code Lib.Math.min.name Lib.Math.min.code 2 (some .int)] : List Cond), w ∈ jT) (hcat : (st.map fun v => v.category).sum ≤ 8) (hz : (if y < x then y else x) = z) (k : rW own cc nL (d + 1) q v H0 r (pc + 3) lv (.int z :: st)) : rW own cc nL (d + 1) q v H0 r pc lv (.int y :: .int x :: st) := by
  subst hz
  simp only [List.forall_mem_cons] at hl
  obtain ⟨l1, l2, l3, l4, -⟩ := hl
  intro p l e R s m args below meth c Q ls locs hC hP h hS hret
  have h6 := hC.2.2.2.2.2.1
  have h7 := hC.2.2.2.2.2.2
  exact va_mmin hC.1 hC.2.1 (hC.2.2.1.trans h.1.symm) hC.2.2.2.1 (hC.2.2.2.2.1 _ l1) (hC.2.2.2.2.1 _ l2) (hC.2.2.2.2.1 _ l3) (hC.2.2.2.2.1 _ l4) (by omega) (by omega) (Nat.zero_le _) (Nat.zero_le _) hd (k p l e R s m args below meth c Q ls locs hC hP h hS hret)
theorem r_max {idx : Nat} {x y z : Int32} (hd : decode cc pc = .ok (.invokestatic idx, 3)) (hl : ∀ w ∈ ([.methodLink own idx Lib.Math.max.name, .static Lib.Math.max.name, .initialized "java/lang/Math", .code Lib.Math.max.name Lib.Math.max.code 2 (some .int)] : List Cond), w ∈ jT) (hcat : (st.map fun v => v.category).sum ≤ 8) (hz : (if x < y then y else x) = z) (k : rW own cc nL (d + 1) q v H0 r (pc + 3) lv (.int z :: st)) : rW own cc nL (d + 1) q v H0 r pc lv (.int y :: .int x :: st) := by
  subst hz
  simp only [List.forall_mem_cons] at hl
  obtain ⟨l1, l2, l3, l4, -⟩ := hl
  intro p l e R s m args below meth c Q ls locs hC hP h hS hret
  have h6 := hC.2.2.2.2.2.1
  have h7 := hC.2.2.2.2.2.2
  exact va_mmax hC.1 hC.2.1 (hC.2.2.1.trans h.1.symm) hC.2.2.2.1 (hC.2.2.2.2.1 _ l1) (hC.2.2.2.2.1 _ l2) (hC.2.2.2.2.1 _ l3) (hC.2.2.2.2.1 _ l4) (by omega) (by omega) (Nat.zero_le _) (Nat.zero_le _) hd (k p l e R s m args below meth c Q ls locs hC hP h hS hret)
theorem r_callS {idx k n : Nat} {y : MethodName} {bytes : ByteArray} {ty : FieldType} {As rest : List Value} {z : Int32} (hd : decode cc pc = .ok (.invokestatic idx, 3)) (hl : jLnkS own idx y bytes k (some ty) n) (hst : st = As.reverse ++ rest) (hn : As.length = n) (hcat : (rest.map fun v => v.category).sum ≤ 8) (hM : rM d y bytes k ty As q v H0 z) (kk : rW own cc nL (d + 1) q v H0 r (pc + 3) lv (.int z :: rest)) : rW own cc nL (d + 1) q v H0 r pc lv st := by
  subst hst
  obtain ⟨hws, hpl, hk⟩ := hl
  simp only [List.forall_mem_cons] at hws
  obtain ⟨h1, h2, h3, h5, -⟩ := hws
  intro p l e R s m args below meth c Q ls locs hC hP h hS hret
  have h6 := hC.2.2.2.2.2.1
  have h7 := hC.2.2.2.2.2.2
  refine va_calli (a := As.toArray) (va_runS (As := As) (Ts := jT) ⟨hC.1, hC.2.1, hC.2.2.1, hC.2.2.2.1, hC.2.2.2.2.1⟩ (hM l) ⟨callB_of n hC.2.2.2.2.1 (jcode_good h5) rfl rfl rfl (hC.2.2.2.2.1 _ h3) (hC.2.2.2.2.1 _ h1) hpl (jroom h6 h7 hk), hC.2.2.2.2.1 _ h2⟩ ⟨sP_blind, fun U hU hW => ⟨rfl, sP_mv hW.alike hU hP⟩⟩ rfl hn h.1 rfl (by show 2 * 0 + _ ≤ 8; omega) hd ⟨Nat.zero_le _, Nat.zero_le _⟩) hS (fun q _ h => h.elim) (fun q h => h.elim) ?_
  intro r0 u t H1 locs1 ht _ hp hB _ _ hS1
  have e : H1 = H0 := ht.symm.trans hB
  subst e
  have e2 : r0 = z := hp
  subst e2
  exact kk p l e R s m args below meth c Q ls locs1 hC hP h hS1 hret
theorem r_callV {idx k n : Nat} {y : MethodName} {bytes : ByteArray} {ty : FieldType} {As rest : List Value} {z : Int32} (hd : decode cc pc = .ok (.invokevirtual idx, 3)) (hl : jLnkV own idx y bytes k (some ty) n) (hst : st = As.reverse ++ .ref q :: rest) (hn : As.length = n) (hy : y.cls = "java/lang/String") (hcat : (rest.map fun v => v.category).sum ≤ 8) (hM : rM d y bytes k ty (.ref q :: As) q v H0 z) (kk : rW own cc nL (d + 1) q v H0 r (pc + 3) lv (.int z :: rest)) : rW own cc nL (d + 1) q v H0 r pc lv st := by
  subst hst
  obtain ⟨hws, hpl, hk⟩ := hl
  simp only [List.forall_mem_cons] at hws
  obtain ⟨h1, h2, h3, h4, h5, -⟩ := hws
  intro p l e R s m args below meth c Q ls locs hC hP h hS hret
  have h6 := hC.2.2.2.2.2.1
  have h7 := hC.2.2.2.2.2.2
  have hrc : ∃ cell : Cell, H0[q]? = some cell ∧ cell.vm.isStatics = false ∧ s.vm.findClass y.cls = some cell.cls := by
    rw [hy]
    obtain ⟨cell, g1, g2, g3, -⟩ := hP.2.2.1
    exact ⟨cell, g1, g2, g3⟩
  refine va_calli (a := (.ref q :: As).toArray) (va_runV (As := As) (C := y.cls) (b := q) (Ts := jT) ⟨hC.1, hC.2.1, hC.2.2.1, hC.2.2.2.1, hC.2.2.2.2.1⟩ (hM l) (cwV n hC.2.2.2.2.1 (fun w hw => ?_) rfl rfl rfl ⟨rfl, hpl⟩ (jroom h6 h7 hk)) ⟨sP_blind, hrc, fun U hU hW => ⟨rfl, sP_mv hW.alike hU hP⟩⟩ rfl hn h.1 rfl (by show 2 * 0 + _ ≤ 8; omega) hd ⟨Nat.zero_le _, Nat.zero_le _⟩) hS (fun q _ h => h.elim) (fun q h => h.elim) ?_
  · rcases List.mem_append.mp hw with hw | hw
    · simp only [List.mem_cons, List.not_mem_nil, or_false] at hw
      rcases hw with rfl | rfl | rfl | rfl
      · exact jT_good (ws := [.methodLink own idx y]) (fun w hw => by simp at hw; rw [hw]; exact h1) _ List.mem_cons_self
      · exact jT_good (ws := [.instanceMethod y]) (fun w hw => by simp at hw; rw [hw]; exact h2) _ List.mem_cons_self
      · exact jT_good (ws := [.selects y.cls y y]) (fun w hw => by simp at hw; rw [hw]; exact h3) _ List.mem_cons_self
      · exact jT_good (ws := [.initialized y.cls]) (fun w hw => by simp at hw; rw [hw]; exact h4) _ List.mem_cons_self
    · exact jcode_good h5 w hw
  · intro r0 u t H1 locs1 ht _ hp hB _ _ hS1
    have e : H1 = H0 := ht.symm.trans hB
    subst e
    have e2 : r0 = z := hp
    subst e2
    exact kk p l e R s m args below meth c Q ls locs1 hC hP h hS1 hret
end RROWS
