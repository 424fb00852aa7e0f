/-! the start: what the statement gives of the machine at the law's entry -/
theorem kn_of {ci : Nat} {C : String} {T : u_T} {N : Nat} {ty : Nat → FieldType} {s : State} {args : Array Value} (hT : ∀ w ∈ jT, w.before args s = true) (h : jCls ci C T N ty) (hi : Cond.instantiable C N ∈ jT) : ∃ d : ClassId × (Nat → Nat), ∀ q : vw_C, vwCl[ci]? = some q → u_Kn s q.1 q.2.1 q.2.2 d.1 d.2 := by
  obtain ⟨cC, iS, h1⟩ := u_known hT h.2.1 (hT _ hi)
  exact ⟨(cC, iS), fun q hq => by rw [h.1] at hq; cases hq; exact h1⟩
theorem kn_all {s : State} {args : Array Value} (hT : ∀ w ∈ jT, w.before args s = true) (c : Nat) : ∃ d : ClassId × (Nat → Nat), ∀ q : vw_C, vwCl[c]? = some q → u_Kn s q.1 q.2.1 q.2.2 d.1 d.2 := by
  by_cases h : c < 12
  · rcases (show c = 0 ∨ c = 1 ∨ c = 2 ∨ c = 3 ∨ c = 4 ∨ c = 5 ∨ c = 6 ∨ c = 7 ∨ c = 8 ∨ c = 9 ∨ c = 10 ∨ c = 11 by omega) with rfl | rfl | rfl | rfl | rfl | rfl | rfl | rfl | rfl | rfl | rfl | rfl
    · exact kn_of hT jcls_0 jw_inst_0
    · exact kn_of hT jcls_1 jw_inst_1
    · exact kn_of hT jcls_2 jw_inst_2
    · exact kn_of hT jcls_3 jw_inst_3
    · exact kn_of hT jcls_4 jw_inst_4
    · exact kn_of hT jcls_5 jw_inst_5
    · exact kn_of hT jcls_6 jw_inst_6
    · exact kn_of hT jcls_7 jw_inst_7
    · exact kn_of hT jcls_8 jw_inst_8
    · exact kn_of hT jcls_9 jw_inst_9
    · exact kn_of hT jcls_10 jw_inst_10
    · exact kn_of hT jcls_11 jw_inst_11
  · exact ⟨((0 : Nat), fun _ => 0), fun q hq => by
      have hl := (List.getElem?_eq_some_iff.mp hq).1
      exact absurd hl (by show ¬ c < 12; exact h)⟩
theorem ar_of {ty : FieldType} {s : State} {args : Array Value} (h : (Cond.arrayClass ty).before args s = true) : ∃ cA : ClassId, ArrOfT s cA ty ∧ s.vm.findClass ("[" ++ ty.toString) = some cA := by
  obtain ⟨c, k, comp, h1, h2, h3⟩ := Cond.arrayClass_spec h
  exact ⟨c, fun N z => ⟨(fun k h => by cases h), k, h2, comp, h3⟩, h1⟩
theorem ao_of {C : String} {s : State} {args : Array Value} (h : (Cond.arrayOver (.object C)).before args s = true) : ∃ cA : ClassId, ArrOfT s cA (.object C) ∧ va_RA s cA (.object C) := by
  obtain ⟨comp, c, k, h1, h2, h3, h4, h5⟩ := Cond.arrayOver_spec h
  exact ⟨c, fun N z => ⟨(fun k h => by cases h), k, h3, comp, h4⟩, k, comp, h3, h4, h1, h5⟩
def TAb : Term := .static "BeesBooks$Hives" "ABOVE" "[I"
def TOw : Term := .static "BeesBooks$Hives" "OWN" "[I"
def TTx : Term := .string "BeesBooks$LawReader" 58
def TVa : Term := .field TTx "java/lang/String" "value" "[B"
theorem at_Ab : ∀ j, j < 8 → Cond.eq (.elem TAb (.int (Int32.ofNat j))) (.int (jAbove j)) ∈ flatC (Jvm.Cond.and given_1 narrow_1) := by decide +kernel
theorem at_Ow : ∀ j, j < 32 → Cond.eq (.elem TOw (.int (Int32.ofNat j))) (.int (jOwn j)) ∈ flatC (Jvm.Cond.and given_1 narrow_1) := by decide +kernel
theorem at_Tx : ∀ j, j < 6 → Cond.eq (.elem TVa (.int (Int32.ofNat j))) (.int (jNames.getD j 0)) ∈ flatC (Jvm.Cond.and given_1 narrow_1) := by decide +kernel
def adS (b a1 a2 a3 : Nat) (k : Nat) : Nat := if k = 0 then b else if k = 1 then a1 else if k = 2 then a2 else a3
theorem jX_start {s : State} {b L : Nat} {xs : Nat → Int32} (hL : L ≤ 3072) (hts : ∀ w ∈ lw_tbl, w.before #[Value.ref b] s = true) (hX : va_X b L xs s s.heap) (hb : b < s.heap.size) (hg : (Jvm.Cond.and given_1 narrow_1).before #[Value.ref b] s = true) : ∃ a1 a2 a3 : Nat, jX (some (some (L, xs))) (adS b a1 a2 a3) (fun q => s.heap.size ≤ q) s s.heap := by
  have hs := flat_of_before _ hg
  have hA : ∀ a : Nat, a < s.heap.size → ¬ (fun q => s.heap.size ≤ q) a := fun a ha h => Nat.not_le_of_lt ha h
  obtain ⟨a1, t1, v1⟩ := va_Tof (tm := TAb) (ty := .int) (N := 8) (f := fun j => .int (jAbove j)) (by decide) (hs (.arrayOf TAb .int) (by decide +kernel)) (va_eqt (hs (.eq (.length TAb) (.int 8)) (by decide +kernel))) (fun j hj => va_eqt (hs _ (at_Ab j hj))) hA
  obtain ⟨a2, t2, v2⟩ := va_Tof (tm := TOw) (ty := .int) (N := 32) (f := fun j => .int (jOwn j)) (by decide) (hs (.arrayOf TOw .int) (by decide +kernel)) (va_eqt (hs (.eq (.length TOw) (.int 32)) (by decide +kernel))) (fun j hj => va_eqt (hs _ (at_Ow j hj))) hA
  obtain ⟨adK, adV, hS, hTx⟩ := vk_Sof (args := #[Value.ref b]) (s := s) (N := 1) (tm := fun _ => TTx) (len := [6]) (byt := [jNames]) (A := fun q => s.heap.size ≤ q) (fun i hi => by rw [show i = 0 by omega]; decide) (fun i hi => hs (.exactly TTx "java/lang/String") (by decide +kernel)) (fun i hi => hs (.eq (.field TTx "java/lang/String" "coder" "B") (.int 0)) (by decide +kernel)) (fun i hi => hs (.arrayOf TVa .byte) (by decide +kernel)) (fun i hi => by rw [show i = 0 by omega]; exact hs (.eq (.length TVa) (.int 6)) (by decide +kernel)) (fun i hi j hj => by rw [show i = 0 by omega] at hj ⊢; exact hs _ (at_Tx j hj)) (fun i j hi hj hn => absurd (show i = j by omega) hn) hA
  have hini : (Cond.initialized RX2).before #[Value.ref b] s = true := hts _ (List.mem_of_getElem? (i := 86) (by decide +kernel))
  refine ⟨a1, a2, adK 0, va_AO.of (hts _ (List.mem_of_getElem? (i := 366) (by decide +kernel))), fun w hw => ?_, va_Zref (hts (.laysStatic RX2 "ABOVE" "[I") (List.mem_of_getElem? (i := 1116) (by decide +kernel))) hini t1 hA, va_Zref (hts (.laysStatic RX2 "OWN" "[I") (List.mem_of_getElem? (i := 1114) (by decide +kernel))) hini t2 hA, fun k N f hk => ?_, vk_R.of (hts (.stringRef RX4 58 "dnoskr") (List.mem_of_getElem? (i := 578) (by decide +kernel))) (hTx 0 (by decide)), va_Zof (hts (.laysStatic "java/lang/String" "COMPACT_STRINGS" "Z") (List.mem_of_getElem? (i := 592) (by decide +kernel))) (hts (.initialized "java/lang/String") (List.mem_of_getElem? (i := 90) (by decide +kernel))) (va_eqt (hs (.eq (.static "java/lang/String" "COMPACT_STRINGS" "Z") (.int 1)) (by decide +kernel))) hA, adV, ?_⟩
  · simp only [jNest, List.mem_cons, List.not_mem_nil, or_false] at hw
    rcases hw with rfl | rfl | rfl | rfl | rfl | rfl
    · exact va_Nw.of rfl (hts _ (List.mem_of_getElem? (i := 174) (by decide +kernel)))
    · exact va_Nw.of rfl (hts _ (List.mem_of_getElem? (i := 202) (by decide +kernel)))
    · exact va_Nw.of rfl (hts _ (List.mem_of_getElem? (i := 320) (by decide +kernel)))
    · exact va_Nw.of rfl (hts _ (List.mem_of_getElem? (i := 345) (by decide +kernel)))
    · exact va_Nw.of rfl (hts _ (List.mem_of_getElem? (i := 368) (by decide +kernel)))
    · exact va_Nw.of rfl (hts _ (List.mem_of_getElem? (i := 785) (by decide +kernel)))
  · match k, hk with
    | 0, hk =>
      have hk : some (L, xs) = some (N, f) := hk
      cases hk
      obtain ⟨scr, g1, g2, g3, g4, g5⟩ := hX
      exact ⟨scr, g1, g2, g3, by omega, by rw [g4], g5, hA b hb⟩
    | 1, hk =>
      have hk : some (8, jAbove) = some (N, f) := hk
      cases hk
      exact v1
    | 2, hk =>
      have hk : some (32, jOwn) = some (N, f) := hk
      cases hk
      exact v2
    | n + 3, hk => exact absurd hk (by simp [jRom])
  · refine ⟨fun i hi => ?_, fun i j hi hj _ => by omega⟩
    have := hS.1 i hi
    rw [show i = 0 by omega] at this ⊢
    exact this
theorem jK_start {s : State} {args : Array Value} (hts : ∀ w ∈ lw_tbl, w.before args s = true) : ∃ (D : va_G) (dA : Nat → ClassId), va_K D vwCl (jtys dA) s := by
  have hT : ∀ w ∈ jT, w.before args s = true := fun w hw => hts w (List.mem_filter.mp hw).1
  obtain ⟨d, hd⟩ := Classical.axiomOfChoice (kn_all hT)
  obtain ⟨c0, p0, q0⟩ := ar_of (ty := .int) (hts _ (List.mem_of_getElem? (i := 134) (by decide +kernel)))
  obtain ⟨c1, p1, q1⟩ := ar_of (ty := .long) (hts _ (List.mem_of_getElem? (i := 388) (by decide +kernel)))
  obtain ⟨c2, p2, q2⟩ := ar_of (ty := .boolean) (hts _ (List.mem_of_getElem? (i := 1388) (by decide +kernel)))
  obtain ⟨c3, p3, q3⟩ := ao_of (C := RX8) (hts _ (List.mem_of_getElem? (i := 366) (by decide +kernel)))
  refine ⟨(fun c => (d c).1, fun c => (d c).2), adS c0 c1 c2 c3, fun c q hq => hd c q hq, fun k q hq => ?_⟩
  match k, hq with
  | 0, hq => cases hq; exact ⟨p0, q0⟩
  | 1, hq => cases hq; exact ⟨p1, q1⟩
  | 2, hq => cases hq; exact ⟨p2, q2⟩
  | 3, hq => cases hq; exact ⟨p3, q3⟩
  | n + 4, hq => cases hq
theorem whole_start {p : Program} {e : Env} {s : State} {m : MethodId} {below : List Frame} {meth : Method} {c : Code} (l : Launch) (hflags : l.flags = flags0) {b L : Nat} {xs : Nat → Int32} (hL : L ≤ 3072) (C0 : lw_At p s m meth c b L xs) : W p l e room_1 s m #[Value.ref b] below meth c s.heap [] 0 0 (lw_Z below #[Value.ref b] s) (entryFrame m ([Value.ref b] : List Value).toArray 4) := by
  obtain ⟨hx, hb, hr, hml, hown, hts, hX, hbl, hlocks, hg⟩ := C0
  obtain ⟨a1, a2, a3, hJ⟩ := jX_start hL hts hX hbl hg
  obtain ⟨D, dA, hK⟩ := jK_start hts
  have hT : ∀ w ∈ jT, w.before #[Value.ref b] s = true := fun w hw => hts w (List.mem_filter.mp hw).1
  rw [lg_entry_eq]
  have hl := jhas_entry (ad := adS b a1 a2 a3) (As := [.ref 0]) (nL := 4) (by decide)
  have hO : jok ((4, fun _ => jAbs) : jW) := ⟨Nat.le_refl 4, fun _ _ => rfl, fun _ => jAbs_re _⟩
  have e0 : jl dA (adS b a1 a2 a3) ((4, fun _ => jAbs) : jW) = [] := rfl
  have hH : jH D dA (adS b a1 a2 a3) (fun q => s.heap.size ≤ q) ((4, fun _ => jAbs) : jW) s.heap := by
    refine ⟨hO, ?_, ?_, ?_⟩
    · intro k q hq; rw [e0] at hq; cases hq
    · intro i j p q hp; rw [e0] at hp; cases hp
    · intro k q hq; rw [e0] at hq; cases hq
  refine law_whole (Ln := L) (xs := xs) (post := fun r _ => r = some (.int 1)) hL (fun _ => rfl) p l e room_1 s m #[Value.ref b] below meth c D dA (fun q => s.heap.size ≤ q) ⟨hx, hb, hml, hown, hT, fun q h => h, hK, by decide, by decide⟩ (fun h => by cases h) (lw_Z below #[Value.ref b] s) (adS b a1 a2 a3) s.heap [] _ 0 0 ⟨hJ, hH, va_S.rf, hl, fun v hv => absurd hv List.not_mem_nil, fun v hv => ?_⟩ (by decide) (by decide) (fun r w' ad' H' locs' ls' cells' slots' pc' hp hR _ _ _ hS' h1 h2 => ?_)
  · simp only [List.mem_cons, List.not_mem_nil, or_false, Option.some.injEq, reduceCtorEq] at hv
    rw [hv]
    exact (by decide : 0 < 4)
  · subst hp
    exact W.widen (by omega) (by omega) (va_forget (fun q hq => hS'.2.2 q hq) (lw_ret hx hb hr hlocks hR.2))
