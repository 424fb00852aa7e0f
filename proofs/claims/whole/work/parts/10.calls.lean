/-! rows: calls -/
section JCALLS
variable {scr : jScr} {own : String} {cc : ByteArray} {nL : Nat} {ret : Option FieldType} {d bc bs pc : Nat} {lv : List (Option Value)} {st : List Value} {w : jW} {post : Option Value → jW → Prop}
variable {p : Program} {l : Launch} {e0 : Env} {R : Room} {s : State} {m : MethodId} {args : Array Value} {below : List Frame} {meth : Method} {c : Code} {D : va_G} {dA : Nat → ClassId} {A : Nat → Prop} {Q : State → Prop} {ad : Nat → Nat} {H : Heap} {locs : List Loc} {ls : Array Slot} {cells slots mc ms : Nat}
theorem jA_sub (hH : jH D dA ad A w H) (hS : va_S A s.heap H locs) (hA : ∀ q, s.heap.size ≤ q → A q) : ∀ q, va_A (jl dA ad w) H.size q → A q := by
  intro q h
  rcases h with ⟨k, e, h⟩ | h
  · exact hH.2.2.2 k _ h
  · exact hA q (Nat.le_trans hS.1 h)
def jnum : Option Value → Prop
  | none => True
  | some (.int _) => True
  | some (.long _) => True
  | _ => False
theorem jnum_toList {r : Option Value} (h : jnum r) (ad : Nat → Nat) (rest : List Value) : r.toList ++ rest.map (jv ad) = (r.toList ++ rest).map (jv ad) := by
  match r, h with
  | none, _ => rfl
  | some (.int v), _ => rfl
  | some (.long v), _ => rfl
theorem jnum_val {r : Option Value} (h : jnum r) {n : Nat} {rest : List Value} (hr : ∀ v ∈ rest, jrv n v) : ∀ v ∈ r.toList ++ rest, jrv n v := by
  match r, h with
  | none, _ => exact hr
  | some (.int v), _ => exact jval_cons trivial hr
  | some (.long v), _ => exact jval_cons trivial hr
theorem j_cont {rest st0 : List Value} {r : Option Value} {w' : jW} {ad' : Nat → Nat} {t : State} {H1 : Heap} {locs1 : List Loc} {post' : Option Value → jW → Prop} {A1 : Nat → Prop} (hnum : jnum r)
    (hC : jC own cc nL d p R s m args c D dA A) (hI : scr = some none → meth.name = "<init>") (hS : jS scr nL s D dA A w lv st0 ad H locs ls) (hst : ∀ v ∈ rest, jrv w.1 v) (hc : cells + (mc + bc) ≤ R.cells) (hs : slots + (ms + bs) ≤ R.slots)
    (hret : ∀ (r : Option Value) (w' : jW) (ad' : Nat → Nat) (H' : Heap) (locs' : List Loc) (ls' : Array Slot) (cells' slots' pc' : Nat), post r w' → jRet cc ret pc' r → w.1 ≤ w'.1 → (∀ k, k < w.1 → ad' k = ad k) → jH D dA ad' A w' H' → va_S A s.heap H' locs' → cells' ≤ cells + (mc + bc) → slots' ≤ slots + (ms + bs) →
      W p l e0 R s m args below meth c H' locs' cells' slots' Q (F0 m pc' ls' r.toList))
    (hA1 : ∀ q, A1 q → A q) (hp : post' r w') (hB : jB D dA ad w.1 A1 (w', ad') t) (ht : t.heap = H1) (hS1 : va_S A s.heap H1 locs1)
    (kk : ∀ r w', post' r w' → jWP scr own cc nL ret d bc bs (pc + 3) lv (r.toList ++ rest) w' post) : W p l e0 R s m args below meth c H1 locs1 (cells + mc) (slots + ms) Q (F0 m (pc + 3) ls (r.toList ++ rest.map (jv ad))) := by
  obtain ⟨x1, x2, x3, x4, x5, x6⟩ := id hS
  obtain ⟨hle, hag, hH', -⟩ := hB
  have hle : w.1 ≤ w'.1 := hle
  have hag : ∀ k, k < w.1 → ad' k = ad k := hag
  rw [ht] at hH'
  rw [show rest.map (jv ad) = rest.map (jv ad') from (jvs_eq hag hst).symm, jnum_toList hnum]
  refine kk r w' hp p l e0 R s m args below meth c D dA A hC hI Q ad' H1 locs1 ls (cells + mc) (slots + ms) ⟨jX_congr (fun k hk => hag k (Nat.lt_of_lt_of_le hk x2.1.1)) x1, ⟨hH'.1, hH'.2.1, hH'.2.2.weaken (fun _ _ _ h => hA1 _ h)⟩, hS1, jhas_congr hag x6 x4, jnum_val hnum (fun v hv => jrv_mono hle (hst v hv)), fun v hv => jrv_mono hle (x6 v hv)⟩ (by omega) (by omega) ?_
  intro r w2 ad2 H' locs' ls' cells' slots' pc'' g1 g2 g3 g4 g5 g6 g7 g8
  exact hret r w2 ad2 H' locs' ls' cells' slots' pc'' g1 g2 (Nat.le_trans hle g3) (fun k hk => (g4 k (Nat.lt_of_lt_of_le hk hle)).trans (hag k hk)) g5 g6 (by omega) (by omega)
theorem j_after {rest st0 : List Value} {a : Array Value} {stc : List Value} {post' : Option Value → jW → Prop} {rety : Option FieldType}
    (hC : jC own cc nL d p R s m args c D dA A) (hI : scr = some none → meth.name = "<init>") (hS : jS scr nL s D dA A w lv st0 ad H locs ls) (hst : ∀ v ∈ rest, jrv w.1 v) (hc : cells + (mc + bc) ≤ R.cells) (hs : slots + (ms + bs) ≤ R.slots)
    (hret : ∀ (r : Option Value) (w' : jW) (ad' : Nat → Nat) (H' : Heap) (locs' : List Loc) (ls' : Array Slot) (cells' slots' pc' : Nat), post r w' → jRet cc ret pc' r → w.1 ≤ w'.1 → (∀ k, k < w.1 → ad' k = ad k) → jH D dA ad' A w' H' → va_S A s.heap H' locs' → cells' ≤ cells + (mc + bc) → slots' ≤ slots + (ms + bs) →
      W p l e0 R s m args below meth c H' locs' cells' slots' Q (F0 m pc' ls' r.toList))
    (hr : va_Run p l e0 R s m args below meth c H locs cells slots mc ms (F0 m pc ls stc) (rest.map (jv ad)) (jQ rety post' (jB D dA ad w.1 (va_A (jl dA ad w) H.size)) (va_A (jl dA ad w) H.size) a) (va_A (jl dA ad w) H.size))
    (kk : ∀ r w', post' r w' → jWP scr own cc nL ret d bc bs (pc + 3) lv (r.toList ++ rest) w' post) : W p l e0 R s m args below meth c H locs cells slots Q (F0 m pc ls stc) := by
  have hA1 := jA_sub hS.2.1 hS.2.2.1 hC.2.2.2.2.2.1
  have hin : ∀ (z : Option FieldType), z = rety → W p l e0 R s m args below meth c H locs cells slots Q (F0 m pc ls stc) := by
    intro z hz
    match z with
    | none =>
      subst hz
      exact va_callv (a := a) hr hS.2.2.1 (fun q _ h => hA1 q h) hA1 (fun u t H1 locs1 ht _ hp hB _ _ hS1 => j_cont (r := none) trivial hC hI hS hst hc hs hret hA1 hp hB ht hS1 kk)
    | some .long =>
      subst hz
      exact va_calll (a := a) hr hS.2.2.1 (fun q _ h => hA1 q h) hA1 (fun r u t H1 locs1 ht _ hp hB _ _ hS1 => j_cont (r := some (.long r)) trivial hC hI hS hst hc hs hret hA1 hp hB ht hS1 kk)
    | some .int => 
      subst hz
      exact va_calli (a := a) hr hS.2.2.1 (fun q _ h => hA1 q h) hA1 (fun r u t H1 locs1 ht _ hp hB _ _ hS1 => j_cont (r := some (.int r)) trivial hC hI hS hst hc hs hret hA1 hp hB ht hS1 kk)
    | some .boolean => 
      subst hz
      exact va_calli (a := a) hr hS.2.2.1 (fun q _ h => hA1 q h) hA1 (fun r u t H1 locs1 ht _ hp hB _ _ hS1 => j_cont (r := some (.int r)) trivial hC hI hS hst hc hs hret hA1 hp hB ht hS1 kk)
    | some .byte => 
      subst hz
      exact va_calli (a := a) hr hS.2.2.1 (fun q _ h => hA1 q h) hA1 (fun r u t H1 locs1 ht _ hp hB _ _ hS1 => j_cont (r := some (.int r)) trivial hC hI hS hst hc hs hret hA1 hp hB ht hS1 kk)
    | some .short => 
      subst hz
      exact va_calli (a := a) hr hS.2.2.1 (fun q _ h => hA1 q h) hA1 (fun r u t H1 locs1 ht _ hp hB _ _ hS1 => j_cont (r := some (.int r)) trivial hC hI hS hst hc hs hret hA1 hp hB ht hS1 kk)
    | some .char => 
      subst hz
      exact va_calli (a := a) hr hS.2.2.1 (fun q _ h => hA1 q h) hA1 (fun r u t H1 locs1 ht _ hp hB _ _ hS1 => j_cont (r := some (.int r)) trivial hC hI hS hst hc hs hret hA1 hp hB ht hS1 kk)
    | some .float => 
      subst hz
      exact va_calli (a := a) hr hS.2.2.1 (fun q _ h => hA1 q h) hA1 (fun r u t H1 locs1 ht _ hp hB _ _ hS1 => j_cont (r := some (.int r)) trivial hC hI hS hst hc hs hret hA1 hp hB ht hS1 kk)
    | some .double => 
      subst hz
      exact va_calli (a := a) hr hS.2.2.1 (fun q _ h => hA1 q h) hA1 (fun r u t H1 locs1 ht _ hp hB _ _ hS1 => j_cont (r := some (.int r)) trivial hC hI hS hst hc hs hret hA1 hp hB ht hS1 kk)
    | some (.object C) => 
      subst hz
      exact va_calli (a := a) hr hS.2.2.1 (fun q _ h => hA1 q h) hA1 (fun r u t H1 locs1 ht _ hp hB _ _ hS1 => j_cont (r := some (.int r)) trivial hC hI hS hst hc hs hret hA1 hp hB ht hS1 kk)
    | some (.array C) => 
      subst hz
      exact va_calli (a := a) hr hS.2.2.1 (fun q _ h => hA1 q h) hA1 (fun r u t H1 locs1 ht _ hp hB _ _ hS1 => j_cont (r := some (.int r)) trivial hC hI hS hst hc hs hret hA1 hp hB ht hS1 kk)
  exact hin rety rfl
theorem jPc_blind {sz : Nat} {As : List Value} : FrameBlind (jPc D dA ad sz As w) := by
  intro a U g mk h
  obtain ⟨h1, h2, h3, h4, h5, h6⟩ := h
  exact ⟨h1, h2, jX_blind h3, h4, va_K.moved (u := U) (U := U.calling g mk a) (Vm.Alike.refl U.vm) h5, h6⟩
theorem jPc_into {st0 As : List Value} (hC : jC own cc nL d p R s m args c D dA A) (hS : jS scr nL s D dA A w lv st0 ad H locs ls) (hAs : ∀ v ∈ As, jrv w.1 v) : ∀ U : State, U.heap = H → s.WarmedH U.vm → jPc D dA ad H.size As w (As.map (jv ad)).toArray U := by
  intro U hU hW
  obtain ⟨x1, x2, x3, x4, x5, x6⟩ := id hS
  have hA1 := jA_sub hS.2.1 hS.2.2.1 hC.2.2.2.2.2.1
  exact ⟨rfl, by rw [hU], jX_call hW x3 hA1 hU x1, by rw [hU]; exact ⟨x2.1, x2.2.1, x2.2.2.weaken (fun _ _ _ _ => trivial)⟩, va_K.moved hW.alike hC.2.2.2.2.2.2.1, hAs⟩
def jcatsum (l : List Value) : Nat := (l.map fun v => v.category).sum
theorem jcatsum_jv (ad : Nat → Nat) (l : List Value) : ((l.map (jv ad)).map fun v => v.category).sum = jcatsum l := by
  unfold jcatsum
  rw [List.map_map]
  refine congrArg List.sum (List.map_congr_left fun v _ => jcat_jv ad v)
def jplain (y : MethodName) (n : Nat) : Prop := y.cls ≠ "java/lang/invoke/MethodHandle" ∧ y.cls ≠ "java/lang/invoke/VarHandle" ∧ (parseMethodDescriptor y.desc).map (fun d => d.parameters.length) = some n
def jLnkV (own : String) (idx : Nat) (y : MethodName) (bytes : ByteArray) (k : Nat) (rety : Option FieldType) (n : Nat) : Prop := (∀ w ∈ ([.methodLink own idx y, .instanceMethod y, .selects y.cls y y, .initialized y.cls, .code y bytes k rety] : List Cond), w ∈ jT) ∧ jplain y n ∧ k ≤ 41
def jLnkS (own : String) (idx : Nat) (y : MethodName) (bytes : ByteArray) (k : Nat) (rety : Option FieldType) (n : Nat) : Prop := (∀ w ∈ ([.methodLink own idx y, .static y, .initialized y.cls, .code y bytes k rety] : List Cond), w ∈ jT) ∧ jplain y n ∧ k ≤ 41
def jLnkI (own : String) (idx : Nat) (y : MethodName) (bytes : ByteArray) (k n : Nat) : Prop := (∀ w ∈ ([.methodLink own idx y, .instanceMethod y, .initialized y.cls, .code y bytes k none] : List Cond), w ∈ jT) ∧ jplain y n ∧ k ≤ 41 ∧ y.name = "<init>"
def jLnkSN (own : String) (idx : Nat) (y : MethodName) (bytes : ByteArray) (k : Nat) (rety : Option FieldType) (n : Nat) : Prop := (∀ w ∈ ([.static y, .initialized y.cls, .code y bytes k rety] : List Cond), w ∈ jT) ∧ jplain y n ∧ k ≤ 41 ∧ Cond.methodLinkNest own idx y RX10 ∈ jNest
def jLnkIN (own : String) (idx : Nat) (y : MethodName) (bytes : ByteArray) (k n : Nat) : Prop := (∀ w ∈ ([.instanceMethod y, .initialized y.cls, .code y bytes k none] : List Cond), w ∈ jT) ∧ jplain y n ∧ k ≤ 41 ∧ y.name = "<init>" ∧ Cond.methodLinkNest own idx y RX10 ∈ jNest
theorem jcode_good {y : MethodName} {bytes : ByteArray} {k : Nat} {rety : Option FieldType} (h : Cond.code y bytes k rety ∈ jT) : GoodIn jT (Cond.code y bytes k rety :: jT) := jT_good (fun w hw => (List.mem_cons.mp hw).elim (fun e => e ▸ h) id)
theorem jroom {d k : Nat} (hR1 : d + 1 ≤ R.frames) (hR2 : 60 * (d + 1) ≤ R.locals) (hk : k ≤ 41) : d + 1 ≤ R.frames ∧ 8 + (k + 11) + 60 * d ≤ R.locals := ⟨hR1, by omega⟩
theorem j_invV {idx b ci k n : Nat} {y : MethodName} {bytes : ByteArray} {rety : Option FieldType} {As rest : List Value} {fs : List Value} {C : String} {T : u_T} {N : Nat} {post' : Option Value → jW → Prop} {w : jW} {post : Option Value → jW → Prop} {st : List Value} (hd : decode cc pc = .ok (.invokevirtual idx, 3)) (hl : jLnkV own idx y bytes k rety n) (hst : st = As.reverse ++ .ref b :: rest) (hn : As.length = n) (hw : w.2 b = .inr (ci, fs)) (hcl : vwCl[ci]? = some (y.cls, T, N)) (hcat : jcatsum rest ≤ 8)
    (hM : jMet d y bytes k rety mc ms (.ref b :: As) w post') (kk : ∀ r w', post' r w' → jWP scr own cc nL ret (d + 1) bc bs (pc + 3) lv (r.toList ++ rest) w' post) : jWP scr own cc nL ret (d + 1) (mc + bc) (ms + bs) pc lv st w post := by
  subst hst
  obtain ⟨hws, hpl, hk⟩ := hl
  simp only [List.forall_mem_cons] at hws
  obtain ⟨h1, h2, h3, h4, h5, -⟩ := hws
  intro p l e R s m args below meth c D dA A hC hI Q ad H locs ls cells slots hS hc hs hret
  obtain ⟨x1, x2, x3, x4, x5, x6⟩ := id hS
  have hb : jrv w.1 (.ref b) := x5 _ (List.mem_append_right _ List.mem_cons_self)
  have hrest : ∀ v ∈ rest, jrv w.1 v := fun v hv => x5 v (List.mem_append_right _ (List.mem_cons_of_mem _ hv))
  have hAs : ∀ v ∈ (.ref b :: As : List Value), jrv w.1 v := jval_cons hb (fun v hv => x5 v (List.mem_append_left _ (List.mem_reverse.mpr hv)))
  have hg := jl_get (dA := dA) (ad := ad) (jok_in x2.1 (a := b) (by rw [hw]; exact jobj_ne hcl))
  rw [hw] at hg
  have hstk : (As.reverse ++ .ref b :: rest).map (jv ad) = (As.map (jv ad)).reverse ++ .ref (ad b) :: rest.map (jv ad) := by simp [jv]
  rw [hstk]
  refine j_after (st0 := As.reverse ++ .ref b :: rest) hC hI hS hrest hc hs hret (va_runV (As := As.map (jv ad)) (C := y.cls) (b := ad b) (Ts := jT) ⟨hC.1, hC.2.1, hC.2.2.1, hC.2.2.2.1, hC.2.2.2.2.1⟩ (hM l D dA ad H.size) (cwV n hC.2.2.2.2.1 (fun w hw => ?_) rfl rfl rfl ⟨rfl, hpl⟩ (jroom hC.2.2.2.2.2.2.2.1 hC.2.2.2.2.2.2.2.2 hk)) ⟨jPc_blind, va_recv hC.2.2.2.2.2.2.1 x2.2.1 hcl hg, jPc_into hC hS hAs⟩ rfl (by simpa using hn) x4.1 rfl (lv_room (by rw [jcatsum_jv]; exact hcat)) hd ⟨by omega, by omega⟩) kk
  rcases List.mem_append.mp hw with hw | hw
  · simp only [List.mem_cons, List.not_mem_nil, or_false] at hw
    rcases hw with rfl | rfl | rfl | rfl
    · exact jT_good (ws := [.methodLink own idx y]) (fun w hw => by simp at hw; rw [hw]; exact h1) _ List.mem_cons_self
    · exact jT_good (ws := [.instanceMethod y]) (fun w hw => by simp at hw; rw [hw]; exact h2) _ List.mem_cons_self
    · exact jT_good (ws := [.selects y.cls y y]) (fun w hw => by simp at hw; rw [hw]; exact h3) _ List.mem_cons_self
    · exact jT_good (ws := [.initialized y.cls]) (fun w hw => by simp at hw; rw [hw]; exact h4) _ List.mem_cons_self
  · exact jcode_good h5 w hw
theorem j_invS {idx k n : Nat} {y : MethodName} {bytes : ByteArray} {rety : Option FieldType} {As rest : List Value} {post' : Option Value → jW → Prop} {w : jW} {post : Option Value → jW → Prop} {st : List Value} (hd : decode cc pc = .ok (.invokestatic idx, 3)) (hl : jLnkS own idx y bytes k rety n) (hst : st = As.reverse ++ rest) (hn : As.length = n) (hcat : jcatsum rest ≤ 8)
    (hM : jMet d y bytes k rety mc ms As w post') (kk : ∀ r w', post' r w' → jWP scr own cc nL ret (d + 1) bc bs (pc + 3) lv (r.toList ++ rest) w' post) : jWP scr own cc nL ret (d + 1) (mc + bc) (ms + bs) pc lv st w post := by
  subst hst
  obtain ⟨hws, hpl, hk⟩ := hl
  simp only [List.forall_mem_cons] at hws
  obtain ⟨h1, h2, h3, h5, -⟩ := hws
  intro p l e R s m args below meth c D dA A hC hI Q ad H locs ls cells slots hS hc hs hret
  obtain ⟨x1, x2, x3, x4, x5, x6⟩ := id hS
  have hrest : ∀ v ∈ rest, jrv w.1 v := fun v hv => x5 v (List.mem_append_right _ hv)
  have hAs : ∀ v ∈ As, jrv w.1 v := fun v hv => x5 v (List.mem_append_left _ (List.mem_reverse.mpr hv))
  have hstk : (As.reverse ++ rest).map (jv ad) = (As.map (jv ad)).reverse ++ rest.map (jv ad) := by simp
  rw [hstk]
  refine j_after (st0 := As.reverse ++ rest) hC hI hS hrest hc hs hret (va_runS (As := As.map (jv ad)) (Ts := jT) ⟨hC.1, hC.2.1, hC.2.2.1, hC.2.2.2.1, hC.2.2.2.2.1⟩ (hM l D dA ad H.size) ⟨callB_of n hC.2.2.2.2.1 (jcode_good h5) rfl rfl rfl (hC.2.2.2.2.1 _ h3) (hC.2.2.2.2.1 _ h1) hpl (jroom hC.2.2.2.2.2.2.2.1 hC.2.2.2.2.2.2.2.2 hk), hC.2.2.2.2.1 _ h2⟩ ⟨jPc_blind, jPc_into hC hS hAs⟩ rfl (by simpa using hn) x4.1 rfl (lv_room (by rw [jcatsum_jv]; exact hcat)) hd ⟨by omega, by omega⟩) kk
theorem j_invI {idx b k n : Nat} {y : MethodName} {bytes : ByteArray} {As rest : List Value} {post' : Option Value → jW → Prop} {w : jW} {post : Option Value → jW → Prop} {st : List Value} (hd : decode cc pc = .ok (.invokespecial idx, 3)) (hl : jLnkI own idx y bytes k n) (hst : st = As.reverse ++ .ref b :: rest) (hn : As.length = n) (hcat : jcatsum rest ≤ 8)
    (hM : jMet d y bytes k none mc ms (.ref b :: As) w post') (kk : ∀ r w', post' r w' → jWP scr own cc nL ret (d + 1) bc bs (pc + 3) lv (r.toList ++ rest) w' post) : jWP scr own cc nL ret (d + 1) (mc + bc) (ms + bs) pc lv st w post := by
  subst hst
  obtain ⟨hws, hpl, hk, hy⟩ := hl
  simp only [List.forall_mem_cons] at hws
  obtain ⟨h1, h2, h3, h5, -⟩ := hws
  intro p l e R s m args below meth c D dA A hC hI Q ad H locs ls cells slots hS hc hs hret
  obtain ⟨x1, x2, x3, x4, x5, x6⟩ := id hS
  have hb : jrv w.1 (.ref b) := x5 _ (List.mem_append_right _ List.mem_cons_self)
  have hrest : ∀ v ∈ rest, jrv w.1 v := fun v hv => x5 v (List.mem_append_right _ (List.mem_cons_of_mem _ hv))
  have hAs : ∀ v ∈ (.ref b :: As : List Value), jrv w.1 v := jval_cons hb (fun v hv => x5 v (List.mem_append_left _ (List.mem_reverse.mpr hv)))
  have hstk : (As.reverse ++ .ref b :: rest).map (jv ad) = (As.map (jv ad)).reverse ++ .ref (ad b) :: rest.map (jv ad) := by simp [jv]
  rw [hstk]
  refine j_after (st0 := As.reverse ++ .ref b :: rest) hC hI hS hrest hc hs hret (va_runI (As := As.map (jv ad)) (b := ad b) (Ts := jT) ⟨hC.1, hC.2.1, hC.2.2.1, hC.2.2.2.1, hC.2.2.2.2.1⟩ (hM l D dA ad H.size) ⟨callB_of n hC.2.2.2.2.1 (jcode_good h5) rfl rfl rfl (hC.2.2.2.2.1 _ h3) (hC.2.2.2.2.1 _ h1) hpl (jroom hC.2.2.2.2.2.2.2.1 hC.2.2.2.2.2.2.2.2 hk), hy, hC.2.2.2.2.1 _ h2⟩ ⟨jPc_blind, jPc_into hC hS hAs⟩ rfl (by simpa using hn) x4.1 rfl (lv_room (by rw [jcatsum_jv]; exact hcat)) hd ⟨by omega, by omega⟩) kk
theorem j_invSN {idx k n : Nat} {y : MethodName} {bytes : ByteArray} {rety : Option FieldType} {As rest : List Value} {post' : Option Value → jW → Prop} {w : jW} {post : Option Value → jW → Prop} {st : List Value} (hd : decode cc pc = .ok (.invokestatic idx, 3)) (hl : jLnkSN own idx y bytes k rety n) (hst : st = As.reverse ++ rest) (hn : As.length = n) (hcat : jcatsum rest ≤ 8)
    (hM : jMet d y bytes k rety mc ms As w post') (kk : ∀ r w', post' r w' → jWP scr own cc nL ret (d + 1) bc bs (pc + 3) lv (r.toList ++ rest) w' post) : jWP scr own cc nL ret (d + 1) (mc + bc) (ms + bs) pc lv st w post := by
  subst hst
  obtain ⟨hws, hpl, hk, hnest⟩ := hl
  simp only [List.forall_mem_cons] at hws
  obtain ⟨h2, h3, h5, -⟩ := hws
  intro p l e R s m args below meth c D dA A hC hI Q ad H locs ls cells slots hS hc hs hret
  obtain ⟨x1, x2, x3, x4, x5, x6⟩ := id hS
  have hrest : ∀ v ∈ rest, jrv w.1 v := fun v hv => x5 v (List.mem_append_right _ hv)
  have hAs : ∀ v ∈ As, jrv w.1 v := fun v hv => x5 v (List.mem_append_left _ (List.mem_reverse.mpr hv))
  have hstk : (As.reverse ++ rest).map (jv ad) = (As.map (jv ad)).reverse ++ rest.map (jv ad) := by simp
  rw [hstk]
  refine j_after (st0 := As.reverse ++ rest) hC hI hS hrest hc hs hret (va_runSN (As := As.map (jv ad)) (Ts := jT) (host := RX10) ⟨hC.1, hC.2.1, hC.2.2.1, hC.2.2.2.1, hC.2.2.2.2.1⟩ (hM l D dA ad H.size) ⟨va_cnB n hC.2.2.2.2.1 (jcode_good h5) rfl rfl rfl (x1.2.1 _ hnest) (hC.2.2.2.2.1 _ h3) hpl (jroom hC.2.2.2.2.2.2.2.1 hC.2.2.2.2.2.2.2.2 hk), hC.2.2.2.2.1 _ h2, trivial⟩ ⟨jPc_blind, jPc_into hC hS hAs⟩ rfl (by simpa using hn) x4.1 rfl (lv_room (by rw [jcatsum_jv]; exact hcat)) hd ⟨by omega, by omega⟩) kk
theorem j_invIN {idx b k n : Nat} {y : MethodName} {bytes : ByteArray} {As rest : List Value} {post' : Option Value → jW → Prop} {w : jW} {post : Option Value → jW → Prop} {st : List Value} (hd : decode cc pc = .ok (.invokespecial idx, 3)) (hl : jLnkIN own idx y bytes k n) (hst : st = As.reverse ++ .ref b :: rest) (hn : As.length = n) (hcat : jcatsum rest ≤ 8)
    (hM : jMet d y bytes k none mc ms (.ref b :: As) w post') (kk : ∀ r w', post' r w' → jWP scr own cc nL ret (d + 1) bc bs (pc + 3) lv (r.toList ++ rest) w' post) : jWP scr own cc nL ret (d + 1) (mc + bc) (ms + bs) pc lv st w post := by
  subst hst
  obtain ⟨hws, hpl, hk, hy, hnest⟩ := hl
  simp only [List.forall_mem_cons] at hws
  obtain ⟨h2, h3, h5, -⟩ := hws
  intro p l e R s m args below meth c D dA A hC hI Q ad H locs ls cells slots hS hc hs hret
  obtain ⟨x1, x2, x3, x4, x5, x6⟩ := id hS
  have hb : jrv w.1 (.ref b) := x5 _ (List.mem_append_right _ List.mem_cons_self)
  have hrest : ∀ v ∈ rest, jrv w.1 v := fun v hv => x5 v (List.mem_append_right _ (List.mem_cons_of_mem _ hv))
  have hAs : ∀ v ∈ (.ref b :: As : List Value), jrv w.1 v := jval_cons hb (fun v hv => x5 v (List.mem_append_left _ (List.mem_reverse.mpr hv)))
  have hstk : (As.reverse ++ .ref b :: rest).map (jv ad) = (As.map (jv ad)).reverse ++ .ref (ad b) :: rest.map (jv ad) := by simp [jv]
  rw [hstk]
  refine j_after (st0 := As.reverse ++ .ref b :: rest) hC hI hS hrest hc hs hret (va_runIN (As := As.map (jv ad)) (b := ad b) (Ts := jT) (host := RX10) ⟨hC.1, hC.2.1, hC.2.2.1, hC.2.2.2.1, hC.2.2.2.2.1⟩ (hM l D dA ad H.size) ⟨va_cnB n hC.2.2.2.2.1 (jcode_good h5) rfl rfl rfl (x1.2.1 _ hnest) (hC.2.2.2.2.1 _ h3) hpl (jroom hC.2.2.2.2.2.2.2.1 hC.2.2.2.2.2.2.2.2 hk), hy, hC.2.2.2.2.1 _ h2⟩ ⟨jPc_blind, jPc_into hC hS hAs⟩ rfl (by simpa using hn) x4.1 rfl (lv_room (by rw [jcatsum_jv]; exact hcat)) hd ⟨by omega, by omega⟩) kk
end JCALLS
