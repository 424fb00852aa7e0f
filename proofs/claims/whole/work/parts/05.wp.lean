/-! what a method finds around it: the tables' words, the nest mates' links, the tables and the text; the judgement jWP; the contract jMet -/
def jT : List Cond := lw_tbl.filter goodWord
theorem jT_in {w : Cond} (i : Nat) (h : lw_tbl[i]? = some w) (hg : goodWord w = true) : w ∈ jT := List.mem_filter.mpr ⟨List.mem_of_getElem? h, hg⟩
theorem jT_good {ws : List Cond} (h : ∀ w ∈ ws, w ∈ jT) : GoodIn jT ws := fun w hw => ⟨h w hw, good_of_word (List.mem_filter.mp (h w hw)).2⟩
def jNest : List Cond := [.methodLinkNest RX6 11 yX4_init RX10, .methodLinkNest RX6 20 yX3_init RX10, .methodLinkNest RX10 69 yX5_init RX10, .methodLinkNest RX10 76 yX2_init RX10, .methodLinkNest RX10 87 yX8_init RX10, .methodLinkNest RX6 96 yX10_isSum RX10]
def jAbove (j : Nat) : Int32 := [(-1 : Int32), 0, 0, 2, 1, 3, 0, 4].getD j 0
def jOwn (j : Nat) : Int32 := [(1 : Int32), 10, 11, 2, 20, 0, 0, 0, 0, 30, 0, 0, 0, 41, 40, 0, 0, 0, 50, 0, 0, 0, 0, 60, 70, 0, 0, 0, 0, 80, 0, 81].getD j 0
def jNames : List Int32 := [100, 110, 111, 115, 107, 114]
/-- which method it is: some (some the script) the law, some none a constructor, none any other -/
abbrev jScr : Type := Option (Option (Nat × (Nat → Int32)))
def jRom (scr : jScr) (k : Nat) : Option (Nat × (Nat → Int32)) := match k with
  | 0 => scr.join
  | 1 => some (8, jAbove)
  | 2 => some (32, jOwn)
  | _ => none
def jX (scr : jScr) (ad : Nat → Nat) (A : Nat → Prop) (U : State) (H : Heap) : Prop :=
  va_AO RX8 U ∧ (∀ w ∈ jNest, va_Nw w U) ∧ va_Z RX2 "ABOVE" "[I" (.ref (ad 1)) A U H ∧ va_Z RX2 "OWN" "[I" (.ref (ad 2)) A U H ∧
  (∀ (k N : Nat) (f : Nat → Int32), jRom scr k = some (N, f) → va_T .int (ad k) N (fun j => .int (f j)) A U H) ∧
  vk_R RX4 58 "dnoskr" (ad 3) U ∧ va_Z "java/lang/String" "COMPACT_STRINGS" "Z" (.int 1) A U H ∧ ∃ adV : Nat → Nat, vk_S 1 [6] [jNames] (fun _ => ad 3) adV A U H
theorem jRom_lt {scr : jScr} {k : Nat} {x : Nat × (Nat → Int32)} (h : jRom scr k = some x) : k < 3 := by
  match k, h with
  | 0, _ => decide
  | 1, _ => decide
  | 2, _ => decide
  | n + 3, h => exact absurd h (by simp [jRom])
theorem jX_congr {scr : jScr} {ad ad' : Nat → Nat} {A : Nat → Prop} {U : State} {H : Heap} (h : ∀ k, k < 4 → ad' k = ad k) (hX : jX scr ad A U H) : jX scr ad' A U H := by
  obtain ⟨h1, h2, h3, h4, h5, h6, h7, adV, h8⟩ := hX
  refine ⟨h1, h2, by rw [h 1 (by decide)]; exact h3, by rw [h 2 (by decide)]; exact h4, fun k N f hk => ?_, by rw [h 3 (by decide)]; exact h6, h7, adV, by rw [h 3 (by decide)]; exact h8⟩
  rw [h k (Nat.lt_of_lt_of_le (jRom_lt hk) (by decide))]
  exact h5 k N f hk
theorem jX_none {ad : Nat → Nat} {A : Nat → Prop} {U : State} {H : Heap} (h : jX none ad A U H) : jX (some none) ad A U H := by
  obtain ⟨h1, h2, h3, h4, h5, h6⟩ := h
  refine ⟨h1, h2, h3, h4, fun k N f hk => h5 k N f ?_, h6⟩
  match k, hk with
  | 0, hk => exact absurd hk (by simp [jRom])
  | 1, hk => exact hk
  | 2, hk => exact hk
  | n + 3, hk => exact absurd hk (by simp [jRom])
/-- into a call -/
theorem jX_call {scr : jScr} {ad : Nat → Nat} {A B : Nat → Prop} {s U : State} {H : Heap} {locs : List Loc} (hW : s.WarmedH U.vm) (hS : va_S A s.heap H locs) (hAB : ∀ q, B q → A q) (hU : U.heap = H) (hX : jX scr ad A s s.heap) : jX none ad B U U.heap := by
  obtain ⟨h1, h2, h3, h4, h5, h6, h7, adV, h8⟩ := hX
  have hq : ∀ a : Nat, a < s.heap.size → ¬ A a → U.heap[a]? = s.heap[a]? := fun a ha hn => by rw [hU]; exact hS.2.1 a ha hn
  refine ⟨h1.moved hW.alike, fun w hw => ?_, ((va_Z.moved hW.alike h3).kept hq).narrow hAB, ((va_Z.moved hW.alike h4).kept hq).narrow hAB, fun k N f hk => ((va_T.moved hW.alike (h5 k N f ?_)).kept hq).narrow hAB, h6.warm hW, ((va_Z.moved hW.alike h7).kept hq).narrow hAB, adV, ((h8.moved hW.alike).kept hq).narrow hAB⟩
  · have h := h2 w hw
    simp only [jNest, List.mem_cons, List.not_mem_nil, or_false] at hw
    rcases hw with rfl | rfl | rfl | rfl | rfl | rfl <;> exact va_Nw.warmM hW h
  · match k, hk with
    | 0, hk => exact absurd hk (by simp [jRom])
    | 1, hk => exact hk
    | 2, hk => exact hk
    | n + 3, hk => exact absurd hk (by simp [jRom])
/-- the frame doesn't matter -/
theorem jX_blind {scr : jScr} {ad : Nat → Nat} {A : Nat → Prop} {U : State} {H : Heap} {g : JFrame} {mk : MethodId} {a : Array Value} (hX : jX scr ad A U H) : jX scr ad A (U.calling g mk a) H := by
  obtain ⟨h1, h2, h3, h4, h5, h6, h7, adV, h8⟩ := hX
  have hv : U.vm.Alike (U.calling g mk a).vm := Vm.Alike.refl U.vm
  refine ⟨h1.moved hv, fun w hw => ?_, va_Z.moved hv h3, va_Z.moved hv h4, fun k N f hk => va_T.moved hv (h5 k N f hk), vk_R.same rfl h6, va_Z.moved hv h7, adV, h8.moved hv⟩
  have h := h2 w hw
  simp only [jNest, List.mem_cons, List.not_mem_nil, or_false] at hw
  rcases hw with rfl | rfl | rfl | rfl | rfl | rfl <;> exact va_Nw.same rfl rfl h
/-- what stays the same in a method's run -/
def jC (own : String) (cc : ByteArray) (nL d : Nat) (p : Program) (R : Room) (s : State) (m : MethodId) (args : Array Value) (c : Code) (D : va_G) (dA : Nat → ClassId) (A : Nat → Prop) : Prop :=
  p.tables.exec = Jvm.exec ∧ c.code = cc ∧ c.maxLocals = nL ∧ s.vm.findClass own = some m.cls ∧ (∀ w ∈ jT, w.before args s = true) ∧ (∀ q, s.heap.size ≤ q → A q) ∧ va_K D vwCl (jtys dA) s ∧ d ≤ R.frames ∧ 60 * d ≤ R.locals
/-- what changes -/
def jS (scr : jScr) (nL : Nat) (s : State) (D : va_G) (dA : Nat → ClassId) (A : Nat → Prop) (w : jW) (lv : List (Option Value)) (st : List Value) (ad : Nat → Nat) (H : Heap) (locs : List Loc) (ls : Array Slot) : Prop :=
  jX scr ad A s s.heap ∧ jH D dA ad A w H ∧ va_S A s.heap H locs ∧ jhas ad ls nL lv ∧ (∀ v ∈ st, jrv w.1 v) ∧ ∀ v, some v ∈ lv → jrv w.1 v
def jRet (cc : ByteArray) (ret : Option FieldType) (pc : Nat) (r : Option Value) : Prop := match r with
  | none => ret = none ∧ decode cc pc = .ok (.return_, 1)
  | some (.int v) => (∃ ty, ret = some ty ∧ narrow ty (.int v) = .int v ∧ ty ≠ .long) ∧ decode cc pc = .ok (.ireturn, 1)
  | some (.long _) => ret = some .long ∧ decode cc pc = .ok (.lreturn, 1)
  | _ => False
/-- from here the method comes to its end, with 'post' of its answer and of the world -/
def jWP (scr : jScr) (own : String) (cc : ByteArray) (nL : Nat) (ret : Option FieldType) (d bc bs : Nat) (pc : Nat) (lv : List (Option Value)) (st : List Value) (w : jW) (post : Option Value → jW → Prop) : Prop :=
  ∀ (p : Program) (l : Launch) (e : Env) (R : Room) (s : State) (m : MethodId) (args : Array Value) (below : List Frame) (meth : Method) (c : Code) (D : va_G) (dA : Nat → ClassId) (A : Nat → Prop), jC own cc nL d p R s m args c D dA A → (scr = some none → meth.name = "<init>") →
  ∀ (Q : State → Prop) (ad : Nat → Nat) (H : Heap) (locs : List Loc) (ls : Array Slot) (cells slots : Nat), jS scr nL s D dA A w lv st ad H locs ls → cells + bc ≤ R.cells → slots + bs ≤ R.slots →
  (∀ (r : Option Value) (w' : jW) (ad' : Nat → Nat) (H' : Heap) (locs' : List Loc) (ls' : Array Slot) (cells' slots' pc' : Nat), post r w' → jRet cc ret pc' r → w.1 ≤ w'.1 → (∀ k, k < w.1 → ad' k = ad k) → jH D dA ad' A w' H' → va_S A s.heap H' locs' → cells' ≤ cells + bc → slots' ≤ slots + bs →
    W p l e R s m args below meth c H' locs' cells' slots' Q (F0 m pc' ls' r.toList)) →
  W p l e R s m args below meth c H locs cells slots Q (F0 m pc ls (st.map (jv ad)))
def jB (D : va_G) (dA : Nat → ClassId) (ad : Nat → Nat) (n : Nat) (A : Nat → Prop) (u : jW × (Nat → Nat)) (t : State) : Prop := n ≤ u.1.1 ∧ (∀ k, k < n → u.2 k = ad k) ∧ jH D dA u.2 A u.1 t.heap ∧ va_K D vwCl (jtys dA) t
def jQ (ret : Option FieldType) (post : Option Value → jW → Prop) (B : jW × (Nat → Nat) → State → Prop) (A : Nat → Prop) : Array Value → State → Outcome → State → Prop := match ret with
  | none => va_Qv (fun u => post none u.1) B A
  | some .long => va_Ql (fun r u => post (some (.long r)) u.1) B A
  | some _ => va_Qi (fun r u => post (some (.int r)) u.1) B A
def jPc (D : va_G) (dA : Nat → ClassId) (ad : Nat → Nat) (sz : Nat) (As : List Value) (w : jW) : Array Value → State → Prop :=
  va_Pc (As.map (jv ad)) (fun U => U.heap.size = sz ∧ jX none ad (va_A (jl dA ad w) sz) U U.heap ∧ jH D dA ad (fun _ => True) w U.heap ∧ va_K D vwCl (jtys dA) U ∧ ∀ v ∈ As, jrv w.1 v)
def jMet (d : Nat) (y : MethodName) (cc : ByteArray) (nL : Nat) (ret : Option FieldType) (mc ms : Nat) (As : List Value) (w : jW) (post : Option Value → jW → Prop) : Prop :=
  ∀ (l : Launch) (D : va_G) (dA : Nat → ClassId) (ad : Nat → Nat) (sz : Nat), Met l y (Cond.code y cc nL ret :: jT) { frames := d, cells := mc, slots := ms, locals := 60 * d } (jPc D dA ad sz As w) (jQ ret post (jB D dA ad w.1 (va_A (jl dA ad w) sz)) (va_A (jl dA ad w) sz)) mc ms (va_A (jl dA ad w) sz)
-- the entry
def jargs : List Value → List (Option Value)
  | [] => []
  | v :: vs => if v.category = 2 then some v :: none :: jargs vs else some v :: jargs vs
theorem jargs_spec (ad : Nat → Nat) : ∀ (As : List Value) (o i : Nat) (v : Value), (jargs As)[i]? = some (some v) → (o + i, jv ad v) ∈ lv_args o (As.map (jv ad))
  | [], o, i, v, h => by simp [jargs] at h
  | a :: As, o, i, v, h => by
    simp only [jargs] at h
    simp only [List.map_cons, lv_args, jcat_jv]
    by_cases hc : a.category = 2
    · rw [if_pos hc] at h
      rw [if_pos hc]
      match i, h with
      | 0, h =>
        rw [List.getElem?_cons_zero] at h
        cases h
        exact List.mem_cons_self
      | 1, h =>
        rw [List.getElem?_cons_succ, List.getElem?_cons_zero] at h
        cases h
      | i + 2, h =>
        rw [List.getElem?_cons_succ, List.getElem?_cons_succ] at h
        have := jargs_spec ad As (o + 2) i v h
        rw [show o + (i + 2) = o + 2 + i by omega]
        exact List.mem_cons_of_mem _ this
    · rw [if_neg hc] at h
      rw [if_neg hc]
      match i, h with
      | 0, h =>
        rw [List.getElem?_cons_zero] at h
        cases h
        exact List.mem_cons_self
      | i + 1, h =>
        rw [List.getElem?_cons_succ] at h
        have := jargs_spec ad As (o + 1) i v h
        rw [show o + (i + 1) = o + 1 + i by omega]
        exact List.mem_cons_of_mem _ this
theorem jargs_mem {As : List Value} {v : Value} (h : some v ∈ jargs As) : v ∈ As := by
  induction As with
  | nil => simp [jargs] at h
  | cons a As ih =>
    simp only [jargs] at h
    split at h
    · rcases List.mem_cons.mp h with h | h
      · cases h; exact List.mem_cons_self
      · rcases List.mem_cons.mp h with h | h
        · cases h
        · exact List.mem_cons_of_mem _ (ih h)
    · rcases List.mem_cons.mp h with h | h
      · cases h; exact List.mem_cons_self
      · exact List.mem_cons_of_mem _ (ih h)
theorem jargs_len (As : List Value) (ad : Nat → Nat) : (lg_sl (As.map (jv ad))).length = (jargs As).length := by
  induction As with
  | nil => rfl
  | cons a As ih =>
    unfold lg_sl at ih ⊢
    simp only [List.map_cons, List.flatMap_cons, jcat_jv, jargs]
    by_cases hc : a.category = 2
    · simp [hc, ih]
    · simp [hc, ih]
theorem jhas_entry {ad : Nat → Nat} {As : List Value} {nL : Nat} (h : (jargs As).length ≤ nL) : jhas ad ((lg_sl (As.map (jv ad)) ++ List.replicate (nL - (lg_sl (As.map (jv ad))).length) Slot.unset).toArray) nL (jargs As ++ List.replicate (nL - (jargs As).length) none) := by
  have hL := jargs_len As ad
  have h0 := lv_entry (As.map (jv ad)) (n := nL) (by rw [hL]; exact h)
  refine ⟨h0.1, h0.2.1, by simp; omega, fun i v hv => ?_⟩
  by_cases hi : i < (jargs As).length
  · rw [List.getElem?_append_left hi] at hv
    have := h0.2.2 _ (jargs_spec ad As 0 i v hv)
    rw [Nat.zero_add] at this
    exact this
  · rw [List.getElem?_append_right (by omega)] at hv
    have := List.mem_of_getElem? hv
    have := (List.mem_replicate.mp this).2
    cases this
