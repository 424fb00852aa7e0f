def wcP (c : Nat) : Prop := 0 < sgN c ∨ c = 40 ∨ c = 33 ∨ c = 3
def rok (s : rT) (a : Nat) : Prop := s.2 0 + s.2 4 ≤ a ∧ (∀ i, s.1 0 i < 2 ^ 31) ∧ s.2 5 = oc (s.1 0) (s.2 4) ∧ ∀ i, i < s.2 4 → wcP (s.1 0 i)
theorem sg_pre {c : Nat} (h : 0 < sgN c) : ¬ (c = 40 ∨ c = 33 ∨ c = 3) := by
  rintro (rfl | rfl | rfl) <;> exact absurd h (by decide)
theorem rok_le {s : rT} {a b : Nat} (h : rok s a) (hab : a ≤ b) : rok s b := ⟨Nat.le_trans h.1 hab, h.2.1, h.2.2.1, h.2.2.2⟩
theorem oc_s {f : Nat → Nat} {n : Nat} (h : ¬ (f n = 40 ∨ f n = 33 ∨ f n = 3)) : oc f (n + 1) = oc f n := if_neg h
theorem oc_t {f : Nat → Nat} {n : Nat} (h : f n = 40 ∨ f n = 33 ∨ f n = 3) : oc f (n + 1) = oc f n + 1 := if_pos h
theorem oc_eq {f g : Nat → Nat} : ∀ n, (∀ i, i < n → f i = g i) → oc f n = oc g n
  | 0, _ => rfl
  | n + 1, h => by
    unfold oc
    rw [oc_eq n (fun i hi => h i (by omega)), h n (by omega)]
theorem rok_add {s : rT} {a : Nat} (h : rok s a) (h0 : ¬ s.2 4 = 0) (ht : 0 < sgN (topP s)) : rok (addP (popP s) (topP s) 0) a := by
  obtain ⟨h1, h2, h3, h4⟩ := h
  obtain ⟨q, hq⟩ : ∃ q, s.2 4 = q + 1 := ⟨s.2 4 - 1, by omega⟩
  refine ⟨?_, h2, ?_, ?_⟩
  · show s.2 0 + 1 + (s.2 4 - 1) ≤ a
    omega
  · show s.2 5 = oc (s.1 0) (s.2 4 - 1)
    have ht2 : 0 < sgN (s.1 0 q) := by unfold topP at ht; rw [hq] at ht; exact ht
    rw [h3, hq, oc_s (sg_pre ht2)]
    rfl
  · intro i hi
    have hi : i < s.2 4 - 1 := hi
    exact h4 i (by omega)
theorem rok_addp {s : rT} {a : Nat} (h : rok s a) (h0 : ¬ s.2 4 = 0) (ht : topP s = 33 ∨ topP s = 3) : rok (stK (addP (popP s) (topP s) 0) 5 (s.2 5 - 1)) a := by
  obtain ⟨h1, h2, h3, h4⟩ := h
  obtain ⟨q, hq⟩ : ∃ q, s.2 4 = q + 1 := ⟨s.2 4 - 1, by omega⟩
  refine ⟨?_, h2, ?_, ?_⟩
  · show s.2 0 + 1 + (s.2 4 - 1) ≤ a
    omega
  · show s.2 5 - 1 = oc (s.1 0) (s.2 4 - 1)
    have ht2 : s.1 0 q = 40 ∨ s.1 0 q = 33 ∨ s.1 0 q = 3 := by unfold topP at ht; rw [hq] at ht; exact Or.inr ht
    rw [h3, hq, oc_t ht2]
    rfl
  · intro i hi
    have hi : i < s.2 4 - 1 := hi
    exact h4 i (by omega)
theorem rl_ok {wk : Nat} (hwk : 1 ≤ wk) {a : Nat} : ∀ (m : Nat) (s : rT), rok s a → rok (rlP wk m s) a ∧ (rlP wk m s).2 4 ≤ s.2 4 ∧ (rlP wk m s).1 0 = s.1 0 ∧ (∀ j, j ≠ 0 → j ≠ 4 → (rlP wk m s).2 j = s.2 j) ∧ (s.2 4 ≤ m → (rlP wk m s).2 4 = 0 ∨ sgN (topP (rlP wk m s)) < wk) := by
  intro m
  induction m with
  | zero => intro s h; exact ⟨h, Nat.le_refl _, rfl, fun _ _ _ => rfl, fun q => Or.inl (by show s.2 4 = 0; omega)⟩
  | succ m ih =>
    intro s h
    by_cases h0 : s.2 4 = 0
    · rw [rlP_0 h0]
      exact ⟨h, Nat.le_refl _, rfl, fun _ _ _ => rfl, fun _ => Or.inl h0⟩
    · by_cases h1 : sgN (topP s) < wk
      · rw [rlP_n h0 h1]
        exact ⟨h, Nat.le_refl _, rfl, fun _ _ _ => rfl, fun _ => Or.inr h1⟩
      · rw [rlP_s h0 h1]
        obtain ⟨g1, g2, g3, g4, g5⟩ := ih _ (rok_add h h0 (by omega))
        refine ⟨g1, Nat.le_trans g2 (show s.2 4 - 1 ≤ s.2 4 by omega), g3, fun j hj hj4 => (g4 j hj hj4).trans ?_, fun q => g5 (show s.2 4 - 1 ≤ m by omega)⟩
        show updN (updN s.2 4 _) 0 _ j = s.2 j
        rw [updN_n _ _ _ hj, updN_n _ _ _ hj4]
theorem eo_ok {a : Nat} : ∀ (m : Nat) (s : rT), rok s a → rok (eoL m s) a ∧ (∀ j, j ≠ 0 → j ≠ 4 → j ≠ 5 → (eoL m s).2 j = s.2 j) := by
  intro m
  induction m with
  | zero => intro s h; exact ⟨h, fun _ _ _ _ => rfl⟩
  | succ m ih =>
    intro s h
    by_cases h0 : s.2 4 = 0
    · rw [eoL_0 h0]
      exact ⟨h, fun _ _ _ _ => rfl⟩
    · by_cases h1 : topP s = 33 ∨ topP s = 3
      · rw [eoL_s h0 h1]
        obtain ⟨g1, g4⟩ := ih _ (rok_addp h h0 h1)
        refine ⟨g1, fun j hj hj4 hj5 => (g4 j hj hj4 hj5).trans ?_⟩
        show updN (updN (updN s.2 4 _) 0 _) 5 _ j = s.2 j
        rw [updN_n _ _ _ hj5, updN_n _ _ _ hj, updN_n _ _ _ hj4]
      · rw [eoL_n h0 h1]
        exact ⟨h, fun _ _ _ _ => rfl⟩
theorem rok_k {s : rT} {a j x : Nat} (h : rok s a) (h0 : j ≠ 0) (h4 : j ≠ 4) (h5 : j ≠ 5) : rok (stK s j x) a := by
  obtain ⟨h1, h2, h3, h4'⟩ := h
  have e0 : (stK s j x).2 0 = s.2 0 := updN_n _ _ _ (Ne.symm h0)
  have e4 : (stK s j x).2 4 = s.2 4 := updN_n _ _ _ (Ne.symm h4)
  have e5 : (stK s j x).2 5 = s.2 5 := updN_n _ _ _ (Ne.symm h5)
  refine ⟨by rw [e0, e4]; exact h1, h2, by rw [e4, e5]; exact h3, by rw [e4]; exact h4'⟩
theorem rok_eoP {s : rT} {a : Nat} (h : rok s a) : rok (eoP s) a ∧ (eoP s).2 6 = 0 ∧ ∀ j, j ≠ 0 → j ≠ 4 → j ≠ 5 → j ≠ 6 → (eoP s).2 j = s.2 j := by
  obtain ⟨g1, g2⟩ := eo_ok (s.2 4) (stK s 6 0) (rok_k h (by decide) (by decide) (by decide))
  exact ⟨g1, (g2 6 (by decide) (by decide) (by decide)).trans (show updN s.2 6 0 6 = 0 from updN_s _ _ _), fun j h0 h4 h5 h6 => (g2 j h0 h4 h5).trans (show updN s.2 6 0 j = s.2 j from updN_n _ _ _ h6)⟩
theorem rok_op {s : rT} {a c v : Nat} (h : rok s a) : rok (addP s c v) (a + 1) := by
  obtain ⟨h1, h2, h3, h4⟩ := h
  exact ⟨by show s.2 0 + 1 + s.2 4 ≤ a + 1; omega, h2, h3, h4⟩
theorem rok_ps {s : rT} {a c : Nat} (h : rok s a) (hc : 0 < sgN c) (hc2 : c < 2 ^ 31) : rok (psP s c) (a + 1) := by
  obtain ⟨h1, h2, h3, h4⟩ := h
  refine ⟨by show s.2 0 + (s.2 4 + 1) ≤ a + 1; omega, fun i => ?_, ?_, fun i hi => ?_⟩
  · show updN (s.1 0) (s.2 4) c i < 2 ^ 31
    unfold updN; split
    · exact hc2
    · exact h2 i
  · show s.2 5 = oc (updN (s.1 0) (s.2 4) c) (s.2 4 + 1)
    rw [oc_s (by rw [updN_s]; exact sg_pre hc), h3]
    exact oc_eq _ (fun i hi => (updN_n _ _ _ (by omega)).symm)
  · show wcP (updN (s.1 0) (s.2 4) c i)
    by_cases e : i = s.2 4
    · rw [e, updN_s]; exact Or.inl hc
    · rw [updN_n _ _ _ e]; exact h4 i (by have hi : i < s.2 4 + 1 := hi; omega)
theorem rok_psp {s : rT} {a c : Nat} (h : rok s a) (hc : c = 40 ∨ c = 33 ∨ c = 3) : rok (psP (stK s 5 (s.2 5 + 1)) c) (a + 1) := by
  obtain ⟨h1, h2, h3, h4⟩ := h
  refine ⟨by show s.2 0 + (s.2 4 + 1) ≤ a + 1; omega, fun i => ?_, ?_, fun i hi => ?_⟩
  · show updN (s.1 0) (s.2 4) c i < 2 ^ 31
    unfold updN; split
    · omega
    · exact h2 i
  · show s.2 5 + 1 = oc (updN (s.1 0) (s.2 4) c) (s.2 4 + 1)
    rw [oc_t (by rw [updN_s]; exact hc), h3]
    exact congrArg (· + 1) (oc_eq _ (fun i hi => (updN_n _ _ _ (by omega)).symm))
  · show wcP (updN (s.1 0) (s.2 4) c i)
    by_cases e : i = s.2 4
    · rw [e, updN_s]; exact Or.inr hc
    · rw [updN_n _ _ _ e]; exact h4 i (by have hi : i < s.2 4 + 1 := hi; omega)
theorem rok_pop {s : rT} {a : Nat} (h : rok s a) (ho : 0 < s.2 5) (ht : s.2 4 = 0 ∨ sgN (topP s) < 1) : ¬ s.2 4 = 0 ∧ rok (stK (popP s) 5 (s.2 5 - 1)) a := by
  obtain ⟨h1, h2, h3, h4⟩ := h
  have h0 : ¬ s.2 4 = 0 := fun e => by rw [h3, e] at ho; exact Nat.lt_irrefl 0 ho
  obtain ⟨q, hq⟩ : ∃ q, s.2 4 = q + 1 := ⟨s.2 4 - 1, by omega⟩
  refine ⟨h0, ⟨?_, h2, ?_, ?_⟩⟩
  · show s.2 0 + (s.2 4 - 1) ≤ a
    omega
  · show s.2 5 - 1 = oc (s.1 0) (s.2 4 - 1)
    have ht2 : s.1 0 q = 40 ∨ s.1 0 q = 33 ∨ s.1 0 q = 3 := by
      rcases h4 q (by omega) with e | e
      · rcases ht with t | t
        · omega
        · unfold topP at t; rw [hq] at t; have t : sgN (s.1 0 q) < 1 := t; omega
      · exact e
    rw [h3, hq, oc_t ht2]
    rfl
  · intro i hi
    have hi : i < s.2 4 - 1 := hi
    exact h4 i (by omega)
/-- the digits from a place on: how many, the number -/
def nuL (tl : Nat) (tp : Nat → Nat) (a : Nat) : Nat → Nat → Nat → Nat × Nat
  | 0, j, x => (j, x)
  | m + 1, j, x => if a + j < tl then (if dgB (tp (a + j)) = true then nuL tl tp a m (j + 1) (x * 10 + tp (a + j) - 48) else (j, x)) else (j, x)
/-- a name's place; 6: none -/
def nmN (c : Nat) : Nat := if c = 100 then 0 else if c = 110 then 1 else if c = 111 then 2 else if c = 115 then 3 else if c = 107 then 4 else if c = 114 then 5 else 6
def ixN (c : Nat) : Int32 := if nmN c < 6 then nI (nmN c) else (-1)
def opP (tl : Nat) (tp : Nat → Nat) (a : Nat) (s : rT) : rT × Nat :=
  if dgB (tp a) = true then (eoP (addP s 1 (nuL tl tp a 4 0 0).2), (nuL tl tp a 4 0 0).1)
  else if nmN (tp a) < 6 then (eoP (addP s 2 (nmN (tp a))), 1)
  else if (tp a = 40 ∨ tp a = 33 ∨ tp a = 45) ∧ s.2 5 < 6 then (psP (stK s 5 (s.2 5 + 1)) (if tp a = 45 then 3 else tp a), 1)
  else (s, 0)
def joP (s : rT) (c : Nat) : rT × Bool :=
  if sgN c = 3 ∧ ¬ (rlP (if sgN c = 3 then 4 else sgN c) (s.2 4) s).2 4 = 0 ∧ sgN (topP (rlP (if sgN c = 3 then 4 else sgN c) (s.2 4) s)) = 3 then (rlP (if sgN c = 3 then 4 else sgN c) (s.2 4) s, false)
  else (stK (psP (rlP (if sgN c = 3 then 4 else sgN c) (s.2 4) s) c) 6 1, true)
def siP (s : rT) (c : Nat) : rT × Nat :=
  if 0 < sgN c then ((joP s c).1, if (joP s c).2 = true then 1 else 0)
  else if c = 41 ∧ 0 < s.2 5 then (eoP (stK (popP (rlP 1 (s.2 4) s)) 5 (s.2 5 - 1)), 1)
  else if c = 63 ∧ s.2 5 = 0 ∧ s.2 7 = 0 then (stK (stK (stK (rlP 1 (s.2 4) s) 3 ((rlP 1 (s.2 4) s).2 0)) 7 1) 6 1, 1)
  else if c = 59 ∧ s.2 5 = 0 then (stK (stK (elP (rlP 1 (s.2 4) s)) 7 0) 6 1, 1)
  else (s, 0)
theorem i2c_n {c : Nat} (h : c < 256) : ((nI c).toUInt32 % 65536).toInt32 = nI c := by
  have q : (List.range 256).all (fun c => decide (((nI c).toUInt32 % 65536).toInt32 = nI c)) = true := by decide +kernel
  exact of_decide_eq_true (List.all_eq_true.mp q c (List.mem_range.mpr h))
section JCT
variable {scr : jScr} {own : String} {cc : ByteArray} {nL : Nat} {ret : Option FieldType} {d bc bs pc : Nat} {lv : List (Option Value)}
theorem j_callTi {idx k n : Nat} {y : MethodName} {bytes : ByteArray} {rety : Option FieldType} (As rest : List Value) {E : Int32} {W' : jW} {w : jW} {post : Option Value → jW → Prop} {st : List Value} (hd : decode cc pc = .ok (.invokevirtual idx, 3)) (hl : jLnkV own idx y bytes k rety n) (hst : st = As.reverse ++ .ref 3 :: rest) (hn : As.length = n) (hy : y.cls = "java/lang/String") (hcat : jcatsum rest ≤ 8)
    (hM : jMet d y bytes k rety 0 0 (.ref 3 :: As) w (jRi E W')) (k2 : jWP scr own cc nL ret (d + 1) bc bs (pc + 3) lv (.int E :: rest) W' post) : jWP scr own cc nL ret (d + 1) bc bs pc lv st w post := by
  subst hst
  obtain ⟨hws, hpl, hk⟩ := hl
  simp only [List.forall_mem_cons] at hws
  obtain ⟨h1, h2, h3, h4, h5, -⟩ := hws
  intro p l e R s m args below meth c D dA A hC hI Q ad H locs ls cells slots hS hc hs hret
  obtain ⟨x1, x2, x3, x4, x5, x6⟩ := id hS
  have hb : jrv w.1 (.ref 3) := x5 _ (List.mem_append_right _ List.mem_cons_self)
  have hrest : ∀ v ∈ rest, jrv w.1 v := fun v hv => x5 v (List.mem_append_right _ (List.mem_cons_of_mem _ hv))
  have hAs : ∀ v ∈ (.ref 3 :: As : List Value), jrv w.1 v := jval_cons hb (fun v hv => x5 v (List.mem_append_left _ (List.mem_reverse.mpr hv)))
  have hrc : ∃ cell : Cell, H[ad 3]? = some cell ∧ cell.vm.isStatics = false ∧ s.vm.findClass y.cls = some cell.cls := by
    obtain ⟨-, -, -, -, -, -, -, adV, h8⟩ := x1
    rw [hy]
    exact vk_recv (i := 0) h8 (by decide) x3
  have hstk : (As.reverse ++ .ref 3 :: rest).map (jv ad) = (As.map (jv ad)).reverse ++ .ref (ad 3) :: rest.map (jv ad) := by simp [jv]
  rw [hstk]
  have kk : ∀ r w', jRi E W' r w' → jWP scr own cc nL ret (d + 1) bc bs (pc + 3) lv (r.toList ++ rest) w' post := fun r w' h => by obtain ⟨rfl, rfl⟩ := h; exact k2
  refine j_after (mc := 0) (ms := 0) (st0 := As.reverse ++ .ref 3 :: rest) hC hI hS hrest (by rw [Nat.zero_add]; exact hc) (by rw [Nat.zero_add]; exact hs) (by rw [Nat.zero_add, Nat.zero_add]; exact hret) (va_runV (As := As.map (jv ad)) (C := y.cls) (b := ad 3) (Ts := jT) ⟨hC.1, hC.2.1, hC.2.2.1, hC.2.2.2.1, hC.2.2.2.2.1⟩ (hM l D dA ad H.size) (cwV n hC.2.2.2.2.1 (fun w hw => ?_) rfl rfl rfl ⟨rfl, hpl⟩ (jroom hC.2.2.2.2.2.2.2.1 hC.2.2.2.2.2.2.2.2 hk)) ⟨jPc_blind, hrc, jPc_into hC hS hAs⟩ rfl (by simpa using hn) x4.1 rfl (lv_room (by rw [jcatsum_jv]; exact hcat)) hd ⟨by omega, by omega⟩) kk
  rcases List.mem_append.mp hw with hw | hw
  · simp only [List.mem_cons, List.not_mem_nil, or_false] at hw
    rcases hw with rfl | rfl | rfl | rfl
    · exact jT_good (ws := [.methodLink own idx y]) (fun w hw => by simp at hw; rw [hw]; exact h1) _ List.mem_cons_self
    · exact jT_good (ws := [.instanceMethod y]) (fun w hw => by simp at hw; rw [hw]; exact h2) _ List.mem_cons_self
    · exact jT_good (ws := [.selects y.cls y y]) (fun w hw => by simp at hw; rw [hw]; exact h3) _ List.mem_cons_self
    · exact jT_good (ws := [.initialized y.cls]) (fun w hw => by simp at hw; rw [hw]; exact h4) _ List.mem_cons_self
  · exact jcode_good h5 w hw
end JCT
section CT34
variable {d : Nat} {X A : Nat → Nat → Int32} {L : Nat → Nat → Int64} {w : jW} {G tl : Nat} {tp : Nat → Nat} {s : rT}

set_option maxHeartbeats 200000 in
set_option maxRecDepth 100000 in
theorem l_numberAt (hB : isB G) (htl : X 16 1 = nI tl) (htl2 : tl ≤ 120) (htp : A 17 = nIf tp) (htp2 : ∀ i, tp i < 256) {a : Nat} (ha : a < tl) (hok : rok s a) {r : Nat × Nat} : ∀ (m j x : Nat), j + m = 4 → nuL tl tp a m j x = r → jWP none RX4 cX4_numberAt 5 (some .int) (d + 2) 0 0 5 [some (.ref 16), some (.int (nI a)), some (.ref G), some (.int (nI x)), some (.int (nI j))] [] (tw (rX X G s.2) (rA A G s.1) L) (jRi (nI r.1) (tw (rX X G (eoP (addP s 1 r.2)).2) (rA A G (eoP (addP s 1 r.2)).1) L)) := by
  intro m
  induction m with
  | zero =>
    intro j x hj hr
    subst hr
    have hok1 := rok_op (c := 1) (v := x) hok
    refine j_iload dX4_numberAt_5 rfl ?_
    refine j_iconst (v := nI 4) dX4_numberAt_7 rfl ?_
    refine jn_icmp_ge (tgt := 48) dX4_numberAt_8 (by decide) (by omega) (by omega) (fun h8 => ?_) (fun h8 => absurd h8 (by omega))
    refine j_aload_n dX4_numberAt_48 rfl rfl ?_
    refine j_iconst (v := nI 1) dX4_numberAt_49 rfl ?_
    refine j_iload_n dX4_numberAt_50 rfl rfl ?_
    refine j_callVv [.int _, .int _] [] dX4_numberAt_51 jlk_X4_72 rfl rfl ((shB0 hB) _ _ _) rfl (Nat.le_of_ble_eq_true rfl) (c_addP hB rfl (by have := hok.1; omega)) ?_
    refine j_aload_n dX4_numberAt_54 rfl rfl ?_
    refine j_aload_n dX4_numberAt_55 rfl rfl ?_
    refine j_callVv [.ref G] [] dX4_numberAt_56 jlk_X4_76 rfl rfl rfl rfl (Nat.le_of_ble_eq_true rfl) (c_endOperand (s := addP s 1 x) hB (by have := hok1.1; omega) hok1.2.1 hok1.2.2.1) ?_
    refine j_iload dX4_numberAt_59 rfl ?_
    refine j_ireturn dX4_numberAt_61 rfl ?_
    exact ⟨rfl, rfl⟩
  | succ m ih =>
    intro j x hj hr
    have hok1 := rok_op (c := 1) (v := x) hok
    refine j_iload dX4_numberAt_5 rfl ?_
    refine j_iconst (v := nI 4) dX4_numberAt_7 rfl ?_
    refine jn_icmp_ge (tgt := 48) dX4_numberAt_8 (by decide) (by omega) (by omega) (fun h8 => absurd h8 (by omega)) (fun h8 => ?_)
    refine j_aload_n dX4_numberAt_11 rfl rfl ?_
    refine j_iload_n dX4_numberAt_12 rfl rfl ?_
    refine j_iload dX4_numberAt_13 rfl ?_
    refine jn_iadd dX4_numberAt_15 ?_
    by_cases hin : a + j < tl
    · have hin := hin
      refine j_callVi [.int _] [] dX4_numberAt_16 jlk_X4_54 rfl rfl rfl rfl (Nat.le_of_ble_eq_true rfl) (c_letterAt hB htl htl2 htp hin) ?_
      refine j_callSi [.int _] [] dX4_numberAt_19 jlk_X4_65 rfl rfl (Nat.le_of_ble_eq_true rfl) (c_X4_isDigit (Nat.lt_trans (htp2 _) (by decide))) ?_
      refine j_if_eq (tgt := 48) dX4_numberAt_22 (by decide) (fun h22 => ?_) (fun h22 => ?_)
      · have h22 := bz_f h22
        have er : (j, x) = r := by rw [← hr]; show _ = (if a + j < tl then (if dgB (tp (a + j)) = true then _ else (j, x)) else (j, x)); rw [if_pos hin, if_neg (by rw [h22]; decide)]
        subst er
        refine j_aload_n dX4_numberAt_48 rfl rfl ?_
        refine j_iconst (v := nI 1) dX4_numberAt_49 rfl ?_
        refine j_iload_n dX4_numberAt_50 rfl rfl ?_
        refine j_callVv [.int _, .int _] [] dX4_numberAt_51 jlk_X4_72 rfl rfl ((shB0 hB) _ _ _) rfl (Nat.le_of_ble_eq_true rfl) (c_addP hB rfl (by have := hok.1; omega)) ?_
        refine j_aload_n dX4_numberAt_54 rfl rfl ?_
        refine j_aload_n dX4_numberAt_55 rfl rfl ?_
        refine j_callVv [.ref G] [] dX4_numberAt_56 jlk_X4_76 rfl rfl rfl rfl (Nat.le_of_ble_eq_true rfl) (c_endOperand (s := addP s 1 x) hB (by have := hok1.1; omega) hok1.2.1 hok1.2.2.1) ?_
        refine j_iload dX4_numberAt_59 rfl ?_
        refine j_ireturn dX4_numberAt_61 rfl ?_
        exact ⟨rfl, rfl⟩
      · have h22 := bz_t h22
        have hd : 48 ≤ tp (a + j) := by unfold dgB at h22; simp at h22; exact h22.1
        refine j_iload_n dX4_numberAt_25 rfl rfl ?_
        refine j_bipush (v := nI 10) dX4_numberAt_26 rfl ?_
        refine jn_imul dX4_numberAt_28 ?_
        refine j_aload_n dX4_numberAt_29 rfl rfl ?_
        refine j_iload_n dX4_numberAt_30 rfl rfl ?_
        refine j_iload dX4_numberAt_31 rfl ?_
        refine jn_iadd dX4_numberAt_33 ?_
        refine j_callVi [.int _] [.int _] dX4_numberAt_34 jlk_X4_54 rfl rfl rfl rfl (Nat.le_of_ble_eq_true rfl) (c_letterAt hB htl htl2 htp hin) ?_
        refine jn_iadd dX4_numberAt_37 ?_
        refine j_bipush (v := nI 48) dX4_numberAt_38 rfl ?_
        refine jn_isub dX4_numberAt_40 (by omega) ?_
        refine j_istore_n (lv' := [some (.ref 16), some (.int _), some (.ref G), some (.int _), some (.int _)]) dX4_numberAt_41 rfl (by decide) rfl ?_
        refine jn_iinc (lv' := [some (.ref 16), some (.int _), some (.ref G), some (.int _), some (.int _)]) dX4_numberAt_42 rfl (by decide) rfl ?_
        refine j_goto (tgt := 5) dX4_numberAt_45 (by decide) ?_
        refine ih (j + 1) (x * 10 + tp (a + j) - 48) (by omega) ?_
        rw [← hr]
        show _ = (if a + j < tl then (if dgB (tp (a + j)) = true then _ else (j, x)) else (j, x))
        rw [if_pos hin, if_pos h22]
    · have hin : tl ≤ a + j := by omega
      have er : (j, x) = r := by rw [← hr]; show _ = (if a + j < tl then _ else (j, x)); rw [if_neg (by omega)]
      refine j_callVi [.int _] [] dX4_numberAt_16 jlk_X4_54 rfl rfl rfl rfl (Nat.le_of_ble_eq_true rfl) (c_letterAt_o hB htl htl2 hin (by omega)) ?_
      refine j_callSi [.int _] [] dX4_numberAt_19 jlk_X4_65 rfl rfl (Nat.le_of_ble_eq_true rfl) (c_X4_isDigit_m) ?_
      refine j_if_eq (tgt := 48) dX4_numberAt_22 (by decide) (fun _ => ?_) (fun h => absurd (by decide) h)
      subst er
      refine j_aload_n dX4_numberAt_48 rfl rfl ?_
      refine j_iconst (v := nI 1) dX4_numberAt_49 rfl ?_
      refine j_iload_n dX4_numberAt_50 rfl rfl ?_
      refine j_callVv [.int _, .int _] [] dX4_numberAt_51 jlk_X4_72 rfl rfl ((shB0 hB) _ _ _) rfl (Nat.le_of_ble_eq_true rfl) (c_addP hB rfl (by have := hok.1; omega)) ?_
      refine j_aload_n dX4_numberAt_54 rfl rfl ?_
      refine j_aload_n dX4_numberAt_55 rfl rfl ?_
      refine j_callVv [.ref G] [] dX4_numberAt_56 jlk_X4_76 rfl rfl rfl rfl (Nat.le_of_ble_eq_true rfl) (c_endOperand (s := addP s 1 x) hB (by have := hok1.1; omega) hok1.2.1 hok1.2.2.1) ?_
      refine j_iload dX4_numberAt_59 rfl ?_
      refine j_ireturn dX4_numberAt_61 rfl ?_
      exact ⟨rfl, rfl⟩

set_option maxHeartbeats 200000 in
set_option maxRecDepth 100000 in
theorem c_numberAt (hB : isB G) (htl : X 16 1 = nI tl) (htl2 : tl ≤ 120) (htp : A 17 = nIf tp) (htp2 : ∀ i, tp i < 256) {a : Nat} (ha : a < tl) (hok : rok s a) : jMet (d + 2) yX4_numberAt cX4_numberAt 5 (some .int) 0 0 [.ref 16, .int (nI a), .ref G] (tw (rX X G s.2) (rA A G s.1) L) (jRi (nI (nuL tl tp a 4 0 0).1) (tw (rX X G (eoP (addP s 1 (nuL tl tp a 4 0 0).2)).2) (rA A G (eoP (addP s 1 (nuL tl tp a 4 0 0).2)).1) L)) := by
  refine jMet_of (by decide) (Nat.le_of_ble_eq_true rfl) none (Or.inl rfl) ?_
  show jWP none RX4 cX4_numberAt 5 (some .int) (d + 2) 0 0 0 [some (.ref 16), some (.int (nI a)), some (.ref G), none, none] [] (tw (rX X G s.2) (rA A G s.1) L) (jRi (nI (nuL tl tp a 4 0 0).1) (tw (rX X G (eoP (addP s 1 (nuL tl tp a 4 0 0).2)).2) (rA A G (eoP (addP s 1 (nuL tl tp a 4 0 0).2)).1) L))
  refine j_iconst (v := nI 0) dX4_numberAt_0 rfl ?_
  refine j_istore_n (lv' := [some (.ref 16), some (.int _), some (.ref G), some (.int _), none]) dX4_numberAt_1 rfl (by decide) rfl ?_
  refine j_iconst (v := nI 0) dX4_numberAt_2 rfl ?_
  refine j_istore (lv' := [some (.ref 16), some (.int _), some (.ref G), some (.int _), some (.int _)]) dX4_numberAt_3 (by decide) rfl ?_
  exact l_numberAt hB htl htl2 htp htp2 ha hok 4 0 0 rfl rfl

set_option maxHeartbeats 200000 in
set_option maxRecDepth 100000 in
theorem c_operandAt (hix : ∀ {d : Nat} {X A : Nat → Nat → Int32} {c : Nat}, c < 256 → jMet (d + 3) yJ0_indexOf_0f7a4 cJ0_indexOf_0f7a4 2 (some .int) 0 0 [.ref 3, .int (nI c)] (tw X A L) (jRi (ixN c) (tw X A L))) (hB : isB G) (htl : X 16 1 = nI tl) (htl2 : tl ≤ 120) (htp : A 17 = nIf tp) (htp2 : ∀ i, tp i < 256) {a : Nat} (ha : a < tl) (hok : rok s a) : jMet (d + 4) yX4_operandAt cX4_operandAt 5 (some .int) 0 0 [.ref 16, .int (nI a), .ref G] (tw (rX X G s.2) (rA A G s.1) L) (jRi (nI (opP tl tp a s).2) (tw (rX X G (opP tl tp a s).1.2) (rA A G (opP tl tp a s).1.1) L)) := by
  refine jMet_of (by decide) (Nat.le_of_ble_eq_true rfl) none (Or.inl rfl) ?_
  show jWP none RX4 cX4_operandAt 5 (some .int) (d + 4) 0 0 0 [some (.ref 16), some (.int (nI a)), some (.ref G), none, none] [] (tw (rX X G s.2) (rA A G s.1) L) (jRi (nI (opP tl tp a s).2) (tw (rX X G (opP tl tp a s).1.2) (rA A G (opP tl tp a s).1.1) L))
  have htpa := htp2 a
  have ho6 : s.2 5 < 2 ^ 31 := by
    have h1 := hok.2.2.1
    have h2 := hok.1
    have h3 : ∀ n, oc (s.1 0) n ≤ n := by
      intro n
      induction n with
      | zero => exact Nat.le_refl _
      | succ n ih => unfold oc; split <;> omega
    have := h3 (s.2 4)
    omega
  refine j_aload_n dX4_operandAt_0 rfl rfl ?_
  refine j_iload_n dX4_operandAt_1 rfl rfl ?_
  refine j_callVi [.int _] [] dX4_operandAt_2 jlk_X4_54 rfl rfl rfl rfl (Nat.le_of_ble_eq_true rfl) (c_letterAt hB htl htl2 htp ha) ?_
  refine j_istore_n (lv' := [some (.ref 16), some (.int _), some (.ref G), some (.int _), none]) dX4_operandAt_5 rfl (by decide) rfl ?_
  refine j_ldc_text rfl dX4_operandAt_6 ?_
  refine j_iload_n dX4_operandAt_8 rfl rfl ?_
  refine j_i2c dX4_operandAt_9 ?_
  refine j_topE (i2c_n htpa) ?_
  refine j_callTi [.int _] [] dX4_operandAt_10 jlk_X4_60 rfl rfl rfl (Nat.le_of_ble_eq_true rfl) (hix htpa) ?_
  refine j_istore (lv' := [some (.ref 16), some (.int _), some (.ref G), some (.int _), some (.int _)]) dX4_operandAt_13 (by decide) rfl ?_
  refine j_iload_n dX4_operandAt_15 rfl rfl ?_
  refine j_callSi [.int _] [] dX4_operandAt_16 jlk_X4_65 rfl rfl (Nat.le_of_ble_eq_true rfl) (c_X4_isDigit (by omega)) ?_
  refine j_if_eq (tgt := 29) dX4_operandAt_19 (by decide) (fun h19 => ?_) (fun h19 => ?_)
  · have h19 := bz_f h19
    refine j_iload dX4_operandAt_29 rfl ?_
    refine j_if_lt (tgt := 48) dX4_operandAt_31 (by decide) (fun h31 => ?_) (fun h31 => ?_)
    · have hnm : ¬ nmN (tp a) < 6 := fun q => by unfold ixN at h31; rw [if_pos q] at h31; exact nI_pos (by omega) h31
      refine j_iload_n dX4_operandAt_48 rfl rfl ?_
      refine j_bipush (v := nI 40) dX4_operandAt_49 rfl ?_
      refine jn_icmp_eq (tgt := 66) dX4_operandAt_51 (by decide) (by omega) (by omega) (fun h51 => ?_) (fun h51 => ?_)
      · refine j_aload_n dX4_operandAt_66 rfl rfl ?_
        refine t_getI dX4_operandAt_67 jfl_X4_27 (fun _ _ _ => rfl) (fun _ => rfl) ?_
        refine j_topE (rX_4 hB) ?_
        refine j_bipush (v := nI 6) dX4_operandAt_70 rfl ?_
        refine jn_icmp_ge (tgt := 102) dX4_operandAt_72 (by decide) (by omega) (by omega) (fun h72 => ?_) (fun h72 => ?_)
        · refine j_iconst (v := nI 0) dX4_operandAt_102 rfl ?_
          refine j_ireturn dX4_operandAt_103 rfl ?_
          refine ⟨?_, ?_⟩
          · unfold opP; rw [if_neg (by rw [h19]; decide), if_neg hnm, if_neg (fun q => absurd q.2 (Nat.not_lt.mpr h72))]
          · unfold opP; rw [if_neg (by rw [h19]; decide), if_neg hnm, if_neg (fun q => absurd q.2 (Nat.not_lt.mpr h72))]
        · refine j_aload_n dX4_operandAt_75 rfl rfl ?_
          refine j_dup dX4_operandAt_76 rfl ?_
          refine t_getI dX4_operandAt_77 jfl_X4_27 (fun _ _ _ => rfl) (fun _ => rfl) ?_
          refine j_topE (rX_4 hB) ?_
          refine j_iconst (v := nI 1) dX4_operandAt_80 rfl ?_
          refine jn_iadd dX4_operandAt_81 ?_
          refine t_putI dX4_operandAt_82 jfl_X4_27 (fun _ _ _ => rfl) (fun _ _ => rfl) (Nat.le_of_ble_eq_true rfl) rfl rfl ?_
          rw [rX_p4 hB]
          refine j_aload_n dX4_operandAt_85 rfl rfl ?_
          refine j_iload_n dX4_operandAt_86 rfl rfl ?_
          refine j_bipush (v := nI 45) dX4_operandAt_87 rfl ?_
          refine jn_icmp_ne (tgt := 96) dX4_operandAt_89 (by decide) (by omega) (by omega) (fun h89 => ?_) (fun h89 => ?_)
          · refine j_iload_n dX4_operandAt_96 rfl rfl ?_
            refine j_callVv [.int _] [] dX4_operandAt_97 jlk_X4_80 rfl rfl rfl rfl (Nat.le_of_ble_eq_true rfl) (c_await (s := stK s 5 (s.2 5 + 1)) hB (by show s.2 4 < 120; have := hok.1; omega)) ?_
            refine j_iconst (v := nI 1) dX4_operandAt_100 rfl ?_
            refine j_ireturn dX4_operandAt_101 rfl ?_
            refine ⟨?_, ?_⟩
            · unfold opP; rw [if_neg (by rw [h19]; decide), if_neg hnm, if_pos ⟨Or.inl h51, h72⟩]
            · unfold opP; rw [if_neg (by rw [h19]; decide), if_neg hnm, if_pos ⟨Or.inl h51, h72⟩]; exact congrArg (fun z => tw (rX X G (psP (stK s 5 (s.2 5 + 1)) z).2) (rA A G (psP (stK s 5 (s.2 5 + 1)) z).1) L) (if_neg h89).symm
          · refine j_iconst (v := nI 3) dX4_operandAt_92 rfl ?_
            refine j_goto (tgt := 97) dX4_operandAt_93 (by decide) ?_
            refine j_callVv [.int _] [] dX4_operandAt_97 jlk_X4_80 rfl rfl rfl rfl (Nat.le_of_ble_eq_true rfl) (c_await (s := stK s 5 (s.2 5 + 1)) hB (by show s.2 4 < 120; have := hok.1; omega)) ?_
            refine j_iconst (v := nI 1) dX4_operandAt_100 rfl ?_
            refine j_ireturn dX4_operandAt_101 rfl ?_
            refine ⟨?_, ?_⟩
            · unfold opP; rw [if_neg (by rw [h19]; decide), if_neg hnm, if_pos ⟨Or.inl h51, h72⟩]
            · unfold opP; rw [if_neg (by rw [h19]; decide), if_neg hnm, if_pos ⟨Or.inl h51, h72⟩]; exact congrArg (fun z => tw (rX X G (psP (stK s 5 (s.2 5 + 1)) z).2) (rA A G (psP (stK s 5 (s.2 5 + 1)) z).1) L) (if_pos h89).symm
      · refine j_iload_n dX4_operandAt_54 rfl rfl ?_
        refine j_bipush (v := nI 33) dX4_operandAt_55 rfl ?_
        refine jn_icmp_eq (tgt := 66) dX4_operandAt_57 (by decide) (by omega) (by omega) (fun h57 => ?_) (fun h57 => ?_)
        · refine j_aload_n dX4_operandAt_66 rfl rfl ?_
          refine t_getI dX4_operandAt_67 jfl_X4_27 (fun _ _ _ => rfl) (fun _ => rfl) ?_
          refine j_topE (rX_4 hB) ?_
          refine j_bipush (v := nI 6) dX4_operandAt_70 rfl ?_
          refine jn_icmp_ge (tgt := 102) dX4_operandAt_72 (by decide) (by omega) (by omega) (fun h72 => ?_) (fun h72 => ?_)
          · refine j_iconst (v := nI 0) dX4_operandAt_102 rfl ?_
            refine j_ireturn dX4_operandAt_103 rfl ?_
            refine ⟨?_, ?_⟩
            · unfold opP; rw [if_neg (by rw [h19]; decide), if_neg hnm, if_neg (fun q => absurd q.2 (Nat.not_lt.mpr h72))]
            · unfold opP; rw [if_neg (by rw [h19]; decide), if_neg hnm, if_neg (fun q => absurd q.2 (Nat.not_lt.mpr h72))]
          · refine j_aload_n dX4_operandAt_75 rfl rfl ?_
            refine j_dup dX4_operandAt_76 rfl ?_
            refine t_getI dX4_operandAt_77 jfl_X4_27 (fun _ _ _ => rfl) (fun _ => rfl) ?_
            refine j_topE (rX_4 hB) ?_
            refine j_iconst (v := nI 1) dX4_operandAt_80 rfl ?_
            refine jn_iadd dX4_operandAt_81 ?_
            refine t_putI dX4_operandAt_82 jfl_X4_27 (fun _ _ _ => rfl) (fun _ _ => rfl) (Nat.le_of_ble_eq_true rfl) rfl rfl ?_
            rw [rX_p4 hB]
            refine j_aload_n dX4_operandAt_85 rfl rfl ?_
            refine j_iload_n dX4_operandAt_86 rfl rfl ?_
            refine j_bipush (v := nI 45) dX4_operandAt_87 rfl ?_
            refine jn_icmp_ne (tgt := 96) dX4_operandAt_89 (by decide) (by omega) (by omega) (fun h89 => ?_) (fun h89 => ?_)
            · refine j_iload_n dX4_operandAt_96 rfl rfl ?_
              refine j_callVv [.int _] [] dX4_operandAt_97 jlk_X4_80 rfl rfl rfl rfl (Nat.le_of_ble_eq_true rfl) (c_await (s := stK s 5 (s.2 5 + 1)) hB (by show s.2 4 < 120; have := hok.1; omega)) ?_
              refine j_iconst (v := nI 1) dX4_operandAt_100 rfl ?_
              refine j_ireturn dX4_operandAt_101 rfl ?_
              refine ⟨?_, ?_⟩
              · unfold opP; rw [if_neg (by rw [h19]; decide), if_neg hnm, if_pos ⟨Or.inr (Or.inl h57), h72⟩]
              · unfold opP; rw [if_neg (by rw [h19]; decide), if_neg hnm, if_pos ⟨Or.inr (Or.inl h57), h72⟩]; exact congrArg (fun z => tw (rX X G (psP (stK s 5 (s.2 5 + 1)) z).2) (rA A G (psP (stK s 5 (s.2 5 + 1)) z).1) L) (if_neg h89).symm
            · refine j_iconst (v := nI 3) dX4_operandAt_92 rfl ?_
              refine j_goto (tgt := 97) dX4_operandAt_93 (by decide) ?_
              refine j_callVv [.int _] [] dX4_operandAt_97 jlk_X4_80 rfl rfl rfl rfl (Nat.le_of_ble_eq_true rfl) (c_await (s := stK s 5 (s.2 5 + 1)) hB (by show s.2 4 < 120; have := hok.1; omega)) ?_
              refine j_iconst (v := nI 1) dX4_operandAt_100 rfl ?_
              refine j_ireturn dX4_operandAt_101 rfl ?_
              refine ⟨?_, ?_⟩
              · unfold opP; rw [if_neg (by rw [h19]; decide), if_neg hnm, if_pos ⟨Or.inr (Or.inl h57), h72⟩]
              · unfold opP; rw [if_neg (by rw [h19]; decide), if_neg hnm, if_pos ⟨Or.inr (Or.inl h57), h72⟩]; exact congrArg (fun z => tw (rX X G (psP (stK s 5 (s.2 5 + 1)) z).2) (rA A G (psP (stK s 5 (s.2 5 + 1)) z).1) L) (if_pos h89).symm
        · refine j_iload_n dX4_operandAt_60 rfl rfl ?_
          refine j_bipush (v := nI 45) dX4_operandAt_61 rfl ?_
          refine jn_icmp_ne (tgt := 102) dX4_operandAt_63 (by decide) (by omega) (by omega) (fun h63 => ?_) (fun h63 => ?_)
          · refine j_iconst (v := nI 0) dX4_operandAt_102 rfl ?_
            refine j_ireturn dX4_operandAt_103 rfl ?_
            refine ⟨?_, ?_⟩
            · unfold opP; rw [if_neg (by rw [h19]; decide), if_neg hnm, if_neg (fun q => q.1.elim h51 (fun q => q.elim h57 h63))]
            · unfold opP; rw [if_neg (by rw [h19]; decide), if_neg hnm, if_neg (fun q => q.1.elim h51 (fun q => q.elim h57 h63))]
          · refine j_aload_n dX4_operandAt_66 rfl rfl ?_
            refine t_getI dX4_operandAt_67 jfl_X4_27 (fun _ _ _ => rfl) (fun _ => rfl) ?_
            refine j_topE (rX_4 hB) ?_
            refine j_bipush (v := nI 6) dX4_operandAt_70 rfl ?_
            refine jn_icmp_ge (tgt := 102) dX4_operandAt_72 (by decide) (by omega) (by omega) (fun h72 => ?_) (fun h72 => ?_)
            · refine j_iconst (v := nI 0) dX4_operandAt_102 rfl ?_
              refine j_ireturn dX4_operandAt_103 rfl ?_
              refine ⟨?_, ?_⟩
              · unfold opP; rw [if_neg (by rw [h19]; decide), if_neg hnm, if_neg (fun q => absurd q.2 (Nat.not_lt.mpr h72))]
              · unfold opP; rw [if_neg (by rw [h19]; decide), if_neg hnm, if_neg (fun q => absurd q.2 (Nat.not_lt.mpr h72))]
            · refine j_aload_n dX4_operandAt_75 rfl rfl ?_
              refine j_dup dX4_operandAt_76 rfl ?_
              refine t_getI dX4_operandAt_77 jfl_X4_27 (fun _ _ _ => rfl) (fun _ => rfl) ?_
              refine j_topE (rX_4 hB) ?_
              refine j_iconst (v := nI 1) dX4_operandAt_80 rfl ?_
              refine jn_iadd dX4_operandAt_81 ?_
              refine t_putI dX4_operandAt_82 jfl_X4_27 (fun _ _ _ => rfl) (fun _ _ => rfl) (Nat.le_of_ble_eq_true rfl) rfl rfl ?_
              rw [rX_p4 hB]
              refine j_aload_n dX4_operandAt_85 rfl rfl ?_
              refine j_iload_n dX4_operandAt_86 rfl rfl ?_
              refine j_bipush (v := nI 45) dX4_operandAt_87 rfl ?_
              refine jn_icmp_ne (tgt := 96) dX4_operandAt_89 (by decide) (by omega) (by omega) (fun h89 => ?_) (fun h89 => ?_)
              · refine j_iload_n dX4_operandAt_96 rfl rfl ?_
                refine j_callVv [.int _] [] dX4_operandAt_97 jlk_X4_80 rfl rfl rfl rfl (Nat.le_of_ble_eq_true rfl) (c_await (s := stK s 5 (s.2 5 + 1)) hB (by show s.2 4 < 120; have := hok.1; omega)) ?_
                refine j_iconst (v := nI 1) dX4_operandAt_100 rfl ?_
                refine j_ireturn dX4_operandAt_101 rfl ?_
                refine ⟨?_, ?_⟩
                · unfold opP; rw [if_neg (by rw [h19]; decide), if_neg hnm, if_pos ⟨Or.inr (Or.inr h63), h72⟩]
                · unfold opP; rw [if_neg (by rw [h19]; decide), if_neg hnm, if_pos ⟨Or.inr (Or.inr h63), h72⟩]; exact congrArg (fun z => tw (rX X G (psP (stK s 5 (s.2 5 + 1)) z).2) (rA A G (psP (stK s 5 (s.2 5 + 1)) z).1) L) (if_neg h89).symm
              · refine j_iconst (v := nI 3) dX4_operandAt_92 rfl ?_
                refine j_goto (tgt := 97) dX4_operandAt_93 (by decide) ?_
                refine j_callVv [.int _] [] dX4_operandAt_97 jlk_X4_80 rfl rfl rfl rfl (Nat.le_of_ble_eq_true rfl) (c_await (s := stK s 5 (s.2 5 + 1)) hB (by show s.2 4 < 120; have := hok.1; omega)) ?_
                refine j_iconst (v := nI 1) dX4_operandAt_100 rfl ?_
                refine j_ireturn dX4_operandAt_101 rfl ?_
                refine ⟨?_, ?_⟩
                · unfold opP; rw [if_neg (by rw [h19]; decide), if_neg hnm, if_pos ⟨Or.inr (Or.inr h63), h72⟩]
                · unfold opP; rw [if_neg (by rw [h19]; decide), if_neg hnm, if_pos ⟨Or.inr (Or.inr h63), h72⟩]; exact congrArg (fun z => tw (rX X G (psP (stK s 5 (s.2 5 + 1)) z).2) (rA A G (psP (stK s 5 (s.2 5 + 1)) z).1) L) (if_pos h89).symm
    · have hnm : nmN (tp a) < 6 := Nat.lt_of_not_le fun q => by unfold ixN at h31; rw [if_neg (by omega)] at h31; exact absurd (by decide) h31
      refine j_at (lv' := [some (.ref 16), some (.int (nI a)), some (.ref G), some (.int (nI (tp a))), some (.int (nI (nmN (tp a))))]) (by unfold ixN; rw [if_pos hnm]) ?_
      refine j_aload_n dX4_operandAt_34 rfl rfl ?_
      refine j_iconst (v := nI 2) dX4_operandAt_35 rfl ?_
      refine j_iload dX4_operandAt_36 rfl ?_
      refine j_callVv [.int _, .int _] [] dX4_operandAt_38 jlk_X4_72 rfl rfl ((shB0 hB) _ _ _) rfl (Nat.le_of_ble_eq_true rfl) (c_addP hB rfl (by have := hok.1; omega)) ?_
      refine j_aload_n dX4_operandAt_41 rfl rfl ?_
      refine j_aload_n dX4_operandAt_42 rfl rfl ?_
      refine j_callVv [.ref G] [] dX4_operandAt_43 jlk_X4_76 rfl rfl rfl rfl (Nat.le_of_ble_eq_true rfl) (c_endOperand (s := addP s 2 (nmN (tp a))) hB (by have := (rok_op (c := 2) (v := nmN (tp a)) hok).1; omega) (rok_op (c := 2) (v := nmN (tp a)) hok).2.1 (rok_op (c := 2) (v := nmN (tp a)) hok).2.2.1) ?_
      refine j_iconst (v := nI 1) dX4_operandAt_46 rfl ?_
      refine j_ireturn dX4_operandAt_47 rfl ?_
      refine ⟨?_, ?_⟩
      · unfold opP; rw [if_neg (by rw [h19]; decide), if_pos hnm]
      · unfold opP; rw [if_neg (by rw [h19]; decide), if_pos hnm]
  · have h19 := bz_t h19
    refine j_aload_n dX4_operandAt_22 rfl rfl ?_
    refine j_iload_n dX4_operandAt_23 rfl rfl ?_
    refine j_aload_n dX4_operandAt_24 rfl rfl ?_
    refine j_callVi [.int _, .ref G] [] dX4_operandAt_25 jlk_X4_69 rfl rfl rfl rfl (Nat.le_of_ble_eq_true rfl) (c_numberAt hB htl htl2 htp htp2 ha hok) ?_
    refine j_ireturn dX4_operandAt_28 rfl ?_
    refine ⟨?_, ?_⟩
    · unfold opP; rw [if_pos h19]
    · unfold opP; rw [if_pos h19]

end CT34