section ONE
variable {n : Nat} {tx : Nat → Nat} {nm : Nat → Int32} {D : Nat} {s : pS}
def s1P (s : pS) : pS := (s.1 + 1, s.2.1, s.2.2 + 1)
theorem on_f (h : s.2.1 ≠ none) : onF n tx nm (D + 1) s = (0, s) := if_pos h
theorem on_6 (h : s.2.1 = none) (hc : byN n tx s.1 = 33 ∨ byN n tx s.1 = 45 ∨ byN n tx s.1 = 40) (h6 : s.2.2 = 6) : onF n tx nm (D + 1) s = (0, wrP s) := by
  unfold onF
  rw [if_neg (fun q => q h), if_pos hc, if_pos h6]
theorem on_p (h : s.2.1 = none) (hc : byN n tx s.1 = 40) (h6 : s.2.2 ≠ 6) (ht : tkB n tx 41 (exF n tx (onF n tx nm D) (s1P s)).2 = true) : onF n tx nm (D + 1) s = ((exF n tx (onF n tx nm D) (s1P s)).1, ((exF n tx (onF n tx nm D) (s1P s)).2.1 + 1, (exF n tx (onF n tx nm D) (s1P s)).2.2.1, (exF n tx (onF n tx nm D) (s1P s)).2.2.2 - 1)) := by
  unfold s1P at ht
  unfold onF s1P
  rw [if_neg (fun q => q h), if_pos (Or.inr (Or.inr hc)), if_neg h6, if_pos hc, if_pos ht]
theorem on_q (h : s.2.1 = none) (hc : byN n tx s.1 = 40) (h6 : s.2.2 ≠ 6) (ht : tkB n tx 41 (exF n tx (onF n tx nm D) (s1P s)).2 = false) : onF n tx nm (D + 1) s = (0, wrP (exF n tx (onF n tx nm D) (s1P s)).2) := by
  unfold s1P at ht
  unfold onF s1P
  rw [if_neg (fun q => q h), if_pos (Or.inr (Or.inr hc)), if_neg h6, if_pos hc, if_neg (by rw [ht]; decide)]
theorem on_u (h : s.2.1 = none) (hc : byN n tx s.1 = 33 ∨ byN n tx s.1 = 45) (h6 : s.2.2 ≠ 6) : onF n tx nm (D + 1) s = ((if byN n tx s.1 = 45 then -(onF n tx nm D (s1P s)).1 else if (onF n tx nm D (s1P s)).1 = 0 then nI 1 else nI 0), ((onF n tx nm D (s1P s)).2.1, (onF n tx nm D (s1P s)).2.2.1, (onF n tx nm D (s1P s)).2.2.2 - 1)) := by
  conv => lhs; unfold onF
  rw [if_neg (fun q => q h), if_pos (by omega), if_neg h6, if_neg (by omega)]
  rfl
theorem on_n (h : s.2.1 = none) (hc : ¬ (byN n tx s.1 = 33 ∨ byN n tx s.1 = 45 ∨ byN n tx s.1 = 40)) (hn : nmN (byN n tx s.1) < 6) : onF n tx nm (D + 1) s = (nm (nmN (byN n tx s.1)), adP s) := by
  unfold onF
  rw [if_neg (fun q => q h), if_neg hc, if_pos hn]
theorem on_d (h : s.2.1 = none) (hc : ¬ (byN n tx s.1 = 33 ∨ byN n tx s.1 = 45 ∨ byN n tx s.1 = 40)) (hn : ¬ nmN (byN n tx s.1) < 6) : onF n tx nm (D + 1) s = if (nuL n tx s.1 4 0 0).1 = 0 then (0, wrP s) else (nI (nuL n tx s.1 4 0 0).2, (s.1 + (nuL n tx s.1 4 0 0).1, s.2)) := by
  unfold onF
  rw [if_neg (fun q => q h), if_neg hc, if_neg hn]
theorem nm_0 {c : Nat} (h : nmN c < 6) : c ≠ 0 := fun q => by rw [q] at h; exact absurd h (by decide)
theorem nuL_x {a m j x : Nat} (h : ¬ (48 ≤ byN n tx (a + j) ∧ byN n tx (a + j) ≤ 57)) : nuL n tx a (m + 1) j x = (j, x) := by
  show (if a + j < n then (if dgB (tx (a + j)) = true then _ else (j, x)) else (j, x)) = _
  by_cases q : a + j < n
  · rw [if_pos q, if_neg (fun q2 => h ?_)]
    have e : byN n tx (a + j) = tx (a + j) := if_pos q
    unfold dgB at q2
    simp only [Bool.and_eq_true, decide_eq_true_eq] at q2
    rw [e]
    exact q2
  · rw [if_neg q]
theorem nuL_y {a m j x : Nat} (h1 : 48 ≤ byN n tx (a + j)) (h2 : byN n tx (a + j) ≤ 57) : nuL n tx a (m + 1) j x = nuL n tx a m (j + 1) (10 * x + byN n tx (a + j) - 48) := by
  have hin : a + j < n := byN_in (show byN n tx (a + j) ≠ 0 by omega)
  have e : byN n tx (a + j) = tx (a + j) := if_pos hin
  rw [e] at h1 h2 ⊢
  show (if a + j < n then (if dgB (tx (a + j)) = true then nuL n tx a m (j + 1) (x * 10 + tx (a + j) - 48) else (j, x)) else (j, x)) = _
  rw [if_pos hin, if_pos (by unfold dgB; simp [h1, h2]), Nat.mul_comm]
end ONE
theorem j_post {scr : jScr} {own : String} {cc : ByteArray} {nL : Nat} {ret : Option FieldType} {d bc bs pc : Nat} {lv : List (Option Value)} {st : List Value} {w : jW} {post post' : Option Value → jW → Prop} (h : jWP scr own cc nL ret d bc bs pc lv st w post) (hp : ∀ r w, post r w → post' r w) : jWP scr own cc nL ret d bc bs pc lv st w post' := by
  intro p l e R s m args below meth c D dA A hC hI Q ad H locs ls cells slots hS hc hs hret
  exact h p l e R s m args below meth c D dA A hC hI Q ad H locs ls cells slots hS hc hs (fun r w' ad' H' locs' ls' cells' slots' pc' q1 => hret r w' ad' H' locs' ls' cells' slots' pc' (hp r w' q1))
section CT54
variable {d : Nat} {X A : Nat → Nat → Int32} {L : Nat → Nat → Int64} {w : jW} {n : Nat} {tx : Nat → Nat} {s : pS} {nm : Nat → Int32} {D o : Nat}

set_option maxHeartbeats 200000 in
set_option maxRecDepth 100000 in
theorem l_one (hw : pwO X A n tx) {a : Nat} {z : Option Nat × Nat} {y1 y2 : Int32} {r : Nat × Nat} : ∀ (m j x : Nat), j + m = 4 → pok n (a + j, z) → nuL n tx a m j x = r → jWP none RX11 cX11_one 5 (some .int) (d + 1) 0 0 176 [some (.ref 76), some (.int y1), some (.int y2), some (.int (nI x)), some (.int (nI j))] [] (tw (pX X (a + j, z)) A L) ((fun q w => q = some (.int (if r.1 = 0 then 0 else nI r.2)) ∧ w = tw (pX X (if r.1 = 0 then wrP (a, z) else (a + r.1, z))) A L)) := by
  intro m
  induction m with
  | zero =>
    intro j x hj hs hr
    have hx : nuL n tx a 0 j x = (j, x) := rfl
    have hs1 : a + j ≤ n := hs.1
    have hn120 := hw.1
    refine j_iload dX11_one_176 rfl ?_
    refine j_iconst (v := nI 4) dX11_one_178 rfl ?_
    refine jn_icmp_ge (tgt := 229) dX11_one_179 (by decide) (by omega) (by omega) (fun h179 => ?_) (fun h179 => absurd h179 (by omega))
    refine j_iload dX11_one_229 rfl ?_
    refine jn_if_ne (tgt := 241) dX11_one_231 (by decide) (by omega) (fun h231 => ?_) (fun h231 => ?_)
    · refine j_iload_n dX11_one_241 rfl rfl ?_
      refine j_ireturn dX11_one_242 rfl ?_
      have h0 : ¬ j = 0 := by omega
      refine ⟨?_, ?_⟩
      · rw [← hr, hx]; show _ = some (Value.int (if j = 0 then 0 else nI x)); rw [if_neg h0]
      · rw [← hr, hx]; show _ = tw (pX X (if j = 0 then wrP (a, z) else (a + j, z))) A L; rw [if_neg h0]
    · refine j_aload_n dX11_one_234 rfl rfl ?_
      refine j_callVi [] [] dX11_one_235 jlk_X11_196 rfl rfl rfl rfl (Nat.le_of_ble_eq_true rfl) (m_wrong (s := (a + j, z)) hw hs) ?_
      refine j_goto (tgt := 242) dX11_one_238 (by decide) ?_
      refine j_ireturn dX11_one_242 rfl ?_
      obtain rfl : j = 0 := by omega
      refine ⟨?_, ?_⟩
      · rw [← hr, hx]; rfl
      · rw [← hr, hx]; rfl
  | succ m ih =>
    intro j x hj hs hr
    have hs1 : a + j ≤ n := hs.1
    have hn120 := hw.1
    have hby := byN_lt (n := n) hw.2.1 (a + j)
    refine j_iload dX11_one_176 rfl ?_
    refine j_iconst (v := nI 4) dX11_one_178 rfl ?_
    refine jn_icmp_ge (tgt := 229) dX11_one_179 (by decide) (by omega) (by omega) (fun h179 => absurd h179 (by omega)) (fun h179 => ?_)
    refine j_aload_n dX11_one_182 rfl rfl ?_
    refine j_callVi [] [] dX11_one_183 jlk_X11_172 rfl rfl rfl rfl (Nat.le_of_ble_eq_true rfl) (m_byteAt (s := (a + j, z)) hw hs) ?_
    refine j_topE (e' := nI (byN n tx (a + j))) rfl ?_
    refine j_bipush (v := nI 48) dX11_one_186 rfl ?_
    refine jn_icmp_lt (tgt := 229) dX11_one_188 (by decide) (by omega) (by omega) (fun h188 => ?_) (fun h188 => ?_)
    · have hx : nuL n tx a (m + 1) j x = (j, x) := nuL_x (fun q => by omega)
      refine j_iload dX11_one_229 rfl ?_
      refine jn_if_ne (tgt := 241) dX11_one_231 (by decide) (by omega) (fun h231 => ?_) (fun h231 => ?_)
      · refine j_iload_n dX11_one_241 rfl rfl ?_
        refine j_ireturn dX11_one_242 rfl ?_
        have h0 : ¬ j = 0 := by omega
        refine ⟨?_, ?_⟩
        · rw [← hr, hx]; show _ = some (Value.int (if j = 0 then 0 else nI x)); rw [if_neg h0]
        · rw [← hr, hx]; show _ = tw (pX X (if j = 0 then wrP (a, z) else (a + j, z))) A L; rw [if_neg h0]
      · refine j_aload_n dX11_one_234 rfl rfl ?_
        refine j_callVi [] [] dX11_one_235 jlk_X11_196 rfl rfl rfl rfl (Nat.le_of_ble_eq_true rfl) (m_wrong (s := (a + j, z)) hw hs) ?_
        refine j_goto (tgt := 242) dX11_one_238 (by decide) ?_
        refine j_ireturn dX11_one_242 rfl ?_
        obtain rfl : j = 0 := by omega
        refine ⟨?_, ?_⟩
        · rw [← hr, hx]; rfl
        · rw [← hr, hx]; rfl
    · refine j_aload_n dX11_one_191 rfl rfl ?_
      refine j_callVi [] [] dX11_one_192 jlk_X11_172 rfl rfl rfl rfl (Nat.le_of_ble_eq_true rfl) (m_byteAt (s := (a + j, z)) hw hs) ?_
      refine j_topE (e' := nI (byN n tx (a + j))) rfl ?_
      refine j_bipush (v := nI 57) dX11_one_195 rfl ?_
      refine jn_icmp_gt (tgt := 229) dX11_one_197 (by decide) (by omega) (by omega) (fun h197 => ?_) (fun h197 => ?_)
      · have hx : nuL n tx a (m + 1) j x = (j, x) := nuL_x (fun q => by omega)
        refine j_iload dX11_one_229 rfl ?_
        refine jn_if_ne (tgt := 241) dX11_one_231 (by decide) (by omega) (fun h231 => ?_) (fun h231 => ?_)
        · refine j_iload_n dX11_one_241 rfl rfl ?_
          refine j_ireturn dX11_one_242 rfl ?_
          have h0 : ¬ j = 0 := by omega
          refine ⟨?_, ?_⟩
          · rw [← hr, hx]; show _ = some (Value.int (if j = 0 then 0 else nI x)); rw [if_neg h0]
          · rw [← hr, hx]; show _ = tw (pX X (if j = 0 then wrP (a, z) else (a + j, z))) A L; rw [if_neg h0]
        · refine j_aload_n dX11_one_234 rfl rfl ?_
          refine j_callVi [] [] dX11_one_235 jlk_X11_196 rfl rfl rfl rfl (Nat.le_of_ble_eq_true rfl) (m_wrong (s := (a + j, z)) hw hs) ?_
          refine j_goto (tgt := 242) dX11_one_238 (by decide) ?_
          refine j_ireturn dX11_one_242 rfl ?_
          obtain rfl : j = 0 := by omega
          refine ⟨?_, ?_⟩
          · rw [← hr, hx]; rfl
          · rw [← hr, hx]; rfl
      · refine j_bipush (v := nI 10) dX11_one_200 rfl ?_
        refine j_iload_n dX11_one_202 rfl rfl ?_
        refine jn_imul dX11_one_203 ?_
        refine j_aload_n dX11_one_204 rfl rfl ?_
        refine j_callVi [] [.int _] dX11_one_205 jlk_X11_172 rfl rfl rfl rfl (Nat.le_of_ble_eq_true rfl) (m_byteAt (s := (a + j, z)) hw hs) ?_
        refine j_topE (e' := nI (byN n tx (a + j))) rfl ?_
        refine jn_iadd dX11_one_208 ?_
        refine j_bipush (v := nI 48) dX11_one_209 rfl ?_
        refine jn_isub dX11_one_211 (by omega) ?_
        refine j_istore_n (lv' := [some (.ref 76), some (.int _), some (.int _), some (.int _), some (.int _)]) dX11_one_212 rfl (by decide) rfl ?_
        refine jn_iinc (lv' := [some (.ref 76), some (.int _), some (.int _), some (.int _), some (.int _)]) dX11_one_213 rfl (by decide) rfl ?_
        refine j_aload_n dX11_one_216 rfl rfl ?_
        refine j_dup dX11_one_217 rfl ?_
        refine t_getI dX11_one_218 jfl_X11_160 (fun _ _ _ => rfl) (fun _ => rfl) ?_
        refine j_topE pX_17 ?_
        refine j_iconst (v := nI 1) dX11_one_221 rfl ?_
        refine jn_iadd dX11_one_222 ?_
        refine t_putI dX11_one_223 jfl_X11_160 (fun _ _ _ => rfl) (fun _ _ => rfl) (Nat.le_of_ble_eq_true rfl) rfl rfl ?_
        rw [pX_p17]
        refine j_goto (tgt := 176) dX11_one_226 (by decide) ?_
        refine j_atw (w' := tw (pX X (a + (j + 1), z)) A L) rfl (ih (j + 1) _ (by omega) ⟨byN_in (show byN n tx (a + j) ≠ 0 by omega), hs.2.1, hs.2.2⟩ ?_)
        rw [← hr]
        exact (nuL_y (by omega) (by omega)).symm

set_option maxHeartbeats 200000 in
set_option maxRecDepth 100000 in
theorem m_one_0 (hw : pwO X A n tx) (hs : pok n s) (hf : s.2.1 ≠ none) : jMet (d + 2) yX11_one cX11_one 5 (some .int) 0 0 [.ref 76] (tw (pX X s) A L) (jRi 0 (tw (pX X s) A L)) := by
  refine jMet_of (by decide) (Nat.le_of_ble_eq_true rfl) none (Or.inl rfl) ?_
  show jWP none RX11 cX11_one 5 (some .int) (d + 2) 0 0 0 [some (.ref 76), none, none, none, none] [] (tw (pX X s) A L) (jRi 0 (tw (pX X s) A L))
  have hn120 := hw.1
  refine j_aload_n dX11_one_0 rfl rfl ?_
  refine t_getI dX11_one_1 jfl_X11_169 (fun _ _ _ => rfl) (fun _ => rfl) ?_
  refine j_topE pX_19 ?_
  refine j_if_lt (tgt := 9) dX11_one_4 (by decide) (fun h4 => absurd (flt_lt hn120 hs h4) hf) (fun h4 => ?_)
  refine j_iconst (v := nI 0) dX11_one_7 rfl ?_
  refine j_ireturn dX11_one_8 rfl ?_
  exact ⟨rfl, rfl⟩

set_option maxHeartbeats 200000 in
set_option maxRecDepth 100000 in
theorem m_one_s (hw : pwO X A n tx) (hnm : A 88 = nm) (hgo : gP n (onF n tx nm D) (o + 1)) (h1 : ∀ s, pok n s → (s.2.1 = none → s.2.2 = o + 1) → jMet (d + 7) yX11_one cX11_one 5 (some .int) 0 0 [.ref 76] (tw (pX X s) A L) (jRi ((onF n tx nm D) s).1 (tw (pX X ((onF n tx nm D) s).2) A L))) (h2 : ∀ s, pok n s → (s.2.1 = none → s.2.2 = o + 1) → jMet (d + 7) yX11_either cX11_either 3 (some .int) 0 0 [.ref 76] (tw (pX X s) A L) (jRi ((exF n tx (onF n tx nm D)) s).1 (tw (pX X ((exF n tx (onF n tx nm D)) s).2) A L))) (hs : pok n s) (ho : s.2.1 = none → s.2.2 = o) : jMet (d + 8) yX11_one cX11_one 5 (some .int) 0 0 [.ref 76] (tw (pX X s) A L) (jRi (onF n tx nm (D + 1) s).1 (tw (pX X (onF n tx nm (D + 1) s).2) A L)) := by
  refine jMet_of (by decide) (Nat.le_of_ble_eq_true rfl) none (Or.inl rfl) ?_
  show jWP none RX11 cX11_one 5 (some .int) (d + 8) 0 0 0 [some (.ref 76), none, none, none, none] [] (tw (pX X s) A L) (jRi (onF n tx nm (D + 1) s).1 (tw (pX X (onF n tx nm (D + 1) s).2) A L))
  have hn120 := hw.1
  have hs1 := hs.1
  have hs6 := hs.2.2
  have hby := byN_lt (n := n) hw.2.1 s.1
  refine j_aload_n dX11_one_0 rfl rfl ?_
  refine t_getI dX11_one_1 jfl_X11_169 (fun _ _ _ => rfl) (fun _ => rfl) ?_
  refine j_topE pX_19 ?_
  refine j_if_lt (tgt := 9) dX11_one_4 (by decide) (fun h4 => ?_) (fun h4 => ?_)
  · refine j_aload_n dX11_one_9 rfl rfl ?_
    refine j_callVi [] [] dX11_one_10 jlk_X11_172 rfl rfl rfl rfl (Nat.le_of_ble_eq_true rfl) (m_byteAt hw hs) ?_
    refine j_istore_n (lv' := [some (.ref 76), some (.int _), none, none, none]) dX11_one_13 rfl (by decide) rfl ?_
    refine j_iload_n dX11_one_14 rfl rfl ?_
    refine j_bipush (v := nI 33) dX11_one_15 rfl ?_
    refine jn_icmp_eq (tgt := 32) dX11_one_17 (by decide) (by omega) (by omega) (fun h17 => ?_) (fun h17 => ?_)
    · refine j_aload_n dX11_one_32 rfl rfl ?_
      refine t_getI dX11_one_33 jfl_X11_193 (fun _ _ _ => rfl) (fun _ => rfl) ?_
      refine j_topE pX_20 ?_
      refine j_bipush (v := nI 6) dX11_one_36 rfl ?_
      refine jn_icmp_ne (tgt := 46) dX11_one_38 (by decide) (by omega) (by omega) (fun h38 => ?_) (fun h38 => ?_)
      · have ho1 : s.2.2 + 1 = o + 1 := by have := ho (flt_lt hn120 hs h4); omega
        have hp1 : pok n (s1P s) := ⟨byN_in (show byN n tx s.1 ≠ 0 by omega), hs.2.1, (show s.2.2 + 1 ≤ 6 by omega)⟩
        refine j_aload_n dX11_one_46 rfl rfl ?_
        refine j_dup dX11_one_47 rfl ?_
        refine t_getI dX11_one_48 jfl_X11_193 (fun _ _ _ => rfl) (fun _ => rfl) ?_
        refine j_topE pX_20 ?_
        refine j_iconst (v := nI 1) dX11_one_51 rfl ?_
        refine jn_iadd dX11_one_52 ?_
        refine t_putI dX11_one_53 jfl_X11_193 (fun _ _ _ => rfl) (fun _ _ => rfl) (Nat.le_of_ble_eq_true rfl) rfl rfl ?_
        rw [pX_p20]
        refine j_aload_n dX11_one_56 rfl rfl ?_
        refine j_dup dX11_one_57 rfl ?_
        refine t_getI dX11_one_58 jfl_X11_160 (fun _ _ _ => rfl) (fun _ => rfl) ?_
        refine j_topE pX_17 ?_
        refine j_iconst (v := nI 1) dX11_one_61 rfl ?_
        refine jn_iadd dX11_one_62 ?_
        refine t_putI dX11_one_63 jfl_X11_160 (fun _ _ _ => rfl) (fun _ _ => rfl) (Nat.le_of_ble_eq_true rfl) rfl rfl ?_
        rw [pX_p17]
        refine j_iload_n dX11_one_66 rfl rfl ?_
        refine j_bipush (v := nI 40) dX11_one_67 rfl ?_
        refine jn_icmp_ne (tgt := 79) dX11_one_69 (by decide) (by omega) (by omega) (fun h69 => ?_) (fun h69 => absurd h69 (by omega))
        refine j_aload_n dX11_one_79 rfl rfl ?_
        obtain ⟨g1, g2, g3, g4⟩ := hgo (s1P s) hp1 (fun _ => ho1)
        have g4 : s.2.2 + 1 ≤ _ := g4
        refine j_atw (w' := tw (pX X (s1P s)) A L) rfl ?_
        refine j_callVi [] [] dX11_one_80 jlk_X11_190 rfl rfl rfl rfl (Nat.le_of_ble_eq_true rfl) (h1 (s1P s) hp1 (fun _ => ho1)) ?_
        refine j_istore_n (lv' := [some (.ref 76), some (.int _), some (.int _), none, none]) dX11_one_83 rfl (by decide) rfl ?_
        refine j_iload_n dX11_one_84 rfl rfl ?_
        refine j_bipush (v := nI 40) dX11_one_85 rfl ?_
        refine jn_icmp_ne (tgt := 104) dX11_one_87 (by decide) (by omega) (by omega) (fun h87 => ?_) (fun h87 => absurd h87 (by omega))
        refine j_aload_n dX11_one_104 rfl rfl ?_
        refine j_dup dX11_one_105 rfl ?_
        refine t_getI dX11_one_106 jfl_X11_193 (fun _ _ _ => rfl) (fun _ => rfl) ?_
        refine j_topE pX_20 ?_
        refine j_iconst (v := nI 1) dX11_one_109 rfl ?_
        refine jn_isub dX11_one_110 (Nat.le_trans (Nat.le_add_left 1 s.2.2) g4) ?_
        refine t_putI dX11_one_111 jfl_X11_193 (fun _ _ _ => rfl) (fun _ _ => rfl) (Nat.le_of_ble_eq_true rfl) rfl rfl ?_
        rw [pX_p20]
        refine j_iload_n dX11_one_114 rfl rfl ?_
        refine j_bipush (v := nI 40) dX11_one_115 rfl ?_
        refine jn_icmp_ne (tgt := 124) dX11_one_117 (by decide) (by omega) (by omega) (fun h117 => ?_) (fun h117 => absurd h117 (by omega))
        refine j_iload_n dX11_one_124 rfl rfl ?_
        refine j_bipush (v := nI 45) dX11_one_125 rfl ?_
        refine jn_icmp_ne (tgt := 135) dX11_one_127 (by decide) (by omega) (by omega) (fun h127 => ?_) (fun h127 => absurd h127 (by omega))
        refine j_iload_n dX11_one_135 rfl rfl ?_
        refine j_if_ne (tgt := 143) dX11_one_136 (by decide) (fun h136 => ?_) (fun h136 => ?_)
        · refine j_iconst (v := nI 0) dX11_one_143 rfl ?_
          refine j_ireturn dX11_one_144 rfl ?_
          rw [on_u (flt_lt hn120 hs h4) (Or.inl h17) (by omega), if_neg (by omega), if_neg h136]
          exact ⟨rfl, rfl⟩
        · refine j_iconst (v := nI 1) dX11_one_139 rfl ?_
          refine j_goto (tgt := 144) dX11_one_140 (by decide) ?_
          refine j_ireturn dX11_one_144 rfl ?_
          rw [on_u (flt_lt hn120 hs h4) (Or.inl h17) (by omega), if_neg (by omega), if_pos (by first | exact h136 | simpa using h136)]
          exact ⟨rfl, rfl⟩
      · refine j_aload_n dX11_one_41 rfl rfl ?_
        refine j_callVi [] [] dX11_one_42 jlk_X11_196 rfl rfl rfl rfl (Nat.le_of_ble_eq_true rfl) (m_wrong hw hs) ?_
        refine j_ireturn dX11_one_45 rfl ?_
        rw [on_6 (flt_lt hn120 hs h4) (Or.inl h17) (by omega)]
        exact ⟨rfl, rfl⟩
    · refine j_iload_n dX11_one_20 rfl rfl ?_
      refine j_bipush (v := nI 45) dX11_one_21 rfl ?_
      refine jn_icmp_eq (tgt := 32) dX11_one_23 (by decide) (by omega) (by omega) (fun h23 => ?_) (fun h23 => ?_)
      · refine j_aload_n dX11_one_32 rfl rfl ?_
        refine t_getI dX11_one_33 jfl_X11_193 (fun _ _ _ => rfl) (fun _ => rfl) ?_
        refine j_topE pX_20 ?_
        refine j_bipush (v := nI 6) dX11_one_36 rfl ?_
        refine jn_icmp_ne (tgt := 46) dX11_one_38 (by decide) (by omega) (by omega) (fun h38 => ?_) (fun h38 => ?_)
        · have ho1 : s.2.2 + 1 = o + 1 := by have := ho (flt_lt hn120 hs h4); omega
          have hp1 : pok n (s1P s) := ⟨byN_in (show byN n tx s.1 ≠ 0 by omega), hs.2.1, (show s.2.2 + 1 ≤ 6 by omega)⟩
          refine j_aload_n dX11_one_46 rfl rfl ?_
          refine j_dup dX11_one_47 rfl ?_
          refine t_getI dX11_one_48 jfl_X11_193 (fun _ _ _ => rfl) (fun _ => rfl) ?_
          refine j_topE pX_20 ?_
          refine j_iconst (v := nI 1) dX11_one_51 rfl ?_
          refine jn_iadd dX11_one_52 ?_
          refine t_putI dX11_one_53 jfl_X11_193 (fun _ _ _ => rfl) (fun _ _ => rfl) (Nat.le_of_ble_eq_true rfl) rfl rfl ?_
          rw [pX_p20]
          refine j_aload_n dX11_one_56 rfl rfl ?_
          refine j_dup dX11_one_57 rfl ?_
          refine t_getI dX11_one_58 jfl_X11_160 (fun _ _ _ => rfl) (fun _ => rfl) ?_
          refine j_topE pX_17 ?_
          refine j_iconst (v := nI 1) dX11_one_61 rfl ?_
          refine jn_iadd dX11_one_62 ?_
          refine t_putI dX11_one_63 jfl_X11_160 (fun _ _ _ => rfl) (fun _ _ => rfl) (Nat.le_of_ble_eq_true rfl) rfl rfl ?_
          rw [pX_p17]
          refine j_iload_n dX11_one_66 rfl rfl ?_
          refine j_bipush (v := nI 40) dX11_one_67 rfl ?_
          refine jn_icmp_ne (tgt := 79) dX11_one_69 (by decide) (by omega) (by omega) (fun h69 => ?_) (fun h69 => absurd h69 (by omega))
          refine j_aload_n dX11_one_79 rfl rfl ?_
          obtain ⟨g1, g2, g3, g4⟩ := hgo (s1P s) hp1 (fun _ => ho1)
          have g4 : s.2.2 + 1 ≤ _ := g4
          refine j_atw (w' := tw (pX X (s1P s)) A L) rfl ?_
          refine j_callVi [] [] dX11_one_80 jlk_X11_190 rfl rfl rfl rfl (Nat.le_of_ble_eq_true rfl) (h1 (s1P s) hp1 (fun _ => ho1)) ?_
          refine j_istore_n (lv' := [some (.ref 76), some (.int _), some (.int _), none, none]) dX11_one_83 rfl (by decide) rfl ?_
          refine j_iload_n dX11_one_84 rfl rfl ?_
          refine j_bipush (v := nI 40) dX11_one_85 rfl ?_
          refine jn_icmp_ne (tgt := 104) dX11_one_87 (by decide) (by omega) (by omega) (fun h87 => ?_) (fun h87 => absurd h87 (by omega))
          refine j_aload_n dX11_one_104 rfl rfl ?_
          refine j_dup dX11_one_105 rfl ?_
          refine t_getI dX11_one_106 jfl_X11_193 (fun _ _ _ => rfl) (fun _ => rfl) ?_
          refine j_topE pX_20 ?_
          refine j_iconst (v := nI 1) dX11_one_109 rfl ?_
          refine jn_isub dX11_one_110 (Nat.le_trans (Nat.le_add_left 1 s.2.2) g4) ?_
          refine t_putI dX11_one_111 jfl_X11_193 (fun _ _ _ => rfl) (fun _ _ => rfl) (Nat.le_of_ble_eq_true rfl) rfl rfl ?_
          rw [pX_p20]
          refine j_iload_n dX11_one_114 rfl rfl ?_
          refine j_bipush (v := nI 40) dX11_one_115 rfl ?_
          refine jn_icmp_ne (tgt := 124) dX11_one_117 (by decide) (by omega) (by omega) (fun h117 => ?_) (fun h117 => absurd h117 (by omega))
          refine j_iload_n dX11_one_124 rfl rfl ?_
          refine j_bipush (v := nI 45) dX11_one_125 rfl ?_
          refine jn_icmp_ne (tgt := 135) dX11_one_127 (by decide) (by omega) (by omega) (fun h127 => absurd h127 (by omega)) (fun h127 => ?_)
          refine j_iload_n dX11_one_130 rfl rfl ?_
          refine j_ineg dX11_one_131 ?_
          refine j_goto (tgt := 144) dX11_one_132 (by decide) ?_
          refine j_ireturn dX11_one_144 rfl ?_
          rw [on_u (flt_lt hn120 hs h4) (Or.inr h23) (by omega), if_pos h23]
          exact ⟨rfl, rfl⟩
        · refine j_aload_n dX11_one_41 rfl rfl ?_
          refine j_callVi [] [] dX11_one_42 jlk_X11_196 rfl rfl rfl rfl (Nat.le_of_ble_eq_true rfl) (m_wrong hw hs) ?_
          refine j_ireturn dX11_one_45 rfl ?_
          rw [on_6 (flt_lt hn120 hs h4) (Or.inr (Or.inl h23)) (by omega)]
          exact ⟨rfl, rfl⟩
      · refine j_iload_n dX11_one_26 rfl rfl ?_
        refine j_bipush (v := nI 40) dX11_one_27 rfl ?_
        refine jn_icmp_ne (tgt := 145) dX11_one_29 (by decide) (by omega) (by omega) (fun h29 => ?_) (fun h29 => ?_)
        · refine j_iload_n dX11_one_145 rfl rfl ?_
          refine j_callSi [.int _] [] dX11_one_146 jlk_X11_202 rfl rfl (Nat.le_of_ble_eq_true rfl) (m_nameOf hby) ?_
          refine j_istore_n (lv' := [some (.ref 76), some (.int _), some (.int _), none, none]) dX11_one_149 rfl (by decide) rfl ?_
          refine j_iload_n dX11_one_150 rfl rfl ?_
          refine j_if_lt (tgt := 171) dX11_one_151 (by decide) (fun h151 => ?_) (fun h151 => ?_)
          · have hnm6 : ¬ nmN (byN n tx s.1) < 6 := fun q => by unfold ixN at h151; rw [if_pos q] at h151; exact nI_pos (by omega) h151
            refine j_iconst (v := nI 0) dX11_one_171 rfl ?_
            refine j_istore_n (lv' := [some (.ref 76), some (.int _), some (.int _), some (.int _), none]) dX11_one_172 rfl (by decide) rfl ?_
            refine j_iconst (v := nI 0) dX11_one_173 rfl ?_
            refine j_istore (lv' := [some (.ref 76), some (.int _), some (.int _), some (.int _), some (.int _)]) dX11_one_174 (by decide) rfl ?_
            have e := on_d (n := n) (tx := tx) (nm := nm) (D := D) (flt_lt hn120 hs h4) (fun q => by omega) hnm6
            rw [e]
            refine j_post (l_one hw (a := s.1) (z := s.2) (r := nuL n tx s.1 4 0 0) 4 0 0 rfl hs rfl) ?_
            rintro q w ⟨rfl, rfl⟩
            by_cases hd : (nuL n tx s.1 4 0 0).1 = 0
            · rw [if_pos hd, if_pos hd, if_pos hd]; exact ⟨rfl, rfl⟩
            · rw [if_neg hd, if_neg hd, if_neg hd]; exact ⟨rfl, rfl⟩
          · have hnm6 : nmN (byN n tx s.1) < 6 := Nat.lt_of_not_le fun q => by unfold ixN at h151; rw [if_neg (by omega)] at h151; exact absurd (by decide) h151
            refine j_at (lv' := [some (.ref 76), some (.int _), some (.int (nI (nmN (byN n tx s.1)))), none, none]) (by unfold ixN; rw [if_pos hnm6]) ?_
            refine j_aload_n dX11_one_154 rfl rfl ?_
            refine j_dup dX11_one_155 rfl ?_
            refine t_getI dX11_one_156 jfl_X11_160 (fun _ _ _ => rfl) (fun _ => rfl) ?_
            refine j_topE pX_17 ?_
            refine j_iconst (v := nI 1) dX11_one_159 rfl ?_
            refine jn_iadd dX11_one_160 ?_
            refine t_putI dX11_one_161 jfl_X11_160 (fun _ _ _ => rfl) (fun _ _ => rfl) (Nat.le_of_ble_eq_true rfl) rfl rfl ?_
            rw [pX_p17]
            refine j_aload_n dX11_one_164 rfl rfl ?_
            refine t_getR (b := 88) dX11_one_165 jfl_X11_45 (fun _ _ _ => rfl) rfl ?_
            refine j_iload_n dX11_one_168 rfl rfl ?_
            refine t_iaload dX11_one_169 (fun _ _ _ => rfl) (by omega) (by decide) ?_
            refine j_topE (e' := nm (nmN (byN n tx s.1))) (by rw [hnm]) ?_
            refine j_ireturn dX11_one_170 rfl ?_
            rw [on_n (flt_lt hn120 hs h4) (fun q => by omega) hnm6]
            exact ⟨rfl, rfl⟩
        · refine j_aload_n dX11_one_32 rfl rfl ?_
          refine t_getI dX11_one_33 jfl_X11_193 (fun _ _ _ => rfl) (fun _ => rfl) ?_
          refine j_topE pX_20 ?_
          refine j_bipush (v := nI 6) dX11_one_36 rfl ?_
          refine jn_icmp_ne (tgt := 46) dX11_one_38 (by decide) (by omega) (by omega) (fun h38 => ?_) (fun h38 => ?_)
          · have ho1 : s.2.2 + 1 = o + 1 := by have := ho (flt_lt hn120 hs h4); omega
            have hp1 : pok n (s1P s) := ⟨byN_in (show byN n tx s.1 ≠ 0 by omega), hs.2.1, (show s.2.2 + 1 ≤ 6 by omega)⟩
            refine j_aload_n dX11_one_46 rfl rfl ?_
            refine j_dup dX11_one_47 rfl ?_
            refine t_getI dX11_one_48 jfl_X11_193 (fun _ _ _ => rfl) (fun _ => rfl) ?_
            refine j_topE pX_20 ?_
            refine j_iconst (v := nI 1) dX11_one_51 rfl ?_
            refine jn_iadd dX11_one_52 ?_
            refine t_putI dX11_one_53 jfl_X11_193 (fun _ _ _ => rfl) (fun _ _ => rfl) (Nat.le_of_ble_eq_true rfl) rfl rfl ?_
            rw [pX_p20]
            refine j_aload_n dX11_one_56 rfl rfl ?_
            refine j_dup dX11_one_57 rfl ?_
            refine t_getI dX11_one_58 jfl_X11_160 (fun _ _ _ => rfl) (fun _ => rfl) ?_
            refine j_topE pX_17 ?_
            refine j_iconst (v := nI 1) dX11_one_61 rfl ?_
            refine jn_iadd dX11_one_62 ?_
            refine t_putI dX11_one_63 jfl_X11_160 (fun _ _ _ => rfl) (fun _ _ => rfl) (Nat.le_of_ble_eq_true rfl) rfl rfl ?_
            rw [pX_p17]
            refine j_iload_n dX11_one_66 rfl rfl ?_
            refine j_bipush (v := nI 40) dX11_one_67 rfl ?_
            refine jn_icmp_ne (tgt := 79) dX11_one_69 (by decide) (by omega) (by omega) (fun h69 => absurd h69 (by omega)) (fun h69 => ?_)
            refine j_aload_n dX11_one_72 rfl rfl ?_
            have hg2 := g_exF (tx := tx) hgo
            obtain ⟨g1, g2, g3, g4⟩ := hg2 (s1P s) hp1 (fun _ => ho1)
            have g4 : s.2.2 + 1 ≤ _ := g4
            refine j_atw (w' := tw (pX X (s1P s)) A L) rfl ?_
            refine j_callVi [] [] dX11_one_73 jlk_X11_199 rfl rfl rfl rfl (Nat.le_of_ble_eq_true rfl) (h2 (s1P s) hp1 (fun _ => ho1)) ?_
            refine j_goto (tgt := 83) dX11_one_76 (by decide) ?_
            refine j_istore_n (lv' := [some (.ref 76), some (.int _), some (.int _), none, none]) dX11_one_83 rfl (by decide) rfl ?_
            refine j_iload_n dX11_one_84 rfl rfl ?_
            refine j_bipush (v := nI 40) dX11_one_85 rfl ?_
            refine jn_icmp_ne (tgt := 104) dX11_one_87 (by decide) (by omega) (by omega) (fun h87 => absurd h87 (by omega)) (fun h87 => ?_)
            refine j_aload_n dX11_one_90 rfl rfl ?_
            refine j_bipush (v := nI 41) dX11_one_91 rfl ?_
            refine j_callVi [.int _] [] dX11_one_93 jlk_X11_179 rfl rfl rfl rfl (Nat.le_of_ble_eq_true rfl) (m_takes hw g1 (by decide)) ?_
            refine j_if_ne (tgt := 104) dX11_one_96 (by decide) (fun h96 => ?_) (fun h96 => ?_)
            · have ht := bz_t h96
              rw [if_pos ht]
              refine j_aload_n dX11_one_104 rfl rfl ?_
              refine j_dup dX11_one_105 rfl ?_
              refine t_getI dX11_one_106 jfl_X11_193 (fun _ _ _ => rfl) (fun _ => rfl) ?_
              refine j_topE pX_20 ?_
              refine j_iconst (v := nI 1) dX11_one_109 rfl ?_
              refine jn_isub dX11_one_110 (Nat.le_trans (Nat.le_add_left 1 s.2.2) g4) ?_
              refine t_putI dX11_one_111 jfl_X11_193 (fun _ _ _ => rfl) (fun _ _ => rfl) (Nat.le_of_ble_eq_true rfl) rfl rfl ?_
              rw [pX_p20]
              refine j_iload_n dX11_one_114 rfl rfl ?_
              refine j_bipush (v := nI 40) dX11_one_115 rfl ?_
              refine jn_icmp_ne (tgt := 124) dX11_one_117 (by decide) (by omega) (by omega) (fun h117 => absurd h117 (by omega)) (fun h117 => ?_)
              refine j_iload_n dX11_one_120 rfl rfl ?_
              refine j_goto (tgt := 144) dX11_one_121 (by decide) ?_
              refine j_ireturn dX11_one_144 rfl ?_
              rw [on_p (flt_lt hn120 hs h4) h29 (by omega) ht]
              exact ⟨rfl, rfl⟩
            · rw [if_neg (by rw [bz_f h96]; decide)]
              refine j_aload_n dX11_one_99 rfl rfl ?_
              refine j_callVi [] [] dX11_one_100 jlk_X11_196 rfl rfl rfl rfl (Nat.le_of_ble_eq_true rfl) (m_wrong hw g1) ?_
              refine j_ireturn dX11_one_103 rfl ?_
              rw [on_q (flt_lt hn120 hs h4) h29 (by omega) (bz_f h96)]
              exact ⟨rfl, rfl⟩
          · refine j_aload_n dX11_one_41 rfl rfl ?_
            refine j_callVi [] [] dX11_one_42 jlk_X11_196 rfl rfl rfl rfl (Nat.le_of_ble_eq_true rfl) (m_wrong hw hs) ?_
            refine j_ireturn dX11_one_45 rfl ?_
            rw [on_6 (flt_lt hn120 hs h4) (Or.inr (Or.inr h29)) (by omega)]
            exact ⟨rfl, rfl⟩
  · refine j_iconst (v := nI 0) dX11_one_7 rfl ?_
    refine j_ireturn dX11_one_8 rfl ?_
    have e := on_f (n := n) (tx := tx) (nm := nm) (D := D) (flt_ge h4)
    rw [e]
    exact ⟨rfl, rfl⟩

theorem m_either_l (hw : pwO X A n tx) (hg : gP n (onF n tx nm D) o) (h1 : ∀ s, pok n s → (s.2.1 = none → s.2.2 = o) → jMet (d + 2) yX11_one cX11_one 5 (some .int) 0 0 [.ref 76] (tw (pX X s) A L) (jRi (onF n tx nm D s).1 (tw (pX X (onF n tx nm D s).2) A L))) : ∀ s, pok n s → (s.2.1 = none → s.2.2 = o) → jMet (d + 7) yX11_either cX11_either 3 (some .int) 0 0 [.ref 76] (tw (pX X s) A L) (jRi (exF n tx (onF n tx nm D) s).1 (tw (pX X (exF n tx (onF n tx nm D) s).2) A L)) := by
  have g5 := g_lvF (tx := tx) hg (l := 5) (by decide)
  have g4 := g_lvF (tx := tx) g5 (l := 4) (by decide)
  have g3 := g_cmF (tx := tx) g4
  have g2 := g_lvF (tx := tx) g3 (l := 2) (by decide)
  exact fun s hs ho => m_either hw g2 (fun s hs ho => m_both hw g3 (fun s hs ho => m_compared hw g4 (fun s hs ho => m_sums hw g5 (fun s hs ho => m_product hw hg h1 hs ho) hs ho) hs ho) hs ho) hs ho
theorem m_one (hw : pwO X A n tx) (hnm : A 88 = nm) : ∀ (D o d : Nat), o + D = 7 → ∀ s, pok n s → (s.2.1 = none → s.2.2 = o) → jMet (d + (6 * D + 2)) yX11_one cX11_one 5 (some .int) 0 0 [.ref 76] (tw (pX X s) A L) (jRi (onF n tx nm D s).1 (tw (pX X (onF n tx nm D s).2) A L)) := by
  intro D
  induction D with
  | zero =>
    intro o d ho s hs h2
    have hf : s.2.1 ≠ none := fun q => by have := h2 q; have := hs.2.2; omega
    have e := on_f (n := n) (tx := tx) (nm := nm) (D := 0) hf
    exact m_one_0 hw hs hf
  | succ D ih =>
    intro o d ho s hs h2
    have hd : d + (6 * (D + 1) + 2) = d + 6 * D + 8 := by omega
    rw [hd]
    have i1 : ∀ s, pok n s → (s.2.1 = none → s.2.2 = o + 1) → jMet (d + 6 * D + 7) yX11_one cX11_one 5 (some .int) 0 0 [.ref 76] (tw (pX X s) A L) (jRi (onF n tx nm D s).1 (tw (pX X (onF n tx nm D s).2) A L)) := fun s a b => by
      have q := ih (o + 1) (d + 5) (by omega) s a b
      rw [show d + 5 + (6 * D + 2) = d + 6 * D + 7 by omega] at q
      exact q
    have i2 : ∀ s, pok n s → (s.2.1 = none → s.2.2 = o + 1) → jMet (d + 6 * D + 2) yX11_one cX11_one 5 (some .int) 0 0 [.ref 76] (tw (pX X s) A L) (jRi (onF n tx nm D s).1 (tw (pX X (onF n tx nm D s).2) A L)) := fun s a b => by
      have q := ih (o + 1) d (by omega) s a b
      rw [show d + (6 * D + 2) = d + 6 * D + 2 by omega] at q
      exact q
    have hgo := g_onF (n := n) (tx := tx) (nm := nm) D (o + 1) (by omega)
    exact m_one_s hw hnm hgo i1 (m_either_l hw hgo i2) hs h2
def exT (n : Nat) (tx : Nat → Nat) (nm : Nat → Int32) : pS → Int32 × pS := exF n tx (onF n tx nm 7)
theorem g_exT : gP n (exT n tx nm) 0 := g_exF (g_onF 7 0 (by decide))
theorem m_exT (hw : pwO X A n tx) (hnm : A 88 = nm) (hs : pok n s) (ho : s.2.1 = none → s.2.2 = 0) : jMet (d + 49) yX11_either cX11_either 3 (some .int) 0 0 [.ref 76] (tw (pX X s) A L) (jRi (exT n tx nm s).1 (tw (pX X (exT n tx nm s).2) A L)) :=
  m_either_l (d := d + 42) hw (g_onF 7 0 (by decide)) (fun s a b => m_one hw hnm 7 0 d (by decide) s a b) s hs ho

end CT54