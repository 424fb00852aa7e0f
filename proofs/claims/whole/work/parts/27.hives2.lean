theorem kact_cases {k t : Nat} (hk : k < 8) (ht : t < 4) : (kact k t = 0 ∧ t = 0) ∨ (kact k t = 0 ∧ t = 3) ∨ (kact k t = 0 ∧ t = 1) ∨ (kact k t = 0 ∧ t = 2) ∨ (kact k t = 1 ∧ t = 0) ∨ (kact k t = 2 ∧ t = 1) ∨ (kact k t = 3 ∧ t = 2) ∨ (kact k t = 3 ∧ t = 1) ∨ (kact k t = 4 ∧ t = 2) ∨ (kact k t = 5 ∧ t = 3) ∨ (kact k t = 6 ∧ t = 0) ∨ (kact k t = 7 ∧ t = 1) ∨ (kact k t = 7 ∧ t = 3) := by
  rcases (show k = 0 ∨ k = 1 ∨ k = 2 ∨ k = 3 ∨ k = 4 ∨ k = 5 ∨ k = 6 ∨ k = 7 by omega) with rfl | rfl | rfl | rfl | rfl | rfl | rfl | rfl <;>
  rcases (show t = 0 ∨ t = 1 ∨ t = 2 ∨ t = 3 by omega) with rfl | rfl | rfl | rfl <;> decide
section CT7
variable {d : Nat} {X A : Nat → Nat → Int32} {L : Nat → Nat → Int64} {nb : Nat} {kd : Nat → Nat}

set_option maxHeartbeats 8000000 in
set_option maxRecDepth 100000 in
theorem c_X2_acted (hb : X 60 1 = nI nb) (hb50 : nb ≤ 50) (hkd : A 61 = nIf kd) {b ks : Nat} (h4 : X 60 4 = nI b) (hbn : b < nb) (hkb : kd b = ks) (hks : ks < 8) : ∀ (f : Nat) {d k t : Nat} {x v : Int32} {ns : List Int32} {r : Nat} {tr : Nat → Int32} {dep : Nat}, acS f ks (nI b) k t x = some (v, ns) → k < 8 → t < 4 → dep + f ≤ 40 → r + ns.length < 2 ^ 30 →
    jMet (d + f + 2) yX2_acted cX2_acted 10 (some .int) 0 0 [.ref 60, .int (nI k), .int (nI t), .int x, .int (nI dep)] (tw (hX X r) (va_up A 62 tr) L) (jRi v (tw (hX X (r + ns.length)) (va_up A 62 (noteT r tr ns)) L)) := by
  intro f
  induction f with
  | zero => intro d k t x v ns r tr dep hac; cases hac
  | succ f ih =>
    intro d k t x v ns r tr dep hac hk8 ht4 hdep hr
    have hko := kact_ok hk8 ht4
    have hb' : hX X r 60 1 = nI nb := by rw [hX_n X r (by decide)]; exact hb
    have hkd' : (va_up A 62 tr) 61 = nIf kd := by rw [vu_n _ _ _ (by decide)]; exact hkd
    have hr1 : r < 2 ^ 30 := by omega
    refine jMet_of (by decide) (Nat.le_of_ble_eq_true rfl) none (Or.inl rfl) ?_
    show jWP none RX2 cX2_acted 10 (some .int) (d + (f + 1) + 2) 0 0 0 [some (.ref 60), some (.int (nI k)), some (.int (nI t)), some (.int x), some (.int (nI dep)), none, none, none, none, none] [] (tw (hX X r) (va_up A 62 tr) L) (jRi v (tw (hX X (r + ns.length)) (va_up A 62 (noteT r tr ns)) L))
    refine j_iload_n dX2_acted_0 rfl rfl ?_
    refine j_iload_n dX2_acted_1 rfl rfl ?_
    refine j_callSi [.int _, .int _] [] dX2_acted_2 jlk_X2_45 rfl rfl (Nat.le_of_ble_eq_true rfl) (c_X2_kindActing (d := d + f + 1) hk8 ht4) ?_
    refine j_istore (lv' := [some (.ref 60), some (.int _), some (.int _), some (.int _), some (.int _), some (.int _), none, none, none, none]) dX2_acted_5 (by decide) rfl ?_
    refine j_iload dX2_acted_7 rfl ?_
    refine jn_if_lt (tgt := 19) dX2_acted_9 (by decide) (by omega) ?_
    refine j_iload dX2_acted_12 rfl ?_
    refine j_bipush (v := nI 40) dX2_acted_14 rfl ?_
    refine jn_icmp_le (tgt := 21) dX2_acted_16 (by decide) (by omega) (by omega) (fun h16 => ?_) (fun h16 => by omega)
    refine j_gets_own rfl dX2_acted_21 jw_st_X2_42 ?_
    refine j_iload dX2_acted_24 rfl ?_
    refine j_iconst (v := nI 4) dX2_acted_26 rfl ?_
    refine jn_imul dX2_acted_27 ?_
    refine j_iload_n dX2_acted_28 rfl rfl ?_
    refine jn_iadd dX2_acted_29 ?_
    refine jr_iaload dX2_acted_30 rfl (by omega) (by decide) ?_
    refine j_topE (e' := nI (ownN (kact k t * 4 + t))) (jOwn_at (by omega)) ?_
    refine j_istore (lv' := [some (.ref 60), some (.int _), some (.int _), some (.int _), some (.int _), some (.int _), some (.int _), none, none, none]) dX2_acted_31 (by decide) rfl ?_
    refine j_aload_n dX2_acted_33 rfl rfl ?_
    refine j_aload_n dX2_acted_34 rfl rfl ?_
    refine t_getI dX2_acted_35 jfl_X2_25 (fun _ _ _ => rfl) (fun _ => rfl) ?_
    refine j_topE (e' := nI b) (by rw [hX_n X r (by decide)]; exact h4) ?_
    refine j_callVi [.int _] [] dX2_acted_38 jlk_X2_49 rfl rfl rfl rfl (Nat.le_of_ble_eq_true rfl) (c_X2_kindOf (d := d + f + 1) hb' hb50 hkd' hbn) ?_
    rw [hkb]
    refine j_istore (lv' := [some (.ref 60), some (.int _), some (.int _), some (.int _), some (.int _), some (.int _), some (.int _), some (.int _), none, none]) dX2_acted_41 (by decide) rfl ?_
    refine j_gets_above rfl dX2_acted_43 jw_st_X2_35 ?_
    refine j_iload dX2_acted_46 rfl ?_
    refine jr_iaload dX2_acted_48 rfl (by omega) (by decide) ?_
    refine j_istore (lv' := [some (.ref 60), some (.int _), some (.int _), some (.int _), some (.int _), some (.int _), some (.int _), some (.int _), some (.int _), none]) dX2_acted_49 (by decide) rfl ?_
    refine j_iload dX2_acted_51 rfl ?_
    refine j_iconst (v := nI 1) dX2_acted_53 rfl ?_
    refine jn_iadd dX2_acted_54 ?_
    refine j_istore (lv' := [some (.ref 60), some (.int _), some (.int _), some (.int _), some (.int _), some (.int _), some (.int _), some (.int _), some (.int _), some (.int _)]) dX2_acted_55 (by decide) rfl ?_
    refine j_aload_n dX2_acted_57 rfl rfl ?_
    refine j_iload dX2_acted_58 rfl ?_
    refine j_callVv [.int _] [] dX2_acted_60 jlk_X2_53 rfl rfl rfl rfl (Nat.le_of_ble_eq_true rfl) (c_X2_note (hX_3 X r) hr1) ?_
    rw [hX_hX, vu_up, vu_s]
    refine j_iload dX2_acted_63 rfl ?_
    rcases kact_cases hk8 ht4 with ⟨e, rfl⟩ | ⟨e, rfl⟩ | ⟨e, rfl⟩ | ⟨e, rfl⟩ | ⟨e, rfl⟩ | ⟨e, rfl⟩ | ⟨e, rfl⟩ | ⟨e, rfl⟩ | ⟨e, rfl⟩ | ⟨e, rfl⟩ | ⟨e, rfl⟩ | ⟨e, rfl⟩ | ⟨e, rfl⟩
    · rw [e]
      refine j_at (lv' := [some (.ref 60), some (.int (nI k)), some (.int (nI 0)), some (.int x), some (.int (nI dep)), some (.int (nI 0)), some (.int (nI 1)), some (.int (nI ks)), some (.int (-1)), some (.int (nI (dep + 1)))]) rfl ?_
      refine j_ats (st' := [.int (nI 1)]) rfl ?_
      refine j_atw (w' := tw (hX X (r + 1)) (va_up A 62 (noteT r tr [nI 1])) L) rfl ?_
      have hac : (some (x + nI b, [nI 1])) = some (v, ns) := by have h := hac; unfold acS at h; rw [e] at h; exact h
      simp only [Option.some.injEq, Prod.mk.injEq] at hac
      obtain ⟨rfl, rfl⟩ := hac
      refine j_lookup (off := 107) (tgt := 172) dX2_acted_65 (by decide) (by decide) (by decide) ?_
      refine j_iload_n dX2_acted_172 rfl rfl ?_
      refine j_aload_n dX2_acted_173 rfl rfl ?_
      refine t_getI dX2_acted_174 jfl_X2_25 (fun _ _ _ => rfl) (fun _ => rfl) ?_
      refine j_topE (e' := nI b) (by rw [hX_n X _ (by decide)]; exact h4) ?_
      refine j_iadd dX2_acted_177 ?_
      refine j_ireturn dX2_acted_178 rfl ?_
      refine ⟨rfl, ?_⟩
      rfl
    · rw [e]
      refine j_at (lv' := [some (.ref 60), some (.int (nI k)), some (.int (nI 3)), some (.int x), some (.int (nI dep)), some (.int (nI 0)), some (.int (nI 2)), some (.int (nI ks)), some (.int (-1)), some (.int (nI (dep + 1)))]) rfl ?_
      refine j_ats (st' := [.int (nI 2)]) rfl ?_
      refine j_atw (w' := tw (hX X (r + 1)) (va_up A 62 (noteT r tr [nI 2])) L) rfl ?_
      have hac : ((acS f ks (nI b) ks 1 x).bind fun a => (acS f ks (nI b) ks 2 (nI 1)).bind fun b' => some (a.1 - b'.1, nI 2 :: (a.2 ++ b'.2))) = some (v, ns) := by have h := hac; unfold acS at h; rw [e] at h; exact h
      obtain ⟨⟨a1, n1⟩, ha1, hac⟩ := Option.bind_eq_some_iff.mp hac
      obtain ⟨⟨a2, n2⟩, ha2, hac⟩ := Option.bind_eq_some_iff.mp hac
      simp only [Option.some.injEq, Prod.mk.injEq] at hac
      obtain ⟨rfl, rfl⟩ := hac
      simp only [List.length_cons, List.length_append] at hr
      refine j_lookup (off := 114) (tgt := 179) dX2_acted_65 (by decide) (by decide) (by decide) ?_
      refine j_aload_n dX2_acted_179 rfl rfl ?_
      refine j_iload dX2_acted_180 rfl ?_
      refine j_iconst (v := nI 1) dX2_acted_182 rfl ?_
      refine j_iload_n dX2_acted_183 rfl rfl ?_
      refine j_iload dX2_acted_184 rfl ?_
      refine j_callVi [.int _, .int _, .int _, .int _] [] dX2_acted_186 jlk_X2_38 rfl rfl rfl rfl (Nat.le_of_ble_eq_true rfl) (ih ha1 hks (by decide) (by omega) (by omega)) ?_
      refine j_aload_n dX2_acted_189 rfl rfl ?_
      refine j_iload dX2_acted_190 rfl ?_
      refine j_iconst (v := nI 2) dX2_acted_192 rfl ?_
      refine j_iconst (v := nI 1) dX2_acted_193 rfl ?_
      refine j_iload dX2_acted_194 rfl ?_
      refine j_callVi [.int _, .int _, .int _, .int _] [.int _] dX2_acted_196 jlk_X2_38 rfl rfl rfl rfl (Nat.le_of_ble_eq_true rfl) (ih ha2 hks (by decide) (by omega) (by omega)) ?_
      refine j_isub dX2_acted_199 ?_
      refine j_ireturn dX2_acted_200 rfl ?_
      refine ⟨rfl, tw_eq ?_ ?_ rfl⟩
      · exact congrArg (hX X) (by simp only [List.length_cons, List.length_append]; omega)
      · refine congrArg (va_up A 62) ?_
        simp only [noteT]
        rw [noteT_app]
    · rw [e]
      refine j_at (lv' := [some (.ref 60), some (.int (nI k)), some (.int (nI 1)), some (.int x), some (.int (nI dep)), some (.int (nI 0)), some (.int (nI 10)), some (.int (nI ks)), some (.int (-1)), some (.int (nI (dep + 1)))]) rfl ?_
      refine j_ats (st' := [.int (nI 10)]) rfl ?_
      refine j_atw (w' := tw (hX X (r + 1)) (va_up A 62 (noteT r tr [nI 10])) L) rfl ?_
      have hac : ((acS f ks (nI b) ks 0 x).bind fun a => some (a.1 * nI 2, nI 10 :: a.2)) = some (v, ns) := by have h := hac; unfold acS at h; rw [e] at h; exact h
      obtain ⟨⟨a1, n1⟩, ha1, hac⟩ := Option.bind_eq_some_iff.mp hac
      simp only [Option.some.injEq, Prod.mk.injEq] at hac
      obtain ⟨rfl, rfl⟩ := hac
      simp only [List.length_cons] at hr
      refine j_lookup (off := 136) (tgt := 201) dX2_acted_65 (by decide) (by decide) (by decide) ?_
      refine j_aload_n dX2_acted_201 rfl rfl ?_
      refine j_iload dX2_acted_202 rfl ?_
      refine j_iconst (v := nI 0) dX2_acted_204 rfl ?_
      refine j_iload_n dX2_acted_205 rfl rfl ?_
      refine j_iload dX2_acted_206 rfl ?_
      refine j_callVi [.int _, .int _, .int _, .int _] [] dX2_acted_208 jlk_X2_38 rfl rfl rfl rfl (Nat.le_of_ble_eq_true rfl) (ih ha1 hks (by decide) (by omega) (by omega)) ?_
      refine j_iconst (v := nI 2) dX2_acted_211 rfl ?_
      refine j_imul dX2_acted_212 ?_
      refine j_ireturn dX2_acted_213 rfl ?_
      refine ⟨rfl, tw_eq ?_ ?_ rfl⟩
      · exact congrArg (hX X) (by simp only [List.length_cons]; omega)
      · exact congrArg (va_up A 62) rfl
    · rw [e]
      refine j_at (lv' := [some (.ref 60), some (.int (nI k)), some (.int (nI 2)), some (.int x), some (.int (nI dep)), some (.int (nI 0)), some (.int (nI 11)), some (.int (nI ks)), some (.int (-1)), some (.int (nI (dep + 1)))]) rfl ?_
      refine j_ats (st' := [.int (nI 11)]) rfl ?_
      refine j_atw (w' := tw (hX X (r + 1)) (va_up A 62 (noteT r tr [nI 11])) L) rfl ?_
      have hac : (some (x ^^^ nI b, [nI 11])) = some (v, ns) := by have h := hac; unfold acS at h; rw [e] at h; exact h
      simp only [Option.some.injEq, Prod.mk.injEq] at hac
      obtain ⟨rfl, rfl⟩ := hac
      refine j_lookup (off := 149) (tgt := 214) dX2_acted_65 (by decide) (by decide) (by decide) ?_
      refine j_iload_n dX2_acted_214 rfl rfl ?_
      refine j_aload_n dX2_acted_215 rfl rfl ?_
      refine t_getI dX2_acted_216 jfl_X2_25 (fun _ _ _ => rfl) (fun _ => rfl) ?_
      refine j_topE (e' := nI b) (by rw [hX_n X _ (by decide)]; exact h4) ?_
      refine j_ixor dX2_acted_219 ?_
      refine j_ireturn dX2_acted_220 rfl ?_
      refine ⟨rfl, ?_⟩
      rfl
    · rw [e]
      refine j_at (lv' := [some (.ref 60), some (.int (nI k)), some (.int (nI 0)), some (.int x), some (.int (nI dep)), some (.int (nI 1)), some (.int (nI 20)), some (.int (nI ks)), some (.int (nI 0)), some (.int (nI (dep + 1)))]) rfl ?_
      refine j_ats (st' := [.int (nI 20)]) rfl ?_
      refine j_atw (w' := tw (hX X (r + 1)) (va_up A 62 (noteT r tr [nI 20])) L) rfl ?_
      have hac : ((acS f ks (nI b) 0 0 x).bind fun a => some (a.1 + nI 3, nI 20 :: a.2)) = some (v, ns) := by have h := hac; unfold acS at h; rw [e] at h; exact h
      obtain ⟨⟨a1, n1⟩, ha1, hac⟩ := Option.bind_eq_some_iff.mp hac
      simp only [Option.some.injEq, Prod.mk.injEq] at hac
      obtain ⟨rfl, rfl⟩ := hac
      simp only [List.length_cons] at hr
      refine j_lookup (off := 156) (tgt := 221) dX2_acted_65 (by decide) (by decide) (by decide) ?_
      refine j_aload_n dX2_acted_221 rfl rfl ?_
      refine j_iload dX2_acted_222 rfl ?_
      refine j_iconst (v := nI 0) dX2_acted_224 rfl ?_
      refine j_iload_n dX2_acted_225 rfl rfl ?_
      refine j_iload dX2_acted_226 rfl ?_
      refine j_callVi [.int _, .int _, .int _, .int _] [] dX2_acted_228 jlk_X2_38 rfl rfl rfl rfl (Nat.le_of_ble_eq_true rfl) (ih ha1 (by decide) (by decide) (by omega) (by omega)) ?_
      refine j_iconst (v := nI 3) dX2_acted_231 rfl ?_
      refine j_iadd dX2_acted_232 ?_
      refine j_ireturn dX2_acted_233 rfl ?_
      refine ⟨rfl, tw_eq ?_ ?_ rfl⟩
      · exact congrArg (hX X) (by simp only [List.length_cons]; omega)
      · exact congrArg (va_up A 62) rfl
    · rw [e]
      refine j_at (lv' := [some (.ref 60), some (.int (nI k)), some (.int (nI 1)), some (.int x), some (.int (nI dep)), some (.int (nI 2)), some (.int (nI 30)), some (.int (nI ks)), some (.int (nI 0)), some (.int (nI (dep + 1)))]) rfl ?_
      refine j_ats (st' := [.int (nI 30)]) rfl ?_
      refine j_atw (w' := tw (hX X (r + 1)) (va_up A 62 (noteT r tr [nI 30])) L) rfl ?_
      have hac : ((acS f ks (nI b) 0 1 x).bind fun a => some (-a.1, nI 30 :: a.2)) = some (v, ns) := by have h := hac; unfold acS at h; rw [e] at h; exact h
      obtain ⟨⟨a1, n1⟩, ha1, hac⟩ := Option.bind_eq_some_iff.mp hac
      simp only [Option.some.injEq, Prod.mk.injEq] at hac
      obtain ⟨rfl, rfl⟩ := hac
      simp only [List.length_cons] at hr
      refine j_lookup (off := 169) (tgt := 234) dX2_acted_65 (by decide) (by decide) (by decide) ?_
      refine j_aload_n dX2_acted_234 rfl rfl ?_
      refine j_iload dX2_acted_235 rfl ?_
      refine j_iconst (v := nI 1) dX2_acted_237 rfl ?_
      refine j_iload_n dX2_acted_238 rfl rfl ?_
      refine j_iload dX2_acted_239 rfl ?_
      refine j_callVi [.int _, .int _, .int _, .int _] [] dX2_acted_241 jlk_X2_38 rfl rfl rfl rfl (Nat.le_of_ble_eq_true rfl) (ih ha1 (by decide) (by decide) (by omega) (by omega)) ?_
      refine j_ineg dX2_acted_244 ?_
      refine j_ireturn dX2_acted_245 rfl ?_
      refine ⟨rfl, tw_eq ?_ ?_ rfl⟩
      · exact congrArg (hX X) (by simp only [List.length_cons]; omega)
      · exact congrArg (va_up A 62) rfl
    · rw [e]
      refine j_at (lv' := [some (.ref 60), some (.int (nI k)), some (.int (nI 2)), some (.int x), some (.int (nI dep)), some (.int (nI 3)), some (.int (nI 40)), some (.int (nI ks)), some (.int (nI 2)), some (.int (nI (dep + 1)))]) rfl ?_
      refine j_ats (st' := [.int (nI 40)]) rfl ?_
      refine j_atw (w' := tw (hX X (r + 1)) (va_up A 62 (noteT r tr [nI 40])) L) rfl ?_
      have hac : ((acS f ks (nI b) 2 2 x).bind fun a => some (a.1 * nI 3, nI 40 :: a.2)) = some (v, ns) := by have h := hac; unfold acS at h; rw [e] at h; exact h
      obtain ⟨⟨a1, n1⟩, ha1, hac⟩ := Option.bind_eq_some_iff.mp hac
      simp only [Option.some.injEq, Prod.mk.injEq] at hac
      obtain ⟨rfl, rfl⟩ := hac
      simp only [List.length_cons] at hr
      refine j_lookup (off := 181) (tgt := 246) dX2_acted_65 (by decide) (by decide) (by decide) ?_
      refine j_aload_n dX2_acted_246 rfl rfl ?_
      refine j_iload dX2_acted_247 rfl ?_
      refine j_iconst (v := nI 2) dX2_acted_249 rfl ?_
      refine j_iload_n dX2_acted_250 rfl rfl ?_
      refine j_iload dX2_acted_251 rfl ?_
      refine j_callVi [.int _, .int _, .int _, .int _] [] dX2_acted_253 jlk_X2_38 rfl rfl rfl rfl (Nat.le_of_ble_eq_true rfl) (ih ha1 (by decide) (by decide) (by omega) (by omega)) ?_
      refine j_iconst (v := nI 3) dX2_acted_256 rfl ?_
      refine j_imul dX2_acted_257 ?_
      refine j_ireturn dX2_acted_258 rfl ?_
      refine ⟨rfl, tw_eq ?_ ?_ rfl⟩
      · exact congrArg (hX X) (by simp only [List.length_cons]; omega)
      · exact congrArg (va_up A 62) rfl
    · rw [e]
      refine j_at (lv' := [some (.ref 60), some (.int (nI k)), some (.int (nI 1)), some (.int x), some (.int (nI dep)), some (.int (nI 3)), some (.int (nI 41)), some (.int (nI ks)), some (.int (nI 2)), some (.int (nI (dep + 1)))]) rfl ?_
      refine j_ats (st' := [.int (nI 41)]) rfl ?_
      refine j_atw (w' := tw (hX X (r + 1)) (va_up A 62 (noteT r tr [nI 41])) L) rfl ?_
      have hac : ((acS f ks (nI b) 2 1 (x + nI 1)).bind fun a => some (a.1, nI 41 :: a.2)) = some (v, ns) := by have h := hac; unfold acS at h; rw [e] at h; exact h
      obtain ⟨⟨a1, n1⟩, ha1, hac⟩ := Option.bind_eq_some_iff.mp hac
      simp only [Option.some.injEq, Prod.mk.injEq] at hac
      obtain ⟨rfl, rfl⟩ := hac
      simp only [List.length_cons] at hr
      refine j_lookup (off := 194) (tgt := 259) dX2_acted_65 (by decide) (by decide) (by decide) ?_
      refine j_aload_n dX2_acted_259 rfl rfl ?_
      refine j_iload dX2_acted_260 rfl ?_
      refine j_iconst (v := nI 1) dX2_acted_262 rfl ?_
      refine j_iload_n dX2_acted_263 rfl rfl ?_
      refine j_iconst (v := nI 1) dX2_acted_264 rfl ?_
      refine j_iadd dX2_acted_265 ?_
      refine j_iload dX2_acted_266 rfl ?_
      refine j_callVi [.int _, .int _, .int _, .int _] [] dX2_acted_268 jlk_X2_38 rfl rfl rfl rfl (Nat.le_of_ble_eq_true rfl) (ih ha1 (by decide) (by decide) (by omega) (by omega)) ?_
      refine j_ireturn dX2_acted_271 rfl ?_
      refine ⟨rfl, tw_eq ?_ ?_ rfl⟩
      · exact congrArg (hX X) (by simp only [List.length_cons]; omega)
      · exact congrArg (va_up A 62) rfl
    · rw [e]
      refine j_at (lv' := [some (.ref 60), some (.int (nI k)), some (.int (nI 2)), some (.int x), some (.int (nI dep)), some (.int (nI 4)), some (.int (nI 50)), some (.int (nI ks)), some (.int (nI 1)), some (.int (nI (dep + 1)))]) rfl ?_
      refine j_ats (st' := [.int (nI 50)]) rfl ?_
      refine j_atw (w' := tw (hX X (r + 1)) (va_up A 62 (noteT r tr [nI 50])) L) rfl ?_
      have hac : ((acS f ks (nI b) 1 2 x).bind fun a => (acS f ks (nI b) ks 0 (nI 2)).bind fun b' => some (a.1 - b'.1, nI 50 :: (a.2 ++ b'.2))) = some (v, ns) := by have h := hac; unfold acS at h; rw [e] at h; exact h
      obtain ⟨⟨a1, n1⟩, ha1, hac⟩ := Option.bind_eq_some_iff.mp hac
      obtain ⟨⟨a2, n2⟩, ha2, hac⟩ := Option.bind_eq_some_iff.mp hac
      simp only [Option.some.injEq, Prod.mk.injEq] at hac
      obtain ⟨rfl, rfl⟩ := hac
      simp only [List.length_cons, List.length_append] at hr
      refine j_lookup (off := 207) (tgt := 272) dX2_acted_65 (by decide) (by decide) (by decide) ?_
      refine j_aload_n dX2_acted_272 rfl rfl ?_
      refine j_iload dX2_acted_273 rfl ?_
      refine j_iconst (v := nI 2) dX2_acted_275 rfl ?_
      refine j_iload_n dX2_acted_276 rfl rfl ?_
      refine j_iload dX2_acted_277 rfl ?_
      refine j_callVi [.int _, .int _, .int _, .int _] [] dX2_acted_279 jlk_X2_38 rfl rfl rfl rfl (Nat.le_of_ble_eq_true rfl) (ih ha1 (by decide) (by decide) (by omega) (by omega)) ?_
      refine j_aload_n dX2_acted_282 rfl rfl ?_
      refine j_iload dX2_acted_283 rfl ?_
      refine j_iconst (v := nI 0) dX2_acted_285 rfl ?_
      refine j_iconst (v := nI 2) dX2_acted_286 rfl ?_
      refine j_iload dX2_acted_287 rfl ?_
      refine j_callVi [.int _, .int _, .int _, .int _] [.int _] dX2_acted_289 jlk_X2_38 rfl rfl rfl rfl (Nat.le_of_ble_eq_true rfl) (ih ha2 hks (by decide) (by omega) (by omega)) ?_
      refine j_isub dX2_acted_292 ?_
      refine j_ireturn dX2_acted_293 rfl ?_
      refine ⟨rfl, tw_eq ?_ ?_ rfl⟩
      · exact congrArg (hX X) (by simp only [List.length_cons, List.length_append]; omega)
      · refine congrArg (va_up A 62) ?_
        simp only [noteT]
        rw [noteT_app]
    · rw [e]
      refine j_at (lv' := [some (.ref 60), some (.int (nI k)), some (.int (nI 3)), some (.int x), some (.int (nI dep)), some (.int (nI 5)), some (.int (nI 60)), some (.int (nI ks)), some (.int (nI 3)), some (.int (nI (dep + 1)))]) rfl ?_
      refine j_ats (st' := [.int (nI 60)]) rfl ?_
      refine j_atw (w' := tw (hX X (r + 1)) (va_up A 62 (noteT r tr [nI 60])) L) rfl ?_
      have hac : ((acS f ks (nI b) 3 3 x).bind fun a => some (a.1 ^^^ nI 5, nI 60 :: a.2)) = some (v, ns) := by have h := hac; unfold acS at h; rw [e] at h; exact h
      obtain ⟨⟨a1, n1⟩, ha1, hac⟩ := Option.bind_eq_some_iff.mp hac
      simp only [Option.some.injEq, Prod.mk.injEq] at hac
      obtain ⟨rfl, rfl⟩ := hac
      simp only [List.length_cons] at hr
      refine j_lookup (off := 229) (tgt := 294) dX2_acted_65 (by decide) (by decide) (by decide) ?_
      refine j_aload_n dX2_acted_294 rfl rfl ?_
      refine j_iload dX2_acted_295 rfl ?_
      refine j_iconst (v := nI 3) dX2_acted_297 rfl ?_
      refine j_iload_n dX2_acted_298 rfl rfl ?_
      refine j_iload dX2_acted_299 rfl ?_
      refine j_callVi [.int _, .int _, .int _, .int _] [] dX2_acted_301 jlk_X2_38 rfl rfl rfl rfl (Nat.le_of_ble_eq_true rfl) (ih ha1 (by decide) (by decide) (by omega) (by omega)) ?_
      refine j_iconst (v := nI 5) dX2_acted_304 rfl ?_
      refine j_ixor dX2_acted_305 ?_
      refine j_ireturn dX2_acted_306 rfl ?_
      refine ⟨rfl, tw_eq ?_ ?_ rfl⟩
      · exact congrArg (hX X) (by simp only [List.length_cons]; omega)
      · exact congrArg (va_up A 62) rfl
    · rw [e]
      refine j_at (lv' := [some (.ref 60), some (.int (nI k)), some (.int (nI 0)), some (.int x), some (.int (nI dep)), some (.int (nI 6)), some (.int (nI 70)), some (.int (nI ks)), some (.int (nI 0)), some (.int (nI (dep + 1)))]) rfl ?_
      refine j_ats (st' := [.int (nI 70)]) rfl ?_
      refine j_atw (w' := tw (hX X (r + 1)) (va_up A 62 (noteT r tr [nI 70])) L) rfl ?_
      have hac : ((acS f ks (nI b) 0 0 x).bind fun a => some (a.1 * nI 2, nI 70 :: a.2)) = some (v, ns) := by have h := hac; unfold acS at h; rw [e] at h; exact h
      obtain ⟨⟨a1, n1⟩, ha1, hac⟩ := Option.bind_eq_some_iff.mp hac
      simp only [Option.some.injEq, Prod.mk.injEq] at hac
      obtain ⟨rfl, rfl⟩ := hac
      simp only [List.length_cons] at hr
      refine j_lookup (off := 242) (tgt := 307) dX2_acted_65 (by decide) (by decide) (by decide) ?_
      refine j_aload_n dX2_acted_307 rfl rfl ?_
      refine j_iload dX2_acted_308 rfl ?_
      refine j_iconst (v := nI 0) dX2_acted_310 rfl ?_
      refine j_iload_n dX2_acted_311 rfl rfl ?_
      refine j_iload dX2_acted_312 rfl ?_
      refine j_callVi [.int _, .int _, .int _, .int _] [] dX2_acted_314 jlk_X2_38 rfl rfl rfl rfl (Nat.le_of_ble_eq_true rfl) (ih ha1 (by decide) (by decide) (by omega) (by omega)) ?_
      refine j_iconst (v := nI 2) dX2_acted_317 rfl ?_
      refine j_imul dX2_acted_318 ?_
      refine j_ireturn dX2_acted_319 rfl ?_
      refine ⟨rfl, tw_eq ?_ ?_ rfl⟩
      · exact congrArg (hX X) (by simp only [List.length_cons]; omega)
      · exact congrArg (va_up A 62) rfl
    · rw [e]
      refine j_at (lv' := [some (.ref 60), some (.int (nI k)), some (.int (nI 1)), some (.int x), some (.int (nI dep)), some (.int (nI 7)), some (.int (nI 80)), some (.int (nI ks)), some (.int (nI 4)), some (.int (nI (dep + 1)))]) rfl ?_
      refine j_ats (st' := [.int (nI 80)]) rfl ?_
      refine j_atw (w' := tw (hX X (r + 1)) (va_up A 62 (noteT r tr [nI 80])) L) rfl ?_
      have hac : ((acS f ks (nI b) 4 1 x).bind fun a => (acS f ks (nI b) ks 2 (nI 2)).bind fun b' => some (a.1 + b'.1, nI 80 :: (a.2 ++ b'.2))) = some (v, ns) := by have h := hac; unfold acS at h; rw [e] at h; exact h
      obtain ⟨⟨a1, n1⟩, ha1, hac⟩ := Option.bind_eq_some_iff.mp hac
      obtain ⟨⟨a2, n2⟩, ha2, hac⟩ := Option.bind_eq_some_iff.mp hac
      simp only [Option.some.injEq, Prod.mk.injEq] at hac
      obtain ⟨rfl, rfl⟩ := hac
      simp only [List.length_cons, List.length_append] at hr
      refine j_lookup (off := 255) (tgt := 320) dX2_acted_65 (by decide) (by decide) (by decide) ?_
      refine j_aload_n dX2_acted_320 rfl rfl ?_
      refine j_iload dX2_acted_321 rfl ?_
      refine j_iconst (v := nI 1) dX2_acted_323 rfl ?_
      refine j_iload_n dX2_acted_324 rfl rfl ?_
      refine j_iload dX2_acted_325 rfl ?_
      refine j_callVi [.int _, .int _, .int _, .int _] [] dX2_acted_327 jlk_X2_38 rfl rfl rfl rfl (Nat.le_of_ble_eq_true rfl) (ih ha1 (by decide) (by decide) (by omega) (by omega)) ?_
      refine j_aload_n dX2_acted_330 rfl rfl ?_
      refine j_iload dX2_acted_331 rfl ?_
      refine j_iconst (v := nI 2) dX2_acted_333 rfl ?_
      refine j_iconst (v := nI 2) dX2_acted_334 rfl ?_
      refine j_iload dX2_acted_335 rfl ?_
      refine j_callVi [.int _, .int _, .int _, .int _] [.int _] dX2_acted_337 jlk_X2_38 rfl rfl rfl rfl (Nat.le_of_ble_eq_true rfl) (ih ha2 hks (by decide) (by omega) (by omega)) ?_
      refine j_iadd dX2_acted_340 ?_
      refine j_ireturn dX2_acted_341 rfl ?_
      refine ⟨rfl, tw_eq ?_ ?_ rfl⟩
      · exact congrArg (hX X) (by simp only [List.length_cons, List.length_append]; omega)
      · refine congrArg (va_up A 62) ?_
        simp only [noteT]
        rw [noteT_app]
    · rw [e]
      refine j_at (lv' := [some (.ref 60), some (.int (nI k)), some (.int (nI 3)), some (.int x), some (.int (nI dep)), some (.int (nI 7)), some (.int (nI 81)), some (.int (nI ks)), some (.int (nI 4)), some (.int (nI (dep + 1)))]) rfl ?_
      refine j_ats (st' := [.int (nI 81)]) rfl ?_
      refine j_atw (w' := tw (hX X (r + 1)) (va_up A 62 (noteT r tr [nI 81])) L) rfl ?_
      have hac : ((acS f ks (nI b) 4 3 x).bind fun a => some (a.1 - nI 1, nI 81 :: a.2)) = some (v, ns) := by have h := hac; unfold acS at h; rw [e] at h; exact h
      obtain ⟨⟨a1, n1⟩, ha1, hac⟩ := Option.bind_eq_some_iff.mp hac
      simp only [Option.some.injEq, Prod.mk.injEq] at hac
      obtain ⟨rfl, rfl⟩ := hac
      simp only [List.length_cons] at hr
      refine j_lookup (off := 277) (tgt := 342) dX2_acted_65 (by decide) (by decide) (by decide) ?_
      refine j_aload_n dX2_acted_342 rfl rfl ?_
      refine j_iload dX2_acted_343 rfl ?_
      refine j_iconst (v := nI 3) dX2_acted_345 rfl ?_
      refine j_iload_n dX2_acted_346 rfl rfl ?_
      refine j_iload dX2_acted_347 rfl ?_
      refine j_callVi [.int _, .int _, .int _, .int _] [] dX2_acted_349 jlk_X2_38 rfl rfl rfl rfl (Nat.le_of_ble_eq_true rfl) (ih ha1 (by decide) (by decide) (by omega) (by omega)) ?_
      refine j_iconst (v := nI 1) dX2_acted_352 rfl ?_
      refine j_isub dX2_acted_353 ?_
      refine j_ireturn dX2_acted_354 rfl ?_
      refine ⟨rfl, tw_eq ?_ ?_ rfl⟩
      · exact congrArg (hX X) (by simp only [List.length_cons]; omega)
      · exact congrArg (va_up A 62) rfl

set_option maxHeartbeats 4000000 in
set_option maxRecDepth 100000 in
theorem c_X2_perform_no (hb : X 60 1 = nI nb) (hb50 : nb ≤ 50) {c a x : Int32} (h : isA nb c = nI 0 ∨ isA 4 a = nI 0) : jMet (d + 1) yX2_perform cX2_perform 4 (some .int) 0 0 [.ref 60, .int c, .int a, .int x] (tw X A L) (jRi (nI 0) (tw (hX X 0) A L)) := by
  refine jMet_of (by decide) (Nat.le_of_ble_eq_true rfl) none (Or.inl rfl) ?_
  show jWP none RX2 cX2_perform 4 (some .int) (d + 1) 0 0 0 [some (.ref 60), some (.int c), some (.int a), some (.int x)] [] (tw X A L) (jRi (nI 0) (tw (hX X 0) A L))
  refine j_aload_n dX2_perform_0 rfl rfl ?_
  refine j_iconst (v := nI 0) dX2_perform_1 rfl ?_
  refine t_putI dX2_perform_2 jfl_X2_22 (fun _ _ _ => rfl) (fun _ _ => rfl) (Nat.le_of_ble_eq_true rfl) rfl rfl ?_
  refine j_aload_n dX2_perform_5 rfl rfl ?_
  refine j_iload_n dX2_perform_6 rfl rfl ?_
  refine j_callVi [.int _] [] dX2_perform_7 jlk_X2_28 rfl rfl rfl rfl (Nat.le_of_ble_eq_true rfl) (c_X2_isBody (by rw [vu_s, pk_un (by decide)]; exact hb) hb50) ?_
  refine j_if_eq (tgt := 22) dX2_perform_10 (by decide) (fun h10 => ?_) (fun h10 => ?_)
  · refine j_iconst (v := nI 0) dX2_perform_22 rfl ?_
    refine j_ireturn dX2_perform_23 rfl ?_
    exact ⟨rfl, rfl⟩
  · refine j_iload_n dX2_perform_13 rfl rfl ?_
    refine j_if_lt (tgt := 22) dX2_perform_14 (by decide) (fun h14 => ?_) (fun h14 => ?_)
    · refine j_iconst (v := nI 0) dX2_perform_22 rfl ?_
      refine j_ireturn dX2_perform_23 rfl ?_
      exact ⟨rfl, rfl⟩
    · refine j_iload_n dX2_perform_17 rfl rfl ?_
      refine j_iconst (v := nI 4) dX2_perform_18 rfl ?_
      refine j_icmp_lt (tgt := 24) dX2_perform_19 (by decide) (fun h19 => ?_) (fun h19 => ?_)
      · exfalso
        rcases h with h | h
        · exact h10 h
        · have h : isA 4 a = nI 0 := h
          unfold isA at h
          rw [if_neg h14, if_neg (Int32.not_le.mpr h19)] at h
          exact absurd h (by decide)
      · refine j_iconst (v := nI 0) dX2_perform_22 rfl ?_
        refine j_ireturn dX2_perform_23 rfl ?_
        exact ⟨rfl, rfl⟩

set_option maxHeartbeats 4000000 in
set_option maxRecDepth 100000 in
theorem c_X2_perform (hb : X 60 1 = nI nb) (hb50 : nb ≤ 50) (hk : A 61 = nIf kd) {b t : Nat} (hbn : b < nb) (hkd8 : kd b < 8) (ht : t < 4) {x v : Int32} {ns : List Int32} (hac : acS 8 (kd b) (nI b) (kd b) t x = some (v, ns)) : jMet (d + 8 + 2 + 1) yX2_perform cX2_perform 4 (some .int) 0 0 [.ref 60, .int (nI b), .int (nI t), .int x] (tw X A L) (jRi v (tw (va_up X 60 (upd (upd (X 60) 4 (nI b)) 3 (nI ns.length))) (va_up A 62 (noteT 0 (A 62) ns)) L)) := by
  refine jMet_of (by decide) (Nat.le_of_ble_eq_true rfl) none (Or.inl rfl) ?_
  show jWP none RX2 cX2_perform 4 (some .int) (d + 8 + 2 + 1) 0 0 0 [some (.ref 60), some (.int (nI b)), some (.int (nI t)), some (.int x)] [] (tw X A L) (jRi v (tw (va_up X 60 (upd (upd (X 60) 4 (nI b)) 3 (nI ns.length))) (va_up A 62 (noteT 0 (A 62) ns)) L))
  have hlen := acS_len hac
  refine j_aload_n dX2_perform_0 rfl rfl ?_
  refine j_iconst (v := nI 0) dX2_perform_1 rfl ?_
  refine t_putI dX2_perform_2 jfl_X2_22 (fun _ _ _ => rfl) (fun _ _ => rfl) (Nat.le_of_ble_eq_true rfl) rfl rfl ?_
  refine j_aload_n dX2_perform_5 rfl rfl ?_
  refine j_iload_n dX2_perform_6 rfl rfl ?_
  refine j_callVi [.int _] [] dX2_perform_7 jlk_X2_28 rfl rfl rfl rfl (Nat.le_of_ble_eq_true rfl) (c_X2_isBody_in (by rw [vu_s, pk_un (by decide)]; exact hb) hb50 hbn) ?_
  refine j_if_eq (tgt := 22) dX2_perform_10 (by decide) (fun h => absurd h (by decide)) (fun _ => ?_)
  refine j_iload_n dX2_perform_13 rfl rfl ?_
  refine jn_if_lt (tgt := 22) dX2_perform_14 (by decide) (by omega) ?_
  refine j_iload_n dX2_perform_17 rfl rfl ?_
  refine j_iconst (v := nI 4) dX2_perform_18 rfl ?_
  refine jn_icmp_lt (tgt := 24) dX2_perform_19 (by decide) (by omega) (by omega) (fun h19 => ?_) (fun h19 => by omega)
  refine j_aload_n dX2_perform_24 rfl rfl ?_
  refine j_iload_n dX2_perform_25 rfl rfl ?_
  refine t_putI dX2_perform_26 jfl_X2_25 (fun _ _ _ => rfl) (fun _ _ => rfl) (Nat.le_of_ble_eq_true rfl) rfl rfl ?_
  refine j_aload_n dX2_perform_29 rfl rfl ?_
  refine j_aload_n dX2_perform_30 rfl rfl ?_
  refine t_getR (b := 61) dX2_perform_31 jfl_X2_11 (fun _ _ _ => rfl) rfl ?_
  refine j_iload_n dX2_perform_34 rfl rfl ?_
  refine t_iaload dX2_perform_35 (fun _ _ _ => rfl) (by omega) (by decide) ?_
  refine j_topE (e' := nI (kd b)) (by rw [hk]; rfl) ?_
  refine j_iload_n dX2_perform_36 rfl rfl ?_
  refine j_iload_n dX2_perform_37 rfl rfl ?_
  refine j_iconst (v := nI 0) dX2_perform_38 rfl ?_
  refine j_atw (w' := tw (hX (va_up X 60 (upd (X 60) 4 (nI b))) 0) (va_up A 62 (A 62)) L) ?_ ?_
  · refine tw_eq ?_ (vu_self A 62).symm rfl
    unfold hX
    rw [vu_up, vu_up, vu_s, vu_s]
    refine congrArg (va_up X 60) (funext fun c => ?_)
    by_cases q1 : c = 4
    · subst q1; rw [pk_us, pk_un (by decide), pk_us]
    · by_cases q2 : c = 3
      · subst q2; rw [pk_un (by decide), pk_us, pk_us]
      · rw [pk_un q1, pk_un q2, pk_un q2, pk_un q1]
  refine j_callVi [.int _, .int _, .int _, .int _] [] dX2_perform_39 jlk_X2_38 rfl rfl rfl rfl (Nat.le_of_ble_eq_true rfl) (c_X2_acted (X := va_up X 60 (upd (X 60) 4 (nI b))) (A := A) (r := 0) (tr := A 62) (by rw [vu_s, pk_un (by decide)]; exact hb) hb50 hk (by rw [vu_s]; exact pk_us) hbn rfl hkd8 8 (d := d) hac hkd8 ht (by decide) (by simp only at hlen; omega)) ?_
  refine j_ireturn dX2_perform_42 rfl ?_
  refine ⟨rfl, tw_eq ?_ rfl rfl⟩
  unfold hX
  rw [vu_up, vu_s, Nat.zero_add]

set_option maxHeartbeats 4000000 in
set_option maxRecDepth 100000 in
theorem c_X2_traced {r : Nat} (hr : X 60 3 = nI r) (hr2 : r < 2 ^ 30) {j : Nat} (h1 : j < r) (h2 : j < 24) : jMet (d) yX2_traced cX2_traced 2 (some .int) 0 0 [.ref 60, .int (nI j)] (tw X A L) (jRi (A 62 j) (tw X A L)) := by
  refine jMet_of (by decide) (Nat.le_of_ble_eq_true rfl) none (Or.inl rfl) ?_
  show jWP none RX2 cX2_traced 2 (some .int) (d) 0 0 0 [some (.ref 60), some (.int (nI j))] [] (tw X A L) (jRi (A 62 j) (tw X A L))
  refine j_iload_n dX2_traced_0 rfl rfl ?_
  refine jn_if_lt (tgt := 27) dX2_traced_1 (by decide) (by omega) ?_
  refine j_iload_n dX2_traced_4 rfl rfl ?_
  refine j_bipush (v := nI 24) dX2_traced_5 rfl ?_
  refine jn_icmp_ge (tgt := 27) dX2_traced_7 (by decide) (by omega) (by omega) (fun h7 => by omega) (fun h7 => ?_)
  refine j_iload_n dX2_traced_10 rfl rfl ?_
  refine j_aload_n dX2_traced_11 rfl rfl ?_
  refine t_getI dX2_traced_12 jfl_X2_22 (fun _ _ _ => rfl) (fun _ => rfl) ?_
  refine j_topE (e' := nI r) hr ?_
  refine jn_icmp_ge (tgt := 27) dX2_traced_15 (by decide) (by omega) (by omega) (fun h15 => by omega) (fun h15 => ?_)
  refine j_aload_n dX2_traced_18 rfl rfl ?_
  refine t_getR (b := 62) dX2_traced_19 jfl_X2_19 (fun _ _ _ => rfl) rfl ?_
  refine j_iload_n dX2_traced_22 rfl rfl ?_
  refine t_iaload dX2_traced_23 (fun _ _ _ => rfl) (by omega) (by decide) ?_
  refine j_goto (tgt := 28) dX2_traced_24 (by decide) ?_
  refine j_ireturn dX2_traced_28 rfl ?_
  exact ⟨rfl, rfl⟩

set_option maxHeartbeats 4000000 in
set_option maxRecDepth 100000 in
theorem c_X2_traced_no {r : Nat} (hr : X 60 3 = nI r) (hr2 : r < 2 ^ 30) {c : Int32} (h : isA (min 24 r) c = nI 0) : jMet (d) yX2_traced cX2_traced 2 (some .int) 0 0 [.ref 60, .int c] (tw X A L) (jRi (-1) (tw X A L)) := by
  refine jMet_of (by decide) (Nat.le_of_ble_eq_true rfl) none (Or.inl rfl) ?_
  show jWP none RX2 cX2_traced 2 (some .int) (d) 0 0 0 [some (.ref 60), some (.int c)] [] (tw X A L) (jRi (-1) (tw X A L))
  refine j_iload_n dX2_traced_0 rfl rfl ?_
  refine j_if_lt (tgt := 27) dX2_traced_1 (by decide) (fun h1 => ?_) (fun h1 => ?_)
  · refine j_iconst (v := (-1)) dX2_traced_27 rfl ?_
    refine j_ireturn dX2_traced_28 rfl ?_
    exact ⟨rfl, rfl⟩
  · refine j_iload_n dX2_traced_4 rfl rfl ?_
    refine j_bipush (v := nI 24) dX2_traced_5 rfl ?_
    refine j_icmp_ge (tgt := 27) dX2_traced_7 (by decide) (fun h7 => ?_) (fun h7 => ?_)
    · refine j_iconst (v := (-1)) dX2_traced_27 rfl ?_
      refine j_ireturn dX2_traced_28 rfl ?_
      exact ⟨rfl, rfl⟩
    · refine j_iload_n dX2_traced_10 rfl rfl ?_
      refine j_aload_n dX2_traced_11 rfl rfl ?_
      refine t_getI dX2_traced_12 jfl_X2_22 (fun _ _ _ => rfl) (fun _ => rfl) ?_
      refine j_topE (e' := nI r) hr ?_
      refine j_icmp_ge (tgt := 27) dX2_traced_15 (by decide) (fun h15 => ?_) (fun h15 => ?_)
      · refine j_iconst (v := (-1)) dX2_traced_27 rfl ?_
        refine j_ireturn dX2_traced_28 rfl ?_
        exact ⟨rfl, rfl⟩
      · exfalso
        obtain ⟨j, hj, rfl⟩ := (pk_ix c (n := 24) (by decide)).resolve_left h1 |>.resolve_left h7
        have h15 := Nat.lt_of_not_le (fun q => h15 ((nI_leI (by omega) (by omega)).mpr q))
        rw [isA_in (by omega) (by omega)] at h
        exact absurd h (by decide)

end CT7