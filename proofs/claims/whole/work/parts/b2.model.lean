section MODEL0
variable {d : Nat} {w : jW} {fs : List Value} {post : Option Value → jW → Prop}
def sw (w : jW) (f : Nat → Int32) : jW := ju w 81 (.inl (0, 2401, .inl f))
theorem sw_n {f : Nat → Int32} {k : Nat} (h : k ≠ 81) : (sw w f).2 k = w.2 k := ju_n _ _ _ h
theorem sw_s {f : Nat → Int32} : (sw w f).2 81 = .inl (0, 2401, .inl f) := ju_s _ _ _
theorem sw_p {f g : Nat → Int32} : ju (sw w f) 81 (.inl (0, 2401, .inl g)) = sw w g := ju_ju _ _ _ _
/-- phase k, before (i, j) -/
def fM (k i j p q : Nat) : Nat := if p < i ∨ (p = i ∧ q < j) then fT (k + 1) p q else fT k p q
def FI (f : Nat → Int32) (k i j : Nat) : Prop := ∀ p q, p < 49 → q < 49 → f (49 * p + q) = nI (fM k i j p q)
theorem FI_row {f : Nat → Int32} {k i : Nat} (h : FI f k i 49) : FI f k (i + 1) 0 := fun p q hp hq => by
  rw [h p q hp hq]
  unfold fM
  by_cases e : p < i ∨ (p = i ∧ q < 49)
  · rw [if_pos e, if_pos (by omega)]
  · rw [if_neg e, if_neg (by omega)]
theorem FI_ph {f : Nat → Int32} {k : Nat} (h : FI f k 49 0) : FI f (k + 1) 0 0 := fun p q hp hq => by
  rw [h p q hp hq]
  unfold fM
  rw [if_pos (by omega), if_neg (by omega)]
theorem FI_st {f : Nat → Int32} {k i j : Nat} (h : FI f k i j) (hi : i < 49) (hj : j < 49) : FI (upd f (49 * i + j) (nI (fT (k + 1) i j))) k i (j + 1) := fun p q hp hq => by
  by_cases e : p = i ∧ q = j
  · obtain ⟨rfl, rfl⟩ := e
    rw [ud_s]
    unfold fM
    rw [if_pos (by omega)]
  · rw [ud_n _ _ _ (by omega), h p q hp hq]
    unfold fM
    by_cases e2 : p < i ∨ (p = i ∧ q < j)
    · rw [if_pos e2, if_pos (by omega)]
    · rw [if_neg e2, if_neg (by omega)]
theorem FI_ik {f : Nat → Int32} {k i j : Nat} (h : FI f k i j) (hi : i < 49) (hk : k < 49) : f (49 * i + k) = nI (fT k i k) := by
  rw [h i k hi hk]
  unfold fM
  split
  · rw [fT_r]
  · rfl
theorem FI_kj {f : Nat → Int32} {k i j : Nat} (h : FI f k i j) (hk : k < 49) (hj : j < 49) : f (49 * k + j) = nI (fT k k j) := by
  rw [h k j hk hj]
  unfold fM
  split
  · rw [fT_c]
  · rfl
theorem FI_ij {f : Nat → Int32} {k i j : Nat} (h : FI f k i j) (hi : i < 49) (hj : j < 49) : f (49 * i + j) = nI (fT k i j) := by
  rw [h i j hi hj]
  unfold fM
  rw [if_neg (by omega)]
theorem l_fl3 (ho : w.2 76 = .inr (11, fs)) (h6 : fs[6]? = some (.ref 81)) {k i : Nat} (hk : k < 49) (hi : i < 49) (kk : ∀ f, FI f k i 49 → jWP (some none) RX11 cX11_init 5 none (d + 1) 0 0 452 [some (.ref 76), some (.int (nI k)), some (.int (nI i)), none, none] [] (sw w f) post) : ∀ (m j : Nat) (f : Nat → Int32), j + m = 49 → FI f k i j → jWP (some none) RX11 cX11_init 5 none (d + 1) 0 0 372 [some (.ref 76), some (.int (nI k)), some (.int (nI i)), some (.int (nI j)), none] [] (sw w f) post := by
  have eo : ∀ {f : Nat → Int32}, (sw w f).2 76 = .inr (11, fs) := by intro f; rw [sw_n (by decide)]; exact ho
  intro m
  induction m with
  | zero =>
    intro j f hm hI
    have hj : j = 49 := by omega
    subst hj
    refine j_iload_n dX11_init_372 rfl rfl ?_
    refine j_bipush (v := nI 49) dX11_init_373 rfl ?_
    refine jn_icmp_ge (tgt := 452) dX11_init_375 (by decide) (by decide) (by decide) (fun _ => ?_) (fun h => absurd h (by decide))
    refine j_sub (lv' := [some (.ref 76), some (.int (nI k)), some (.int (nI i)), none, none]) ⟨rfl, rfl, rfl, trivial⟩ ?_
    exact kk f hI
  | succ m ih =>
    intro j f hm hI
    have hj : j < 49 := by omega
    have b1 := fT_49 k i k
    have b2 := fT_49 k k j
    have b3 := fT_49 k i j
    refine j_iload_n dX11_init_372 rfl rfl ?_
    refine j_bipush (v := nI 49) dX11_init_373 rfl ?_
    refine jn_icmp_ge (tgt := 452) dX11_init_375 (by decide) (by omega) (by decide) (fun h => absurd h (by omega)) (fun _ => ?_)
    refine j_aload_n dX11_init_378 rfl rfl ?_
    refine j_getfield dX11_init_379 jfl_X11_24 eo h6 ?_
    refine j_bipush (v := nI 49) dX11_init_382 rfl ?_
    refine j_iload_n dX11_init_384 rfl rfl ?_
    refine jn_imul dX11_init_385 ?_
    refine j_iload_n dX11_init_386 rfl rfl ?_
    refine jn_iadd dX11_init_387 ?_
    refine j_iaload dX11_init_388 sw_s (vp_in_nI (by omega) (by decide)) ?_
    rw [nI_clamp (by omega), FI_ik hI hi hk]
    refine j_aload_n dX11_init_389 rfl rfl ?_
    refine j_getfield dX11_init_390 jfl_X11_24 eo h6 ?_
    refine j_bipush (v := nI 49) dX11_init_393 rfl ?_
    refine j_iload_n dX11_init_395 rfl rfl ?_
    refine jn_imul dX11_init_396 ?_
    refine j_iload_n dX11_init_397 rfl rfl ?_
    refine jn_iadd dX11_init_398 ?_
    refine j_iaload dX11_init_399 sw_s (vp_in_nI (by omega) (by decide)) ?_
    rw [nI_clamp (by omega), FI_kj hI hk hj]
    refine jn_iadd dX11_init_400 ?_
    refine j_istore (lv' := [some (.ref 76), some (.int (nI k)), some (.int (nI i)), some (.int (nI j)), some (.int (nI (fT k i k + fT k k j)))]) dX11_init_401 (by decide) rfl ?_
    refine j_aload_n dX11_init_403 rfl rfl ?_
    refine j_getfield dX11_init_404 jfl_X11_24 eo h6 ?_
    refine j_bipush (v := nI 49) dX11_init_407 rfl ?_
    refine j_iload_n dX11_init_409 rfl rfl ?_
    refine jn_imul dX11_init_410 ?_
    refine j_iload_n dX11_init_411 rfl rfl ?_
    refine jn_iadd dX11_init_412 ?_
    refine j_iload dX11_init_413 rfl ?_
    refine j_aload_n dX11_init_415 rfl rfl ?_
    refine j_getfield dX11_init_416 jfl_X11_24 eo h6 ?_
    refine j_bipush (v := nI 49) dX11_init_419 rfl ?_
    refine j_iload_n dX11_init_421 rfl rfl ?_
    refine jn_imul dX11_init_422 ?_
    refine j_iload_n dX11_init_423 rfl rfl ?_
    refine jn_iadd dX11_init_424 ?_
    refine j_iaload dX11_init_425 sw_s (vp_in_nI (by omega) (by decide)) ?_
    rw [nI_clamp (by omega), FI_ij hI hi hj]
    have tail : jWP (some none) RX11 cX11_init 5 none (d + 1) 0 0 445 [some (.ref 76), some (.int (nI k)), some (.int (nI i)), some (.int (nI j)), some (.int (nI (fT k i k + fT k k j)))] [.int (nI (fT (k + 1) i j)), .int (nI (49 * i + j)), .ref 81] (sw w f) post := by
      refine j_iastore dX11_init_445 sw_s (vp_in_nI (by omega) (by decide)) ?_
      rw [nI_clamp (by omega), sw_p]
      refine j_iinc (v := nI (j + 1)) (lv' := [some (.ref 76), some (.int (nI k)), some (.int (nI i)), some (.int (nI (j + 1))), some (.int (nI (fT k i k + fT k k j)))]) dX11_init_446 rfl (nI_add j 1) (by decide) rfl ?_
      refine j_goto (tgt := 372) dX11_init_449 (by decide) ?_
      refine j_sub (lv' := [some (.ref 76), some (.int (nI k)), some (.int (nI i)), some (.int (nI (j + 1))), none]) ⟨rfl, rfl, rfl, rfl, trivial⟩ ?_
      exact ih (j + 1) _ (by omega) (FI_st hI hi hj)
    refine jn_icmp_ge (tgt := 434) dX11_init_426 (by decide) (by omega) (by omega) (fun h => ?_) (fun h => ?_)
    · refine j_aload_n dX11_init_434 rfl rfl ?_
      refine j_getfield dX11_init_435 jfl_X11_24 eo h6 ?_
      refine j_bipush (v := nI 49) dX11_init_438 rfl ?_
      refine j_iload_n dX11_init_440 rfl rfl ?_
      refine jn_imul dX11_init_441 ?_
      refine j_iload_n dX11_init_442 rfl rfl ?_
      refine jn_iadd dX11_init_443 ?_
      refine j_iaload dX11_init_444 sw_s (vp_in_nI (by omega) (by decide)) ?_
      rw [nI_clamp (by omega), FI_ij hI hi hj]
      have e : fT (k + 1) i j = fT k i j := by
        show (if _ then _ else _) = _
        rw [if_neg (by omega)]
      rw [← e]
      exact tail
    · refine j_iload dX11_init_429 rfl ?_
      refine j_goto (tgt := 445) dX11_init_431 (by decide) ?_
      have e : fT (k + 1) i j = fT k i k + fT k k j := by
        show (if _ then _ else _) = _
        rw [if_pos (by omega)]
      refine j_ats (st' := [.int (nI (fT (k + 1) i j)), .int (nI (49 * i + j)), .ref 81]) (by rw [e]) tail
theorem l_fl2 (ho : w.2 76 = .inr (11, fs)) (h6 : fs[6]? = some (.ref 81)) {k : Nat} (hk : k < 49) (kk : ∀ f, FI f k 49 0 → jWP (some none) RX11 cX11_init 5 none (d + 1) 0 0 458 [some (.ref 76), some (.int (nI k)), none, none, none] [] (sw w f) post) : ∀ (m i : Nat) (f : Nat → Int32), i + m = 49 → FI f k i 0 → jWP (some none) RX11 cX11_init 5 none (d + 1) 0 0 364 [some (.ref 76), some (.int (nI k)), some (.int (nI i)), none, none] [] (sw w f) post := by
  intro m
  induction m with
  | zero =>
    intro i f hm hI
    have hi : i = 49 := by omega
    subst hi
    refine j_iload_n dX11_init_364 rfl rfl ?_
    refine j_bipush (v := nI 49) dX11_init_365 rfl ?_
    refine jn_icmp_ge (tgt := 458) dX11_init_367 (by decide) (by decide) (by decide) (fun _ => ?_) (fun h => absurd h (by decide))
    refine j_sub (lv' := [some (.ref 76), some (.int (nI k)), none, none, none]) ⟨rfl, rfl, trivial⟩ ?_
    exact kk f hI
  | succ m ih =>
    intro i f hm hI
    refine j_iload_n dX11_init_364 rfl rfl ?_
    refine j_bipush (v := nI 49) dX11_init_365 rfl ?_
    refine jn_icmp_ge (tgt := 458) dX11_init_367 (by decide) (by omega) (by decide) (fun h => absurd h (by omega)) (fun _ => ?_)
    refine j_iconst (v := nI 0) dX11_init_370 rfl ?_
    refine j_istore_n (lv' := [some (.ref 76), some (.int (nI k)), some (.int (nI i)), some (.int (nI 0)), none]) dX11_init_371 rfl (by decide) rfl ?_
    refine l_fl3 ho h6 hk (show i < 49 by omega) (fun f hI => ?_) 49 0 f rfl hI
    refine j_iinc (v := nI (i + 1)) (lv' := [some (.ref 76), some (.int (nI k)), some (.int (nI (i + 1))), none, none]) dX11_init_452 rfl (nI_add i 1) (by decide) rfl ?_
    refine j_goto (tgt := 364) dX11_init_455 (by decide) ?_
    exact ih (i + 1) f (by omega) (FI_row hI)
theorem l_fl1 (ho : w.2 76 = .inr (11, fs)) (h6 : fs[6]? = some (.ref 81)) (kk : ∀ f, FI f 49 0 0 → post none (sw w f)) : ∀ (m k : Nat) (f : Nat → Int32), k + m = 49 → FI f k 0 0 → jWP (some none) RX11 cX11_init 5 none (d + 1) 0 0 356 [some (.ref 76), some (.int (nI k)), none, none, none] [] (sw w f) post := by
  intro m
  induction m with
  | zero =>
    intro k f hm hI
    have hk : k = 49 := by omega
    subst hk
    refine j_iload_n dX11_init_356 rfl rfl ?_
    refine j_bipush (v := nI 49) dX11_init_357 rfl ?_
    refine jn_icmp_ge (tgt := 464) dX11_init_359 (by decide) (by decide) (by decide) (fun _ => ?_) (fun h => absurd h (by decide))
    exact j_return dX11_init_464 rfl (kk f hI)
  | succ m ih =>
    intro k f hm hI
    refine j_iload_n dX11_init_356 rfl rfl ?_
    refine j_bipush (v := nI 49) dX11_init_357 rfl ?_
    refine jn_icmp_ge (tgt := 464) dX11_init_359 (by decide) (by omega) (by decide) (fun h => absurd h (by omega)) (fun _ => ?_)
    refine j_iconst (v := nI 0) dX11_init_362 rfl ?_
    refine j_istore_n (lv' := [some (.ref 76), some (.int (nI k)), some (.int (nI 0)), none, none]) dX11_init_363 rfl (by decide) rfl ?_
    refine l_fl2 ho h6 (show k < 49 by omega) (fun f hI => ?_) 49 0 f rfl hI
    refine j_iinc (v := nI (k + 1)) (lv' := [some (.ref 76), some (.int (nI (k + 1))), none, none, none]) dX11_init_458 rfl (nI_add k 1) (by decide) rfl ?_
    refine j_goto (tgt := 356) dX11_init_461 (by decide) ?_
    exact ih (k + 1) f (by omega) (FI_ph hI)
def II (f : Nat → Int32) (i j : Nat) : Prop := ∀ p q, p < 49 → q < 49 → (p < i ∨ (p = i ∧ q < j)) → f (49 * p + q) = nI (fT 0 p q)
theorem II_st {f : Nat → Int32} {i j : Nat} (h : II f i j) (hi : i < 49) (hj : j < 49) : II (upd f (49 * i + j) (nI (fT 0 i j))) i (j + 1) := fun p q hp hq hb => by
  by_cases e : p = i ∧ q = j
  · obtain ⟨rfl, rfl⟩ := e
    rw [ud_s]
  · rw [ud_n _ _ _ (by omega)]
    exact h p q hp hq (by omega)
theorem l_in2 (ho : w.2 76 = .inr (11, fs)) (h6 : fs[6]? = some (.ref 81)) {i : Nat} (hi : i < 49) (kk : ∀ f, II f i 49 → jWP (some none) RX11 cX11_init 5 none (d + 1) 0 0 348 [some (.ref 76), some (.int (nI i)), none, none, none] [] (sw w f) post) : ∀ (m j : Nat) (f : Nat → Int32), j + m = 49 → II f i j → jWP (some none) RX11 cX11_init 5 none (d + 1) 0 0 302 [some (.ref 76), some (.int (nI i)), some (.int (nI j)), none, none] [] (sw w f) post := by
  have eo : ∀ {f : Nat → Int32}, (sw w f).2 76 = .inr (11, fs) := by intro f; rw [sw_n (by decide)]; exact ho
  intro m
  induction m with
  | zero =>
    intro j f hm hI
    have hj : j = 49 := by omega
    subst hj
    refine j_iload_n dX11_init_302 rfl rfl ?_
    refine j_bipush (v := nI 49) dX11_init_303 rfl ?_
    refine jn_icmp_ge (tgt := 348) dX11_init_305 (by decide) (by decide) (by decide) (fun _ => ?_) (fun h => absurd h (by decide))
    refine j_sub (lv' := [some (.ref 76), some (.int (nI i)), none, none, none]) ⟨rfl, rfl, trivial⟩ ?_
    exact kk f hI
  | succ m ih =>
    intro j f hm hI
    have hj : j < 49 := by omega
    refine j_iload_n dX11_init_302 rfl rfl ?_
    refine j_bipush (v := nI 49) dX11_init_303 rfl ?_
    refine jn_icmp_ge (tgt := 348) dX11_init_305 (by decide) (by omega) (by decide) (fun h => absurd h (by omega)) (fun _ => ?_)
    refine j_aload_n dX11_init_308 rfl rfl ?_
    refine j_getfield dX11_init_309 jfl_X11_24 eo h6 ?_
    refine j_bipush (v := nI 49) dX11_init_312 rfl ?_
    refine j_iload_n dX11_init_314 rfl rfl ?_
    refine jn_imul dX11_init_315 ?_
    refine j_iload_n dX11_init_316 rfl rfl ?_
    refine jn_iadd dX11_init_317 ?_
    refine j_iload_n dX11_init_318 rfl rfl ?_
    refine j_iload_n dX11_init_319 rfl rfl ?_
    have tail : ∀ y : Nat, y = fT 0 i j → jWP (some none) RX11 cX11_init 5 none (d + 1) 0 0 341 [some (.ref 76), some (.int (nI i)), some (.int (nI j)), none, none] [.int (nI y), .int (nI (49 * i + j)), .ref 81] (sw w f) post := fun y hy => by
      subst hy
      refine j_iastore dX11_init_341 sw_s (vp_in_nI (by omega) (by decide)) ?_
      rw [nI_clamp (by omega), sw_p]
      refine j_iinc (v := nI (j + 1)) (lv' := [some (.ref 76), some (.int (nI i)), some (.int (nI (j + 1))), none, none]) dX11_init_342 rfl (nI_add j 1) (by decide) rfl ?_
      refine j_goto (tgt := 302) dX11_init_345 (by decide) ?_
      exact ih (j + 1) _ (by omega) (II_st hI hi hj)
    refine jn_icmp_ne (tgt := 327) dX11_init_320 (by decide) (by omega) (by omega) (fun h => ?_) (fun h => ?_)
    · refine j_iload_n dX11_init_327 rfl rfl ?_
      refine j_iload_n dX11_init_328 rfl rfl ?_
      refine j_callSi [.int (nI i), .int (nI j)] [.int (nI (49 * i + j)), .ref 81] dX11_init_329 jlk_X11_99 rfl rfl (Nat.le_of_ble_eq_true rfl) (m_isNext hi hj) ?_
      cases hx : isNx i j with
      | true =>
        refine j_if_eq (tgt := 339) dX11_init_332 (by decide) (fun h => absurd h (by decide)) (fun _ => ?_)
        refine j_iconst (v := nI 1) dX11_init_335 rfl ?_
        refine j_goto (tgt := 341) dX11_init_336 (by decide) ?_
        exact tail 1 (by unfold fT; rw [if_neg h, if_pos hx])
      | false =>
        refine j_if_eq (tgt := 339) dX11_init_332 (by decide) (fun _ => ?_) (fun h => absurd rfl h)
        refine j_bipush (v := nI 49) dX11_init_339 rfl ?_
        exact tail 49 (by unfold fT; rw [if_neg h, if_neg (by rw [hx]; decide)])
    · refine j_iconst (v := nI 0) dX11_init_323 rfl ?_
      refine j_goto (tgt := 341) dX11_init_324 (by decide) ?_
      exact tail 0 (by unfold fT; rw [if_pos h])
theorem l_in1 (ho : w.2 76 = .inr (11, fs)) (h6 : fs[6]? = some (.ref 81)) (kk : ∀ f, FI f 49 0 0 → post none (sw w f)) : ∀ (m i : Nat) (f : Nat → Int32), i + m = 49 → II f i 0 → jWP (some none) RX11 cX11_init 5 none (d + 1) 0 0 294 [some (.ref 76), some (.int (nI i)), none, none, none] [] (sw w f) post := by
  intro m
  induction m with
  | zero =>
    intro i f hm hI
    have hi : i = 49 := by omega
    subst hi
    refine j_iload_n dX11_init_294 rfl rfl ?_
    refine j_bipush (v := nI 49) dX11_init_295 rfl ?_
    refine jn_icmp_ge (tgt := 354) dX11_init_297 (by decide) (by decide) (by decide) (fun _ => ?_) (fun h => absurd h (by decide))
    refine j_iconst (v := nI 0) dX11_init_354 rfl ?_
    refine j_istore_n (lv' := [some (.ref 76), some (.int (nI 0)), none, none, none]) dX11_init_355 rfl (by decide) rfl ?_
    refine l_fl1 ho h6 kk 49 0 f rfl (fun p q hp hq => ?_)
    rw [hI p q hp hq (by omega)]
    unfold fM
    rw [if_neg (by omega)]
  | succ m ih =>
    intro i f hm hI
    refine j_iload_n dX11_init_294 rfl rfl ?_
    refine j_bipush (v := nI 49) dX11_init_295 rfl ?_
    refine jn_icmp_ge (tgt := 354) dX11_init_297 (by decide) (by omega) (by decide) (fun h => absurd h (by omega)) (fun _ => ?_)
    refine j_iconst (v := nI 0) dX11_init_300 rfl ?_
    refine j_istore_n (lv' := [some (.ref 76), some (.int (nI i)), some (.int (nI 0)), none, none]) dX11_init_301 rfl (by decide) rfl ?_
    refine l_in2 ho h6 (show i < 49 by omega) (fun f hI => ?_) 49 0 f rfl hI
    refine j_iinc (v := nI (i + 1)) (lv' := [some (.ref 76), some (.int (nI (i + 1))), none, none, none]) dX11_init_348 rfl (nI_add i 1) (by decide) rfl ?_
    refine j_goto (tgt := 294) dX11_init_351 (by decide) ?_
    exact ih (i + 1) f (by omega) (fun p q hp hq hb => hI p q hp hq (by omega))
theorem l_wh (h8 : fs[8]? = some (.ref 82)) (h10 : fs[10]? = some (.ref 84)) : ∀ (m i : Nat) (w : jW) (f g : Nat → Int32), i + m = 49 → w.2 76 = .inr (11, fs) → w.2 82 = .inl (0, 49, .inl f) → w.2 84 = .inl (0, 49, .inl g) → jWP (some none) RX11 cX11_init 5 none (d + 1) 0 0 292 [some (.ref 76), none, none, none, none] [] (ju (ju w 82 (.inl (0, 49, .inl (fiF (fun _ => -1) f i 49)))) 84 (.inl (0, 49, .inl (fiF (fun _ => -1) g i 49)))) post → jWP (some none) RX11 cX11_init 5 none (d + 1) 0 0 266 [some (.ref 76), some (.int (nI i)), none, none, none] [] w post := by
  intro m
  induction m with
  | zero =>
    intro i w f g hm e1 e4 e5 hp
    have hi : i = 49 := by omega
    subst hi
    refine j_iload_n dX11_init_266 rfl rfl ?_
    refine j_bipush (v := nI 49) dX11_init_267 rfl ?_
    refine jn_icmp_ge (tgt := 292) dX11_init_269 (by decide) (by decide) (by decide) (fun _ => ?_) (fun h => absurd h (by decide))
    refine j_sub (lv' := [some (.ref 76), none, none, none, none]) ⟨rfl, trivial⟩ ?_
    rw [fiF_e, fiF_e, ← e4, ← e5] at hp
    unfold ju at hp
    rw [vu_self] at hp
    have e : va_up w.2 84 (w.2 84) = w.2 := vu_self _ _
    rw [e] at hp
    exact hp
  | succ m ih =>
    intro i w f g hm e1 e4 e5 hp
    refine j_iload_n dX11_init_266 rfl rfl ?_
    refine j_bipush (v := nI 49) dX11_init_267 rfl ?_
    refine jn_icmp_ge (tgt := 292) dX11_init_269 (by decide) (by omega) (by decide) (fun h => absurd h (by omega)) (fun _ => ?_)
    refine j_aload_n dX11_init_272 rfl rfl ?_
    refine j_getfield dX11_init_273 jfl_X11_27 e1 h8 ?_
    refine j_iload_n dX11_init_276 rfl rfl ?_
    refine j_iconst (v := -1) dX11_init_277 rfl ?_
    refine j_iastore dX11_init_278 e4 (vp_in_nI (by omega) (by decide)) ?_
    rw [nI_clamp (by omega)]
    refine j_aload_n dX11_init_279 rfl rfl ?_
    refine j_getfield dX11_init_280 jfl_X11_33 (by rw [ju_n _ _ _ (by decide)]; exact e1) h10 ?_
    refine j_iload_n dX11_init_283 rfl rfl ?_
    refine j_iconst (v := -1) dX11_init_284 rfl ?_
    refine j_iastore (f := g) dX11_init_285 (by rw [ju_n _ _ _ (by decide)]; exact e5) (vp_in_nI (by omega) (by decide)) ?_
    rw [nI_clamp (by omega)]
    refine j_iinc (v := nI (i + 1)) (lv' := [some (.ref 76), some (.int (nI (i + 1))), none, none, none]) dX11_init_286 rfl (nI_add i 1) (by decide) rfl ?_
    refine j_goto (tgt := 266) dX11_init_289 (by decide) ?_
    refine ih (i + 1) _ (upd f i (-1)) (upd g i (-1)) (by omega) (by rw [ju_n _ _ _ (by decide), ju_n _ _ _ (by decide)]; exact e1) (by rw [ju_n _ _ _ (by decide), ju_s]) (by rw [ju_s]) ?_
    rw [ju_4 _ _ _ _ _ (by decide), fiF_s (v := fun _ => -1) (show i < 49 by omega), fiF_s (v := fun _ => -1) (show i < 49 by omega)]
    exact hp
end MODEL0
section MODEL1
variable {d : Nat} {c : Nat → jE}
theorem sw_back {w : jW} {f : Nat → Int32} (h : w.2 81 = .inl (0, 2401, .inl f)) : sw w f = w := by
  unfold sw ju
  rw [← h, vu_self]
def mF0 : List Value := [.null, .null, .null, .null, .int 0, .int 0, .null, .int 0, .null, .null, .null, .null, .null, .int 0, .null, .int 0, .int 0, .int 0, .int 0, .int 0, .int 0, .null, .null, .null, .null, .int 0, .null, .int 0, .int 0, .int 0, .null, .null, .int 0, .null, .null, .null, .int 0, .null, .null, .int 0, .int 0, .int 0, .null, .null, .null, .null]
def mF1 : List Value := [.ref 77, .null, .null, .null, .int 0, .int 0, .null, .int 0, .null, .null, .null, .null, .null, .int 0, .null, .int 0, .int 0, .int 0, .int 0, .int 0, .int 0, .null, .null, .null, .null, .int 0, .null, .int 0, .int 0, .int 0, .null, .null, .int 0, .null, .null, .null, .int 0, .null, .null, .int 0, .int 0, .int 0, .null, .null, .null, .null]
def mF2 : List Value := [.ref 77, .ref 78, .null, .null, .int 0, .int 0, .null, .int 0, .null, .null, .null, .null, .null, .int 0, .null, .int 0, .int 0, .int 0, .int 0, .int 0, .int 0, .null, .null, .null, .null, .int 0, .null, .int 0, .int 0, .int 0, .null, .null, .int 0, .null, .null, .null, .int 0, .null, .null, .int 0, .int 0, .int 0, .null, .null, .null, .null]
def mF3 : List Value := [.ref 77, .ref 78, .ref 79, .null, .int 0, .int 0, .null, .int 0, .null, .null, .null, .null, .null, .int 0, .null, .int 0, .int 0, .int 0, .int 0, .int 0, .int 0, .null, .null, .null, .null, .int 0, .null, .int 0, .int 0, .int 0, .null, .null, .int 0, .null, .null, .null, .int 0, .null, .null, .int 0, .int 0, .int 0, .null, .null, .null, .null]
def mF4 : List Value := [.ref 77, .ref 78, .ref 79, .ref 80, .int 0, .int 0, .null, .int 0, .null, .null, .null, .null, .null, .int 0, .null, .int 0, .int 0, .int 0, .int 0, .int 0, .int 0, .null, .null, .null, .null, .int 0, .null, .int 0, .int 0, .int 0, .null, .null, .int 0, .null, .null, .null, .int 0, .null, .null, .int 0, .int 0, .int 0, .null, .null, .null, .null]
def mF5 : List Value := [.ref 77, .ref 78, .ref 79, .ref 80, .int 0, .int 0, .ref 81, .int 0, .null, .null, .null, .null, .null, .int 0, .null, .int 0, .int 0, .int 0, .int 0, .int 0, .int 0, .null, .null, .null, .null, .int 0, .null, .int 0, .int 0, .int 0, .null, .null, .int 0, .null, .null, .null, .int 0, .null, .null, .int 0, .int 0, .int 0, .null, .null, .null, .null]
def mF6 : List Value := [.ref 77, .ref 78, .ref 79, .ref 80, .int 0, .int 0, .ref 81, .int 0, .ref 82, .null, .null, .null, .null, .int 0, .null, .int 0, .int 0, .int 0, .int 0, .int 0, .int 0, .null, .null, .null, .null, .int 0, .null, .int 0, .int 0, .int 0, .null, .null, .int 0, .null, .null, .null, .int 0, .null, .null, .int 0, .int 0, .int 0, .null, .null, .null, .null]
def mF7 : List Value := [.ref 77, .ref 78, .ref 79, .ref 80, .int 0, .int 0, .ref 81, .int 0, .ref 82, .ref 83, .null, .null, .null, .int 0, .null, .int 0, .int 0, .int 0, .int 0, .int 0, .int 0, .null, .null, .null, .null, .int 0, .null, .int 0, .int 0, .int 0, .null, .null, .int 0, .null, .null, .null, .int 0, .null, .null, .int 0, .int 0, .int 0, .null, .null, .null, .null]
def mF8 : List Value := [.ref 77, .ref 78, .ref 79, .ref 80, .int 0, .int 0, .ref 81, .int 0, .ref 82, .ref 83, .ref 84, .null, .null, .int 0, .null, .int 0, .int 0, .int 0, .int 0, .int 0, .int 0, .null, .null, .null, .null, .int 0, .null, .int 0, .int 0, .int 0, .null, .null, .int 0, .null, .null, .null, .int 0, .null, .null, .int 0, .int 0, .int 0, .null, .null, .null, .null]
def mF9 : List Value := [.ref 77, .ref 78, .ref 79, .ref 80, .int 0, .int 0, .ref 81, .int 0, .ref 82, .ref 83, .ref 84, .ref 85, .null, .int 0, .null, .int 0, .int 0, .int 0, .int 0, .int 0, .int 0, .null, .null, .null, .null, .int 0, .null, .int 0, .int 0, .int 0, .null, .null, .int 0, .null, .null, .null, .int 0, .null, .null, .int 0, .int 0, .int 0, .null, .null, .null, .null]
def mF10 : List Value := [.ref 77, .ref 78, .ref 79, .ref 80, .int 0, .int 0, .ref 81, .int 0, .ref 82, .ref 83, .ref 84, .ref 85, .ref 86, .int 0, .null, .int 0, .int 0, .int 0, .int 0, .int 0, .int 0, .null, .null, .null, .null, .int 0, .null, .int 0, .int 0, .int 0, .null, .null, .int 0, .null, .null, .null, .int 0, .null, .null, .int 0, .int 0, .int 0, .null, .null, .null, .null]
def mF11 : List Value := [.ref 77, .ref 78, .ref 79, .ref 80, .int 0, .int 0, .ref 81, .int 0, .ref 82, .ref 83, .ref 84, .ref 85, .ref 86, .int 0, .ref 87, .int 0, .int 0, .int 0, .int 0, .int 0, .int 0, .null, .null, .null, .null, .int 0, .null, .int 0, .int 0, .int 0, .null, .null, .int 0, .null, .null, .null, .int 0, .null, .null, .int 0, .int 0, .int 0, .null, .null, .null, .null]
def mF12 : List Value := [.ref 77, .ref 78, .ref 79, .ref 80, .int 0, .int 0, .ref 81, .int 0, .ref 82, .ref 83, .ref 84, .ref 85, .ref 86, .int 0, .ref 87, .int 0, .int 0, .int 0, .int 0, .int 0, .int 0, .ref 88, .null, .null, .null, .int 0, .null, .int 0, .int 0, .int 0, .null, .null, .int 0, .null, .null, .null, .int 0, .null, .null, .int 0, .int 0, .int 0, .null, .null, .null, .null]
def mF13 : List Value := [.ref 77, .ref 78, .ref 79, .ref 80, .int 0, .int 0, .ref 81, .int 0, .ref 82, .ref 83, .ref 84, .ref 85, .ref 86, .int 0, .ref 87, .int 0, .int 0, .int 0, .int 0, .int 0, .int 0, .ref 88, .ref 89, .null, .null, .int 0, .null, .int 0, .int 0, .int 0, .null, .null, .int 0, .null, .null, .null, .int 0, .null, .null, .int 0, .int 0, .int 0, .null, .null, .null, .null]
def mF14 : List Value := [.ref 77, .ref 78, .ref 79, .ref 80, .int 0, .int 0, .ref 81, .int 0, .ref 82, .ref 83, .ref 84, .ref 85, .ref 86, .int 0, .ref 87, .int 0, .int 0, .int 0, .int 0, .int 0, .int 0, .ref 88, .ref 89, .ref 90, .null, .int 0, .null, .int 0, .int 0, .int 0, .null, .null, .int 0, .null, .null, .null, .int 0, .null, .null, .int 0, .int 0, .int 0, .null, .null, .null, .null]
def mF15 : List Value := [.ref 77, .ref 78, .ref 79, .ref 80, .int 0, .int 0, .ref 81, .int 0, .ref 82, .ref 83, .ref 84, .ref 85, .ref 86, .int 0, .ref 87, .int 0, .int 0, .int 0, .int 0, .int 0, .int 0, .ref 88, .ref 89, .ref 90, .ref 91, .int 0, .null, .int 0, .int 0, .int 0, .null, .null, .int 0, .null, .null, .null, .int 0, .null, .null, .int 0, .int 0, .int 0, .null, .null, .null, .null]
def mF16 : List Value := [.ref 77, .ref 78, .ref 79, .ref 80, .int 0, .int 0, .ref 81, .int 0, .ref 82, .ref 83, .ref 84, .ref 85, .ref 86, .int 0, .ref 87, .int 0, .int 0, .int 0, .int 0, .int 0, .int 0, .ref 88, .ref 89, .ref 90, .ref 91, .int 0, .ref 92, .int 0, .int 0, .int 0, .null, .null, .int 0, .null, .null, .null, .int 0, .null, .null, .int 0, .int 0, .int 0, .null, .null, .null, .null]
def mF17 : List Value := [.ref 77, .ref 78, .ref 79, .ref 80, .int 0, .int 0, .ref 81, .int 0, .ref 82, .ref 83, .ref 84, .ref 85, .ref 86, .int 0, .ref 87, .int 0, .int 0, .int 0, .int 0, .int 0, .int 0, .ref 88, .ref 89, .ref 90, .ref 91, .int 0, .ref 92, .int 0, .int 0, .int 0, .ref 93, .null, .int 0, .null, .null, .null, .int 0, .null, .null, .int 0, .int 0, .int 0, .null, .null, .null, .null]
def mF18 : List Value := [.ref 77, .ref 78, .ref 79, .ref 80, .int 0, .int 0, .ref 81, .int 0, .ref 82, .ref 83, .ref 84, .ref 85, .ref 86, .int 0, .ref 87, .int 0, .int 0, .int 0, .int 0, .int 0, .int 0, .ref 88, .ref 89, .ref 90, .ref 91, .int 0, .ref 92, .int 0, .int 0, .int 0, .ref 93, .ref 94, .int 0, .null, .null, .null, .int 0, .null, .null, .int 0, .int 0, .int 0, .null, .null, .null, .null]
def mF19 : List Value := [.ref 77, .ref 78, .ref 79, .ref 80, .int 0, .int 0, .ref 81, .int 0, .ref 82, .ref 83, .ref 84, .ref 85, .ref 86, .int 0, .ref 87, .int 0, .int 0, .int 0, .int 0, .int 0, .int 0, .ref 88, .ref 89, .ref 90, .ref 91, .int 0, .ref 92, .int 0, .int 0, .int 0, .ref 93, .ref 94, .int 0, .ref 95, .null, .null, .int 0, .null, .null, .int 0, .int 0, .int 0, .null, .null, .null, .null]
def mF20 : List Value := [.ref 77, .ref 78, .ref 79, .ref 80, .int 0, .int 0, .ref 81, .int 0, .ref 82, .ref 83, .ref 84, .ref 85, .ref 86, .int 0, .ref 87, .int 0, .int 0, .int 0, .int 0, .int 0, .int 0, .ref 88, .ref 89, .ref 90, .ref 91, .int 0, .ref 92, .int 0, .int 0, .int 0, .ref 93, .ref 94, .int 0, .ref 95, .ref 96, .null, .int 0, .null, .null, .int 0, .int 0, .int 0, .null, .null, .null, .null]
def mF21 : List Value := [.ref 77, .ref 78, .ref 79, .ref 80, .int 0, .int 0, .ref 81, .int 0, .ref 82, .ref 83, .ref 84, .ref 85, .ref 86, .int 0, .ref 87, .int 0, .int 0, .int 0, .int 0, .int 0, .int 0, .ref 88, .ref 89, .ref 90, .ref 91, .int 0, .ref 92, .int 0, .int 0, .int 0, .ref 93, .ref 94, .int 0, .ref 95, .ref 96, .ref 97, .int 0, .null, .null, .int 0, .int 0, .int 0, .null, .null, .null, .null]
def mF22 : List Value := [.ref 77, .ref 78, .ref 79, .ref 80, .int 0, .int 0, .ref 81, .int 0, .ref 82, .ref 83, .ref 84, .ref 85, .ref 86, .int 0, .ref 87, .int 0, .int 0, .int 0, .int 0, .int 0, .int 0, .ref 88, .ref 89, .ref 90, .ref 91, .int 0, .ref 92, .int 0, .int 0, .int 0, .ref 93, .ref 94, .int 0, .ref 95, .ref 96, .ref 97, .int 0, .ref 98, .null, .int 0, .int 0, .int 0, .null, .null, .null, .null]
def mF23 : List Value := [.ref 77, .ref 78, .ref 79, .ref 80, .int 0, .int 0, .ref 81, .int 0, .ref 82, .ref 83, .ref 84, .ref 85, .ref 86, .int 0, .ref 87, .int 0, .int 0, .int 0, .int 0, .int 0, .int 0, .ref 88, .ref 89, .ref 90, .ref 91, .int 0, .ref 92, .int 0, .int 0, .int 0, .ref 93, .ref 94, .int 0, .ref 95, .ref 96, .ref 97, .int 0, .ref 98, .ref 99, .int 0, .int 0, .int 0, .null, .null, .null, .null]
def mF24 : List Value := [.ref 77, .ref 78, .ref 79, .ref 80, .int 0, .int 0, .ref 81, .int 0, .ref 82, .ref 83, .ref 84, .ref 85, .ref 86, .int 0, .ref 87, .int 0, .int 0, .int 0, .int 0, .int 0, .int 0, .ref 88, .ref 89, .ref 90, .ref 91, .int 0, .ref 92, .int 0, .int 0, .int 0, .ref 93, .ref 94, .int 0, .ref 95, .ref 96, .ref 97, .int 0, .ref 98, .ref 99, .int 0, .int 0, .int 0, .ref 100, .null, .null, .null]
def mF25 : List Value := [.ref 77, .ref 78, .ref 79, .ref 80, .int 0, .int 0, .ref 81, .int 0, .ref 82, .ref 83, .ref 84, .ref 85, .ref 86, .int 0, .ref 87, .int 0, .int 0, .int 0, .int 0, .int 0, .int 0, .ref 88, .ref 89, .ref 90, .ref 91, .int 0, .ref 92, .int 0, .int 0, .int 0, .ref 93, .ref 94, .int 0, .ref 95, .ref 96, .ref 97, .int 0, .ref 98, .ref 99, .int 0, .int 0, .int 0, .ref 100, .ref 101, .null, .null]
def mF26 : List Value := [.ref 77, .ref 78, .ref 79, .ref 80, .int 0, .int 0, .ref 81, .int 0, .ref 82, .ref 83, .ref 84, .ref 85, .ref 86, .int 0, .ref 87, .int 0, .int 0, .int 0, .int 0, .int 0, .int 0, .ref 88, .ref 89, .ref 90, .ref 91, .int 0, .ref 92, .int 0, .int 0, .int 0, .ref 93, .ref 94, .int 0, .ref 95, .ref 96, .ref 97, .int 0, .ref 98, .ref 99, .int 0, .int 0, .int 0, .ref 100, .ref 101, .ref 102, .null]
def mF27 : List Value := [.ref 77, .ref 78, .ref 79, .ref 80, .int 0, .int 0, .ref 81, .int 0, .ref 82, .ref 83, .ref 84, .ref 85, .ref 86, .int 0, .ref 87, .int 0, .int 0, .int 0, .int 0, .int 0, .int 0, .ref 88, .ref 89, .ref 90, .ref 91, .int 0, .ref 92, .int 0, .int 0, .int 0, .ref 93, .ref 94, .int 0, .ref 95, .ref 96, .ref 97, .int 0, .ref 98, .ref 99, .int 0, .int 0, .int 0, .ref 100, .ref 101, .ref 102, .ref 103]
set_option maxHeartbeats 4000000 in
set_option maxRecDepth 100000 in
theorem k_X11_init_76 (hs : c 76 = .inr (11, [.null, .null, .null, .null, .int 0, .int 0, .null, .int 0, .null, .null, .null, .null, .null, .int 0, .null, .int 0, .int 0, .int 0, .int 0, .int 0, .int 0, .null, .null, .null, .null, .int 0, .null, .int 0, .int 0, .int 0, .null, .null, .int 0, .null, .null, .null, .int 0, .null, .null, .int 0, .int 0, .int 0, .null, .null, .null, .null]))  : jMet (d + 1) yX11_init cX11_init 5 none 27 4680 [.ref 76] (77, c) (fun r w => ∃ f81 : Nat → Int32, r = none ∧ w = (104, va_up (va_up (va_up (va_up (va_up (va_up (va_up (va_up (va_up (va_up (va_up (va_up (va_up (va_up (va_up (va_up (va_up (va_up (va_up (va_up (va_up (va_up (va_up (va_up (va_up (va_up (va_up (va_up (va_up (va_up (va_up (va_up (va_up (va_up (va_up (va_up (va_up (va_up (va_up (va_up (va_up (va_up (va_up (va_up (va_up (va_up (va_up (va_up (va_up (va_up (va_up (va_up (va_up (va_up (va_up (va_up (va_up (va_up (va_up (va_up (va_up (va_up (va_up (va_up (va_up (va_up (c) 77 (.inl (0, 8, .inl fun _ => 0))) 76 (.inr (11, [.ref 77, .null, .null, .null, .int 0, .int 0, .null, .int 0, .null, .null, .null, .null, .null, .int 0, .null, .int 0, .int 0, .int 0, .int 0, .int 0, .int 0, .null, .null, .null, .null, .int 0, .null, .int 0, .int 0, .int 0, .null, .null, .int 0, .null, .null, .null, .int 0, .null, .null, .int 0, .int 0, .int 0, .null, .null, .null, .null]))) 78 (.inl (0, 40, .inl fun _ => 0))) 76 (.inr (11, [.ref 77, .ref 78, .null, .null, .int 0, .int 0, .null, .int 0, .null, .null, .null, .null, .null, .int 0, .null, .int 0, .int 0, .int 0, .int 0, .int 0, .int 0, .null, .null, .null, .null, .int 0, .null, .int 0, .int 0, .int 0, .null, .null, .int 0, .null, .null, .null, .int 0, .null, .null, .int 0, .int 0, .int 0, .null, .null, .null, .null]))) 79 (.inl (0, 40, .inl fun _ => 0))) 76 (.inr (11, [.ref 77, .ref 78, .ref 79, .null, .int 0, .int 0, .null, .int 0, .null, .null, .null, .null, .null, .int 0, .null, .int 0, .int 0, .int 0, .int 0, .int 0, .int 0, .null, .null, .null, .null, .int 0, .null, .int 0, .int 0, .int 0, .null, .null, .int 0, .null, .null, .null, .int 0, .null, .null, .int 0, .int 0, .int 0, .null, .null, .null, .null]))) 80 (.inl (0, 40, .inl fun _ => 0))) 76 (.inr (11, [.ref 77, .ref 78, .ref 79, .ref 80, .int 0, .int 0, .null, .int 0, .null, .null, .null, .null, .null, .int 0, .null, .int 0, .int 0, .int 0, .int 0, .int 0, .int 0, .null, .null, .null, .null, .int 0, .null, .int 0, .int 0, .int 0, .null, .null, .int 0, .null, .null, .null, .int 0, .null, .null, .int 0, .int 0, .int 0, .null, .null, .null, .null]))) 81 (.inl (0, 2401, .inl fun _ => 0))) 76 (.inr (11, [.ref 77, .ref 78, .ref 79, .ref 80, .int 0, .int 0, .ref 81, .int 0, .null, .null, .null, .null, .null, .int 0, .null, .int 0, .int 0, .int 0, .int 0, .int 0, .int 0, .null, .null, .null, .null, .int 0, .null, .int 0, .int 0, .int 0, .null, .null, .int 0, .null, .null, .null, .int 0, .null, .null, .int 0, .int 0, .int 0, .null, .null, .null, .null]))) 82 (.inl (0, 49, .inl fun _ => 0))) 76 (.inr (11, [.ref 77, .ref 78, .ref 79, .ref 80, .int 0, .int 0, .ref 81, .int 0, .ref 82, .null, .null, .null, .null, .int 0, .null, .int 0, .int 0, .int 0, .int 0, .int 0, .int 0, .null, .null, .null, .null, .int 0, .null, .int 0, .int 0, .int 0, .null, .null, .int 0, .null, .null, .null, .int 0, .null, .null, .int 0, .int 0, .int 0, .null, .null, .null, .null]))) 83 (.inl (0, 49, .inl fun _ => 0))) 76 (.inr (11, [.ref 77, .ref 78, .ref 79, .ref 80, .int 0, .int 0, .ref 81, .int 0, .ref 82, .ref 83, .null, .null, .null, .int 0, .null, .int 0, .int 0, .int 0, .int 0, .int 0, .int 0, .null, .null, .null, .null, .int 0, .null, .int 0, .int 0, .int 0, .null, .null, .int 0, .null, .null, .null, .int 0, .null, .null, .int 0, .int 0, .int 0, .null, .null, .null, .null]))) 84 (.inl (0, 49, .inl fun _ => 0))) 76 (.inr (11, [.ref 77, .ref 78, .ref 79, .ref 80, .int 0, .int 0, .ref 81, .int 0, .ref 82, .ref 83, .ref 84, .null, .null, .int 0, .null, .int 0, .int 0, .int 0, .int 0, .int 0, .int 0, .null, .null, .null, .null, .int 0, .null, .int 0, .int 0, .int 0, .null, .null, .int 0, .null, .null, .null, .int 0, .null, .null, .int 0, .int 0, .int 0, .null, .null, .null, .null]))) 85 (.inl (0, 49, .inl fun _ => 0))) 76 (.inr (11, [.ref 77, .ref 78, .ref 79, .ref 80, .int 0, .int 0, .ref 81, .int 0, .ref 82, .ref 83, .ref 84, .ref 85, .null, .int 0, .null, .int 0, .int 0, .int 0, .int 0, .int 0, .int 0, .null, .null, .null, .null, .int 0, .null, .int 0, .int 0, .int 0, .null, .null, .int 0, .null, .null, .null, .int 0, .null, .null, .int 0, .int 0, .int 0, .null, .null, .null, .null]))) 86 (.inl (0, 120, .inl fun _ => 0))) 76 (.inr (11, [.ref 77, .ref 78, .ref 79, .ref 80, .int 0, .int 0, .ref 81, .int 0, .ref 82, .ref 83, .ref 84, .ref 85, .ref 86, .int 0, .null, .int 0, .int 0, .int 0, .int 0, .int 0, .int 0, .null, .null, .null, .null, .int 0, .null, .int 0, .int 0, .int 0, .null, .null, .int 0, .null, .null, .null, .int 0, .null, .null, .int 0, .int 0, .int 0, .null, .null, .null, .null]))) 87 (.inl (0, 120, .inl fun _ => 0))) 76 (.inr (11, [.ref 77, .ref 78, .ref 79, .ref 80, .int 0, .int 0, .ref 81, .int 0, .ref 82, .ref 83, .ref 84, .ref 85, .ref 86, .int 0, .ref 87, .int 0, .int 0, .int 0, .int 0, .int 0, .int 0, .null, .null, .null, .null, .int 0, .null, .int 0, .int 0, .int 0, .null, .null, .int 0, .null, .null, .null, .int 0, .null, .null, .int 0, .int 0, .int 0, .null, .null, .null, .null]))) 88 (.inl (0, 6, .inl fun _ => 0))) 76 (.inr (11, [.ref 77, .ref 78, .ref 79, .ref 80, .int 0, .int 0, .ref 81, .int 0, .ref 82, .ref 83, .ref 84, .ref 85, .ref 86, .int 0, .ref 87, .int 0, .int 0, .int 0, .int 0, .int 0, .int 0, .ref 88, .null, .null, .null, .int 0, .null, .int 0, .int 0, .int 0, .null, .null, .int 0, .null, .null, .null, .int 0, .null, .null, .int 0, .int 0, .int 0, .null, .null, .null, .null]))) 89 (.inl (2, 49, .inl fun _ => 0))) 76 (.inr (11, [.ref 77, .ref 78, .ref 79, .ref 80, .int 0, .int 0, .ref 81, .int 0, .ref 82, .ref 83, .ref 84, .ref 85, .ref 86, .int 0, .ref 87, .int 0, .int 0, .int 0, .int 0, .int 0, .int 0, .ref 88, .ref 89, .null, .null, .int 0, .null, .int 0, .int 0, .int 0, .null, .null, .int 0, .null, .null, .null, .int 0, .null, .null, .int 0, .int 0, .int 0, .null, .null, .null, .null]))) 90 (.inl (0, 5, .inl fun _ => 0))) 76 (.inr (11, [.ref 77, .ref 78, .ref 79, .ref 80, .int 0, .int 0, .ref 81, .int 0, .ref 82, .ref 83, .ref 84, .ref 85, .ref 86, .int 0, .ref 87, .int 0, .int 0, .int 0, .int 0, .int 0, .int 0, .ref 88, .ref 89, .ref 90, .null, .int 0, .null, .int 0, .int 0, .int 0, .null, .null, .int 0, .null, .null, .null, .int 0, .null, .null, .int 0, .int 0, .int 0, .null, .null, .null, .null]))) 91 (.inl (0, 5, .inl fun _ => 0))) 76 (.inr (11, [.ref 77, .ref 78, .ref 79, .ref 80, .int 0, .int 0, .ref 81, .int 0, .ref 82, .ref 83, .ref 84, .ref 85, .ref 86, .int 0, .ref 87, .int 0, .int 0, .int 0, .int 0, .int 0, .int 0, .ref 88, .ref 89, .ref 90, .ref 91, .int 0, .null, .int 0, .int 0, .int 0, .null, .null, .int 0, .null, .null, .null, .int 0, .null, .null, .int 0, .int 0, .int 0, .null, .null, .null, .null]))) 92 (.inl (0, 10, .inl fun _ => 0))) 76 (.inr (11, [.ref 77, .ref 78, .ref 79, .ref 80, .int 0, .int 0, .ref 81, .int 0, .ref 82, .ref 83, .ref 84, .ref 85, .ref 86, .int 0, .ref 87, .int 0, .int 0, .int 0, .int 0, .int 0, .int 0, .ref 88, .ref 89, .ref 90, .ref 91, .int 0, .ref 92, .int 0, .int 0, .int 0, .null, .null, .int 0, .null, .null, .null, .int 0, .null, .null, .int 0, .int 0, .int 0, .null, .null, .null, .null]))) 93 (.inl (2, 1024, .inl fun _ => 0))) 76 (.inr (11, [.ref 77, .ref 78, .ref 79, .ref 80, .int 0, .int 0, .ref 81, .int 0, .ref 82, .ref 83, .ref 84, .ref 85, .ref 86, .int 0, .ref 87, .int 0, .int 0, .int 0, .int 0, .int 0, .int 0, .ref 88, .ref 89, .ref 90, .ref 91, .int 0, .ref 92, .int 0, .int 0, .int 0, .ref 93, .null, .int 0, .null, .null, .null, .int 0, .null, .null, .int 0, .int 0, .int 0, .null, .null, .null, .null]))) 94 (.inl (0, 6, .inl fun _ => 0))) 76 (.inr (11, [.ref 77, .ref 78, .ref 79, .ref 80, .int 0, .int 0, .ref 81, .int 0, .ref 82, .ref 83, .ref 84, .ref 85, .ref 86, .int 0, .ref 87, .int 0, .int 0, .int 0, .int 0, .int 0, .int 0, .ref 88, .ref 89, .ref 90, .ref 91, .int 0, .ref 92, .int 0, .int 0, .int 0, .ref 93, .ref 94, .int 0, .null, .null, .null, .int 0, .null, .null, .int 0, .int 0, .int 0, .null, .null, .null, .null]))) 95 (.inl (0, 49, .inl fun _ => 0))) 76 (.inr (11, [.ref 77, .ref 78, .ref 79, .ref 80, .int 0, .int 0, .ref 81, .int 0, .ref 82, .ref 83, .ref 84, .ref 85, .ref 86, .int 0, .ref 87, .int 0, .int 0, .int 0, .int 0, .int 0, .int 0, .ref 88, .ref 89, .ref 90, .ref 91, .int 0, .ref 92, .int 0, .int 0, .int 0, .ref 93, .ref 94, .int 0, .ref 95, .null, .null, .int 0, .null, .null, .int 0, .int 0, .int 0, .null, .null, .null, .null]))) 96 (.inl (0, 49, .inl fun _ => 0))) 76 (.inr (11, [.ref 77, .ref 78, .ref 79, .ref 80, .int 0, .int 0, .ref 81, .int 0, .ref 82, .ref 83, .ref 84, .ref 85, .ref 86, .int 0, .ref 87, .int 0, .int 0, .int 0, .int 0, .int 0, .int 0, .ref 88, .ref 89, .ref 90, .ref 91, .int 0, .ref 92, .int 0, .int 0, .int 0, .ref 93, .ref 94, .int 0, .ref 95, .ref 96, .null, .int 0, .null, .null, .int 0, .int 0, .int 0, .null, .null, .null, .null]))) 97 (.inl (0, 6, .inl fun _ => 0))) 76 (.inr (11, [.ref 77, .ref 78, .ref 79, .ref 80, .int 0, .int 0, .ref 81, .int 0, .ref 82, .ref 83, .ref 84, .ref 85, .ref 86, .int 0, .ref 87, .int 0, .int 0, .int 0, .int 0, .int 0, .int 0, .ref 88, .ref 89, .ref 90, .ref 91, .int 0, .ref 92, .int 0, .int 0, .int 0, .ref 93, .ref 94, .int 0, .ref 95, .ref 96, .ref 97, .int 0, .null, .null, .int 0, .int 0, .int 0, .null, .null, .null, .null]))) 98 (.inl (0, 50, .inl fun _ => 0))) 76 (.inr (11, [.ref 77, .ref 78, .ref 79, .ref 80, .int 0, .int 0, .ref 81, .int 0, .ref 82, .ref 83, .ref 84, .ref 85, .ref 86, .int 0, .ref 87, .int 0, .int 0, .int 0, .int 0, .int 0, .int 0, .ref 88, .ref 89, .ref 90, .ref 91, .int 0, .ref 92, .int 0, .int 0, .int 0, .ref 93, .ref 94, .int 0, .ref 95, .ref 96, .ref 97, .int 0, .ref 98, .null, .int 0, .int 0, .int 0, .null, .null, .null, .null]))) 99 (.inl (0, 24, .inl fun _ => 0))) 76 (.inr (11, [.ref 77, .ref 78, .ref 79, .ref 80, .int 0, .int 0, .ref 81, .int 0, .ref 82, .ref 83, .ref 84, .ref 85, .ref 86, .int 0, .ref 87, .int 0, .int 0, .int 0, .int 0, .int 0, .int 0, .ref 88, .ref 89, .ref 90, .ref 91, .int 0, .ref 92, .int 0, .int 0, .int 0, .ref 93, .ref 94, .int 0, .ref 95, .ref 96, .ref 97, .int 0, .ref 98, .ref 99, .int 0, .int 0, .int 0, .null, .null, .null, .null]))) 100 (.inl (0, 6, .inl fun _ => 0))) 76 (.inr (11, [.ref 77, .ref 78, .ref 79, .ref 80, .int 0, .int 0, .ref 81, .int 0, .ref 82, .ref 83, .ref 84, .ref 85, .ref 86, .int 0, .ref 87, .int 0, .int 0, .int 0, .int 0, .int 0, .int 0, .ref 88, .ref 89, .ref 90, .ref 91, .int 0, .ref 92, .int 0, .int 0, .int 0, .ref 93, .ref 94, .int 0, .ref 95, .ref 96, .ref 97, .int 0, .ref 98, .ref 99, .int 0, .int 0, .int 0, .ref 100, .null, .null, .null]))) 101 (.inl (0, 6, .inl fun _ => 0))) 76 (.inr (11, [.ref 77, .ref 78, .ref 79, .ref 80, .int 0, .int 0, .ref 81, .int 0, .ref 82, .ref 83, .ref 84, .ref 85, .ref 86, .int 0, .ref 87, .int 0, .int 0, .int 0, .int 0, .int 0, .int 0, .ref 88, .ref 89, .ref 90, .ref 91, .int 0, .ref 92, .int 0, .int 0, .int 0, .ref 93, .ref 94, .int 0, .ref 95, .ref 96, .ref 97, .int 0, .ref 98, .ref 99, .int 0, .int 0, .int 0, .ref 100, .ref 101, .null, .null]))) 102 (.inl (1, 360, .inr (.inl fun _ => 0)))) 76 (.inr (11, [.ref 77, .ref 78, .ref 79, .ref 80, .int 0, .int 0, .ref 81, .int 0, .ref 82, .ref 83, .ref 84, .ref 85, .ref 86, .int 0, .ref 87, .int 0, .int 0, .int 0, .int 0, .int 0, .int 0, .ref 88, .ref 89, .ref 90, .ref 91, .int 0, .ref 92, .int 0, .int 0, .int 0, .ref 93, .ref 94, .int 0, .ref 95, .ref 96, .ref 97, .int 0, .ref 98, .ref 99, .int 0, .int 0, .int 0, .ref 100, .ref 101, .ref 102, .null]))) 103 (.inl (1, 60, .inr (.inl fun _ => 0)))) 76 (.inr (11, [.ref 77, .ref 78, .ref 79, .ref 80, .int 0, .int 0, .ref 81, .int 0, .ref 82, .ref 83, .ref 84, .ref 85, .ref 86, .int 0, .ref 87, .int 0, .int 0, .int 0, .int 0, .int 0, .int 0, .ref 88, .ref 89, .ref 90, .ref 91, .int 0, .ref 92, .int 0, .int 0, .int 0, .ref 93, .ref 94, .int 0, .ref 95, .ref 96, .ref 97, .int 0, .ref 98, .ref 99, .int 0, .int 0, .int 0, .ref 100, .ref 101, .ref 102, .ref 103]))) 100 (.inl (0, 6, .inl (upd (fun _ => 0) (nI 0).toNatClampNeg (-1))))) 100 (.inl (0, 6, .inl (upd (upd (fun _ => 0) (nI 0).toNatClampNeg (-1)) (nI 1).toNatClampNeg (-1))))) 100 (.inl (0, 6, .inl (upd (upd (upd (fun _ => 0) (nI 0).toNatClampNeg (-1)) (nI 1).toNatClampNeg (-1)) (nI 2).toNatClampNeg (-1))))) 100 (.inl (0, 6, .inl (upd (upd (upd (upd (fun _ => 0) (nI 0).toNatClampNeg (-1)) (nI 1).toNatClampNeg (-1)) (nI 2).toNatClampNeg (-1)) (nI 3).toNatClampNeg (-1))))) 100 (.inl (0, 6, .inl (upd (upd (upd (upd (upd (fun _ => 0) (nI 0).toNatClampNeg (-1)) (nI 1).toNatClampNeg (-1)) (nI 2).toNatClampNeg (-1)) (nI 3).toNatClampNeg (-1)) (nI 4).toNatClampNeg (-1))))) 100 (.inl (0, 6, .inl (upd (upd (upd (upd (upd (upd (fun _ => 0) (nI 0).toNatClampNeg (-1)) (nI 1).toNatClampNeg (-1)) (nI 2).toNatClampNeg (-1)) (nI 3).toNatClampNeg (-1)) (nI 4).toNatClampNeg (-1)) (nI 5).toNatClampNeg (-1))))) 76 (.inr (11, [.ref 77, .ref 78, .ref 79, .ref 80, .int 0, .int 0, .ref 81, .int 0, .ref 82, .ref 83, .ref 84, .ref 85, .ref 86, .int 0, .ref 87, .int (-1), .int 0, .int 0, .int 0, .int 0, .int 0, .ref 88, .ref 89, .ref 90, .ref 91, .int 0, .ref 92, .int 0, .int 0, .int 0, .ref 93, .ref 94, .int 0, .ref 95, .ref 96, .ref 97, .int 0, .ref 98, .ref 99, .int 0, .int 0, .int 0, .ref 100, .ref 101, .ref 102, .ref 103]))) 77 (.inl (0, 8, .inl (upd (fun _ => 0) (nI 6).toNatClampNeg (nI 6))))) 77 (.inl (0, 8, .inl (upd (upd (fun _ => 0) (nI 6).toNatClampNeg (nI 6)) (nI 7).toNatClampNeg (nI 1))))) 82 (.inl (0, 49, .inl (fiF (fun _ => -1) (fun _ => 0) 0 49)))) 84 (.inl (0, 49, .inl (fiF (fun _ => -1) (fun _ => 0) 0 49)))) 81 (.inl (0, 2401, .inl f81))) ∧ ∀ j, j < 2401 → f81 j = tDs j) := by
  refine jMet_of (by decide) (Nat.le_of_ble_eq_true rfl) (some none) (Or.inr ⟨rfl, rfl⟩) ?_
  show jWP (some none) RX11 cX11_init 5 none (d + 1) 27 4680 0 [some (.ref 76), none, none, none, none] [] (77, c) (fun r w => ∃ f81 : Nat → Int32, r = none ∧ w = (104, va_up (va_up (va_up (va_up (va_up (va_up (va_up (va_up (va_up (va_up (va_up (va_up (va_up (va_up (va_up (va_up (va_up (va_up (va_up (va_up (va_up (va_up (va_up (va_up (va_up (va_up (va_up (va_up (va_up (va_up (va_up (va_up (va_up (va_up (va_up (va_up (va_up (va_up (va_up (va_up (va_up (va_up (va_up (va_up (va_up (va_up (va_up (va_up (va_up (va_up (va_up (va_up (va_up (va_up (va_up (va_up (va_up (va_up (va_up (va_up (va_up (va_up (va_up (va_up (va_up (va_up (c) 77 (.inl (0, 8, .inl fun _ => 0))) 76 (.inr (11, [.ref 77, .null, .null, .null, .int 0, .int 0, .null, .int 0, .null, .null, .null, .null, .null, .int 0, .null, .int 0, .int 0, .int 0, .int 0, .int 0, .int 0, .null, .null, .null, .null, .int 0, .null, .int 0, .int 0, .int 0, .null, .null, .int 0, .null, .null, .null, .int 0, .null, .null, .int 0, .int 0, .int 0, .null, .null, .null, .null]))) 78 (.inl (0, 40, .inl fun _ => 0))) 76 (.inr (11, [.ref 77, .ref 78, .null, .null, .int 0, .int 0, .null, .int 0, .null, .null, .null, .null, .null, .int 0, .null, .int 0, .int 0, .int 0, .int 0, .int 0, .int 0, .null, .null, .null, .null, .int 0, .null, .int 0, .int 0, .int 0, .null, .null, .int 0, .null, .null, .null, .int 0, .null, .null, .int 0, .int 0, .int 0, .null, .null, .null, .null]))) 79 (.inl (0, 40, .inl fun _ => 0))) 76 (.inr (11, [.ref 77, .ref 78, .ref 79, .null, .int 0, .int 0, .null, .int 0, .null, .null, .null, .null, .null, .int 0, .null, .int 0, .int 0, .int 0, .int 0, .int 0, .int 0, .null, .null, .null, .null, .int 0, .null, .int 0, .int 0, .int 0, .null, .null, .int 0, .null, .null, .null, .int 0, .null, .null, .int 0, .int 0, .int 0, .null, .null, .null, .null]))) 80 (.inl (0, 40, .inl fun _ => 0))) 76 (.inr (11, [.ref 77, .ref 78, .ref 79, .ref 80, .int 0, .int 0, .null, .int 0, .null, .null, .null, .null, .null, .int 0, .null, .int 0, .int 0, .int 0, .int 0, .int 0, .int 0, .null, .null, .null, .null, .int 0, .null, .int 0, .int 0, .int 0, .null, .null, .int 0, .null, .null, .null, .int 0, .null, .null, .int 0, .int 0, .int 0, .null, .null, .null, .null]))) 81 (.inl (0, 2401, .inl fun _ => 0))) 76 (.inr (11, [.ref 77, .ref 78, .ref 79, .ref 80, .int 0, .int 0, .ref 81, .int 0, .null, .null, .null, .null, .null, .int 0, .null, .int 0, .int 0, .int 0, .int 0, .int 0, .int 0, .null, .null, .null, .null, .int 0, .null, .int 0, .int 0, .int 0, .null, .null, .int 0, .null, .null, .null, .int 0, .null, .null, .int 0, .int 0, .int 0, .null, .null, .null, .null]))) 82 (.inl (0, 49, .inl fun _ => 0))) 76 (.inr (11, [.ref 77, .ref 78, .ref 79, .ref 80, .int 0, .int 0, .ref 81, .int 0, .ref 82, .null, .null, .null, .null, .int 0, .null, .int 0, .int 0, .int 0, .int 0, .int 0, .int 0, .null, .null, .null, .null, .int 0, .null, .int 0, .int 0, .int 0, .null, .null, .int 0, .null, .null, .null, .int 0, .null, .null, .int 0, .int 0, .int 0, .null, .null, .null, .null]))) 83 (.inl (0, 49, .inl fun _ => 0))) 76 (.inr (11, [.ref 77, .ref 78, .ref 79, .ref 80, .int 0, .int 0, .ref 81, .int 0, .ref 82, .ref 83, .null, .null, .null, .int 0, .null, .int 0, .int 0, .int 0, .int 0, .int 0, .int 0, .null, .null, .null, .null, .int 0, .null, .int 0, .int 0, .int 0, .null, .null, .int 0, .null, .null, .null, .int 0, .null, .null, .int 0, .int 0, .int 0, .null, .null, .null, .null]))) 84 (.inl (0, 49, .inl fun _ => 0))) 76 (.inr (11, [.ref 77, .ref 78, .ref 79, .ref 80, .int 0, .int 0, .ref 81, .int 0, .ref 82, .ref 83, .ref 84, .null, .null, .int 0, .null, .int 0, .int 0, .int 0, .int 0, .int 0, .int 0, .null, .null, .null, .null, .int 0, .null, .int 0, .int 0, .int 0, .null, .null, .int 0, .null, .null, .null, .int 0, .null, .null, .int 0, .int 0, .int 0, .null, .null, .null, .null]))) 85 (.inl (0, 49, .inl fun _ => 0))) 76 (.inr (11, [.ref 77, .ref 78, .ref 79, .ref 80, .int 0, .int 0, .ref 81, .int 0, .ref 82, .ref 83, .ref 84, .ref 85, .null, .int 0, .null, .int 0, .int 0, .int 0, .int 0, .int 0, .int 0, .null, .null, .null, .null, .int 0, .null, .int 0, .int 0, .int 0, .null, .null, .int 0, .null, .null, .null, .int 0, .null, .null, .int 0, .int 0, .int 0, .null, .null, .null, .null]))) 86 (.inl (0, 120, .inl fun _ => 0))) 76 (.inr (11, [.ref 77, .ref 78, .ref 79, .ref 80, .int 0, .int 0, .ref 81, .int 0, .ref 82, .ref 83, .ref 84, .ref 85, .ref 86, .int 0, .null, .int 0, .int 0, .int 0, .int 0, .int 0, .int 0, .null, .null, .null, .null, .int 0, .null, .int 0, .int 0, .int 0, .null, .null, .int 0, .null, .null, .null, .int 0, .null, .null, .int 0, .int 0, .int 0, .null, .null, .null, .null]))) 87 (.inl (0, 120, .inl fun _ => 0))) 76 (.inr (11, [.ref 77, .ref 78, .ref 79, .ref 80, .int 0, .int 0, .ref 81, .int 0, .ref 82, .ref 83, .ref 84, .ref 85, .ref 86, .int 0, .ref 87, .int 0, .int 0, .int 0, .int 0, .int 0, .int 0, .null, .null, .null, .null, .int 0, .null, .int 0, .int 0, .int 0, .null, .null, .int 0, .null, .null, .null, .int 0, .null, .null, .int 0, .int 0, .int 0, .null, .null, .null, .null]))) 88 (.inl (0, 6, .inl fun _ => 0))) 76 (.inr (11, [.ref 77, .ref 78, .ref 79, .ref 80, .int 0, .int 0, .ref 81, .int 0, .ref 82, .ref 83, .ref 84, .ref 85, .ref 86, .int 0, .ref 87, .int 0, .int 0, .int 0, .int 0, .int 0, .int 0, .ref 88, .null, .null, .null, .int 0, .null, .int 0, .int 0, .int 0, .null, .null, .int 0, .null, .null, .null, .int 0, .null, .null, .int 0, .int 0, .int 0, .null, .null, .null, .null]))) 89 (.inl (2, 49, .inl fun _ => 0))) 76 (.inr (11, [.ref 77, .ref 78, .ref 79, .ref 80, .int 0, .int 0, .ref 81, .int 0, .ref 82, .ref 83, .ref 84, .ref 85, .ref 86, .int 0, .ref 87, .int 0, .int 0, .int 0, .int 0, .int 0, .int 0, .ref 88, .ref 89, .null, .null, .int 0, .null, .int 0, .int 0, .int 0, .null, .null, .int 0, .null, .null, .null, .int 0, .null, .null, .int 0, .int 0, .int 0, .null, .null, .null, .null]))) 90 (.inl (0, 5, .inl fun _ => 0))) 76 (.inr (11, [.ref 77, .ref 78, .ref 79, .ref 80, .int 0, .int 0, .ref 81, .int 0, .ref 82, .ref 83, .ref 84, .ref 85, .ref 86, .int 0, .ref 87, .int 0, .int 0, .int 0, .int 0, .int 0, .int 0, .ref 88, .ref 89, .ref 90, .null, .int 0, .null, .int 0, .int 0, .int 0, .null, .null, .int 0, .null, .null, .null, .int 0, .null, .null, .int 0, .int 0, .int 0, .null, .null, .null, .null]))) 91 (.inl (0, 5, .inl fun _ => 0))) 76 (.inr (11, [.ref 77, .ref 78, .ref 79, .ref 80, .int 0, .int 0, .ref 81, .int 0, .ref 82, .ref 83, .ref 84, .ref 85, .ref 86, .int 0, .ref 87, .int 0, .int 0, .int 0, .int 0, .int 0, .int 0, .ref 88, .ref 89, .ref 90, .ref 91, .int 0, .null, .int 0, .int 0, .int 0, .null, .null, .int 0, .null, .null, .null, .int 0, .null, .null, .int 0, .int 0, .int 0, .null, .null, .null, .null]))) 92 (.inl (0, 10, .inl fun _ => 0))) 76 (.inr (11, [.ref 77, .ref 78, .ref 79, .ref 80, .int 0, .int 0, .ref 81, .int 0, .ref 82, .ref 83, .ref 84, .ref 85, .ref 86, .int 0, .ref 87, .int 0, .int 0, .int 0, .int 0, .int 0, .int 0, .ref 88, .ref 89, .ref 90, .ref 91, .int 0, .ref 92, .int 0, .int 0, .int 0, .null, .null, .int 0, .null, .null, .null, .int 0, .null, .null, .int 0, .int 0, .int 0, .null, .null, .null, .null]))) 93 (.inl (2, 1024, .inl fun _ => 0))) 76 (.inr (11, [.ref 77, .ref 78, .ref 79, .ref 80, .int 0, .int 0, .ref 81, .int 0, .ref 82, .ref 83, .ref 84, .ref 85, .ref 86, .int 0, .ref 87, .int 0, .int 0, .int 0, .int 0, .int 0, .int 0, .ref 88, .ref 89, .ref 90, .ref 91, .int 0, .ref 92, .int 0, .int 0, .int 0, .ref 93, .null, .int 0, .null, .null, .null, .int 0, .null, .null, .int 0, .int 0, .int 0, .null, .null, .null, .null]))) 94 (.inl (0, 6, .inl fun _ => 0))) 76 (.inr (11, [.ref 77, .ref 78, .ref 79, .ref 80, .int 0, .int 0, .ref 81, .int 0, .ref 82, .ref 83, .ref 84, .ref 85, .ref 86, .int 0, .ref 87, .int 0, .int 0, .int 0, .int 0, .int 0, .int 0, .ref 88, .ref 89, .ref 90, .ref 91, .int 0, .ref 92, .int 0, .int 0, .int 0, .ref 93, .ref 94, .int 0, .null, .null, .null, .int 0, .null, .null, .int 0, .int 0, .int 0, .null, .null, .null, .null]))) 95 (.inl (0, 49, .inl fun _ => 0))) 76 (.inr (11, [.ref 77, .ref 78, .ref 79, .ref 80, .int 0, .int 0, .ref 81, .int 0, .ref 82, .ref 83, .ref 84, .ref 85, .ref 86, .int 0, .ref 87, .int 0, .int 0, .int 0, .int 0, .int 0, .int 0, .ref 88, .ref 89, .ref 90, .ref 91, .int 0, .ref 92, .int 0, .int 0, .int 0, .ref 93, .ref 94, .int 0, .ref 95, .null, .null, .int 0, .null, .null, .int 0, .int 0, .int 0, .null, .null, .null, .null]))) 96 (.inl (0, 49, .inl fun _ => 0))) 76 (.inr (11, [.ref 77, .ref 78, .ref 79, .ref 80, .int 0, .int 0, .ref 81, .int 0, .ref 82, .ref 83, .ref 84, .ref 85, .ref 86, .int 0, .ref 87, .int 0, .int 0, .int 0, .int 0, .int 0, .int 0, .ref 88, .ref 89, .ref 90, .ref 91, .int 0, .ref 92, .int 0, .int 0, .int 0, .ref 93, .ref 94, .int 0, .ref 95, .ref 96, .null, .int 0, .null, .null, .int 0, .int 0, .int 0, .null, .null, .null, .null]))) 97 (.inl (0, 6, .inl fun _ => 0))) 76 (.inr (11, [.ref 77, .ref 78, .ref 79, .ref 80, .int 0, .int 0, .ref 81, .int 0, .ref 82, .ref 83, .ref 84, .ref 85, .ref 86, .int 0, .ref 87, .int 0, .int 0, .int 0, .int 0, .int 0, .int 0, .ref 88, .ref 89, .ref 90, .ref 91, .int 0, .ref 92, .int 0, .int 0, .int 0, .ref 93, .ref 94, .int 0, .ref 95, .ref 96, .ref 97, .int 0, .null, .null, .int 0, .int 0, .int 0, .null, .null, .null, .null]))) 98 (.inl (0, 50, .inl fun _ => 0))) 76 (.inr (11, [.ref 77, .ref 78, .ref 79, .ref 80, .int 0, .int 0, .ref 81, .int 0, .ref 82, .ref 83, .ref 84, .ref 85, .ref 86, .int 0, .ref 87, .int 0, .int 0, .int 0, .int 0, .int 0, .int 0, .ref 88, .ref 89, .ref 90, .ref 91, .int 0, .ref 92, .int 0, .int 0, .int 0, .ref 93, .ref 94, .int 0, .ref 95, .ref 96, .ref 97, .int 0, .ref 98, .null, .int 0, .int 0, .int 0, .null, .null, .null, .null]))) 99 (.inl (0, 24, .inl fun _ => 0))) 76 (.inr (11, [.ref 77, .ref 78, .ref 79, .ref 80, .int 0, .int 0, .ref 81, .int 0, .ref 82, .ref 83, .ref 84, .ref 85, .ref 86, .int 0, .ref 87, .int 0, .int 0, .int 0, .int 0, .int 0, .int 0, .ref 88, .ref 89, .ref 90, .ref 91, .int 0, .ref 92, .int 0, .int 0, .int 0, .ref 93, .ref 94, .int 0, .ref 95, .ref 96, .ref 97, .int 0, .ref 98, .ref 99, .int 0, .int 0, .int 0, .null, .null, .null, .null]))) 100 (.inl (0, 6, .inl fun _ => 0))) 76 (.inr (11, [.ref 77, .ref 78, .ref 79, .ref 80, .int 0, .int 0, .ref 81, .int 0, .ref 82, .ref 83, .ref 84, .ref 85, .ref 86, .int 0, .ref 87, .int 0, .int 0, .int 0, .int 0, .int 0, .int 0, .ref 88, .ref 89, .ref 90, .ref 91, .int 0, .ref 92, .int 0, .int 0, .int 0, .ref 93, .ref 94, .int 0, .ref 95, .ref 96, .ref 97, .int 0, .ref 98, .ref 99, .int 0, .int 0, .int 0, .ref 100, .null, .null, .null]))) 101 (.inl (0, 6, .inl fun _ => 0))) 76 (.inr (11, [.ref 77, .ref 78, .ref 79, .ref 80, .int 0, .int 0, .ref 81, .int 0, .ref 82, .ref 83, .ref 84, .ref 85, .ref 86, .int 0, .ref 87, .int 0, .int 0, .int 0, .int 0, .int 0, .int 0, .ref 88, .ref 89, .ref 90, .ref 91, .int 0, .ref 92, .int 0, .int 0, .int 0, .ref 93, .ref 94, .int 0, .ref 95, .ref 96, .ref 97, .int 0, .ref 98, .ref 99, .int 0, .int 0, .int 0, .ref 100, .ref 101, .null, .null]))) 102 (.inl (1, 360, .inr (.inl fun _ => 0)))) 76 (.inr (11, [.ref 77, .ref 78, .ref 79, .ref 80, .int 0, .int 0, .ref 81, .int 0, .ref 82, .ref 83, .ref 84, .ref 85, .ref 86, .int 0, .ref 87, .int 0, .int 0, .int 0, .int 0, .int 0, .int 0, .ref 88, .ref 89, .ref 90, .ref 91, .int 0, .ref 92, .int 0, .int 0, .int 0, .ref 93, .ref 94, .int 0, .ref 95, .ref 96, .ref 97, .int 0, .ref 98, .ref 99, .int 0, .int 0, .int 0, .ref 100, .ref 101, .ref 102, .null]))) 103 (.inl (1, 60, .inr (.inl fun _ => 0)))) 76 (.inr (11, [.ref 77, .ref 78, .ref 79, .ref 80, .int 0, .int 0, .ref 81, .int 0, .ref 82, .ref 83, .ref 84, .ref 85, .ref 86, .int 0, .ref 87, .int 0, .int 0, .int 0, .int 0, .int 0, .int 0, .ref 88, .ref 89, .ref 90, .ref 91, .int 0, .ref 92, .int 0, .int 0, .int 0, .ref 93, .ref 94, .int 0, .ref 95, .ref 96, .ref 97, .int 0, .ref 98, .ref 99, .int 0, .int 0, .int 0, .ref 100, .ref 101, .ref 102, .ref 103]))) 100 (.inl (0, 6, .inl (upd (fun _ => 0) (nI 0).toNatClampNeg (-1))))) 100 (.inl (0, 6, .inl (upd (upd (fun _ => 0) (nI 0).toNatClampNeg (-1)) (nI 1).toNatClampNeg (-1))))) 100 (.inl (0, 6, .inl (upd (upd (upd (fun _ => 0) (nI 0).toNatClampNeg (-1)) (nI 1).toNatClampNeg (-1)) (nI 2).toNatClampNeg (-1))))) 100 (.inl (0, 6, .inl (upd (upd (upd (upd (fun _ => 0) (nI 0).toNatClampNeg (-1)) (nI 1).toNatClampNeg (-1)) (nI 2).toNatClampNeg (-1)) (nI 3).toNatClampNeg (-1))))) 100 (.inl (0, 6, .inl (upd (upd (upd (upd (upd (fun _ => 0) (nI 0).toNatClampNeg (-1)) (nI 1).toNatClampNeg (-1)) (nI 2).toNatClampNeg (-1)) (nI 3).toNatClampNeg (-1)) (nI 4).toNatClampNeg (-1))))) 100 (.inl (0, 6, .inl (upd (upd (upd (upd (upd (upd (fun _ => 0) (nI 0).toNatClampNeg (-1)) (nI 1).toNatClampNeg (-1)) (nI 2).toNatClampNeg (-1)) (nI 3).toNatClampNeg (-1)) (nI 4).toNatClampNeg (-1)) (nI 5).toNatClampNeg (-1))))) 76 (.inr (11, [.ref 77, .ref 78, .ref 79, .ref 80, .int 0, .int 0, .ref 81, .int 0, .ref 82, .ref 83, .ref 84, .ref 85, .ref 86, .int 0, .ref 87, .int (-1), .int 0, .int 0, .int 0, .int 0, .int 0, .ref 88, .ref 89, .ref 90, .ref 91, .int 0, .ref 92, .int 0, .int 0, .int 0, .ref 93, .ref 94, .int 0, .ref 95, .ref 96, .ref 97, .int 0, .ref 98, .ref 99, .int 0, .int 0, .int 0, .ref 100, .ref 101, .ref 102, .ref 103]))) 77 (.inl (0, 8, .inl (upd (fun _ => 0) (nI 6).toNatClampNeg (nI 6))))) 77 (.inl (0, 8, .inl (upd (upd (fun _ => 0) (nI 6).toNatClampNeg (nI 6)) (nI 7).toNatClampNeg (nI 1))))) 82 (.inl (0, 49, .inl (fiF (fun _ => -1) (fun _ => 0) 0 49)))) 84 (.inl (0, 49, .inl (fiF (fun _ => -1) (fun _ => 0) 0 49)))) 81 (.inl (0, 2401, .inl f81))) ∧ ∀ j, j < 2401 → f81 j = tDs j)
  refine j_aload_n (i := 0) dX11_init_0 rfl rfl ?_
  refine j_objInit dX11_init_1 jlo_X11_5 (Nat.le_of_ble_eq_true rfl) ?_
  refine j_aload_n (i := 0) dX11_init_4 rfl rfl ?_
  refine j_bipush (v := nI 8) dX11_init_5 rfl ?_
  refine j_newarr_i (N := 8) (bc := 26) (bs := 4672) dX11_init_7 jw_arr_int (by decide) (nI_clamp (by decide)) (Nat.le_of_ble_eq_true rfl) ?_
  refine j_putfinal (fs := mF0) rfl dX11_init_9 jfl_X11_11 rfl hs (fun _ => rfl) (fun _ => rfl) (Nat.le_of_ble_eq_true rfl) ?_
  refine j_aload_n (i := 0) dX11_init_12 rfl rfl ?_
  refine j_bipush (v := nI 40) dX11_init_13 rfl ?_
  refine j_newarr_i (N := 40) (bc := 25) (bs := 4632) dX11_init_15 jw_arr_int (by decide) (nI_clamp (by decide)) (Nat.le_of_ble_eq_true rfl) ?_
  refine j_putfinal (fs := mF1) rfl dX11_init_17 jfl_X11_15 rfl rfl (fun _ => rfl) (fun _ => rfl) (Nat.le_of_ble_eq_true rfl) ?_
  refine j_aload_n (i := 0) dX11_init_20 rfl rfl ?_
  refine j_bipush (v := nI 40) dX11_init_21 rfl ?_
  refine j_newarr_i (N := 40) (bc := 24) (bs := 4592) dX11_init_23 jw_arr_int (by decide) (nI_clamp (by decide)) (Nat.le_of_ble_eq_true rfl) ?_
  refine j_putfinal (fs := mF2) rfl dX11_init_25 jfl_X11_18 rfl rfl (fun _ => rfl) (fun _ => rfl) (Nat.le_of_ble_eq_true rfl) ?_
  refine j_aload_n (i := 0) dX11_init_28 rfl rfl ?_
  refine j_bipush (v := nI 40) dX11_init_29 rfl ?_
  refine j_newarr_i (N := 40) (bc := 23) (bs := 4552) dX11_init_31 jw_arr_int (by decide) (nI_clamp (by decide)) (Nat.le_of_ble_eq_true rfl) ?_
  refine j_putfinal (fs := mF3) rfl dX11_init_33 jfl_X11_21 rfl rfl (fun _ => rfl) (fun _ => rfl) (Nat.le_of_ble_eq_true rfl) ?_
  refine j_aload_n (i := 0) dX11_init_36 rfl rfl ?_
  refine j_sipush (v := nI 2401) dX11_init_37 (by decide) ?_
  refine j_newarr_i (N := 2401) (bc := 22) (bs := 2151) dX11_init_40 jw_arr_int (by decide) (nI_clamp (by decide)) (Nat.le_of_ble_eq_true rfl) ?_
  refine j_putfinal (fs := mF4) rfl dX11_init_42 jfl_X11_24 rfl rfl (fun _ => rfl) (fun _ => rfl) (Nat.le_of_ble_eq_true rfl) ?_
  refine j_aload_n (i := 0) dX11_init_45 rfl rfl ?_
  refine j_bipush (v := nI 49) dX11_init_46 rfl ?_
  refine j_newarr_i (N := 49) (bc := 21) (bs := 2102) dX11_init_48 jw_arr_int (by decide) (nI_clamp (by decide)) (Nat.le_of_ble_eq_true rfl) ?_
  refine j_putfinal (fs := mF5) rfl dX11_init_50 jfl_X11_27 rfl rfl (fun _ => rfl) (fun _ => rfl) (Nat.le_of_ble_eq_true rfl) ?_
  refine j_aload_n (i := 0) dX11_init_53 rfl rfl ?_
  refine j_bipush (v := nI 49) dX11_init_54 rfl ?_
  refine j_newarr_i (N := 49) (bc := 20) (bs := 2053) dX11_init_56 jw_arr_int (by decide) (nI_clamp (by decide)) (Nat.le_of_ble_eq_true rfl) ?_
  refine j_putfinal (fs := mF6) rfl dX11_init_58 jfl_X11_30 rfl rfl (fun _ => rfl) (fun _ => rfl) (Nat.le_of_ble_eq_true rfl) ?_
  refine j_aload_n (i := 0) dX11_init_61 rfl rfl ?_
  refine j_bipush (v := nI 49) dX11_init_62 rfl ?_
  refine j_newarr_i (N := 49) (bc := 19) (bs := 2004) dX11_init_64 jw_arr_int (by decide) (nI_clamp (by decide)) (Nat.le_of_ble_eq_true rfl) ?_
  refine j_putfinal (fs := mF7) rfl dX11_init_66 jfl_X11_33 rfl rfl (fun _ => rfl) (fun _ => rfl) (Nat.le_of_ble_eq_true rfl) ?_
  refine j_aload_n (i := 0) dX11_init_69 rfl rfl ?_
  refine j_bipush (v := nI 49) dX11_init_70 rfl ?_
  refine j_newarr_i (N := 49) (bc := 18) (bs := 1955) dX11_init_72 jw_arr_int (by decide) (nI_clamp (by decide)) (Nat.le_of_ble_eq_true rfl) ?_
  refine j_putfinal (fs := mF8) rfl dX11_init_74 jfl_X11_36 rfl rfl (fun _ => rfl) (fun _ => rfl) (Nat.le_of_ble_eq_true rfl) ?_
  refine j_aload_n (i := 0) dX11_init_77 rfl rfl ?_
  refine j_bipush (v := nI 120) dX11_init_78 rfl ?_
  refine j_newarr_i (N := 120) (bc := 17) (bs := 1835) dX11_init_80 jw_arr_int (by decide) (nI_clamp (by decide)) (Nat.le_of_ble_eq_true rfl) ?_
  refine j_putfinal (fs := mF9) rfl dX11_init_82 jfl_X11_39 rfl rfl (fun _ => rfl) (fun _ => rfl) (Nat.le_of_ble_eq_true rfl) ?_
  refine j_aload_n (i := 0) dX11_init_85 rfl rfl ?_
  refine j_bipush (v := nI 120) dX11_init_86 rfl ?_
  refine j_newarr_i (N := 120) (bc := 16) (bs := 1715) dX11_init_88 jw_arr_int (by decide) (nI_clamp (by decide)) (Nat.le_of_ble_eq_true rfl) ?_
  refine j_putfinal (fs := mF10) rfl dX11_init_90 jfl_X11_42 rfl rfl (fun _ => rfl) (fun _ => rfl) (Nat.le_of_ble_eq_true rfl) ?_
  refine j_aload_n (i := 0) dX11_init_93 rfl rfl ?_
  refine j_bipush (v := nI 6) dX11_init_94 rfl ?_
  refine j_newarr_i (N := 6) (bc := 15) (bs := 1709) dX11_init_96 jw_arr_int (by decide) (nI_clamp (by decide)) (Nat.le_of_ble_eq_true rfl) ?_
  refine j_putfinal (fs := mF11) rfl dX11_init_98 jfl_X11_45 rfl rfl (fun _ => rfl) (fun _ => rfl) (Nat.le_of_ble_eq_true rfl) ?_
  refine j_aload_n (i := 0) dX11_init_101 rfl rfl ?_
  refine j_bipush (v := nI 49) dX11_init_102 rfl ?_
  refine j_newarr_z (N := 49) (bc := 14) (bs := 1660) dX11_init_104 jw_arr_boolean (by decide) (nI_clamp (by decide)) (Nat.le_of_ble_eq_true rfl) ?_
  refine j_putfinal (fs := mF12) rfl dX11_init_106 jfl_X11_48 rfl rfl (fun _ => rfl) (fun _ => rfl) (Nat.le_of_ble_eq_true rfl) ?_
  refine j_aload_n (i := 0) dX11_init_109 rfl rfl ?_
  refine j_iconst (v := nI 5) dX11_init_110 rfl ?_
  refine j_newarr_i (N := 5) (bc := 13) (bs := 1655) dX11_init_111 jw_arr_int (by decide) (nI_clamp (by decide)) (Nat.le_of_ble_eq_true rfl) ?_
  refine j_putfinal (fs := mF13) rfl dX11_init_113 jfl_X11_52 rfl rfl (fun _ => rfl) (fun _ => rfl) (Nat.le_of_ble_eq_true rfl) ?_
  refine j_aload_n (i := 0) dX11_init_116 rfl rfl ?_
  refine j_iconst (v := nI 5) dX11_init_117 rfl ?_
  refine j_newarr_i (N := 5) (bc := 12) (bs := 1650) dX11_init_118 jw_arr_int (by decide) (nI_clamp (by decide)) (Nat.le_of_ble_eq_true rfl) ?_
  refine j_putfinal (fs := mF14) rfl dX11_init_120 jfl_X11_55 rfl rfl (fun _ => rfl) (fun _ => rfl) (Nat.le_of_ble_eq_true rfl) ?_
  refine j_aload_n (i := 0) dX11_init_123 rfl rfl ?_
  refine j_bipush (v := nI 10) dX11_init_124 rfl ?_
  refine j_newarr_i (N := 10) (bc := 11) (bs := 1640) dX11_init_126 jw_arr_int (by decide) (nI_clamp (by decide)) (Nat.le_of_ble_eq_true rfl) ?_
  refine j_putfinal (fs := mF15) rfl dX11_init_128 jfl_X11_58 rfl rfl (fun _ => rfl) (fun _ => rfl) (Nat.le_of_ble_eq_true rfl) ?_
  refine j_aload_n (i := 0) dX11_init_131 rfl rfl ?_
  refine j_sipush (v := nI 1024) dX11_init_132 (by decide) ?_
  refine j_newarr_z (N := 1024) (bc := 10) (bs := 616) dX11_init_135 jw_arr_boolean (by decide) (nI_clamp (by decide)) (Nat.le_of_ble_eq_true rfl) ?_
  refine j_putfinal (fs := mF16) rfl dX11_init_137 jfl_X11_61 rfl rfl (fun _ => rfl) (fun _ => rfl) (Nat.le_of_ble_eq_true rfl) ?_
  refine j_aload_n (i := 0) dX11_init_140 rfl rfl ?_
  refine j_bipush (v := nI 6) dX11_init_141 rfl ?_
  refine j_newarr_i (N := 6) (bc := 9) (bs := 610) dX11_init_143 jw_arr_int (by decide) (nI_clamp (by decide)) (Nat.le_of_ble_eq_true rfl) ?_
  refine j_putfinal (fs := mF17) rfl dX11_init_145 jfl_X11_64 rfl rfl (fun _ => rfl) (fun _ => rfl) (Nat.le_of_ble_eq_true rfl) ?_
  refine j_aload_n (i := 0) dX11_init_148 rfl rfl ?_
  refine j_bipush (v := nI 49) dX11_init_149 rfl ?_
  refine j_newarr_i (N := 49) (bc := 8) (bs := 561) dX11_init_151 jw_arr_int (by decide) (nI_clamp (by decide)) (Nat.le_of_ble_eq_true rfl) ?_
  refine j_putfinal (fs := mF18) rfl dX11_init_153 jfl_X11_67 rfl rfl (fun _ => rfl) (fun _ => rfl) (Nat.le_of_ble_eq_true rfl) ?_
  refine j_aload_n (i := 0) dX11_init_156 rfl rfl ?_
  refine j_bipush (v := nI 49) dX11_init_157 rfl ?_
  refine j_newarr_i (N := 49) (bc := 7) (bs := 512) dX11_init_159 jw_arr_int (by decide) (nI_clamp (by decide)) (Nat.le_of_ble_eq_true rfl) ?_
  refine j_putfinal (fs := mF19) rfl dX11_init_161 jfl_X11_70 rfl rfl (fun _ => rfl) (fun _ => rfl) (Nat.le_of_ble_eq_true rfl) ?_
  refine j_aload_n (i := 0) dX11_init_164 rfl rfl ?_
  refine j_bipush (v := nI 6) dX11_init_165 rfl ?_
  refine j_newarr_i (N := 6) (bc := 6) (bs := 506) dX11_init_167 jw_arr_int (by decide) (nI_clamp (by decide)) (Nat.le_of_ble_eq_true rfl) ?_
  refine j_putfinal (fs := mF20) rfl dX11_init_169 jfl_X11_73 rfl rfl (fun _ => rfl) (fun _ => rfl) (Nat.le_of_ble_eq_true rfl) ?_
  refine j_aload_n (i := 0) dX11_init_172 rfl rfl ?_
  refine j_bipush (v := nI 50) dX11_init_173 rfl ?_
  refine j_newarr_i (N := 50) (bc := 5) (bs := 456) dX11_init_175 jw_arr_int (by decide) (nI_clamp (by decide)) (Nat.le_of_ble_eq_true rfl) ?_
  refine j_putfinal (fs := mF21) rfl dX11_init_177 jfl_X11_76 rfl rfl (fun _ => rfl) (fun _ => rfl) (Nat.le_of_ble_eq_true rfl) ?_
  refine j_aload_n (i := 0) dX11_init_180 rfl rfl ?_
  refine j_bipush (v := nI 24) dX11_init_181 rfl ?_
  refine j_newarr_i (N := 24) (bc := 4) (bs := 432) dX11_init_183 jw_arr_int (by decide) (nI_clamp (by decide)) (Nat.le_of_ble_eq_true rfl) ?_
  refine j_putfinal (fs := mF22) rfl dX11_init_185 jfl_X11_79 rfl rfl (fun _ => rfl) (fun _ => rfl) (Nat.le_of_ble_eq_true rfl) ?_
  refine j_aload_n (i := 0) dX11_init_188 rfl rfl ?_
  refine j_bipush (v := nI 6) dX11_init_189 rfl ?_
  refine j_newarr_i (N := 6) (bc := 3) (bs := 426) dX11_init_191 jw_arr_int (by decide) (nI_clamp (by decide)) (Nat.le_of_ble_eq_true rfl) ?_
  refine j_putfinal (fs := mF23) rfl dX11_init_193 jfl_X11_82 rfl rfl (fun _ => rfl) (fun _ => rfl) (Nat.le_of_ble_eq_true rfl) ?_
  refine j_aload_n (i := 0) dX11_init_196 rfl rfl ?_
  refine j_bipush (v := nI 6) dX11_init_197 rfl ?_
  refine j_newarr_i (N := 6) (bc := 2) (bs := 420) dX11_init_199 jw_arr_int (by decide) (nI_clamp (by decide)) (Nat.le_of_ble_eq_true rfl) ?_
  refine j_putfinal (fs := mF24) rfl dX11_init_201 jfl_X11_85 rfl rfl (fun _ => rfl) (fun _ => rfl) (Nat.le_of_ble_eq_true rfl) ?_
  refine j_aload_n (i := 0) dX11_init_204 rfl rfl ?_
  refine j_sipush (v := nI 360) dX11_init_205 (by decide) ?_
  refine j_newarr_l (N := 360) (bc := 1) (bs := 60) dX11_init_208 jw_arr_long (by decide) (nI_clamp (by decide)) (Nat.le_of_ble_eq_true rfl) ?_
  refine j_putfinal (fs := mF25) rfl dX11_init_210 jfl_X11_88 rfl rfl (fun _ => rfl) (fun _ => rfl) (Nat.le_of_ble_eq_true rfl) ?_
  refine j_aload_n (i := 0) dX11_init_213 rfl rfl ?_
  refine j_bipush (v := nI 60) dX11_init_214 rfl ?_
  refine j_newarr_l (N := 60) (bc := 0) (bs := 0) dX11_init_216 jw_arr_long (by decide) (nI_clamp (by decide)) (Nat.le_of_ble_eq_true rfl) ?_
  refine j_putfinal (fs := mF26) rfl dX11_init_218 jfl_X11_92 rfl rfl (fun _ => rfl) (fun _ => rfl) (Nat.le_of_ble_eq_true rfl) ?_
  refine j_iconst (v := nI 0) dX11_init_221 rfl ?_
  refine j_istore_n (i := 1) (lv' := [some (.ref 76), some (.int (nI 0)), none, none, none]) dX11_init_222 rfl (by decide) rfl ?_
  refine j_iload_n (i := 1) dX11_init_223 rfl rfl ?_
  refine j_bipush (v := nI 6) dX11_init_224 rfl ?_
  refine jn_icmp_ge (tgt := 242) dX11_init_226 (by decide) (by decide) (by decide) (fun h => absurd h (by decide)) (fun _ => ?_)
  refine j_aload_n (i := 0) dX11_init_229 rfl rfl ?_
  refine j_getfield dX11_init_230 jfl_X11_82 rfl rfl ?_
  refine j_iload_n (i := 1) dX11_init_233 rfl rfl ?_
  refine j_iconst (v := (-1)) dX11_init_234 rfl ?_
  refine j_iastore (f := fun _ => 0) dX11_init_235 rfl (vp_in_nI (by decide) (by decide)) ?_
  refine j_iinc (v := nI 1) (lv' := [some (.ref 76), some (.int (nI 1)), none, none, none]) dX11_init_236 rfl (by decide) (by decide) rfl ?_
  refine j_goto (tgt := 223) dX11_init_239 (by decide) ?_
  refine j_iload_n (i := 1) dX11_init_223 rfl rfl ?_
  refine j_bipush (v := nI 6) dX11_init_224 rfl ?_
  refine jn_icmp_ge (tgt := 242) dX11_init_226 (by decide) (by decide) (by decide) (fun h => absurd h (by decide)) (fun _ => ?_)
  refine j_aload_n (i := 0) dX11_init_229 rfl rfl ?_
  refine j_getfield dX11_init_230 jfl_X11_82 rfl rfl ?_
  refine j_iload_n (i := 1) dX11_init_233 rfl rfl ?_
  refine j_iconst (v := (-1)) dX11_init_234 rfl ?_
  refine j_iastore (f := upd (fun _ => 0) (nI 0).toNatClampNeg (-1)) dX11_init_235 rfl (vp_in_nI (by decide) (by decide)) ?_
  refine j_iinc (v := nI 2) (lv' := [some (.ref 76), some (.int (nI 2)), none, none, none]) dX11_init_236 rfl (by decide) (by decide) rfl ?_
  refine j_goto (tgt := 223) dX11_init_239 (by decide) ?_
  refine j_iload_n (i := 1) dX11_init_223 rfl rfl ?_
  refine j_bipush (v := nI 6) dX11_init_224 rfl ?_
  refine jn_icmp_ge (tgt := 242) dX11_init_226 (by decide) (by decide) (by decide) (fun h => absurd h (by decide)) (fun _ => ?_)
  refine j_aload_n (i := 0) dX11_init_229 rfl rfl ?_
  refine j_getfield dX11_init_230 jfl_X11_82 rfl rfl ?_
  refine j_iload_n (i := 1) dX11_init_233 rfl rfl ?_
  refine j_iconst (v := (-1)) dX11_init_234 rfl ?_
  refine j_iastore (f := upd (upd (fun _ => 0) (nI 0).toNatClampNeg (-1)) (nI 1).toNatClampNeg (-1)) dX11_init_235 rfl (vp_in_nI (by decide) (by decide)) ?_
  refine j_iinc (v := nI 3) (lv' := [some (.ref 76), some (.int (nI 3)), none, none, none]) dX11_init_236 rfl (by decide) (by decide) rfl ?_
  refine j_goto (tgt := 223) dX11_init_239 (by decide) ?_
  refine j_iload_n (i := 1) dX11_init_223 rfl rfl ?_
  refine j_bipush (v := nI 6) dX11_init_224 rfl ?_
  refine jn_icmp_ge (tgt := 242) dX11_init_226 (by decide) (by decide) (by decide) (fun h => absurd h (by decide)) (fun _ => ?_)
  refine j_aload_n (i := 0) dX11_init_229 rfl rfl ?_
  refine j_getfield dX11_init_230 jfl_X11_82 rfl rfl ?_
  refine j_iload_n (i := 1) dX11_init_233 rfl rfl ?_
  refine j_iconst (v := (-1)) dX11_init_234 rfl ?_
  refine j_iastore (f := upd (upd (upd (fun _ => 0) (nI 0).toNatClampNeg (-1)) (nI 1).toNatClampNeg (-1)) (nI 2).toNatClampNeg (-1)) dX11_init_235 rfl (vp_in_nI (by decide) (by decide)) ?_
  refine j_iinc (v := nI 4) (lv' := [some (.ref 76), some (.int (nI 4)), none, none, none]) dX11_init_236 rfl (by decide) (by decide) rfl ?_
  refine j_goto (tgt := 223) dX11_init_239 (by decide) ?_
  refine j_iload_n (i := 1) dX11_init_223 rfl rfl ?_
  refine j_bipush (v := nI 6) dX11_init_224 rfl ?_
  refine jn_icmp_ge (tgt := 242) dX11_init_226 (by decide) (by decide) (by decide) (fun h => absurd h (by decide)) (fun _ => ?_)
  refine j_aload_n (i := 0) dX11_init_229 rfl rfl ?_
  refine j_getfield dX11_init_230 jfl_X11_82 rfl rfl ?_
  refine j_iload_n (i := 1) dX11_init_233 rfl rfl ?_
  refine j_iconst (v := (-1)) dX11_init_234 rfl ?_
  refine j_iastore (f := upd (upd (upd (upd (fun _ => 0) (nI 0).toNatClampNeg (-1)) (nI 1).toNatClampNeg (-1)) (nI 2).toNatClampNeg (-1)) (nI 3).toNatClampNeg (-1)) dX11_init_235 rfl (vp_in_nI (by decide) (by decide)) ?_
  refine j_iinc (v := nI 5) (lv' := [some (.ref 76), some (.int (nI 5)), none, none, none]) dX11_init_236 rfl (by decide) (by decide) rfl ?_
  refine j_goto (tgt := 223) dX11_init_239 (by decide) ?_
  refine j_iload_n (i := 1) dX11_init_223 rfl rfl ?_
  refine j_bipush (v := nI 6) dX11_init_224 rfl ?_
  refine jn_icmp_ge (tgt := 242) dX11_init_226 (by decide) (by decide) (by decide) (fun h => absurd h (by decide)) (fun _ => ?_)
  refine j_aload_n (i := 0) dX11_init_229 rfl rfl ?_
  refine j_getfield dX11_init_230 jfl_X11_82 rfl rfl ?_
  refine j_iload_n (i := 1) dX11_init_233 rfl rfl ?_
  refine j_iconst (v := (-1)) dX11_init_234 rfl ?_
  refine j_iastore (f := upd (upd (upd (upd (upd (fun _ => 0) (nI 0).toNatClampNeg (-1)) (nI 1).toNatClampNeg (-1)) (nI 2).toNatClampNeg (-1)) (nI 3).toNatClampNeg (-1)) (nI 4).toNatClampNeg (-1)) dX11_init_235 rfl (vp_in_nI (by decide) (by decide)) ?_
  refine j_iinc (v := nI 6) (lv' := [some (.ref 76), some (.int (nI 6)), none, none, none]) dX11_init_236 rfl (by decide) (by decide) rfl ?_
  refine j_goto (tgt := 223) dX11_init_239 (by decide) ?_
  refine j_iload_n (i := 1) dX11_init_223 rfl rfl ?_
  refine j_bipush (v := nI 6) dX11_init_224 rfl ?_
  refine jn_icmp_ge (tgt := 242) dX11_init_226 (by decide) (by decide) (by decide) (fun _ => ?_) (fun h => absurd h (by decide))
  refine j_aload_n (i := 0) dX11_init_242 rfl rfl ?_
  refine j_iconst (v := (-1)) dX11_init_243 rfl ?_
  refine j_putfield (fs := mF27) dX11_init_244 jfl_X11_95 rfl (fun _ => rfl) (fun _ => rfl) (Nat.le_of_ble_eq_true rfl) ?_
  refine j_aload_n (i := 0) dX11_init_247 rfl rfl ?_
  refine j_getfield dX11_init_248 jfl_X11_11 rfl rfl ?_
  refine j_bipush (v := nI 6) dX11_init_251 rfl ?_
  refine j_bipush (v := nI 6) dX11_init_253 rfl ?_
  refine j_iastore (f := fun _ => 0) dX11_init_255 rfl (vp_in_nI (by decide) (by decide)) ?_
  refine j_aload_n (i := 0) dX11_init_256 rfl rfl ?_
  refine j_getfield dX11_init_257 jfl_X11_11 rfl rfl ?_
  refine j_bipush (v := nI 7) dX11_init_260 rfl ?_
  refine j_iconst (v := nI 1) dX11_init_262 rfl ?_
  refine j_iastore (f := upd (fun _ => 0) (nI 6).toNatClampNeg (nI 6)) dX11_init_263 rfl (vp_in_nI (by decide) (by decide)) ?_
  refine j_iconst (v := nI 0) dX11_init_264 rfl ?_
  refine j_istore_n (i := 1) (lv' := [some (.ref 76), some (.int (nI 0)), none, none, none]) dX11_init_265 rfl (by decide) rfl ?_
  refine l_wh rfl rfl 49 0 _ (fun _ => 0) (fun _ => 0) rfl rfl rfl rfl ?_
  refine j_iconst (v := nI 0) dX11_init_292 rfl ?_
  refine j_istore_n (lv' := [some (.ref 76), some (.int (nI 0)), none, none, none]) dX11_init_293 rfl (by decide) rfl ?_
  refine j_atw (w' := sw (ju (ju _ 82 (.inl (0, 49, .inl (fiF (fun _ => -1) (fun _ => 0) 0 49)))) 84 (.inl (0, 49, .inl (fiF (fun _ => -1) (fun _ => 0) 0 49)))) (fun _ => 0)) (sw_back rfl).symm ?_
  refine l_in1 rfl rfl (fun f hf => ⟨f, rfl, rfl, fun j hj => ?_⟩) 49 0 _ rfl (fun p q hp hq hb => absurd hb (by omega))
  have q := hf (j / 49) (j % 49) (by omega) (by omega)
  rw [show 49 * (j / 49) + j % 49 = j by omega] at q
  rw [q]
  unfold fM
  rw [if_neg (by omega), fT_ds (by omega) (by omega)]
  rfl
end MODEL1
