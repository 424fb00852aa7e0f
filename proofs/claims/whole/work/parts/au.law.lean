section LAW
variable {Ln i : Nat} {xs : Nat → Int32} {X A : Nat → Nat → Int32} {L : Nat → Nat → Int64} {post : Option Value → jW → Prop} {w : jW} {st : List Value} {pc : Nat}
def lwp (Ln : Nat) (xs : Nat → Int32) (pc i : Nat) (st : List Value) (w : jW) (post : Option Value → jW → Prop) : Prop := jWP (some (some (Ln, xs))) RL cL_law 4 (some .boolean) 81 0 0 pc [some (.ref 0), some (.ref 4), some (.ref 76), some (.int (nI i))] st w post
theorem lw_arg (k : Nat) (d1 : decode cL_law pc = .ok (.aload_n 0, 1)) (d2 : decode cL_law (pc + 1) = .ok (.iload_n 3, 1)) (d3 : decode cL_law (pc + 2) = .ok (.iconst k, 1)) (d4 : decode cL_law (pc + 3) = .ok (.iadd, 1)) (d5 : decode cL_law (pc + 4) = .ok (.iaload, 1)) (hk : Int32.ofInt k = nI k) (hi : i + k < Ln) (h3 : Ln ≤ 3072) (kk : lwp Ln xs (pc + 5) i (.int (xs (i + k)) :: st) w post) : lwp Ln xs pc i st w post := by
  unfold lwp at kk ⊢
  refine j_aload_n (i := 0) d1 rfl rfl ?_
  refine j_iload_n (i := 3) d2 rfl rfl ?_
  refine j_iconst (v := nI k) d3 hk ?_
  refine jn_iadd d4 ?_
  exact jr_iaload (N := Ln) (f := xs) d5 rfl hi (by omega) kk
theorem lcmp_self (z : Int64) : lg_cmp z z = 0 := by
  unfold lg_cmp
  simp
set_option maxRecDepth 100000 in
theorem law_0 (hi : inv X A L) (hb : i + 6 ≤ Ln) (h3 : Ln ≤ 3072) (kk : ∀ X' A' L', inv X' A' L' → lwp Ln xs 1658 i [] (tw X' A' L') post) : lwp Ln xs 228 i [] (tw X A L) post := by
  obtain ⟨z, Mid, m1, m2⟩ := p_account hi ((xs (i + 1)))
  refine j_aload_n (i := 1) dL_law_228 rfl rfl ?_
  refine lw_arg 1 dL_law_229 dL_law_230 dL_law_231 dL_law_232 dL_law_233 rfl (by omega) h3 ?_
  refine j_callV [.int (xs (i + 1))] [] dL_law_234 jlk_L_13 rfl rfl rfl rfl (by decide) m1 (fun r w hw => ?_)
  obtain ⟨rfl, hM⟩ := hw
  obtain ⟨⟨X1, A1, L1, rfl⟩, Fin, q1, q2⟩ := m2 w hM
  show lwp Ln xs 237 i [.int z] (tw X1 A1 L1) post
  refine j_aload_n (i := 2) dL_law_237 rfl rfl ?_
  refine lw_arg 1 dL_law_238 dL_law_239 dL_law_240 dL_law_241 dL_law_242 rfl (by omega) h3 ?_
  refine j_callV [.int (xs (i + 1))] [.int z] dL_law_243 jlk_L_17 rfl rfl rfl rfl (Nat.le_of_ble_eq_true rfl) q1 (fun r w hw => ?_)
  obtain ⟨rfl, hF⟩ := hw
  obtain ⟨X2, A2, L2, rfl, hi2⟩ := q2 w hF
  exact j_icmp_eq (x := z) (y := z) (st := []) (tgt := 1658) dL_law_246 (by decide) (fun _ => kk X2 A2 L2 hi2) (fun h => absurd rfl h)
set_option maxRecDepth 100000 in
theorem law_1 (hi : inv X A L) (hb : i + 6 ≤ Ln) (h3 : Ln ≤ 3072) (kk : ∀ X' A' L', inv X' A' L' → lwp Ln xs 1658 i [] (tw X' A' L') post) : lwp Ln xs 251 i [] (tw X A L) post := by
  obtain ⟨z, Mid, m1, m2⟩ := p_accounts hi ((xs (i + 1))) ((xs (i + 2))) ((xs (i + 3)))
  refine j_aload_n (i := 1) dL_law_251 rfl rfl ?_
  refine lw_arg 1 dL_law_252 dL_law_253 dL_law_254 dL_law_255 dL_law_256 rfl (by omega) h3 ?_
  refine lw_arg 2 dL_law_257 dL_law_258 dL_law_259 dL_law_260 dL_law_261 rfl (by omega) h3 ?_
  refine lw_arg 3 dL_law_262 dL_law_263 dL_law_264 dL_law_265 dL_law_266 rfl (by omega) h3 ?_
  refine j_callV [.int (xs (i + 1)), .int (xs (i + 2)), .int (xs (i + 3))] [] dL_law_267 jlk_L_18 rfl rfl rfl rfl (by decide) m1 (fun r w hw => ?_)
  obtain ⟨rfl, hM⟩ := hw
  obtain ⟨⟨X1, A1, L1, rfl⟩, Fin, q1, q2⟩ := m2 w hM
  show lwp Ln xs 270 i [.int z] (tw X1 A1 L1) post
  refine j_aload_n (i := 2) dL_law_270 rfl rfl ?_
  refine lw_arg 1 dL_law_271 dL_law_272 dL_law_273 dL_law_274 dL_law_275 rfl (by omega) h3 ?_
  refine lw_arg 2 dL_law_276 dL_law_277 dL_law_278 dL_law_279 dL_law_280 rfl (by omega) h3 ?_
  refine lw_arg 3 dL_law_281 dL_law_282 dL_law_283 dL_law_284 dL_law_285 rfl (by omega) h3 ?_
  refine j_callV [.int (xs (i + 1)), .int (xs (i + 2)), .int (xs (i + 3))] [.int z] dL_law_286 jlk_L_22 rfl rfl rfl rfl (Nat.le_of_ble_eq_true rfl) q1 (fun r w hw => ?_)
  obtain ⟨rfl, hF⟩ := hw
  obtain ⟨X2, A2, L2, rfl, hi2⟩ := q2 w hF
  exact j_icmp_eq (x := z) (y := z) (st := []) (tgt := 1658) dL_law_289 (by decide) (fun _ => kk X2 A2 L2 hi2) (fun h => absurd rfl h)
set_option maxRecDepth 100000 in
theorem law_2 (hi : inv X A L) (hb : i + 6 ≤ Ln) (h3 : Ln ≤ 3072) (kk : ∀ X' A' L', inv X' A' L' → lwp Ln xs 1658 i [] (tw X' A' L') post) : lwp Ln xs 294 i [] (tw X A L) post := by
  obtain ⟨z, Mid, m1, m2⟩ := p_mend hi ((xs (i + 1))) ((xs (i + 2))) ((xs (i + 3)))
  refine j_aload_n (i := 1) dL_law_294 rfl rfl ?_
  refine lw_arg 1 dL_law_295 dL_law_296 dL_law_297 dL_law_298 dL_law_299 rfl (by omega) h3 ?_
  refine lw_arg 2 dL_law_300 dL_law_301 dL_law_302 dL_law_303 dL_law_304 rfl (by omega) h3 ?_
  refine lw_arg 3 dL_law_305 dL_law_306 dL_law_307 dL_law_308 dL_law_309 rfl (by omega) h3 ?_
  refine j_callV [.int (xs (i + 1)), .int (xs (i + 2)), .int (xs (i + 3))] [] dL_law_310 jlk_L_23 rfl rfl rfl rfl (by decide) m1 (fun r w hw => ?_)
  obtain ⟨rfl, hM⟩ := hw
  obtain ⟨⟨X1, A1, L1, rfl⟩, Fin, q1, q2⟩ := m2 w hM
  show lwp Ln xs 313 i [.int z] (tw X1 A1 L1) post
  refine j_aload_n (i := 2) dL_law_313 rfl rfl ?_
  refine lw_arg 1 dL_law_314 dL_law_315 dL_law_316 dL_law_317 dL_law_318 rfl (by omega) h3 ?_
  refine lw_arg 2 dL_law_319 dL_law_320 dL_law_321 dL_law_322 dL_law_323 rfl (by omega) h3 ?_
  refine lw_arg 3 dL_law_324 dL_law_325 dL_law_326 dL_law_327 dL_law_328 rfl (by omega) h3 ?_
  refine j_callV [.int (xs (i + 1)), .int (xs (i + 2)), .int (xs (i + 3))] [.int z] dL_law_329 jlk_L_26 rfl rfl rfl rfl (Nat.le_of_ble_eq_true rfl) q1 (fun r w hw => ?_)
  obtain ⟨rfl, hF⟩ := hw
  obtain ⟨X2, A2, L2, rfl, hi2⟩ := q2 w hF
  exact j_icmp_eq (x := z) (y := z) (st := []) (tgt := 1658) dL_law_332 (by decide) (fun _ => kk X2 A2 L2 hi2) (fun h => absurd rfl h)
set_option maxRecDepth 100000 in
theorem law_3 (hi : inv X A L) (hb : i + 6 ≤ Ln) (h3 : Ln ≤ 3072) (kk : ∀ X' A' L', inv X' A' L' → lwp Ln xs 1658 i [] (tw X' A' L') post) : lwp Ln xs 337 i [] (tw X A L) post := by
  obtain ⟨z, Mid, m1, m2⟩ := p_of hi ((xs (i + 1))) ((xs (i + 2)))
  refine j_aload_n (i := 1) dL_law_337 rfl rfl ?_
  refine lw_arg 1 dL_law_338 dL_law_339 dL_law_340 dL_law_341 dL_law_342 rfl (by omega) h3 ?_
  refine lw_arg 2 dL_law_343 dL_law_344 dL_law_345 dL_law_346 dL_law_347 rfl (by omega) h3 ?_
  refine j_callV [.int (xs (i + 1)), .int (xs (i + 2))] [] dL_law_348 jlk_L_27 rfl rfl rfl rfl (by decide) m1 (fun r w hw => ?_)
  obtain ⟨rfl, hM⟩ := hw
  obtain ⟨⟨X1, A1, L1, rfl⟩, Fin, q1, q2⟩ := m2 w hM
  show lwp Ln xs 351 i [.int z] (tw X1 A1 L1) post
  refine j_aload_n (i := 2) dL_law_351 rfl rfl ?_
  refine lw_arg 1 dL_law_352 dL_law_353 dL_law_354 dL_law_355 dL_law_356 rfl (by omega) h3 ?_
  refine lw_arg 2 dL_law_357 dL_law_358 dL_law_359 dL_law_360 dL_law_361 rfl (by omega) h3 ?_
  refine j_callV [.int (xs (i + 1)), .int (xs (i + 2))] [.int z] dL_law_362 jlk_L_31 rfl rfl rfl rfl (Nat.le_of_ble_eq_true rfl) q1 (fun r w hw => ?_)
  obtain ⟨rfl, hF⟩ := hw
  obtain ⟨X2, A2, L2, rfl, hi2⟩ := q2 w hF
  exact j_icmp_eq (x := z) (y := z) (st := []) (tgt := 1658) dL_law_365 (by decide) (fun _ => kk X2 A2 L2 hi2) (fun h => absurd rfl h)
set_option maxRecDepth 100000 in
theorem law_4 (hi : inv X A L) (hb : i + 6 ≤ Ln) (h3 : Ln ≤ 3072) (kk : ∀ X' A' L', inv X' A' L' → lwp Ln xs 1658 i [] (tw X' A' L') post) : lwp Ln xs 370 i [] (tw X A L) post := by
  obtain ⟨z, Mid, m1, m2⟩ := p_cell hi ((xs (i + 1))) ((xs (i + 2)))
  refine j_aload_n (i := 1) dL_law_370 rfl rfl ?_
  refine lw_arg 1 dL_law_371 dL_law_372 dL_law_373 dL_law_374 dL_law_375 rfl (by omega) h3 ?_
  refine lw_arg 2 dL_law_376 dL_law_377 dL_law_378 dL_law_379 dL_law_380 rfl (by omega) h3 ?_
  refine j_callV [.int (xs (i + 1)), .int (xs (i + 2))] [] dL_law_381 jlk_L_32 rfl rfl rfl rfl (by decide) m1 (fun r w hw => ?_)
  obtain ⟨rfl, hM⟩ := hw
  obtain ⟨⟨X1, A1, L1, rfl⟩, Fin, q1, q2⟩ := m2 w hM
  show lwp Ln xs 384 i [.int z] (tw X1 A1 L1) post
  refine j_aload_n (i := 2) dL_law_384 rfl rfl ?_
  refine lw_arg 1 dL_law_385 dL_law_386 dL_law_387 dL_law_388 dL_law_389 rfl (by omega) h3 ?_
  refine lw_arg 2 dL_law_390 dL_law_391 dL_law_392 dL_law_393 dL_law_394 rfl (by omega) h3 ?_
  refine j_callV [.int (xs (i + 1)), .int (xs (i + 2))] [.int z] dL_law_395 jlk_L_35 rfl rfl rfl rfl (Nat.le_of_ble_eq_true rfl) q1 (fun r w hw => ?_)
  obtain ⟨rfl, hF⟩ := hw
  obtain ⟨X2, A2, L2, rfl, hi2⟩ := q2 w hF
  exact j_icmp_eq (x := z) (y := z) (st := []) (tgt := 1658) dL_law_398 (by decide) (fun _ => kk X2 A2 L2 hi2) (fun h => absurd rfl h)
set_option maxRecDepth 100000 in
theorem law_5 (hi : inv X A L) (hb : i + 6 ≤ Ln) (h3 : Ln ≤ 3072) (kk : ∀ X' A' L', inv X' A' L' → lwp Ln xs 1658 i [] (tw X' A' L') post) : lwp Ln xs 403 i [] (tw X A L) post := by
  obtain ⟨z, Mid, m1, m2⟩ := p_far hi ((xs (i + 1))) ((xs (i + 2)))
  refine j_aload_n (i := 1) dL_law_403 rfl rfl ?_
  refine lw_arg 1 dL_law_404 dL_law_405 dL_law_406 dL_law_407 dL_law_408 rfl (by omega) h3 ?_
  refine lw_arg 2 dL_law_409 dL_law_410 dL_law_411 dL_law_412 dL_law_413 rfl (by omega) h3 ?_
  refine j_callV [.int (xs (i + 1)), .int (xs (i + 2))] [] dL_law_414 jlk_L_36 rfl rfl rfl rfl (by decide) m1 (fun r w hw => ?_)
  obtain ⟨rfl, hM⟩ := hw
  obtain ⟨⟨X1, A1, L1, rfl⟩, Fin, q1, q2⟩ := m2 w hM
  show lwp Ln xs 417 i [.int z] (tw X1 A1 L1) post
  refine j_aload_n (i := 2) dL_law_417 rfl rfl ?_
  refine lw_arg 1 dL_law_418 dL_law_419 dL_law_420 dL_law_421 dL_law_422 rfl (by omega) h3 ?_
  refine lw_arg 2 dL_law_423 dL_law_424 dL_law_425 dL_law_426 dL_law_427 rfl (by omega) h3 ?_
  refine j_callV [.int (xs (i + 1)), .int (xs (i + 2))] [.int z] dL_law_428 jlk_L_39 rfl rfl rfl rfl (Nat.le_of_ble_eq_true rfl) q1 (fun r w hw => ?_)
  obtain ⟨rfl, hF⟩ := hw
  obtain ⟨X2, A2, L2, rfl, hi2⟩ := q2 w hF
  exact j_icmp_eq (x := z) (y := z) (st := []) (tgt := 1658) dL_law_431 (by decide) (fun _ => kk X2 A2 L2 hi2) (fun h => absurd rfl h)
set_option maxRecDepth 100000 in
theorem law_6 (hi : inv X A L) (hb : i + 6 ≤ Ln) (h3 : Ln ≤ 3072) (kk : ∀ X' A' L', inv X' A' L' → lwp Ln xs 1658 i [] (tw X' A' L') post) : lwp Ln xs 436 i [] (tw X A L) post := by
  obtain ⟨z, Mid, m1, m2⟩ := p_feed hi ((xs (i + 1)))
  refine j_aload_n (i := 1) dL_law_436 rfl rfl ?_
  refine lw_arg 1 dL_law_437 dL_law_438 dL_law_439 dL_law_440 dL_law_441 rfl (by omega) h3 ?_
  refine j_callV [.int (xs (i + 1))] [] dL_law_442 jlk_L_40 rfl rfl rfl rfl (by decide) m1 (fun r w hw => ?_)
  obtain ⟨rfl, hM⟩ := hw
  obtain ⟨⟨X1, A1, L1, rfl⟩, Fin, q1, q2⟩ := m2 w hM
  show lwp Ln xs 445 i [.int z] (tw X1 A1 L1) post
  refine j_aload_n (i := 2) dL_law_445 rfl rfl ?_
  refine lw_arg 1 dL_law_446 dL_law_447 dL_law_448 dL_law_449 dL_law_450 rfl (by omega) h3 ?_
  refine j_callV [.int (xs (i + 1))] [.int z] dL_law_451 jlk_L_43 rfl rfl rfl rfl (Nat.le_of_ble_eq_true rfl) q1 (fun r w hw => ?_)
  obtain ⟨rfl, hF⟩ := hw
  obtain ⟨X2, A2, L2, rfl, hi2⟩ := q2 w hF
  exact j_icmp_eq (x := z) (y := z) (st := []) (tgt := 1658) dL_law_454 (by decide) (fun _ => kk X2 A2 L2 hi2) (fun h => absurd rfl h)
set_option maxRecDepth 100000 in
theorem law_7 (hi : inv X A L) (hb : i + 6 ≤ Ln) (h3 : Ln ≤ 3072) (kk : ∀ X' A' L', inv X' A' L' → lwp Ln xs 1658 i [] (tw X' A' L') post) : lwp Ln xs 459 i [] (tw X A L) post := by
  obtain ⟨z, Mid, m1, m2⟩ := p_law hix_ok hi 
  refine j_aload_n (i := 1) dL_law_459 rfl rfl ?_
  refine j_callV [] [] dL_law_460 jlk_L_44 rfl rfl rfl rfl (by decide) m1 (fun r w hw => ?_)
  obtain ⟨rfl, hM⟩ := hw
  obtain ⟨⟨X1, A1, L1, rfl⟩, Fin, q1, q2⟩ := m2 w hM
  show lwp Ln xs 463 i [.int z] (tw X1 A1 L1) post
  refine j_aload_n (i := 2) dL_law_463 rfl rfl ?_
  refine j_callV [] [.int z] dL_law_464 jlk_L_48 rfl rfl rfl rfl (Nat.le_of_ble_eq_true rfl) q1 (fun r w hw => ?_)
  obtain ⟨rfl, hF⟩ := hw
  obtain ⟨X2, A2, L2, rfl, hi2⟩ := q2 w hF
  exact j_icmp_eq (x := z) (y := z) (st := []) (tgt := 1658) dL_law_467 (by decide) (fun _ => kk X2 A2 L2 hi2) (fun h => absurd rfl h)
set_option maxRecDepth 100000 in
theorem law_8 (hi : inv X A L) (hb : i + 6 ≤ Ln) (h3 : Ln ≤ 3072) (kk : ∀ X' A' L', inv X' A' L' → lwp Ln xs 1658 i [] (tw X' A' L') post) : lwp Ln xs 472 i [] (tw X A L) post := by
  obtain ⟨z, Mid, m1, m2⟩ := p_where hi ((xs (i + 1)))
  refine j_aload_n (i := 1) dL_law_472 rfl rfl ?_
  refine lw_arg 1 dL_law_473 dL_law_474 dL_law_475 dL_law_476 dL_law_477 rfl (by omega) h3 ?_
  refine j_callV [.int (xs (i + 1))] [] dL_law_478 jlk_L_49 rfl rfl rfl rfl (by decide) m1 (fun r w hw => ?_)
  obtain ⟨rfl, hM⟩ := hw
  obtain ⟨⟨X1, A1, L1, rfl⟩, Fin, q1, q2⟩ := m2 w hM
  show lwp Ln xs 481 i [.int z] (tw X1 A1 L1) post
  refine j_aload_n (i := 2) dL_law_481 rfl rfl ?_
  refine lw_arg 1 dL_law_482 dL_law_483 dL_law_484 dL_law_485 dL_law_486 rfl (by omega) h3 ?_
  refine j_callV [.int (xs (i + 1))] [.int z] dL_law_487 jlk_L_52 rfl rfl rfl rfl (Nat.le_of_ble_eq_true rfl) q1 (fun r w hw => ?_)
  obtain ⟨rfl, hF⟩ := hw
  obtain ⟨X2, A2, L2, rfl, hi2⟩ := q2 w hF
  exact j_icmp_eq (x := z) (y := z) (st := []) (tgt := 1658) dL_law_490 (by decide) (fun _ => kk X2 A2 L2 hi2) (fun h => absurd rfl h)
set_option maxRecDepth 100000 in
theorem law_9 (hi : inv X A L) (hb : i + 6 ≤ Ln) (h3 : Ln ≤ 3072) (kk : ∀ X' A' L', inv X' A' L' → lwp Ln xs 1658 i [] (tw X' A' L') post) : lwp Ln xs 495 i [] (tw X A L) post := by
  obtain ⟨z, Mid, m1, m2⟩ := p_sales hi ((xs (i + 1))) ((xs (i + 2)))
  refine j_aload_n (i := 1) dL_law_495 rfl rfl ?_
  refine lw_arg 1 dL_law_496 dL_law_497 dL_law_498 dL_law_499 dL_law_500 rfl (by omega) h3 ?_
  refine lw_arg 2 dL_law_501 dL_law_502 dL_law_503 dL_law_504 dL_law_505 rfl (by omega) h3 ?_
  refine j_callV [.int (xs (i + 1)), .int (xs (i + 2))] [] dL_law_506 jlk_L_53 rfl rfl rfl rfl (by decide) m1 (fun r w hw => ?_)
  obtain ⟨rfl, hM⟩ := hw
  obtain ⟨⟨X1, A1, L1, rfl⟩, Fin, q1, q2⟩ := m2 w hM
  show lwp Ln xs 509 i [.int z] (tw X1 A1 L1) post
  refine j_aload_n (i := 2) dL_law_509 rfl rfl ?_
  refine lw_arg 1 dL_law_510 dL_law_511 dL_law_512 dL_law_513 dL_law_514 rfl (by omega) h3 ?_
  refine lw_arg 2 dL_law_515 dL_law_516 dL_law_517 dL_law_518 dL_law_519 rfl (by omega) h3 ?_
  refine j_callV [.int (xs (i + 1)), .int (xs (i + 2))] [.int z] dL_law_520 jlk_L_56 rfl rfl rfl rfl (Nat.le_of_ble_eq_true rfl) q1 (fun r w hw => ?_)
  obtain ⟨rfl, hF⟩ := hw
  obtain ⟨X2, A2, L2, rfl, hi2⟩ := q2 w hF
  exact j_icmp_eq (x := z) (y := z) (st := []) (tgt := 1658) dL_law_523 (by decide) (fun _ => kk X2 A2 L2 hi2) (fun h => absurd rfl h)
set_option maxRecDepth 100000 in
theorem law_10 (hi : inv X A L) (hb : i + 6 ≤ Ln) (h3 : Ln ≤ 3072) (kk : ∀ X' A' L', inv X' A' L' → lwp Ln xs 1658 i [] (tw X' A' L') post) : lwp Ln xs 528 i [] (tw X A L) post := by
  obtain ⟨z, Mid, m1, m2⟩ := p_balance hi ((xs (i + 1))) ((xs (i + 2)))
  refine j_aload_n (i := 1) dL_law_528 rfl rfl ?_
  refine lw_arg 1 dL_law_529 dL_law_530 dL_law_531 dL_law_532 dL_law_533 rfl (by omega) h3 ?_
  refine lw_arg 2 dL_law_534 dL_law_535 dL_law_536 dL_law_537 dL_law_538 rfl (by omega) h3 ?_
  refine j_callV [.int (xs (i + 1)), .int (xs (i + 2))] [] dL_law_539 jlk_L_57 rfl rfl rfl rfl (by decide) m1 (fun r w hw => ?_)
  obtain ⟨rfl, hM⟩ := hw
  obtain ⟨⟨X1, A1, L1, rfl⟩, Fin, q1, q2⟩ := m2 w hM
  show lwp Ln xs 542 i [.int z] (tw X1 A1 L1) post
  refine j_aload_n (i := 2) dL_law_542 rfl rfl ?_
  refine lw_arg 1 dL_law_543 dL_law_544 dL_law_545 dL_law_546 dL_law_547 rfl (by omega) h3 ?_
  refine lw_arg 2 dL_law_548 dL_law_549 dL_law_550 dL_law_551 dL_law_552 rfl (by omega) h3 ?_
  refine j_callV [.int (xs (i + 1)), .int (xs (i + 2))] [.int z] dL_law_553 jlk_L_60 rfl rfl rfl rfl (Nat.le_of_ble_eq_true rfl) q1 (fun r w hw => ?_)
  obtain ⟨rfl, hF⟩ := hw
  obtain ⟨X2, A2, L2, rfl, hi2⟩ := q2 w hF
  exact j_icmp_eq (x := z) (y := z) (st := []) (tgt := 1658) dL_law_556 (by decide) (fun _ => kk X2 A2 L2 hi2) (fun h => absurd rfl h)
set_option maxRecDepth 100000 in
theorem law_11 (hi : inv X A L) (hb : i + 6 ≤ Ln) (h3 : Ln ≤ 3072) (kk : ∀ X' A' L', inv X' A' L' → lwp Ln xs 1658 i [] (tw X' A' L') post) : lwp Ln xs 561 i [] (tw X A L) post := by
  obtain ⟨z, Mid, m1, m2⟩ := p_winter hi ((xs (i + 1))) ((xs (i + 2)))
  refine j_aload_n (i := 1) dL_law_561 rfl rfl ?_
  refine lw_arg 1 dL_law_562 dL_law_563 dL_law_564 dL_law_565 dL_law_566 rfl (by omega) h3 ?_
  refine lw_arg 2 dL_law_567 dL_law_568 dL_law_569 dL_law_570 dL_law_571 rfl (by omega) h3 ?_
  refine j_callV [.int (xs (i + 1)), .int (xs (i + 2))] [] dL_law_572 jlk_L_61 rfl rfl rfl rfl (by decide) m1 (fun r w hw => ?_)
  obtain ⟨rfl, hM⟩ := hw
  obtain ⟨⟨X1, A1, L1, rfl⟩, Fin, q1, q2⟩ := m2 w hM
  show lwp Ln xs 575 i [.int z] (tw X1 A1 L1) post
  refine j_aload_n (i := 2) dL_law_575 rfl rfl ?_
  refine lw_arg 1 dL_law_576 dL_law_577 dL_law_578 dL_law_579 dL_law_580 rfl (by omega) h3 ?_
  refine lw_arg 2 dL_law_581 dL_law_582 dL_law_583 dL_law_584 dL_law_585 rfl (by omega) h3 ?_
  refine j_callV [.int (xs (i + 1)), .int (xs (i + 2))] [.int z] dL_law_586 jlk_L_64 rfl rfl rfl rfl (Nat.le_of_ble_eq_true rfl) q1 (fun r w hw => ?_)
  obtain ⟨rfl, hF⟩ := hw
  obtain ⟨X2, A2, L2, rfl, hi2⟩ := q2 w hF
  exact j_icmp_eq (x := z) (y := z) (st := []) (tgt := 1658) dL_law_589 (by decide) (fun _ => kk X2 A2 L2 hi2) (fun h => absurd rfl h)
set_option maxRecDepth 100000 in
theorem law_12 (hi : inv X A L) (hb : i + 6 ≤ Ln) (h3 : Ln ≤ 3072) (kk : ∀ X' A' L', inv X' A' L' → lwp Ln xs 1658 i [] (tw X' A' L') post) : lwp Ln xs 594 i [] (tw X A L) post := by
  obtain ⟨z, Mid, m1, m2⟩ := p_outlasts hi ((xs (i + 1))) ((xs (i + 2)))
  refine j_aload_n (i := 1) dL_law_594 rfl rfl ?_
  refine lw_arg 1 dL_law_595 dL_law_596 dL_law_597 dL_law_598 dL_law_599 rfl (by omega) h3 ?_
  refine lw_arg 2 dL_law_600 dL_law_601 dL_law_602 dL_law_603 dL_law_604 rfl (by omega) h3 ?_
  refine j_callV [.int (xs (i + 1)), .int (xs (i + 2))] [] dL_law_605 jlk_L_65 rfl rfl rfl rfl (by decide) m1 (fun r w hw => ?_)
  obtain ⟨rfl, hM⟩ := hw
  obtain ⟨⟨X1, A1, L1, rfl⟩, Fin, q1, q2⟩ := m2 w hM
  show lwp Ln xs 608 i [.int z] (tw X1 A1 L1) post
  refine j_aload_n (i := 2) dL_law_608 rfl rfl ?_
  refine lw_arg 1 dL_law_609 dL_law_610 dL_law_611 dL_law_612 dL_law_613 rfl (by omega) h3 ?_
  refine lw_arg 2 dL_law_614 dL_law_615 dL_law_616 dL_law_617 dL_law_618 rfl (by omega) h3 ?_
  refine j_callV [.int (xs (i + 1)), .int (xs (i + 2))] [.int z] dL_law_619 jlk_L_68 rfl rfl rfl rfl (Nat.le_of_ble_eq_true rfl) q1 (fun r w hw => ?_)
  obtain ⟨rfl, hF⟩ := hw
  obtain ⟨X2, A2, L2, rfl, hi2⟩ := q2 w hF
  exact j_icmp_eq (x := z) (y := z) (st := []) (tgt := 1658) dL_law_622 (by decide) (fun _ => kk X2 A2 L2 hi2) (fun h => absurd rfl h)
set_option maxRecDepth 100000 in
theorem law_13 (hi : inv X A L) (hb : i + 6 ≤ Ln) (h3 : Ln ≤ 3072) (kk : ∀ X' A' L', inv X' A' L' → lwp Ln xs 1658 i [] (tw X' A' L') post) : lwp Ln xs 627 i [] (tw X A L) post := by
  obtain ⟨z, Mid, m1, m2⟩ := p_order hi ((xs (i + 1))) ((xs (i + 2))) ((xs (i + 3)))
  refine j_aload_n (i := 1) dL_law_627 rfl rfl ?_
  refine lw_arg 1 dL_law_628 dL_law_629 dL_law_630 dL_law_631 dL_law_632 rfl (by omega) h3 ?_
  refine lw_arg 2 dL_law_633 dL_law_634 dL_law_635 dL_law_636 dL_law_637 rfl (by omega) h3 ?_
  refine lw_arg 3 dL_law_638 dL_law_639 dL_law_640 dL_law_641 dL_law_642 rfl (by omega) h3 ?_
  refine j_callV [.int (xs (i + 1)), .int (xs (i + 2)), .int (xs (i + 3))] [] dL_law_643 jlk_L_69 rfl rfl rfl rfl (by decide) m1 (fun r w hw => ?_)
  obtain ⟨rfl, hM⟩ := hw
  obtain ⟨⟨X1, A1, L1, rfl⟩, Fin, q1, q2⟩ := m2 w hM
  show lwp Ln xs 646 i [.int z] (tw X1 A1 L1) post
  refine j_aload_n (i := 2) dL_law_646 rfl rfl ?_
  refine lw_arg 1 dL_law_647 dL_law_648 dL_law_649 dL_law_650 dL_law_651 rfl (by omega) h3 ?_
  refine lw_arg 2 dL_law_652 dL_law_653 dL_law_654 dL_law_655 dL_law_656 rfl (by omega) h3 ?_
  refine lw_arg 3 dL_law_657 dL_law_658 dL_law_659 dL_law_660 dL_law_661 rfl (by omega) h3 ?_
  refine j_callV [.int (xs (i + 1)), .int (xs (i + 2)), .int (xs (i + 3))] [.int z] dL_law_662 jlk_L_72 rfl rfl rfl rfl (Nat.le_of_ble_eq_true rfl) q1 (fun r w hw => ?_)
  obtain ⟨rfl, hF⟩ := hw
  obtain ⟨X2, A2, L2, rfl, hi2⟩ := q2 w hF
  exact j_icmp_eq (x := z) (y := z) (st := []) (tgt := 1658) dL_law_665 (by decide) (fun _ => kk X2 A2 L2 hi2) (fun h => absurd rfl h)
set_option maxRecDepth 100000 in
theorem law_14 (hi : inv X A L) (hb : i + 6 ≤ Ln) (h3 : Ln ≤ 3072) (kk : ∀ X' A' L', inv X' A' L' → lwp Ln xs 1658 i [] (tw X' A' L') post) : lwp Ln xs 670 i [] (tw X A L) post := by
  obtain ⟨z, Mid, m1, m2⟩ := p_heat hi ((xs (i + 1)))
  refine j_aload_n (i := 1) dL_law_670 rfl rfl ?_
  refine lw_arg 1 dL_law_671 dL_law_672 dL_law_673 dL_law_674 dL_law_675 rfl (by omega) h3 ?_
  refine j_callV [.int (xs (i + 1))] [] dL_law_676 jlk_L_73 rfl rfl rfl rfl (by decide) m1 (fun r w hw => ?_)
  obtain ⟨rfl, hM⟩ := hw
  obtain ⟨⟨X1, A1, L1, rfl⟩, Fin, q1, q2⟩ := m2 w hM
  show lwp Ln xs 679 i [.int z] (tw X1 A1 L1) post
  refine j_aload_n (i := 2) dL_law_679 rfl rfl ?_
  refine lw_arg 1 dL_law_680 dL_law_681 dL_law_682 dL_law_683 dL_law_684 rfl (by omega) h3 ?_
  refine j_callV [.int (xs (i + 1))] [.int z] dL_law_685 jlk_L_76 rfl rfl rfl rfl (Nat.le_of_ble_eq_true rfl) q1 (fun r w hw => ?_)
  obtain ⟨rfl, hF⟩ := hw
  obtain ⟨X2, A2, L2, rfl, hi2⟩ := q2 w hF
  exact j_icmp_eq (x := z) (y := z) (st := []) (tgt := 1658) dL_law_688 (by decide) (fun _ => kk X2 A2 L2 hi2) (fun h => absurd rfl h)
set_option maxRecDepth 100000 in
theorem law_15 (hi : inv X A L) (hb : i + 6 ≤ Ln) (h3 : Ln ≤ 3072) (kk : ∀ X' A' L', inv X' A' L' → lwp Ln xs 1658 i [] (tw X' A' L') post) : lwp Ln xs 693 i [] (tw X A L) post := by
  obtain ⟨z, Mid, m1, m2⟩ := p_swarm hi ((xs (i + 1))) ((xs (i + 2)))
  refine j_aload_n (i := 1) dL_law_693 rfl rfl ?_
  refine lw_arg 1 dL_law_694 dL_law_695 dL_law_696 dL_law_697 dL_law_698 rfl (by omega) h3 ?_
  refine lw_arg 2 dL_law_699 dL_law_700 dL_law_701 dL_law_702 dL_law_703 rfl (by omega) h3 ?_
  refine j_callV [.int (xs (i + 1)), .int (xs (i + 2))] [] dL_law_704 jlk_L_77 rfl rfl rfl rfl (by decide) m1 (fun r w hw => ?_)
  obtain ⟨rfl, hM⟩ := hw
  obtain ⟨⟨X1, A1, L1, rfl⟩, Fin, q1, q2⟩ := m2 w hM
  show lwp Ln xs 707 i [.int z] (tw X1 A1 L1) post
  refine j_aload_n (i := 2) dL_law_707 rfl rfl ?_
  refine lw_arg 1 dL_law_708 dL_law_709 dL_law_710 dL_law_711 dL_law_712 rfl (by omega) h3 ?_
  refine lw_arg 2 dL_law_713 dL_law_714 dL_law_715 dL_law_716 dL_law_717 rfl (by omega) h3 ?_
  refine j_callV [.int (xs (i + 1)), .int (xs (i + 2))] [.int z] dL_law_718 jlk_L_80 rfl rfl rfl rfl (Nat.le_of_ble_eq_true rfl) q1 (fun r w hw => ?_)
  obtain ⟨rfl, hF⟩ := hw
  obtain ⟨X2, A2, L2, rfl, hi2⟩ := q2 w hF
  exact j_icmp_eq (x := z) (y := z) (st := []) (tgt := 1658) dL_law_721 (by decide) (fun _ => kk X2 A2 L2 hi2) (fun h => absurd rfl h)
set_option maxRecDepth 100000 in
theorem law_16 (hi : inv X A L) (hb : i + 6 ≤ Ln) (h3 : Ln ≤ 3072) (kk : ∀ X' A' L', inv X' A' L' → lwp Ln xs 1658 i [] (tw X' A' L') post) : lwp Ln xs 726 i [] (tw X A L) post := by
  obtain ⟨z, Mid, m1, m2⟩ := p_least hi ((xs (i + 1))) ((xs (i + 2))) ((xs (i + 3)))
  refine j_aload_n (i := 1) dL_law_726 rfl rfl ?_
  refine lw_arg 1 dL_law_727 dL_law_728 dL_law_729 dL_law_730 dL_law_731 rfl (by omega) h3 ?_
  refine lw_arg 2 dL_law_732 dL_law_733 dL_law_734 dL_law_735 dL_law_736 rfl (by omega) h3 ?_
  refine lw_arg 3 dL_law_737 dL_law_738 dL_law_739 dL_law_740 dL_law_741 rfl (by omega) h3 ?_
  refine j_callV [.int (xs (i + 1)), .int (xs (i + 2)), .int (xs (i + 3))] [] dL_law_742 jlk_L_81 rfl rfl rfl rfl (by decide) m1 (fun r w hw => ?_)
  obtain ⟨rfl, hM⟩ := hw
  obtain ⟨⟨X1, A1, L1, rfl⟩, Fin, q1, q2⟩ := m2 w hM
  show lwp Ln xs 745 i [.int z] (tw X1 A1 L1) post
  refine j_aload_n (i := 2) dL_law_745 rfl rfl ?_
  refine lw_arg 1 dL_law_746 dL_law_747 dL_law_748 dL_law_749 dL_law_750 rfl (by omega) h3 ?_
  refine lw_arg 2 dL_law_751 dL_law_752 dL_law_753 dL_law_754 dL_law_755 rfl (by omega) h3 ?_
  refine lw_arg 3 dL_law_756 dL_law_757 dL_law_758 dL_law_759 dL_law_760 rfl (by omega) h3 ?_
  refine j_callV [.int (xs (i + 1)), .int (xs (i + 2)), .int (xs (i + 3))] [.int z] dL_law_761 jlk_L_84 rfl rfl rfl rfl (Nat.le_of_ble_eq_true rfl) q1 (fun r w hw => ?_)
  obtain ⟨rfl, hF⟩ := hw
  obtain ⟨X2, A2, L2, rfl, hi2⟩ := q2 w hF
  exact j_icmp_eq (x := z) (y := z) (st := []) (tgt := 1658) dL_law_764 (by decide) (fun _ => kk X2 A2 L2 hi2) (fun h => absurd rfl h)
set_option maxRecDepth 100000 in
theorem law_17 (hi : inv X A L) (hb : i + 6 ≤ Ln) (h3 : Ln ≤ 3072) (kk : ∀ X' A' L', inv X' A' L' → lwp Ln xs 1658 i [] (tw X' A' L') post) : lwp Ln xs 769 i [] (tw X A L) post := by
  obtain ⟨z, Mid, m1, m2⟩ := p_dance hi ((xs (i + 1))) ((xs (i + 2))) ((xs (i + 3)))
  refine j_aload_n (i := 1) dL_law_769 rfl rfl ?_
  refine lw_arg 1 dL_law_770 dL_law_771 dL_law_772 dL_law_773 dL_law_774 rfl (by omega) h3 ?_
  refine lw_arg 2 dL_law_775 dL_law_776 dL_law_777 dL_law_778 dL_law_779 rfl (by omega) h3 ?_
  refine lw_arg 3 dL_law_780 dL_law_781 dL_law_782 dL_law_783 dL_law_784 rfl (by omega) h3 ?_
  refine j_callV [.int (xs (i + 1)), .int (xs (i + 2)), .int (xs (i + 3))] [] dL_law_785 jlk_L_85 rfl rfl rfl rfl (by decide) m1 (fun r w hw => ?_)
  obtain ⟨rfl, hM⟩ := hw
  obtain ⟨⟨X1, A1, L1, rfl⟩, Fin, q1, q2⟩ := m2 w hM
  show lwp Ln xs 788 i [.long z] (tw X1 A1 L1) post
  refine j_aload_n (i := 2) dL_law_788 rfl rfl ?_
  refine lw_arg 1 dL_law_789 dL_law_790 dL_law_791 dL_law_792 dL_law_793 rfl (by omega) h3 ?_
  refine lw_arg 2 dL_law_794 dL_law_795 dL_law_796 dL_law_797 dL_law_798 rfl (by omega) h3 ?_
  refine lw_arg 3 dL_law_799 dL_law_800 dL_law_801 dL_law_802 dL_law_803 rfl (by omega) h3 ?_
  refine j_callV [.int (xs (i + 1)), .int (xs (i + 2)), .int (xs (i + 3))] [.long z] dL_law_804 jlk_L_89 rfl rfl rfl rfl (Nat.le_of_ble_eq_true rfl) q1 (fun r w hw => ?_)
  obtain ⟨rfl, hF⟩ := hw
  obtain ⟨X2, A2, L2, rfl, hi2⟩ := q2 w hF
  refine j_lcmp (x := z) (y := z) (st := []) dL_law_807 ?_
  exact j_if_eq (tgt := 1658) dL_law_808 (by decide) (fun _ => kk X2 A2 L2 hi2) (fun h => absurd (lcmp_self z) h)
set_option maxRecDepth 100000 in
theorem law_18 (hi : inv X A L) (hb : i + 6 ≤ Ln) (h3 : Ln ≤ 3072) (kk : ∀ X' A' L', inv X' A' L' → lwp Ln xs 1658 i [] (tw X' A' L') post) : lwp Ln xs 813 i [] (tw X A L) post := by
  obtain ⟨z, Mid, m1, m2⟩ := p_dances hi ((xs (i + 1))) ((xs (i + 2))) ((xs (i + 3)))
  refine j_aload_n (i := 1) dL_law_813 rfl rfl ?_
  refine lw_arg 1 dL_law_814 dL_law_815 dL_law_816 dL_law_817 dL_law_818 rfl (by omega) h3 ?_
  refine lw_arg 2 dL_law_819 dL_law_820 dL_law_821 dL_law_822 dL_law_823 rfl (by omega) h3 ?_
  refine lw_arg 3 dL_law_824 dL_law_825 dL_law_826 dL_law_827 dL_law_828 rfl (by omega) h3 ?_
  refine j_callV [.int (xs (i + 1)), .int (xs (i + 2)), .int (xs (i + 3))] [] dL_law_829 jlk_L_90 rfl rfl rfl rfl (by decide) m1 (fun r w hw => ?_)
  obtain ⟨rfl, hM⟩ := hw
  obtain ⟨⟨X1, A1, L1, rfl⟩, Fin, q1, q2⟩ := m2 w hM
  show lwp Ln xs 832 i [.long z] (tw X1 A1 L1) post
  refine j_aload_n (i := 2) dL_law_832 rfl rfl ?_
  refine lw_arg 1 dL_law_833 dL_law_834 dL_law_835 dL_law_836 dL_law_837 rfl (by omega) h3 ?_
  refine lw_arg 2 dL_law_838 dL_law_839 dL_law_840 dL_law_841 dL_law_842 rfl (by omega) h3 ?_
  refine lw_arg 3 dL_law_843 dL_law_844 dL_law_845 dL_law_846 dL_law_847 rfl (by omega) h3 ?_
  refine j_callV [.int (xs (i + 1)), .int (xs (i + 2)), .int (xs (i + 3))] [.long z] dL_law_848 jlk_L_93 rfl rfl rfl rfl (Nat.le_of_ble_eq_true rfl) q1 (fun r w hw => ?_)
  obtain ⟨rfl, hF⟩ := hw
  obtain ⟨X2, A2, L2, rfl, hi2⟩ := q2 w hF
  refine j_lcmp (x := z) (y := z) (st := []) dL_law_851 ?_
  exact j_if_eq (tgt := 1658) dL_law_852 (by decide) (fun _ => kk X2 A2 L2 hi2) (fun h => absurd (lcmp_self z) h)
set_option maxRecDepth 100000 in
theorem law_19 (hi : inv X A L) (hb : i + 6 ≤ Ln) (h3 : Ln ≤ 3072) (kk : ∀ X' A' L', inv X' A' L' → lwp Ln xs 1658 i [] (tw X' A' L') post) : lwp Ln xs 857 i [] (tw X A L) post := by
  obtain ⟨z, Mid, m1, m2⟩ := p_right hi ((xs (i + 1))) ((xs (i + 2)))
  refine j_aload_n (i := 1) dL_law_857 rfl rfl ?_
  refine lw_arg 1 dL_law_858 dL_law_859 dL_law_860 dL_law_861 dL_law_862 rfl (by omega) h3 ?_
  refine lw_arg 2 dL_law_863 dL_law_864 dL_law_865 dL_law_866 dL_law_867 rfl (by omega) h3 ?_
  refine j_callV [.int (xs (i + 1)), .int (xs (i + 2))] [] dL_law_868 jlk_L_94 rfl rfl rfl rfl (by decide) m1 (fun r w hw => ?_)
  obtain ⟨rfl, hM⟩ := hw
  obtain ⟨⟨X1, A1, L1, rfl⟩, Fin, q1, q2⟩ := m2 w hM
  show lwp Ln xs 871 i [.long z] (tw X1 A1 L1) post
  refine j_aload_n (i := 2) dL_law_871 rfl rfl ?_
  refine lw_arg 1 dL_law_872 dL_law_873 dL_law_874 dL_law_875 dL_law_876 rfl (by omega) h3 ?_
  refine lw_arg 2 dL_law_877 dL_law_878 dL_law_879 dL_law_880 dL_law_881 rfl (by omega) h3 ?_
  refine j_callV [.int (xs (i + 1)), .int (xs (i + 2))] [.long z] dL_law_882 jlk_L_98 rfl rfl rfl rfl (Nat.le_of_ble_eq_true rfl) q1 (fun r w hw => ?_)
  obtain ⟨rfl, hF⟩ := hw
  obtain ⟨X2, A2, L2, rfl, hi2⟩ := q2 w hF
  refine j_lcmp (x := z) (y := z) (st := []) dL_law_885 ?_
  exact j_if_eq (tgt := 1658) dL_law_886 (by decide) (fun _ => kk X2 A2 L2 hi2) (fun h => absurd (lcmp_self z) h)
set_option maxRecDepth 100000 in
theorem law_20 (hi : inv X A L) (hb : i + 6 ≤ Ln) (h3 : Ln ≤ 3072) (kk : ∀ X' A' L', inv X' A' L' → lwp Ln xs 1658 i [] (tw X' A' L') post) : lwp Ln xs 891 i [] (tw X A L) post := by
  obtain ⟨z, Mid, m1, m2⟩ := p_read hi ((xs (i + 1))) ((xs (i + 2))) ((xs (i + 3))) ((xs (i + 4)))
  refine j_aload_n (i := 1) dL_law_891 rfl rfl ?_
  refine lw_arg 1 dL_law_892 dL_law_893 dL_law_894 dL_law_895 dL_law_896 rfl (by omega) h3 ?_
  refine lw_arg 2 dL_law_897 dL_law_898 dL_law_899 dL_law_900 dL_law_901 rfl (by omega) h3 ?_
  refine lw_arg 3 dL_law_902 dL_law_903 dL_law_904 dL_law_905 dL_law_906 rfl (by omega) h3 ?_
  refine lw_arg 4 dL_law_907 dL_law_908 dL_law_909 dL_law_910 dL_law_911 rfl (by omega) h3 ?_
  refine j_callV [.int (xs (i + 1)), .int (xs (i + 2)), .int (xs (i + 3)), .int (xs (i + 4))] [] dL_law_912 jlk_L_99 rfl rfl rfl rfl (by decide) m1 (fun r w hw => ?_)
  obtain ⟨rfl, hM⟩ := hw
  obtain ⟨⟨X1, A1, L1, rfl⟩, Fin, q1, q2⟩ := m2 w hM
  show lwp Ln xs 915 i [.int z] (tw X1 A1 L1) post
  refine j_aload_n (i := 2) dL_law_915 rfl rfl ?_
  refine lw_arg 1 dL_law_916 dL_law_917 dL_law_918 dL_law_919 dL_law_920 rfl (by omega) h3 ?_
  refine lw_arg 2 dL_law_921 dL_law_922 dL_law_923 dL_law_924 dL_law_925 rfl (by omega) h3 ?_
  refine lw_arg 3 dL_law_926 dL_law_927 dL_law_928 dL_law_929 dL_law_930 rfl (by omega) h3 ?_
  refine lw_arg 4 dL_law_931 dL_law_932 dL_law_933 dL_law_934 dL_law_935 rfl (by omega) h3 ?_
  refine j_callV [.int (xs (i + 1)), .int (xs (i + 2)), .int (xs (i + 3)), .int (xs (i + 4))] [.int z] dL_law_936 jlk_L_103 rfl rfl rfl rfl (Nat.le_of_ble_eq_true rfl) q1 (fun r w hw => ?_)
  obtain ⟨rfl, hF⟩ := hw
  obtain ⟨X2, A2, L2, rfl, hi2⟩ := q2 w hF
  exact j_icmp_eq (x := z) (y := z) (st := []) (tgt := 1658) dL_law_939 (by decide) (fun _ => kk X2 A2 L2 hi2) (fun h => absurd rfl h)
set_option maxRecDepth 100000 in
theorem law_21 (hi : inv X A L) (hb : i + 6 ≤ Ln) (h3 : Ln ≤ 3072) (kk : ∀ X' A' L', inv X' A' L' → lwp Ln xs 1658 i [] (tw X' A' L') post) : lwp Ln xs 944 i [] (tw X A L) post := by
  obtain ⟨z, Mid, m1, m2⟩ := p_open hi ((xs (i + 1))) ((xs (i + 2)))
  refine j_aload_n (i := 1) dL_law_944 rfl rfl ?_
  refine lw_arg 1 dL_law_945 dL_law_946 dL_law_947 dL_law_948 dL_law_949 rfl (by omega) h3 ?_
  refine lw_arg 2 dL_law_950 dL_law_951 dL_law_952 dL_law_953 dL_law_954 rfl (by omega) h3 ?_
  refine j_callV [.int (xs (i + 1)), .int (xs (i + 2))] [] dL_law_955 jlk_L_104 rfl rfl rfl rfl (by decide) m1 (fun r w hw => ?_)
  obtain ⟨rfl, hM⟩ := hw
  obtain ⟨⟨X1, A1, L1, rfl⟩, Fin, q1, q2⟩ := m2 w hM
  show lwp Ln xs 958 i [.int z] (tw X1 A1 L1) post
  refine j_aload_n (i := 2) dL_law_958 rfl rfl ?_
  refine lw_arg 1 dL_law_959 dL_law_960 dL_law_961 dL_law_962 dL_law_963 rfl (by omega) h3 ?_
  refine lw_arg 2 dL_law_964 dL_law_965 dL_law_966 dL_law_967 dL_law_968 rfl (by omega) h3 ?_
  refine j_callV [.int (xs (i + 1)), .int (xs (i + 2))] [.int z] dL_law_969 jlk_L_107 rfl rfl rfl rfl (Nat.le_of_ble_eq_true rfl) q1 (fun r w hw => ?_)
  obtain ⟨rfl, hF⟩ := hw
  obtain ⟨X2, A2, L2, rfl, hi2⟩ := q2 w hF
  exact j_icmp_eq (x := z) (y := z) (st := []) (tgt := 1658) dL_law_972 (by decide) (fun _ => kk X2 A2 L2 hi2) (fun h => absurd rfl h)
set_option maxRecDepth 100000 in
theorem law_22 (hi : inv X A L) (hb : i + 6 ≤ Ln) (h3 : Ln ≤ 3072) (kk : ∀ X' A' L', inv X' A' L' → lwp Ln xs 1658 i [] (tw X' A' L') post) : lwp Ln xs 977 i [] (tw X A L) post := by
  obtain ⟨z, Mid, m1, m2⟩ := p_pass hi ((xs (i + 1))) ((xs (i + 2))) ((xs (i + 3)))
  refine j_aload_n (i := 1) dL_law_977 rfl rfl ?_
  refine lw_arg 1 dL_law_978 dL_law_979 dL_law_980 dL_law_981 dL_law_982 rfl (by omega) h3 ?_
  refine lw_arg 2 dL_law_983 dL_law_984 dL_law_985 dL_law_986 dL_law_987 rfl (by omega) h3 ?_
  refine lw_arg 3 dL_law_988 dL_law_989 dL_law_990 dL_law_991 dL_law_992 rfl (by omega) h3 ?_
  refine j_callV [.int (xs (i + 1)), .int (xs (i + 2)), .int (xs (i + 3))] [] dL_law_993 jlk_L_108 rfl rfl rfl rfl (by decide) m1 (fun r w hw => ?_)
  obtain ⟨rfl, hM⟩ := hw
  obtain ⟨⟨X1, A1, L1, rfl⟩, Fin, q1, q2⟩ := m2 w hM
  show lwp Ln xs 996 i [.long z] (tw X1 A1 L1) post
  refine j_aload_n (i := 2) dL_law_996 rfl rfl ?_
  refine lw_arg 1 dL_law_997 dL_law_998 dL_law_999 dL_law_1000 dL_law_1001 rfl (by omega) h3 ?_
  refine lw_arg 2 dL_law_1002 dL_law_1003 dL_law_1004 dL_law_1005 dL_law_1006 rfl (by omega) h3 ?_
  refine lw_arg 3 dL_law_1007 dL_law_1008 dL_law_1009 dL_law_1010 dL_law_1011 rfl (by omega) h3 ?_
  refine j_callV [.int (xs (i + 1)), .int (xs (i + 2)), .int (xs (i + 3))] [.long z] dL_law_1012 jlk_L_111 rfl rfl rfl rfl (Nat.le_of_ble_eq_true rfl) q1 (fun r w hw => ?_)
  obtain ⟨rfl, hF⟩ := hw
  obtain ⟨X2, A2, L2, rfl, hi2⟩ := q2 w hF
  refine j_lcmp (x := z) (y := z) (st := []) dL_law_1015 ?_
  exact j_if_eq (tgt := 1658) dL_law_1016 (by decide) (fun _ => kk X2 A2 L2 hi2) (fun h => absurd (lcmp_self z) h)
set_option maxRecDepth 100000 in
theorem law_23 (hi : inv X A L) (hb : i + 6 ≤ Ln) (h3 : Ln ≤ 3072) (kk : ∀ X' A' L', inv X' A' L' → lwp Ln xs 1658 i [] (tw X' A' L') post) : lwp Ln xs 1021 i [] (tw X A L) post := by
  obtain ⟨z, Mid, m1, m2⟩ := p_mostFalse hi ((xs (i + 1)))
  refine j_aload_n (i := 1) dL_law_1021 rfl rfl ?_
  refine lw_arg 1 dL_law_1022 dL_law_1023 dL_law_1024 dL_law_1025 dL_law_1026 rfl (by omega) h3 ?_
  refine j_callV [.int (xs (i + 1))] [] dL_law_1027 jlk_L_112 rfl rfl rfl rfl (by decide) m1 (fun r w hw => ?_)
  obtain ⟨rfl, hM⟩ := hw
  obtain ⟨⟨X1, A1, L1, rfl⟩, Fin, q1, q2⟩ := m2 w hM
  show lwp Ln xs 1030 i [.int z] (tw X1 A1 L1) post
  refine j_aload_n (i := 2) dL_law_1030 rfl rfl ?_
  refine lw_arg 1 dL_law_1031 dL_law_1032 dL_law_1033 dL_law_1034 dL_law_1035 rfl (by omega) h3 ?_
  refine j_callV [.int (xs (i + 1))] [.int z] dL_law_1036 jlk_L_115 rfl rfl rfl rfl (Nat.le_of_ble_eq_true rfl) q1 (fun r w hw => ?_)
  obtain ⟨rfl, hF⟩ := hw
  obtain ⟨X2, A2, L2, rfl, hi2⟩ := q2 w hF
  exact j_icmp_eq (x := z) (y := z) (st := []) (tgt := 1658) dL_law_1039 (by decide) (fun _ => kk X2 A2 L2 hi2) (fun h => absurd rfl h)
set_option maxRecDepth 100000 in
theorem law_24 (hi : inv X A L) (hb : i + 6 ≤ Ln) (h3 : Ln ≤ 3072) (kk : ∀ X' A' L', inv X' A' L' → lwp Ln xs 1658 i [] (tw X' A' L') post) : lwp Ln xs 1044 i [] (tw X A L) post := by
  obtain ⟨z, Mid, m1, m2⟩ := p_judge hi ((xs (i + 1)))
  refine j_aload_n (i := 1) dL_law_1044 rfl rfl ?_
  refine lw_arg 1 dL_law_1045 dL_law_1046 dL_law_1047 dL_law_1048 dL_law_1049 rfl (by omega) h3 ?_
  refine j_callV [.int (xs (i + 1))] [] dL_law_1050 jlk_L_116 rfl rfl rfl rfl (by decide) m1 (fun r w hw => ?_)
  obtain ⟨rfl, hM⟩ := hw
  obtain ⟨⟨X1, A1, L1, rfl⟩, Fin, q1, q2⟩ := m2 w hM
  show lwp Ln xs 1053 i [.int z] (tw X1 A1 L1) post
  refine j_aload_n (i := 2) dL_law_1053 rfl rfl ?_
  refine lw_arg 1 dL_law_1054 dL_law_1055 dL_law_1056 dL_law_1057 dL_law_1058 rfl (by omega) h3 ?_
  refine j_callV [.int (xs (i + 1))] [.int z] dL_law_1059 jlk_L_119 rfl rfl rfl rfl (Nat.le_of_ble_eq_true rfl) q1 (fun r w hw => ?_)
  obtain ⟨rfl, hF⟩ := hw
  obtain ⟨X2, A2, L2, rfl, hi2⟩ := q2 w hF
  exact j_icmp_eq (x := z) (y := z) (st := []) (tgt := 1658) dL_law_1062 (by decide) (fun _ => kk X2 A2 L2 hi2) (fun h => absurd rfl h)
set_option maxRecDepth 100000 in
theorem law_25 (hi : inv X A L) (hb : i + 6 ≤ Ln) (h3 : Ln ≤ 3072) (kk : ∀ X' A' L', inv X' A' L' → lwp Ln xs 1658 i [] (tw X' A' L') post) : lwp Ln xs 1067 i [] (tw X A L) post := by
  obtain ⟨z, Mid, m1, m2⟩ := p_drawn hi ((xs (i + 1))) ((xs (i + 2))) ((xs (i + 3)))
  refine j_aload_n (i := 1) dL_law_1067 rfl rfl ?_
  refine lw_arg 1 dL_law_1068 dL_law_1069 dL_law_1070 dL_law_1071 dL_law_1072 rfl (by omega) h3 ?_
  refine lw_arg 2 dL_law_1073 dL_law_1074 dL_law_1075 dL_law_1076 dL_law_1077 rfl (by omega) h3 ?_
  refine lw_arg 3 dL_law_1078 dL_law_1079 dL_law_1080 dL_law_1081 dL_law_1082 rfl (by omega) h3 ?_
  refine j_callV [.int (xs (i + 1)), .int (xs (i + 2)), .int (xs (i + 3))] [] dL_law_1083 jlk_L_120 rfl rfl rfl rfl (by decide) m1 (fun r w hw => ?_)
  obtain ⟨rfl, hM⟩ := hw
  obtain ⟨⟨X1, A1, L1, rfl⟩, Fin, q1, q2⟩ := m2 w hM
  show lwp Ln xs 1086 i [.int z] (tw X1 A1 L1) post
  refine j_aload_n (i := 2) dL_law_1086 rfl rfl ?_
  refine lw_arg 1 dL_law_1087 dL_law_1088 dL_law_1089 dL_law_1090 dL_law_1091 rfl (by omega) h3 ?_
  refine lw_arg 2 dL_law_1092 dL_law_1093 dL_law_1094 dL_law_1095 dL_law_1096 rfl (by omega) h3 ?_
  refine lw_arg 3 dL_law_1097 dL_law_1098 dL_law_1099 dL_law_1100 dL_law_1101 rfl (by omega) h3 ?_
  refine j_callV [.int (xs (i + 1)), .int (xs (i + 2)), .int (xs (i + 3))] [.int z] dL_law_1102 jlk_L_123 rfl rfl rfl rfl (Nat.le_of_ble_eq_true rfl) q1 (fun r w hw => ?_)
  obtain ⟨rfl, hF⟩ := hw
  obtain ⟨X2, A2, L2, rfl, hi2⟩ := q2 w hF
  exact j_icmp_eq (x := z) (y := z) (st := []) (tgt := 1658) dL_law_1105 (by decide) (fun _ => kk X2 A2 L2 hi2) (fun h => absurd rfl h)
set_option maxRecDepth 100000 in
theorem law_26 (hi : inv X A L) (hb : i + 6 ≤ Ln) (h3 : Ln ≤ 3072) (kk : ∀ X' A' L', inv X' A' L' → lwp Ln xs 1658 i [] (tw X' A' L') post) : lwp Ln xs 1110 i [] (tw X A L) post := by
  obtain ⟨z, Mid, m1, m2⟩ := p_sale hi ((xs (i + 1)))
  refine j_aload_n (i := 1) dL_law_1110 rfl rfl ?_
  refine lw_arg 1 dL_law_1111 dL_law_1112 dL_law_1113 dL_law_1114 dL_law_1115 rfl (by omega) h3 ?_
  refine j_callV [.int (xs (i + 1))] [] dL_law_1116 jlk_L_124 rfl rfl rfl rfl (by decide) m1 (fun r w hw => ?_)
  obtain ⟨rfl, hM⟩ := hw
  obtain ⟨⟨X1, A1, L1, rfl⟩, Fin, q1, q2⟩ := m2 w hM
  show lwp Ln xs 1119 i [.int z] (tw X1 A1 L1) post
  refine j_aload_n (i := 2) dL_law_1119 rfl rfl ?_
  refine lw_arg 1 dL_law_1120 dL_law_1121 dL_law_1122 dL_law_1123 dL_law_1124 rfl (by omega) h3 ?_
  refine j_callV [.int (xs (i + 1))] [.int z] dL_law_1125 jlk_L_127 rfl rfl rfl rfl (Nat.le_of_ble_eq_true rfl) q1 (fun r w hw => ?_)
  obtain ⟨rfl, hF⟩ := hw
  obtain ⟨X2, A2, L2, rfl, hi2⟩ := q2 w hF
  exact j_icmp_eq (x := z) (y := z) (st := []) (tgt := 1658) dL_law_1128 (by decide) (fun _ => kk X2 A2 L2 hi2) (fun h => absurd rfl h)
set_option maxRecDepth 100000 in
theorem law_27 (hi : inv X A L) (hb : i + 6 ≤ Ln) (h3 : Ln ≤ 3072) (kk : ∀ X' A' L', inv X' A' L' → lwp Ln xs 1658 i [] (tw X' A' L') post) : lwp Ln xs 1133 i [] (tw X A L) post := by
  obtain ⟨z, Mid, m1, m2⟩ := p_eat hi ((xs (i + 1)))
  refine j_aload_n (i := 1) dL_law_1133 rfl rfl ?_
  refine lw_arg 1 dL_law_1134 dL_law_1135 dL_law_1136 dL_law_1137 dL_law_1138 rfl (by omega) h3 ?_
  refine j_callV [.int (xs (i + 1))] [] dL_law_1139 jlk_L_128 rfl rfl rfl rfl (by decide) m1 (fun r w hw => ?_)
  obtain ⟨rfl, hM⟩ := hw
  obtain ⟨⟨X1, A1, L1, rfl⟩, Fin, q1, q2⟩ := m2 w hM
  show lwp Ln xs 1142 i [.int z] (tw X1 A1 L1) post
  refine j_aload_n (i := 2) dL_law_1142 rfl rfl ?_
  refine lw_arg 1 dL_law_1143 dL_law_1144 dL_law_1145 dL_law_1146 dL_law_1147 rfl (by omega) h3 ?_
  refine j_callV [.int (xs (i + 1))] [.int z] dL_law_1148 jlk_L_131 rfl rfl rfl rfl (Nat.le_of_ble_eq_true rfl) q1 (fun r w hw => ?_)
  obtain ⟨rfl, hF⟩ := hw
  obtain ⟨X2, A2, L2, rfl, hi2⟩ := q2 w hF
  exact j_icmp_eq (x := z) (y := z) (st := []) (tgt := 1658) dL_law_1151 (by decide) (fun _ => kk X2 A2 L2 hi2) (fun h => absurd rfl h)
set_option maxRecDepth 100000 in
theorem law_28 (hi : inv X A L) (hb : i + 6 ≤ Ln) (h3 : Ln ≤ 3072) (kk : ∀ X' A' L', inv X' A' L' → lwp Ln xs 1658 i [] (tw X' A' L') post) : lwp Ln xs 1156 i [] (tw X A L) post := by
  obtain ⟨z, Mid, m1, m2⟩ := p_run hi 
  refine j_aload_n (i := 1) dL_law_1156 rfl rfl ?_
  refine j_callV [] [] dL_law_1157 jlk_L_132 rfl rfl rfl rfl (by decide) m1 (fun r w hw => ?_)
  obtain ⟨rfl, hM⟩ := hw
  obtain ⟨⟨X1, A1, L1, rfl⟩, Fin, q1, q2⟩ := m2 w hM
  show lwp Ln xs 1160 i [.int z] (tw X1 A1 L1) post
  refine j_aload_n (i := 2) dL_law_1160 rfl rfl ?_
  refine j_callV [] [.int z] dL_law_1161 jlk_L_135 rfl rfl rfl rfl (Nat.le_of_ble_eq_true rfl) q1 (fun r w hw => ?_)
  obtain ⟨rfl, hF⟩ := hw
  obtain ⟨X2, A2, L2, rfl, hi2⟩ := q2 w hF
  exact j_icmp_eq (x := z) (y := z) (st := []) (tgt := 1658) dL_law_1164 (by decide) (fun _ => kk X2 A2 L2 hi2) (fun h => absurd rfl h)
set_option maxRecDepth 100000 in
theorem law_29 (hi : inv X A L) (hb : i + 6 ≤ Ln) (h3 : Ln ≤ 3072) (kk : ∀ X' A' L', inv X' A' L' → lwp Ln xs 1658 i [] (tw X' A' L') post) : lwp Ln xs 1169 i [] (tw X A L) post := by
  obtain ⟨z, Mid, m1, m2⟩ := p_fly hi ((xs (i + 1)))
  refine j_aload_n (i := 1) dL_law_1169 rfl rfl ?_
  refine lw_arg 1 dL_law_1170 dL_law_1171 dL_law_1172 dL_law_1173 dL_law_1174 rfl (by omega) h3 ?_
  refine j_callV [.int (xs (i + 1))] [] dL_law_1175 jlk_L_136 rfl rfl rfl rfl (by decide) m1 (fun r w hw => ?_)
  obtain ⟨rfl, hM⟩ := hw
  obtain ⟨⟨X1, A1, L1, rfl⟩, Fin, q1, q2⟩ := m2 w hM
  show lwp Ln xs 1178 i [.int z] (tw X1 A1 L1) post
  refine j_aload_n (i := 2) dL_law_1178 rfl rfl ?_
  refine lw_arg 1 dL_law_1179 dL_law_1180 dL_law_1181 dL_law_1182 dL_law_1183 rfl (by omega) h3 ?_
  refine j_callV [.int (xs (i + 1))] [.int z] dL_law_1184 jlk_L_139 rfl rfl rfl rfl (Nat.le_of_ble_eq_true rfl) q1 (fun r w hw => ?_)
  obtain ⟨rfl, hF⟩ := hw
  obtain ⟨X2, A2, L2, rfl, hi2⟩ := q2 w hF
  exact j_icmp_eq (x := z) (y := z) (st := []) (tgt := 1658) dL_law_1187 (by decide) (fun _ => kk X2 A2 L2 hi2) (fun h => absurd rfl h)
set_option maxRecDepth 100000 in
theorem law_30 (hi : inv X A L) (hb : i + 6 ≤ Ln) (h3 : Ln ≤ 3072) (kk : ∀ X' A' L', inv X' A' L' → lwp Ln xs 1658 i [] (tw X' A' L') post) : lwp Ln xs 1192 i [] (tw X A L) post := by
  obtain ⟨z, Mid, m1, m2⟩ := p_led hi ((xs (i + 1)))
  refine j_aload_n (i := 1) dL_law_1192 rfl rfl ?_
  refine lw_arg 1 dL_law_1193 dL_law_1194 dL_law_1195 dL_law_1196 dL_law_1197 rfl (by omega) h3 ?_
  refine j_callV [.int (xs (i + 1))] [] dL_law_1198 jlk_L_140 rfl rfl rfl rfl (by decide) m1 (fun r w hw => ?_)
  obtain ⟨rfl, hM⟩ := hw
  obtain ⟨⟨X1, A1, L1, rfl⟩, Fin, q1, q2⟩ := m2 w hM
  show lwp Ln xs 1201 i [.int z] (tw X1 A1 L1) post
  refine j_aload_n (i := 2) dL_law_1201 rfl rfl ?_
  refine lw_arg 1 dL_law_1202 dL_law_1203 dL_law_1204 dL_law_1205 dL_law_1206 rfl (by omega) h3 ?_
  refine j_callV [.int (xs (i + 1))] [.int z] dL_law_1207 jlk_L_143 rfl rfl rfl rfl (Nat.le_of_ble_eq_true rfl) q1 (fun r w hw => ?_)
  obtain ⟨rfl, hF⟩ := hw
  obtain ⟨X2, A2, L2, rfl, hi2⟩ := q2 w hF
  exact j_icmp_eq (x := z) (y := z) (st := []) (tgt := 1658) dL_law_1210 (by decide) (fun _ => kk X2 A2 L2 hi2) (fun h => absurd rfl h)
set_option maxRecDepth 100000 in
theorem law_31 (hi : inv X A L) (hb : i + 6 ≤ Ln) (h3 : Ln ≤ 3072) (kk : ∀ X' A' L', inv X' A' L' → lwp Ln xs 1658 i [] (tw X' A' L') post) : lwp Ln xs 1215 i [] (tw X A L) post := by
  obtain ⟨z, Mid, m1, m2⟩ := p_image hi 
  refine j_aload_n (i := 1) dL_law_1215 rfl rfl ?_
  refine j_callV [] [] dL_law_1216 jlk_L_144 rfl rfl rfl rfl (by decide) m1 (fun r w hw => ?_)
  obtain ⟨rfl, hM⟩ := hw
  obtain ⟨⟨X1, A1, L1, rfl⟩, Fin, q1, q2⟩ := m2 w hM
  show lwp Ln xs 1219 i [.int z] (tw X1 A1 L1) post
  refine j_aload_n (i := 2) dL_law_1219 rfl rfl ?_
  refine j_callV [] [.int z] dL_law_1220 jlk_L_147 rfl rfl rfl rfl (Nat.le_of_ble_eq_true rfl) q1 (fun r w hw => ?_)
  obtain ⟨rfl, hF⟩ := hw
  obtain ⟨X2, A2, L2, rfl, hi2⟩ := q2 w hF
  exact j_icmp_eq (x := z) (y := z) (st := []) (tgt := 1658) dL_law_1223 (by decide) (fun _ => kk X2 A2 L2 hi2) (fun h => absurd rfl h)
set_option maxRecDepth 100000 in
theorem law_32 (hi : inv X A L) (hb : i + 6 ≤ Ln) (h3 : Ln ≤ 3072) (kk : ∀ X' A' L', inv X' A' L' → lwp Ln xs 1658 i [] (tw X' A' L') post) : lwp Ln xs 1228 i [] (tw X A L) post := by
  obtain ⟨z, Mid, m1, m2⟩ := p_back hi 
  refine j_aload_n (i := 1) dL_law_1228 rfl rfl ?_
  refine j_callV [] [] dL_law_1229 jlk_L_148 rfl rfl rfl rfl (by decide) m1 (fun r w hw => ?_)
  obtain ⟨rfl, hM⟩ := hw
  obtain ⟨⟨X1, A1, L1, rfl⟩, Fin, q1, q2⟩ := m2 w hM
  show lwp Ln xs 1232 i [.int z] (tw X1 A1 L1) post
  refine j_aload_n (i := 2) dL_law_1232 rfl rfl ?_
  refine j_callV [] [.int z] dL_law_1233 jlk_L_151 rfl rfl rfl rfl (Nat.le_of_ble_eq_true rfl) q1 (fun r w hw => ?_)
  obtain ⟨rfl, hF⟩ := hw
  obtain ⟨X2, A2, L2, rfl, hi2⟩ := q2 w hF
  exact j_icmp_eq (x := z) (y := z) (st := []) (tgt := 1658) dL_law_1236 (by decide) (fun _ => kk X2 A2 L2 hi2) (fun h => absurd rfl h)
set_option maxRecDepth 100000 in
theorem law_33 (hi : inv X A L) (hb : i + 6 ≤ Ln) (h3 : Ln ≤ 3072) (kk : ∀ X' A' L', inv X' A' L' → lwp Ln xs 1658 i [] (tw X' A' L') post) : lwp Ln xs 1241 i [] (tw X A L) post := by
  obtain ⟨z, Mid, m1, m2⟩ := p_undo hi 
  refine j_aload_n (i := 1) dL_law_1241 rfl rfl ?_
  refine j_callV [] [] dL_law_1242 jlk_L_152 rfl rfl rfl rfl (by decide) m1 (fun r w hw => ?_)
  obtain ⟨rfl, hM⟩ := hw
  obtain ⟨⟨X1, A1, L1, rfl⟩, Fin, q1, q2⟩ := m2 w hM
  show lwp Ln xs 1245 i [.int z] (tw X1 A1 L1) post
  refine j_aload_n (i := 2) dL_law_1245 rfl rfl ?_
  refine j_callV [] [.int z] dL_law_1246 jlk_L_155 rfl rfl rfl rfl (Nat.le_of_ble_eq_true rfl) q1 (fun r w hw => ?_)
  obtain ⟨rfl, hF⟩ := hw
  obtain ⟨X2, A2, L2, rfl, hi2⟩ := q2 w hF
  exact j_icmp_eq (x := z) (y := z) (st := []) (tgt := 1658) dL_law_1249 (by decide) (fun _ => kk X2 A2 L2 hi2) (fun h => absurd rfl h)
set_option maxRecDepth 100000 in
theorem law_34 (hi : inv X A L) (hb : i + 6 ≤ Ln) (h3 : Ln ≤ 3072) (kk : ∀ X' A' L', inv X' A' L' → lwp Ln xs 1658 i [] (tw X' A' L') post) : lwp Ln xs 1254 i [] (tw X A L) post := by
  obtain ⟨z, Mid, m1, m2⟩ := p_redo hi 
  refine j_aload_n (i := 1) dL_law_1254 rfl rfl ?_
  refine j_callV [] [] dL_law_1255 jlk_L_156 rfl rfl rfl rfl (by decide) m1 (fun r w hw => ?_)
  obtain ⟨rfl, hM⟩ := hw
  obtain ⟨⟨X1, A1, L1, rfl⟩, Fin, q1, q2⟩ := m2 w hM
  show lwp Ln xs 1258 i [.int z] (tw X1 A1 L1) post
  refine j_aload_n (i := 2) dL_law_1258 rfl rfl ?_
  refine j_callV [] [.int z] dL_law_1259 jlk_L_159 rfl rfl rfl rfl (Nat.le_of_ble_eq_true rfl) q1 (fun r w hw => ?_)
  obtain ⟨rfl, hF⟩ := hw
  obtain ⟨X2, A2, L2, rfl, hi2⟩ := q2 w hF
  exact j_icmp_eq (x := z) (y := z) (st := []) (tgt := 1658) dL_law_1262 (by decide) (fun _ => kk X2 A2 L2 hi2) (fun h => absurd rfl h)
set_option maxRecDepth 100000 in
theorem law_35 (hi : inv X A L) (hb : i + 6 ≤ Ln) (h3 : Ln ≤ 3072) (kk : ∀ X' A' L', inv X' A' L' → lwp Ln xs 1658 i [] (tw X' A' L') post) : lwp Ln xs 1267 i [] (tw X A L) post := by
  obtain ⟨z, Mid, m1, m2⟩ := p_body hi ((xs (i + 1)))
  refine j_aload_n (i := 1) dL_law_1267 rfl rfl ?_
  refine lw_arg 1 dL_law_1268 dL_law_1269 dL_law_1270 dL_law_1271 dL_law_1272 rfl (by omega) h3 ?_
  refine j_callV [.int (xs (i + 1))] [] dL_law_1273 jlk_L_160 rfl rfl rfl rfl (by decide) m1 (fun r w hw => ?_)
  obtain ⟨rfl, hM⟩ := hw
  obtain ⟨⟨X1, A1, L1, rfl⟩, Fin, q1, q2⟩ := m2 w hM
  show lwp Ln xs 1276 i [.int z] (tw X1 A1 L1) post
  refine j_aload_n (i := 2) dL_law_1276 rfl rfl ?_
  refine lw_arg 1 dL_law_1277 dL_law_1278 dL_law_1279 dL_law_1280 dL_law_1281 rfl (by omega) h3 ?_
  refine j_callV [.int (xs (i + 1))] [.int z] dL_law_1282 jlk_L_163 rfl rfl rfl rfl (Nat.le_of_ble_eq_true rfl) q1 (fun r w hw => ?_)
  obtain ⟨rfl, hF⟩ := hw
  obtain ⟨X2, A2, L2, rfl, hi2⟩ := q2 w hF
  exact j_icmp_eq (x := z) (y := z) (st := []) (tgt := 1658) dL_law_1285 (by decide) (fun _ => kk X2 A2 L2 hi2) (fun h => absurd rfl h)
set_option maxRecDepth 100000 in
theorem law_36 (hi : inv X A L) (hb : i + 6 ≤ Ln) (h3 : Ln ≤ 3072) (kk : ∀ X' A' L', inv X' A' L' → lwp Ln xs 1658 i [] (tw X' A' L') post) : lwp Ln xs 1290 i [] (tw X A L) post := by
  obtain ⟨z, Mid, m1, m2⟩ := p_act hi ((xs (i + 1))) ((xs (i + 2))) ((xs (i + 3)))
  refine j_aload_n (i := 1) dL_law_1290 rfl rfl ?_
  refine lw_arg 1 dL_law_1291 dL_law_1292 dL_law_1293 dL_law_1294 dL_law_1295 rfl (by omega) h3 ?_
  refine lw_arg 2 dL_law_1296 dL_law_1297 dL_law_1298 dL_law_1299 dL_law_1300 rfl (by omega) h3 ?_
  refine lw_arg 3 dL_law_1301 dL_law_1302 dL_law_1303 dL_law_1304 dL_law_1305 rfl (by omega) h3 ?_
  refine j_callV [.int (xs (i + 1)), .int (xs (i + 2)), .int (xs (i + 3))] [] dL_law_1306 jlk_L_164 rfl rfl rfl rfl (by decide) m1 (fun r w hw => ?_)
  obtain ⟨rfl, hM⟩ := hw
  obtain ⟨⟨X1, A1, L1, rfl⟩, Fin, q1, q2⟩ := m2 w hM
  show lwp Ln xs 1309 i [.int z] (tw X1 A1 L1) post
  refine j_aload_n (i := 2) dL_law_1309 rfl rfl ?_
  refine lw_arg 1 dL_law_1310 dL_law_1311 dL_law_1312 dL_law_1313 dL_law_1314 rfl (by omega) h3 ?_
  refine lw_arg 2 dL_law_1315 dL_law_1316 dL_law_1317 dL_law_1318 dL_law_1319 rfl (by omega) h3 ?_
  refine lw_arg 3 dL_law_1320 dL_law_1321 dL_law_1322 dL_law_1323 dL_law_1324 rfl (by omega) h3 ?_
  refine j_callV [.int (xs (i + 1)), .int (xs (i + 2)), .int (xs (i + 3))] [.int z] dL_law_1325 jlk_L_167 rfl rfl rfl rfl (Nat.le_of_ble_eq_true rfl) q1 (fun r w hw => ?_)
  obtain ⟨rfl, hF⟩ := hw
  obtain ⟨X2, A2, L2, rfl, hi2⟩ := q2 w hF
  exact j_icmp_eq (x := z) (y := z) (st := []) (tgt := 1658) dL_law_1328 (by decide) (fun _ => kk X2 A2 L2 hi2) (fun h => absurd rfl h)
set_option maxRecDepth 100000 in
theorem law_37 (hi : inv X A L) (hb : i + 6 ≤ Ln) (h3 : Ln ≤ 3072) (kk : ∀ X' A' L', inv X' A' L' → lwp Ln xs 1658 i [] (tw X' A' L') post) : lwp Ln xs 1333 i [] (tw X A L) post := by
  obtain ⟨z, Mid, m1, m2⟩ := p_trace hi ((xs (i + 1)))
  refine j_aload_n (i := 1) dL_law_1333 rfl rfl ?_
  refine lw_arg 1 dL_law_1334 dL_law_1335 dL_law_1336 dL_law_1337 dL_law_1338 rfl (by omega) h3 ?_
  refine j_callV [.int (xs (i + 1))] [] dL_law_1339 jlk_L_168 rfl rfl rfl rfl (by decide) m1 (fun r w hw => ?_)
  obtain ⟨rfl, hM⟩ := hw
  obtain ⟨⟨X1, A1, L1, rfl⟩, Fin, q1, q2⟩ := m2 w hM
  show lwp Ln xs 1342 i [.int z] (tw X1 A1 L1) post
  refine j_aload_n (i := 2) dL_law_1342 rfl rfl ?_
  refine lw_arg 1 dL_law_1343 dL_law_1344 dL_law_1345 dL_law_1346 dL_law_1347 rfl (by omega) h3 ?_
  refine j_callV [.int (xs (i + 1))] [.int z] dL_law_1348 jlk_L_171 rfl rfl rfl rfl (Nat.le_of_ble_eq_true rfl) q1 (fun r w hw => ?_)
  obtain ⟨rfl, hF⟩ := hw
  obtain ⟨X2, A2, L2, rfl, hi2⟩ := q2 w hF
  exact j_icmp_eq (x := z) (y := z) (st := []) (tgt := 1658) dL_law_1351 (by decide) (fun _ => kk X2 A2 L2 hi2) (fun h => absurd rfl h)
set_option maxRecDepth 100000 in
theorem law_38 (hi : inv X A L) (hb : i + 6 ≤ Ln) (h3 : Ln ≤ 3072) (kk : ∀ X' A' L', inv X' A' L' → lwp Ln xs 1658 i [] (tw X' A' L') post) : lwp Ln xs 1356 i [] (tw X A L) post := by
  obtain ⟨z, Mid, m1, m2⟩ := p_keep hi ((xs (i + 1))) ((xs (i + 2)))
  refine j_aload_n (i := 1) dL_law_1356 rfl rfl ?_
  refine lw_arg 1 dL_law_1357 dL_law_1358 dL_law_1359 dL_law_1360 dL_law_1361 rfl (by omega) h3 ?_
  refine lw_arg 2 dL_law_1362 dL_law_1363 dL_law_1364 dL_law_1365 dL_law_1366 rfl (by omega) h3 ?_
  refine j_callV [.int (xs (i + 1)), .int (xs (i + 2))] [] dL_law_1367 jlk_L_172 rfl rfl rfl rfl (by decide) m1 (fun r w hw => ?_)
  obtain ⟨rfl, hM⟩ := hw
  obtain ⟨⟨X1, A1, L1, rfl⟩, Fin, q1, q2⟩ := m2 w hM
  show lwp Ln xs 1370 i [.int z] (tw X1 A1 L1) post
  refine j_aload_n (i := 2) dL_law_1370 rfl rfl ?_
  refine lw_arg 1 dL_law_1371 dL_law_1372 dL_law_1373 dL_law_1374 dL_law_1375 rfl (by omega) h3 ?_
  refine lw_arg 2 dL_law_1376 dL_law_1377 dL_law_1378 dL_law_1379 dL_law_1380 rfl (by omega) h3 ?_
  refine j_callV [.int (xs (i + 1)), .int (xs (i + 2))] [.int z] dL_law_1381 jlk_L_175 rfl rfl rfl rfl (Nat.le_of_ble_eq_true rfl) q1 (fun r w hw => ?_)
  obtain ⟨rfl, hF⟩ := hw
  obtain ⟨X2, A2, L2, rfl, hi2⟩ := q2 w hF
  exact j_icmp_eq (x := z) (y := z) (st := []) (tgt := 1658) dL_law_1384 (by decide) (fun _ => kk X2 A2 L2 hi2) (fun h => absurd rfl h)
set_option maxRecDepth 100000 in
theorem law_39 (hi : inv X A L) (hb : i + 6 ≤ Ln) (h3 : Ln ≤ 3072) (kk : ∀ X' A' L', inv X' A' L' → lwp Ln xs 1658 i [] (tw X' A' L') post) : lwp Ln xs 1389 i [] (tw X A L) post := by
  obtain ⟨z, Mid, m1, m2⟩ := p_row hi ((xs (i + 1))) ((xs (i + 2))) ((xs (i + 3)))
  refine j_aload_n (i := 1) dL_law_1389 rfl rfl ?_
  refine lw_arg 1 dL_law_1390 dL_law_1391 dL_law_1392 dL_law_1393 dL_law_1394 rfl (by omega) h3 ?_
  refine lw_arg 2 dL_law_1395 dL_law_1396 dL_law_1397 dL_law_1398 dL_law_1399 rfl (by omega) h3 ?_
  refine lw_arg 3 dL_law_1400 dL_law_1401 dL_law_1402 dL_law_1403 dL_law_1404 rfl (by omega) h3 ?_
  refine j_callV [.int (xs (i + 1)), .int (xs (i + 2)), .int (xs (i + 3))] [] dL_law_1405 jlk_L_176 rfl rfl rfl rfl (by decide) m1 (fun r w hw => ?_)
  obtain ⟨rfl, hM⟩ := hw
  obtain ⟨⟨X1, A1, L1, rfl⟩, Fin, q1, q2⟩ := m2 w hM
  show lwp Ln xs 1408 i [.int z] (tw X1 A1 L1) post
  refine j_aload_n (i := 2) dL_law_1408 rfl rfl ?_
  refine lw_arg 1 dL_law_1409 dL_law_1410 dL_law_1411 dL_law_1412 dL_law_1413 rfl (by omega) h3 ?_
  refine lw_arg 2 dL_law_1414 dL_law_1415 dL_law_1416 dL_law_1417 dL_law_1418 rfl (by omega) h3 ?_
  refine lw_arg 3 dL_law_1419 dL_law_1420 dL_law_1421 dL_law_1422 dL_law_1423 rfl (by omega) h3 ?_
  refine j_callV [.int (xs (i + 1)), .int (xs (i + 2)), .int (xs (i + 3))] [.int z] dL_law_1424 jlk_L_179 rfl rfl rfl rfl (Nat.le_of_ble_eq_true rfl) q1 (fun r w hw => ?_)
  obtain ⟨rfl, hF⟩ := hw
  obtain ⟨X2, A2, L2, rfl, hi2⟩ := q2 w hF
  exact j_icmp_eq (x := z) (y := z) (st := []) (tgt := 1658) dL_law_1427 (by decide) (fun _ => kk X2 A2 L2 hi2) (fun h => absurd rfl h)
set_option maxRecDepth 100000 in
theorem law_40 (hi : inv X A L) (hb : i + 6 ≤ Ln) (h3 : Ln ≤ 3072) (kk : ∀ X' A' L', inv X' A' L' → lwp Ln xs 1658 i [] (tw X' A' L') post) : lwp Ln xs 1432 i [] (tw X A L) post := by
  obtain ⟨z, Mid, m1, m2⟩ := p_put hi ((xs (i + 1))) ((xs (i + 2))) ((((xs (i + 3)).toInt64 <<< ((nI 32).toInt64 &&& 63)) ||| ((xs (i + 4)).toInt64 &&& 4294967295)))
  refine j_aload_n (i := 1) dL_law_1432 rfl rfl ?_
  refine lw_arg 1 dL_law_1433 dL_law_1434 dL_law_1435 dL_law_1436 dL_law_1437 rfl (by omega) h3 ?_
  refine lw_arg 2 dL_law_1438 dL_law_1439 dL_law_1440 dL_law_1441 dL_law_1442 rfl (by omega) h3 ?_
  refine lw_arg 3 dL_law_1443 dL_law_1444 dL_law_1445 dL_law_1446 dL_law_1447 rfl (by omega) h3 ?_
  refine j_i2l dL_law_1448 ?_
  refine j_bipush (v := nI 32) dL_law_1449 rfl ?_
  refine j_lshl dL_law_1451 ?_
  refine lw_arg 4 dL_law_1452 dL_law_1453 dL_law_1454 dL_law_1455 dL_law_1456 rfl (by omega) h3 ?_
  refine j_i2l dL_law_1457 ?_
  refine j_ldc2 dL_law_1458 jw_k_L_180 ?_
  refine j_land dL_law_1461 ?_
  refine j_lor dL_law_1462 ?_
  refine j_callV [.int (xs (i + 1)), .int (xs (i + 2)), .long (((xs (i + 3)).toInt64 <<< ((nI 32).toInt64 &&& 63)) ||| ((xs (i + 4)).toInt64 &&& 4294967295))] [] dL_law_1463 jlk_L_182 rfl rfl rfl rfl (by decide) m1 (fun r w hw => ?_)
  obtain ⟨rfl, hM⟩ := hw
  obtain ⟨⟨X1, A1, L1, rfl⟩, Fin, q1, q2⟩ := m2 w hM
  show lwp Ln xs 1466 i [.int z] (tw X1 A1 L1) post
  refine j_aload_n (i := 2) dL_law_1466 rfl rfl ?_
  refine lw_arg 1 dL_law_1467 dL_law_1468 dL_law_1469 dL_law_1470 dL_law_1471 rfl (by omega) h3 ?_
  refine lw_arg 2 dL_law_1472 dL_law_1473 dL_law_1474 dL_law_1475 dL_law_1476 rfl (by omega) h3 ?_
  refine lw_arg 3 dL_law_1477 dL_law_1478 dL_law_1479 dL_law_1480 dL_law_1481 rfl (by omega) h3 ?_
  refine j_i2l dL_law_1482 ?_
  refine j_bipush (v := nI 32) dL_law_1483 rfl ?_
  refine j_lshl dL_law_1485 ?_
  refine lw_arg 4 dL_law_1486 dL_law_1487 dL_law_1488 dL_law_1489 dL_law_1490 rfl (by omega) h3 ?_
  refine j_i2l dL_law_1491 ?_
  refine j_ldc2 dL_law_1492 jw_k_L_180 ?_
  refine j_land dL_law_1495 ?_
  refine j_lor dL_law_1496 ?_
  refine j_callV [.int (xs (i + 1)), .int (xs (i + 2)), .long (((xs (i + 3)).toInt64 <<< ((nI 32).toInt64 &&& 63)) ||| ((xs (i + 4)).toInt64 &&& 4294967295))] [.int z] dL_law_1497 jlk_L_186 rfl rfl rfl rfl (Nat.le_of_ble_eq_true rfl) q1 (fun r w hw => ?_)
  obtain ⟨rfl, hF⟩ := hw
  obtain ⟨X2, A2, L2, rfl, hi2⟩ := q2 w hF
  exact j_icmp_eq (x := z) (y := z) (st := []) (tgt := 1658) dL_law_1500 (by decide) (fun _ => kk X2 A2 L2 hi2) (fun h => absurd rfl h)
set_option maxRecDepth 100000 in
theorem law_41 (hi : inv X A L) (hb : i + 6 ≤ Ln) (h3 : Ln ≤ 3072) (kk : ∀ X' A' L', inv X' A' L' → lwp Ln xs 1658 i [] (tw X' A' L') post) : lwp Ln xs 1505 i [] (tw X A L) post := by
  obtain ⟨z, Mid, m1, m2⟩ := p_element hi ((xs (i + 1))) ((xs (i + 2)))
  refine j_aload_n (i := 1) dL_law_1505 rfl rfl ?_
  refine lw_arg 1 dL_law_1506 dL_law_1507 dL_law_1508 dL_law_1509 dL_law_1510 rfl (by omega) h3 ?_
  refine lw_arg 2 dL_law_1511 dL_law_1512 dL_law_1513 dL_law_1514 dL_law_1515 rfl (by omega) h3 ?_
  refine j_callV [.int (xs (i + 1)), .int (xs (i + 2))] [] dL_law_1516 jlk_L_187 rfl rfl rfl rfl (by decide) m1 (fun r w hw => ?_)
  obtain ⟨rfl, hM⟩ := hw
  obtain ⟨⟨X1, A1, L1, rfl⟩, Fin, q1, q2⟩ := m2 w hM
  show lwp Ln xs 1519 i [.long z] (tw X1 A1 L1) post
  refine j_aload_n (i := 2) dL_law_1519 rfl rfl ?_
  refine lw_arg 1 dL_law_1520 dL_law_1521 dL_law_1522 dL_law_1523 dL_law_1524 rfl (by omega) h3 ?_
  refine lw_arg 2 dL_law_1525 dL_law_1526 dL_law_1527 dL_law_1528 dL_law_1529 rfl (by omega) h3 ?_
  refine j_callV [.int (xs (i + 1)), .int (xs (i + 2))] [.long z] dL_law_1530 jlk_L_190 rfl rfl rfl rfl (Nat.le_of_ble_eq_true rfl) q1 (fun r w hw => ?_)
  obtain ⟨rfl, hF⟩ := hw
  obtain ⟨X2, A2, L2, rfl, hi2⟩ := q2 w hF
  refine j_lcmp (x := z) (y := z) (st := []) dL_law_1533 ?_
  exact j_if_eq (tgt := 1658) dL_law_1534 (by decide) (fun _ => kk X2 A2 L2 hi2) (fun h => absurd (lcmp_self z) h)
set_option maxRecDepth 100000 in
theorem law_42 (hi : inv X A L) (hb : i + 6 ≤ Ln) (h3 : Ln ≤ 3072) (kk : ∀ X' A' L', inv X' A' L' → lwp Ln xs 1658 i [] (tw X' A' L') post) : lwp Ln xs 1539 i [] (tw X A L) post := by
  obtain ⟨z, Mid, m1, m2⟩ := p_shift hi ((xs (i + 1))) ((xs (i + 2))) ((xs (i + 3))) ((xs (i + 4))) ((xs (i + 5)))
  refine j_aload_n (i := 1) dL_law_1539 rfl rfl ?_
  refine lw_arg 1 dL_law_1540 dL_law_1541 dL_law_1542 dL_law_1543 dL_law_1544 rfl (by omega) h3 ?_
  refine lw_arg 2 dL_law_1545 dL_law_1546 dL_law_1547 dL_law_1548 dL_law_1549 rfl (by omega) h3 ?_
  refine lw_arg 3 dL_law_1550 dL_law_1551 dL_law_1552 dL_law_1553 dL_law_1554 rfl (by omega) h3 ?_
  refine lw_arg 4 dL_law_1555 dL_law_1556 dL_law_1557 dL_law_1558 dL_law_1559 rfl (by omega) h3 ?_
  refine lw_arg 5 dL_law_1560 dL_law_1561 dL_law_1562 dL_law_1563 dL_law_1564 rfl (by omega) h3 ?_
  refine j_callV [.int (xs (i + 1)), .int (xs (i + 2)), .int (xs (i + 3)), .int (xs (i + 4)), .int (xs (i + 5))] [] dL_law_1565 jlk_L_191 rfl rfl rfl rfl (by decide) m1 (fun r w hw => ?_)
  obtain ⟨rfl, hM⟩ := hw
  obtain ⟨⟨X1, A1, L1, rfl⟩, Fin, q1, q2⟩ := m2 w hM
  show lwp Ln xs 1568 i [.int z] (tw X1 A1 L1) post
  refine j_aload_n (i := 2) dL_law_1568 rfl rfl ?_
  refine lw_arg 1 dL_law_1569 dL_law_1570 dL_law_1571 dL_law_1572 dL_law_1573 rfl (by omega) h3 ?_
  refine lw_arg 2 dL_law_1574 dL_law_1575 dL_law_1576 dL_law_1577 dL_law_1578 rfl (by omega) h3 ?_
  refine lw_arg 3 dL_law_1579 dL_law_1580 dL_law_1581 dL_law_1582 dL_law_1583 rfl (by omega) h3 ?_
  refine lw_arg 4 dL_law_1584 dL_law_1585 dL_law_1586 dL_law_1587 dL_law_1588 rfl (by omega) h3 ?_
  refine lw_arg 5 dL_law_1589 dL_law_1590 dL_law_1591 dL_law_1592 dL_law_1593 rfl (by omega) h3 ?_
  refine j_callV [.int (xs (i + 1)), .int (xs (i + 2)), .int (xs (i + 3)), .int (xs (i + 4)), .int (xs (i + 5))] [.int z] dL_law_1594 jlk_L_195 rfl rfl rfl rfl (Nat.le_of_ble_eq_true rfl) q1 (fun r w hw => ?_)
  obtain ⟨rfl, hF⟩ := hw
  obtain ⟨X2, A2, L2, rfl, hi2⟩ := q2 w hF
  exact j_icmp_eq (x := z) (y := z) (st := []) (tgt := 1658) dL_law_1597 (by decide) (fun _ => kk X2 A2 L2 hi2) (fun h => absurd rfl h)
set_option maxRecDepth 100000 in
theorem law_43 (hi : inv X A L) (hb : i + 6 ≤ Ln) (h3 : Ln ≤ 3072) (kk : ∀ X' A' L', inv X' A' L' → lwp Ln xs 1658 i [] (tw X' A' L') post) : lwp Ln xs 1602 i [] (tw X A L) post := by
  obtain ⟨z, Mid, m1, m2⟩ := p_taken hi ((xs (i + 1))) ((xs (i + 2)))
  refine j_aload_n (i := 1) dL_law_1602 rfl rfl ?_
  refine lw_arg 1 dL_law_1603 dL_law_1604 dL_law_1605 dL_law_1606 dL_law_1607 rfl (by omega) h3 ?_
  refine lw_arg 2 dL_law_1608 dL_law_1609 dL_law_1610 dL_law_1611 dL_law_1612 rfl (by omega) h3 ?_
  refine j_callV [.int (xs (i + 1)), .int (xs (i + 2))] [] dL_law_1613 jlk_L_196 rfl rfl rfl rfl (by decide) m1 (fun r w hw => ?_)
  obtain ⟨rfl, hM⟩ := hw
  obtain ⟨⟨X1, A1, L1, rfl⟩, Fin, q1, q2⟩ := m2 w hM
  show lwp Ln xs 1616 i [.int z] (tw X1 A1 L1) post
  refine j_aload_n (i := 2) dL_law_1616 rfl rfl ?_
  refine lw_arg 1 dL_law_1617 dL_law_1618 dL_law_1619 dL_law_1620 dL_law_1621 rfl (by omega) h3 ?_
  refine lw_arg 2 dL_law_1622 dL_law_1623 dL_law_1624 dL_law_1625 dL_law_1626 rfl (by omega) h3 ?_
  refine j_callV [.int (xs (i + 1)), .int (xs (i + 2))] [.int z] dL_law_1627 jlk_L_199 rfl rfl rfl rfl (Nat.le_of_ble_eq_true rfl) q1 (fun r w hw => ?_)
  obtain ⟨rfl, hF⟩ := hw
  obtain ⟨X2, A2, L2, rfl, hi2⟩ := q2 w hF
  exact j_icmp_eq (x := z) (y := z) (st := []) (tgt := 1658) dL_law_1630 (by decide) (fun _ => kk X2 A2 L2 hi2) (fun h => absurd rfl h)
set_option maxRecDepth 100000 in
theorem law_44 (hi : inv X A L) (hb : i + 6 ≤ Ln) (h3 : Ln ≤ 3072) (kk : ∀ X' A' L', inv X' A' L' → lwp Ln xs 1658 i [] (tw X' A' L') post) : lwp Ln xs 1635 i [] (tw X A L) post := by
  obtain ⟨z, Mid, m1, m2⟩ := p_count hi ((xs (i + 1)))
  refine j_aload_n (i := 1) dL_law_1635 rfl rfl ?_
  refine lw_arg 1 dL_law_1636 dL_law_1637 dL_law_1638 dL_law_1639 dL_law_1640 rfl (by omega) h3 ?_
  refine j_callV [.int (xs (i + 1))] [] dL_law_1641 jlk_L_200 rfl rfl rfl rfl (by decide) m1 (fun r w hw => ?_)
  obtain ⟨rfl, hM⟩ := hw
  obtain ⟨⟨X1, A1, L1, rfl⟩, Fin, q1, q2⟩ := m2 w hM
  show lwp Ln xs 1644 i [.int z] (tw X1 A1 L1) post
  refine j_aload_n (i := 2) dL_law_1644 rfl rfl ?_
  refine lw_arg 1 dL_law_1645 dL_law_1646 dL_law_1647 dL_law_1648 dL_law_1649 rfl (by omega) h3 ?_
  refine j_callV [.int (xs (i + 1))] [.int z] dL_law_1650 jlk_L_203 rfl rfl rfl rfl (Nat.le_of_ble_eq_true rfl) q1 (fun r w hw => ?_)
  obtain ⟨rfl, hF⟩ := hw
  obtain ⟨X2, A2, L2, rfl, hi2⟩ := q2 w hF
  exact j_icmp_eq (x := z) (y := z) (st := []) (tgt := 1658) dL_law_1653 (by decide) (fun _ => kk X2 A2 L2 hi2) (fun h => absurd rfl h)
theorem law_sw (hi : inv X A L) (hb : i + 6 ≤ Ln) (h3 : Ln ≤ 3072) (kk : ∀ X' A' L', inv X' A' L' → lwp Ln xs 1658 i [] (tw X' A' L') post) {t : Nat} (ht : t < 64) : lwp Ln xs 33 i [.int (nI t)] (tw X A L) post := by
  by_cases h : t < 45
  · rcases (show t = 0 ∨ t = 1 ∨ t = 2 ∨ t = 3 ∨ t = 4 ∨ t = 5 ∨ t = 6 ∨ t = 7 ∨ t = 8 ∨ t = 9 ∨ t = 10 ∨ t = 11 ∨ t = 12 ∨ t = 13 ∨ t = 14 ∨ t = 15 ∨ t = 16 ∨ t = 17 ∨ t = 18 ∨ t = 19 ∨ t = 20 ∨ t = 21 ∨ t = 22 ∨ t = 23 ∨ t = 24 ∨ t = 25 ∨ t = 26 ∨ t = 27 ∨ t = 28 ∨ t = 29 ∨ t = 30 ∨ t = 31 ∨ t = 32 ∨ t = 33 ∨ t = 34 ∨ t = 35 ∨ t = 36 ∨ t = 37 ∨ t = 38 ∨ t = 39 ∨ t = 40 ∨ t = 41 ∨ t = 42 ∨ t = 43 ∨ t = 44 by omega) with rfl | rfl | rfl | rfl | rfl | rfl | rfl | rfl | rfl | rfl | rfl | rfl | rfl | rfl | rfl | rfl | rfl | rfl | rfl | rfl | rfl | rfl | rfl | rfl | rfl | rfl | rfl | rfl | rfl | rfl | rfl | rfl | rfl | rfl | rfl | rfl | rfl | rfl | rfl | rfl | rfl | rfl | rfl | rfl | rfl
    · exact j_tableIn (tgt := 228) dL_law_33 (by decide) (by decide) rfl (by decide) (law_0 hi hb h3 kk)
    · exact j_tableIn (tgt := 251) dL_law_33 (by decide) (by decide) rfl (by decide) (law_1 hi hb h3 kk)
    · exact j_tableIn (tgt := 294) dL_law_33 (by decide) (by decide) rfl (by decide) (law_2 hi hb h3 kk)
    · exact j_tableIn (tgt := 337) dL_law_33 (by decide) (by decide) rfl (by decide) (law_3 hi hb h3 kk)
    · exact j_tableIn (tgt := 370) dL_law_33 (by decide) (by decide) rfl (by decide) (law_4 hi hb h3 kk)
    · exact j_tableIn (tgt := 403) dL_law_33 (by decide) (by decide) rfl (by decide) (law_5 hi hb h3 kk)
    · exact j_tableIn (tgt := 436) dL_law_33 (by decide) (by decide) rfl (by decide) (law_6 hi hb h3 kk)
    · exact j_tableIn (tgt := 459) dL_law_33 (by decide) (by decide) rfl (by decide) (law_7 hi hb h3 kk)
    · exact j_tableIn (tgt := 472) dL_law_33 (by decide) (by decide) rfl (by decide) (law_8 hi hb h3 kk)
    · exact j_tableIn (tgt := 495) dL_law_33 (by decide) (by decide) rfl (by decide) (law_9 hi hb h3 kk)
    · exact j_tableIn (tgt := 528) dL_law_33 (by decide) (by decide) rfl (by decide) (law_10 hi hb h3 kk)
    · exact j_tableIn (tgt := 561) dL_law_33 (by decide) (by decide) rfl (by decide) (law_11 hi hb h3 kk)
    · exact j_tableIn (tgt := 594) dL_law_33 (by decide) (by decide) rfl (by decide) (law_12 hi hb h3 kk)
    · exact j_tableIn (tgt := 627) dL_law_33 (by decide) (by decide) rfl (by decide) (law_13 hi hb h3 kk)
    · exact j_tableIn (tgt := 670) dL_law_33 (by decide) (by decide) rfl (by decide) (law_14 hi hb h3 kk)
    · exact j_tableIn (tgt := 693) dL_law_33 (by decide) (by decide) rfl (by decide) (law_15 hi hb h3 kk)
    · exact j_tableIn (tgt := 726) dL_law_33 (by decide) (by decide) rfl (by decide) (law_16 hi hb h3 kk)
    · exact j_tableIn (tgt := 769) dL_law_33 (by decide) (by decide) rfl (by decide) (law_17 hi hb h3 kk)
    · exact j_tableIn (tgt := 813) dL_law_33 (by decide) (by decide) rfl (by decide) (law_18 hi hb h3 kk)
    · exact j_tableIn (tgt := 857) dL_law_33 (by decide) (by decide) rfl (by decide) (law_19 hi hb h3 kk)
    · exact j_tableIn (tgt := 891) dL_law_33 (by decide) (by decide) rfl (by decide) (law_20 hi hb h3 kk)
    · exact j_tableIn (tgt := 944) dL_law_33 (by decide) (by decide) rfl (by decide) (law_21 hi hb h3 kk)
    · exact j_tableIn (tgt := 977) dL_law_33 (by decide) (by decide) rfl (by decide) (law_22 hi hb h3 kk)
    · exact j_tableIn (tgt := 1021) dL_law_33 (by decide) (by decide) rfl (by decide) (law_23 hi hb h3 kk)
    · exact j_tableIn (tgt := 1044) dL_law_33 (by decide) (by decide) rfl (by decide) (law_24 hi hb h3 kk)
    · exact j_tableIn (tgt := 1067) dL_law_33 (by decide) (by decide) rfl (by decide) (law_25 hi hb h3 kk)
    · exact j_tableIn (tgt := 1110) dL_law_33 (by decide) (by decide) rfl (by decide) (law_26 hi hb h3 kk)
    · exact j_tableIn (tgt := 1133) dL_law_33 (by decide) (by decide) rfl (by decide) (law_27 hi hb h3 kk)
    · exact j_tableIn (tgt := 1156) dL_law_33 (by decide) (by decide) rfl (by decide) (law_28 hi hb h3 kk)
    · exact j_tableIn (tgt := 1169) dL_law_33 (by decide) (by decide) rfl (by decide) (law_29 hi hb h3 kk)
    · exact j_tableIn (tgt := 1192) dL_law_33 (by decide) (by decide) rfl (by decide) (law_30 hi hb h3 kk)
    · exact j_tableIn (tgt := 1215) dL_law_33 (by decide) (by decide) rfl (by decide) (law_31 hi hb h3 kk)
    · exact j_tableIn (tgt := 1228) dL_law_33 (by decide) (by decide) rfl (by decide) (law_32 hi hb h3 kk)
    · exact j_tableIn (tgt := 1241) dL_law_33 (by decide) (by decide) rfl (by decide) (law_33 hi hb h3 kk)
    · exact j_tableIn (tgt := 1254) dL_law_33 (by decide) (by decide) rfl (by decide) (law_34 hi hb h3 kk)
    · exact j_tableIn (tgt := 1267) dL_law_33 (by decide) (by decide) rfl (by decide) (law_35 hi hb h3 kk)
    · exact j_tableIn (tgt := 1290) dL_law_33 (by decide) (by decide) rfl (by decide) (law_36 hi hb h3 kk)
    · exact j_tableIn (tgt := 1333) dL_law_33 (by decide) (by decide) rfl (by decide) (law_37 hi hb h3 kk)
    · exact j_tableIn (tgt := 1356) dL_law_33 (by decide) (by decide) rfl (by decide) (law_38 hi hb h3 kk)
    · exact j_tableIn (tgt := 1389) dL_law_33 (by decide) (by decide) rfl (by decide) (law_39 hi hb h3 kk)
    · exact j_tableIn (tgt := 1432) dL_law_33 (by decide) (by decide) rfl (by decide) (law_40 hi hb h3 kk)
    · exact j_tableIn (tgt := 1505) dL_law_33 (by decide) (by decide) rfl (by decide) (law_41 hi hb h3 kk)
    · exact j_tableIn (tgt := 1539) dL_law_33 (by decide) (by decide) rfl (by decide) (law_42 hi hb h3 kk)
    · exact j_tableIn (tgt := 1602) dL_law_33 (by decide) (by decide) rfl (by decide) (law_43 hi hb h3 kk)
    · exact j_tableIn (tgt := 1635) dL_law_33 (by decide) (by decide) rfl (by decide) (law_44 hi hb h3 kk)
  · exact j_tableOut (tgt := 1658) dL_law_33 (Or.inr (by rw [nI_toInt (by omega)]; omega)) (by decide) (kk X A L hi)
theorem len6 {n : Nat} (h : ¬ 6 ≤ n) (hi : i < 2 ^ 31) : nI n - nI 6 < nI i := by
  have z : (List.range 6).all (fun n => decide (nI n - nI 6 < 0)) = true := by decide +kernel
  exact Int32.lt_of_lt_of_le (of_decide_eq_true (List.all_eq_true.mp z n (List.mem_range.mpr (by omega)))) (Int32.not_lt.mp (nI_pos hi))
theorem law_loop (h3 : Ln ≤ 3072) (hp : ∀ w, post (some (.int 1)) w) : ∀ (m i : Nat) (X A : Nat → Nat → Int32) (L : Nat → Nat → Int64), Ln + 6 ≤ i + m → i ≤ Ln + 6 → inv X A L → lwp Ln xs 18 i [] (tw X A L) post := by
  intro m
  induction m with
  | zero =>
    intro i X A L h1 h2 hi
    refine j_iload_n (i := 3) dL_law_18 rfl rfl ?_
    refine j_aload_n (i := 0) dL_law_19 rfl rfl ?_
    refine j_alen_rom (N := Ln) (f := xs) dL_law_20 rfl ?_
    refine j_bipush (v := nI 6) dL_law_21 rfl ?_
    refine j_isub dL_law_23 ?_
    refine j_icmp_gt (tgt := 1664) dL_law_24 (by decide) (fun _ => ?_) (fun h => absurd ?_ h)
    · refine j_iconst (v := 1) dL_law_1664 rfl ?_
      exact j_zreturn dL_law_1665 rfl (Or.inr rfl) (hp _)
    · show nI Ln - nI 6 < nI i
      by_cases h6 : 6 ≤ Ln
      · rw [pk_sub h6, nI_ltI (by omega) (by omega)]; omega
      · exact len6 h6 (by omega)
  | succ m ih =>
    intro i X A L h1 h2 hi
    refine j_iload_n (i := 3) dL_law_18 rfl rfl ?_
    refine j_aload_n (i := 0) dL_law_19 rfl rfl ?_
    refine j_alen_rom (N := Ln) (f := xs) dL_law_20 rfl ?_
    refine j_bipush (v := nI 6) dL_law_21 rfl ?_
    refine j_isub dL_law_23 ?_
    refine j_icmp_gt (tgt := 1664) dL_law_24 (by decide) (fun _ => ?_) (fun h => ?_)
    · refine j_iconst (v := 1) dL_law_1664 rfl ?_
      exact j_zreturn dL_law_1665 rfl (Or.inr rfl) (hp _)
    · have hb : i + 6 ≤ Ln := by
        by_cases h6 : 6 ≤ Ln
        · have h : ¬ nI Ln - nI 6 < nI i := h
          rw [pk_sub h6, nI_ltI (by omega) (by omega)] at h
          omega
        · exact absurd (len6 h6 (by omega)) h
      refine j_aload_n (i := 0) dL_law_27 rfl rfl ?_
      refine j_iload_n (i := 3) dL_law_28 rfl rfl ?_
      refine jr_iaload (N := Ln) (f := xs) dL_law_29 rfl (by omega) (by omega) ?_
      refine j_bipush (v := nI 63) dL_law_30 rfl ?_
      refine j_iand dL_law_32 ?_
      obtain ⟨t, ht, e⟩ := pk_andE (xs i) (m := nI 63) 6 (by decide)
      rw [e]
      refine law_sw hi hb h3 (fun X' A' L' hi' => ?_) ht
      refine j_iinc (v := nI (i + 6)) (lv' := [some (.ref 0), some (.ref 4), some (.ref 76), some (.int (nI (i + 6)))]) dL_law_1658 rfl (nI_add i 6) (by decide) rfl ?_
      refine j_goto (tgt := 18) dL_law_1661 (by decide) ?_
      exact ih (i + 6) X' A' L' (by omega) (by omega) hi'
end LAW
