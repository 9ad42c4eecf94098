theorem dL_law_367 : decode cL_law 367 = .ok (.aload_n 1, 1) := by decide +kernel
theorem dL_law_368 : decode cL_law 368 = .ok (.aload_n 0, 1) := by decide +kernel
theorem dL_law_369 : decode cL_law 369 = .ok (.iload_n 3, 1) := by decide +kernel
theorem dL_law_370 : decode cL_law 370 = .ok (.iconst 1, 1) := by decide +kernel
theorem dL_law_371 : decode cL_law 371 = .ok (.iadd, 1) := by decide +kernel
theorem dL_law_372 : decode cL_law 372 = .ok (.iaload, 1) := by decide +kernel
theorem dL_law_373 : decode cL_law 373 = .ok (.aload_n 0, 1) := by decide +kernel
theorem dL_law_374 : decode cL_law 374 = .ok (.iload_n 3, 1) := by decide +kernel
theorem dL_law_375 : decode cL_law 375 = .ok (.iconst 2, 1) := by decide +kernel
theorem dL_law_376 : decode cL_law 376 = .ok (.iadd, 1) := by decide +kernel
theorem dL_law_377 : decode cL_law 377 = .ok (.iaload, 1) := by decide +kernel
theorem dL_law_378 : decode cL_law 378 = .ok (.invokevirtual 45, 3) := by decide +kernel
theorem dL_law_381 : decode cL_law 381 = .ok (.pop, 1) := by decide +kernel
theorem dL_law_382 : decode cL_law 382 = .ok (.aload_n 2, 1) := by decide +kernel
theorem dL_law_383 : decode cL_law 383 = .ok (.aload_n 0, 1) := by decide +kernel
theorem dL_law_384 : decode cL_law 384 = .ok (.iload_n 3, 1) := by decide +kernel
theorem dL_law_385 : decode cL_law 385 = .ok (.iconst 1, 1) := by decide +kernel
theorem dL_law_386 : decode cL_law 386 = .ok (.iadd, 1) := by decide +kernel
theorem dL_law_387 : decode cL_law 387 = .ok (.iaload, 1) := by decide +kernel
theorem dL_law_388 : decode cL_law 388 = .ok (.aload_n 0, 1) := by decide +kernel
theorem dL_law_389 : decode cL_law 389 = .ok (.iload_n 3, 1) := by decide +kernel
theorem dL_law_390 : decode cL_law 390 = .ok (.iconst 2, 1) := by decide +kernel
theorem dL_law_391 : decode cL_law 391 = .ok (.iadd, 1) := by decide +kernel
theorem dL_law_392 : decode cL_law 392 = .ok (.iaload, 1) := by decide +kernel
theorem dL_law_393 : decode cL_law 393 = .ok (.invokevirtual 48, 3) := by decide +kernel
theorem dL_law_396 : decode cL_law 396 = .ok (.pop, 1) := by decide +kernel
theorem dL_law_397 : decode cL_law 397 = .ok (.goto 880, 3) := by decide +kernel
theorem dL_law_400 : decode cL_law 400 = .ok (.aload_n 1, 1) := by decide +kernel
theorem dL_law_401 : decode cL_law 401 = .ok (.invokevirtual 49, 3) := by decide +kernel
theorem dL_law_404 : decode cL_law 404 = .ok (.pop, 1) := by decide +kernel
theorem dL_law_405 : decode cL_law 405 = .ok (.aload_n 2, 1) := by decide +kernel
theorem dL_law_406 : decode cL_law 406 = .ok (.invokevirtual 52, 3) := by decide +kernel
theorem dL_law_409 : decode cL_law 409 = .ok (.pop, 1) := by decide +kernel
theorem dL_law_410 : decode cL_law 410 = .ok (.goto 867, 3) := by decide +kernel
theorem dL_law_413 : decode cL_law 413 = .ok (.aload_n 1, 1) := by decide +kernel
theorem dL_law_414 : decode cL_law 414 = .ok (.aload_n 0, 1) := by decide +kernel
theorem dL_law_415 : decode cL_law 415 = .ok (.iload_n 3, 1) := by decide +kernel
theorem dL_law_416 : decode cL_law 416 = .ok (.iconst 1, 1) := by decide +kernel
theorem dL_law_417 : decode cL_law 417 = .ok (.iadd, 1) := by decide +kernel
theorem dL_law_418 : decode cL_law 418 = .ok (.iaload, 1) := by decide +kernel
theorem dL_law_419 : decode cL_law 419 = .ok (.aload_n 0, 1) := by decide +kernel
theorem dL_law_420 : decode cL_law 420 = .ok (.iload_n 3, 1) := by decide +kernel
theorem dL_law_421 : decode cL_law 421 = .ok (.iconst 2, 1) := by decide +kernel
theorem dL_law_422 : decode cL_law 422 = .ok (.iadd, 1) := by decide +kernel
theorem dL_law_423 : decode cL_law 423 = .ok (.iaload, 1) := by decide +kernel
theorem dL_law_424 : decode cL_law 424 = .ok (.invokevirtual 53, 3) := by decide +kernel
theorem dL_law_427 : decode cL_law 427 = .ok (.pop, 1) := by decide +kernel
theorem dL_law_428 : decode cL_law 428 = .ok (.aload_n 2, 1) := by decide +kernel
theorem dL_law_429 : decode cL_law 429 = .ok (.aload_n 0, 1) := by decide +kernel
theorem dL_law_430 : decode cL_law 430 = .ok (.iload_n 3, 1) := by decide +kernel
theorem dL_law_431 : decode cL_law 431 = .ok (.iconst 1, 1) := by decide +kernel
theorem dL_law_432 : decode cL_law 432 = .ok (.iadd, 1) := by decide +kernel
theorem dL_law_433 : decode cL_law 433 = .ok (.iaload, 1) := by decide +kernel
theorem dL_law_434 : decode cL_law 434 = .ok (.aload_n 0, 1) := by decide +kernel
theorem dL_law_435 : decode cL_law 435 = .ok (.iload_n 3, 1) := by decide +kernel
theorem dL_law_436 : decode cL_law 436 = .ok (.iconst 2, 1) := by decide +kernel
theorem dL_law_437 : decode cL_law 437 = .ok (.iadd, 1) := by decide +kernel
theorem dL_law_438 : decode cL_law 438 = .ok (.iaload, 1) := by decide +kernel
theorem dL_law_439 : decode cL_law 439 = .ok (.invokevirtual 56, 3) := by decide +kernel
theorem dL_law_442 : decode cL_law 442 = .ok (.pop, 1) := by decide +kernel
theorem dL_law_443 : decode cL_law 443 = .ok (.goto 834, 3) := by decide +kernel
theorem dL_law_446 : decode cL_law 446 = .ok (.aload_n 1, 1) := by decide +kernel
theorem dL_law_447 : decode cL_law 447 = .ok (.aload_n 0, 1) := by decide +kernel
theorem dL_law_448 : decode cL_law 448 = .ok (.iload_n 3, 1) := by decide +kernel
theorem dL_law_449 : decode cL_law 449 = .ok (.iconst 1, 1) := by decide +kernel
theorem dL_law_450 : decode cL_law 450 = .ok (.iadd, 1) := by decide +kernel
theorem dL_law_451 : decode cL_law 451 = .ok (.iaload, 1) := by decide +kernel
theorem dL_law_452 : decode cL_law 452 = .ok (.aload_n 0, 1) := by decide +kernel
theorem dL_law_453 : decode cL_law 453 = .ok (.iload_n 3, 1) := by decide +kernel
theorem dL_law_454 : decode cL_law 454 = .ok (.iconst 2, 1) := by decide +kernel
theorem dL_law_455 : decode cL_law 455 = .ok (.iadd, 1) := by decide +kernel
theorem dL_law_456 : decode cL_law 456 = .ok (.iaload, 1) := by decide +kernel
theorem dL_law_457 : decode cL_law 457 = .ok (.invokevirtual 57, 3) := by decide +kernel
theorem dL_law_460 : decode cL_law 460 = .ok (.pop, 1) := by decide +kernel
theorem dL_law_461 : decode cL_law 461 = .ok (.aload_n 2, 1) := by decide +kernel
theorem dL_law_462 : decode cL_law 462 = .ok (.aload_n 0, 1) := by decide +kernel
theorem dL_law_463 : decode cL_law 463 = .ok (.iload_n 3, 1) := by decide +kernel
theorem dL_law_464 : decode cL_law 464 = .ok (.iconst 1, 1) := by decide +kernel
theorem dL_law_465 : decode cL_law 465 = .ok (.iadd, 1) := by decide +kernel
theorem dL_law_466 : decode cL_law 466 = .ok (.iaload, 1) := by decide +kernel
theorem dL_law_467 : decode cL_law 467 = .ok (.aload_n 0, 1) := by decide +kernel
theorem dL_law_468 : decode cL_law 468 = .ok (.iload_n 3, 1) := by decide +kernel
theorem dL_law_469 : decode cL_law 469 = .ok (.iconst 2, 1) := by decide +kernel
theorem dL_law_470 : decode cL_law 470 = .ok (.iadd, 1) := by decide +kernel
theorem dL_law_471 : decode cL_law 471 = .ok (.iaload, 1) := by decide +kernel
theorem dL_law_472 : decode cL_law 472 = .ok (.invokevirtual 60, 3) := by decide +kernel
theorem dL_law_475 : decode cL_law 475 = .ok (.pop, 1) := by decide +kernel
theorem dL_law_476 : decode cL_law 476 = .ok (.goto 801, 3) := by decide +kernel
theorem dL_law_479 : decode cL_law 479 = .ok (.aload_n 1, 1) := by decide +kernel
theorem dL_law_480 : decode cL_law 480 = .ok (.aload_n 0, 1) := by decide +kernel
theorem dL_law_481 : decode cL_law 481 = .ok (.iload_n 3, 1) := by decide +kernel
theorem dL_law_482 : decode cL_law 482 = .ok (.iconst 1, 1) := by decide +kernel
theorem dL_law_483 : decode cL_law 483 = .ok (.iadd, 1) := by decide +kernel
theorem dL_law_484 : decode cL_law 484 = .ok (.iaload, 1) := by decide +kernel
theorem dL_law_485 : decode cL_law 485 = .ok (.invokevirtual 61, 3) := by decide +kernel
theorem dL_law_488 : decode cL_law 488 = .ok (.pop, 1) := by decide +kernel
theorem dL_law_489 : decode cL_law 489 = .ok (.aload_n 2, 1) := by decide +kernel
theorem dL_law_490 : decode cL_law 490 = .ok (.aload_n 0, 1) := by decide +kernel
theorem dL_law_491 : decode cL_law 491 = .ok (.iload_n 3, 1) := by decide +kernel
theorem dL_law_492 : decode cL_law 492 = .ok (.iconst 1, 1) := by decide +kernel
theorem dL_law_493 : decode cL_law 493 = .ok (.iadd, 1) := by decide +kernel
theorem dL_law_494 : decode cL_law 494 = .ok (.iaload, 1) := by decide +kernel
theorem dL_law_495 : decode cL_law 495 = .ok (.invokevirtual 64, 3) := by decide +kernel
theorem dL_law_498 : decode cL_law 498 = .ok (.pop, 1) := by decide +kernel
theorem dL_law_499 : decode cL_law 499 = .ok (.goto 778, 3) := by decide +kernel
section LC
variable {p : Program} {l : Launch} {e : Env} {s : State} {m : MethodId} {below : List Frame} {meth : Method} {c : Code} {b L : Nat} {xs : Nat → Int32} {X : EX} {K : SK} {h0 m0 zi : Nat} {H : Heap} {locs : List Loc} {ls : Array Slot} {Q : State → Prop}
theorem hdV_X10_start : yX10_start.cls = RX10 ∧ yX10_start.cls ≠ "java/lang/invoke/MethodHandle" ∧ yX10_start.cls ≠ "java/lang/invoke/VarHandle" ∧ (parseMethodDescriptor yX10_start.desc).map (fun d => d.parameters.length) = some 2 := by decide +kernel
theorem hdV_X11_start : yX11_start.cls = RX11 ∧ yX11_start.cls ≠ "java/lang/invoke/MethodHandle" ∧ yX11_start.cls ≠ "java/lang/invoke/VarHandle" ∧ (parseMethodDescriptor yX11_start.desc).map (fun d => d.parameters.length) = some 2 := by decide +kernel
set_option maxRecDepth 100000 in
set_option maxHeartbeats 8000000 in
theorem lc_7 (S : CallFix p m c cL_law 4 s #[Value.ref b] wsL_law RL) (hX : va_X b L xs s s.heap) (hbl : b < s.heap.size) (hL : L ≤ 3072) (hzi : zi + 6 ≤ L) (hZ : sE K (fun q : Nat => s.heap.size ≤ q) s s.heap) (hW : LW X h0 m0 s H locs) (hl : lv_has ls 4 [(3, .int (nI zi)), (2, .ref m0), (1, .ref h0), (0, .ref b)]) (kk : ∀ (H : Heap) (locs : List Loc) (ls : Array Slot), LW X h0 m0 s H locs → lv_has ls 4 [(3, .int (nI zi)), (2, .ref m0), (1, .ref h0), (0, .ref b)] → W p l e room_1 s m #[Value.ref b] below meth c H locs 94 3522 Q (F0 m 1277 ls [])) : W p l e room_1 s m #[Value.ref b] below meth c H locs 94 3522 Q (F0 m 367 ls []) := by
  have zx := S.1
  have zb := S.2.1
  have hbA : ¬ (fun q : Nat => s.heap.size ≤ q) b := Nat.not_le.mpr hbl
  refine LW_e hW (fun nw sp xa la lb an sv dv n0 n1 n2 n3 n4 g0 gs gn gm ap svp dvp n0p n1p n2p n3p n4p g0p gsp gnp gmp i0 i1 ai svi dvi n0i n1i n2i n3i n4i g0i gsi gni gmi aj svj dvj n0j n1j n2j n3j n4j g0j gsj gnj gmj fz hb n bd vd fd fr ag dg ar dr hc tm tf vo da gd fk ma lc ld t vt fa u4 fK u5 u6 fR fh d0 d1 d2 d3 d4 fg ft fb fw w0 w1 w2 w3 w4 fv hIV hRL G => ?_)
  obtain ⟨hR0, hR1, hR2⟩ := hRL
  obtain ⟨hI_n0, hI_n1, hI_n2, hI_n3, hI_n4, hI_n0p, hI_n1p, hI_n2p, hI_n3p, hI_n4p, hI_n0i, hI_n1i, hI_n2i, hI_n3i, hI_n4i, hI_n0j, hI_n1j, hI_n2j, hI_n3j, hI_n4j, hI_n, hI_bd, hI_t, hI_fa, hI_fK, hI_fh, hI_fw⟩ := hIV
  have hO_bd := hI_bd
  obtain ⟨hd0_bd, hd1_bd⟩ := hO_bd
  have hO_t := hI_t
  obtain ⟨ht0_t, ht1_t⟩ := hO_t
  have hO_fa := hI_fa.2
  obtain ⟨hm0_fa, hm1_fa, hm2_fa, hm3_fa, hm4_fa⟩ := hO_fa
  have hO_fh := hI_fh.2
  obtain ⟨hm0_fh, hm1_fh, hm2_fh, hm3_fh, hm4_fh⟩ := hO_fh
  have hO_fw := hI_fw.2
  obtain ⟨hm0_fw, hm1_fw, hm2_fw, hm3_fw, hm4_fw⟩ := hO_fw
  refine lv_aload_n zx zb dL_law_367 rfl (lv_at hl 2 rfl) ?_
  refine lv_aload_n zx zb dL_law_368 rfl (lv_at hl 3 rfl) ?_
  refine lv_iload_n zx zb dL_law_369 rfl (lv_at hl 0 rfl) ?_
  refine lv_iconst (v := 1) zx zb dL_law_370 (by decide) ?_
  refine r_iadd (v := (nI (zi + 1))) S (nI_add zi 1) dL_law_371 ?_
  refine va_sld zx zb hX hbl hbA G.2.2.2.1 (vp_in_nI (by omega) (by omega)) dL_law_372 ?_
  refine k_it (v := xs (zi + 1)) (congrArg xs (nI_clamp (by omega))) ?_
  refine lv_aload_n zx zb dL_law_373 rfl (lv_at hl 3 rfl) ?_
  refine lv_iload_n zx zb dL_law_374 rfl (lv_at hl 0 rfl) ?_
  refine lv_iconst (v := 2) zx zb dL_law_375 (by decide) ?_
  refine r_iadd (v := (nI (zi + 2))) S (nI_add zi 2) dL_law_376 ?_
  refine va_sld zx zb hX hbl hbA G.2.2.2.1 (vp_in_nI (by omega) (by omega)) dL_law_377 ?_
  refine k_it (v := xs (zi + 2)) (congrArg xs (nI_clamp (by omega))) ?_
  refine b_wi (cells' := 94) (slots' := 3522) (wr := @HAppend.hAppend va_W va_W va_W _ (rcV X sp ap svp dvp n0p n1p n2p n3p n4p g0p gsp gnp gmp) (@HAppend.hAppend va_W va_W va_W _ ([((xa 2), .inl (X.2.2.2.1, 2, .inr (.inr (.inr (.inr (imQ i0 i1))))))]) (@HAppend.hAppend va_W va_W va_W _ (rcV X i0 ai svi dvi n0i n1i n2i n3i n4i g0i gsi gni gmi) (@HAppend.hAppend va_W va_W va_W _ (rcV X i1 aj svj dvj n0j n1j n2j n3j n4j g0j gsj gnj gmj) (@HAppend.hAppend va_W va_W va_W _ ([((xa 3), .inl (X.2.2.1, 2, .inl fz))]) (@HAppend.hAppend va_W va_W va_W _ (rdV X (xa 4) hb n bd vd fd) (@HAppend.hAppend va_W va_W va_W _ (rnV (xa 8) ag dg) (@HAppend.hAppend va_W va_W va_W _ (rnV (xa 9) ar dr) (@HAppend.hAppend va_W va_W va_W _ ([((xa 10), .inr (7, [.ref hc, .int tm])), (hc, .inl (X.2.1, 16, .inl tf))]) (@HAppend.hAppend va_W va_W va_W _ (odW (xa 11) vo) (@HAppend.hAppend va_W va_W va_W _ (duW X (xa 12) da gd) (@HAppend.hAppend va_W va_W va_W _ ([((xa 13), .inl (X.2.1, 6, .inl fk))]) (@HAppend.hAppend va_W va_W va_W _ (mW m0 ma lc ld n t vt) (@HAppend.hAppend va_W va_W va_W _ ([((ma 0), .inl (X.2.1, 371, .inl fa))]) (@HAppend.hAppend va_W va_W va_W _ ([((ma 1), .inl (X.2.1, 742, .inl fK))]) (@HAppend.hAppend va_W va_W va_W _ ([((ma 2), .inl (X.2.2.1, 2, .inl fz))]) (@HAppend.hAppend va_W va_W va_W _ ([((ma 3), .inl (X.2.1, 3, .inl fR))]) (@HAppend.hAppend va_W va_W va_W _ ([((ma 6), .inl (X.2.1, 55, .inl fh))]) (@HAppend.hAppend va_W va_W va_W _ ([((ma 7), .inl (X.2.1, 6, .inl fg))]) (@HAppend.hAppend va_W va_W va_W _ ([((ma 8), .inl (X.2.1, 10, .inl ft))]) (@HAppend.hAppend va_W va_W va_W _ ([((ma 9), .inl (X.2.1, 20, .inl fb))]) (@HAppend.hAppend va_W va_W va_W _ ([((ma 10), .inl (X.2.1, 150, .inl fd))]) (@HAppend.hAppend va_W va_W va_W _ ([((ma 16), .inl (X.2.1, 123, .inl fw))]) ([((ma 17), .inl (X.2.1, 3, .inl fv))])))))))))))))))))))))))) G rfl rfl [0, 1, 2, 3, 4, 5, 6, 7, 8, 9, 10, 11, 12, 13, 14, 15, 16, 69] [17, 18, 19, 20, 21, 22, 23, 24, 25, 26, 27, 28, 29, 30, 31, 32, 33, 34, 35, 36, 37, 38, 39, 40, 41, 42, 43, 44, 45, 46, 47, 48, 49, 50, 51, 52, 53, 54, 55, 56, 57, 58, 59, 60, 61, 62, 63, 64, 65, 66, 67, 68, 70, 71, 72, 73, 74, 75, 76, 77, 78, 79, 80, 81, 82, 83, 84, 85, 86, 87, 88, 89, 90, 91, 92, 93] rfl rfl rfl rfl (n_V (As := [.int (xs (zi + 1)), .int (xs (zi + 2))]) (rest := []) (C := RX10) (T := TX10) (N := 14) (ci := 8) S G (s_start l X h0 nw sp xa la lb an sv dv n0 n1 n2 n3 n4 g0 gs gn gm fr (xs (zi + 1)) (xs (zi + 2)) hI_n0 hI_n1 hI_n2 hI_n3 hI_n4 H.size) gL_law_X10_start rfl rfl rfl hdV_X10_start ⟨Nat.le_of_ble_eq_true rfl, Nat.le_of_ble_eq_true rfl⟩ [0, 1, 2, 3, 4, 5, 6, 7, 8, 9, 10, 11, 12, 13, 14, 15, 16, 69] rfl rfl 0 rfl rfl rfl hl.1 (Nat.le_of_ble_eq_true rfl) dL_law_378 ⟨Nat.le_of_ble_eq_true rfl, Nat.le_of_ble_eq_true rfl⟩) (fun r_1 u_1 H locs hp_1 G => ?_)
  obtain ⟨dv_1a, n1_1b, g0_1c, f_1d⟩ := u_1
  try dsimp only at hp_1
  obtain ⟨hI_n1_1b, hq_1⟩ := hp_1
  refine lv_pop zx zb dL_law_381 rfl ?_
  refine lv_aload_n zx zb dL_law_382 rfl (lv_at hl 1 rfl) ?_
  refine lv_aload_n zx zb dL_law_383 rfl (lv_at hl 3 rfl) ?_
  refine lv_iload_n zx zb dL_law_384 rfl (lv_at hl 0 rfl) ?_
  refine lv_iconst (v := 1) zx zb dL_law_385 (by decide) ?_
  refine r_iadd (v := (nI (zi + 1))) S (nI_add zi 1) dL_law_386 ?_
  refine va_sld zx zb hX hbl hbA G.2.2.2.1 (vp_in_nI (by omega) (by omega)) dL_law_387 ?_
  refine k_it (v := xs (zi + 1)) (congrArg xs (nI_clamp (by omega))) ?_
  refine lv_aload_n zx zb dL_law_388 rfl (lv_at hl 3 rfl) ?_
  refine lv_iload_n zx zb dL_law_389 rfl (lv_at hl 0 rfl) ?_
  refine lv_iconst (v := 2) zx zb dL_law_390 (by decide) ?_
  refine r_iadd (v := (nI (zi + 2))) S (nI_add zi 2) dL_law_391 ?_
  refine va_sld zx zb hX hbl hbA G.2.2.2.1 (vp_in_nI (by omega) (by omega)) dL_law_392 ?_
  refine k_it (v := xs (zi + 2)) (congrArg xs (nI_clamp (by omega))) ?_
  refine b_wi (cells' := 94) (slots' := 3522) (wr := @HAppend.hAppend va_W va_W va_W _ (rcV X sp ap svp dvp n0p n1p n2p n3p n4p g0p gsp gnp gmp) (@HAppend.hAppend va_W va_W va_W _ ([((xa 2), .inl (X.2.2.2.1, 2, .inr (.inr (.inr (.inr (imQ i0 i1))))))]) (@HAppend.hAppend va_W va_W va_W _ (rcV X i0 ai svi dvi n0i n1i n2i n3i n4i g0i gsi gni gmi) (@HAppend.hAppend va_W va_W va_W _ (rcV X i1 aj svj dvj n0j n1j n2j n3j n4j g0j gsj gnj gmj) (@HAppend.hAppend va_W va_W va_W _ ([((xa 3), .inl (X.2.2.1, 2, .inl fz))]) (@HAppend.hAppend va_W va_W va_W _ (rdV X (xa 4) hb n bd vd fd) (@HAppend.hAppend va_W va_W va_W _ (rnV (xa 8) ag dg) (@HAppend.hAppend va_W va_W va_W _ (rnV (xa 9) ar dr) (@HAppend.hAppend va_W va_W va_W _ ([((xa 10), .inr (7, [.ref hc, .int tm])), (hc, .inl (X.2.1, 16, .inl tf))]) (@HAppend.hAppend va_W va_W va_W _ (odW (xa 11) vo) (@HAppend.hAppend va_W va_W va_W _ (duW X (xa 12) da gd) (@HAppend.hAppend va_W va_W va_W _ ([((xa 13), .inl (X.2.1, 6, .inl fk))]) (@HAppend.hAppend va_W va_W va_W _ ([((ma 1), .inl (X.2.1, 742, .inl fK))]) (@HAppend.hAppend va_W va_W va_W _ ([((ma 2), .inl (X.2.2.1, 2, .inl fz))]) (@HAppend.hAppend va_W va_W va_W _ ([((ma 6), .inl (X.2.1, 55, .inl fh))]) (@HAppend.hAppend va_W va_W va_W _ ([((ma 7), .inl (X.2.1, 6, .inl fg))]) (@HAppend.hAppend va_W va_W va_W _ ([((ma 8), .inl (X.2.1, 10, .inl ft))]) (@HAppend.hAppend va_W va_W va_W _ ([((ma 9), .inl (X.2.1, 20, .inl fb))]) (@HAppend.hAppend va_W va_W va_W _ ([((ma 10), .inl (X.2.1, 150, .inl fd))]) (@HAppend.hAppend va_W va_W va_W _ ([((ma 16), .inl (X.2.1, 123, .inl fw))]) (@HAppend.hAppend va_W va_W va_W _ ([((ma 17), .inl (X.2.1, 3, .inl fv))]) (@HAppend.hAppend va_W va_W va_W _ (xW h0 nw sp xa la lb) (@HAppend.hAppend va_W va_W va_W _ (rcV X nw an sv dv_1a n0 n1_1b n2 n3 n4 g0_1c gs gn gm) ([((xa 5), .inl (X.2.1, 3, .inl f_1d))])))))))))))))))))))))))) G rfl rfl [64, 65, 68] [0, 1, 2, 3, 4, 5, 6, 7, 8, 9, 10, 11, 12, 13, 14, 15, 16, 17, 18, 19, 20, 21, 22, 23, 24, 25, 26, 27, 28, 29, 30, 31, 32, 33, 34, 35, 36, 37, 38, 39, 40, 41, 42, 43, 44, 45, 46, 47, 48, 49, 50, 51, 52, 53, 54, 55, 56, 57, 58, 59, 60, 61, 62, 63, 66, 67, 69, 70, 71, 72, 73, 74, 75, 76, 77, 78, 79, 80, 81, 82, 83, 84, 85, 86, 87, 88, 89, 90, 91, 92, 93] rfl rfl rfl rfl (n_V (As := [.int (xs (zi + 1)), .int (xs (zi + 2))]) (rest := []) (C := RX11) (T := TX11) (N := 18) (ci := 9) S G (w_start l X m0 ma lc ld n t vt fa n0 n2 n3 n4 u4 fR (xs (zi + 1)) (xs (zi + 2)) hI_n hI_t hI_fa H.size) gL_law_X11_start rfl rfl rfl hdV_X11_start ⟨Nat.le_of_ble_eq_true rfl, Nat.le_of_ble_eq_true rfl⟩ [64, 65, 68] rfl rfl 64 rfl rfl rfl hl.1 (Nat.le_of_ble_eq_true rfl) dL_law_393 ⟨Nat.le_of_ble_eq_true rfl, Nat.le_of_ble_eq_true rfl⟩) (fun r_2 u_2 H locs hp_2 G => ?_)
  obtain ⟨f_2a, c4_2b, f_2c⟩ := u_2
  try dsimp only at hp_2
  obtain ⟨hI_f_2a, hq_2⟩ := hp_2
  have hO_f_2a := hI_f_2a.2
  obtain ⟨hm0_f_2a, hm1_f_2a, hm2_f_2a, hm3_f_2a, hm4_f_2a⟩ := hO_f_2a
  have hN0 : REL n0 n2 n3 n4 sv gs gn gm f_2a := REL_kp hR0 (by omega) (by omega) (by omega) (by omega) hq_2
  refine lv_pop zx zb dL_law_396 rfl ?_
  refine lv_goto (tgt := 1277) zx zb dL_law_397 (by decide) ?_
  have G : wd X (fun q : Nat => s.heap.size ≤ q) (fun q : Nat => s.heap.size ≤ q) s (@HAppend.hAppend va_W va_W va_W _ (xW h0 nw sp xa la lb) (@HAppend.hAppend va_W va_W va_W _ (rcV X nw an sv dv_1a n0 n1_1b n2 n3 n4 g0_1c gs gn gm) (@HAppend.hAppend va_W va_W va_W _ (rcV X sp ap svp dvp n0p n1p n2p n3p n4p g0p gsp gnp gmp) (@HAppend.hAppend va_W va_W va_W _ ([((xa 2), .inl (X.2.2.2.1, 2, .inr (.inr (.inr (.inr (imQ i0 i1))))))]) (@HAppend.hAppend va_W va_W va_W _ (rcV X i0 ai svi dvi n0i n1i n2i n3i n4i g0i gsi gni gmi) (@HAppend.hAppend va_W va_W va_W _ (rcV X i1 aj svj dvj n0j n1j n2j n3j n4j g0j gsj gnj gmj) (@HAppend.hAppend va_W va_W va_W _ ([((xa 3), .inl (X.2.2.1, 2, .inl fz))]) (@HAppend.hAppend va_W va_W va_W _ (rdV X (xa 4) hb n bd vd fd) (@HAppend.hAppend va_W va_W va_W _ ([((xa 5), .inl (X.2.1, 3, .inl f_1d))]) (@HAppend.hAppend va_W va_W va_W _ (rnV (xa 8) ag dg) (@HAppend.hAppend va_W va_W va_W _ (rnV (xa 9) ar dr) (@HAppend.hAppend va_W va_W va_W _ ([((xa 10), .inr (7, [.ref hc, .int tm])), (hc, .inl (X.2.1, 16, .inl tf))]) (@HAppend.hAppend va_W va_W va_W _ (odW (xa 11) vo) (@HAppend.hAppend va_W va_W va_W _ (duW X (xa 12) da gd) (@HAppend.hAppend va_W va_W va_W _ ([((xa 13), .inl (X.2.1, 6, .inl fk))]) (@HAppend.hAppend va_W va_W va_W _ (mW m0 ma lc ld n t vt) (@HAppend.hAppend va_W va_W va_W _ ([((ma 0), .inl (X.2.1, 371, .inl f_2a))]) (@HAppend.hAppend va_W va_W va_W _ ([((ma 1), .inl (X.2.1, 742, .inl fK))]) (@HAppend.hAppend va_W va_W va_W _ ([((ma 2), .inl (X.2.2.1, 2, .inl fz))]) (@HAppend.hAppend va_W va_W va_W _ ([((ma 3), .inl (X.2.1, 3, .inl f_2c))]) (@HAppend.hAppend va_W va_W va_W _ ([((ma 6), .inl (X.2.1, 55, .inl fh))]) (@HAppend.hAppend va_W va_W va_W _ ([((ma 7), .inl (X.2.1, 6, .inl fg))]) (@HAppend.hAppend va_W va_W va_W _ ([((ma 8), .inl (X.2.1, 10, .inl ft))]) (@HAppend.hAppend va_W va_W va_W _ ([((ma 9), .inl (X.2.1, 20, .inl fb))]) (@HAppend.hAppend va_W va_W va_W _ ([((ma 10), .inl (X.2.1, 150, .inl fd))]) (@HAppend.hAppend va_W va_W va_W _ ([((ma 16), .inl (X.2.1, 123, .inl fw))]) ([((ma 17), .inl (X.2.1, 3, .inl fv))]))))))))))))))))))))))))))) H locs := wd_sub G [73, 74, 75, 76, 77, 78, 79, 80, 81, 82, 83, 84, 85, 86, 87, 88, 89, 0, 1, 2, 3, 4, 5, 6, 7, 8, 9, 10, 11, 12, 13, 14, 15, 16, 17, 18, 19, 20, 21, 22, 23, 24, 25, 26, 27, 28, 29, 30, 31, 32, 33, 34, 35, 36, 37, 38, 39, 40, 41, 42, 43, 44, 45, 46, 47, 48, 49, 50, 51, 90, 52, 53, 54, 55, 56, 57, 58, 59, 60, 61, 62, 63, 91, 92, 64, 65, 93, 66, 67, 68, 69, 70, 71, 72] rfl rfl
  exact kk _ _ _ (LW_i nw sp xa la lb an sv dv_1a n0 n1_1b n2 n3 n4 g0_1c gs gn gm ap svp dvp n0p n1p n2p n3p n4p g0p gsp gnp gmp i0 i1 ai svi dvi n0i n1i n2i n3i n4i g0i gsi gni gmi aj svj dvj n0j n1j n2j n3j n4j g0j gsj gnj gmj fz hb n bd vd fd f_1d ag dg ar dr hc tm tf vo da gd fk ma lc ld t vt f_2a c4_2b fK u5 u6 f_2c fh d0 d1 d2 d3 d4 fg ft fb fw w0 w1 w2 w3 w4 fv ⟨hI_n0, hI_n1_1b, hI_n2, hI_n3, hI_n4, hI_n0p, hI_n1p, hI_n2p, hI_n3p, hI_n4p, hI_n0i, hI_n1i, hI_n2i, hI_n3i, hI_n4i, hI_n0j, hI_n1j, hI_n2j, hI_n3j, hI_n4j, hI_n, hI_bd, hI_t, hI_f_2a, hI_fK, hI_fh, hI_fw⟩ ⟨hN0, hR1, hR2⟩ G) hl
theorem hdV_X10_undo : yX10_undo.cls = RX10 ∧ yX10_undo.cls ≠ "java/lang/invoke/MethodHandle" ∧ yX10_undo.cls ≠ "java/lang/invoke/VarHandle" ∧ (parseMethodDescriptor yX10_undo.desc).map (fun d => d.parameters.length) = some 0 := by decide +kernel
theorem hdV_X11_undo : yX11_undo.cls = RX11 ∧ yX11_undo.cls ≠ "java/lang/invoke/MethodHandle" ∧ yX11_undo.cls ≠ "java/lang/invoke/VarHandle" ∧ (parseMethodDescriptor yX11_undo.desc).map (fun d => d.parameters.length) = some 0 := by decide +kernel
set_option maxRecDepth 100000 in
set_option maxHeartbeats 8000000 in
theorem lc_8 (S : CallFix p m c cL_law 4 s #[Value.ref b] wsL_law RL) (hX : va_X b L xs s s.heap) (hbl : b < s.heap.size) (hL : L ≤ 3072) (hzi : zi + 6 ≤ L) (hZ : sE K (fun q : Nat => s.heap.size ≤ q) s s.heap) (hW : LW X h0 m0 s H locs) (hl : lv_has ls 4 [(3, .int (nI zi)), (2, .ref m0), (1, .ref h0), (0, .ref b)]) (kk : ∀ (H : Heap) (locs : List Loc) (ls : Array Slot), LW X h0 m0 s H locs → lv_has ls 4 [(3, .int (nI zi)), (2, .ref m0), (1, .ref h0), (0, .ref b)] → W p l e room_1 s m #[Value.ref b] below meth c H locs 94 3522 Q (F0 m 1277 ls [])) : W p l e room_1 s m #[Value.ref b] below meth c H locs 94 3522 Q (F0 m 400 ls []) := by
  have zx := S.1
  have zb := S.2.1
  have hbA : ¬ (fun q : Nat => s.heap.size ≤ q) b := Nat.not_le.mpr hbl
  refine LW_e hW (fun nw sp xa la lb an sv dv n0 n1 n2 n3 n4 g0 gs gn gm ap svp dvp n0p n1p n2p n3p n4p g0p gsp gnp gmp i0 i1 ai svi dvi n0i n1i n2i n3i n4i g0i gsi gni gmi aj svj dvj n0j n1j n2j n3j n4j g0j gsj gnj gmj fz hb n bd vd fd fr ag dg ar dr hc tm tf vo da gd fk ma lc ld t vt fa u4 fK u5 u6 fR fh d0 d1 d2 d3 d4 fg ft fb fw w0 w1 w2 w3 w4 fv hIV hRL G => ?_)
  obtain ⟨hR0, hR1, hR2⟩ := hRL
  obtain ⟨hI_n0, hI_n1, hI_n2, hI_n3, hI_n4, hI_n0p, hI_n1p, hI_n2p, hI_n3p, hI_n4p, hI_n0i, hI_n1i, hI_n2i, hI_n3i, hI_n4i, hI_n0j, hI_n1j, hI_n2j, hI_n3j, hI_n4j, hI_n, hI_bd, hI_t, hI_fa, hI_fK, hI_fh, hI_fw⟩ := hIV
  have hO_bd := hI_bd
  obtain ⟨hd0_bd, hd1_bd⟩ := hO_bd
  have hO_t := hI_t
  obtain ⟨ht0_t, ht1_t⟩ := hO_t
  have hO_fa := hI_fa.2
  obtain ⟨hm0_fa, hm1_fa, hm2_fa, hm3_fa, hm4_fa⟩ := hO_fa
  have hO_fh := hI_fh.2
  obtain ⟨hm0_fh, hm1_fh, hm2_fh, hm3_fh, hm4_fh⟩ := hO_fh
  have hO_fw := hI_fw.2
  obtain ⟨hm0_fw, hm1_fw, hm2_fw, hm3_fw, hm4_fw⟩ := hO_fw
  refine lv_aload_n zx zb dL_law_400 rfl (lv_at hl 2 rfl) ?_
  refine b_wi (cells' := 94) (slots' := 3522) (wr := @HAppend.hAppend va_W va_W va_W _ (rcV X sp ap svp dvp n0p n1p n2p n3p n4p g0p gsp gnp gmp) (@HAppend.hAppend va_W va_W va_W _ ([((xa 2), .inl (X.2.2.2.1, 2, .inr (.inr (.inr (.inr (imQ i0 i1))))))]) (@HAppend.hAppend va_W va_W va_W _ (rcV X i0 ai svi dvi n0i n1i n2i n3i n4i g0i gsi gni gmi) (@HAppend.hAppend va_W va_W va_W _ (rcV X i1 aj svj dvj n0j n1j n2j n3j n4j g0j gsj gnj gmj) (@HAppend.hAppend va_W va_W va_W _ ([((xa 3), .inl (X.2.2.1, 2, .inl fz))]) (@HAppend.hAppend va_W va_W va_W _ (rdV X (xa 4) hb n bd vd fd) (@HAppend.hAppend va_W va_W va_W _ (rnV (xa 8) ag dg) (@HAppend.hAppend va_W va_W va_W _ (rnV (xa 9) ar dr) (@HAppend.hAppend va_W va_W va_W _ ([((xa 10), .inr (7, [.ref hc, .int tm])), (hc, .inl (X.2.1, 16, .inl tf))]) (@HAppend.hAppend va_W va_W va_W _ (odW (xa 11) vo) (@HAppend.hAppend va_W va_W va_W _ (duW X (xa 12) da gd) (@HAppend.hAppend va_W va_W va_W _ ([((xa 13), .inl (X.2.1, 6, .inl fk))]) (@HAppend.hAppend va_W va_W va_W _ (mW m0 ma lc ld n t vt) (@HAppend.hAppend va_W va_W va_W _ ([((ma 0), .inl (X.2.1, 371, .inl fa))]) (@HAppend.hAppend va_W va_W va_W _ ([((ma 1), .inl (X.2.1, 742, .inl fK))]) (@HAppend.hAppend va_W va_W va_W _ ([((ma 2), .inl (X.2.2.1, 2, .inl fz))]) (@HAppend.hAppend va_W va_W va_W _ ([((ma 3), .inl (X.2.1, 3, .inl fR))]) (@HAppend.hAppend va_W va_W va_W _ ([((ma 6), .inl (X.2.1, 55, .inl fh))]) (@HAppend.hAppend va_W va_W va_W _ ([((ma 7), .inl (X.2.1, 6, .inl fg))]) (@HAppend.hAppend va_W va_W va_W _ ([((ma 8), .inl (X.2.1, 10, .inl ft))]) (@HAppend.hAppend va_W va_W va_W _ ([((ma 9), .inl (X.2.1, 20, .inl fb))]) (@HAppend.hAppend va_W va_W va_W _ ([((ma 10), .inl (X.2.1, 150, .inl fd))]) (@HAppend.hAppend va_W va_W va_W _ ([((ma 16), .inl (X.2.1, 123, .inl fw))]) ([((ma 17), .inl (X.2.1, 3, .inl fv))])))))))))))))))))))))))) G rfl rfl [0, 1, 2, 3, 4, 5, 6, 7, 8, 9, 10, 11, 12, 13, 14, 15, 16, 69] [17, 18, 19, 20, 21, 22, 23, 24, 25, 26, 27, 28, 29, 30, 31, 32, 33, 34, 35, 36, 37, 38, 39, 40, 41, 42, 43, 44, 45, 46, 47, 48, 49, 50, 51, 52, 53, 54, 55, 56, 57, 58, 59, 60, 61, 62, 63, 64, 65, 66, 67, 68, 70, 71, 72, 73, 74, 75, 76, 77, 78, 79, 80, 81, 82, 83, 84, 85, 86, 87, 88, 89, 90, 91, 92, 93] rfl rfl rfl rfl (n_V (As := []) (rest := []) (C := RX10) (T := TX10) (N := 14) (ci := 8) S G (s_undo l X h0 nw sp xa la lb an sv dv n0 n1 n2 n3 n4 g0 gs gn gm fr hI_n0 hI_n1 hI_n2 hI_n3 hI_n4 H.size) gL_law_X10_undo rfl rfl rfl hdV_X10_undo ⟨Nat.le_of_ble_eq_true rfl, Nat.le_of_ble_eq_true rfl⟩ [0, 1, 2, 3, 4, 5, 6, 7, 8, 9, 10, 11, 12, 13, 14, 15, 16, 69] rfl rfl 0 rfl rfl rfl hl.1 (Nat.le_of_ble_eq_true rfl) dL_law_401 ⟨Nat.le_of_ble_eq_true rfl, Nat.le_of_ble_eq_true rfl⟩) (fun r_1 u_1 H locs hp_1 G => ?_)
  obtain ⟨dv_1a, n1_1b, f_1c⟩ := u_1
  try dsimp only at hp_1
  obtain ⟨hI_n1_1b, hq_1⟩ := hp_1
  refine lv_pop zx zb dL_law_404 rfl ?_
  refine lv_aload_n zx zb dL_law_405 rfl (lv_at hl 1 rfl) ?_
  refine b_wi (cells' := 94) (slots' := 3522) (wr := @HAppend.hAppend va_W va_W va_W _ (rcV X sp ap svp dvp n0p n1p n2p n3p n4p g0p gsp gnp gmp) (@HAppend.hAppend va_W va_W va_W _ ([((xa 2), .inl (X.2.2.2.1, 2, .inr (.inr (.inr (.inr (imQ i0 i1))))))]) (@HAppend.hAppend va_W va_W va_W _ (rcV X i0 ai svi dvi n0i n1i n2i n3i n4i g0i gsi gni gmi) (@HAppend.hAppend va_W va_W va_W _ (rcV X i1 aj svj dvj n0j n1j n2j n3j n4j g0j gsj gnj gmj) (@HAppend.hAppend va_W va_W va_W _ ([((xa 3), .inl (X.2.2.1, 2, .inl fz))]) (@HAppend.hAppend va_W va_W va_W _ (rdV X (xa 4) hb n bd vd fd) (@HAppend.hAppend va_W va_W va_W _ (rnV (xa 8) ag dg) (@HAppend.hAppend va_W va_W va_W _ (rnV (xa 9) ar dr) (@HAppend.hAppend va_W va_W va_W _ ([((xa 10), .inr (7, [.ref hc, .int tm])), (hc, .inl (X.2.1, 16, .inl tf))]) (@HAppend.hAppend va_W va_W va_W _ (odW (xa 11) vo) (@HAppend.hAppend va_W va_W va_W _ (duW X (xa 12) da gd) (@HAppend.hAppend va_W va_W va_W _ ([((xa 13), .inl (X.2.1, 6, .inl fk))]) (@HAppend.hAppend va_W va_W va_W _ ([((ma 1), .inl (X.2.1, 742, .inl fK))]) (@HAppend.hAppend va_W va_W va_W _ ([((ma 2), .inl (X.2.2.1, 2, .inl fz))]) (@HAppend.hAppend va_W va_W va_W _ ([((ma 6), .inl (X.2.1, 55, .inl fh))]) (@HAppend.hAppend va_W va_W va_W _ ([((ma 7), .inl (X.2.1, 6, .inl fg))]) (@HAppend.hAppend va_W va_W va_W _ ([((ma 8), .inl (X.2.1, 10, .inl ft))]) (@HAppend.hAppend va_W va_W va_W _ ([((ma 9), .inl (X.2.1, 20, .inl fb))]) (@HAppend.hAppend va_W va_W va_W _ ([((ma 10), .inl (X.2.1, 150, .inl fd))]) (@HAppend.hAppend va_W va_W va_W _ ([((ma 16), .inl (X.2.1, 123, .inl fw))]) (@HAppend.hAppend va_W va_W va_W _ ([((ma 17), .inl (X.2.1, 3, .inl fv))]) (@HAppend.hAppend va_W va_W va_W _ (xW h0 nw sp xa la lb) (@HAppend.hAppend va_W va_W va_W _ (rcV X nw an sv dv_1a n0 n1_1b n2 n3 n4 g0 gs gn gm) ([((xa 5), .inl (X.2.1, 3, .inl f_1c))])))))))))))))))))))))))) G rfl rfl [64, 65, 68] [0, 1, 2, 3, 4, 5, 6, 7, 8, 9, 10, 11, 12, 13, 14, 15, 16, 17, 18, 19, 20, 21, 22, 23, 24, 25, 26, 27, 28, 29, 30, 31, 32, 33, 34, 35, 36, 37, 38, 39, 40, 41, 42, 43, 44, 45, 46, 47, 48, 49, 50, 51, 52, 53, 54, 55, 56, 57, 58, 59, 60, 61, 62, 63, 66, 67, 69, 70, 71, 72, 73, 74, 75, 76, 77, 78, 79, 80, 81, 82, 83, 84, 85, 86, 87, 88, 89, 90, 91, 92, 93] rfl rfl rfl rfl (n_V (As := []) (rest := []) (C := RX11) (T := TX11) (N := 18) (ci := 9) S G (w_undo l X m0 ma lc ld n t vt fa n0 n2 n3 n4 u4 fR hI_n hI_t hI_fa H.size) gL_law_X11_undo rfl rfl rfl hdV_X11_undo ⟨Nat.le_of_ble_eq_true rfl, Nat.le_of_ble_eq_true rfl⟩ [64, 65, 68] rfl rfl 64 rfl rfl rfl hl.1 (Nat.le_of_ble_eq_true rfl) dL_law_406 ⟨Nat.le_of_ble_eq_true rfl, Nat.le_of_ble_eq_true rfl⟩) (fun r_2 u_2 H locs hp_2 G => ?_)
  obtain ⟨f_2a, c4_2b, f_2c⟩ := u_2
  try dsimp only at hp_2
  obtain ⟨hI_f_2a, hq_2⟩ := hp_2
  have hO_f_2a := hI_f_2a.2
  obtain ⟨hm0_f_2a, hm1_f_2a, hm2_f_2a, hm3_f_2a, hm4_f_2a⟩ := hO_f_2a
  have hN0 : REL n0 n2 n3 n4 sv gs gn gm f_2a := REL_kp hR0 (by omega) (by omega) (by omega) (by omega) hq_2
  refine lv_pop zx zb dL_law_409 rfl ?_
  refine lv_goto (tgt := 1277) zx zb dL_law_410 (by decide) ?_
  have G : wd X (fun q : Nat => s.heap.size ≤ q) (fun q : Nat => s.heap.size ≤ q) s (@HAppend.hAppend va_W va_W va_W _ (xW h0 nw sp xa la lb) (@HAppend.hAppend va_W va_W va_W _ (rcV X nw an sv dv_1a n0 n1_1b n2 n3 n4 g0 gs gn gm) (@HAppend.hAppend va_W va_W va_W _ (rcV X sp ap svp dvp n0p n1p n2p n3p n4p g0p gsp gnp gmp) (@HAppend.hAppend va_W va_W va_W _ ([((xa 2), .inl (X.2.2.2.1, 2, .inr (.inr (.inr (.inr (imQ i0 i1))))))]) (@HAppend.hAppend va_W va_W va_W _ (rcV X i0 ai svi dvi n0i n1i n2i n3i n4i g0i gsi gni gmi) (@HAppend.hAppend va_W va_W va_W _ (rcV X i1 aj svj dvj n0j n1j n2j n3j n4j g0j gsj gnj gmj) (@HAppend.hAppend va_W va_W va_W _ ([((xa 3), .inl (X.2.2.1, 2, .inl fz))]) (@HAppend.hAppend va_W va_W va_W _ (rdV X (xa 4) hb n bd vd fd) (@HAppend.hAppend va_W va_W va_W _ ([((xa 5), .inl (X.2.1, 3, .inl f_1c))]) (@HAppend.hAppend va_W va_W va_W _ (rnV (xa 8) ag dg) (@HAppend.hAppend va_W va_W va_W _ (rnV (xa 9) ar dr) (@HAppend.hAppend va_W va_W va_W _ ([((xa 10), .inr (7, [.ref hc, .int tm])), (hc, .inl (X.2.1, 16, .inl tf))]) (@HAppend.hAppend va_W va_W va_W _ (odW (xa 11) vo) (@HAppend.hAppend va_W va_W va_W _ (duW X (xa 12) da gd) (@HAppend.hAppend va_W va_W va_W _ ([((xa 13), .inl (X.2.1, 6, .inl fk))]) (@HAppend.hAppend va_W va_W va_W _ (mW m0 ma lc ld n t vt) (@HAppend.hAppend va_W va_W va_W _ ([((ma 0), .inl (X.2.1, 371, .inl f_2a))]) (@HAppend.hAppend va_W va_W va_W _ ([((ma 1), .inl (X.2.1, 742, .inl fK))]) (@HAppend.hAppend va_W va_W va_W _ ([((ma 2), .inl (X.2.2.1, 2, .inl fz))]) (@HAppend.hAppend va_W va_W va_W _ ([((ma 3), .inl (X.2.1, 3, .inl f_2c))]) (@HAppend.hAppend va_W va_W va_W _ ([((ma 6), .inl (X.2.1, 55, .inl fh))]) (@HAppend.hAppend va_W va_W va_W _ ([((ma 7), .inl (X.2.1, 6, .inl fg))]) (@HAppend.hAppend va_W va_W va_W _ ([((ma 8), .inl (X.2.1, 10, .inl ft))]) (@HAppend.hAppend va_W va_W va_W _ ([((ma 9), .inl (X.2.1, 20, .inl fb))]) (@HAppend.hAppend va_W va_W va_W _ ([((ma 10), .inl (X.2.1, 150, .inl fd))]) (@HAppend.hAppend va_W va_W va_W _ ([((ma 16), .inl (X.2.1, 123, .inl fw))]) ([((ma 17), .inl (X.2.1, 3, .inl fv))]))))))))))))))))))))))))))) H locs := wd_sub G [73, 74, 75, 76, 77, 78, 79, 80, 81, 82, 83, 84, 85, 86, 87, 88, 89, 0, 1, 2, 3, 4, 5, 6, 7, 8, 9, 10, 11, 12, 13, 14, 15, 16, 17, 18, 19, 20, 21, 22, 23, 24, 25, 26, 27, 28, 29, 30, 31, 32, 33, 34, 35, 36, 37, 38, 39, 40, 41, 42, 43, 44, 45, 46, 47, 48, 49, 50, 51, 90, 52, 53, 54, 55, 56, 57, 58, 59, 60, 61, 62, 63, 91, 92, 64, 65, 93, 66, 67, 68, 69, 70, 71, 72] rfl rfl
  exact kk _ _ _ (LW_i nw sp xa la lb an sv dv_1a n0 n1_1b n2 n3 n4 g0 gs gn gm ap svp dvp n0p n1p n2p n3p n4p g0p gsp gnp gmp i0 i1 ai svi dvi n0i n1i n2i n3i n4i g0i gsi gni gmi aj svj dvj n0j n1j n2j n3j n4j g0j gsj gnj gmj fz hb n bd vd fd f_1c ag dg ar dr hc tm tf vo da gd fk ma lc ld t vt f_2a c4_2b fK u5 u6 f_2c fh d0 d1 d2 d3 d4 fg ft fb fw w0 w1 w2 w3 w4 fv ⟨hI_n0, hI_n1_1b, hI_n2, hI_n3, hI_n4, hI_n0p, hI_n1p, hI_n2p, hI_n3p, hI_n4p, hI_n0i, hI_n1i, hI_n2i, hI_n3i, hI_n4i, hI_n0j, hI_n1j, hI_n2j, hI_n3j, hI_n4j, hI_n, hI_bd, hI_t, hI_f_2a, hI_fK, hI_fh, hI_fw⟩ ⟨hN0, hR1, hR2⟩ G) hl
theorem hdV_X10_of : yX10_of.cls = RX10 ∧ yX10_of.cls ≠ "java/lang/invoke/MethodHandle" ∧ yX10_of.cls ≠ "java/lang/invoke/VarHandle" ∧ (parseMethodDescriptor yX10_of.desc).map (fun d => d.parameters.length) = some 2 := by decide +kernel
theorem hdV_X11_of : yX11_of.cls = RX11 ∧ yX11_of.cls ≠ "java/lang/invoke/MethodHandle" ∧ yX11_of.cls ≠ "java/lang/invoke/VarHandle" ∧ (parseMethodDescriptor yX11_of.desc).map (fun d => d.parameters.length) = some 2 := by decide +kernel
set_option maxRecDepth 100000 in
set_option maxHeartbeats 8000000 in
theorem lc_9 (S : CallFix p m c cL_law 4 s #[Value.ref b] wsL_law RL) (hX : va_X b L xs s s.heap) (hbl : b < s.heap.size) (hL : L ≤ 3072) (hzi : zi + 6 ≤ L) (hZ : sE K (fun q : Nat => s.heap.size ≤ q) s s.heap) (hW : LW X h0 m0 s H locs) (hl : lv_has ls 4 [(3, .int (nI zi)), (2, .ref m0), (1, .ref h0), (0, .ref b)]) (kk : ∀ (H : Heap) (locs : List Loc) (ls : Array Slot), LW X h0 m0 s H locs → lv_has ls 4 [(3, .int (nI zi)), (2, .ref m0), (1, .ref h0), (0, .ref b)] → W p l e room_1 s m #[Value.ref b] below meth c H locs 94 3522 Q (F0 m 1277 ls [])) : W p l e room_1 s m #[Value.ref b] below meth c H locs 94 3522 Q (F0 m 413 ls []) := by
  have zx := S.1
  have zb := S.2.1
  have hbA : ¬ (fun q : Nat => s.heap.size ≤ q) b := Nat.not_le.mpr hbl
  refine LW_e hW (fun nw sp xa la lb an sv dv n0 n1 n2 n3 n4 g0 gs gn gm ap svp dvp n0p n1p n2p n3p n4p g0p gsp gnp gmp i0 i1 ai svi dvi n0i n1i n2i n3i n4i g0i gsi gni gmi aj svj dvj n0j n1j n2j n3j n4j g0j gsj gnj gmj fz hb n bd vd fd fr ag dg ar dr hc tm tf vo da gd fk ma lc ld t vt fa u4 fK u5 u6 fR fh d0 d1 d2 d3 d4 fg ft fb fw w0 w1 w2 w3 w4 fv hIV hRL G => ?_)
  obtain ⟨hR0, hR1, hR2⟩ := hRL
  obtain ⟨hI_n0, hI_n1, hI_n2, hI_n3, hI_n4, hI_n0p, hI_n1p, hI_n2p, hI_n3p, hI_n4p, hI_n0i, hI_n1i, hI_n2i, hI_n3i, hI_n4i, hI_n0j, hI_n1j, hI_n2j, hI_n3j, hI_n4j, hI_n, hI_bd, hI_t, hI_fa, hI_fK, hI_fh, hI_fw⟩ := hIV
  have hO_bd := hI_bd
  obtain ⟨hd0_bd, hd1_bd⟩ := hO_bd
  have hO_t := hI_t
  obtain ⟨ht0_t, ht1_t⟩ := hO_t
  have hO_fa := hI_fa.2
  obtain ⟨hm0_fa, hm1_fa, hm2_fa, hm3_fa, hm4_fa⟩ := hO_fa
  have hO_fh := hI_fh.2
  obtain ⟨hm0_fh, hm1_fh, hm2_fh, hm3_fh, hm4_fh⟩ := hO_fh
  have hO_fw := hI_fw.2
  obtain ⟨hm0_fw, hm1_fw, hm2_fw, hm3_fw, hm4_fw⟩ := hO_fw
  refine lv_aload_n zx zb dL_law_413 rfl (lv_at hl 2 rfl) ?_
  refine lv_aload_n zx zb dL_law_414 rfl (lv_at hl 3 rfl) ?_
  refine lv_iload_n zx zb dL_law_415 rfl (lv_at hl 0 rfl) ?_
  refine lv_iconst (v := 1) zx zb dL_law_416 (by decide) ?_
  refine r_iadd (v := (nI (zi + 1))) S (nI_add zi 1) dL_law_417 ?_
  refine va_sld zx zb hX hbl hbA G.2.2.2.1 (vp_in_nI (by omega) (by omega)) dL_law_418 ?_
  refine k_it (v := xs (zi + 1)) (congrArg xs (nI_clamp (by omega))) ?_
  refine lv_aload_n zx zb dL_law_419 rfl (lv_at hl 3 rfl) ?_
  refine lv_iload_n zx zb dL_law_420 rfl (lv_at hl 0 rfl) ?_
  refine lv_iconst (v := 2) zx zb dL_law_421 (by decide) ?_
  refine r_iadd (v := (nI (zi + 2))) S (nI_add zi 2) dL_law_422 ?_
  refine va_sld zx zb hX hbl hbA G.2.2.2.1 (vp_in_nI (by omega) (by omega)) dL_law_423 ?_
  refine k_it (v := xs (zi + 2)) (congrArg xs (nI_clamp (by omega))) ?_
  refine b_wi (cells' := 94) (slots' := 3522) (wr := @HAppend.hAppend va_W va_W va_W _ (rcV X sp ap svp dvp n0p n1p n2p n3p n4p g0p gsp gnp gmp) (@HAppend.hAppend va_W va_W va_W _ ([((xa 2), .inl (X.2.2.2.1, 2, .inr (.inr (.inr (.inr (imQ i0 i1))))))]) (@HAppend.hAppend va_W va_W va_W _ (rcV X i0 ai svi dvi n0i n1i n2i n3i n4i g0i gsi gni gmi) (@HAppend.hAppend va_W va_W va_W _ (rcV X i1 aj svj dvj n0j n1j n2j n3j n4j g0j gsj gnj gmj) (@HAppend.hAppend va_W va_W va_W _ ([((xa 3), .inl (X.2.2.1, 2, .inl fz))]) (@HAppend.hAppend va_W va_W va_W _ (rdV X (xa 4) hb n bd vd fd) (@HAppend.hAppend va_W va_W va_W _ (rnV (xa 8) ag dg) (@HAppend.hAppend va_W va_W va_W _ (rnV (xa 9) ar dr) (@HAppend.hAppend va_W va_W va_W _ ([((xa 10), .inr (7, [.ref hc, .int tm])), (hc, .inl (X.2.1, 16, .inl tf))]) (@HAppend.hAppend va_W va_W va_W _ (odW (xa 11) vo) (@HAppend.hAppend va_W va_W va_W _ (duW X (xa 12) da gd) (@HAppend.hAppend va_W va_W va_W _ ([((xa 13), .inl (X.2.1, 6, .inl fk))]) (@HAppend.hAppend va_W va_W va_W _ (mW m0 ma lc ld n t vt) (@HAppend.hAppend va_W va_W va_W _ ([((ma 0), .inl (X.2.1, 371, .inl fa))]) (@HAppend.hAppend va_W va_W va_W _ ([((ma 1), .inl (X.2.1, 742, .inl fK))]) (@HAppend.hAppend va_W va_W va_W _ ([((ma 2), .inl (X.2.2.1, 2, .inl fz))]) (@HAppend.hAppend va_W va_W va_W _ ([((ma 3), .inl (X.2.1, 3, .inl fR))]) (@HAppend.hAppend va_W va_W va_W _ ([((ma 6), .inl (X.2.1, 55, .inl fh))]) (@HAppend.hAppend va_W va_W va_W _ ([((ma 7), .inl (X.2.1, 6, .inl fg))]) (@HAppend.hAppend va_W va_W va_W _ ([((ma 8), .inl (X.2.1, 10, .inl ft))]) (@HAppend.hAppend va_W va_W va_W _ ([((ma 9), .inl (X.2.1, 20, .inl fb))]) (@HAppend.hAppend va_W va_W va_W _ ([((ma 10), .inl (X.2.1, 150, .inl fd))]) (@HAppend.hAppend va_W va_W va_W _ ([((ma 16), .inl (X.2.1, 123, .inl fw))]) ([((ma 17), .inl (X.2.1, 3, .inl fv))])))))))))))))))))))))))) G rfl rfl [0, 1, 2, 3, 4, 5, 6, 7, 8, 9, 10, 11, 12, 13, 14, 15, 16, 69] [17, 18, 19, 20, 21, 22, 23, 24, 25, 26, 27, 28, 29, 30, 31, 32, 33, 34, 35, 36, 37, 38, 39, 40, 41, 42, 43, 44, 45, 46, 47, 48, 49, 50, 51, 52, 53, 54, 55, 56, 57, 58, 59, 60, 61, 62, 63, 64, 65, 66, 67, 68, 70, 71, 72, 73, 74, 75, 76, 77, 78, 79, 80, 81, 82, 83, 84, 85, 86, 87, 88, 89, 90, 91, 92, 93] rfl rfl rfl rfl (n_V (As := [.int (xs (zi + 1)), .int (xs (zi + 2))]) (rest := []) (C := RX10) (T := TX10) (N := 14) (ci := 8) S G (s_of l X h0 nw sp xa la lb an sv dv n0 n1 n2 n3 n4 g0 gs gn gm fr (xs (zi + 1)) (xs (zi + 2)) hI_n0 hI_n1 hI_n2 hI_n3 hI_n4 H.size) gL_law_X10_of rfl rfl rfl hdV_X10_of ⟨Nat.le_of_ble_eq_true rfl, Nat.le_of_ble_eq_true rfl⟩ [0, 1, 2, 3, 4, 5, 6, 7, 8, 9, 10, 11, 12, 13, 14, 15, 16, 69] rfl rfl 0 rfl rfl rfl hl.1 (Nat.le_of_ble_eq_true rfl) dL_law_424 ⟨Nat.le_of_ble_eq_true rfl, Nat.le_of_ble_eq_true rfl⟩) (fun r_1 u_1 H locs hp_1 G => ?_)
  obtain ⟨f_1, rfl⟩ : ∃ z, z = u_1 := ⟨_, rfl⟩
  have hq_1 := hp_1
  refine lv_pop zx zb dL_law_427 rfl ?_
  refine lv_aload_n zx zb dL_law_428 rfl (lv_at hl 1 rfl) ?_
  refine lv_aload_n zx zb dL_law_429 rfl (lv_at hl 3 rfl) ?_
  refine lv_iload_n zx zb dL_law_430 rfl (lv_at hl 0 rfl) ?_
  refine lv_iconst (v := 1) zx zb dL_law_431 (by decide) ?_
  refine r_iadd (v := (nI (zi + 1))) S (nI_add zi 1) dL_law_432 ?_
  refine va_sld zx zb hX hbl hbA G.2.2.2.1 (vp_in_nI (by omega) (by omega)) dL_law_433 ?_
  refine k_it (v := xs (zi + 1)) (congrArg xs (nI_clamp (by omega))) ?_
  refine lv_aload_n zx zb dL_law_434 rfl (lv_at hl 3 rfl) ?_
  refine lv_iload_n zx zb dL_law_435 rfl (lv_at hl 0 rfl) ?_
  refine lv_iconst (v := 2) zx zb dL_law_436 (by decide) ?_
  refine r_iadd (v := (nI (zi + 2))) S (nI_add zi 2) dL_law_437 ?_
  refine va_sld zx zb hX hbl hbA G.2.2.2.1 (vp_in_nI (by omega) (by omega)) dL_law_438 ?_
  refine k_it (v := xs (zi + 2)) (congrArg xs (nI_clamp (by omega))) ?_
  refine b_wi (cells' := 94) (slots' := 3522) (wr := @HAppend.hAppend va_W va_W va_W _ (rcV X sp ap svp dvp n0p n1p n2p n3p n4p g0p gsp gnp gmp) (@HAppend.hAppend va_W va_W va_W _ ([((xa 2), .inl (X.2.2.2.1, 2, .inr (.inr (.inr (.inr (imQ i0 i1))))))]) (@HAppend.hAppend va_W va_W va_W _ (rcV X i0 ai svi dvi n0i n1i n2i n3i n4i g0i gsi gni gmi) (@HAppend.hAppend va_W va_W va_W _ (rcV X i1 aj svj dvj n0j n1j n2j n3j n4j g0j gsj gnj gmj) (@HAppend.hAppend va_W va_W va_W _ ([((xa 3), .inl (X.2.2.1, 2, .inl fz))]) (@HAppend.hAppend va_W va_W va_W _ (rdV X (xa 4) hb n bd vd fd) (@HAppend.hAppend va_W va_W va_W _ (rnV (xa 8) ag dg) (@HAppend.hAppend va_W va_W va_W _ (rnV (xa 9) ar dr) (@HAppend.hAppend va_W va_W va_W _ ([((xa 10), .inr (7, [.ref hc, .int tm])), (hc, .inl (X.2.1, 16, .inl tf))]) (@HAppend.hAppend va_W va_W va_W _ (odW (xa 11) vo) (@HAppend.hAppend va_W va_W va_W _ (duW X (xa 12) da gd) (@HAppend.hAppend va_W va_W va_W _ ([((xa 13), .inl (X.2.1, 6, .inl fk))]) (@HAppend.hAppend va_W va_W va_W _ ([((ma 1), .inl (X.2.1, 742, .inl fK))]) (@HAppend.hAppend va_W va_W va_W _ ([((ma 2), .inl (X.2.2.1, 2, .inl fz))]) (@HAppend.hAppend va_W va_W va_W _ ([((ma 6), .inl (X.2.1, 55, .inl fh))]) (@HAppend.hAppend va_W va_W va_W _ ([((ma 7), .inl (X.2.1, 6, .inl fg))]) (@HAppend.hAppend va_W va_W va_W _ ([((ma 8), .inl (X.2.1, 10, .inl ft))]) (@HAppend.hAppend va_W va_W va_W _ ([((ma 9), .inl (X.2.1, 20, .inl fb))]) (@HAppend.hAppend va_W va_W va_W _ ([((ma 10), .inl (X.2.1, 150, .inl fd))]) (@HAppend.hAppend va_W va_W va_W _ ([((ma 16), .inl (X.2.1, 123, .inl fw))]) (@HAppend.hAppend va_W va_W va_W _ ([((ma 17), .inl (X.2.1, 3, .inl fv))]) (@HAppend.hAppend va_W va_W va_W _ (xW h0 nw sp xa la lb) (@HAppend.hAppend va_W va_W va_W _ (rcV X nw an sv dv n0 n1 n2 n3 n4 g0 gs gn gm) ([((xa 5), .inl (X.2.1, 3, .inl f_1))])))))))))))))))))))))))) G rfl rfl [64, 65, 68] [0, 1, 2, 3, 4, 5, 6, 7, 8, 9, 10, 11, 12, 13, 14, 15, 16, 17, 18, 19, 20, 21, 22, 23, 24, 25, 26, 27, 28, 29, 30, 31, 32, 33, 34, 35, 36, 37, 38, 39, 40, 41, 42, 43, 44, 45, 46, 47, 48, 49, 50, 51, 52, 53, 54, 55, 56, 57, 58, 59, 60, 61, 62, 63, 66, 67, 69, 70, 71, 72, 73, 74, 75, 76, 77, 78, 79, 80, 81, 82, 83, 84, 85, 86, 87, 88, 89, 90, 91, 92, 93] rfl rfl rfl rfl (n_V (As := [.int (xs (zi + 1)), .int (xs (zi + 2))]) (rest := []) (C := RX11) (T := TX11) (N := 18) (ci := 9) S G (m_of l X m0 ma lc ld n t vt fa n0 n2 n3 n4 u4 fR (xs (zi + 1)) (xs (zi + 2)) hI_n hI_t hI_fa H.size) gL_law_X11_of rfl rfl rfl hdV_X11_of ⟨Nat.le_of_ble_eq_true rfl, Nat.le_of_ble_eq_true rfl⟩ [64, 65, 68] rfl rfl 64 rfl rfl rfl hl.1 (Nat.le_of_ble_eq_true rfl) dL_law_439 ⟨Nat.le_of_ble_eq_true rfl, Nat.le_of_ble_eq_true rfl⟩) (fun r_2 u_2 H locs hp_2 G => ?_)
  obtain ⟨f_2, rfl⟩ : ∃ z, z = u_2 := ⟨_, rfl⟩
  have hq_2 := hp_2
  refine lv_pop zx zb dL_law_442 rfl ?_
  refine lv_goto (tgt := 1277) zx zb dL_law_443 (by decide) ?_
  have G : wd X (fun q : Nat => s.heap.size ≤ q) (fun q : Nat => s.heap.size ≤ q) s (@HAppend.hAppend va_W va_W va_W _ (xW h0 nw sp xa la lb) (@HAppend.hAppend va_W va_W va_W _ (rcV X nw an sv dv n0 n1 n2 n3 n4 g0 gs gn gm) (@HAppend.hAppend va_W va_W va_W _ (rcV X sp ap svp dvp n0p n1p n2p n3p n4p g0p gsp gnp gmp) (@HAppend.hAppend va_W va_W va_W _ ([((xa 2), .inl (X.2.2.2.1, 2, .inr (.inr (.inr (.inr (imQ i0 i1))))))]) (@HAppend.hAppend va_W va_W va_W _ (rcV X i0 ai svi dvi n0i n1i n2i n3i n4i g0i gsi gni gmi) (@HAppend.hAppend va_W va_W va_W _ (rcV X i1 aj svj dvj n0j n1j n2j n3j n4j g0j gsj gnj gmj) (@HAppend.hAppend va_W va_W va_W _ ([((xa 3), .inl (X.2.2.1, 2, .inl fz))]) (@HAppend.hAppend va_W va_W va_W _ (rdV X (xa 4) hb n bd vd fd) (@HAppend.hAppend va_W va_W va_W _ ([((xa 5), .inl (X.2.1, 3, .inl f_1))]) (@HAppend.hAppend va_W va_W va_W _ (rnV (xa 8) ag dg) (@HAppend.hAppend va_W va_W va_W _ (rnV (xa 9) ar dr) (@HAppend.hAppend va_W va_W va_W _ ([((xa 10), .inr (7, [.ref hc, .int tm])), (hc, .inl (X.2.1, 16, .inl tf))]) (@HAppend.hAppend va_W va_W va_W _ (odW (xa 11) vo) (@HAppend.hAppend va_W va_W va_W _ (duW X (xa 12) da gd) (@HAppend.hAppend va_W va_W va_W _ ([((xa 13), .inl (X.2.1, 6, .inl fk))]) (@HAppend.hAppend va_W va_W va_W _ (mW m0 ma lc ld n t vt) (@HAppend.hAppend va_W va_W va_W _ ([((ma 0), .inl (X.2.1, 371, .inl fa))]) (@HAppend.hAppend va_W va_W va_W _ ([((ma 1), .inl (X.2.1, 742, .inl fK))]) (@HAppend.hAppend va_W va_W va_W _ ([((ma 2), .inl (X.2.2.1, 2, .inl fz))]) (@HAppend.hAppend va_W va_W va_W _ ([((ma 3), .inl (X.2.1, 3, .inl f_2))]) (@HAppend.hAppend va_W va_W va_W _ ([((ma 6), .inl (X.2.1, 55, .inl fh))]) (@HAppend.hAppend va_W va_W va_W _ ([((ma 7), .inl (X.2.1, 6, .inl fg))]) (@HAppend.hAppend va_W va_W va_W _ ([((ma 8), .inl (X.2.1, 10, .inl ft))]) (@HAppend.hAppend va_W va_W va_W _ ([((ma 9), .inl (X.2.1, 20, .inl fb))]) (@HAppend.hAppend va_W va_W va_W _ ([((ma 10), .inl (X.2.1, 150, .inl fd))]) (@HAppend.hAppend va_W va_W va_W _ ([((ma 16), .inl (X.2.1, 123, .inl fw))]) ([((ma 17), .inl (X.2.1, 3, .inl fv))]))))))))))))))))))))))))))) H locs := wd_sub G [73, 74, 75, 76, 77, 78, 79, 80, 81, 82, 83, 84, 85, 86, 87, 88, 89, 0, 1, 2, 3, 4, 5, 6, 7, 8, 9, 10, 11, 12, 13, 14, 15, 16, 17, 18, 19, 20, 21, 22, 23, 24, 25, 26, 27, 28, 29, 30, 31, 32, 33, 34, 35, 36, 37, 38, 39, 40, 41, 42, 43, 44, 45, 46, 47, 48, 49, 50, 51, 90, 52, 53, 54, 55, 56, 57, 58, 59, 60, 61, 62, 63, 91, 92, 64, 65, 93, 66, 67, 68, 69, 70, 71, 72] rfl rfl
  exact kk _ _ _ (LW_i nw sp xa la lb an sv dv n0 n1 n2 n3 n4 g0 gs gn gm ap svp dvp n0p n1p n2p n3p n4p g0p gsp gnp gmp i0 i1 ai svi dvi n0i n1i n2i n3i n4i g0i gsi gni gmi aj svj dvj n0j n1j n2j n3j n4j g0j gsj gnj gmj fz hb n bd vd fd f_1 ag dg ar dr hc tm tf vo da gd fk ma lc ld t vt fa u4 fK u5 u6 f_2 fh d0 d1 d2 d3 d4 fg ft fb fw w0 w1 w2 w3 w4 fv ⟨hI_n0, hI_n1, hI_n2, hI_n3, hI_n4, hI_n0p, hI_n1p, hI_n2p, hI_n3p, hI_n4p, hI_n0i, hI_n1i, hI_n2i, hI_n3i, hI_n4i, hI_n0j, hI_n1j, hI_n2j, hI_n3j, hI_n4j, hI_n, hI_bd, hI_t, hI_fa, hI_fK, hI_fh, hI_fw⟩ ⟨hR0, hR1, hR2⟩ G) hl
theorem hdV_X10_where : yX10_where.cls = RX10 ∧ yX10_where.cls ≠ "java/lang/invoke/MethodHandle" ∧ yX10_where.cls ≠ "java/lang/invoke/VarHandle" ∧ (parseMethodDescriptor yX10_where.desc).map (fun d => d.parameters.length) = some 2 := by decide +kernel
theorem hdV_X11_where : yX11_where.cls = RX11 ∧ yX11_where.cls ≠ "java/lang/invoke/MethodHandle" ∧ yX11_where.cls ≠ "java/lang/invoke/VarHandle" ∧ (parseMethodDescriptor yX11_where.desc).map (fun d => d.parameters.length) = some 2 := by decide +kernel
set_option maxRecDepth 100000 in
set_option maxHeartbeats 8000000 in
theorem lc_10 (S : CallFix p m c cL_law 4 s #[Value.ref b] wsL_law RL) (hX : va_X b L xs s s.heap) (hbl : b < s.heap.size) (hL : L ≤ 3072) (hzi : zi + 6 ≤ L) (hZ : sE K (fun q : Nat => s.heap.size ≤ q) s s.heap) (hW : LW X h0 m0 s H locs) (hl : lv_has ls 4 [(3, .int (nI zi)), (2, .ref m0), (1, .ref h0), (0, .ref b)]) (kk : ∀ (H : Heap) (locs : List Loc) (ls : Array Slot), LW X h0 m0 s H locs → lv_has ls 4 [(3, .int (nI zi)), (2, .ref m0), (1, .ref h0), (0, .ref b)] → W p l e room_1 s m #[Value.ref b] below meth c H locs 94 3522 Q (F0 m 1277 ls [])) : W p l e room_1 s m #[Value.ref b] below meth c H locs 94 3522 Q (F0 m 446 ls []) := by
  have zx := S.1
  have zb := S.2.1
  have hbA : ¬ (fun q : Nat => s.heap.size ≤ q) b := Nat.not_le.mpr hbl
  refine LW_e hW (fun nw sp xa la lb an sv dv n0 n1 n2 n3 n4 g0 gs gn gm ap svp dvp n0p n1p n2p n3p n4p g0p gsp gnp gmp i0 i1 ai svi dvi n0i n1i n2i n3i n4i g0i gsi gni gmi aj svj dvj n0j n1j n2j n3j n4j g0j gsj gnj gmj fz hb n bd vd fd fr ag dg ar dr hc tm tf vo da gd fk ma lc ld t vt fa u4 fK u5 u6 fR fh d0 d1 d2 d3 d4 fg ft fb fw w0 w1 w2 w3 w4 fv hIV hRL G => ?_)
  obtain ⟨hR0, hR1, hR2⟩ := hRL
  obtain ⟨hI_n0, hI_n1, hI_n2, hI_n3, hI_n4, hI_n0p, hI_n1p, hI_n2p, hI_n3p, hI_n4p, hI_n0i, hI_n1i, hI_n2i, hI_n3i, hI_n4i, hI_n0j, hI_n1j, hI_n2j, hI_n3j, hI_n4j, hI_n, hI_bd, hI_t, hI_fa, hI_fK, hI_fh, hI_fw⟩ := hIV
  have hO_bd := hI_bd
  obtain ⟨hd0_bd, hd1_bd⟩ := hO_bd
  have hO_t := hI_t
  obtain ⟨ht0_t, ht1_t⟩ := hO_t
  have hO_fa := hI_fa.2
  obtain ⟨hm0_fa, hm1_fa, hm2_fa, hm3_fa, hm4_fa⟩ := hO_fa
  have hO_fh := hI_fh.2
  obtain ⟨hm0_fh, hm1_fh, hm2_fh, hm3_fh, hm4_fh⟩ := hO_fh
  have hO_fw := hI_fw.2
  obtain ⟨hm0_fw, hm1_fw, hm2_fw, hm3_fw, hm4_fw⟩ := hO_fw
  refine lv_aload_n zx zb dL_law_446 rfl (lv_at hl 2 rfl) ?_
  refine lv_aload_n zx zb dL_law_447 rfl (lv_at hl 3 rfl) ?_
  refine lv_iload_n zx zb dL_law_448 rfl (lv_at hl 0 rfl) ?_
  refine lv_iconst (v := 1) zx zb dL_law_449 (by decide) ?_
  refine r_iadd (v := (nI (zi + 1))) S (nI_add zi 1) dL_law_450 ?_
  refine va_sld zx zb hX hbl hbA G.2.2.2.1 (vp_in_nI (by omega) (by omega)) dL_law_451 ?_
  refine k_it (v := xs (zi + 1)) (congrArg xs (nI_clamp (by omega))) ?_
  refine lv_aload_n zx zb dL_law_452 rfl (lv_at hl 3 rfl) ?_
  refine lv_iload_n zx zb dL_law_453 rfl (lv_at hl 0 rfl) ?_
  refine lv_iconst (v := 2) zx zb dL_law_454 (by decide) ?_
  refine r_iadd (v := (nI (zi + 2))) S (nI_add zi 2) dL_law_455 ?_
  refine va_sld zx zb hX hbl hbA G.2.2.2.1 (vp_in_nI (by omega) (by omega)) dL_law_456 ?_
  refine k_it (v := xs (zi + 2)) (congrArg xs (nI_clamp (by omega))) ?_
  refine b_wi (cells' := 94) (slots' := 3522) (wr := @HAppend.hAppend va_W va_W va_W _ (rcV X sp ap svp dvp n0p n1p n2p n3p n4p g0p gsp gnp gmp) (@HAppend.hAppend va_W va_W va_W _ ([((xa 2), .inl (X.2.2.2.1, 2, .inr (.inr (.inr (.inr (imQ i0 i1))))))]) (@HAppend.hAppend va_W va_W va_W _ (rcV X i0 ai svi dvi n0i n1i n2i n3i n4i g0i gsi gni gmi) (@HAppend.hAppend va_W va_W va_W _ (rcV X i1 aj svj dvj n0j n1j n2j n3j n4j g0j gsj gnj gmj) (@HAppend.hAppend va_W va_W va_W _ ([((xa 3), .inl (X.2.2.1, 2, .inl fz))]) (@HAppend.hAppend va_W va_W va_W _ (rdV X (xa 4) hb n bd vd fd) (@HAppend.hAppend va_W va_W va_W _ (rnV (xa 9) ar dr) (@HAppend.hAppend va_W va_W va_W _ ([((xa 10), .inr (7, [.ref hc, .int tm])), (hc, .inl (X.2.1, 16, .inl tf))]) (@HAppend.hAppend va_W va_W va_W _ (odW (xa 11) vo) (@HAppend.hAppend va_W va_W va_W _ (duW X (xa 12) da gd) (@HAppend.hAppend va_W va_W va_W _ ([((xa 13), .inl (X.2.1, 6, .inl fk))]) (@HAppend.hAppend va_W va_W va_W _ (mW m0 ma lc ld n t vt) (@HAppend.hAppend va_W va_W va_W _ ([((ma 0), .inl (X.2.1, 371, .inl fa))]) (@HAppend.hAppend va_W va_W va_W _ ([((ma 1), .inl (X.2.1, 742, .inl fK))]) (@HAppend.hAppend va_W va_W va_W _ ([((ma 2), .inl (X.2.2.1, 2, .inl fz))]) (@HAppend.hAppend va_W va_W va_W _ ([((ma 3), .inl (X.2.1, 3, .inl fR))]) (@HAppend.hAppend va_W va_W va_W _ ([((ma 6), .inl (X.2.1, 55, .inl fh))]) (@HAppend.hAppend va_W va_W va_W _ ([((ma 7), .inl (X.2.1, 6, .inl fg))]) (@HAppend.hAppend va_W va_W va_W _ ([((ma 8), .inl (X.2.1, 10, .inl ft))]) (@HAppend.hAppend va_W va_W va_W _ ([((ma 9), .inl (X.2.1, 20, .inl fb))]) (@HAppend.hAppend va_W va_W va_W _ ([((ma 10), .inl (X.2.1, 150, .inl fd))]) (@HAppend.hAppend va_W va_W va_W _ ([((ma 16), .inl (X.2.1, 123, .inl fw))]) ([((ma 17), .inl (X.2.1, 3, .inl fv))]))))))))))))))))))))))) G rfl rfl [0, 1, 2, 3, 4, 5, 6, 7, 8, 9, 10, 11, 12, 13, 14, 15, 16, 70, 69] [17, 18, 19, 20, 21, 22, 23, 24, 25, 26, 27, 28, 29, 30, 31, 32, 33, 34, 35, 36, 37, 38, 39, 40, 41, 42, 43, 44, 45, 46, 47, 48, 49, 50, 51, 52, 53, 54, 55, 56, 57, 58, 59, 60, 61, 62, 63, 64, 65, 66, 67, 68, 71, 72, 73, 74, 75, 76, 77, 78, 79, 80, 81, 82, 83, 84, 85, 86, 87, 88, 89, 90, 91, 92, 93] rfl rfl rfl rfl (n_V (As := [.int (xs (zi + 1)), .int (xs (zi + 2))]) (rest := []) (C := RX10) (T := TX10) (N := 14) (ci := 8) S G (s_where l X h0 nw sp xa la lb an sv dv n0 n1 n2 n3 n4 g0 gs gn gm ag dg fr (xs (zi + 1)) (xs (zi + 2)) hI_n0 hI_n1 hI_n2 hI_n3 hI_n4 H.size) gL_law_X10_where rfl rfl rfl hdV_X10_where ⟨Nat.le_of_ble_eq_true rfl, Nat.le_of_ble_eq_true rfl⟩ [0, 1, 2, 3, 4, 5, 6, 7, 8, 9, 10, 11, 12, 13, 14, 15, 16, 70, 69] rfl rfl 0 rfl rfl rfl hl.1 (Nat.le_of_ble_eq_true rfl) dL_law_457 ⟨Nat.le_of_ble_eq_true rfl, Nat.le_of_ble_eq_true rfl⟩) (fun r_1 u_1 H locs hp_1 G => ?_)
  obtain ⟨a_1a, d_1b, f_1c⟩ := u_1
  have hq_1 := hp_1
  refine lv_pop zx zb dL_law_460 rfl ?_
  refine lv_aload_n zx zb dL_law_461 rfl (lv_at hl 1 rfl) ?_
  refine lv_aload_n zx zb dL_law_462 rfl (lv_at hl 3 rfl) ?_
  refine lv_iload_n zx zb dL_law_463 rfl (lv_at hl 0 rfl) ?_
  refine lv_iconst (v := 1) zx zb dL_law_464 (by decide) ?_
  refine r_iadd (v := (nI (zi + 1))) S (nI_add zi 1) dL_law_465 ?_
  refine va_sld zx zb hX hbl hbA G.2.2.2.1 (vp_in_nI (by omega) (by omega)) dL_law_466 ?_
  refine k_it (v := xs (zi + 1)) (congrArg xs (nI_clamp (by omega))) ?_
  refine lv_aload_n zx zb dL_law_467 rfl (lv_at hl 3 rfl) ?_
  refine lv_iload_n zx zb dL_law_468 rfl (lv_at hl 0 rfl) ?_
  refine lv_iconst (v := 2) zx zb dL_law_469 (by decide) ?_
  refine r_iadd (v := (nI (zi + 2))) S (nI_add zi 2) dL_law_470 ?_
  refine va_sld zx zb hX hbl hbA G.2.2.2.1 (vp_in_nI (by omega) (by omega)) dL_law_471 ?_
  refine k_it (v := xs (zi + 2)) (congrArg xs (nI_clamp (by omega))) ?_
  refine b_wi (cells' := 94) (slots' := 3522) (wr := @HAppend.hAppend va_W va_W va_W _ (rcV X sp ap svp dvp n0p n1p n2p n3p n4p g0p gsp gnp gmp) (@HAppend.hAppend va_W va_W va_W _ ([((xa 2), .inl (X.2.2.2.1, 2, .inr (.inr (.inr (.inr (imQ i0 i1))))))]) (@HAppend.hAppend va_W va_W va_W _ (rcV X i0 ai svi dvi n0i n1i n2i n3i n4i g0i gsi gni gmi) (@HAppend.hAppend va_W va_W va_W _ (rcV X i1 aj svj dvj n0j n1j n2j n3j n4j g0j gsj gnj gmj) (@HAppend.hAppend va_W va_W va_W _ ([((xa 3), .inl (X.2.2.1, 2, .inl fz))]) (@HAppend.hAppend va_W va_W va_W _ (rdV X (xa 4) hb n bd vd fd) (@HAppend.hAppend va_W va_W va_W _ (rnV (xa 9) ar dr) (@HAppend.hAppend va_W va_W va_W _ ([((xa 10), .inr (7, [.ref hc, .int tm])), (hc, .inl (X.2.1, 16, .inl tf))]) (@HAppend.hAppend va_W va_W va_W _ (odW (xa 11) vo) (@HAppend.hAppend va_W va_W va_W _ (duW X (xa 12) da gd) (@HAppend.hAppend va_W va_W va_W _ ([((xa 13), .inl (X.2.1, 6, .inl fk))]) (@HAppend.hAppend va_W va_W va_W _ ([((ma 1), .inl (X.2.1, 742, .inl fK))]) (@HAppend.hAppend va_W va_W va_W _ ([((ma 2), .inl (X.2.2.1, 2, .inl fz))]) (@HAppend.hAppend va_W va_W va_W _ ([((ma 7), .inl (X.2.1, 6, .inl fg))]) (@HAppend.hAppend va_W va_W va_W _ ([((ma 8), .inl (X.2.1, 10, .inl ft))]) (@HAppend.hAppend va_W va_W va_W _ ([((ma 9), .inl (X.2.1, 20, .inl fb))]) (@HAppend.hAppend va_W va_W va_W _ ([((ma 10), .inl (X.2.1, 150, .inl fd))]) (@HAppend.hAppend va_W va_W va_W _ ([((ma 16), .inl (X.2.1, 123, .inl fw))]) (@HAppend.hAppend va_W va_W va_W _ ([((ma 17), .inl (X.2.1, 3, .inl fv))]) (@HAppend.hAppend va_W va_W va_W _ (xW h0 nw sp xa la lb) (@HAppend.hAppend va_W va_W va_W _ (rcV X nw an sv dv n0 n1 n2 n3 n4 g0 gs gn gm) (@HAppend.hAppend va_W va_W va_W _ (rnV (xa 8) a_1a d_1b) ([((xa 5), .inl (X.2.1, 3, .inl f_1c))]))))))))))))))))))))))) G rfl rfl [63, 64, 68, 67] [0, 1, 2, 3, 4, 5, 6, 7, 8, 9, 10, 11, 12, 13, 14, 15, 16, 17, 18, 19, 20, 21, 22, 23, 24, 25, 26, 27, 28, 29, 30, 31, 32, 33, 34, 35, 36, 37, 38, 39, 40, 41, 42, 43, 44, 45, 46, 47, 48, 49, 50, 51, 52, 53, 54, 55, 56, 57, 58, 59, 60, 61, 62, 65, 66, 69, 70, 71, 72, 73, 74, 75, 76, 77, 78, 79, 80, 81, 82, 83, 84, 85, 86, 87, 88, 89, 90, 91, 92, 93] rfl rfl rfl rfl (n_V (As := [.int (xs (zi + 1)), .int (xs (zi + 2))]) (rest := []) (C := RX11) (T := TX11) (N := 18) (ci := 9) S G (m_where l X m0 ma lc ld n t vt fa n0 n2 n3 n4 u4 fh d0 d1 d2 d3 d4 fR (xs (zi + 1)) (xs (zi + 2)) hI_n hI_t hI_fa hI_fh H.size) gL_law_X11_where rfl rfl rfl hdV_X11_where ⟨Nat.le_of_ble_eq_true rfl, Nat.le_of_ble_eq_true rfl⟩ [63, 64, 68, 67] rfl rfl 63 rfl rfl rfl hl.1 (Nat.le_of_ble_eq_true rfl) dL_law_472 ⟨Nat.le_of_ble_eq_true rfl, Nat.le_of_ble_eq_true rfl⟩) (fun r_2 u_2 H locs hp_2 G => ?_)
  obtain ⟨f_2a, c0_2b, c1_2c, c2_2d, c3_2e, c4_2f, f_2g⟩ := u_2
  try dsimp only at hp_2
  obtain ⟨hI_f_2a, hq_2⟩ := hp_2
  have hO_f_2a := hI_f_2a.2
  obtain ⟨hm0_f_2a, hm1_f_2a, hm2_f_2a, hm3_f_2a, hm4_f_2a⟩ := hO_f_2a
  refine lv_pop zx zb dL_law_475 rfl ?_
  refine lv_goto (tgt := 1277) zx zb dL_law_476 (by decide) ?_
  have G : wd X (fun q : Nat => s.heap.size ≤ q) (fun q : Nat => s.heap.size ≤ q) s (@HAppend.hAppend va_W va_W va_W _ (xW h0 nw sp xa la lb) (@HAppend.hAppend va_W va_W va_W _ (rcV X nw an sv dv n0 n1 n2 n3 n4 g0 gs gn gm) (@HAppend.hAppend va_W va_W va_W _ (rcV X sp ap svp dvp n0p n1p n2p n3p n4p g0p gsp gnp gmp) (@HAppend.hAppend va_W va_W va_W _ ([((xa 2), .inl (X.2.2.2.1, 2, .inr (.inr (.inr (.inr (imQ i0 i1))))))]) (@HAppend.hAppend va_W va_W va_W _ (rcV X i0 ai svi dvi n0i n1i n2i n3i n4i g0i gsi gni gmi) (@HAppend.hAppend va_W va_W va_W _ (rcV X i1 aj svj dvj n0j n1j n2j n3j n4j g0j gsj gnj gmj) (@HAppend.hAppend va_W va_W va_W _ ([((xa 3), .inl (X.2.2.1, 2, .inl fz))]) (@HAppend.hAppend va_W va_W va_W _ (rdV X (xa 4) hb n bd vd fd) (@HAppend.hAppend va_W va_W va_W _ ([((xa 5), .inl (X.2.1, 3, .inl f_1c))]) (@HAppend.hAppend va_W va_W va_W _ (rnV (xa 8) a_1a d_1b) (@HAppend.hAppend va_W va_W va_W _ (rnV (xa 9) ar dr) (@HAppend.hAppend va_W va_W va_W _ ([((xa 10), .inr (7, [.ref hc, .int tm])), (hc, .inl (X.2.1, 16, .inl tf))]) (@HAppend.hAppend va_W va_W va_W _ (odW (xa 11) vo) (@HAppend.hAppend va_W va_W va_W _ (duW X (xa 12) da gd) (@HAppend.hAppend va_W va_W va_W _ ([((xa 13), .inl (X.2.1, 6, .inl fk))]) (@HAppend.hAppend va_W va_W va_W _ (mW m0 ma lc ld n t vt) (@HAppend.hAppend va_W va_W va_W _ ([((ma 0), .inl (X.2.1, 371, .inl fa))]) (@HAppend.hAppend va_W va_W va_W _ ([((ma 1), .inl (X.2.1, 742, .inl fK))]) (@HAppend.hAppend va_W va_W va_W _ ([((ma 2), .inl (X.2.2.1, 2, .inl fz))]) (@HAppend.hAppend va_W va_W va_W _ ([((ma 3), .inl (X.2.1, 3, .inl f_2g))]) (@HAppend.hAppend va_W va_W va_W _ ([((ma 6), .inl (X.2.1, 55, .inl f_2a))]) (@HAppend.hAppend va_W va_W va_W _ ([((ma 7), .inl (X.2.1, 6, .inl fg))]) (@HAppend.hAppend va_W va_W va_W _ ([((ma 8), .inl (X.2.1, 10, .inl ft))]) (@HAppend.hAppend va_W va_W va_W _ ([((ma 9), .inl (X.2.1, 20, .inl fb))]) (@HAppend.hAppend va_W va_W va_W _ ([((ma 10), .inl (X.2.1, 150, .inl fd))]) (@HAppend.hAppend va_W va_W va_W _ ([((ma 16), .inl (X.2.1, 123, .inl fw))]) ([((ma 17), .inl (X.2.1, 3, .inl fv))]))))))))))))))))))))))))))) H locs := wd_sub G [71, 72, 73, 74, 75, 76, 77, 78, 79, 80, 81, 82, 83, 84, 85, 86, 87, 0, 1, 2, 3, 4, 5, 6, 7, 8, 9, 10, 11, 12, 13, 14, 15, 16, 17, 18, 19, 20, 21, 22, 23, 24, 25, 26, 27, 28, 29, 30, 31, 32, 33, 34, 35, 36, 37, 38, 39, 40, 41, 42, 43, 44, 45, 46, 47, 48, 49, 50, 51, 89, 88, 52, 53, 54, 55, 56, 57, 58, 59, 60, 61, 62, 90, 91, 63, 64, 93, 92, 65, 66, 67, 68, 69, 70] rfl rfl
  exact kk _ _ _ (LW_i nw sp xa la lb an sv dv n0 n1 n2 n3 n4 g0 gs gn gm ap svp dvp n0p n1p n2p n3p n4p g0p gsp gnp gmp i0 i1 ai svi dvi n0i n1i n2i n3i n4i g0i gsi gni gmi aj svj dvj n0j n1j n2j n3j n4j g0j gsj gnj gmj fz hb n bd vd fd f_1c a_1a d_1b ar dr hc tm tf vo da gd fk ma lc ld t vt fa u4 fK u5 u6 f_2g f_2a c0_2b c1_2c c2_2d c3_2e c4_2f fg ft fb fw w0 w1 w2 w3 w4 fv ⟨hI_n0, hI_n1, hI_n2, hI_n3, hI_n4, hI_n0p, hI_n1p, hI_n2p, hI_n3p, hI_n4p, hI_n0i, hI_n1i, hI_n2i, hI_n3i, hI_n4i, hI_n0j, hI_n1j, hI_n2j, hI_n3j, hI_n4j, hI_n, hI_bd, hI_t, hI_fa, hI_fK, hI_f_2a, hI_fw⟩ ⟨hR0, hR1, hR2⟩ G) hl
theorem hdV_X10_home : yX10_home.cls = RX10 ∧ yX10_home.cls ≠ "java/lang/invoke/MethodHandle" ∧ yX10_home.cls ≠ "java/lang/invoke/VarHandle" ∧ (parseMethodDescriptor yX10_home.desc).map (fun d => d.parameters.length) = some 1 := by decide +kernel
theorem hdV_X11_home : yX11_home.cls = RX11 ∧ yX11_home.cls ≠ "java/lang/invoke/MethodHandle" ∧ yX11_home.cls ≠ "java/lang/invoke/VarHandle" ∧ (parseMethodDescriptor yX11_home.desc).map (fun d => d.parameters.length) = some 1 := by decide +kernel
set_option maxRecDepth 100000 in
set_option maxHeartbeats 8000000 in
theorem lc_11 (S : CallFix p m c cL_law 4 s #[Value.ref b] wsL_law RL) (hX : va_X b L xs s s.heap) (hbl : b < s.heap.size) (hL : L ≤ 3072) (hzi : zi + 6 ≤ L) (hZ : sE K (fun q : Nat => s.heap.size ≤ q) s s.heap) (hW : LW X h0 m0 s H locs) (hl : lv_has ls 4 [(3, .int (nI zi)), (2, .ref m0), (1, .ref h0), (0, .ref b)]) (kk : ∀ (H : Heap) (locs : List Loc) (ls : Array Slot), LW X h0 m0 s H locs → lv_has ls 4 [(3, .int (nI zi)), (2, .ref m0), (1, .ref h0), (0, .ref b)] → W p l e room_1 s m #[Value.ref b] below meth c H locs 94 3522 Q (F0 m 1277 ls [])) : W p l e room_1 s m #[Value.ref b] below meth c H locs 94 3522 Q (F0 m 479 ls []) := by
  have zx := S.1
  have zb := S.2.1
  have hbA : ¬ (fun q : Nat => s.heap.size ≤ q) b := Nat.not_le.mpr hbl
  refine LW_e hW (fun nw sp xa la lb an sv dv n0 n1 n2 n3 n4 g0 gs gn gm ap svp dvp n0p n1p n2p n3p n4p g0p gsp gnp gmp i0 i1 ai svi dvi n0i n1i n2i n3i n4i g0i gsi gni gmi aj svj dvj n0j n1j n2j n3j n4j g0j gsj gnj gmj fz hb n bd vd fd fr ag dg ar dr hc tm tf vo da gd fk ma lc ld t vt fa u4 fK u5 u6 fR fh d0 d1 d2 d3 d4 fg ft fb fw w0 w1 w2 w3 w4 fv hIV hRL G => ?_)
  obtain ⟨hR0, hR1, hR2⟩ := hRL
  obtain ⟨hI_n0, hI_n1, hI_n2, hI_n3, hI_n4, hI_n0p, hI_n1p, hI_n2p, hI_n3p, hI_n4p, hI_n0i, hI_n1i, hI_n2i, hI_n3i, hI_n4i, hI_n0j, hI_n1j, hI_n2j, hI_n3j, hI_n4j, hI_n, hI_bd, hI_t, hI_fa, hI_fK, hI_fh, hI_fw⟩ := hIV
  have hO_bd := hI_bd
  obtain ⟨hd0_bd, hd1_bd⟩ := hO_bd
  have hO_t := hI_t
  obtain ⟨ht0_t, ht1_t⟩ := hO_t
  have hO_fa := hI_fa.2
  obtain ⟨hm0_fa, hm1_fa, hm2_fa, hm3_fa, hm4_fa⟩ := hO_fa
  have hO_fh := hI_fh.2
  obtain ⟨hm0_fh, hm1_fh, hm2_fh, hm3_fh, hm4_fh⟩ := hO_fh
  have hO_fw := hI_fw.2
  obtain ⟨hm0_fw, hm1_fw, hm2_fw, hm3_fw, hm4_fw⟩ := hO_fw
  refine lv_aload_n zx zb dL_law_479 rfl (lv_at hl 2 rfl) ?_
  refine lv_aload_n zx zb dL_law_480 rfl (lv_at hl 3 rfl) ?_
  refine lv_iload_n zx zb dL_law_481 rfl (lv_at hl 0 rfl) ?_
  refine lv_iconst (v := 1) zx zb dL_law_482 (by decide) ?_
  refine r_iadd (v := (nI (zi + 1))) S (nI_add zi 1) dL_law_483 ?_
  refine va_sld zx zb hX hbl hbA G.2.2.2.1 (vp_in_nI (by omega) (by omega)) dL_law_484 ?_
  refine k_it (v := xs (zi + 1)) (congrArg xs (nI_clamp (by omega))) ?_
  refine b_wi (cells' := 94) (slots' := 3522) (wr := @HAppend.hAppend va_W va_W va_W _ (rcV X sp ap svp dvp n0p n1p n2p n3p n4p g0p gsp gnp gmp) (@HAppend.hAppend va_W va_W va_W _ ([((xa 2), .inl (X.2.2.2.1, 2, .inr (.inr (.inr (.inr (imQ i0 i1))))))]) (@HAppend.hAppend va_W va_W va_W _ (rcV X i0 ai svi dvi n0i n1i n2i n3i n4i g0i gsi gni gmi) (@HAppend.hAppend va_W va_W va_W _ (rcV X i1 aj svj dvj n0j n1j n2j n3j n4j g0j gsj gnj gmj) (@HAppend.hAppend va_W va_W va_W _ ([((xa 3), .inl (X.2.2.1, 2, .inl fz))]) (@HAppend.hAppend va_W va_W va_W _ (rdV X (xa 4) hb n bd vd fd) (@HAppend.hAppend va_W va_W va_W _ (rnV (xa 9) ar dr) (@HAppend.hAppend va_W va_W va_W _ ([((xa 10), .inr (7, [.ref hc, .int tm])), (hc, .inl (X.2.1, 16, .inl tf))]) (@HAppend.hAppend va_W va_W va_W _ (odW (xa 11) vo) (@HAppend.hAppend va_W va_W va_W _ (duW X (xa 12) da gd) (@HAppend.hAppend va_W va_W va_W _ ([((xa 13), .inl (X.2.1, 6, .inl fk))]) (@HAppend.hAppend va_W va_W va_W _ (mW m0 ma lc ld n t vt) (@HAppend.hAppend va_W va_W va_W _ ([((ma 0), .inl (X.2.1, 371, .inl fa))]) (@HAppend.hAppend va_W va_W va_W _ ([((ma 1), .inl (X.2.1, 742, .inl fK))]) (@HAppend.hAppend va_W va_W va_W _ ([((ma 2), .inl (X.2.2.1, 2, .inl fz))]) (@HAppend.hAppend va_W va_W va_W _ ([((ma 3), .inl (X.2.1, 3, .inl fR))]) (@HAppend.hAppend va_W va_W va_W _ ([((ma 6), .inl (X.2.1, 55, .inl fh))]) (@HAppend.hAppend va_W va_W va_W _ ([((ma 7), .inl (X.2.1, 6, .inl fg))]) (@HAppend.hAppend va_W va_W va_W _ ([((ma 8), .inl (X.2.1, 10, .inl ft))]) (@HAppend.hAppend va_W va_W va_W _ ([((ma 9), .inl (X.2.1, 20, .inl fb))]) (@HAppend.hAppend va_W va_W va_W _ ([((ma 10), .inl (X.2.1, 150, .inl fd))]) (@HAppend.hAppend va_W va_W va_W _ ([((ma 16), .inl (X.2.1, 123, .inl fw))]) ([((ma 17), .inl (X.2.1, 3, .inl fv))]))))))))))))))))))))))) G rfl rfl [0, 1, 2, 3, 4, 5, 6, 7, 8, 9, 10, 11, 12, 13, 14, 15, 16, 70, 69] [17, 18, 19, 20, 21, 22, 23, 24, 25, 26, 27, 28, 29, 30, 31, 32, 33, 34, 35, 36, 37, 38, 39, 40, 41, 42, 43, 44, 45, 46, 47, 48, 49, 50, 51, 52, 53, 54, 55, 56, 57, 58, 59, 60, 61, 62, 63, 64, 65, 66, 67, 68, 71, 72, 73, 74, 75, 76, 77, 78, 79, 80, 81, 82, 83, 84, 85, 86, 87, 88, 89, 90, 91, 92, 93] rfl rfl rfl rfl (n_V (As := [.int (xs (zi + 1))]) (rest := []) (C := RX10) (T := TX10) (N := 14) (ci := 8) S G (s_home l X h0 nw sp xa la lb an sv dv n0 n1 n2 n3 n4 g0 gs gn gm ag dg fr (xs (zi + 1)) hI_n0 hI_n1 hI_n2 hI_n3 hI_n4 H.size) gL_law_X10_home rfl rfl rfl hdV_X10_home ⟨Nat.le_of_ble_eq_true rfl, Nat.le_of_ble_eq_true rfl⟩ [0, 1, 2, 3, 4, 5, 6, 7, 8, 9, 10, 11, 12, 13, 14, 15, 16, 70, 69] rfl rfl 0 rfl rfl rfl hl.1 (Nat.le_of_ble_eq_true rfl) dL_law_485 ⟨Nat.le_of_ble_eq_true rfl, Nat.le_of_ble_eq_true rfl⟩) (fun r_1 u_1 H locs hp_1 G => ?_)
  obtain ⟨a_1a, d_1b, f_1c⟩ := u_1
  have hq_1 := hp_1
  refine lv_pop zx zb dL_law_488 rfl ?_
  refine lv_aload_n zx zb dL_law_489 rfl (lv_at hl 1 rfl) ?_
  refine lv_aload_n zx zb dL_law_490 rfl (lv_at hl 3 rfl) ?_
  refine lv_iload_n zx zb dL_law_491 rfl (lv_at hl 0 rfl) ?_
  refine lv_iconst (v := 1) zx zb dL_law_492 (by decide) ?_
  refine r_iadd (v := (nI (zi + 1))) S (nI_add zi 1) dL_law_493 ?_
  refine va_sld zx zb hX hbl hbA G.2.2.2.1 (vp_in_nI (by omega) (by omega)) dL_law_494 ?_
  refine k_it (v := xs (zi + 1)) (congrArg xs (nI_clamp (by omega))) ?_
  refine b_wi (cells' := 94) (slots' := 3522) (wr := @HAppend.hAppend va_W va_W va_W _ (rcV X sp ap svp dvp n0p n1p n2p n3p n4p g0p gsp gnp gmp) (@HAppend.hAppend va_W va_W va_W _ ([((xa 2), .inl (X.2.2.2.1, 2, .inr (.inr (.inr (.inr (imQ i0 i1))))))]) (@HAppend.hAppend va_W va_W va_W _ (rcV X i0 ai svi dvi n0i n1i n2i n3i n4i g0i gsi gni gmi) (@HAppend.hAppend va_W va_W va_W _ (rcV X i1 aj svj dvj n0j n1j n2j n3j n4j g0j gsj gnj gmj) (@HAppend.hAppend va_W va_W va_W _ ([((xa 3), .inl (X.2.2.1, 2, .inl fz))]) (@HAppend.hAppend va_W va_W va_W _ (rdV X (xa 4) hb n bd vd fd) (@HAppend.hAppend va_W va_W va_W _ (rnV (xa 9) ar dr) (@HAppend.hAppend va_W va_W va_W _ ([((xa 10), .inr (7, [.ref hc, .int tm])), (hc, .inl (X.2.1, 16, .inl tf))]) (@HAppend.hAppend va_W va_W va_W _ (odW (xa 11) vo) (@HAppend.hAppend va_W va_W va_W _ (duW X (xa 12) da gd) (@HAppend.hAppend va_W va_W va_W _ ([((xa 13), .inl (X.2.1, 6, .inl fk))]) (@HAppend.hAppend va_W va_W va_W _ ([((ma 1), .inl (X.2.1, 742, .inl fK))]) (@HAppend.hAppend va_W va_W va_W _ ([((ma 2), .inl (X.2.2.1, 2, .inl fz))]) (@HAppend.hAppend va_W va_W va_W _ ([((ma 7), .inl (X.2.1, 6, .inl fg))]) (@HAppend.hAppend va_W va_W va_W _ ([((ma 8), .inl (X.2.1, 10, .inl ft))]) (@HAppend.hAppend va_W va_W va_W _ ([((ma 9), .inl (X.2.1, 20, .inl fb))]) (@HAppend.hAppend va_W va_W va_W _ ([((ma 10), .inl (X.2.1, 150, .inl fd))]) (@HAppend.hAppend va_W va_W va_W _ ([((ma 16), .inl (X.2.1, 123, .inl fw))]) (@HAppend.hAppend va_W va_W va_W _ ([((ma 17), .inl (X.2.1, 3, .inl fv))]) (@HAppend.hAppend va_W va_W va_W _ (xW h0 nw sp xa la lb) (@HAppend.hAppend va_W va_W va_W _ (rcV X nw an sv dv n0 n1 n2 n3 n4 g0 gs gn gm) (@HAppend.hAppend va_W va_W va_W _ (rnV (xa 8) a_1a d_1b) ([((xa 5), .inl (X.2.1, 3, .inl f_1c))]))))))))))))))))))))))) G rfl rfl [63, 64, 68, 67] [0, 1, 2, 3, 4, 5, 6, 7, 8, 9, 10, 11, 12, 13, 14, 15, 16, 17, 18, 19, 20, 21, 22, 23, 24, 25, 26, 27, 28, 29, 30, 31, 32, 33, 34, 35, 36, 37, 38, 39, 40, 41, 42, 43, 44, 45, 46, 47, 48, 49, 50, 51, 52, 53, 54, 55, 56, 57, 58, 59, 60, 61, 62, 65, 66, 69, 70, 71, 72, 73, 74, 75, 76, 77, 78, 79, 80, 81, 82, 83, 84, 85, 86, 87, 88, 89, 90, 91, 92, 93] rfl rfl rfl rfl (n_V (As := [.int (xs (zi + 1))]) (rest := []) (C := RX11) (T := TX11) (N := 18) (ci := 9) S G (m_home l X m0 ma lc ld n t vt fa n0 n2 n3 n4 u4 fh d0 d1 d2 d3 d4 fR (xs (zi + 1)) hI_n hI_t hI_fa hI_fh H.size) gL_law_X11_home rfl rfl rfl hdV_X11_home ⟨Nat.le_of_ble_eq_true rfl, Nat.le_of_ble_eq_true rfl⟩ [63, 64, 68, 67] rfl rfl 63 rfl rfl rfl hl.1 (Nat.le_of_ble_eq_true rfl) dL_law_495 ⟨Nat.le_of_ble_eq_true rfl, Nat.le_of_ble_eq_true rfl⟩) (fun r_2 u_2 H locs hp_2 G => ?_)
  obtain ⟨f_2a, c0_2b, c1_2c, c2_2d, c3_2e, c4_2f, f_2g⟩ := u_2
  try dsimp only at hp_2
  obtain ⟨hI_f_2a, hq_2⟩ := hp_2
  have hO_f_2a := hI_f_2a.2
  obtain ⟨hm0_f_2a, hm1_f_2a, hm2_f_2a, hm3_f_2a, hm4_f_2a⟩ := hO_f_2a
  refine lv_pop zx zb dL_law_498 rfl ?_
  refine lv_goto (tgt := 1277) zx zb dL_law_499 (by decide) ?_
  have G : wd X (fun q : Nat => s.heap.size ≤ q) (fun q : Nat => s.heap.size ≤ q) s (@HAppend.hAppend va_W va_W va_W _ (xW h0 nw sp xa la lb) (@HAppend.hAppend va_W va_W va_W _ (rcV X nw an sv dv n0 n1 n2 n3 n4 g0 gs gn gm) (@HAppend.hAppend va_W va_W va_W _ (rcV X sp ap svp dvp n0p n1p n2p n3p n4p g0p gsp gnp gmp) (@HAppend.hAppend va_W va_W va_W _ ([((xa 2), .inl (X.2.2.2.1, 2, .inr (.inr (.inr (.inr (imQ i0 i1))))))]) (@HAppend.hAppend va_W va_W va_W _ (rcV X i0 ai svi dvi n0i n1i n2i n3i n4i g0i gsi gni gmi) (@HAppend.hAppend va_W va_W va_W _ (rcV X i1 aj svj dvj n0j n1j n2j n3j n4j g0j gsj gnj gmj) (@HAppend.hAppend va_W va_W va_W _ ([((xa 3), .inl (X.2.2.1, 2, .inl fz))]) (@HAppend.hAppend va_W va_W va_W _ (rdV X (xa 4) hb n bd vd fd) (@HAppend.hAppend va_W va_W va_W _ ([((xa 5), .inl (X.2.1, 3, .inl f_1c))]) (@HAppend.hAppend va_W va_W va_W _ (rnV (xa 8) a_1a d_1b) (@HAppend.hAppend va_W va_W va_W _ (rnV (xa 9) ar dr) (@HAppend.hAppend va_W va_W va_W _ ([((xa 10), .inr (7, [.ref hc, .int tm])), (hc, .inl (X.2.1, 16, .inl tf))]) (@HAppend.hAppend va_W va_W va_W _ (odW (xa 11) vo) (@HAppend.hAppend va_W va_W va_W _ (duW X (xa 12) da gd) (@HAppend.hAppend va_W va_W va_W _ ([((xa 13), .inl (X.2.1, 6, .inl fk))]) (@HAppend.hAppend va_W va_W va_W _ (mW m0 ma lc ld n t vt) (@HAppend.hAppend va_W va_W va_W _ ([((ma 0), .inl (X.2.1, 371, .inl fa))]) (@HAppend.hAppend va_W va_W va_W _ ([((ma 1), .inl (X.2.1, 742, .inl fK))]) (@HAppend.hAppend va_W va_W va_W _ ([((ma 2), .inl (X.2.2.1, 2, .inl fz))]) (@HAppend.hAppend va_W va_W va_W _ ([((ma 3), .inl (X.2.1, 3, .inl f_2g))]) (@HAppend.hAppend va_W va_W va_W _ ([((ma 6), .inl (X.2.1, 55, .inl f_2a))]) (@HAppend.hAppend va_W va_W va_W _ ([((ma 7), .inl (X.2.1, 6, .inl fg))]) (@HAppend.hAppend va_W va_W va_W _ ([((ma 8), .inl (X.2.1, 10, .inl ft))]) (@HAppend.hAppend va_W va_W va_W _ ([((ma 9), .inl (X.2.1, 20, .inl fb))]) (@HAppend.hAppend va_W va_W va_W _ ([((ma 10), .inl (X.2.1, 150, .inl fd))]) (@HAppend.hAppend va_W va_W va_W _ ([((ma 16), .inl (X.2.1, 123, .inl fw))]) ([((ma 17), .inl (X.2.1, 3, .inl fv))]))))))))))))))))))))))))))) H locs := wd_sub G [71, 72, 73, 74, 75, 76, 77, 78, 79, 80, 81, 82, 83, 84, 85, 86, 87, 0, 1, 2, 3, 4, 5, 6, 7, 8, 9, 10, 11, 12, 13, 14, 15, 16, 17, 18, 19, 20, 21, 22, 23, 24, 25, 26, 27, 28, 29, 30, 31, 32, 33, 34, 35, 36, 37, 38, 39, 40, 41, 42, 43, 44, 45, 46, 47, 48, 49, 50, 51, 89, 88, 52, 53, 54, 55, 56, 57, 58, 59, 60, 61, 62, 90, 91, 63, 64, 93, 92, 65, 66, 67, 68, 69, 70] rfl rfl
  exact kk _ _ _ (LW_i nw sp xa la lb an sv dv n0 n1 n2 n3 n4 g0 gs gn gm ap svp dvp n0p n1p n2p n3p n4p g0p gsp gnp gmp i0 i1 ai svi dvi n0i n1i n2i n3i n4i g0i gsi gni gmi aj svj dvj n0j n1j n2j n3j n4j g0j gsj gnj gmj fz hb n bd vd fd f_1c a_1a d_1b ar dr hc tm tf vo da gd fk ma lc ld t vt fa u4 fK u5 u6 f_2g f_2a c0_2b c1_2c c2_2d c3_2e c4_2f fg ft fb fw w0 w1 w2 w3 w4 fv ⟨hI_n0, hI_n1, hI_n2, hI_n3, hI_n4, hI_n0p, hI_n1p, hI_n2p, hI_n3p, hI_n4p, hI_n0i, hI_n1i, hI_n2i, hI_n3i, hI_n4i, hI_n0j, hI_n1j, hI_n2j, hI_n3j, hI_n4j, hI_n, hI_bd, hI_t, hI_fa, hI_fK, hI_f_2a, hI_fw⟩ ⟨hR0, hR1, hR2⟩ G) hl
end LC
