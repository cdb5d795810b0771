/-! the walks of methods, as predicates -/
section XWK12
set_option maxRecDepth 20000 in
theorem aw_L_law_320 {G : GG} (hG : G.1.stackTraces = false) {P28 : Nat → Nat → Nat → Nat → Nat → Int32 → Nat → Nat → XH → Prop} {l0 : Nat} {l1 : Nat} {l2 : Nat} {l3 : Nat} {l4 : Nat} {l5 : Int32} {cc : Nat} {ss : Nat} {X : XH} {K : Int32 → XH → Prop} (hO28 : ∀ (l0 : Nat) (l1 : Nat) (l2 : Nat) (l3 : Nat) (l4 : Nat) (l5 : Int32) (cc : Nat) (ss : Nat) (X : XH), P28 l0 l1 l2 l3 l4 l5 cc ss X → AW G M_L_law 28 [(0, .ref 0), (1, .ref l1), (2, .ref l2), (3, .ref l3), (4, .ref l4), (5, .int l5)] [] X cc ss (KrI K)) (h : w_L_law_320 G P28 l0 l1 l2 l3 l4 l5 cc ss X K) : AW G M_L_law 320 [(0, .ref 0), (1, .ref l1), (2, .ref l2), (3, .ref l3), (4, .ref l4), (5, .int l5)] [] X cc ss (KrI K) := by
  unfold w_L_law_320 at h
  refine aw_aload_n 321 dL_law_320 rfl 1 rfl rfl ?_
  refine aw_aload_n 322 dL_law_321 rfl 0 rfl rfl ?_
  refine aw_iload 324 dL_law_322 5 rfl rfl ?_
  refine aw_iconst 325 (v := 1) dL_law_324 kI_1 rfl ?_
  refine aw_iadd 326 dL_law_325 rfl ?_
  obtain ⟨g1, h⟩ := h
  refine aw_sld 327 dL_law_326 g1 rfl ?_
  refine aw_aload_n 328 dL_law_327 rfl 0 rfl rfl ?_
  refine aw_iload 330 dL_law_328 5 rfl rfl ?_
  refine aw_iconst 331 (v := 2) dL_law_330 kI_2 rfl ?_
  refine aw_iadd 332 dL_law_331 rfl ?_
  obtain ⟨g2, h⟩ := h
  refine aw_sld 333 dL_law_332 g2 rfl ?_
  refine aw_aload_n 334 dL_law_333 rfl 0 rfl rfl ?_
  refine aw_iload 336 dL_law_334 5 rfl rfl ?_
  refine aw_iconst 337 (v := 3) dL_law_336 kI_3 rfl ?_
  refine aw_iadd 338 dL_law_337 rfl ?_
  obtain ⟨g3, h⟩ := h
  refine aw_sld 339 dL_law_338 g3 rfl ?_
  refine aw_aload_n 340 dL_law_339 rfl 3 rfl rfl ?_
  obtain ⟨g4, h⟩ := h
  obtain ⟨g5, h⟩ := h
  refine aw_callSX (M' := M_L_addClause) 343 190 [.ref _, .int _, .int _, .int _, .ref _] [] dL_law_340 lk_RL_190 ms_L_addClause mp_L_addClause (0, 12, 15, 13) [(0, 12, 19, 15), (0, 12, 23, 17)] rfl ⟨leb rfl, leb rfl⟩ rfl (leb rfl) g4 g5 rfl (am_L_addClause hG h) (kkI fun v7 X6 h => ?_) (kxN KrI.no)
  refine aw_widen (cc' := cc + 4) (ss' := ss + 24) (Nat.le_refl _) (Nat.le_refl _) ?_
  refine aw_istore 345 (lv' := [(6, _), (0, _), (1, _), (2, _), (3, _), (4, _), (5, _)]) dL_law_343 (ltb rfl) rfl rfl ?_
  refine aw_aload_n 346 dL_law_345 rfl 3 rfl rfl ?_
  refine aw_aload_n 347 dL_law_346 rfl 1 rfl rfl ?_
  refine aw_iload 349 dL_law_347 6 rfl rfl ?_
  refine aw_iconst 350 (v := 1) dL_law_349 kI_1 rfl ?_
  refine aw_iadd 351 dL_law_350 rfl ?_
  obtain ⟨g8, h⟩ := h
  refine aw_sld 352 dL_law_351 g8 rfl ?_
  refine aw_aload_n 353 dL_law_352 rfl 1 rfl rfl ?_
  refine aw_iload 355 dL_law_353 6 rfl rfl ?_
  refine aw_iconst 356 (v := 2) dL_law_355 kI_2 rfl ?_
  refine aw_iadd 357 dL_law_356 rfl ?_
  obtain ⟨g9, h⟩ := h
  refine aw_sld 358 dL_law_357 g9 rfl ?_
  refine aw_aload_n 359 dL_law_358 rfl 1 rfl rfl ?_
  refine aw_iload 361 dL_law_359 6 rfl rfl ?_
  refine aw_iconst 362 (v := 3) dL_law_361 kI_3 rfl ?_
  refine aw_iadd 363 dL_law_362 rfl ?_
  obtain ⟨g10, h⟩ := h
  refine aw_sld 364 dL_law_363 g10 rfl ?_
  obtain ⟨g11, h⟩ := h
  obtain ⟨g12, h⟩ := h
  obtain ⟨g15, h⟩ := h
  refine aw_callV (M' := M_X5_addClause) 367 195 5 l2 [.int _, .int _, .int _] [] dL_law_364 lk_RL_195 mv_X5_addClause mp_X5_addClause rfl ⟨leb rfl, leb rfl⟩ rfl (ltb rfl) g15 rfl (leb rfl) g11 g12 rfl (am_X5_addClause hG h) (kkI fun v14 X13 h => ?_) (kxN KrI.no)
  refine aw_widen (cc' := cc + 4) (ss' := ss + 24) (Nat.le_refl _) (Nat.le_refl _) ?_
  refine aw_istore 369 (lv' := [(7, _), (6, _), (0, _), (1, _), (2, _), (3, _), (4, _), (5, _)]) dL_law_367 (ltb rfl) rfl rfl ?_
  refine aw_aload_n 370 dL_law_369 rfl 4 rfl rfl ?_
  obtain ⟨g16, h⟩ := h
  obtain ⟨g17, h⟩ := h
  obtain ⟨g20, h⟩ := h
  refine aw_callV (M' := M_X5_thrown) 373 196 5 l2 [] [] dL_law_370 lk_RL_196 mv_X5_thrown mp_X5_thrown rfl ⟨leb rfl, leb rfl⟩ rfl (ltb rfl) g20 rfl (leb rfl) g16 g17 rfl (am_X5_thrown hG h) (kkI fun v19 X18 h => ?_) (kxN KrI.no)
  refine aw_widen (cc' := cc + 4) (ss' := ss + 24) (Nat.le_refl _) (Nat.le_refl _) ?_
  refine aw_iload 375 dL_law_373 1 rfl rfl ?_
  refine aw_icmp_eq 380 378 dL_law_375 rfl rfl (fun c21 => ?_) (fun c21 => ?_)
  · replace h := h.1 c21
    refine aw_iload 382 dL_law_380 1 rfl rfl ?_
    refine aw_if_ne 397 385 dL_law_382 rfl rfl (fun c22 => ?_) (fun c22 => ?_)
    · replace h := h.1 c22
      refine aw_goto 3937 dL_law_397 rfl ?_
      refine aw_iinc 3940 (v := 4) (lv' := [(5, _), (7, _), (6, _), (0, _), (1, _), (2, _), (3, _), (4, _)]) dL_law_3937 7 rfl kI_4 (ltb rfl) rfl rfl ?_
      refine aw_goto 28 dL_law_3940 rfl ?_
      exact aw_pick [3, 4, 5, 6, 7, 0] rfl (hO28 _ _ _ _ _ _ _ _ _ h)
    · replace h := h.2 c22
      refine aw_aload_n 386 dL_law_385 rfl 5 rfl rfl ?_
      refine aw_iconst 387 (v := 0) dL_law_386 kI_0 rfl ?_
      obtain ⟨g23, h⟩ := h
      obtain ⟨g24, h⟩ := h
      refine aw_laload 388 dL_law_387 g23 g24 rfl ?_
      refine aw_iload 390 dL_law_388 0 rfl rfl ?_
      refine aw_i2l 391 dL_law_390 rfl ?_
      refine aw_lcmp 392 dL_law_391 rfl ?_
      refine aw_if_eq 397 395 dL_law_392 rfl rfl (fun c25 => ?_) (fun c25 => ?_)
      · replace h := h.1 c25
        refine aw_goto 3937 dL_law_397 rfl ?_
        refine aw_iinc 3940 (v := 4) (lv' := [(5, _), (7, _), (6, _), (0, _), (1, _), (2, _), (3, _), (4, _)]) dL_law_3937 7 rfl kI_4 (ltb rfl) rfl rfl ?_
        refine aw_goto 28 dL_law_3940 rfl ?_
        exact aw_pick [3, 4, 5, 6, 7, 0] rfl (hO28 _ _ _ _ _ _ _ _ _ h)
      · replace h := h.2 c25
        refine aw_iconst 396 (v := 0) dL_law_395 kI_0 rfl ?_
        obtain ⟨g26, h⟩ := h
        obtain ⟨g27, h⟩ := h
        exact aw_ireturn (ty := .boolean) dL_law_396 rfl rfl g26 g27 ⟨_, rfl, h⟩
  · replace h := h.2 c21
    refine aw_iconst 379 (v := 0) dL_law_378 kI_0 rfl ?_
    obtain ⟨g28, h⟩ := h
    obtain ⟨g29, h⟩ := h
    exact aw_ireturn (ty := .boolean) dL_law_379 rfl rfl g28 g29 ⟨_, rfl, h⟩
set_option maxRecDepth 20000 in
theorem aw_L_law_400 {G : GG} (hG : G.1.stackTraces = false) {P28 : Nat → Nat → Nat → Nat → Nat → Int32 → Nat → Nat → XH → Prop} {l0 : Nat} {l1 : Nat} {l2 : Nat} {l3 : Nat} {l4 : Nat} {l5 : Int32} {cc : Nat} {ss : Nat} {X : XH} {K : Int32 → XH → Prop} (hO28 : ∀ (l0 : Nat) (l1 : Nat) (l2 : Nat) (l3 : Nat) (l4 : Nat) (l5 : Int32) (cc : Nat) (ss : Nat) (X : XH), P28 l0 l1 l2 l3 l4 l5 cc ss X → AW G M_L_law 28 [(0, .ref 0), (1, .ref l1), (2, .ref l2), (3, .ref l3), (4, .ref l4), (5, .int l5)] [] X cc ss (KrI K)) (h : w_L_law_400 G P28 l0 l1 l2 l3 l4 l5 cc ss X K) : AW G M_L_law 400 [(0, .ref 0), (1, .ref l1), (2, .ref l2), (3, .ref l3), (4, .ref l4), (5, .int l5)] [] X cc ss (KrI K) := by
  unfold w_L_law_400 at h
  refine aw_aload_n 401 dL_law_400 rfl 1 rfl rfl ?_
  refine aw_aload_n 402 dL_law_401 rfl 0 rfl rfl ?_
  refine aw_iload 404 dL_law_402 5 rfl rfl ?_
  refine aw_iconst 405 (v := 1) dL_law_404 kI_1 rfl ?_
  refine aw_iadd 406 dL_law_405 rfl ?_
  obtain ⟨g1, h⟩ := h
  refine aw_sld 407 dL_law_406 g1 rfl ?_
  refine aw_aload_n 408 dL_law_407 rfl 0 rfl rfl ?_
  refine aw_iload 410 dL_law_408 5 rfl rfl ?_
  refine aw_iconst 411 (v := 2) dL_law_410 kI_2 rfl ?_
  refine aw_iadd 412 dL_law_411 rfl ?_
  obtain ⟨g2, h⟩ := h
  refine aw_sld 413 dL_law_412 g2 rfl ?_
  refine aw_aload_n 414 dL_law_413 rfl 3 rfl rfl ?_
  obtain ⟨g3, h⟩ := h
  obtain ⟨g4, h⟩ := h
  refine aw_callSX (M' := M_L_changeLips) 417 199 [.ref _, .int _, .int _, .ref _] [] dL_law_414 lk_RL_199 ms_L_changeLips mp_L_changeLips (0, 10, 13, 13) [(0, 10, 17, 15), (0, 10, 21, 17)] rfl ⟨leb rfl, leb rfl⟩ rfl (leb rfl) g3 g4 rfl (am_L_changeLips hG h) (kkI fun v6 X5 h => ?_) (kxN KrI.no)
  refine aw_widen (cc' := cc + 3) (ss' := ss + 18) (Nat.le_refl _) (Nat.le_refl _) ?_
  refine aw_istore 419 (lv' := [(6, _), (0, _), (1, _), (2, _), (3, _), (4, _), (5, _)]) dL_law_417 (ltb rfl) rfl rfl ?_
  refine aw_aload_n 420 dL_law_419 rfl 3 rfl rfl ?_
  refine aw_aload_n 421 dL_law_420 rfl 1 rfl rfl ?_
  refine aw_iload 423 dL_law_421 6 rfl rfl ?_
  refine aw_iconst 424 (v := 1) dL_law_423 kI_1 rfl ?_
  refine aw_iadd 425 dL_law_424 rfl ?_
  obtain ⟨g7, h⟩ := h
  refine aw_sld 426 dL_law_425 g7 rfl ?_
  refine aw_aload_n 427 dL_law_426 rfl 1 rfl rfl ?_
  refine aw_iload 429 dL_law_427 6 rfl rfl ?_
  refine aw_iconst 430 (v := 2) dL_law_429 kI_2 rfl ?_
  refine aw_iadd 431 dL_law_430 rfl ?_
  obtain ⟨g8, h⟩ := h
  refine aw_sld 432 dL_law_431 g8 rfl ?_
  obtain ⟨g9, h⟩ := h
  obtain ⟨g10, h⟩ := h
  obtain ⟨g13, h⟩ := h
  refine aw_callV (M' := M_X5_changeLips) 435 202 5 l2 [.int _, .int _] [] dL_law_432 lk_RL_202 mv_X5_changeLips mp_X5_changeLips rfl ⟨leb rfl, leb rfl⟩ rfl (ltb rfl) g13 rfl (leb rfl) g9 g10 rfl (am_X5_changeLips hG h) (kkI fun v12 X11 h => ?_) (kxN KrI.no)
  refine aw_widen (cc' := cc + 3) (ss' := ss + 18) (Nat.le_refl _) (Nat.le_refl _) ?_
  refine aw_istore 437 (lv' := [(7, _), (6, _), (0, _), (1, _), (2, _), (3, _), (4, _), (5, _)]) dL_law_435 (ltb rfl) rfl rfl ?_
  refine aw_aload_n 438 dL_law_437 rfl 4 rfl rfl ?_
  obtain ⟨g14, h⟩ := h
  obtain ⟨g15, h⟩ := h
  obtain ⟨g18, h⟩ := h
  refine aw_callV (M' := M_X5_thrown) 441 196 5 l2 [] [] dL_law_438 lk_RL_196 mv_X5_thrown mp_X5_thrown rfl ⟨leb rfl, leb rfl⟩ rfl (ltb rfl) g18 rfl (leb rfl) g14 g15 rfl (am_X5_thrown hG h) (kkI fun v17 X16 h => ?_) (kxN KrI.no)
  refine aw_widen (cc' := cc + 3) (ss' := ss + 18) (Nat.le_refl _) (Nat.le_refl _) ?_
  refine aw_iload 443 dL_law_441 1 rfl rfl ?_
  refine aw_icmp_eq 448 446 dL_law_443 rfl rfl (fun c19 => ?_) (fun c19 => ?_)
  · replace h := h.1 c19
    refine aw_iload 450 dL_law_448 1 rfl rfl ?_
    refine aw_if_ne 465 453 dL_law_450 rfl rfl (fun c20 => ?_) (fun c20 => ?_)
    · replace h := h.1 c20
      refine aw_goto 3937 dL_law_465 rfl ?_
      refine aw_iinc 3940 (v := 4) (lv' := [(5, _), (7, _), (6, _), (0, _), (1, _), (2, _), (3, _), (4, _)]) dL_law_3937 7 rfl kI_4 (ltb rfl) rfl rfl ?_
      refine aw_goto 28 dL_law_3940 rfl ?_
      exact aw_pick [3, 4, 5, 6, 7, 0] rfl (hO28 _ _ _ _ _ _ _ _ _ h)
    · replace h := h.2 c20
      refine aw_aload_n 454 dL_law_453 rfl 5 rfl rfl ?_
      refine aw_iconst 455 (v := 0) dL_law_454 kI_0 rfl ?_
      obtain ⟨g21, h⟩ := h
      obtain ⟨g22, h⟩ := h
      refine aw_laload 456 dL_law_455 g21 g22 rfl ?_
      refine aw_iload 458 dL_law_456 0 rfl rfl ?_
      refine aw_i2l 459 dL_law_458 rfl ?_
      refine aw_lcmp 460 dL_law_459 rfl ?_
      refine aw_if_eq 465 463 dL_law_460 rfl rfl (fun c23 => ?_) (fun c23 => ?_)
      · replace h := h.1 c23
        refine aw_goto 3937 dL_law_465 rfl ?_
        refine aw_iinc 3940 (v := 4) (lv' := [(5, _), (7, _), (6, _), (0, _), (1, _), (2, _), (3, _), (4, _)]) dL_law_3937 7 rfl kI_4 (ltb rfl) rfl rfl ?_
        refine aw_goto 28 dL_law_3940 rfl ?_
        exact aw_pick [3, 4, 5, 6, 7, 0] rfl (hO28 _ _ _ _ _ _ _ _ _ h)
      · replace h := h.2 c23
        refine aw_iconst 464 (v := 0) dL_law_463 kI_0 rfl ?_
        obtain ⟨g24, h⟩ := h
        obtain ⟨g25, h⟩ := h
        exact aw_ireturn (ty := .boolean) dL_law_464 rfl rfl g24 g25 ⟨_, rfl, h⟩
  · replace h := h.2 c19
    refine aw_iconst 447 (v := 0) dL_law_446 kI_0 rfl ?_
    obtain ⟨g26, h⟩ := h
    obtain ⟨g27, h⟩ := h
    exact aw_ireturn (ty := .boolean) dL_law_447 rfl rfl g26 g27 ⟨_, rfl, h⟩
set_option maxRecDepth 20000 in
theorem aw_L_law_468 {G : GG} (hG : G.1.stackTraces = false) {P28 : Nat → Nat → Nat → Nat → Nat → Int32 → Nat → Nat → XH → Prop} {l0 : Nat} {l1 : Nat} {l2 : Nat} {l3 : Nat} {l4 : Nat} {l5 : Int32} {cc : Nat} {ss : Nat} {X : XH} {K : Int32 → XH → Prop} (hO28 : ∀ (l0 : Nat) (l1 : Nat) (l2 : Nat) (l3 : Nat) (l4 : Nat) (l5 : Int32) (cc : Nat) (ss : Nat) (X : XH), P28 l0 l1 l2 l3 l4 l5 cc ss X → AW G M_L_law 28 [(0, .ref 0), (1, .ref l1), (2, .ref l2), (3, .ref l3), (4, .ref l4), (5, .int l5)] [] X cc ss (KrI K)) (h : w_L_law_468 G P28 l0 l1 l2 l3 l4 l5 cc ss X K) : AW G M_L_law 468 [(0, .ref 0), (1, .ref l1), (2, .ref l2), (3, .ref l3), (4, .ref l4), (5, .int l5)] [] X cc ss (KrI K) := by
  unfold w_L_law_468 at h
  refine aw_aload_n 469 dL_law_468 rfl 1 rfl rfl ?_
  refine aw_aload_n 470 dL_law_469 rfl 0 rfl rfl ?_
  refine aw_iload 472 dL_law_470 5 rfl rfl ?_
  refine aw_iconst 473 (v := 1) dL_law_472 kI_1 rfl ?_
  refine aw_iadd 474 dL_law_473 rfl ?_
  obtain ⟨g1, h⟩ := h
  refine aw_sld 475 dL_law_474 g1 rfl ?_
  refine aw_aload_n 476 dL_law_475 rfl 0 rfl rfl ?_
  refine aw_iload 478 dL_law_476 5 rfl rfl ?_
  refine aw_iconst 479 (v := 2) dL_law_478 kI_2 rfl ?_
  refine aw_iadd 480 dL_law_479 rfl ?_
  obtain ⟨g2, h⟩ := h
  refine aw_sld 481 dL_law_480 g2 rfl ?_
  refine aw_aload_n 482 dL_law_481 rfl 3 rfl rfl ?_
  obtain ⟨g3, h⟩ := h
  obtain ⟨g4, h⟩ := h
  refine aw_callSX (M' := M_L_changeSigh) 485 203 [.ref _, .int _, .int _, .ref _] [] dL_law_482 lk_RL_203 ms_L_changeSigh mp_L_changeSigh (0, 10, 13, 13) [(0, 10, 17, 15), (0, 10, 21, 17)] rfl ⟨leb rfl, leb rfl⟩ rfl (leb rfl) g3 g4 rfl (am_L_changeSigh hG h) (kkI fun v6 X5 h => ?_) (kxN KrI.no)
  refine aw_widen (cc' := cc + 3) (ss' := ss + 18) (Nat.le_refl _) (Nat.le_refl _) ?_
  refine aw_istore 487 (lv' := [(6, _), (0, _), (1, _), (2, _), (3, _), (4, _), (5, _)]) dL_law_485 (ltb rfl) rfl rfl ?_
  refine aw_aload_n 488 dL_law_487 rfl 3 rfl rfl ?_
  refine aw_aload_n 489 dL_law_488 rfl 1 rfl rfl ?_
  refine aw_iload 491 dL_law_489 6 rfl rfl ?_
  refine aw_iconst 492 (v := 1) dL_law_491 kI_1 rfl ?_
  refine aw_iadd 493 dL_law_492 rfl ?_
  obtain ⟨g7, h⟩ := h
  refine aw_sld 494 dL_law_493 g7 rfl ?_
  refine aw_aload_n 495 dL_law_494 rfl 1 rfl rfl ?_
  refine aw_iload 497 dL_law_495 6 rfl rfl ?_
  refine aw_iconst 498 (v := 2) dL_law_497 kI_2 rfl ?_
  refine aw_iadd 499 dL_law_498 rfl ?_
  obtain ⟨g8, h⟩ := h
  refine aw_sld 500 dL_law_499 g8 rfl ?_
  obtain ⟨g9, h⟩ := h
  obtain ⟨g10, h⟩ := h
  obtain ⟨g13, h⟩ := h
  refine aw_callV (M' := M_X5_changeSigh) 503 205 5 l2 [.int _, .int _] [] dL_law_500 lk_RL_205 mv_X5_changeSigh mp_X5_changeSigh rfl ⟨leb rfl, leb rfl⟩ rfl (ltb rfl) g13 rfl (leb rfl) g9 g10 rfl (am_X5_changeSigh hG h) (kkI fun v12 X11 h => ?_) (kxN KrI.no)
  refine aw_widen (cc' := cc + 3) (ss' := ss + 18) (Nat.le_refl _) (Nat.le_refl _) ?_
  refine aw_istore 505 (lv' := [(7, _), (6, _), (0, _), (1, _), (2, _), (3, _), (4, _), (5, _)]) dL_law_503 (ltb rfl) rfl rfl ?_
  refine aw_aload_n 506 dL_law_505 rfl 4 rfl rfl ?_
  obtain ⟨g14, h⟩ := h
  obtain ⟨g15, h⟩ := h
  obtain ⟨g18, h⟩ := h
  refine aw_callV (M' := M_X5_thrown) 509 196 5 l2 [] [] dL_law_506 lk_RL_196 mv_X5_thrown mp_X5_thrown rfl ⟨leb rfl, leb rfl⟩ rfl (ltb rfl) g18 rfl (leb rfl) g14 g15 rfl (am_X5_thrown hG h) (kkI fun v17 X16 h => ?_) (kxN KrI.no)
  refine aw_widen (cc' := cc + 3) (ss' := ss + 18) (Nat.le_refl _) (Nat.le_refl _) ?_
  refine aw_iload 511 dL_law_509 1 rfl rfl ?_
  refine aw_icmp_eq 516 514 dL_law_511 rfl rfl (fun c19 => ?_) (fun c19 => ?_)
  · replace h := h.1 c19
    refine aw_iload 518 dL_law_516 1 rfl rfl ?_
    refine aw_if_ne 533 521 dL_law_518 rfl rfl (fun c20 => ?_) (fun c20 => ?_)
    · replace h := h.1 c20
      refine aw_goto 3937 dL_law_533 rfl ?_
      refine aw_iinc 3940 (v := 4) (lv' := [(5, _), (7, _), (6, _), (0, _), (1, _), (2, _), (3, _), (4, _)]) dL_law_3937 7 rfl kI_4 (ltb rfl) rfl rfl ?_
      refine aw_goto 28 dL_law_3940 rfl ?_
      exact aw_pick [3, 4, 5, 6, 7, 0] rfl (hO28 _ _ _ _ _ _ _ _ _ h)
    · replace h := h.2 c20
      refine aw_aload_n 522 dL_law_521 rfl 5 rfl rfl ?_
      refine aw_iconst 523 (v := 0) dL_law_522 kI_0 rfl ?_
      obtain ⟨g21, h⟩ := h
      obtain ⟨g22, h⟩ := h
      refine aw_laload 524 dL_law_523 g21 g22 rfl ?_
      refine aw_iload 526 dL_law_524 0 rfl rfl ?_
      refine aw_i2l 527 dL_law_526 rfl ?_
      refine aw_lcmp 528 dL_law_527 rfl ?_
      refine aw_if_eq 533 531 dL_law_528 rfl rfl (fun c23 => ?_) (fun c23 => ?_)
      · replace h := h.1 c23
        refine aw_goto 3937 dL_law_533 rfl ?_
        refine aw_iinc 3940 (v := 4) (lv' := [(5, _), (7, _), (6, _), (0, _), (1, _), (2, _), (3, _), (4, _)]) dL_law_3937 7 rfl kI_4 (ltb rfl) rfl rfl ?_
        refine aw_goto 28 dL_law_3940 rfl ?_
        exact aw_pick [3, 4, 5, 6, 7, 0] rfl (hO28 _ _ _ _ _ _ _ _ _ h)
      · replace h := h.2 c23
        refine aw_iconst 532 (v := 0) dL_law_531 kI_0 rfl ?_
        obtain ⟨g24, h⟩ := h
        obtain ⟨g25, h⟩ := h
        exact aw_ireturn (ty := .boolean) dL_law_532 rfl rfl g24 g25 ⟨_, rfl, h⟩
  · replace h := h.2 c19
    refine aw_iconst 515 (v := 0) dL_law_514 kI_0 rfl ?_
    obtain ⟨g26, h⟩ := h
    obtain ⟨g27, h⟩ := h
    exact aw_ireturn (ty := .boolean) dL_law_515 rfl rfl g26 g27 ⟨_, rfl, h⟩
set_option maxRecDepth 20000 in
theorem aw_L_law_536 {G : GG} (hG : G.1.stackTraces = false) {P28 : Nat → Nat → Nat → Nat → Nat → Int32 → Nat → Nat → XH → Prop} {l0 : Nat} {l1 : Nat} {l2 : Nat} {l3 : Nat} {l4 : Nat} {l5 : Int32} {cc : Nat} {ss : Nat} {X : XH} {K : Int32 → XH → Prop} (hO28 : ∀ (l0 : Nat) (l1 : Nat) (l2 : Nat) (l3 : Nat) (l4 : Nat) (l5 : Int32) (cc : Nat) (ss : Nat) (X : XH), P28 l0 l1 l2 l3 l4 l5 cc ss X → AW G M_L_law 28 [(0, .ref 0), (1, .ref l1), (2, .ref l2), (3, .ref l3), (4, .ref l4), (5, .int l5)] [] X cc ss (KrI K)) (h : w_L_law_536 G P28 l0 l1 l2 l3 l4 l5 cc ss X K) : AW G M_L_law 536 [(0, .ref 0), (1, .ref l1), (2, .ref l2), (3, .ref l3), (4, .ref l4), (5, .int l5)] [] X cc ss (KrI K) := by
  unfold w_L_law_536 at h
  refine aw_aload_n 537 dL_law_536 rfl 1 rfl rfl ?_
  refine aw_aload_n 538 dL_law_537 rfl 0 rfl rfl ?_
  refine aw_iload 540 dL_law_538 5 rfl rfl ?_
  refine aw_iconst 541 (v := 1) dL_law_540 kI_1 rfl ?_
  refine aw_iadd 542 dL_law_541 rfl ?_
  obtain ⟨g1, h⟩ := h
  refine aw_sld 543 dL_law_542 g1 rfl ?_
  refine aw_aload_n 544 dL_law_543 rfl 0 rfl rfl ?_
  refine aw_iload 546 dL_law_544 5 rfl rfl ?_
  refine aw_iconst 547 (v := 2) dL_law_546 kI_2 rfl ?_
  refine aw_iadd 548 dL_law_547 rfl ?_
  obtain ⟨g2, h⟩ := h
  refine aw_sld 549 dL_law_548 g2 rfl ?_
  refine aw_aload_n 550 dL_law_549 rfl 3 rfl rfl ?_
  obtain ⟨g3, h⟩ := h
  obtain ⟨g4, h⟩ := h
  refine aw_callSX (M' := M_L_moveClause) 553 206 [.ref _, .int _, .int _, .ref _] [] dL_law_550 lk_RL_206 ms_L_moveClause mp_L_moveClause (0, 10, 13, 13) [(0, 10, 17, 17)] rfl ⟨leb rfl, leb rfl⟩ rfl (leb rfl) g3 g4 rfl (am_L_moveClause hG h) (kkI fun v6 X5 h => ?_) (kxN KrI.no)
  refine aw_widen (cc' := cc + 3) (ss' := ss + 18) (Nat.le_refl _) (Nat.le_refl _) ?_
  refine aw_istore 555 (lv' := [(6, _), (0, _), (1, _), (2, _), (3, _), (4, _), (5, _)]) dL_law_553 (ltb rfl) rfl rfl ?_
  refine aw_aload_n 556 dL_law_555 rfl 3 rfl rfl ?_
  refine aw_aload_n 557 dL_law_556 rfl 1 rfl rfl ?_
  refine aw_iload 559 dL_law_557 6 rfl rfl ?_
  refine aw_iconst 560 (v := 1) dL_law_559 kI_1 rfl ?_
  refine aw_iadd 561 dL_law_560 rfl ?_
  obtain ⟨g7, h⟩ := h
  refine aw_sld 562 dL_law_561 g7 rfl ?_
  refine aw_aload_n 563 dL_law_562 rfl 1 rfl rfl ?_
  refine aw_iload 565 dL_law_563 6 rfl rfl ?_
  refine aw_iconst 566 (v := 2) dL_law_565 kI_2 rfl ?_
  refine aw_iadd 567 dL_law_566 rfl ?_
  obtain ⟨g8, h⟩ := h
  refine aw_sld 568 dL_law_567 g8 rfl ?_
  obtain ⟨g9, h⟩ := h
  obtain ⟨g10, h⟩ := h
  obtain ⟨g13, h⟩ := h
  refine aw_callV (M' := M_X5_moveClause) 571 208 5 l2 [.int _, .int _] [] dL_law_568 lk_RL_208 mv_X5_moveClause mp_X5_moveClause rfl ⟨leb rfl, leb rfl⟩ rfl (ltb rfl) g13 rfl (leb rfl) g9 g10 rfl (am_X5_moveClause hG h) (kkI fun v12 X11 h => ?_) (kxN KrI.no)
  refine aw_widen (cc' := cc + 3) (ss' := ss + 18) (Nat.le_refl _) (Nat.le_refl _) ?_
  refine aw_istore 573 (lv' := [(7, _), (6, _), (0, _), (1, _), (2, _), (3, _), (4, _), (5, _)]) dL_law_571 (ltb rfl) rfl rfl ?_
  refine aw_aload_n 574 dL_law_573 rfl 4 rfl rfl ?_
  obtain ⟨g14, h⟩ := h
  obtain ⟨g15, h⟩ := h
  obtain ⟨g18, h⟩ := h
  refine aw_callV (M' := M_X5_thrown) 577 196 5 l2 [] [] dL_law_574 lk_RL_196 mv_X5_thrown mp_X5_thrown rfl ⟨leb rfl, leb rfl⟩ rfl (ltb rfl) g18 rfl (leb rfl) g14 g15 rfl (am_X5_thrown hG h) (kkI fun v17 X16 h => ?_) (kxN KrI.no)
  refine aw_widen (cc' := cc + 3) (ss' := ss + 18) (Nat.le_refl _) (Nat.le_refl _) ?_
  refine aw_iload 579 dL_law_577 1 rfl rfl ?_
  refine aw_icmp_eq 584 582 dL_law_579 rfl rfl (fun c19 => ?_) (fun c19 => ?_)
  · replace h := h.1 c19
    refine aw_iload 586 dL_law_584 1 rfl rfl ?_
    refine aw_if_ne 601 589 dL_law_586 rfl rfl (fun c20 => ?_) (fun c20 => ?_)
    · replace h := h.1 c20
      refine aw_goto 3937 dL_law_601 rfl ?_
      refine aw_iinc 3940 (v := 4) (lv' := [(5, _), (7, _), (6, _), (0, _), (1, _), (2, _), (3, _), (4, _)]) dL_law_3937 7 rfl kI_4 (ltb rfl) rfl rfl ?_
      refine aw_goto 28 dL_law_3940 rfl ?_
      exact aw_pick [3, 4, 5, 6, 7, 0] rfl (hO28 _ _ _ _ _ _ _ _ _ h)
    · replace h := h.2 c20
      refine aw_aload_n 590 dL_law_589 rfl 5 rfl rfl ?_
      refine aw_iconst 591 (v := 0) dL_law_590 kI_0 rfl ?_
      obtain ⟨g21, h⟩ := h
      obtain ⟨g22, h⟩ := h
      refine aw_laload 592 dL_law_591 g21 g22 rfl ?_
      refine aw_iload 594 dL_law_592 0 rfl rfl ?_
      refine aw_i2l 595 dL_law_594 rfl ?_
      refine aw_lcmp 596 dL_law_595 rfl ?_
      refine aw_if_eq 601 599 dL_law_596 rfl rfl (fun c23 => ?_) (fun c23 => ?_)
      · replace h := h.1 c23
        refine aw_goto 3937 dL_law_601 rfl ?_
        refine aw_iinc 3940 (v := 4) (lv' := [(5, _), (7, _), (6, _), (0, _), (1, _), (2, _), (3, _), (4, _)]) dL_law_3937 7 rfl kI_4 (ltb rfl) rfl rfl ?_
        refine aw_goto 28 dL_law_3940 rfl ?_
        exact aw_pick [3, 4, 5, 6, 7, 0] rfl (hO28 _ _ _ _ _ _ _ _ _ h)
      · replace h := h.2 c23
        refine aw_iconst 600 (v := 0) dL_law_599 kI_0 rfl ?_
        obtain ⟨g24, h⟩ := h
        obtain ⟨g25, h⟩ := h
        exact aw_ireturn (ty := .boolean) dL_law_600 rfl rfl g24 g25 ⟨_, rfl, h⟩
  · replace h := h.2 c19
    refine aw_iconst 583 (v := 0) dL_law_582 kI_0 rfl ?_
    obtain ⟨g26, h⟩ := h
    obtain ⟨g27, h⟩ := h
    exact aw_ireturn (ty := .boolean) dL_law_583 rfl rfl g26 g27 ⟨_, rfl, h⟩
set_option maxRecDepth 20000 in
theorem aw_L_law_604 {G : GG} (hG : G.1.stackTraces = false) {P28 : Nat → Nat → Nat → Nat → Nat → Int32 → Nat → Nat → XH → Prop} {l0 : Nat} {l1 : Nat} {l2 : Nat} {l3 : Nat} {l4 : Nat} {l5 : Int32} {cc : Nat} {ss : Nat} {X : XH} {K : Int32 → XH → Prop} (hO28 : ∀ (l0 : Nat) (l1 : Nat) (l2 : Nat) (l3 : Nat) (l4 : Nat) (l5 : Int32) (cc : Nat) (ss : Nat) (X : XH), P28 l0 l1 l2 l3 l4 l5 cc ss X → AW G M_L_law 28 [(0, .ref 0), (1, .ref l1), (2, .ref l2), (3, .ref l3), (4, .ref l4), (5, .int l5)] [] X cc ss (KrI K)) (h : w_L_law_604 G P28 l0 l1 l2 l3 l4 l5 cc ss X K) : AW G M_L_law 604 [(0, .ref 0), (1, .ref l1), (2, .ref l2), (3, .ref l3), (4, .ref l4), (5, .int l5)] [] X cc ss (KrI K) := by
  unfold w_L_law_604 at h
  refine aw_aload_n 605 dL_law_604 rfl 1 rfl rfl ?_
  refine aw_aload_n 606 dL_law_605 rfl 0 rfl rfl ?_
  refine aw_iload 608 dL_law_606 5 rfl rfl ?_
  refine aw_iconst 609 (v := 1) dL_law_608 kI_1 rfl ?_
  refine aw_iadd 610 dL_law_609 rfl ?_
  obtain ⟨g1, h⟩ := h
  refine aw_sld 611 dL_law_610 g1 rfl ?_
  refine aw_aload_n 612 dL_law_611 rfl 0 rfl rfl ?_
  refine aw_iload 614 dL_law_612 5 rfl rfl ?_
  refine aw_iconst 615 (v := 2) dL_law_614 kI_2 rfl ?_
  refine aw_iadd 616 dL_law_615 rfl ?_
  obtain ⟨g2, h⟩ := h
  refine aw_sld 617 dL_law_616 g2 rfl ?_
  refine aw_aload_n 618 dL_law_617 rfl 0 rfl rfl ?_
  refine aw_iload 620 dL_law_618 5 rfl rfl ?_
  refine aw_iconst 621 (v := 3) dL_law_620 kI_3 rfl ?_
  refine aw_iadd 622 dL_law_621 rfl ?_
  obtain ⟨g3, h⟩ := h
  refine aw_sld 623 dL_law_622 g3 rfl ?_
  refine aw_aload_n 624 dL_law_623 rfl 3 rfl rfl ?_
  obtain ⟨g4, h⟩ := h
  obtain ⟨g5, h⟩ := h
  refine aw_callSX (M' := M_L_translate) 627 209 [.ref _, .int _, .int _, .int _, .ref _] [] dL_law_624 lk_RL_209 ms_L_translate mp_L_translate (0, 12, 15, 13) [(0, 12, 19, 15), (0, 12, 23, 17)] rfl ⟨leb rfl, leb rfl⟩ rfl (leb rfl) g4 g5 rfl (am_L_translate hG h) (kkI fun v7 X6 h => ?_) (kxN KrI.no)
  refine aw_widen (cc' := cc + 4) (ss' := ss + 24) (Nat.le_refl _) (Nat.le_refl _) ?_
  refine aw_istore 629 (lv' := [(6, _), (0, _), (1, _), (2, _), (3, _), (4, _), (5, _)]) dL_law_627 (ltb rfl) rfl rfl ?_
  refine aw_aload_n 630 dL_law_629 rfl 3 rfl rfl ?_
  refine aw_aload_n 631 dL_law_630 rfl 1 rfl rfl ?_
  refine aw_iload 633 dL_law_631 6 rfl rfl ?_
  refine aw_iconst 634 (v := 1) dL_law_633 kI_1 rfl ?_
  refine aw_iadd 635 dL_law_634 rfl ?_
  obtain ⟨g8, h⟩ := h
  refine aw_sld 636 dL_law_635 g8 rfl ?_
  refine aw_aload_n 637 dL_law_636 rfl 1 rfl rfl ?_
  refine aw_iload 639 dL_law_637 6 rfl rfl ?_
  refine aw_iconst 640 (v := 2) dL_law_639 kI_2 rfl ?_
  refine aw_iadd 641 dL_law_640 rfl ?_
  obtain ⟨g9, h⟩ := h
  refine aw_sld 642 dL_law_641 g9 rfl ?_
  refine aw_aload_n 643 dL_law_642 rfl 1 rfl rfl ?_
  refine aw_iload 645 dL_law_643 6 rfl rfl ?_
  refine aw_iconst 646 (v := 3) dL_law_645 kI_3 rfl ?_
  refine aw_iadd 647 dL_law_646 rfl ?_
  obtain ⟨g10, h⟩ := h
  refine aw_sld 648 dL_law_647 g10 rfl ?_
  obtain ⟨g11, h⟩ := h
  obtain ⟨g12, h⟩ := h
  obtain ⟨g15, h⟩ := h
  refine aw_callV (M' := M_X5_translate) 651 211 5 l2 [.int _, .int _, .int _] [] dL_law_648 lk_RL_211 mv_X5_translate mp_X5_translate rfl ⟨leb rfl, leb rfl⟩ rfl (ltb rfl) g15 rfl (leb rfl) g11 g12 rfl (am_X5_translate hG h) (kkI fun v14 X13 h => ?_) (kxN KrI.no)
  refine aw_widen (cc' := cc + 4) (ss' := ss + 24) (Nat.le_refl _) (Nat.le_refl _) ?_
  refine aw_istore 653 (lv' := [(7, _), (6, _), (0, _), (1, _), (2, _), (3, _), (4, _), (5, _)]) dL_law_651 (ltb rfl) rfl rfl ?_
  refine aw_aload_n 654 dL_law_653 rfl 4 rfl rfl ?_
  obtain ⟨g16, h⟩ := h
  obtain ⟨g17, h⟩ := h
  obtain ⟨g20, h⟩ := h
  refine aw_callV (M' := M_X5_thrown) 657 196 5 l2 [] [] dL_law_654 lk_RL_196 mv_X5_thrown mp_X5_thrown rfl ⟨leb rfl, leb rfl⟩ rfl (ltb rfl) g20 rfl (leb rfl) g16 g17 rfl (am_X5_thrown hG h) (kkI fun v19 X18 h => ?_) (kxN KrI.no)
  refine aw_widen (cc' := cc + 4) (ss' := ss + 24) (Nat.le_refl _) (Nat.le_refl _) ?_
  refine aw_iload 659 dL_law_657 1 rfl rfl ?_
  refine aw_icmp_eq 664 662 dL_law_659 rfl rfl (fun c21 => ?_) (fun c21 => ?_)
  · replace h := h.1 c21
    refine aw_iload 666 dL_law_664 1 rfl rfl ?_
    refine aw_if_ne 681 669 dL_law_666 rfl rfl (fun c22 => ?_) (fun c22 => ?_)
    · replace h := h.1 c22
      refine aw_goto 3937 dL_law_681 rfl ?_
      refine aw_iinc 3940 (v := 4) (lv' := [(5, _), (7, _), (6, _), (0, _), (1, _), (2, _), (3, _), (4, _)]) dL_law_3937 7 rfl kI_4 (ltb rfl) rfl rfl ?_
      refine aw_goto 28 dL_law_3940 rfl ?_
      exact aw_pick [3, 4, 5, 6, 7, 0] rfl (hO28 _ _ _ _ _ _ _ _ _ h)
    · replace h := h.2 c22
      refine aw_aload_n 670 dL_law_669 rfl 5 rfl rfl ?_
      refine aw_iconst 671 (v := 0) dL_law_670 kI_0 rfl ?_
      obtain ⟨g23, h⟩ := h
      obtain ⟨g24, h⟩ := h
      refine aw_laload 672 dL_law_671 g23 g24 rfl ?_
      refine aw_iload 674 dL_law_672 0 rfl rfl ?_
      refine aw_i2l 675 dL_law_674 rfl ?_
      refine aw_lcmp 676 dL_law_675 rfl ?_
      refine aw_if_eq 681 679 dL_law_676 rfl rfl (fun c25 => ?_) (fun c25 => ?_)
      · replace h := h.1 c25
        refine aw_goto 3937 dL_law_681 rfl ?_
        refine aw_iinc 3940 (v := 4) (lv' := [(5, _), (7, _), (6, _), (0, _), (1, _), (2, _), (3, _), (4, _)]) dL_law_3937 7 rfl kI_4 (ltb rfl) rfl rfl ?_
        refine aw_goto 28 dL_law_3940 rfl ?_
        exact aw_pick [3, 4, 5, 6, 7, 0] rfl (hO28 _ _ _ _ _ _ _ _ _ h)
      · replace h := h.2 c25
        refine aw_iconst 680 (v := 0) dL_law_679 kI_0 rfl ?_
        obtain ⟨g26, h⟩ := h
        obtain ⟨g27, h⟩ := h
        exact aw_ireturn (ty := .boolean) dL_law_680 rfl rfl g26 g27 ⟨_, rfl, h⟩
  · replace h := h.2 c21
    refine aw_iconst 663 (v := 0) dL_law_662 kI_0 rfl ?_
    obtain ⟨g28, h⟩ := h
    obtain ⟨g29, h⟩ := h
    exact aw_ireturn (ty := .boolean) dL_law_663 rfl rfl g28 g29 ⟨_, rfl, h⟩
set_option maxRecDepth 20000 in
theorem aw_L_law_684 {G : GG} (hG : G.1.stackTraces = false) {P28 : Nat → Nat → Nat → Nat → Nat → Int32 → Nat → Nat → XH → Prop} {l0 : Nat} {l1 : Nat} {l2 : Nat} {l3 : Nat} {l4 : Nat} {l5 : Int32} {cc : Nat} {ss : Nat} {X : XH} {K : Int32 → XH → Prop} (hO28 : ∀ (l0 : Nat) (l1 : Nat) (l2 : Nat) (l3 : Nat) (l4 : Nat) (l5 : Int32) (cc : Nat) (ss : Nat) (X : XH), P28 l0 l1 l2 l3 l4 l5 cc ss X → AW G M_L_law 28 [(0, .ref 0), (1, .ref l1), (2, .ref l2), (3, .ref l3), (4, .ref l4), (5, .int l5)] [] X cc ss (KrI K)) (h : w_L_law_684 G P28 l0 l1 l2 l3 l4 l5 cc ss X K) : AW G M_L_law 684 [(0, .ref 0), (1, .ref l1), (2, .ref l2), (3, .ref l3), (4, .ref l4), (5, .int l5)] [] X cc ss (KrI K) := by
  unfold w_L_law_684 at h
  refine aw_aload_n 685 dL_law_684 rfl 1 rfl rfl ?_
  refine aw_aload_n 686 dL_law_685 rfl 0 rfl rfl ?_
  refine aw_iload 688 dL_law_686 5 rfl rfl ?_
  refine aw_iconst 689 (v := 1) dL_law_688 kI_1 rfl ?_
  refine aw_iadd 690 dL_law_689 rfl ?_
  obtain ⟨g1, h⟩ := h
  refine aw_sld 691 dL_law_690 g1 rfl ?_
  refine aw_aload_n 692 dL_law_691 rfl 0 rfl rfl ?_
  refine aw_iload 694 dL_law_692 5 rfl rfl ?_
  refine aw_iconst 695 (v := 2) dL_law_694 kI_2 rfl ?_
  refine aw_iadd 696 dL_law_695 rfl ?_
  obtain ⟨g2, h⟩ := h
  refine aw_sld 697 dL_law_696 g2 rfl ?_
  refine aw_aload_n 698 dL_law_697 rfl 0 rfl rfl ?_
  refine aw_iload 700 dL_law_698 5 rfl rfl ?_
  refine aw_iconst 701 (v := 3) dL_law_700 kI_3 rfl ?_
  refine aw_iadd 702 dL_law_701 rfl ?_
  obtain ⟨g3, h⟩ := h
  refine aw_sld 703 dL_law_702 g3 rfl ?_
  refine aw_aload_n 704 dL_law_703 rfl 3 rfl rfl ?_
  obtain ⟨g4, h⟩ := h
  obtain ⟨g5, h⟩ := h
  refine aw_callSX (M' := M_L_annex) 707 212 [.ref _, .int _, .int _, .int _, .ref _] [] dL_law_704 lk_RL_212 ms_L_annex mp_L_annex (0, 12, 15, 13) [(0, 12, 19, 15), (0, 12, 23, 17)] rfl ⟨leb rfl, leb rfl⟩ rfl (leb rfl) g4 g5 rfl (am_L_annex hG h) (kkI fun v7 X6 h => ?_) (kxN KrI.no)
  refine aw_widen (cc' := cc + 4) (ss' := ss + 24) (Nat.le_refl _) (Nat.le_refl _) ?_
  refine aw_istore 709 (lv' := [(6, _), (0, _), (1, _), (2, _), (3, _), (4, _), (5, _)]) dL_law_707 (ltb rfl) rfl rfl ?_
  refine aw_aload_n 710 dL_law_709 rfl 3 rfl rfl ?_
  refine aw_aload_n 711 dL_law_710 rfl 1 rfl rfl ?_
  refine aw_iload 713 dL_law_711 6 rfl rfl ?_
  refine aw_iconst 714 (v := 1) dL_law_713 kI_1 rfl ?_
  refine aw_iadd 715 dL_law_714 rfl ?_
  obtain ⟨g8, h⟩ := h
  refine aw_sld 716 dL_law_715 g8 rfl ?_
  refine aw_aload_n 717 dL_law_716 rfl 1 rfl rfl ?_
  refine aw_iload 719 dL_law_717 6 rfl rfl ?_
  refine aw_iconst 720 (v := 2) dL_law_719 kI_2 rfl ?_
  refine aw_iadd 721 dL_law_720 rfl ?_
  obtain ⟨g9, h⟩ := h
  refine aw_sld 722 dL_law_721 g9 rfl ?_
  refine aw_aload_n 723 dL_law_722 rfl 1 rfl rfl ?_
  refine aw_iload 725 dL_law_723 6 rfl rfl ?_
  refine aw_iconst 726 (v := 3) dL_law_725 kI_3 rfl ?_
  refine aw_iadd 727 dL_law_726 rfl ?_
  obtain ⟨g10, h⟩ := h
  refine aw_sld 728 dL_law_727 g10 rfl ?_
  obtain ⟨g11, h⟩ := h
  obtain ⟨g12, h⟩ := h
  obtain ⟨g15, h⟩ := h
  refine aw_callV (M' := M_X5_annex) 731 214 5 l2 [.int _, .int _, .int _] [] dL_law_728 lk_RL_214 mv_X5_annex mp_X5_annex rfl ⟨leb rfl, leb rfl⟩ rfl (ltb rfl) g15 rfl (leb rfl) g11 g12 rfl (am_X5_annex hG h) (kkI fun v14 X13 h => ?_) (kxN KrI.no)
  refine aw_widen (cc' := cc + 4) (ss' := ss + 24) (Nat.le_refl _) (Nat.le_refl _) ?_
  refine aw_istore 733 (lv' := [(7, _), (6, _), (0, _), (1, _), (2, _), (3, _), (4, _), (5, _)]) dL_law_731 (ltb rfl) rfl rfl ?_
  refine aw_aload_n 734 dL_law_733 rfl 4 rfl rfl ?_
  obtain ⟨g16, h⟩ := h
  obtain ⟨g17, h⟩ := h
  obtain ⟨g20, h⟩ := h
  refine aw_callV (M' := M_X5_thrown) 737 196 5 l2 [] [] dL_law_734 lk_RL_196 mv_X5_thrown mp_X5_thrown rfl ⟨leb rfl, leb rfl⟩ rfl (ltb rfl) g20 rfl (leb rfl) g16 g17 rfl (am_X5_thrown hG h) (kkI fun v19 X18 h => ?_) (kxN KrI.no)
  refine aw_widen (cc' := cc + 4) (ss' := ss + 24) (Nat.le_refl _) (Nat.le_refl _) ?_
  refine aw_iload 739 dL_law_737 1 rfl rfl ?_
  refine aw_icmp_eq 744 742 dL_law_739 rfl rfl (fun c21 => ?_) (fun c21 => ?_)
  · replace h := h.1 c21
    refine aw_iload 746 dL_law_744 1 rfl rfl ?_
    refine aw_if_ne 761 749 dL_law_746 rfl rfl (fun c22 => ?_) (fun c22 => ?_)
    · replace h := h.1 c22
      refine aw_goto 3937 dL_law_761 rfl ?_
      refine aw_iinc 3940 (v := 4) (lv' := [(5, _), (7, _), (6, _), (0, _), (1, _), (2, _), (3, _), (4, _)]) dL_law_3937 7 rfl kI_4 (ltb rfl) rfl rfl ?_
      refine aw_goto 28 dL_law_3940 rfl ?_
      exact aw_pick [3, 4, 5, 6, 7, 0] rfl (hO28 _ _ _ _ _ _ _ _ _ h)
    · replace h := h.2 c22
      refine aw_aload_n 750 dL_law_749 rfl 5 rfl rfl ?_
      refine aw_iconst 751 (v := 0) dL_law_750 kI_0 rfl ?_
      obtain ⟨g23, h⟩ := h
      obtain ⟨g24, h⟩ := h
      refine aw_laload 752 dL_law_751 g23 g24 rfl ?_
      refine aw_iload 754 dL_law_752 0 rfl rfl ?_
      refine aw_i2l 755 dL_law_754 rfl ?_
      refine aw_lcmp 756 dL_law_755 rfl ?_
      refine aw_if_eq 761 759 dL_law_756 rfl rfl (fun c25 => ?_) (fun c25 => ?_)
      · replace h := h.1 c25
        refine aw_goto 3937 dL_law_761 rfl ?_
        refine aw_iinc 3940 (v := 4) (lv' := [(5, _), (7, _), (6, _), (0, _), (1, _), (2, _), (3, _), (4, _)]) dL_law_3937 7 rfl kI_4 (ltb rfl) rfl rfl ?_
        refine aw_goto 28 dL_law_3940 rfl ?_
        exact aw_pick [3, 4, 5, 6, 7, 0] rfl (hO28 _ _ _ _ _ _ _ _ _ h)
      · replace h := h.2 c25
        refine aw_iconst 760 (v := 0) dL_law_759 kI_0 rfl ?_
        obtain ⟨g26, h⟩ := h
        obtain ⟨g27, h⟩ := h
        exact aw_ireturn (ty := .boolean) dL_law_760 rfl rfl g26 g27 ⟨_, rfl, h⟩
  · replace h := h.2 c21
    refine aw_iconst 743 (v := 0) dL_law_742 kI_0 rfl ?_
    obtain ⟨g28, h⟩ := h
    obtain ⟨g29, h⟩ := h
    exact aw_ireturn (ty := .boolean) dL_law_743 rfl rfl g28 g29 ⟨_, rfl, h⟩
set_option maxRecDepth 20000 in
theorem aw_L_law_764 {G : GG} (hG : G.1.stackTraces = false) {P28 : Nat → Nat → Nat → Nat → Nat → Int32 → Nat → Nat → XH → Prop} {l0 : Nat} {l1 : Nat} {l2 : Nat} {l3 : Nat} {l4 : Nat} {l5 : Int32} {cc : Nat} {ss : Nat} {X : XH} {K : Int32 → XH → Prop} (hO28 : ∀ (l0 : Nat) (l1 : Nat) (l2 : Nat) (l3 : Nat) (l4 : Nat) (l5 : Int32) (cc : Nat) (ss : Nat) (X : XH), P28 l0 l1 l2 l3 l4 l5 cc ss X → AW G M_L_law 28 [(0, .ref 0), (1, .ref l1), (2, .ref l2), (3, .ref l3), (4, .ref l4), (5, .int l5)] [] X cc ss (KrI K)) (h : w_L_law_764 G P28 l0 l1 l2 l3 l4 l5 cc ss X K) : AW G M_L_law 764 [(0, .ref 0), (1, .ref l1), (2, .ref l2), (3, .ref l3), (4, .ref l4), (5, .int l5)] [] X cc ss (KrI K) := by
  unfold w_L_law_764 at h
  refine aw_aload_n 765 dL_law_764 rfl 1 rfl rfl ?_
  refine aw_aload_n 766 dL_law_765 rfl 0 rfl rfl ?_
  refine aw_iload 768 dL_law_766 5 rfl rfl ?_
  refine aw_iconst 769 (v := 1) dL_law_768 kI_1 rfl ?_
  refine aw_iadd 770 dL_law_769 rfl ?_
  obtain ⟨g1, h⟩ := h
  refine aw_sld 771 dL_law_770 g1 rfl ?_
  refine aw_aload_n 772 dL_law_771 rfl 0 rfl rfl ?_
  refine aw_iload 774 dL_law_772 5 rfl rfl ?_
  refine aw_iconst 775 (v := 2) dL_law_774 kI_2 rfl ?_
  refine aw_iadd 776 dL_law_775 rfl ?_
  obtain ⟨g2, h⟩ := h
  refine aw_sld 777 dL_law_776 g2 rfl ?_
  refine aw_aload_n 778 dL_law_777 rfl 3 rfl rfl ?_
  obtain ⟨g3, h⟩ := h
  obtain ⟨g4, h⟩ := h
  refine aw_callSX (M' := M_L_bringBack) 781 215 [.ref _, .int _, .int _, .ref _] [] dL_law_778 lk_RL_215 ms_L_bringBack mp_L_bringBack (0, 10, 13, 13) [(0, 10, 17, 17)] rfl ⟨leb rfl, leb rfl⟩ rfl (leb rfl) g3 g4 rfl (am_L_bringBack hG h) (kkI fun v6 X5 h => ?_) (kxN KrI.no)
  refine aw_widen (cc' := cc + 3) (ss' := ss + 18) (Nat.le_refl _) (Nat.le_refl _) ?_
  refine aw_istore 783 (lv' := [(6, _), (0, _), (1, _), (2, _), (3, _), (4, _), (5, _)]) dL_law_781 (ltb rfl) rfl rfl ?_
  refine aw_aload_n 784 dL_law_783 rfl 3 rfl rfl ?_
  refine aw_aload_n 785 dL_law_784 rfl 1 rfl rfl ?_
  refine aw_iload 787 dL_law_785 6 rfl rfl ?_
  refine aw_iconst 788 (v := 1) dL_law_787 kI_1 rfl ?_
  refine aw_iadd 789 dL_law_788 rfl ?_
  obtain ⟨g7, h⟩ := h
  refine aw_sld 790 dL_law_789 g7 rfl ?_
  refine aw_aload_n 791 dL_law_790 rfl 1 rfl rfl ?_
  refine aw_iload 793 dL_law_791 6 rfl rfl ?_
  refine aw_iconst 794 (v := 2) dL_law_793 kI_2 rfl ?_
  refine aw_iadd 795 dL_law_794 rfl ?_
  obtain ⟨g8, h⟩ := h
  refine aw_sld 796 dL_law_795 g8 rfl ?_
  obtain ⟨g9, h⟩ := h
  obtain ⟨g10, h⟩ := h
  obtain ⟨g13, h⟩ := h
  refine aw_callV (M' := M_X5_bringBack) 799 217 5 l2 [.int _, .int _] [] dL_law_796 lk_RL_217 mv_X5_bringBack mp_X5_bringBack rfl ⟨leb rfl, leb rfl⟩ rfl (ltb rfl) g13 rfl (leb rfl) g9 g10 rfl (am_X5_bringBack hG h) (kkI fun v12 X11 h => ?_) (kxN KrI.no)
  refine aw_widen (cc' := cc + 3) (ss' := ss + 18) (Nat.le_refl _) (Nat.le_refl _) ?_
  refine aw_istore 801 (lv' := [(7, _), (6, _), (0, _), (1, _), (2, _), (3, _), (4, _), (5, _)]) dL_law_799 (ltb rfl) rfl rfl ?_
  refine aw_aload_n 802 dL_law_801 rfl 4 rfl rfl ?_
  obtain ⟨g14, h⟩ := h
  obtain ⟨g15, h⟩ := h
  obtain ⟨g18, h⟩ := h
  refine aw_callV (M' := M_X5_thrown) 805 196 5 l2 [] [] dL_law_802 lk_RL_196 mv_X5_thrown mp_X5_thrown rfl ⟨leb rfl, leb rfl⟩ rfl (ltb rfl) g18 rfl (leb rfl) g14 g15 rfl (am_X5_thrown hG h) (kkI fun v17 X16 h => ?_) (kxN KrI.no)
  refine aw_widen (cc' := cc + 3) (ss' := ss + 18) (Nat.le_refl _) (Nat.le_refl _) ?_
  refine aw_iload 807 dL_law_805 1 rfl rfl ?_
  refine aw_icmp_eq 812 810 dL_law_807 rfl rfl (fun c19 => ?_) (fun c19 => ?_)
  · replace h := h.1 c19
    refine aw_iload 814 dL_law_812 1 rfl rfl ?_
    refine aw_if_ne 829 817 dL_law_814 rfl rfl (fun c20 => ?_) (fun c20 => ?_)
    · replace h := h.1 c20
      refine aw_goto 3937 dL_law_829 rfl ?_
      refine aw_iinc 3940 (v := 4) (lv' := [(5, _), (7, _), (6, _), (0, _), (1, _), (2, _), (3, _), (4, _)]) dL_law_3937 7 rfl kI_4 (ltb rfl) rfl rfl ?_
      refine aw_goto 28 dL_law_3940 rfl ?_
      exact aw_pick [3, 4, 5, 6, 7, 0] rfl (hO28 _ _ _ _ _ _ _ _ _ h)
    · replace h := h.2 c20
      refine aw_aload_n 818 dL_law_817 rfl 5 rfl rfl ?_
      refine aw_iconst 819 (v := 0) dL_law_818 kI_0 rfl ?_
      obtain ⟨g21, h⟩ := h
      obtain ⟨g22, h⟩ := h
      refine aw_laload 820 dL_law_819 g21 g22 rfl ?_
      refine aw_iload 822 dL_law_820 0 rfl rfl ?_
      refine aw_i2l 823 dL_law_822 rfl ?_
      refine aw_lcmp 824 dL_law_823 rfl ?_
      refine aw_if_eq 829 827 dL_law_824 rfl rfl (fun c23 => ?_) (fun c23 => ?_)
      · replace h := h.1 c23
        refine aw_goto 3937 dL_law_829 rfl ?_
        refine aw_iinc 3940 (v := 4) (lv' := [(5, _), (7, _), (6, _), (0, _), (1, _), (2, _), (3, _), (4, _)]) dL_law_3937 7 rfl kI_4 (ltb rfl) rfl rfl ?_
        refine aw_goto 28 dL_law_3940 rfl ?_
        exact aw_pick [3, 4, 5, 6, 7, 0] rfl (hO28 _ _ _ _ _ _ _ _ _ h)
      · replace h := h.2 c23
        refine aw_iconst 828 (v := 0) dL_law_827 kI_0 rfl ?_
        obtain ⟨g24, h⟩ := h
        obtain ⟨g25, h⟩ := h
        exact aw_ireturn (ty := .boolean) dL_law_828 rfl rfl g24 g25 ⟨_, rfl, h⟩
  · replace h := h.2 c19
    refine aw_iconst 811 (v := 0) dL_law_810 kI_0 rfl ?_
    obtain ⟨g26, h⟩ := h
    obtain ⟨g27, h⟩ := h
    exact aw_ireturn (ty := .boolean) dL_law_811 rfl rfl g26 g27 ⟨_, rfl, h⟩
set_option maxRecDepth 20000 in
theorem aw_L_law_832 {G : GG} (hG : G.1.stackTraces = false) {P28 : Nat → Nat → Nat → Nat → Nat → Int32 → Nat → Nat → XH → Prop} {l0 : Nat} {l1 : Nat} {l2 : Nat} {l3 : Nat} {l4 : Nat} {l5 : Int32} {cc : Nat} {ss : Nat} {X : XH} {K : Int32 → XH → Prop} (hO28 : ∀ (l0 : Nat) (l1 : Nat) (l2 : Nat) (l3 : Nat) (l4 : Nat) (l5 : Int32) (cc : Nat) (ss : Nat) (X : XH), P28 l0 l1 l2 l3 l4 l5 cc ss X → AW G M_L_law 28 [(0, .ref 0), (1, .ref l1), (2, .ref l2), (3, .ref l3), (4, .ref l4), (5, .int l5)] [] X cc ss (KrI K)) (h : w_L_law_832 G P28 l0 l1 l2 l3 l4 l5 cc ss X K) : AW G M_L_law 832 [(0, .ref 0), (1, .ref l1), (2, .ref l2), (3, .ref l3), (4, .ref l4), (5, .int l5)] [] X cc ss (KrI K) := by
  unfold w_L_law_832 at h
  refine aw_aload_n 833 dL_law_832 rfl 1 rfl rfl ?_
  refine aw_aload_n 834 dL_law_833 rfl 0 rfl rfl ?_
  refine aw_iload 836 dL_law_834 5 rfl rfl ?_
  refine aw_iconst 837 (v := 1) dL_law_836 kI_1 rfl ?_
  refine aw_iadd 838 dL_law_837 rfl ?_
  obtain ⟨g1, h⟩ := h
  refine aw_sld 839 dL_law_838 g1 rfl ?_
  refine aw_aload_n 840 dL_law_839 rfl 0 rfl rfl ?_
  refine aw_iload 842 dL_law_840 5 rfl rfl ?_
  refine aw_iconst 843 (v := 2) dL_law_842 kI_2 rfl ?_
  refine aw_iadd 844 dL_law_843 rfl ?_
  obtain ⟨g2, h⟩ := h
  refine aw_sld 845 dL_law_844 g2 rfl ?_
  refine aw_aload_n 846 dL_law_845 rfl 0 rfl rfl ?_
  refine aw_iload 848 dL_law_846 5 rfl rfl ?_
  refine aw_iconst 849 (v := 3) dL_law_848 kI_3 rfl ?_
  refine aw_iadd 850 dL_law_849 rfl ?_
  obtain ⟨g3, h⟩ := h
  refine aw_sld 851 dL_law_850 g3 rfl ?_
  refine aw_aload_n 852 dL_law_851 rfl 3 rfl rfl ?_
  obtain ⟨g4, h⟩ := h
  obtain ⟨g5, h⟩ := h
  refine aw_callSX (M' := M_L_cast) 855 218 [.ref _, .int _, .int _, .int _, .ref _] [] dL_law_852 lk_RL_218 ms_L_cast mp_L_cast (0, 12, 15, 13) [(0, 12, 19, 15), (0, 12, 23, 17)] rfl ⟨leb rfl, leb rfl⟩ rfl (leb rfl) g4 g5 rfl (am_L_cast hG h) (kkI fun v7 X6 h => ?_) (kxN KrI.no)
  refine aw_widen (cc' := cc + 4) (ss' := ss + 24) (Nat.le_refl _) (Nat.le_refl _) ?_
  refine aw_istore 857 (lv' := [(6, _), (0, _), (1, _), (2, _), (3, _), (4, _), (5, _)]) dL_law_855 (ltb rfl) rfl rfl ?_
  refine aw_aload_n 858 dL_law_857 rfl 3 rfl rfl ?_
  refine aw_aload_n 859 dL_law_858 rfl 1 rfl rfl ?_
  refine aw_iload 861 dL_law_859 6 rfl rfl ?_
  refine aw_iconst 862 (v := 1) dL_law_861 kI_1 rfl ?_
  refine aw_iadd 863 dL_law_862 rfl ?_
  obtain ⟨g8, h⟩ := h
  refine aw_sld 864 dL_law_863 g8 rfl ?_
  refine aw_aload_n 865 dL_law_864 rfl 1 rfl rfl ?_
  refine aw_iload 867 dL_law_865 6 rfl rfl ?_
  refine aw_iconst 868 (v := 2) dL_law_867 kI_2 rfl ?_
  refine aw_iadd 869 dL_law_868 rfl ?_
  obtain ⟨g9, h⟩ := h
  refine aw_sld 870 dL_law_869 g9 rfl ?_
  refine aw_aload_n 871 dL_law_870 rfl 1 rfl rfl ?_
  refine aw_iload 873 dL_law_871 6 rfl rfl ?_
  refine aw_iconst 874 (v := 3) dL_law_873 kI_3 rfl ?_
  refine aw_iadd 875 dL_law_874 rfl ?_
  obtain ⟨g10, h⟩ := h
  refine aw_sld 876 dL_law_875 g10 rfl ?_
  obtain ⟨g11, h⟩ := h
  obtain ⟨g12, h⟩ := h
  obtain ⟨g15, h⟩ := h
  refine aw_callV (M' := M_X5_cast) 879 220 5 l2 [.int _, .int _, .int _] [] dL_law_876 lk_RL_220 mv_X5_cast mp_X5_cast rfl ⟨leb rfl, leb rfl⟩ rfl (ltb rfl) g15 rfl (leb rfl) g11 g12 rfl (am_X5_cast hG h) (kkI fun v14 X13 h => ?_) (kxN KrI.no)
  refine aw_widen (cc' := cc + 4) (ss' := ss + 24) (Nat.le_refl _) (Nat.le_refl _) ?_
  refine aw_istore 881 (lv' := [(7, _), (6, _), (0, _), (1, _), (2, _), (3, _), (4, _), (5, _)]) dL_law_879 (ltb rfl) rfl rfl ?_
  refine aw_aload_n 882 dL_law_881 rfl 4 rfl rfl ?_
  obtain ⟨g16, h⟩ := h
  obtain ⟨g17, h⟩ := h
  obtain ⟨g20, h⟩ := h
  refine aw_callV (M' := M_X5_thrown) 885 196 5 l2 [] [] dL_law_882 lk_RL_196 mv_X5_thrown mp_X5_thrown rfl ⟨leb rfl, leb rfl⟩ rfl (ltb rfl) g20 rfl (leb rfl) g16 g17 rfl (am_X5_thrown hG h) (kkI fun v19 X18 h => ?_) (kxN KrI.no)
  refine aw_widen (cc' := cc + 4) (ss' := ss + 24) (Nat.le_refl _) (Nat.le_refl _) ?_
  refine aw_iload 887 dL_law_885 1 rfl rfl ?_
  refine aw_icmp_eq 892 890 dL_law_887 rfl rfl (fun c21 => ?_) (fun c21 => ?_)
  · replace h := h.1 c21
    refine aw_iload 894 dL_law_892 1 rfl rfl ?_
    refine aw_if_ne 909 897 dL_law_894 rfl rfl (fun c22 => ?_) (fun c22 => ?_)
    · replace h := h.1 c22
      refine aw_goto 3937 dL_law_909 rfl ?_
      refine aw_iinc 3940 (v := 4) (lv' := [(5, _), (7, _), (6, _), (0, _), (1, _), (2, _), (3, _), (4, _)]) dL_law_3937 7 rfl kI_4 (ltb rfl) rfl rfl ?_
      refine aw_goto 28 dL_law_3940 rfl ?_
      exact aw_pick [3, 4, 5, 6, 7, 0] rfl (hO28 _ _ _ _ _ _ _ _ _ h)
    · replace h := h.2 c22
      refine aw_aload_n 898 dL_law_897 rfl 5 rfl rfl ?_
      refine aw_iconst 899 (v := 0) dL_law_898 kI_0 rfl ?_
      obtain ⟨g23, h⟩ := h
      obtain ⟨g24, h⟩ := h
      refine aw_laload 900 dL_law_899 g23 g24 rfl ?_
      refine aw_iload 902 dL_law_900 0 rfl rfl ?_
      refine aw_i2l 903 dL_law_902 rfl ?_
      refine aw_lcmp 904 dL_law_903 rfl ?_
      refine aw_if_eq 909 907 dL_law_904 rfl rfl (fun c25 => ?_) (fun c25 => ?_)
      · replace h := h.1 c25
        refine aw_goto 3937 dL_law_909 rfl ?_
        refine aw_iinc 3940 (v := 4) (lv' := [(5, _), (7, _), (6, _), (0, _), (1, _), (2, _), (3, _), (4, _)]) dL_law_3937 7 rfl kI_4 (ltb rfl) rfl rfl ?_
        refine aw_goto 28 dL_law_3940 rfl ?_
        exact aw_pick [3, 4, 5, 6, 7, 0] rfl (hO28 _ _ _ _ _ _ _ _ _ h)
      · replace h := h.2 c25
        refine aw_iconst 908 (v := 0) dL_law_907 kI_0 rfl ?_
        obtain ⟨g26, h⟩ := h
        obtain ⟨g27, h⟩ := h
        exact aw_ireturn (ty := .boolean) dL_law_908 rfl rfl g26 g27 ⟨_, rfl, h⟩
  · replace h := h.2 c21
    refine aw_iconst 891 (v := 0) dL_law_890 kI_0 rfl ?_
    obtain ⟨g28, h⟩ := h
    obtain ⟨g29, h⟩ := h
    exact aw_ireturn (ty := .boolean) dL_law_891 rfl rfl g28 g29 ⟨_, rfl, h⟩
set_option maxRecDepth 20000 in
theorem aw_L_law_912 {G : GG} (hG : G.1.stackTraces = false) {P28 : Nat → Nat → Nat → Nat → Nat → Int32 → Nat → Nat → XH → Prop} {l0 : Nat} {l1 : Nat} {l2 : Nat} {l3 : Nat} {l4 : Nat} {l5 : Int32} {cc : Nat} {ss : Nat} {X : XH} {K : Int32 → XH → Prop} (hO28 : ∀ (l0 : Nat) (l1 : Nat) (l2 : Nat) (l3 : Nat) (l4 : Nat) (l5 : Int32) (cc : Nat) (ss : Nat) (X : XH), P28 l0 l1 l2 l3 l4 l5 cc ss X → AW G M_L_law 28 [(0, .ref 0), (1, .ref l1), (2, .ref l2), (3, .ref l3), (4, .ref l4), (5, .int l5)] [] X cc ss (KrI K)) (h : w_L_law_912 G P28 l0 l1 l2 l3 l4 l5 cc ss X K) : AW G M_L_law 912 [(0, .ref 0), (1, .ref l1), (2, .ref l2), (3, .ref l3), (4, .ref l4), (5, .int l5)] [] X cc ss (KrI K) := by
  unfold w_L_law_912 at h
  refine aw_aload_n 913 dL_law_912 rfl 1 rfl rfl ?_
  refine aw_aload_n 914 dL_law_913 rfl 0 rfl rfl ?_
  refine aw_iload 916 dL_law_914 5 rfl rfl ?_
  refine aw_iconst 917 (v := 1) dL_law_916 kI_1 rfl ?_
  refine aw_iadd 918 dL_law_917 rfl ?_
  obtain ⟨g1, h⟩ := h
  refine aw_sld 919 dL_law_918 g1 rfl ?_
  refine aw_aload_n 920 dL_law_919 rfl 0 rfl rfl ?_
  refine aw_iload 922 dL_law_920 5 rfl rfl ?_
  refine aw_iconst 923 (v := 2) dL_law_922 kI_2 rfl ?_
  refine aw_iadd 924 dL_law_923 rfl ?_
  obtain ⟨g2, h⟩ := h
  refine aw_sld 925 dL_law_924 g2 rfl ?_
  refine aw_aload_n 926 dL_law_925 rfl 3 rfl rfl ?_
  obtain ⟨g3, h⟩ := h
  obtain ⟨g4, h⟩ := h
  refine aw_callSX (M' := M_L_record) 929 221 [.ref _, .int _, .int _, .ref _] [] dL_law_926 lk_RL_221 ms_L_record mp_L_record (0, 10, 13, 13) [(0, 10, 17, 17)] rfl ⟨leb rfl, leb rfl⟩ rfl (leb rfl) g3 g4 rfl (am_L_record hG h) (kkI fun v6 X5 h => ?_) (kxN KrI.no)
  refine aw_widen (cc' := cc + 3) (ss' := ss + 18) (Nat.le_refl _) (Nat.le_refl _) ?_
  refine aw_istore 931 (lv' := [(6, _), (0, _), (1, _), (2, _), (3, _), (4, _), (5, _)]) dL_law_929 (ltb rfl) rfl rfl ?_
  refine aw_aload_n 932 dL_law_931 rfl 3 rfl rfl ?_
  refine aw_aload_n 933 dL_law_932 rfl 1 rfl rfl ?_
  refine aw_iload 935 dL_law_933 6 rfl rfl ?_
  refine aw_iconst 936 (v := 1) dL_law_935 kI_1 rfl ?_
  refine aw_iadd 937 dL_law_936 rfl ?_
  obtain ⟨g7, h⟩ := h
  refine aw_sld 938 dL_law_937 g7 rfl ?_
  refine aw_aload_n 939 dL_law_938 rfl 1 rfl rfl ?_
  refine aw_iload 941 dL_law_939 6 rfl rfl ?_
  refine aw_iconst 942 (v := 2) dL_law_941 kI_2 rfl ?_
  refine aw_iadd 943 dL_law_942 rfl ?_
  obtain ⟨g8, h⟩ := h
  refine aw_sld 944 dL_law_943 g8 rfl ?_
  obtain ⟨g9, h⟩ := h
  obtain ⟨g10, h⟩ := h
  obtain ⟨g13, h⟩ := h
  refine aw_callV (M' := M_X5_record) 947 223 5 l2 [.int _, .int _] [] dL_law_944 lk_RL_223 mv_X5_record mp_X5_record rfl ⟨leb rfl, leb rfl⟩ rfl (ltb rfl) g13 rfl (leb rfl) g9 g10 rfl (am_X5_record hG h) (kkI fun v12 X11 h => ?_) (kxN KrI.no)
  refine aw_widen (cc' := cc + 3) (ss' := ss + 18) (Nat.le_refl _) (Nat.le_refl _) ?_
  refine aw_istore 949 (lv' := [(7, _), (6, _), (0, _), (1, _), (2, _), (3, _), (4, _), (5, _)]) dL_law_947 (ltb rfl) rfl rfl ?_
  refine aw_aload_n 950 dL_law_949 rfl 4 rfl rfl ?_
  obtain ⟨g14, h⟩ := h
  obtain ⟨g15, h⟩ := h
  obtain ⟨g18, h⟩ := h
  refine aw_callV (M' := M_X5_thrown) 953 196 5 l2 [] [] dL_law_950 lk_RL_196 mv_X5_thrown mp_X5_thrown rfl ⟨leb rfl, leb rfl⟩ rfl (ltb rfl) g18 rfl (leb rfl) g14 g15 rfl (am_X5_thrown hG h) (kkI fun v17 X16 h => ?_) (kxN KrI.no)
  refine aw_widen (cc' := cc + 3) (ss' := ss + 18) (Nat.le_refl _) (Nat.le_refl _) ?_
  refine aw_iload 955 dL_law_953 1 rfl rfl ?_
  refine aw_icmp_eq 960 958 dL_law_955 rfl rfl (fun c19 => ?_) (fun c19 => ?_)
  · replace h := h.1 c19
    refine aw_iload 962 dL_law_960 1 rfl rfl ?_
    refine aw_if_ne 977 965 dL_law_962 rfl rfl (fun c20 => ?_) (fun c20 => ?_)
    · replace h := h.1 c20
      refine aw_goto 3937 dL_law_977 rfl ?_
      refine aw_iinc 3940 (v := 4) (lv' := [(5, _), (7, _), (6, _), (0, _), (1, _), (2, _), (3, _), (4, _)]) dL_law_3937 7 rfl kI_4 (ltb rfl) rfl rfl ?_
      refine aw_goto 28 dL_law_3940 rfl ?_
      exact aw_pick [3, 4, 5, 6, 7, 0] rfl (hO28 _ _ _ _ _ _ _ _ _ h)
    · replace h := h.2 c20
      refine aw_aload_n 966 dL_law_965 rfl 5 rfl rfl ?_
      refine aw_iconst 967 (v := 0) dL_law_966 kI_0 rfl ?_
      obtain ⟨g21, h⟩ := h
      obtain ⟨g22, h⟩ := h
      refine aw_laload 968 dL_law_967 g21 g22 rfl ?_
      refine aw_iload 970 dL_law_968 0 rfl rfl ?_
      refine aw_i2l 971 dL_law_970 rfl ?_
      refine aw_lcmp 972 dL_law_971 rfl ?_
      refine aw_if_eq 977 975 dL_law_972 rfl rfl (fun c23 => ?_) (fun c23 => ?_)
      · replace h := h.1 c23
        refine aw_goto 3937 dL_law_977 rfl ?_
        refine aw_iinc 3940 (v := 4) (lv' := [(5, _), (7, _), (6, _), (0, _), (1, _), (2, _), (3, _), (4, _)]) dL_law_3937 7 rfl kI_4 (ltb rfl) rfl rfl ?_
        refine aw_goto 28 dL_law_3940 rfl ?_
        exact aw_pick [3, 4, 5, 6, 7, 0] rfl (hO28 _ _ _ _ _ _ _ _ _ h)
      · replace h := h.2 c23
        refine aw_iconst 976 (v := 0) dL_law_975 kI_0 rfl ?_
        obtain ⟨g24, h⟩ := h
        obtain ⟨g25, h⟩ := h
        exact aw_ireturn (ty := .boolean) dL_law_976 rfl rfl g24 g25 ⟨_, rfl, h⟩
  · replace h := h.2 c19
    refine aw_iconst 959 (v := 0) dL_law_958 kI_0 rfl ?_
    obtain ⟨g26, h⟩ := h
    obtain ⟨g27, h⟩ := h
    exact aw_ireturn (ty := .boolean) dL_law_959 rfl rfl g26 g27 ⟨_, rfl, h⟩
set_option maxRecDepth 20000 in
theorem aw_L_law_980 {G : GG} (hG : G.1.stackTraces = false) {P28 : Nat → Nat → Nat → Nat → Nat → Int32 → Nat → Nat → XH → Prop} {l0 : Nat} {l1 : Nat} {l2 : Nat} {l3 : Nat} {l4 : Nat} {l5 : Int32} {cc : Nat} {ss : Nat} {X : XH} {K : Int32 → XH → Prop} (hO28 : ∀ (l0 : Nat) (l1 : Nat) (l2 : Nat) (l3 : Nat) (l4 : Nat) (l5 : Int32) (cc : Nat) (ss : Nat) (X : XH), P28 l0 l1 l2 l3 l4 l5 cc ss X → AW G M_L_law 28 [(0, .ref 0), (1, .ref l1), (2, .ref l2), (3, .ref l3), (4, .ref l4), (5, .int l5)] [] X cc ss (KrI K)) (h : w_L_law_980 G P28 l0 l1 l2 l3 l4 l5 cc ss X K) : AW G M_L_law 980 [(0, .ref 0), (1, .ref l1), (2, .ref l2), (3, .ref l3), (4, .ref l4), (5, .int l5)] [] X cc ss (KrI K) := by
  unfold w_L_law_980 at h
  refine aw_aload_n 981 dL_law_980 rfl 1 rfl rfl ?_
  refine aw_aload_n 982 dL_law_981 rfl 0 rfl rfl ?_
  refine aw_iload 984 dL_law_982 5 rfl rfl ?_
  refine aw_iconst 985 (v := 1) dL_law_984 kI_1 rfl ?_
  refine aw_iadd 986 dL_law_985 rfl ?_
  obtain ⟨g1, h⟩ := h
  refine aw_sld 987 dL_law_986 g1 rfl ?_
  refine aw_aload_n 988 dL_law_987 rfl 0 rfl rfl ?_
  refine aw_iload 990 dL_law_988 5 rfl rfl ?_
  refine aw_iconst 991 (v := 2) dL_law_990 kI_2 rfl ?_
  refine aw_iadd 992 dL_law_991 rfl ?_
  obtain ⟨g2, h⟩ := h
  refine aw_sld 993 dL_law_992 g2 rfl ?_
  refine aw_aload_n 994 dL_law_993 rfl 3 rfl rfl ?_
  obtain ⟨g3, h⟩ := h
  obtain ⟨g4, h⟩ := h
  refine aw_callSX (M' := M_L_wipe) 997 224 [.ref _, .int _, .int _, .ref _] [] dL_law_994 lk_RL_224 ms_L_wipe mp_L_wipe (0, 10, 13, 13) [(0, 10, 17, 17)] rfl ⟨leb rfl, leb rfl⟩ rfl (leb rfl) g3 g4 rfl (am_L_wipe hG h) (kkI fun v6 X5 h => ?_) (kxN KrI.no)
  refine aw_widen (cc' := cc + 3) (ss' := ss + 18) (Nat.le_refl _) (Nat.le_refl _) ?_
  refine aw_istore 999 (lv' := [(6, _), (0, _), (1, _), (2, _), (3, _), (4, _), (5, _)]) dL_law_997 (ltb rfl) rfl rfl ?_
  refine aw_aload_n 1000 dL_law_999 rfl 3 rfl rfl ?_
  refine aw_aload_n 1001 dL_law_1000 rfl 1 rfl rfl ?_
  refine aw_iload 1003 dL_law_1001 6 rfl rfl ?_
  refine aw_iconst 1004 (v := 1) dL_law_1003 kI_1 rfl ?_
  refine aw_iadd 1005 dL_law_1004 rfl ?_
  obtain ⟨g7, h⟩ := h
  refine aw_sld 1006 dL_law_1005 g7 rfl ?_
  refine aw_aload_n 1007 dL_law_1006 rfl 1 rfl rfl ?_
  refine aw_iload 1009 dL_law_1007 6 rfl rfl ?_
  refine aw_iconst 1010 (v := 2) dL_law_1009 kI_2 rfl ?_
  refine aw_iadd 1011 dL_law_1010 rfl ?_
  obtain ⟨g8, h⟩ := h
  refine aw_sld 1012 dL_law_1011 g8 rfl ?_
  obtain ⟨g9, h⟩ := h
  obtain ⟨g10, h⟩ := h
  obtain ⟨g13, h⟩ := h
  refine aw_callV (M' := M_X5_wipe) 1015 226 5 l2 [.int _, .int _] [] dL_law_1012 lk_RL_226 mv_X5_wipe mp_X5_wipe rfl ⟨leb rfl, leb rfl⟩ rfl (ltb rfl) g13 rfl (leb rfl) g9 g10 rfl (am_X5_wipe hG h) (kkI fun v12 X11 h => ?_) (kxN KrI.no)
  refine aw_widen (cc' := cc + 3) (ss' := ss + 18) (Nat.le_refl _) (Nat.le_refl _) ?_
  refine aw_istore 1017 (lv' := [(7, _), (6, _), (0, _), (1, _), (2, _), (3, _), (4, _), (5, _)]) dL_law_1015 (ltb rfl) rfl rfl ?_
  refine aw_aload_n 1018 dL_law_1017 rfl 4 rfl rfl ?_
  obtain ⟨g14, h⟩ := h
  obtain ⟨g15, h⟩ := h
  obtain ⟨g18, h⟩ := h
  refine aw_callV (M' := M_X5_thrown) 1021 196 5 l2 [] [] dL_law_1018 lk_RL_196 mv_X5_thrown mp_X5_thrown rfl ⟨leb rfl, leb rfl⟩ rfl (ltb rfl) g18 rfl (leb rfl) g14 g15 rfl (am_X5_thrown hG h) (kkI fun v17 X16 h => ?_) (kxN KrI.no)
  refine aw_widen (cc' := cc + 3) (ss' := ss + 18) (Nat.le_refl _) (Nat.le_refl _) ?_
  refine aw_iload 1023 dL_law_1021 1 rfl rfl ?_
  refine aw_icmp_eq 1028 1026 dL_law_1023 rfl rfl (fun c19 => ?_) (fun c19 => ?_)
  · replace h := h.1 c19
    refine aw_iload 1030 dL_law_1028 1 rfl rfl ?_
    refine aw_if_ne 1045 1033 dL_law_1030 rfl rfl (fun c20 => ?_) (fun c20 => ?_)
    · replace h := h.1 c20
      refine aw_goto 3937 dL_law_1045 rfl ?_
      refine aw_iinc 3940 (v := 4) (lv' := [(5, _), (7, _), (6, _), (0, _), (1, _), (2, _), (3, _), (4, _)]) dL_law_3937 7 rfl kI_4 (ltb rfl) rfl rfl ?_
      refine aw_goto 28 dL_law_3940 rfl ?_
      exact aw_pick [3, 4, 5, 6, 7, 0] rfl (hO28 _ _ _ _ _ _ _ _ _ h)
    · replace h := h.2 c20
      refine aw_aload_n 1034 dL_law_1033 rfl 5 rfl rfl ?_
      refine aw_iconst 1035 (v := 0) dL_law_1034 kI_0 rfl ?_
      obtain ⟨g21, h⟩ := h
      obtain ⟨g22, h⟩ := h
      refine aw_laload 1036 dL_law_1035 g21 g22 rfl ?_
      refine aw_iload 1038 dL_law_1036 0 rfl rfl ?_
      refine aw_i2l 1039 dL_law_1038 rfl ?_
      refine aw_lcmp 1040 dL_law_1039 rfl ?_
      refine aw_if_eq 1045 1043 dL_law_1040 rfl rfl (fun c23 => ?_) (fun c23 => ?_)
      · replace h := h.1 c23
        refine aw_goto 3937 dL_law_1045 rfl ?_
        refine aw_iinc 3940 (v := 4) (lv' := [(5, _), (7, _), (6, _), (0, _), (1, _), (2, _), (3, _), (4, _)]) dL_law_3937 7 rfl kI_4 (ltb rfl) rfl rfl ?_
        refine aw_goto 28 dL_law_3940 rfl ?_
        exact aw_pick [3, 4, 5, 6, 7, 0] rfl (hO28 _ _ _ _ _ _ _ _ _ h)
      · replace h := h.2 c23
        refine aw_iconst 1044 (v := 0) dL_law_1043 kI_0 rfl ?_
        obtain ⟨g24, h⟩ := h
        obtain ⟨g25, h⟩ := h
        exact aw_ireturn (ty := .boolean) dL_law_1044 rfl rfl g24 g25 ⟨_, rfl, h⟩
  · replace h := h.2 c19
    refine aw_iconst 1027 (v := 0) dL_law_1026 kI_0 rfl ?_
    obtain ⟨g26, h⟩ := h
    obtain ⟨g27, h⟩ := h
    exact aw_ireturn (ty := .boolean) dL_law_1027 rfl rfl g26 g27 ⟨_, rfl, h⟩
set_option maxRecDepth 20000 in
theorem aw_L_law_1048 {G : GG} (hG : G.1.stackTraces = false) {P28 : Nat → Nat → Nat → Nat → Nat → Int32 → Nat → Nat → XH → Prop} {l0 : Nat} {l1 : Nat} {l2 : Nat} {l3 : Nat} {l4 : Nat} {l5 : Int32} {cc : Nat} {ss : Nat} {X : XH} {K : Int32 → XH → Prop} (hO28 : ∀ (l0 : Nat) (l1 : Nat) (l2 : Nat) (l3 : Nat) (l4 : Nat) (l5 : Int32) (cc : Nat) (ss : Nat) (X : XH), P28 l0 l1 l2 l3 l4 l5 cc ss X → AW G M_L_law 28 [(0, .ref 0), (1, .ref l1), (2, .ref l2), (3, .ref l3), (4, .ref l4), (5, .int l5)] [] X cc ss (KrI K)) (h : w_L_law_1048 G P28 l0 l1 l2 l3 l4 l5 cc ss X K) : AW G M_L_law 1048 [(0, .ref 0), (1, .ref l1), (2, .ref l2), (3, .ref l3), (4, .ref l4), (5, .int l5)] [] X cc ss (KrI K) := by
  unfold w_L_law_1048 at h
  refine aw_aload_n 1049 dL_law_1048 rfl 1 rfl rfl ?_
  refine aw_aload_n 1050 dL_law_1049 rfl 3 rfl rfl ?_
  obtain ⟨g1, h⟩ := h
  obtain ⟨g2, h⟩ := h
  refine aw_callSX (M' := M_L_nextSession) 1053 227 [.ref _, .ref _] [] dL_law_1050 lk_RL_227 ms_L_nextSession mp_L_nextSession (0, 8, 11, 17) [] rfl ⟨leb rfl, leb rfl⟩ rfl (leb rfl) g1 g2 rfl (am_L_nextSession hG h) (kkI fun v4 X3 h => ?_) (kxN KrI.no)
  refine aw_widen (cc' := cc + 1) (ss' := ss + 6) (Nat.le_refl _) (Nat.le_refl _) ?_
  refine aw_istore 1055 (lv' := [(6, _), (0, _), (1, _), (2, _), (3, _), (4, _), (5, _)]) dL_law_1053 (ltb rfl) rfl rfl ?_
  refine aw_aload_n 1056 dL_law_1055 rfl 3 rfl rfl ?_
  obtain ⟨g5, h⟩ := h
  obtain ⟨g6, h⟩ := h
  obtain ⟨g9, h⟩ := h
  refine aw_callV (M' := M_X5_nextSession) 1059 230 5 l2 [] [] dL_law_1056 lk_RL_230 mv_X5_nextSession mp_X5_nextSession rfl ⟨leb rfl, leb rfl⟩ rfl (ltb rfl) g9 rfl (leb rfl) g5 g6 rfl (am_X5_nextSession hG h) (kkI fun v8 X7 h => ?_) (kxN KrI.no)
  refine aw_widen (cc' := cc + 1) (ss' := ss + 6) (Nat.le_refl _) (Nat.le_refl _) ?_
  refine aw_istore 1061 (lv' := [(7, _), (6, _), (0, _), (1, _), (2, _), (3, _), (4, _), (5, _)]) dL_law_1059 (ltb rfl) rfl rfl ?_
  refine aw_aload_n 1062 dL_law_1061 rfl 4 rfl rfl ?_
  obtain ⟨g10, h⟩ := h
  obtain ⟨g11, h⟩ := h
  obtain ⟨g14, h⟩ := h
  refine aw_callV (M' := M_X5_thrown) 1065 196 5 l2 [] [] dL_law_1062 lk_RL_196 mv_X5_thrown mp_X5_thrown rfl ⟨leb rfl, leb rfl⟩ rfl (ltb rfl) g14 rfl (leb rfl) g10 g11 rfl (am_X5_thrown hG h) (kkI fun v13 X12 h => ?_) (kxN KrI.no)
  refine aw_widen (cc' := cc + 1) (ss' := ss + 6) (Nat.le_refl _) (Nat.le_refl _) ?_
  refine aw_iload 1067 dL_law_1065 1 rfl rfl ?_
  refine aw_icmp_eq 1072 1070 dL_law_1067 rfl rfl (fun c15 => ?_) (fun c15 => ?_)
  · replace h := h.1 c15
    refine aw_iload 1074 dL_law_1072 1 rfl rfl ?_
    refine aw_if_ne 1089 1077 dL_law_1074 rfl rfl (fun c16 => ?_) (fun c16 => ?_)
    · replace h := h.1 c16
      refine aw_goto 3937 dL_law_1089 rfl ?_
      refine aw_iinc 3940 (v := 4) (lv' := [(5, _), (7, _), (6, _), (0, _), (1, _), (2, _), (3, _), (4, _)]) dL_law_3937 7 rfl kI_4 (ltb rfl) rfl rfl ?_
      refine aw_goto 28 dL_law_3940 rfl ?_
      exact aw_pick [3, 4, 5, 6, 7, 0] rfl (hO28 _ _ _ _ _ _ _ _ _ h)
    · replace h := h.2 c16
      refine aw_aload_n 1078 dL_law_1077 rfl 5 rfl rfl ?_
      refine aw_iconst 1079 (v := 0) dL_law_1078 kI_0 rfl ?_
      obtain ⟨g17, h⟩ := h
      obtain ⟨g18, h⟩ := h
      refine aw_laload 1080 dL_law_1079 g17 g18 rfl ?_
      refine aw_iload 1082 dL_law_1080 0 rfl rfl ?_
      refine aw_i2l 1083 dL_law_1082 rfl ?_
      refine aw_lcmp 1084 dL_law_1083 rfl ?_
      refine aw_if_eq 1089 1087 dL_law_1084 rfl rfl (fun c19 => ?_) (fun c19 => ?_)
      · replace h := h.1 c19
        refine aw_goto 3937 dL_law_1089 rfl ?_
        refine aw_iinc 3940 (v := 4) (lv' := [(5, _), (7, _), (6, _), (0, _), (1, _), (2, _), (3, _), (4, _)]) dL_law_3937 7 rfl kI_4 (ltb rfl) rfl rfl ?_
        refine aw_goto 28 dL_law_3940 rfl ?_
        exact aw_pick [3, 4, 5, 6, 7, 0] rfl (hO28 _ _ _ _ _ _ _ _ _ h)
      · replace h := h.2 c19
        refine aw_iconst 1088 (v := 0) dL_law_1087 kI_0 rfl ?_
        obtain ⟨g20, h⟩ := h
        obtain ⟨g21, h⟩ := h
        exact aw_ireturn (ty := .boolean) dL_law_1088 rfl rfl g20 g21 ⟨_, rfl, h⟩
  · replace h := h.2 c15
    refine aw_iconst 1071 (v := 0) dL_law_1070 kI_0 rfl ?_
    obtain ⟨g22, h⟩ := h
    obtain ⟨g23, h⟩ := h
    exact aw_ireturn (ty := .boolean) dL_law_1071 rfl rfl g22 g23 ⟨_, rfl, h⟩
set_option maxRecDepth 20000 in
theorem aw_L_law_1092 {G : GG} (hG : G.1.stackTraces = false) {P28 : Nat → Nat → Nat → Nat → Nat → Int32 → Nat → Nat → XH → Prop} {l0 : Nat} {l1 : Nat} {l2 : Nat} {l3 : Nat} {l4 : Nat} {l5 : Int32} {cc : Nat} {ss : Nat} {X : XH} {K : Int32 → XH → Prop} (hO28 : ∀ (l0 : Nat) (l1 : Nat) (l2 : Nat) (l3 : Nat) (l4 : Nat) (l5 : Int32) (cc : Nat) (ss : Nat) (X : XH), P28 l0 l1 l2 l3 l4 l5 cc ss X → AW G M_L_law 28 [(0, .ref 0), (1, .ref l1), (2, .ref l2), (3, .ref l3), (4, .ref l4), (5, .int l5)] [] X cc ss (KrI K)) (h : w_L_law_1092 G P28 l0 l1 l2 l3 l4 l5 cc ss X K) : AW G M_L_law 1092 [(0, .ref 0), (1, .ref l1), (2, .ref l2), (3, .ref l3), (4, .ref l4), (5, .int l5)] [] X cc ss (KrI K) := by
  unfold w_L_law_1092 at h
  refine aw_aload_n 1093 dL_law_1092 rfl 1 rfl rfl ?_
  refine aw_aload_n 1094 dL_law_1093 rfl 0 rfl rfl ?_
  refine aw_iload 1096 dL_law_1094 5 rfl rfl ?_
  refine aw_iconst 1097 (v := 1) dL_law_1096 kI_1 rfl ?_
  refine aw_iadd 1098 dL_law_1097 rfl ?_
  obtain ⟨g1, h⟩ := h
  refine aw_sld 1099 dL_law_1098 g1 rfl ?_
  refine aw_aload_n 1100 dL_law_1099 rfl 0 rfl rfl ?_
  refine aw_iload 1102 dL_law_1100 5 rfl rfl ?_
  refine aw_iconst 1103 (v := 2) dL_law_1102 kI_2 rfl ?_
  refine aw_iadd 1104 dL_law_1103 rfl ?_
  obtain ⟨g2, h⟩ := h
  refine aw_sld 1105 dL_law_1104 g2 rfl ?_
  refine aw_aload_n 1106 dL_law_1105 rfl 3 rfl rfl ?_
  obtain ⟨g3, h⟩ := h
  obtain ⟨g4, h⟩ := h
  refine aw_callSX (M' := M_L_mix) 1109 231 [.ref _, .int _, .int _, .ref _] [] dL_law_1106 lk_RL_231 ms_L_mix mp_L_mix (0, 10, 13, 13) [(0, 10, 17, 17)] rfl ⟨leb rfl, leb rfl⟩ rfl (leb rfl) g3 g4 rfl (am_L_mix hG h) (kkI fun v6 X5 h => ?_) (kxN KrI.no)
  refine aw_widen (cc' := cc + 3) (ss' := ss + 18) (Nat.le_refl _) (Nat.le_refl _) ?_
  refine aw_istore 1111 (lv' := [(6, _), (0, _), (1, _), (2, _), (3, _), (4, _), (5, _)]) dL_law_1109 (ltb rfl) rfl rfl ?_
  refine aw_aload_n 1112 dL_law_1111 rfl 3 rfl rfl ?_
  refine aw_aload_n 1113 dL_law_1112 rfl 1 rfl rfl ?_
  refine aw_iload 1115 dL_law_1113 6 rfl rfl ?_
  refine aw_iconst 1116 (v := 1) dL_law_1115 kI_1 rfl ?_
  refine aw_iadd 1117 dL_law_1116 rfl ?_
  obtain ⟨g7, h⟩ := h
  refine aw_sld 1118 dL_law_1117 g7 rfl ?_
  refine aw_aload_n 1119 dL_law_1118 rfl 1 rfl rfl ?_
  refine aw_iload 1121 dL_law_1119 6 rfl rfl ?_
  refine aw_iconst 1122 (v := 2) dL_law_1121 kI_2 rfl ?_
  refine aw_iadd 1123 dL_law_1122 rfl ?_
  obtain ⟨g8, h⟩ := h
  refine aw_sld 1124 dL_law_1123 g8 rfl ?_
  obtain ⟨g9, h⟩ := h
  obtain ⟨g10, h⟩ := h
  obtain ⟨g13, h⟩ := h
  refine aw_callV (M' := M_X5_mix) 1127 233 5 l2 [.int _, .int _] [] dL_law_1124 lk_RL_233 mv_X5_mix mp_X5_mix rfl ⟨leb rfl, leb rfl⟩ rfl (ltb rfl) g13 rfl (leb rfl) g9 g10 rfl (am_X5_mix hG h) (kkI fun v12 X11 h => ?_) (kxN KrI.no)
  refine aw_widen (cc' := cc + 3) (ss' := ss + 18) (Nat.le_refl _) (Nat.le_refl _) ?_
  refine aw_istore 1129 (lv' := [(7, _), (6, _), (0, _), (1, _), (2, _), (3, _), (4, _), (5, _)]) dL_law_1127 (ltb rfl) rfl rfl ?_
  refine aw_aload_n 1130 dL_law_1129 rfl 4 rfl rfl ?_
  obtain ⟨g14, h⟩ := h
  obtain ⟨g15, h⟩ := h
  obtain ⟨g18, h⟩ := h
  refine aw_callV (M' := M_X5_thrown) 1133 196 5 l2 [] [] dL_law_1130 lk_RL_196 mv_X5_thrown mp_X5_thrown rfl ⟨leb rfl, leb rfl⟩ rfl (ltb rfl) g18 rfl (leb rfl) g14 g15 rfl (am_X5_thrown hG h) (kkI fun v17 X16 h => ?_) (kxN KrI.no)
  refine aw_widen (cc' := cc + 3) (ss' := ss + 18) (Nat.le_refl _) (Nat.le_refl _) ?_
  refine aw_iload 1135 dL_law_1133 1 rfl rfl ?_
  refine aw_icmp_eq 1140 1138 dL_law_1135 rfl rfl (fun c19 => ?_) (fun c19 => ?_)
  · replace h := h.1 c19
    refine aw_iload 1142 dL_law_1140 1 rfl rfl ?_
    refine aw_if_ne 1157 1145 dL_law_1142 rfl rfl (fun c20 => ?_) (fun c20 => ?_)
    · replace h := h.1 c20
      refine aw_goto 3937 dL_law_1157 rfl ?_
      refine aw_iinc 3940 (v := 4) (lv' := [(5, _), (7, _), (6, _), (0, _), (1, _), (2, _), (3, _), (4, _)]) dL_law_3937 7 rfl kI_4 (ltb rfl) rfl rfl ?_
      refine aw_goto 28 dL_law_3940 rfl ?_
      exact aw_pick [3, 4, 5, 6, 7, 0] rfl (hO28 _ _ _ _ _ _ _ _ _ h)
    · replace h := h.2 c20
      refine aw_aload_n 1146 dL_law_1145 rfl 5 rfl rfl ?_
      refine aw_iconst 1147 (v := 0) dL_law_1146 kI_0 rfl ?_
      obtain ⟨g21, h⟩ := h
      obtain ⟨g22, h⟩ := h
      refine aw_laload 1148 dL_law_1147 g21 g22 rfl ?_
      refine aw_iload 1150 dL_law_1148 0 rfl rfl ?_
      refine aw_i2l 1151 dL_law_1150 rfl ?_
      refine aw_lcmp 1152 dL_law_1151 rfl ?_
      refine aw_if_eq 1157 1155 dL_law_1152 rfl rfl (fun c23 => ?_) (fun c23 => ?_)
      · replace h := h.1 c23
        refine aw_goto 3937 dL_law_1157 rfl ?_
        refine aw_iinc 3940 (v := 4) (lv' := [(5, _), (7, _), (6, _), (0, _), (1, _), (2, _), (3, _), (4, _)]) dL_law_3937 7 rfl kI_4 (ltb rfl) rfl rfl ?_
        refine aw_goto 28 dL_law_3940 rfl ?_
        exact aw_pick [3, 4, 5, 6, 7, 0] rfl (hO28 _ _ _ _ _ _ _ _ _ h)
      · replace h := h.2 c23
        refine aw_iconst 1156 (v := 0) dL_law_1155 kI_0 rfl ?_
        obtain ⟨g24, h⟩ := h
        obtain ⟨g25, h⟩ := h
        exact aw_ireturn (ty := .boolean) dL_law_1156 rfl rfl g24 g25 ⟨_, rfl, h⟩
  · replace h := h.2 c19
    refine aw_iconst 1139 (v := 0) dL_law_1138 kI_0 rfl ?_
    obtain ⟨g26, h⟩ := h
    obtain ⟨g27, h⟩ := h
    exact aw_ireturn (ty := .boolean) dL_law_1139 rfl rfl g26 g27 ⟨_, rfl, h⟩
set_option maxRecDepth 20000 in
theorem aw_L_law_1160 {G : GG} (hG : G.1.stackTraces = false) {P28 : Nat → Nat → Nat → Nat → Nat → Int32 → Nat → Nat → XH → Prop} {l0 : Nat} {l1 : Nat} {l2 : Nat} {l3 : Nat} {l4 : Nat} {l5 : Int32} {cc : Nat} {ss : Nat} {X : XH} {K : Int32 → XH → Prop} (hO28 : ∀ (l0 : Nat) (l1 : Nat) (l2 : Nat) (l3 : Nat) (l4 : Nat) (l5 : Int32) (cc : Nat) (ss : Nat) (X : XH), P28 l0 l1 l2 l3 l4 l5 cc ss X → AW G M_L_law 28 [(0, .ref 0), (1, .ref l1), (2, .ref l2), (3, .ref l3), (4, .ref l4), (5, .int l5)] [] X cc ss (KrI K)) (h : w_L_law_1160 G P28 l0 l1 l2 l3 l4 l5 cc ss X K) : AW G M_L_law 1160 [(0, .ref 0), (1, .ref l1), (2, .ref l2), (3, .ref l3), (4, .ref l4), (5, .int l5)] [] X cc ss (KrI K) := by
  unfold w_L_law_1160 at h
  refine aw_aload_n 1161 dL_law_1160 rfl 1 rfl rfl ?_
  refine aw_aload_n 1162 dL_law_1161 rfl 0 rfl rfl ?_
  refine aw_iload 1164 dL_law_1162 5 rfl rfl ?_
  refine aw_iconst 1165 (v := 1) dL_law_1164 kI_1 rfl ?_
  refine aw_iadd 1166 dL_law_1165 rfl ?_
  obtain ⟨g1, h⟩ := h
  refine aw_sld 1167 dL_law_1166 g1 rfl ?_
  refine aw_aload_n 1168 dL_law_1167 rfl 0 rfl rfl ?_
  refine aw_iload 1170 dL_law_1168 5 rfl rfl ?_
  refine aw_iconst 1171 (v := 2) dL_law_1170 kI_2 rfl ?_
  refine aw_iadd 1172 dL_law_1171 rfl ?_
  obtain ⟨g2, h⟩ := h
  refine aw_sld 1173 dL_law_1172 g2 rfl ?_
  refine aw_aload_n 1174 dL_law_1173 rfl 0 rfl rfl ?_
  refine aw_iload 1176 dL_law_1174 5 rfl rfl ?_
  refine aw_iconst 1177 (v := 3) dL_law_1176 kI_3 rfl ?_
  refine aw_iadd 1178 dL_law_1177 rfl ?_
  obtain ⟨g3, h⟩ := h
  refine aw_sld 1179 dL_law_1178 g3 rfl ?_
  refine aw_aload_n 1180 dL_law_1179 rfl 3 rfl rfl ?_
  obtain ⟨g4, h⟩ := h
  obtain ⟨g5, h⟩ := h
  refine aw_callSX (M' := M_L_sign) 1183 234 [.ref _, .int _, .int _, .int _, .ref _] [] dL_law_1180 lk_RL_234 ms_L_sign mp_L_sign (0, 12, 15, 13) [(0, 12, 19, 17)] rfl ⟨leb rfl, leb rfl⟩ rfl (leb rfl) g4 g5 rfl (am_L_sign hG h) (kkI fun v7 X6 h => ?_) (kxN KrI.no)
  refine aw_widen (cc' := cc + 4) (ss' := ss + 24) (Nat.le_refl _) (Nat.le_refl _) ?_
  refine aw_istore 1185 (lv' := [(6, _), (0, _), (1, _), (2, _), (3, _), (4, _), (5, _)]) dL_law_1183 (ltb rfl) rfl rfl ?_
  refine aw_aload_n 1186 dL_law_1185 rfl 3 rfl rfl ?_
  refine aw_aload_n 1187 dL_law_1186 rfl 1 rfl rfl ?_
  refine aw_iload 1189 dL_law_1187 6 rfl rfl ?_
  refine aw_iconst 1190 (v := 1) dL_law_1189 kI_1 rfl ?_
  refine aw_iadd 1191 dL_law_1190 rfl ?_
  obtain ⟨g8, h⟩ := h
  refine aw_sld 1192 dL_law_1191 g8 rfl ?_
  refine aw_aload_n 1193 dL_law_1192 rfl 1 rfl rfl ?_
  refine aw_iload 1195 dL_law_1193 6 rfl rfl ?_
  refine aw_iconst 1196 (v := 2) dL_law_1195 kI_2 rfl ?_
  refine aw_iadd 1197 dL_law_1196 rfl ?_
  obtain ⟨g9, h⟩ := h
  refine aw_sld 1198 dL_law_1197 g9 rfl ?_
  refine aw_aload_n 1199 dL_law_1198 rfl 1 rfl rfl ?_
  refine aw_iload 1201 dL_law_1199 6 rfl rfl ?_
  refine aw_iconst 1202 (v := 3) dL_law_1201 kI_3 rfl ?_
  refine aw_iadd 1203 dL_law_1202 rfl ?_
  obtain ⟨g10, h⟩ := h
  refine aw_sld 1204 dL_law_1203 g10 rfl ?_
  obtain ⟨g11, h⟩ := h
  obtain ⟨g12, h⟩ := h
  obtain ⟨g15, h⟩ := h
  refine aw_callV (M' := M_X5_sign) 1207 236 5 l2 [.int _, .int _, .int _] [] dL_law_1204 lk_RL_236 mv_X5_sign mp_X5_sign rfl ⟨leb rfl, leb rfl⟩ rfl (ltb rfl) g15 rfl (leb rfl) g11 g12 rfl (am_X5_sign hG h) (kkI fun v14 X13 h => ?_) (kxN KrI.no)
  refine aw_widen (cc' := cc + 4) (ss' := ss + 24) (Nat.le_refl _) (Nat.le_refl _) ?_
  refine aw_istore 1209 (lv' := [(7, _), (6, _), (0, _), (1, _), (2, _), (3, _), (4, _), (5, _)]) dL_law_1207 (ltb rfl) rfl rfl ?_
  refine aw_aload_n 1210 dL_law_1209 rfl 4 rfl rfl ?_
  obtain ⟨g16, h⟩ := h
  obtain ⟨g17, h⟩ := h
  obtain ⟨g20, h⟩ := h
  refine aw_callV (M' := M_X5_thrown) 1213 196 5 l2 [] [] dL_law_1210 lk_RL_196 mv_X5_thrown mp_X5_thrown rfl ⟨leb rfl, leb rfl⟩ rfl (ltb rfl) g20 rfl (leb rfl) g16 g17 rfl (am_X5_thrown hG h) (kkI fun v19 X18 h => ?_) (kxN KrI.no)
  refine aw_widen (cc' := cc + 4) (ss' := ss + 24) (Nat.le_refl _) (Nat.le_refl _) ?_
  refine aw_iload 1215 dL_law_1213 1 rfl rfl ?_
  refine aw_icmp_eq 1220 1218 dL_law_1215 rfl rfl (fun c21 => ?_) (fun c21 => ?_)
  · replace h := h.1 c21
    refine aw_iload 1222 dL_law_1220 1 rfl rfl ?_
    refine aw_if_ne 1237 1225 dL_law_1222 rfl rfl (fun c22 => ?_) (fun c22 => ?_)
    · replace h := h.1 c22
      refine aw_goto 3937 dL_law_1237 rfl ?_
      refine aw_iinc 3940 (v := 4) (lv' := [(5, _), (7, _), (6, _), (0, _), (1, _), (2, _), (3, _), (4, _)]) dL_law_3937 7 rfl kI_4 (ltb rfl) rfl rfl ?_
      refine aw_goto 28 dL_law_3940 rfl ?_
      exact aw_pick [3, 4, 5, 6, 7, 0] rfl (hO28 _ _ _ _ _ _ _ _ _ h)
    · replace h := h.2 c22
      refine aw_aload_n 1226 dL_law_1225 rfl 5 rfl rfl ?_
      refine aw_iconst 1227 (v := 0) dL_law_1226 kI_0 rfl ?_
      obtain ⟨g23, h⟩ := h
      obtain ⟨g24, h⟩ := h
      refine aw_laload 1228 dL_law_1227 g23 g24 rfl ?_
      refine aw_iload 1230 dL_law_1228 0 rfl rfl ?_
      refine aw_i2l 1231 dL_law_1230 rfl ?_
      refine aw_lcmp 1232 dL_law_1231 rfl ?_
      refine aw_if_eq 1237 1235 dL_law_1232 rfl rfl (fun c25 => ?_) (fun c25 => ?_)
      · replace h := h.1 c25
        refine aw_goto 3937 dL_law_1237 rfl ?_
        refine aw_iinc 3940 (v := 4) (lv' := [(5, _), (7, _), (6, _), (0, _), (1, _), (2, _), (3, _), (4, _)]) dL_law_3937 7 rfl kI_4 (ltb rfl) rfl rfl ?_
        refine aw_goto 28 dL_law_3940 rfl ?_
        exact aw_pick [3, 4, 5, 6, 7, 0] rfl (hO28 _ _ _ _ _ _ _ _ _ h)
      · replace h := h.2 c25
        refine aw_iconst 1236 (v := 0) dL_law_1235 kI_0 rfl ?_
        obtain ⟨g26, h⟩ := h
        obtain ⟨g27, h⟩ := h
        exact aw_ireturn (ty := .boolean) dL_law_1236 rfl rfl g26 g27 ⟨_, rfl, h⟩
  · replace h := h.2 c21
    refine aw_iconst 1219 (v := 0) dL_law_1218 kI_0 rfl ?_
    obtain ⟨g28, h⟩ := h
    obtain ⟨g29, h⟩ := h
    exact aw_ireturn (ty := .boolean) dL_law_1219 rfl rfl g28 g29 ⟨_, rfl, h⟩
set_option maxRecDepth 20000 in
theorem aw_L_law_1240 {G : GG} (hG : G.1.stackTraces = false) {P28 : Nat → Nat → Nat → Nat → Nat → Int32 → Nat → Nat → XH → Prop} {l0 : Nat} {l1 : Nat} {l2 : Nat} {l3 : Nat} {l4 : Nat} {l5 : Int32} {cc : Nat} {ss : Nat} {X : XH} {K : Int32 → XH → Prop} (hO28 : ∀ (l0 : Nat) (l1 : Nat) (l2 : Nat) (l3 : Nat) (l4 : Nat) (l5 : Int32) (cc : Nat) (ss : Nat) (X : XH), P28 l0 l1 l2 l3 l4 l5 cc ss X → AW G M_L_law 28 [(0, .ref 0), (1, .ref l1), (2, .ref l2), (3, .ref l3), (4, .ref l4), (5, .int l5)] [] X cc ss (KrI K)) (h : w_L_law_1240 G P28 l0 l1 l2 l3 l4 l5 cc ss X K) : AW G M_L_law 1240 [(0, .ref 0), (1, .ref l1), (2, .ref l2), (3, .ref l3), (4, .ref l4), (5, .int l5)] [] X cc ss (KrI K) := by
  unfold w_L_law_1240 at h
  refine aw_aload_n 1241 dL_law_1240 rfl 1 rfl rfl ?_
  refine aw_aload_n 1242 dL_law_1241 rfl 0 rfl rfl ?_
  refine aw_iload 1244 dL_law_1242 5 rfl rfl ?_
  refine aw_iconst 1245 (v := 1) dL_law_1244 kI_1 rfl ?_
  refine aw_iadd 1246 dL_law_1245 rfl ?_
  obtain ⟨g1, h⟩ := h
  refine aw_sld 1247 dL_law_1246 g1 rfl ?_
  refine aw_aload_n 1248 dL_law_1247 rfl 3 rfl rfl ?_
  obtain ⟨g2, h⟩ := h
  obtain ⟨g3, h⟩ := h
  refine aw_callSX (M' := M_L_append) 1251 237 [.ref _, .int _, .ref _] [] dL_law_1248 lk_RL_237 ms_L_append mp_L_append (0, 9, 12, 15) [(0, 9, 15, 17)] rfl ⟨leb rfl, leb rfl⟩ rfl (leb rfl) g2 g3 rfl (am_L_append hG h) (kkI fun v5 X4 h => ?_) (kxN KrI.no)
  refine aw_widen (cc' := cc + 2) (ss' := ss + 12) (Nat.le_refl _) (Nat.le_refl _) ?_
  refine aw_istore 1253 (lv' := [(6, _), (0, _), (1, _), (2, _), (3, _), (4, _), (5, _)]) dL_law_1251 (ltb rfl) rfl rfl ?_
  refine aw_aload_n 1254 dL_law_1253 rfl 3 rfl rfl ?_
  refine aw_aload_n 1255 dL_law_1254 rfl 1 rfl rfl ?_
  refine aw_iload 1257 dL_law_1255 6 rfl rfl ?_
  refine aw_iconst 1258 (v := 1) dL_law_1257 kI_1 rfl ?_
  refine aw_iadd 1259 dL_law_1258 rfl ?_
  obtain ⟨g6, h⟩ := h
  refine aw_sld 1260 dL_law_1259 g6 rfl ?_
  obtain ⟨g7, h⟩ := h
  obtain ⟨g8, h⟩ := h
  obtain ⟨g11, h⟩ := h
  refine aw_callV (M' := M_X5_append) 1263 240 5 l2 [.int _] [] dL_law_1260 lk_RL_240 mv_X5_append mp_X5_append rfl ⟨leb rfl, leb rfl⟩ rfl (ltb rfl) g11 rfl (leb rfl) g7 g8 rfl (am_X5_append hG h) (kkI fun v10 X9 h => ?_) (kxN KrI.no)
  refine aw_widen (cc' := cc + 2) (ss' := ss + 12) (Nat.le_refl _) (Nat.le_refl _) ?_
  refine aw_istore 1265 (lv' := [(7, _), (6, _), (0, _), (1, _), (2, _), (3, _), (4, _), (5, _)]) dL_law_1263 (ltb rfl) rfl rfl ?_
  refine aw_aload_n 1266 dL_law_1265 rfl 4 rfl rfl ?_
  obtain ⟨g12, h⟩ := h
  obtain ⟨g13, h⟩ := h
  obtain ⟨g16, h⟩ := h
  refine aw_callV (M' := M_X5_thrown) 1269 196 5 l2 [] [] dL_law_1266 lk_RL_196 mv_X5_thrown mp_X5_thrown rfl ⟨leb rfl, leb rfl⟩ rfl (ltb rfl) g16 rfl (leb rfl) g12 g13 rfl (am_X5_thrown hG h) (kkI fun v15 X14 h => ?_) (kxN KrI.no)
  refine aw_widen (cc' := cc + 2) (ss' := ss + 12) (Nat.le_refl _) (Nat.le_refl _) ?_
  refine aw_iload 1271 dL_law_1269 1 rfl rfl ?_
  refine aw_icmp_eq 1276 1274 dL_law_1271 rfl rfl (fun c17 => ?_) (fun c17 => ?_)
  · replace h := h.1 c17
    refine aw_iload 1278 dL_law_1276 1 rfl rfl ?_
    refine aw_if_ne 1293 1281 dL_law_1278 rfl rfl (fun c18 => ?_) (fun c18 => ?_)
    · replace h := h.1 c18
      refine aw_goto 3937 dL_law_1293 rfl ?_
      refine aw_iinc 3940 (v := 4) (lv' := [(5, _), (7, _), (6, _), (0, _), (1, _), (2, _), (3, _), (4, _)]) dL_law_3937 7 rfl kI_4 (ltb rfl) rfl rfl ?_
      refine aw_goto 28 dL_law_3940 rfl ?_
      exact aw_pick [3, 4, 5, 6, 7, 0] rfl (hO28 _ _ _ _ _ _ _ _ _ h)
    · replace h := h.2 c18
      refine aw_aload_n 1282 dL_law_1281 rfl 5 rfl rfl ?_
      refine aw_iconst 1283 (v := 0) dL_law_1282 kI_0 rfl ?_
      obtain ⟨g19, h⟩ := h
      obtain ⟨g20, h⟩ := h
      refine aw_laload 1284 dL_law_1283 g19 g20 rfl ?_
      refine aw_iload 1286 dL_law_1284 0 rfl rfl ?_
      refine aw_i2l 1287 dL_law_1286 rfl ?_
      refine aw_lcmp 1288 dL_law_1287 rfl ?_
      refine aw_if_eq 1293 1291 dL_law_1288 rfl rfl (fun c21 => ?_) (fun c21 => ?_)
      · replace h := h.1 c21
        refine aw_goto 3937 dL_law_1293 rfl ?_
        refine aw_iinc 3940 (v := 4) (lv' := [(5, _), (7, _), (6, _), (0, _), (1, _), (2, _), (3, _), (4, _)]) dL_law_3937 7 rfl kI_4 (ltb rfl) rfl rfl ?_
        refine aw_goto 28 dL_law_3940 rfl ?_
        exact aw_pick [3, 4, 5, 6, 7, 0] rfl (hO28 _ _ _ _ _ _ _ _ _ h)
      · replace h := h.2 c21
        refine aw_iconst 1292 (v := 0) dL_law_1291 kI_0 rfl ?_
        obtain ⟨g22, h⟩ := h
        obtain ⟨g23, h⟩ := h
        exact aw_ireturn (ty := .boolean) dL_law_1292 rfl rfl g22 g23 ⟨_, rfl, h⟩
  · replace h := h.2 c17
    refine aw_iconst 1275 (v := 0) dL_law_1274 kI_0 rfl ?_
    obtain ⟨g24, h⟩ := h
    obtain ⟨g25, h⟩ := h
    exact aw_ireturn (ty := .boolean) dL_law_1275 rfl rfl g24 g25 ⟨_, rfl, h⟩
set_option maxRecDepth 20000 in
theorem aw_L_law_1296 {G : GG} (hG : G.1.stackTraces = false) {P28 : Nat → Nat → Nat → Nat → Nat → Int32 → Nat → Nat → XH → Prop} {l0 : Nat} {l1 : Nat} {l2 : Nat} {l3 : Nat} {l4 : Nat} {l5 : Int32} {cc : Nat} {ss : Nat} {X : XH} {K : Int32 → XH → Prop} (hO28 : ∀ (l0 : Nat) (l1 : Nat) (l2 : Nat) (l3 : Nat) (l4 : Nat) (l5 : Int32) (cc : Nat) (ss : Nat) (X : XH), P28 l0 l1 l2 l3 l4 l5 cc ss X → AW G M_L_law 28 [(0, .ref 0), (1, .ref l1), (2, .ref l2), (3, .ref l3), (4, .ref l4), (5, .int l5)] [] X cc ss (KrI K)) (h : w_L_law_1296 G P28 l0 l1 l2 l3 l4 l5 cc ss X K) : AW G M_L_law 1296 [(0, .ref 0), (1, .ref l1), (2, .ref l2), (3, .ref l3), (4, .ref l4), (5, .int l5)] [] X cc ss (KrI K) := by
  unfold w_L_law_1296 at h
  refine aw_aload_n 1297 dL_law_1296 rfl 1 rfl rfl ?_
  obtain ⟨g1, h⟩ := h
  obtain ⟨g2, h⟩ := h
  obtain ⟨g5, h⟩ := h
  refine aw_callV (M' := M_X4_clearBuffer) 1300 241 4 l1 [] [] dL_law_1297 lk_RL_241 mv_X4_clearBuffer mp_X4_clearBuffer rfl ⟨leb rfl, leb rfl⟩ rfl (ltb rfl) g5 rfl (leb rfl) g1 g2 rfl (am_X4_clearBuffer hG h) (kkI fun v4 X3 h => ?_) (kxN KrI.no)
  refine aw_widen (cc' := cc) (ss' := ss) (Nat.le_refl _) (Nat.le_refl _) ?_
  refine aw_aload_n 1301 dL_law_1300 rfl 2 rfl rfl ?_
  obtain ⟨g6, h⟩ := h
  obtain ⟨g7, h⟩ := h
  obtain ⟨g10, h⟩ := h
  refine aw_callV (M' := M_X5_clearBuffer) 1304 244 5 l2 [] [.int _] dL_law_1301 lk_RL_244 mv_X5_clearBuffer mp_X5_clearBuffer rfl ⟨leb rfl, leb rfl⟩ rfl (ltb rfl) g10 rfl (leb rfl) g6 g7 rfl (am_X5_clearBuffer hG h) (kkI fun v9 X8 h => ?_) (kxN KrI.no)
  refine aw_widen (cc' := cc) (ss' := ss) (Nat.le_refl _) (Nat.le_refl _) ?_
  refine aw_icmp_eq 3937 1307 dL_law_1304 rfl rfl (fun c11 => ?_) (fun c11 => ?_)
  · replace h := h.1 c11
    refine aw_iinc 3940 (v := 4) (lv' := [(5, _), (0, _), (1, _), (2, _), (3, _), (4, _)]) dL_law_3937 5 rfl kI_4 (ltb rfl) rfl rfl ?_
    refine aw_goto 28 dL_law_3940 rfl ?_
    exact aw_pick [1, 2, 3, 4, 5, 0] rfl (hO28 _ _ _ _ _ _ _ _ _ h)
  · replace h := h.2 c11
    refine aw_iconst 1308 (v := 0) dL_law_1307 kI_0 rfl ?_
    obtain ⟨g12, h⟩ := h
    obtain ⟨g13, h⟩ := h
    exact aw_ireturn (ty := .boolean) dL_law_1308 rfl rfl g12 g13 ⟨_, rfl, h⟩
set_option maxRecDepth 20000 in
theorem aw_L_law_1309 {G : GG} (hG : G.1.stackTraces = false) {P28 : Nat → Nat → Nat → Nat → Nat → Int32 → Nat → Nat → XH → Prop} {l0 : Nat} {l1 : Nat} {l2 : Nat} {l3 : Nat} {l4 : Nat} {l5 : Int32} {cc : Nat} {ss : Nat} {X : XH} {K : Int32 → XH → Prop} (hO28 : ∀ (l0 : Nat) (l1 : Nat) (l2 : Nat) (l3 : Nat) (l4 : Nat) (l5 : Int32) (cc : Nat) (ss : Nat) (X : XH), P28 l0 l1 l2 l3 l4 l5 cc ss X → AW G M_L_law 28 [(0, .ref 0), (1, .ref l1), (2, .ref l2), (3, .ref l3), (4, .ref l4), (5, .int l5)] [] X cc ss (KrI K)) (h : w_L_law_1309 G P28 l0 l1 l2 l3 l4 l5 cc ss X K) : AW G M_L_law 1309 [(0, .ref 0), (1, .ref l1), (2, .ref l2), (3, .ref l3), (4, .ref l4), (5, .int l5)] [] X cc ss (KrI K) := by
  unfold w_L_law_1309 at h
  refine aw_aload_n 1310 dL_law_1309 rfl 1 rfl rfl ?_
  obtain ⟨g1, h⟩ := h
  obtain ⟨g2, h⟩ := h
  obtain ⟨g5, h⟩ := h
  refine aw_callV (M' := M_X4_firstError) 1313 245 4 l1 [] [] dL_law_1310 lk_RL_245 mv_X4_firstError mp_X4_firstError rfl ⟨leb rfl, leb rfl⟩ rfl (ltb rfl) g5 rfl (leb rfl) g1 g2 rfl (am_X4_firstError hG h) (kkI fun v4 X3 h => ?_) (kxN KrI.no)
  refine aw_widen (cc' := cc) (ss' := ss) (Nat.le_refl _) (Nat.le_refl _) ?_
  refine aw_aload_n 1314 dL_law_1313 rfl 2 rfl rfl ?_
  obtain ⟨g6, h⟩ := h
  obtain ⟨g7, h⟩ := h
  obtain ⟨g10, h⟩ := h
  refine aw_callV (M' := M_X5_firstError) 1317 248 5 l2 [] [.int _] dL_law_1314 lk_RL_248 mv_X5_firstError mp_X5_firstError rfl ⟨leb rfl, leb rfl⟩ rfl (ltb rfl) g10 rfl (leb rfl) g6 g7 rfl (am_X5_firstError hG h) (kkI fun v9 X8 h => ?_) (kxN KrI.no)
  refine aw_widen (cc' := cc) (ss' := ss) (Nat.le_refl _) (Nat.le_refl _) ?_
  refine aw_icmp_eq 3937 1320 dL_law_1317 rfl rfl (fun c11 => ?_) (fun c11 => ?_)
  · replace h := h.1 c11
    refine aw_iinc 3940 (v := 4) (lv' := [(5, _), (0, _), (1, _), (2, _), (3, _), (4, _)]) dL_law_3937 5 rfl kI_4 (ltb rfl) rfl rfl ?_
    refine aw_goto 28 dL_law_3940 rfl ?_
    exact aw_pick [1, 2, 3, 4, 5, 0] rfl (hO28 _ _ _ _ _ _ _ _ _ h)
  · replace h := h.2 c11
    refine aw_iconst 1321 (v := 0) dL_law_1320 kI_0 rfl ?_
    obtain ⟨g12, h⟩ := h
    obtain ⟨g13, h⟩ := h
    exact aw_ireturn (ty := .boolean) dL_law_1321 rfl rfl g12 g13 ⟨_, rfl, h⟩
set_option maxRecDepth 20000 in
theorem aw_L_law_1322 {G : GG} (hG : G.1.stackTraces = false) {P28 : Nat → Nat → Nat → Nat → Nat → Int32 → Nat → Nat → XH → Prop} {l0 : Nat} {l1 : Nat} {l2 : Nat} {l3 : Nat} {l4 : Nat} {l5 : Int32} {cc : Nat} {ss : Nat} {X : XH} {K : Int32 → XH → Prop} (hO28 : ∀ (l0 : Nat) (l1 : Nat) (l2 : Nat) (l3 : Nat) (l4 : Nat) (l5 : Int32) (cc : Nat) (ss : Nat) (X : XH), P28 l0 l1 l2 l3 l4 l5 cc ss X → AW G M_L_law 28 [(0, .ref 0), (1, .ref l1), (2, .ref l2), (3, .ref l3), (4, .ref l4), (5, .int l5)] [] X cc ss (KrI K)) (h : w_L_law_1322 G P28 l0 l1 l2 l3 l4 l5 cc ss X K) : AW G M_L_law 1322 [(0, .ref 0), (1, .ref l1), (2, .ref l2), (3, .ref l3), (4, .ref l4), (5, .int l5)] [] X cc ss (KrI K) := by
  unfold w_L_law_1322 at h
  refine aw_aload_n 1323 dL_law_1322 rfl 1 rfl rfl ?_
  refine aw_aload_n 1324 dL_law_1323 rfl 3 rfl rfl ?_
  obtain ⟨g1, h⟩ := h
  obtain ⟨g2, h⟩ := h
  refine aw_callSX (M' := M_L_load) 1327 249 [.ref _, .ref _] [] dL_law_1324 lk_RL_249 ms_L_load mp_L_load (0, 8, 11, 15) [(0, 8, 14, 17)] rfl ⟨leb rfl, leb rfl⟩ rfl (leb rfl) g1 g2 rfl (am_L_load hG h) (kkI fun v4 X3 h => ?_) (kxN KrI.no)
  refine aw_widen (cc' := cc + 1) (ss' := ss + 6) (Nat.le_refl _) (Nat.le_refl _) ?_
  refine aw_istore 1329 (lv' := [(6, _), (0, _), (1, _), (2, _), (3, _), (4, _), (5, _)]) dL_law_1327 (ltb rfl) rfl rfl ?_
  refine aw_aload_n 1330 dL_law_1329 rfl 3 rfl rfl ?_
  obtain ⟨g5, h⟩ := h
  obtain ⟨g6, h⟩ := h
  obtain ⟨g9, h⟩ := h
  refine aw_callV (M' := M_X5_load) 1333 251 5 l2 [] [] dL_law_1330 lk_RL_251 mv_X5_load mp_X5_load rfl ⟨leb rfl, leb rfl⟩ rfl (ltb rfl) g9 rfl (leb rfl) g5 g6 rfl (am_X5_load hG h) (kkI fun v8 X7 h => ?_) (kxN KrI.no)
  refine aw_widen (cc' := cc + 1) (ss' := ss + 6) (Nat.le_refl _) (Nat.le_refl _) ?_
  refine aw_istore 1335 (lv' := [(7, _), (6, _), (0, _), (1, _), (2, _), (3, _), (4, _), (5, _)]) dL_law_1333 (ltb rfl) rfl rfl ?_
  refine aw_aload_n 1336 dL_law_1335 rfl 4 rfl rfl ?_
  obtain ⟨g10, h⟩ := h
  obtain ⟨g11, h⟩ := h
  obtain ⟨g14, h⟩ := h
  refine aw_callV (M' := M_X5_thrown) 1339 196 5 l2 [] [] dL_law_1336 lk_RL_196 mv_X5_thrown mp_X5_thrown rfl ⟨leb rfl, leb rfl⟩ rfl (ltb rfl) g14 rfl (leb rfl) g10 g11 rfl (am_X5_thrown hG h) (kkI fun v13 X12 h => ?_) (kxN KrI.no)
  refine aw_widen (cc' := cc + 1) (ss' := ss + 6) (Nat.le_refl _) (Nat.le_refl _) ?_
  refine aw_iload 1341 dL_law_1339 1 rfl rfl ?_
  refine aw_icmp_eq 1346 1344 dL_law_1341 rfl rfl (fun c15 => ?_) (fun c15 => ?_)
  · replace h := h.1 c15
    refine aw_iload 1348 dL_law_1346 1 rfl rfl ?_
    refine aw_if_ne 1363 1351 dL_law_1348 rfl rfl (fun c16 => ?_) (fun c16 => ?_)
    · replace h := h.1 c16
      refine aw_goto 3937 dL_law_1363 rfl ?_
      refine aw_iinc 3940 (v := 4) (lv' := [(5, _), (7, _), (6, _), (0, _), (1, _), (2, _), (3, _), (4, _)]) dL_law_3937 7 rfl kI_4 (ltb rfl) rfl rfl ?_
      refine aw_goto 28 dL_law_3940 rfl ?_
      exact aw_pick [3, 4, 5, 6, 7, 0] rfl (hO28 _ _ _ _ _ _ _ _ _ h)
    · replace h := h.2 c16
      refine aw_aload_n 1352 dL_law_1351 rfl 5 rfl rfl ?_
      refine aw_iconst 1353 (v := 0) dL_law_1352 kI_0 rfl ?_
      obtain ⟨g17, h⟩ := h
      obtain ⟨g18, h⟩ := h
      refine aw_laload 1354 dL_law_1353 g17 g18 rfl ?_
      refine aw_iload 1356 dL_law_1354 0 rfl rfl ?_
      refine aw_i2l 1357 dL_law_1356 rfl ?_
      refine aw_lcmp 1358 dL_law_1357 rfl ?_
      refine aw_if_eq 1363 1361 dL_law_1358 rfl rfl (fun c19 => ?_) (fun c19 => ?_)
      · replace h := h.1 c19
        refine aw_goto 3937 dL_law_1363 rfl ?_
        refine aw_iinc 3940 (v := 4) (lv' := [(5, _), (7, _), (6, _), (0, _), (1, _), (2, _), (3, _), (4, _)]) dL_law_3937 7 rfl kI_4 (ltb rfl) rfl rfl ?_
        refine aw_goto 28 dL_law_3940 rfl ?_
        exact aw_pick [3, 4, 5, 6, 7, 0] rfl (hO28 _ _ _ _ _ _ _ _ _ h)
      · replace h := h.2 c19
        refine aw_iconst 1362 (v := 0) dL_law_1361 kI_0 rfl ?_
        obtain ⟨g20, h⟩ := h
        obtain ⟨g21, h⟩ := h
        exact aw_ireturn (ty := .boolean) dL_law_1362 rfl rfl g20 g21 ⟨_, rfl, h⟩
  · replace h := h.2 c15
    refine aw_iconst 1345 (v := 0) dL_law_1344 kI_0 rfl ?_
    obtain ⟨g22, h⟩ := h
    obtain ⟨g23, h⟩ := h
    exact aw_ireturn (ty := .boolean) dL_law_1345 rfl rfl g22 g23 ⟨_, rfl, h⟩
set_option maxRecDepth 20000 in
theorem aw_L_law_1366 {G : GG} (hG : G.1.stackTraces = false) {P28 : Nat → Nat → Nat → Nat → Nat → Int32 → Nat → Nat → XH → Prop} {l0 : Nat} {l1 : Nat} {l2 : Nat} {l3 : Nat} {l4 : Nat} {l5 : Int32} {cc : Nat} {ss : Nat} {X : XH} {K : Int32 → XH → Prop} (hO28 : ∀ (l0 : Nat) (l1 : Nat) (l2 : Nat) (l3 : Nat) (l4 : Nat) (l5 : Int32) (cc : Nat) (ss : Nat) (X : XH), P28 l0 l1 l2 l3 l4 l5 cc ss X → AW G M_L_law 28 [(0, .ref 0), (1, .ref l1), (2, .ref l2), (3, .ref l3), (4, .ref l4), (5, .int l5)] [] X cc ss (KrI K)) (h : w_L_law_1366 G P28 l0 l1 l2 l3 l4 l5 cc ss X K) : AW G M_L_law 1366 [(0, .ref 0), (1, .ref l1), (2, .ref l2), (3, .ref l3), (4, .ref l4), (5, .int l5)] [] X cc ss (KrI K) := by
  unfold w_L_law_1366 at h
  refine aw_aload_n 1367 dL_law_1366 rfl 1 rfl rfl ?_
  refine aw_aload_n 1368 dL_law_1367 rfl 0 rfl rfl ?_
  refine aw_iload 1370 dL_law_1368 5 rfl rfl ?_
  refine aw_iconst 1371 (v := 1) dL_law_1370 kI_1 rfl ?_
  refine aw_iadd 1372 dL_law_1371 rfl ?_
  obtain ⟨g1, h⟩ := h
  refine aw_sld 1373 dL_law_1372 g1 rfl ?_
  obtain ⟨g2, h⟩ := h
  obtain ⟨g3, h⟩ := h
  refine aw_callSX (M' := M_L_keep) 1376 252 [.ref _, .int _] [] dL_law_1373 lk_RL_252 ms_L_keep mp_L_keep (0, 5, 8, 15) [] rfl ⟨leb rfl, leb rfl⟩ rfl (leb rfl) g2 g3 rfl (am_L_keep hG h) (kkI fun v5 X4 h => ?_) (kxN KrI.no)
  refine aw_widen (cc' := cc + 1) (ss' := ss + 6) (Nat.le_refl _) (Nat.le_refl _) ?_
  refine aw_istore 1378 (lv' := [(6, _), (0, _), (1, _), (2, _), (3, _), (4, _), (5, _)]) dL_law_1376 (ltb rfl) rfl rfl ?_
  refine aw_aload_n 1379 dL_law_1378 rfl 3 rfl rfl ?_
  refine aw_aload_n 1380 dL_law_1379 rfl 1 rfl rfl ?_
  refine aw_iload 1382 dL_law_1380 6 rfl rfl ?_
  refine aw_iconst 1383 (v := 1) dL_law_1382 kI_1 rfl ?_
  refine aw_iadd 1384 dL_law_1383 rfl ?_
  obtain ⟨g6, h⟩ := h
  refine aw_sld 1385 dL_law_1384 g6 rfl ?_
  obtain ⟨g7, h⟩ := h
  obtain ⟨g8, h⟩ := h
  obtain ⟨g10, h⟩ := h
  refine aw_callV (M' := M_X5_keep) 1388 255 5 l2 [.int _] [] dL_law_1385 lk_RL_255 mv_X5_keep mp_X5_keep rfl ⟨leb rfl, leb rfl⟩ rfl (ltb rfl) g10 rfl (leb rfl) g7 g8 rfl (am_X5_keep hG h) (kkV fun X9 h => ?_) (kxN KrV.no)
  refine aw_widen (cc' := cc + 1) (ss' := ss + 6) (Nat.le_refl _) (Nat.le_refl _) ?_
  refine aw_aload_n 1389 dL_law_1388 rfl 3 rfl rfl ?_
  obtain ⟨g11, h⟩ := h
  obtain ⟨g12, h⟩ := h
  obtain ⟨g15, h⟩ := h
  refine aw_callV (M' := M_X5_thrown) 1392 196 5 l2 [] [] dL_law_1389 lk_RL_196 mv_X5_thrown mp_X5_thrown rfl ⟨leb rfl, leb rfl⟩ rfl (ltb rfl) g15 rfl (leb rfl) g11 g12 rfl (am_X5_thrown hG h) (kkI fun v14 X13 h => ?_) (kxN KrI.no)
  refine aw_widen (cc' := cc + 1) (ss' := ss + 6) (Nat.le_refl _) (Nat.le_refl _) ?_
  refine aw_iload 1394 dL_law_1392 0 rfl rfl ?_
  refine aw_icmp_eq 1399 1397 dL_law_1394 rfl rfl (fun c16 => ?_) (fun c16 => ?_)
  · replace h := h.1 c16
    refine aw_goto 3937 dL_law_1399 rfl ?_
    refine aw_iinc 3940 (v := 4) (lv' := [(5, _), (6, _), (0, _), (1, _), (2, _), (3, _), (4, _)]) dL_law_3937 6 rfl kI_4 (ltb rfl) rfl rfl ?_
    refine aw_goto 28 dL_law_3940 rfl ?_
    exact aw_pick [2, 3, 4, 5, 6, 0] rfl (hO28 _ _ _ _ _ _ _ _ _ h)
  · replace h := h.2 c16
    refine aw_iconst 1398 (v := 0) dL_law_1397 kI_0 rfl ?_
    obtain ⟨g17, h⟩ := h
    obtain ⟨g18, h⟩ := h
    exact aw_ireturn (ty := .boolean) dL_law_1398 rfl rfl g17 g18 ⟨_, rfl, h⟩
set_option maxRecDepth 20000 in
theorem aw_L_law_1402 {G : GG} (hG : G.1.stackTraces = false) {P28 : Nat → Nat → Nat → Nat → Nat → Int32 → Nat → Nat → XH → Prop} {l0 : Nat} {l1 : Nat} {l2 : Nat} {l3 : Nat} {l4 : Nat} {l5 : Int32} {cc : Nat} {ss : Nat} {X : XH} {K : Int32 → XH → Prop} (hO28 : ∀ (l0 : Nat) (l1 : Nat) (l2 : Nat) (l3 : Nat) (l4 : Nat) (l5 : Int32) (cc : Nat) (ss : Nat) (X : XH), P28 l0 l1 l2 l3 l4 l5 cc ss X → AW G M_L_law 28 [(0, .ref 0), (1, .ref l1), (2, .ref l2), (3, .ref l3), (4, .ref l4), (5, .int l5)] [] X cc ss (KrI K)) (h : w_L_law_1402 G P28 l0 l1 l2 l3 l4 l5 cc ss X K) : AW G M_L_law 1402 [(0, .ref 0), (1, .ref l1), (2, .ref l2), (3, .ref l3), (4, .ref l4), (5, .int l5)] [] X cc ss (KrI K) := by
  unfold w_L_law_1402 at h
  refine aw_aload_n 1403 dL_law_1402 rfl 1 rfl rfl ?_
  refine aw_aload_n 1404 dL_law_1403 rfl 0 rfl rfl ?_
  refine aw_iload 1406 dL_law_1404 5 rfl rfl ?_
  refine aw_iconst 1407 (v := 1) dL_law_1406 kI_1 rfl ?_
  refine aw_iadd 1408 dL_law_1407 rfl ?_
  obtain ⟨g1, h⟩ := h
  refine aw_sld 1409 dL_law_1408 g1 rfl ?_
  obtain ⟨g2, h⟩ := h
  obtain ⟨g3, h⟩ := h
  refine aw_callSX (M' := M_L_goBack) 1412 256 [.ref _, .int _] [] dL_law_1409 lk_RL_256 ms_L_goBack mp_L_goBack (0, 5, 8, 15) [(0, 5, 11, 17)] rfl ⟨leb rfl, leb rfl⟩ rfl (leb rfl) g2 g3 rfl (am_L_goBack hG h) (kkI fun v5 X4 h => ?_) (kxN KrI.no)
  refine aw_widen (cc' := cc + 2) (ss' := ss + 12) (Nat.le_refl _) (Nat.le_refl _) ?_
  refine aw_istore 1414 (lv' := [(6, _), (0, _), (1, _), (2, _), (3, _), (4, _), (5, _)]) dL_law_1412 (ltb rfl) rfl rfl ?_
  refine aw_aload_n 1415 dL_law_1414 rfl 3 rfl rfl ?_
  refine aw_aload_n 1416 dL_law_1415 rfl 1 rfl rfl ?_
  refine aw_iload 1418 dL_law_1416 6 rfl rfl ?_
  refine aw_iconst 1419 (v := 1) dL_law_1418 kI_1 rfl ?_
  refine aw_iadd 1420 dL_law_1419 rfl ?_
  obtain ⟨g6, h⟩ := h
  refine aw_sld 1421 dL_law_1420 g6 rfl ?_
  obtain ⟨g7, h⟩ := h
  obtain ⟨g8, h⟩ := h
  obtain ⟨g10, h⟩ := h
  refine aw_callV (M' := M_X5_goBack) 1424 258 5 l2 [.int _] [] dL_law_1421 lk_RL_258 mv_X5_goBack mp_X5_goBack rfl ⟨leb rfl, leb rfl⟩ rfl (ltb rfl) g10 rfl (leb rfl) g7 g8 rfl (am_X5_goBack hG h) (kkV fun X9 h => ?_) (kxN KrV.no)
  refine aw_widen (cc' := cc + 2) (ss' := ss + 12) (Nat.le_refl _) (Nat.le_refl _) ?_
  refine aw_aload_n 1425 dL_law_1424 rfl 3 rfl rfl ?_
  obtain ⟨g11, h⟩ := h
  obtain ⟨g12, h⟩ := h
  obtain ⟨g15, h⟩ := h
  refine aw_callV (M' := M_X5_thrown) 1428 196 5 l2 [] [] dL_law_1425 lk_RL_196 mv_X5_thrown mp_X5_thrown rfl ⟨leb rfl, leb rfl⟩ rfl (ltb rfl) g15 rfl (leb rfl) g11 g12 rfl (am_X5_thrown hG h) (kkI fun v14 X13 h => ?_) (kxN KrI.no)
  refine aw_widen (cc' := cc + 2) (ss' := ss + 12) (Nat.le_refl _) (Nat.le_refl _) ?_
  refine aw_iload 1430 dL_law_1428 0 rfl rfl ?_
  refine aw_icmp_eq 1435 1433 dL_law_1430 rfl rfl (fun c16 => ?_) (fun c16 => ?_)
  · replace h := h.1 c16
    refine aw_goto 3937 dL_law_1435 rfl ?_
    refine aw_iinc 3940 (v := 4) (lv' := [(5, _), (6, _), (0, _), (1, _), (2, _), (3, _), (4, _)]) dL_law_3937 6 rfl kI_4 (ltb rfl) rfl rfl ?_
    refine aw_goto 28 dL_law_3940 rfl ?_
    exact aw_pick [2, 3, 4, 5, 6, 0] rfl (hO28 _ _ _ _ _ _ _ _ _ h)
  · replace h := h.2 c16
    refine aw_iconst 1434 (v := 0) dL_law_1433 kI_0 rfl ?_
    obtain ⟨g17, h⟩ := h
    obtain ⟨g18, h⟩ := h
    exact aw_ireturn (ty := .boolean) dL_law_1434 rfl rfl g17 g18 ⟨_, rfl, h⟩
set_option maxRecDepth 20000 in
theorem aw_L_law_1438 {G : GG} (hG : G.1.stackTraces = false) {P28 : Nat → Nat → Nat → Nat → Nat → Int32 → Nat → Nat → XH → Prop} {l0 : Nat} {l1 : Nat} {l2 : Nat} {l3 : Nat} {l4 : Nat} {l5 : Int32} {cc : Nat} {ss : Nat} {X : XH} {K : Int32 → XH → Prop} (hO28 : ∀ (l0 : Nat) (l1 : Nat) (l2 : Nat) (l3 : Nat) (l4 : Nat) (l5 : Int32) (cc : Nat) (ss : Nat) (X : XH), P28 l0 l1 l2 l3 l4 l5 cc ss X → AW G M_L_law 28 [(0, .ref 0), (1, .ref l1), (2, .ref l2), (3, .ref l3), (4, .ref l4), (5, .int l5)] [] X cc ss (KrI K)) (h : w_L_law_1438 G P28 l0 l1 l2 l3 l4 l5 cc ss X K) : AW G M_L_law 1438 [(0, .ref 0), (1, .ref l1), (2, .ref l2), (3, .ref l3), (4, .ref l4), (5, .int l5)] [] X cc ss (KrI K) := by
  unfold w_L_law_1438 at h
  refine aw_aload_n 1439 dL_law_1438 rfl 1 rfl rfl ?_
  obtain ⟨g1, h⟩ := h
  obtain ⟨g2, h⟩ := h
  refine aw_callSX (M' := M_L_undo) 1442 259 [.ref _] [] dL_law_1439 lk_RL_259 ms_L_undo mp_L_undo (0, 4, 7, 17) [] rfl ⟨leb rfl, leb rfl⟩ rfl (leb rfl) g1 g2 rfl (am_L_undo hG h) (kkI fun v4 X3 h => ?_) (kxN KrI.no)
  refine aw_widen (cc' := cc + 1) (ss' := ss + 6) (Nat.le_refl _) (Nat.le_refl _) ?_
  refine aw_istore 1444 (lv' := [(6, _), (0, _), (1, _), (2, _), (3, _), (4, _), (5, _)]) dL_law_1442 (ltb rfl) rfl rfl ?_
  refine aw_aload_n 1445 dL_law_1444 rfl 3 rfl rfl ?_
  obtain ⟨g5, h⟩ := h
  obtain ⟨g6, h⟩ := h
  obtain ⟨g8, h⟩ := h
  refine aw_callV (M' := M_X5_undo) 1448 262 5 l2 [] [] dL_law_1445 lk_RL_262 mv_X5_undo mp_X5_undo rfl ⟨leb rfl, leb rfl⟩ rfl (ltb rfl) g8 rfl (leb rfl) g5 g6 rfl (am_X5_undo hG h) (kkV fun X7 h => ?_) (kxN KrV.no)
  refine aw_widen (cc' := cc + 1) (ss' := ss + 6) (Nat.le_refl _) (Nat.le_refl _) ?_
  refine aw_aload_n 1449 dL_law_1448 rfl 3 rfl rfl ?_
  obtain ⟨g9, h⟩ := h
  obtain ⟨g10, h⟩ := h
  obtain ⟨g13, h⟩ := h
  refine aw_callV (M' := M_X5_thrown) 1452 196 5 l2 [] [] dL_law_1449 lk_RL_196 mv_X5_thrown mp_X5_thrown rfl ⟨leb rfl, leb rfl⟩ rfl (ltb rfl) g13 rfl (leb rfl) g9 g10 rfl (am_X5_thrown hG h) (kkI fun v12 X11 h => ?_) (kxN KrI.no)
  refine aw_widen (cc' := cc + 1) (ss' := ss + 6) (Nat.le_refl _) (Nat.le_refl _) ?_
  refine aw_iload 1454 dL_law_1452 0 rfl rfl ?_
  refine aw_icmp_eq 1459 1457 dL_law_1454 rfl rfl (fun c14 => ?_) (fun c14 => ?_)
  · replace h := h.1 c14
    refine aw_goto 3937 dL_law_1459 rfl ?_
    refine aw_iinc 3940 (v := 4) (lv' := [(5, _), (6, _), (0, _), (1, _), (2, _), (3, _), (4, _)]) dL_law_3937 6 rfl kI_4 (ltb rfl) rfl rfl ?_
    refine aw_goto 28 dL_law_3940 rfl ?_
    exact aw_pick [2, 3, 4, 5, 6, 0] rfl (hO28 _ _ _ _ _ _ _ _ _ h)
  · replace h := h.2 c14
    refine aw_iconst 1458 (v := 0) dL_law_1457 kI_0 rfl ?_
    obtain ⟨g15, h⟩ := h
    obtain ⟨g16, h⟩ := h
    exact aw_ireturn (ty := .boolean) dL_law_1458 rfl rfl g15 g16 ⟨_, rfl, h⟩
set_option maxRecDepth 20000 in
theorem aw_L_law_1462 {G : GG} (hG : G.1.stackTraces = false) {P28 : Nat → Nat → Nat → Nat → Nat → Int32 → Nat → Nat → XH → Prop} {l0 : Nat} {l1 : Nat} {l2 : Nat} {l3 : Nat} {l4 : Nat} {l5 : Int32} {cc : Nat} {ss : Nat} {X : XH} {K : Int32 → XH → Prop} (hO28 : ∀ (l0 : Nat) (l1 : Nat) (l2 : Nat) (l3 : Nat) (l4 : Nat) (l5 : Int32) (cc : Nat) (ss : Nat) (X : XH), P28 l0 l1 l2 l3 l4 l5 cc ss X → AW G M_L_law 28 [(0, .ref 0), (1, .ref l1), (2, .ref l2), (3, .ref l3), (4, .ref l4), (5, .int l5)] [] X cc ss (KrI K)) (h : w_L_law_1462 G P28 l0 l1 l2 l3 l4 l5 cc ss X K) : AW G M_L_law 1462 [(0, .ref 0), (1, .ref l1), (2, .ref l2), (3, .ref l3), (4, .ref l4), (5, .int l5)] [] X cc ss (KrI K) := by
  unfold w_L_law_1462 at h
  refine aw_aload_n 1463 dL_law_1462 rfl 1 rfl rfl ?_
  obtain ⟨g1, h⟩ := h
  obtain ⟨g2, h⟩ := h
  obtain ⟨g5, h⟩ := h
  refine aw_callV (M' := M_X4_savedStates) 1466 263 4 l1 [] [] dL_law_1463 lk_RL_263 mv_X4_savedStates mp_X4_savedStates rfl ⟨leb rfl, leb rfl⟩ rfl (ltb rfl) g5 rfl (leb rfl) g1 g2 rfl (am_X4_savedStates hG h) (kkI fun v4 X3 h => ?_) (kxN KrI.no)
  refine aw_widen (cc' := cc) (ss' := ss) (Nat.le_refl _) (Nat.le_refl _) ?_
  refine aw_aload_n 1467 dL_law_1466 rfl 2 rfl rfl ?_
  obtain ⟨g6, h⟩ := h
  obtain ⟨g7, h⟩ := h
  obtain ⟨g10, h⟩ := h
  refine aw_callV (M' := M_X5_savedStates) 1470 266 5 l2 [] [.int _] dL_law_1467 lk_RL_266 mv_X5_savedStates mp_X5_savedStates rfl ⟨leb rfl, leb rfl⟩ rfl (ltb rfl) g10 rfl (leb rfl) g6 g7 rfl (am_X5_savedStates hG h) (kkI fun v9 X8 h => ?_) (kxN KrI.no)
  refine aw_widen (cc' := cc) (ss' := ss) (Nat.le_refl _) (Nat.le_refl _) ?_
  refine aw_icmp_eq 3937 1473 dL_law_1470 rfl rfl (fun c11 => ?_) (fun c11 => ?_)
  · replace h := h.1 c11
    refine aw_iinc 3940 (v := 4) (lv' := [(5, _), (0, _), (1, _), (2, _), (3, _), (4, _)]) dL_law_3937 5 rfl kI_4 (ltb rfl) rfl rfl ?_
    refine aw_goto 28 dL_law_3940 rfl ?_
    exact aw_pick [1, 2, 3, 4, 5, 0] rfl (hO28 _ _ _ _ _ _ _ _ _ h)
  · replace h := h.2 c11
    refine aw_iconst 1474 (v := 0) dL_law_1473 kI_0 rfl ?_
    obtain ⟨g12, h⟩ := h
    obtain ⟨g13, h⟩ := h
    exact aw_ireturn (ty := .boolean) dL_law_1474 rfl rfl g12 g13 ⟨_, rfl, h⟩
set_option maxRecDepth 20000 in
theorem aw_L_law_1475 {G : GG} (hG : G.1.stackTraces = false) {P28 : Nat → Nat → Nat → Nat → Nat → Int32 → Nat → Nat → XH → Prop} {l0 : Nat} {l1 : Nat} {l2 : Nat} {l3 : Nat} {l4 : Nat} {l5 : Int32} {cc : Nat} {ss : Nat} {X : XH} {K : Int32 → XH → Prop} (hO28 : ∀ (l0 : Nat) (l1 : Nat) (l2 : Nat) (l3 : Nat) (l4 : Nat) (l5 : Int32) (cc : Nat) (ss : Nat) (X : XH), P28 l0 l1 l2 l3 l4 l5 cc ss X → AW G M_L_law 28 [(0, .ref 0), (1, .ref l1), (2, .ref l2), (3, .ref l3), (4, .ref l4), (5, .int l5)] [] X cc ss (KrI K)) (h : w_L_law_1475 G P28 l0 l1 l2 l3 l4 l5 cc ss X K) : AW G M_L_law 1475 [(0, .ref 0), (1, .ref l1), (2, .ref l2), (3, .ref l3), (4, .ref l4), (5, .int l5)] [] X cc ss (KrI K) := by
  unfold w_L_law_1475 at h
  refine aw_aload_n 1476 dL_law_1475 rfl 1 rfl rfl ?_
  obtain ⟨g1, h⟩ := h
  obtain ⟨g2, h⟩ := h
  obtain ⟨g5, h⟩ := h
  refine aw_callV (M' := M_X4_clauses) 1479 267 4 l1 [] [] dL_law_1476 lk_RL_267 mv_X4_clauses mp_X4_clauses rfl ⟨leb rfl, leb rfl⟩ rfl (ltb rfl) g5 rfl (leb rfl) g1 g2 rfl (am_X4_clauses hG h) (kkI fun v4 X3 h => ?_) (kxN KrI.no)
  refine aw_widen (cc' := cc) (ss' := ss) (Nat.le_refl _) (Nat.le_refl _) ?_
  refine aw_aload_n 1480 dL_law_1479 rfl 2 rfl rfl ?_
  obtain ⟨g6, h⟩ := h
  obtain ⟨g7, h⟩ := h
  obtain ⟨g10, h⟩ := h
  refine aw_callV (M' := M_X5_clauses) 1483 270 5 l2 [] [.int _] dL_law_1480 lk_RL_270 mv_X5_clauses mp_X5_clauses rfl ⟨leb rfl, leb rfl⟩ rfl (ltb rfl) g10 rfl (leb rfl) g6 g7 rfl (am_X5_clauses hG h) (kkI fun v9 X8 h => ?_) (kxN KrI.no)
  refine aw_widen (cc' := cc) (ss' := ss) (Nat.le_refl _) (Nat.le_refl _) ?_
  refine aw_icmp_eq 3937 1486 dL_law_1483 rfl rfl (fun c11 => ?_) (fun c11 => ?_)
  · replace h := h.1 c11
    refine aw_iinc 3940 (v := 4) (lv' := [(5, _), (0, _), (1, _), (2, _), (3, _), (4, _)]) dL_law_3937 5 rfl kI_4 (ltb rfl) rfl rfl ?_
    refine aw_goto 28 dL_law_3940 rfl ?_
    exact aw_pick [1, 2, 3, 4, 5, 0] rfl (hO28 _ _ _ _ _ _ _ _ _ h)
  · replace h := h.2 c11
    refine aw_iconst 1487 (v := 0) dL_law_1486 kI_0 rfl ?_
    obtain ⟨g12, h⟩ := h
    obtain ⟨g13, h⟩ := h
    exact aw_ireturn (ty := .boolean) dL_law_1487 rfl rfl g12 g13 ⟨_, rfl, h⟩
set_option maxRecDepth 20000 in
theorem aw_L_law_1488 {G : GG} (hG : G.1.stackTraces = false) {P28 : Nat → Nat → Nat → Nat → Nat → Int32 → Nat → Nat → XH → Prop} {l0 : Nat} {l1 : Nat} {l2 : Nat} {l3 : Nat} {l4 : Nat} {l5 : Int32} {cc : Nat} {ss : Nat} {X : XH} {K : Int32 → XH → Prop} (hO28 : ∀ (l0 : Nat) (l1 : Nat) (l2 : Nat) (l3 : Nat) (l4 : Nat) (l5 : Int32) (cc : Nat) (ss : Nat) (X : XH), P28 l0 l1 l2 l3 l4 l5 cc ss X → AW G M_L_law 28 [(0, .ref 0), (1, .ref l1), (2, .ref l2), (3, .ref l3), (4, .ref l4), (5, .int l5)] [] X cc ss (KrI K)) (h : w_L_law_1488 G P28 l0 l1 l2 l3 l4 l5 cc ss X K) : AW G M_L_law 1488 [(0, .ref 0), (1, .ref l1), (2, .ref l2), (3, .ref l3), (4, .ref l4), (5, .int l5)] [] X cc ss (KrI K) := by
  unfold w_L_law_1488 at h
  refine aw_aload_n 1489 dL_law_1488 rfl 1 rfl rfl ?_
  refine aw_aload_n 1490 dL_law_1489 rfl 0 rfl rfl ?_
  refine aw_iload 1492 dL_law_1490 5 rfl rfl ?_
  refine aw_iconst 1493 (v := 1) dL_law_1492 kI_1 rfl ?_
  refine aw_iadd 1494 dL_law_1493 rfl ?_
  obtain ⟨g1, h⟩ := h
  refine aw_sld 1495 dL_law_1494 g1 rfl ?_
  refine aw_aload_n 1496 dL_law_1495 rfl 3 rfl rfl ?_
  obtain ⟨g2, h⟩ := h
  obtain ⟨g3, h⟩ := h
  refine aw_callSX (M' := M_L_reelOf) 1499 271 [.ref _, .int _, .ref _] [] dL_law_1496 lk_RL_271 ms_L_reelOf mp_L_reelOf (0, 9, 12, 13) [] rfl ⟨leb rfl, leb rfl⟩ rfl (leb rfl) g2 g3 rfl (am_L_reelOf hG h) (kkI fun v5 X4 h => ?_) (kxN KrI.no)
  refine aw_widen (cc' := cc + 1) (ss' := ss + 6) (Nat.le_refl _) (Nat.le_refl _) ?_
  refine aw_istore 1501 (lv' := [(6, _), (0, _), (1, _), (2, _), (3, _), (4, _), (5, _)]) dL_law_1499 (ltb rfl) rfl rfl ?_
  refine aw_aload_n 1502 dL_law_1501 rfl 3 rfl rfl ?_
  refine aw_aload_n 1503 dL_law_1502 rfl 1 rfl rfl ?_
  refine aw_iload 1505 dL_law_1503 6 rfl rfl ?_
  refine aw_iconst 1506 (v := 1) dL_law_1505 kI_1 rfl ?_
  refine aw_iadd 1507 dL_law_1506 rfl ?_
  obtain ⟨g6, h⟩ := h
  refine aw_sld 1508 dL_law_1507 g6 rfl ?_
  obtain ⟨g7, h⟩ := h
  obtain ⟨g8, h⟩ := h
  obtain ⟨g11, h⟩ := h
  refine aw_callV (M' := M_X5_reelOf) 1511 273 5 l2 [.int _] [] dL_law_1508 lk_RL_273 mv_X5_reelOf mp_X5_reelOf rfl ⟨leb rfl, leb rfl⟩ rfl (ltb rfl) g11 rfl (leb rfl) g7 g8 rfl (am_X5_reelOf hG h) (kkI fun v10 X9 h => ?_) (kxN KrI.no)
  refine aw_widen (cc' := cc + 1) (ss' := ss + 6) (Nat.le_refl _) (Nat.le_refl _) ?_
  refine aw_istore 1513 (lv' := [(7, _), (6, _), (0, _), (1, _), (2, _), (3, _), (4, _), (5, _)]) dL_law_1511 (ltb rfl) rfl rfl ?_
  refine aw_aload_n 1514 dL_law_1513 rfl 4 rfl rfl ?_
  obtain ⟨g12, h⟩ := h
  obtain ⟨g13, h⟩ := h
  obtain ⟨g16, h⟩ := h
  refine aw_callV (M' := M_X5_thrown) 1517 196 5 l2 [] [] dL_law_1514 lk_RL_196 mv_X5_thrown mp_X5_thrown rfl ⟨leb rfl, leb rfl⟩ rfl (ltb rfl) g16 rfl (leb rfl) g12 g13 rfl (am_X5_thrown hG h) (kkI fun v15 X14 h => ?_) (kxN KrI.no)
  refine aw_widen (cc' := cc + 1) (ss' := ss + 6) (Nat.le_refl _) (Nat.le_refl _) ?_
  refine aw_iload 1519 dL_law_1517 1 rfl rfl ?_
  refine aw_icmp_eq 1524 1522 dL_law_1519 rfl rfl (fun c17 => ?_) (fun c17 => ?_)
  · replace h := h.1 c17
    refine aw_iload 1526 dL_law_1524 1 rfl rfl ?_
    refine aw_if_ne 1541 1529 dL_law_1526 rfl rfl (fun c18 => ?_) (fun c18 => ?_)
    · replace h := h.1 c18
      refine aw_goto 3937 dL_law_1541 rfl ?_
      refine aw_iinc 3940 (v := 4) (lv' := [(5, _), (7, _), (6, _), (0, _), (1, _), (2, _), (3, _), (4, _)]) dL_law_3937 7 rfl kI_4 (ltb rfl) rfl rfl ?_
      refine aw_goto 28 dL_law_3940 rfl ?_
      exact aw_pick [3, 4, 5, 6, 7, 0] rfl (hO28 _ _ _ _ _ _ _ _ _ h)
    · replace h := h.2 c18
      refine aw_aload_n 1530 dL_law_1529 rfl 5 rfl rfl ?_
      refine aw_iconst 1531 (v := 0) dL_law_1530 kI_0 rfl ?_
      obtain ⟨g19, h⟩ := h
      obtain ⟨g20, h⟩ := h
      refine aw_laload 1532 dL_law_1531 g19 g20 rfl ?_
      refine aw_iload 1534 dL_law_1532 0 rfl rfl ?_
      refine aw_i2l 1535 dL_law_1534 rfl ?_
      refine aw_lcmp 1536 dL_law_1535 rfl ?_
      refine aw_if_eq 1541 1539 dL_law_1536 rfl rfl (fun c21 => ?_) (fun c21 => ?_)
      · replace h := h.1 c21
        refine aw_goto 3937 dL_law_1541 rfl ?_
        refine aw_iinc 3940 (v := 4) (lv' := [(5, _), (7, _), (6, _), (0, _), (1, _), (2, _), (3, _), (4, _)]) dL_law_3937 7 rfl kI_4 (ltb rfl) rfl rfl ?_
        refine aw_goto 28 dL_law_3940 rfl ?_
        exact aw_pick [3, 4, 5, 6, 7, 0] rfl (hO28 _ _ _ _ _ _ _ _ _ h)
      · replace h := h.2 c21
        refine aw_iconst 1540 (v := 0) dL_law_1539 kI_0 rfl ?_
        obtain ⟨g22, h⟩ := h
        obtain ⟨g23, h⟩ := h
        exact aw_ireturn (ty := .boolean) dL_law_1540 rfl rfl g22 g23 ⟨_, rfl, h⟩
  · replace h := h.2 c17
    refine aw_iconst 1523 (v := 0) dL_law_1522 kI_0 rfl ?_
    obtain ⟨g24, h⟩ := h
    obtain ⟨g25, h⟩ := h
    exact aw_ireturn (ty := .boolean) dL_law_1523 rfl rfl g24 g25 ⟨_, rfl, h⟩
set_option maxRecDepth 20000 in
theorem aw_L_law_1544 {G : GG} (hG : G.1.stackTraces = false) {P28 : Nat → Nat → Nat → Nat → Nat → Int32 → Nat → Nat → XH → Prop} {l0 : Nat} {l1 : Nat} {l2 : Nat} {l3 : Nat} {l4 : Nat} {l5 : Int32} {cc : Nat} {ss : Nat} {X : XH} {K : Int32 → XH → Prop} (hO28 : ∀ (l0 : Nat) (l1 : Nat) (l2 : Nat) (l3 : Nat) (l4 : Nat) (l5 : Int32) (cc : Nat) (ss : Nat) (X : XH), P28 l0 l1 l2 l3 l4 l5 cc ss X → AW G M_L_law 28 [(0, .ref 0), (1, .ref l1), (2, .ref l2), (3, .ref l3), (4, .ref l4), (5, .int l5)] [] X cc ss (KrI K)) (h : w_L_law_1544 G P28 l0 l1 l2 l3 l4 l5 cc ss X K) : AW G M_L_law 1544 [(0, .ref 0), (1, .ref l1), (2, .ref l2), (3, .ref l3), (4, .ref l4), (5, .int l5)] [] X cc ss (KrI K) := by
  unfold w_L_law_1544 at h
  refine aw_aload_n 1545 dL_law_1544 rfl 1 rfl rfl ?_
  refine aw_aload_n 1546 dL_law_1545 rfl 0 rfl rfl ?_
  refine aw_iload 1548 dL_law_1546 5 rfl rfl ?_
  refine aw_iconst 1549 (v := 1) dL_law_1548 kI_1 rfl ?_
  refine aw_iadd 1550 dL_law_1549 rfl ?_
  obtain ⟨g1, h⟩ := h
  refine aw_sld 1551 dL_law_1550 g1 rfl ?_
  refine aw_aload_n 1552 dL_law_1551 rfl 3 rfl rfl ?_
  obtain ⟨g2, h⟩ := h
  obtain ⟨g3, h⟩ := h
  refine aw_callSX (M' := M_L_speakerOf) 1555 274 [.ref _, .int _, .ref _] [] dL_law_1552 lk_RL_274 ms_L_speakerOf mp_L_speakerOf (0, 9, 12, 13) [] rfl ⟨leb rfl, leb rfl⟩ rfl (leb rfl) g2 g3 rfl (am_L_speakerOf hG h) (kkI fun v5 X4 h => ?_) (kxN KrI.no)
  refine aw_widen (cc' := cc + 1) (ss' := ss + 6) (Nat.le_refl _) (Nat.le_refl _) ?_
  refine aw_istore 1557 (lv' := [(6, _), (0, _), (1, _), (2, _), (3, _), (4, _), (5, _)]) dL_law_1555 (ltb rfl) rfl rfl ?_
  refine aw_aload_n 1558 dL_law_1557 rfl 3 rfl rfl ?_
  refine aw_aload_n 1559 dL_law_1558 rfl 1 rfl rfl ?_
  refine aw_iload 1561 dL_law_1559 6 rfl rfl ?_
  refine aw_iconst 1562 (v := 1) dL_law_1561 kI_1 rfl ?_
  refine aw_iadd 1563 dL_law_1562 rfl ?_
  obtain ⟨g6, h⟩ := h
  refine aw_sld 1564 dL_law_1563 g6 rfl ?_
  obtain ⟨g7, h⟩ := h
  obtain ⟨g8, h⟩ := h
  obtain ⟨g11, h⟩ := h
  refine aw_callV (M' := M_X5_speakerOf) 1567 276 5 l2 [.int _] [] dL_law_1564 lk_RL_276 mv_X5_speakerOf mp_X5_speakerOf rfl ⟨leb rfl, leb rfl⟩ rfl (ltb rfl) g11 rfl (leb rfl) g7 g8 rfl (am_X5_speakerOf hG h) (kkI fun v10 X9 h => ?_) (kxN KrI.no)
  refine aw_widen (cc' := cc + 1) (ss' := ss + 6) (Nat.le_refl _) (Nat.le_refl _) ?_
  refine aw_istore 1569 (lv' := [(7, _), (6, _), (0, _), (1, _), (2, _), (3, _), (4, _), (5, _)]) dL_law_1567 (ltb rfl) rfl rfl ?_
  refine aw_aload_n 1570 dL_law_1569 rfl 4 rfl rfl ?_
  obtain ⟨g12, h⟩ := h
  obtain ⟨g13, h⟩ := h
  obtain ⟨g16, h⟩ := h
  refine aw_callV (M' := M_X5_thrown) 1573 196 5 l2 [] [] dL_law_1570 lk_RL_196 mv_X5_thrown mp_X5_thrown rfl ⟨leb rfl, leb rfl⟩ rfl (ltb rfl) g16 rfl (leb rfl) g12 g13 rfl (am_X5_thrown hG h) (kkI fun v15 X14 h => ?_) (kxN KrI.no)
  refine aw_widen (cc' := cc + 1) (ss' := ss + 6) (Nat.le_refl _) (Nat.le_refl _) ?_
  refine aw_iload 1575 dL_law_1573 1 rfl rfl ?_
  refine aw_icmp_eq 1580 1578 dL_law_1575 rfl rfl (fun c17 => ?_) (fun c17 => ?_)
  · replace h := h.1 c17
    refine aw_iload 1582 dL_law_1580 1 rfl rfl ?_
    refine aw_if_ne 1597 1585 dL_law_1582 rfl rfl (fun c18 => ?_) (fun c18 => ?_)
    · replace h := h.1 c18
      refine aw_goto 3937 dL_law_1597 rfl ?_
      refine aw_iinc 3940 (v := 4) (lv' := [(5, _), (7, _), (6, _), (0, _), (1, _), (2, _), (3, _), (4, _)]) dL_law_3937 7 rfl kI_4 (ltb rfl) rfl rfl ?_
      refine aw_goto 28 dL_law_3940 rfl ?_
      exact aw_pick [3, 4, 5, 6, 7, 0] rfl (hO28 _ _ _ _ _ _ _ _ _ h)
    · replace h := h.2 c18
      refine aw_aload_n 1586 dL_law_1585 rfl 5 rfl rfl ?_
      refine aw_iconst 1587 (v := 0) dL_law_1586 kI_0 rfl ?_
      obtain ⟨g19, h⟩ := h
      obtain ⟨g20, h⟩ := h
      refine aw_laload 1588 dL_law_1587 g19 g20 rfl ?_
      refine aw_iload 1590 dL_law_1588 0 rfl rfl ?_
      refine aw_i2l 1591 dL_law_1590 rfl ?_
      refine aw_lcmp 1592 dL_law_1591 rfl ?_
      refine aw_if_eq 1597 1595 dL_law_1592 rfl rfl (fun c21 => ?_) (fun c21 => ?_)
      · replace h := h.1 c21
        refine aw_goto 3937 dL_law_1597 rfl ?_
        refine aw_iinc 3940 (v := 4) (lv' := [(5, _), (7, _), (6, _), (0, _), (1, _), (2, _), (3, _), (4, _)]) dL_law_3937 7 rfl kI_4 (ltb rfl) rfl rfl ?_
        refine aw_goto 28 dL_law_3940 rfl ?_
        exact aw_pick [3, 4, 5, 6, 7, 0] rfl (hO28 _ _ _ _ _ _ _ _ _ h)
      · replace h := h.2 c21
        refine aw_iconst 1596 (v := 0) dL_law_1595 kI_0 rfl ?_
        obtain ⟨g22, h⟩ := h
        obtain ⟨g23, h⟩ := h
        exact aw_ireturn (ty := .boolean) dL_law_1596 rfl rfl g22 g23 ⟨_, rfl, h⟩
  · replace h := h.2 c17
    refine aw_iconst 1579 (v := 0) dL_law_1578 kI_0 rfl ?_
    obtain ⟨g24, h⟩ := h
    obtain ⟨g25, h⟩ := h
    exact aw_ireturn (ty := .boolean) dL_law_1579 rfl rfl g24 g25 ⟨_, rfl, h⟩
set_option maxRecDepth 20000 in
theorem aw_L_law_1600 {G : GG} (hG : G.1.stackTraces = false) {P28 : Nat → Nat → Nat → Nat → Nat → Int32 → Nat → Nat → XH → Prop} {l0 : Nat} {l1 : Nat} {l2 : Nat} {l3 : Nat} {l4 : Nat} {l5 : Int32} {cc : Nat} {ss : Nat} {X : XH} {K : Int32 → XH → Prop} (hO28 : ∀ (l0 : Nat) (l1 : Nat) (l2 : Nat) (l3 : Nat) (l4 : Nat) (l5 : Int32) (cc : Nat) (ss : Nat) (X : XH), P28 l0 l1 l2 l3 l4 l5 cc ss X → AW G M_L_law 28 [(0, .ref 0), (1, .ref l1), (2, .ref l2), (3, .ref l3), (4, .ref l4), (5, .int l5)] [] X cc ss (KrI K)) (h : w_L_law_1600 G P28 l0 l1 l2 l3 l4 l5 cc ss X K) : AW G M_L_law 1600 [(0, .ref 0), (1, .ref l1), (2, .ref l2), (3, .ref l3), (4, .ref l4), (5, .int l5)] [] X cc ss (KrI K) := by
  unfold w_L_law_1600 at h
  refine aw_aload_n 1601 dL_law_1600 rfl 1 rfl rfl ?_
  refine aw_aload_n 1602 dL_law_1601 rfl 0 rfl rfl ?_
  refine aw_iload 1604 dL_law_1602 5 rfl rfl ?_
  refine aw_iconst 1605 (v := 1) dL_law_1604 kI_1 rfl ?_
  refine aw_iadd 1606 dL_law_1605 rfl ?_
  obtain ⟨g1, h⟩ := h
  refine aw_sld 1607 dL_law_1606 g1 rfl ?_
  refine aw_aload_n 1608 dL_law_1607 rfl 3 rfl rfl ?_
  obtain ⟨g2, h⟩ := h
  obtain ⟨g3, h⟩ := h
  refine aw_callSX (M' := M_L_lipsOf) 1611 277 [.ref _, .int _, .ref _] [] dL_law_1608 lk_RL_277 ms_L_lipsOf mp_L_lipsOf (0, 9, 12, 13) [] rfl ⟨leb rfl, leb rfl⟩ rfl (leb rfl) g2 g3 rfl (am_L_lipsOf hG h) (kkI fun v5 X4 h => ?_) (kxN KrI.no)
  refine aw_widen (cc' := cc + 1) (ss' := ss + 6) (Nat.le_refl _) (Nat.le_refl _) ?_
  refine aw_istore 1613 (lv' := [(6, _), (0, _), (1, _), (2, _), (3, _), (4, _), (5, _)]) dL_law_1611 (ltb rfl) rfl rfl ?_
  refine aw_aload_n 1614 dL_law_1613 rfl 3 rfl rfl ?_
  refine aw_aload_n 1615 dL_law_1614 rfl 1 rfl rfl ?_
  refine aw_iload 1617 dL_law_1615 6 rfl rfl ?_
  refine aw_iconst 1618 (v := 1) dL_law_1617 kI_1 rfl ?_
  refine aw_iadd 1619 dL_law_1618 rfl ?_
  obtain ⟨g6, h⟩ := h
  refine aw_sld 1620 dL_law_1619 g6 rfl ?_
  obtain ⟨g7, h⟩ := h
  obtain ⟨g8, h⟩ := h
  obtain ⟨g11, h⟩ := h
  refine aw_callV (M' := M_X5_lipsOf) 1623 279 5 l2 [.int _] [] dL_law_1620 lk_RL_279 mv_X5_lipsOf mp_X5_lipsOf rfl ⟨leb rfl, leb rfl⟩ rfl (ltb rfl) g11 rfl (leb rfl) g7 g8 rfl (am_X5_lipsOf hG h) (kkI fun v10 X9 h => ?_) (kxN KrI.no)
  refine aw_widen (cc' := cc + 1) (ss' := ss + 6) (Nat.le_refl _) (Nat.le_refl _) ?_
  refine aw_istore 1625 (lv' := [(7, _), (6, _), (0, _), (1, _), (2, _), (3, _), (4, _), (5, _)]) dL_law_1623 (ltb rfl) rfl rfl ?_
  refine aw_aload_n 1626 dL_law_1625 rfl 4 rfl rfl ?_
  obtain ⟨g12, h⟩ := h
  obtain ⟨g13, h⟩ := h
  obtain ⟨g16, h⟩ := h
  refine aw_callV (M' := M_X5_thrown) 1629 196 5 l2 [] [] dL_law_1626 lk_RL_196 mv_X5_thrown mp_X5_thrown rfl ⟨leb rfl, leb rfl⟩ rfl (ltb rfl) g16 rfl (leb rfl) g12 g13 rfl (am_X5_thrown hG h) (kkI fun v15 X14 h => ?_) (kxN KrI.no)
  refine aw_widen (cc' := cc + 1) (ss' := ss + 6) (Nat.le_refl _) (Nat.le_refl _) ?_
  refine aw_iload 1631 dL_law_1629 1 rfl rfl ?_
  refine aw_icmp_eq 1636 1634 dL_law_1631 rfl rfl (fun c17 => ?_) (fun c17 => ?_)
  · replace h := h.1 c17
    refine aw_iload 1638 dL_law_1636 1 rfl rfl ?_
    refine aw_if_ne 1653 1641 dL_law_1638 rfl rfl (fun c18 => ?_) (fun c18 => ?_)
    · replace h := h.1 c18
      refine aw_goto 3937 dL_law_1653 rfl ?_
      refine aw_iinc 3940 (v := 4) (lv' := [(5, _), (7, _), (6, _), (0, _), (1, _), (2, _), (3, _), (4, _)]) dL_law_3937 7 rfl kI_4 (ltb rfl) rfl rfl ?_
      refine aw_goto 28 dL_law_3940 rfl ?_
      exact aw_pick [3, 4, 5, 6, 7, 0] rfl (hO28 _ _ _ _ _ _ _ _ _ h)
    · replace h := h.2 c18
      refine aw_aload_n 1642 dL_law_1641 rfl 5 rfl rfl ?_
      refine aw_iconst 1643 (v := 0) dL_law_1642 kI_0 rfl ?_
      obtain ⟨g19, h⟩ := h
      obtain ⟨g20, h⟩ := h
      refine aw_laload 1644 dL_law_1643 g19 g20 rfl ?_
      refine aw_iload 1646 dL_law_1644 0 rfl rfl ?_
      refine aw_i2l 1647 dL_law_1646 rfl ?_
      refine aw_lcmp 1648 dL_law_1647 rfl ?_
      refine aw_if_eq 1653 1651 dL_law_1648 rfl rfl (fun c21 => ?_) (fun c21 => ?_)
      · replace h := h.1 c21
        refine aw_goto 3937 dL_law_1653 rfl ?_
        refine aw_iinc 3940 (v := 4) (lv' := [(5, _), (7, _), (6, _), (0, _), (1, _), (2, _), (3, _), (4, _)]) dL_law_3937 7 rfl kI_4 (ltb rfl) rfl rfl ?_
        refine aw_goto 28 dL_law_3940 rfl ?_
        exact aw_pick [3, 4, 5, 6, 7, 0] rfl (hO28 _ _ _ _ _ _ _ _ _ h)
      · replace h := h.2 c21
        refine aw_iconst 1652 (v := 0) dL_law_1651 kI_0 rfl ?_
        obtain ⟨g22, h⟩ := h
        obtain ⟨g23, h⟩ := h
        exact aw_ireturn (ty := .boolean) dL_law_1652 rfl rfl g22 g23 ⟨_, rfl, h⟩
  · replace h := h.2 c17
    refine aw_iconst 1635 (v := 0) dL_law_1634 kI_0 rfl ?_
    obtain ⟨g24, h⟩ := h
    obtain ⟨g25, h⟩ := h
    exact aw_ireturn (ty := .boolean) dL_law_1635 rfl rfl g24 g25 ⟨_, rfl, h⟩
set_option maxRecDepth 20000 in
theorem aw_L_law_1656 {G : GG} (hG : G.1.stackTraces = false) {P28 : Nat → Nat → Nat → Nat → Nat → Int32 → Nat → Nat → XH → Prop} {l0 : Nat} {l1 : Nat} {l2 : Nat} {l3 : Nat} {l4 : Nat} {l5 : Int32} {cc : Nat} {ss : Nat} {X : XH} {K : Int32 → XH → Prop} (hO28 : ∀ (l0 : Nat) (l1 : Nat) (l2 : Nat) (l3 : Nat) (l4 : Nat) (l5 : Int32) (cc : Nat) (ss : Nat) (X : XH), P28 l0 l1 l2 l3 l4 l5 cc ss X → AW G M_L_law 28 [(0, .ref 0), (1, .ref l1), (2, .ref l2), (3, .ref l3), (4, .ref l4), (5, .int l5)] [] X cc ss (KrI K)) (h : w_L_law_1656 G P28 l0 l1 l2 l3 l4 l5 cc ss X K) : AW G M_L_law 1656 [(0, .ref 0), (1, .ref l1), (2, .ref l2), (3, .ref l3), (4, .ref l4), (5, .int l5)] [] X cc ss (KrI K) := by
  unfold w_L_law_1656 at h
  refine aw_aload_n 1657 dL_law_1656 rfl 1 rfl rfl ?_
  refine aw_aload_n 1658 dL_law_1657 rfl 0 rfl rfl ?_
  refine aw_iload 1660 dL_law_1658 5 rfl rfl ?_
  refine aw_iconst 1661 (v := 1) dL_law_1660 kI_1 rfl ?_
  refine aw_iadd 1662 dL_law_1661 rfl ?_
  obtain ⟨g1, h⟩ := h
  refine aw_sld 1663 dL_law_1662 g1 rfl ?_
  refine aw_aload_n 1664 dL_law_1663 rfl 3 rfl rfl ?_
  obtain ⟨g2, h⟩ := h
  obtain ⟨g3, h⟩ := h
  refine aw_callSX (M' := M_L_sighOf) 1667 280 [.ref _, .int _, .ref _] [] dL_law_1664 lk_RL_280 ms_L_sighOf mp_L_sighOf (0, 9, 12, 13) [] rfl ⟨leb rfl, leb rfl⟩ rfl (leb rfl) g2 g3 rfl (am_L_sighOf hG h) (kkI fun v5 X4 h => ?_) (kxN KrI.no)
  refine aw_widen (cc' := cc + 1) (ss' := ss + 6) (Nat.le_refl _) (Nat.le_refl _) ?_
  refine aw_istore 1669 (lv' := [(6, _), (0, _), (1, _), (2, _), (3, _), (4, _), (5, _)]) dL_law_1667 (ltb rfl) rfl rfl ?_
  refine aw_aload_n 1670 dL_law_1669 rfl 3 rfl rfl ?_
  refine aw_aload_n 1671 dL_law_1670 rfl 1 rfl rfl ?_
  refine aw_iload 1673 dL_law_1671 6 rfl rfl ?_
  refine aw_iconst 1674 (v := 1) dL_law_1673 kI_1 rfl ?_
  refine aw_iadd 1675 dL_law_1674 rfl ?_
  obtain ⟨g6, h⟩ := h
  refine aw_sld 1676 dL_law_1675 g6 rfl ?_
  obtain ⟨g7, h⟩ := h
  obtain ⟨g8, h⟩ := h
  obtain ⟨g11, h⟩ := h
  refine aw_callV (M' := M_X5_sighOf) 1679 282 5 l2 [.int _] [] dL_law_1676 lk_RL_282 mv_X5_sighOf mp_X5_sighOf rfl ⟨leb rfl, leb rfl⟩ rfl (ltb rfl) g11 rfl (leb rfl) g7 g8 rfl (am_X5_sighOf hG h) (kkI fun v10 X9 h => ?_) (kxN KrI.no)
  refine aw_widen (cc' := cc + 1) (ss' := ss + 6) (Nat.le_refl _) (Nat.le_refl _) ?_
  refine aw_istore 1681 (lv' := [(7, _), (6, _), (0, _), (1, _), (2, _), (3, _), (4, _), (5, _)]) dL_law_1679 (ltb rfl) rfl rfl ?_
  refine aw_aload_n 1682 dL_law_1681 rfl 4 rfl rfl ?_
  obtain ⟨g12, h⟩ := h
  obtain ⟨g13, h⟩ := h
  obtain ⟨g16, h⟩ := h
  refine aw_callV (M' := M_X5_thrown) 1685 196 5 l2 [] [] dL_law_1682 lk_RL_196 mv_X5_thrown mp_X5_thrown rfl ⟨leb rfl, leb rfl⟩ rfl (ltb rfl) g16 rfl (leb rfl) g12 g13 rfl (am_X5_thrown hG h) (kkI fun v15 X14 h => ?_) (kxN KrI.no)
  refine aw_widen (cc' := cc + 1) (ss' := ss + 6) (Nat.le_refl _) (Nat.le_refl _) ?_
  refine aw_iload 1687 dL_law_1685 1 rfl rfl ?_
  refine aw_icmp_eq 1692 1690 dL_law_1687 rfl rfl (fun c17 => ?_) (fun c17 => ?_)
  · replace h := h.1 c17
    refine aw_iload 1694 dL_law_1692 1 rfl rfl ?_
    refine aw_if_ne 1709 1697 dL_law_1694 rfl rfl (fun c18 => ?_) (fun c18 => ?_)
    · replace h := h.1 c18
      refine aw_goto 3937 dL_law_1709 rfl ?_
      refine aw_iinc 3940 (v := 4) (lv' := [(5, _), (7, _), (6, _), (0, _), (1, _), (2, _), (3, _), (4, _)]) dL_law_3937 7 rfl kI_4 (ltb rfl) rfl rfl ?_
      refine aw_goto 28 dL_law_3940 rfl ?_
      exact aw_pick [3, 4, 5, 6, 7, 0] rfl (hO28 _ _ _ _ _ _ _ _ _ h)
    · replace h := h.2 c18
      refine aw_aload_n 1698 dL_law_1697 rfl 5 rfl rfl ?_
      refine aw_iconst 1699 (v := 0) dL_law_1698 kI_0 rfl ?_
      obtain ⟨g19, h⟩ := h
      obtain ⟨g20, h⟩ := h
      refine aw_laload 1700 dL_law_1699 g19 g20 rfl ?_
      refine aw_iload 1702 dL_law_1700 0 rfl rfl ?_
      refine aw_i2l 1703 dL_law_1702 rfl ?_
      refine aw_lcmp 1704 dL_law_1703 rfl ?_
      refine aw_if_eq 1709 1707 dL_law_1704 rfl rfl (fun c21 => ?_) (fun c21 => ?_)
      · replace h := h.1 c21
        refine aw_goto 3937 dL_law_1709 rfl ?_
        refine aw_iinc 3940 (v := 4) (lv' := [(5, _), (7, _), (6, _), (0, _), (1, _), (2, _), (3, _), (4, _)]) dL_law_3937 7 rfl kI_4 (ltb rfl) rfl rfl ?_
        refine aw_goto 28 dL_law_3940 rfl ?_
        exact aw_pick [3, 4, 5, 6, 7, 0] rfl (hO28 _ _ _ _ _ _ _ _ _ h)
      · replace h := h.2 c21
        refine aw_iconst 1708 (v := 0) dL_law_1707 kI_0 rfl ?_
        obtain ⟨g22, h⟩ := h
        obtain ⟨g23, h⟩ := h
        exact aw_ireturn (ty := .boolean) dL_law_1708 rfl rfl g22 g23 ⟨_, rfl, h⟩
  · replace h := h.2 c17
    refine aw_iconst 1691 (v := 0) dL_law_1690 kI_0 rfl ?_
    obtain ⟨g24, h⟩ := h
    obtain ⟨g25, h⟩ := h
    exact aw_ireturn (ty := .boolean) dL_law_1691 rfl rfl g24 g25 ⟨_, rfl, h⟩
set_option maxRecDepth 20000 in
theorem aw_L_law_1712 {G : GG} (hG : G.1.stackTraces = false) {P28 : Nat → Nat → Nat → Nat → Nat → Int32 → Nat → Nat → XH → Prop} {l0 : Nat} {l1 : Nat} {l2 : Nat} {l3 : Nat} {l4 : Nat} {l5 : Int32} {cc : Nat} {ss : Nat} {X : XH} {K : Int32 → XH → Prop} (hO28 : ∀ (l0 : Nat) (l1 : Nat) (l2 : Nat) (l3 : Nat) (l4 : Nat) (l5 : Int32) (cc : Nat) (ss : Nat) (X : XH), P28 l0 l1 l2 l3 l4 l5 cc ss X → AW G M_L_law 28 [(0, .ref 0), (1, .ref l1), (2, .ref l2), (3, .ref l3), (4, .ref l4), (5, .int l5)] [] X cc ss (KrI K)) (h : w_L_law_1712 G P28 l0 l1 l2 l3 l4 l5 cc ss X K) : AW G M_L_law 1712 [(0, .ref 0), (1, .ref l1), (2, .ref l2), (3, .ref l3), (4, .ref l4), (5, .int l5)] [] X cc ss (KrI K) := by
  unfold w_L_law_1712 at h
  refine aw_aload_n 1713 dL_law_1712 rfl 1 rfl rfl ?_
  refine aw_aload_n 1714 dL_law_1713 rfl 0 rfl rfl ?_
  refine aw_iload 1716 dL_law_1714 5 rfl rfl ?_
  refine aw_iconst 1717 (v := 1) dL_law_1716 kI_1 rfl ?_
  refine aw_iadd 1718 dL_law_1717 rfl ?_
  obtain ⟨g1, h⟩ := h
  refine aw_sld 1719 dL_law_1718 g1 rfl ?_
  refine aw_aload_n 1720 dL_law_1719 rfl 0 rfl rfl ?_
  refine aw_iload 1722 dL_law_1720 5 rfl rfl ?_
  refine aw_iconst 1723 (v := 2) dL_law_1722 kI_2 rfl ?_
  refine aw_iadd 1724 dL_law_1723 rfl ?_
  obtain ⟨g2, h⟩ := h
  refine aw_sld 1725 dL_law_1724 g2 rfl ?_
  refine aw_aload_n 1726 dL_law_1725 rfl 3 rfl rfl ?_
  obtain ⟨g3, h⟩ := h
  obtain ⟨g4, h⟩ := h
  refine aw_callSX (M' := M_L_isTranslated) 1729 283 [.ref _, .int _, .int _, .ref _] [] dL_law_1726 lk_RL_283 ms_L_isTranslated mp_L_isTranslated (0, 17, 20, 13) [] rfl ⟨leb rfl, leb rfl⟩ rfl (leb rfl) g3 g4 rfl (am_L_isTranslated hG h) (kkI fun v6 X5 h => ?_) (kxN KrI.no)
  refine aw_widen (cc' := cc + 2) (ss' := ss + 12) (Nat.le_refl _) (Nat.le_refl _) ?_
  refine aw_istore 1731 (lv' := [(6, _), (0, _), (1, _), (2, _), (3, _), (4, _), (5, _)]) dL_law_1729 (ltb rfl) rfl rfl ?_
  refine aw_aload_n 1732 dL_law_1731 rfl 3 rfl rfl ?_
  refine aw_aload_n 1733 dL_law_1732 rfl 1 rfl rfl ?_
  refine aw_iload 1735 dL_law_1733 6 rfl rfl ?_
  refine aw_iconst 1736 (v := 1) dL_law_1735 kI_1 rfl ?_
  refine aw_iadd 1737 dL_law_1736 rfl ?_
  obtain ⟨g7, h⟩ := h
  refine aw_sld 1738 dL_law_1737 g7 rfl ?_
  refine aw_aload_n 1739 dL_law_1738 rfl 1 rfl rfl ?_
  refine aw_iload 1741 dL_law_1739 6 rfl rfl ?_
  refine aw_iconst 1742 (v := 2) dL_law_1741 kI_2 rfl ?_
  refine aw_iadd 1743 dL_law_1742 rfl ?_
  obtain ⟨g8, h⟩ := h
  refine aw_sld 1744 dL_law_1743 g8 rfl ?_
  obtain ⟨g9, h⟩ := h
  obtain ⟨g10, h⟩ := h
  obtain ⟨g13, h⟩ := h
  refine aw_callV (M' := M_X5_isTranslated) 1747 285 5 l2 [.int _, .int _] [] dL_law_1744 lk_RL_285 mv_X5_isTranslated mp_X5_isTranslated rfl ⟨leb rfl, leb rfl⟩ rfl (ltb rfl) g13 rfl (leb rfl) g9 g10 rfl (am_X5_isTranslated hG h) (kkI fun v12 X11 h => ?_) (kxN KrI.no)
  refine aw_widen (cc' := cc + 2) (ss' := ss + 12) (Nat.le_refl _) (Nat.le_refl _) ?_
  refine aw_istore 1749 (lv' := [(7, _), (6, _), (0, _), (1, _), (2, _), (3, _), (4, _), (5, _)]) dL_law_1747 (ltb rfl) rfl rfl ?_
  refine aw_aload_n 1750 dL_law_1749 rfl 4 rfl rfl ?_
  obtain ⟨g14, h⟩ := h
  obtain ⟨g15, h⟩ := h
  obtain ⟨g18, h⟩ := h
  refine aw_callV (M' := M_X5_thrown) 1753 196 5 l2 [] [] dL_law_1750 lk_RL_196 mv_X5_thrown mp_X5_thrown rfl ⟨leb rfl, leb rfl⟩ rfl (ltb rfl) g18 rfl (leb rfl) g14 g15 rfl (am_X5_thrown hG h) (kkI fun v17 X16 h => ?_) (kxN KrI.no)
  refine aw_widen (cc' := cc + 2) (ss' := ss + 12) (Nat.le_refl _) (Nat.le_refl _) ?_
  refine aw_iload 1755 dL_law_1753 1 rfl rfl ?_
  refine aw_icmp_eq 1760 1758 dL_law_1755 rfl rfl (fun c19 => ?_) (fun c19 => ?_)
  · replace h := h.1 c19
    refine aw_iload 1762 dL_law_1760 1 rfl rfl ?_
    refine aw_if_ne 1784 1765 dL_law_1762 rfl rfl (fun c20 => ?_) (fun c20 => ?_)
    · replace h := h.1 c20
      refine aw_goto 3937 dL_law_1784 rfl ?_
      refine aw_iinc 3940 (v := 4) (lv' := [(5, _), (7, _), (6, _), (0, _), (1, _), (2, _), (3, _), (4, _)]) dL_law_3937 7 rfl kI_4 (ltb rfl) rfl rfl ?_
      refine aw_goto 28 dL_law_3940 rfl ?_
      exact aw_pick [3, 4, 5, 6, 7, 0] rfl (hO28 _ _ _ _ _ _ _ _ _ h)
    · replace h := h.2 c20
      refine aw_aload_n 1766 dL_law_1765 rfl 5 rfl rfl ?_
      refine aw_iconst 1767 (v := 0) dL_law_1766 kI_0 rfl ?_
      obtain ⟨g21, h⟩ := h
      obtain ⟨g22, h⟩ := h
      refine aw_laload 1768 dL_law_1767 g21 g22 rfl ?_
      refine aw_iload 1770 dL_law_1768 0 rfl rfl ?_
      refine aw_if_eq 1777 1773 dL_law_1770 rfl rfl (fun c23 => ?_) (fun c23 => ?_)
      · replace h := h.1 c23
        refine aw_lconst 1778 (v := 0) dL_law_1777 kL_0 rfl ?_
        refine aw_lcmp 1779 dL_law_1778 rfl ?_
        refine aw_if_eq 1784 1782 dL_law_1779 rfl rfl (fun c24 => ?_) (fun c24 => ?_)
        · replace h := h.1 c24
          refine aw_goto 3937 dL_law_1784 rfl ?_
          refine aw_iinc 3940 (v := 4) (lv' := [(5, _), (7, _), (6, _), (0, _), (1, _), (2, _), (3, _), (4, _)]) dL_law_3937 7 rfl kI_4 (ltb rfl) rfl rfl ?_
          refine aw_goto 28 dL_law_3940 rfl ?_
          exact aw_pick [3, 4, 5, 6, 7, 0] rfl (hO28 _ _ _ _ _ _ _ _ _ h)
        · replace h := h.2 c24
          refine aw_iconst 1783 (v := 0) dL_law_1782 kI_0 rfl ?_
          obtain ⟨g25, h⟩ := h
          obtain ⟨g26, h⟩ := h
          exact aw_ireturn (ty := .boolean) dL_law_1783 rfl rfl g25 g26 ⟨_, rfl, h⟩
      · replace h := h.2 c23
        refine aw_lconst 1774 (v := 1) dL_law_1773 kL_1 rfl ?_
        refine aw_goto 1778 dL_law_1774 rfl ?_
        refine aw_lcmp 1779 dL_law_1778 rfl ?_
        refine aw_if_eq 1784 1782 dL_law_1779 rfl rfl (fun c27 => ?_) (fun c27 => ?_)
        · replace h := h.1 c27
          refine aw_goto 3937 dL_law_1784 rfl ?_
          refine aw_iinc 3940 (v := 4) (lv' := [(5, _), (7, _), (6, _), (0, _), (1, _), (2, _), (3, _), (4, _)]) dL_law_3937 7 rfl kI_4 (ltb rfl) rfl rfl ?_
          refine aw_goto 28 dL_law_3940 rfl ?_
          exact aw_pick [3, 4, 5, 6, 7, 0] rfl (hO28 _ _ _ _ _ _ _ _ _ h)
        · replace h := h.2 c27
          refine aw_iconst 1783 (v := 0) dL_law_1782 kI_0 rfl ?_
          obtain ⟨g28, h⟩ := h
          obtain ⟨g29, h⟩ := h
          exact aw_ireturn (ty := .boolean) dL_law_1783 rfl rfl g28 g29 ⟨_, rfl, h⟩
  · replace h := h.2 c19
    refine aw_iconst 1759 (v := 0) dL_law_1758 kI_0 rfl ?_
    obtain ⟨g30, h⟩ := h
    obtain ⟨g31, h⟩ := h
    exact aw_ireturn (ty := .boolean) dL_law_1759 rfl rfl g30 g31 ⟨_, rfl, h⟩
set_option maxRecDepth 20000 in
theorem aw_L_law_1787 {G : GG} (hG : G.1.stackTraces = false) {P28 : Nat → Nat → Nat → Nat → Nat → Int32 → Nat → Nat → XH → Prop} {l0 : Nat} {l1 : Nat} {l2 : Nat} {l3 : Nat} {l4 : Nat} {l5 : Int32} {cc : Nat} {ss : Nat} {X : XH} {K : Int32 → XH → Prop} (hO28 : ∀ (l0 : Nat) (l1 : Nat) (l2 : Nat) (l3 : Nat) (l4 : Nat) (l5 : Int32) (cc : Nat) (ss : Nat) (X : XH), P28 l0 l1 l2 l3 l4 l5 cc ss X → AW G M_L_law 28 [(0, .ref 0), (1, .ref l1), (2, .ref l2), (3, .ref l3), (4, .ref l4), (5, .int l5)] [] X cc ss (KrI K)) (h : w_L_law_1787 G P28 l0 l1 l2 l3 l4 l5 cc ss X K) : AW G M_L_law 1787 [(0, .ref 0), (1, .ref l1), (2, .ref l2), (3, .ref l3), (4, .ref l4), (5, .int l5)] [] X cc ss (KrI K) := by
  unfold w_L_law_1787 at h
  refine aw_aload_n 1788 dL_law_1787 rfl 1 rfl rfl ?_
  refine aw_aload_n 1789 dL_law_1788 rfl 0 rfl rfl ?_
  refine aw_iload 1791 dL_law_1789 5 rfl rfl ?_
  refine aw_iconst 1792 (v := 1) dL_law_1791 kI_1 rfl ?_
  refine aw_iadd 1793 dL_law_1792 rfl ?_
  obtain ⟨g1, h⟩ := h
  refine aw_sld 1794 dL_law_1793 g1 rfl ?_
  refine aw_aload_n 1795 dL_law_1794 rfl 0 rfl rfl ?_
  refine aw_iload 1797 dL_law_1795 5 rfl rfl ?_
  refine aw_iconst 1798 (v := 2) dL_law_1797 kI_2 rfl ?_
  refine aw_iadd 1799 dL_law_1798 rfl ?_
  obtain ⟨g2, h⟩ := h
  refine aw_sld 1800 dL_law_1799 g2 rfl ?_
  refine aw_aload_n 1801 dL_law_1800 rfl 3 rfl rfl ?_
  obtain ⟨g3, h⟩ := h
  obtain ⟨g4, h⟩ := h
  refine aw_callSX (M' := M_L_framesOf) 1804 286 [.ref _, .int _, .int _, .ref _] [] dL_law_1801 lk_RL_286 ms_L_framesOf mp_L_framesOf (0, 10, 13, 13) [(0, 10, 17, 17)] rfl ⟨leb rfl, leb rfl⟩ rfl (leb rfl) g3 g4 rfl (am_L_framesOf hG h) (kkI fun v6 X5 h => ?_) (kxN KrI.no)
  refine aw_widen (cc' := cc + 3) (ss' := ss + 18) (Nat.le_refl _) (Nat.le_refl _) ?_
  refine aw_istore 1806 (lv' := [(6, _), (0, _), (1, _), (2, _), (3, _), (4, _), (5, _)]) dL_law_1804 (ltb rfl) rfl rfl ?_
  refine aw_aload_n 1807 dL_law_1806 rfl 3 rfl rfl ?_
  refine aw_aload_n 1808 dL_law_1807 rfl 1 rfl rfl ?_
  refine aw_iload 1810 dL_law_1808 6 rfl rfl ?_
  refine aw_iconst 1811 (v := 1) dL_law_1810 kI_1 rfl ?_
  refine aw_iadd 1812 dL_law_1811 rfl ?_
  obtain ⟨g7, h⟩ := h
  refine aw_sld 1813 dL_law_1812 g7 rfl ?_
  refine aw_aload_n 1814 dL_law_1813 rfl 1 rfl rfl ?_
  refine aw_iload 1816 dL_law_1814 6 rfl rfl ?_
  refine aw_iconst 1817 (v := 2) dL_law_1816 kI_2 rfl ?_
  refine aw_iadd 1818 dL_law_1817 rfl ?_
  obtain ⟨g8, h⟩ := h
  refine aw_sld 1819 dL_law_1818 g8 rfl ?_
  obtain ⟨g9, h⟩ := h
  obtain ⟨g10, h⟩ := h
  obtain ⟨g13, h⟩ := h
  refine aw_callV (M' := M_X5_framesOf) 1822 288 5 l2 [.int _, .int _] [] dL_law_1819 lk_RL_288 mv_X5_framesOf mp_X5_framesOf rfl ⟨leb rfl, leb rfl⟩ rfl (ltb rfl) g13 rfl (leb rfl) g9 g10 rfl (am_X5_framesOf hG h) (kkI fun v12 X11 h => ?_) (kxN KrI.no)
  refine aw_widen (cc' := cc + 3) (ss' := ss + 18) (Nat.le_refl _) (Nat.le_refl _) ?_
  refine aw_istore 1824 (lv' := [(7, _), (6, _), (0, _), (1, _), (2, _), (3, _), (4, _), (5, _)]) dL_law_1822 (ltb rfl) rfl rfl ?_
  refine aw_aload_n 1825 dL_law_1824 rfl 4 rfl rfl ?_
  obtain ⟨g14, h⟩ := h
  obtain ⟨g15, h⟩ := h
  obtain ⟨g18, h⟩ := h
  refine aw_callV (M' := M_X5_thrown) 1828 196 5 l2 [] [] dL_law_1825 lk_RL_196 mv_X5_thrown mp_X5_thrown rfl ⟨leb rfl, leb rfl⟩ rfl (ltb rfl) g18 rfl (leb rfl) g14 g15 rfl (am_X5_thrown hG h) (kkI fun v17 X16 h => ?_) (kxN KrI.no)
  refine aw_widen (cc' := cc + 3) (ss' := ss + 18) (Nat.le_refl _) (Nat.le_refl _) ?_
  refine aw_iload 1830 dL_law_1828 1 rfl rfl ?_
  refine aw_icmp_eq 1835 1833 dL_law_1830 rfl rfl (fun c19 => ?_) (fun c19 => ?_)
  · replace h := h.1 c19
    refine aw_iload 1837 dL_law_1835 1 rfl rfl ?_
    refine aw_if_ne 1852 1840 dL_law_1837 rfl rfl (fun c20 => ?_) (fun c20 => ?_)
    · replace h := h.1 c20
      refine aw_goto 3937 dL_law_1852 rfl ?_
      refine aw_iinc 3940 (v := 4) (lv' := [(5, _), (7, _), (6, _), (0, _), (1, _), (2, _), (3, _), (4, _)]) dL_law_3937 7 rfl kI_4 (ltb rfl) rfl rfl ?_
      refine aw_goto 28 dL_law_3940 rfl ?_
      exact aw_pick [3, 4, 5, 6, 7, 0] rfl (hO28 _ _ _ _ _ _ _ _ _ h)
    · replace h := h.2 c20
      refine aw_aload_n 1841 dL_law_1840 rfl 5 rfl rfl ?_
      refine aw_iconst 1842 (v := 0) dL_law_1841 kI_0 rfl ?_
      obtain ⟨g21, h⟩ := h
      obtain ⟨g22, h⟩ := h
      refine aw_laload 1843 dL_law_1842 g21 g22 rfl ?_
      refine aw_iload 1845 dL_law_1843 0 rfl rfl ?_
      refine aw_i2l 1846 dL_law_1845 rfl ?_
      refine aw_lcmp 1847 dL_law_1846 rfl ?_
      refine aw_if_eq 1852 1850 dL_law_1847 rfl rfl (fun c23 => ?_) (fun c23 => ?_)
      · replace h := h.1 c23
        refine aw_goto 3937 dL_law_1852 rfl ?_
        refine aw_iinc 3940 (v := 4) (lv' := [(5, _), (7, _), (6, _), (0, _), (1, _), (2, _), (3, _), (4, _)]) dL_law_3937 7 rfl kI_4 (ltb rfl) rfl rfl ?_
        refine aw_goto 28 dL_law_3940 rfl ?_
        exact aw_pick [3, 4, 5, 6, 7, 0] rfl (hO28 _ _ _ _ _ _ _ _ _ h)
      · replace h := h.2 c23
        refine aw_iconst 1851 (v := 0) dL_law_1850 kI_0 rfl ?_
        obtain ⟨g24, h⟩ := h
        obtain ⟨g25, h⟩ := h
        exact aw_ireturn (ty := .boolean) dL_law_1851 rfl rfl g24 g25 ⟨_, rfl, h⟩
  · replace h := h.2 c19
    refine aw_iconst 1834 (v := 0) dL_law_1833 kI_0 rfl ?_
    obtain ⟨g26, h⟩ := h
    obtain ⟨g27, h⟩ := h
    exact aw_ireturn (ty := .boolean) dL_law_1834 rfl rfl g26 g27 ⟨_, rfl, h⟩
set_option maxRecDepth 20000 in
theorem aw_L_law_1855 {G : GG} (hG : G.1.stackTraces = false) {P28 : Nat → Nat → Nat → Nat → Nat → Int32 → Nat → Nat → XH → Prop} {l0 : Nat} {l1 : Nat} {l2 : Nat} {l3 : Nat} {l4 : Nat} {l5 : Int32} {cc : Nat} {ss : Nat} {X : XH} {K : Int32 → XH → Prop} (hO28 : ∀ (l0 : Nat) (l1 : Nat) (l2 : Nat) (l3 : Nat) (l4 : Nat) (l5 : Int32) (cc : Nat) (ss : Nat) (X : XH), P28 l0 l1 l2 l3 l4 l5 cc ss X → AW G M_L_law 28 [(0, .ref 0), (1, .ref l1), (2, .ref l2), (3, .ref l3), (4, .ref l4), (5, .int l5)] [] X cc ss (KrI K)) (h : w_L_law_1855 G P28 l0 l1 l2 l3 l4 l5 cc ss X K) : AW G M_L_law 1855 [(0, .ref 0), (1, .ref l1), (2, .ref l2), (3, .ref l3), (4, .ref l4), (5, .int l5)] [] X cc ss (KrI K) := by
  unfold w_L_law_1855 at h
  refine aw_aload_n 1856 dL_law_1855 rfl 1 rfl rfl ?_
  refine aw_aload_n 1857 dL_law_1856 rfl 0 rfl rfl ?_
  refine aw_iload 1859 dL_law_1857 5 rfl rfl ?_
  refine aw_iconst 1860 (v := 1) dL_law_1859 kI_1 rfl ?_
  refine aw_iadd 1861 dL_law_1860 rfl ?_
  obtain ⟨g1, h⟩ := h
  refine aw_sld 1862 dL_law_1861 g1 rfl ?_
  refine aw_aload_n 1863 dL_law_1862 rfl 0 rfl rfl ?_
  refine aw_iload 1865 dL_law_1863 5 rfl rfl ?_
  refine aw_iconst 1866 (v := 2) dL_law_1865 kI_2 rfl ?_
  refine aw_iadd 1867 dL_law_1866 rfl ?_
  obtain ⟨g2, h⟩ := h
  refine aw_sld 1868 dL_law_1867 g2 rfl ?_
  refine aw_aload_n 1869 dL_law_1868 rfl 3 rfl rfl ?_
  obtain ⟨g3, h⟩ := h
  obtain ⟨g4, h⟩ := h
  refine aw_callSX (M' := M_L_annexedOf) 1872 289 [.ref _, .int _, .int _, .ref _] [] dL_law_1869 lk_RL_289 ms_L_annexedOf mp_L_annexedOf (0, 10, 13, 13) [] rfl ⟨leb rfl, leb rfl⟩ rfl (leb rfl) g3 g4 rfl (am_L_annexedOf hG h) (kkI fun v6 X5 h => ?_) (kxN KrI.no)
  refine aw_widen (cc' := cc + 2) (ss' := ss + 12) (Nat.le_refl _) (Nat.le_refl _) ?_
  refine aw_istore 1874 (lv' := [(6, _), (0, _), (1, _), (2, _), (3, _), (4, _), (5, _)]) dL_law_1872 (ltb rfl) rfl rfl ?_
  refine aw_aload_n 1875 dL_law_1874 rfl 3 rfl rfl ?_
  refine aw_aload_n 1876 dL_law_1875 rfl 1 rfl rfl ?_
  refine aw_iload 1878 dL_law_1876 6 rfl rfl ?_
  refine aw_iconst 1879 (v := 1) dL_law_1878 kI_1 rfl ?_
  refine aw_iadd 1880 dL_law_1879 rfl ?_
  obtain ⟨g7, h⟩ := h
  refine aw_sld 1881 dL_law_1880 g7 rfl ?_
  refine aw_aload_n 1882 dL_law_1881 rfl 1 rfl rfl ?_
  refine aw_iload 1884 dL_law_1882 6 rfl rfl ?_
  refine aw_iconst 1885 (v := 2) dL_law_1884 kI_2 rfl ?_
  refine aw_iadd 1886 dL_law_1885 rfl ?_
  obtain ⟨g8, h⟩ := h
  refine aw_sld 1887 dL_law_1886 g8 rfl ?_
  obtain ⟨g9, h⟩ := h
  obtain ⟨g10, h⟩ := h
  obtain ⟨g13, h⟩ := h
  refine aw_callV (M' := M_X5_annexedOf) 1890 291 5 l2 [.int _, .int _] [] dL_law_1887 lk_RL_291 mv_X5_annexedOf mp_X5_annexedOf rfl ⟨leb rfl, leb rfl⟩ rfl (ltb rfl) g13 rfl (leb rfl) g9 g10 rfl (am_X5_annexedOf hG h) (kkI fun v12 X11 h => ?_) (kxN KrI.no)
  refine aw_widen (cc' := cc + 2) (ss' := ss + 12) (Nat.le_refl _) (Nat.le_refl _) ?_
  refine aw_istore 1892 (lv' := [(7, _), (6, _), (0, _), (1, _), (2, _), (3, _), (4, _), (5, _)]) dL_law_1890 (ltb rfl) rfl rfl ?_
  refine aw_aload_n 1893 dL_law_1892 rfl 4 rfl rfl ?_
  obtain ⟨g14, h⟩ := h
  obtain ⟨g15, h⟩ := h
  obtain ⟨g18, h⟩ := h
  refine aw_callV (M' := M_X5_thrown) 1896 196 5 l2 [] [] dL_law_1893 lk_RL_196 mv_X5_thrown mp_X5_thrown rfl ⟨leb rfl, leb rfl⟩ rfl (ltb rfl) g18 rfl (leb rfl) g14 g15 rfl (am_X5_thrown hG h) (kkI fun v17 X16 h => ?_) (kxN KrI.no)
  refine aw_widen (cc' := cc + 2) (ss' := ss + 12) (Nat.le_refl _) (Nat.le_refl _) ?_
  refine aw_iload 1898 dL_law_1896 1 rfl rfl ?_
  refine aw_icmp_eq 1903 1901 dL_law_1898 rfl rfl (fun c19 => ?_) (fun c19 => ?_)
  · replace h := h.1 c19
    refine aw_iload 1905 dL_law_1903 1 rfl rfl ?_
    refine aw_if_ne 1920 1908 dL_law_1905 rfl rfl (fun c20 => ?_) (fun c20 => ?_)
    · replace h := h.1 c20
      refine aw_goto 3937 dL_law_1920 rfl ?_
      refine aw_iinc 3940 (v := 4) (lv' := [(5, _), (7, _), (6, _), (0, _), (1, _), (2, _), (3, _), (4, _)]) dL_law_3937 7 rfl kI_4 (ltb rfl) rfl rfl ?_
      refine aw_goto 28 dL_law_3940 rfl ?_
      exact aw_pick [3, 4, 5, 6, 7, 0] rfl (hO28 _ _ _ _ _ _ _ _ _ h)
    · replace h := h.2 c20
      refine aw_aload_n 1909 dL_law_1908 rfl 5 rfl rfl ?_
      refine aw_iconst 1910 (v := 0) dL_law_1909 kI_0 rfl ?_
      obtain ⟨g21, h⟩ := h
      obtain ⟨g22, h⟩ := h
      refine aw_laload 1911 dL_law_1910 g21 g22 rfl ?_
      refine aw_iload 1913 dL_law_1911 0 rfl rfl ?_
      refine aw_i2l 1914 dL_law_1913 rfl ?_
      refine aw_lcmp 1915 dL_law_1914 rfl ?_
      refine aw_if_eq 1920 1918 dL_law_1915 rfl rfl (fun c23 => ?_) (fun c23 => ?_)
      · replace h := h.1 c23
        refine aw_goto 3937 dL_law_1920 rfl ?_
        refine aw_iinc 3940 (v := 4) (lv' := [(5, _), (7, _), (6, _), (0, _), (1, _), (2, _), (3, _), (4, _)]) dL_law_3937 7 rfl kI_4 (ltb rfl) rfl rfl ?_
        refine aw_goto 28 dL_law_3940 rfl ?_
        exact aw_pick [3, 4, 5, 6, 7, 0] rfl (hO28 _ _ _ _ _ _ _ _ _ h)
      · replace h := h.2 c23
        refine aw_iconst 1919 (v := 0) dL_law_1918 kI_0 rfl ?_
        obtain ⟨g24, h⟩ := h
        obtain ⟨g25, h⟩ := h
        exact aw_ireturn (ty := .boolean) dL_law_1919 rfl rfl g24 g25 ⟨_, rfl, h⟩
  · replace h := h.2 c19
    refine aw_iconst 1902 (v := 0) dL_law_1901 kI_0 rfl ?_
    obtain ⟨g26, h⟩ := h
    obtain ⟨g27, h⟩ := h
    exact aw_ireturn (ty := .boolean) dL_law_1902 rfl rfl g26 g27 ⟨_, rfl, h⟩
set_option maxRecDepth 20000 in
theorem aw_L_law_1923 {G : GG} (hG : G.1.stackTraces = false) {P28 : Nat → Nat → Nat → Nat → Nat → Int32 → Nat → Nat → XH → Prop} {l0 : Nat} {l1 : Nat} {l2 : Nat} {l3 : Nat} {l4 : Nat} {l5 : Int32} {cc : Nat} {ss : Nat} {X : XH} {K : Int32 → XH → Prop} (hO28 : ∀ (l0 : Nat) (l1 : Nat) (l2 : Nat) (l3 : Nat) (l4 : Nat) (l5 : Int32) (cc : Nat) (ss : Nat) (X : XH), P28 l0 l1 l2 l3 l4 l5 cc ss X → AW G M_L_law 28 [(0, .ref 0), (1, .ref l1), (2, .ref l2), (3, .ref l3), (4, .ref l4), (5, .int l5)] [] X cc ss (KrI K)) (h : w_L_law_1923 G P28 l0 l1 l2 l3 l4 l5 cc ss X K) : AW G M_L_law 1923 [(0, .ref 0), (1, .ref l1), (2, .ref l2), (3, .ref l3), (4, .ref l4), (5, .int l5)] [] X cc ss (KrI K) := by
  unfold w_L_law_1923 at h
  refine aw_aload_n 1924 dL_law_1923 rfl 1 rfl rfl ?_
  refine aw_aload_n 1925 dL_law_1924 rfl 0 rfl rfl ?_
  refine aw_iload 1927 dL_law_1925 5 rfl rfl ?_
  refine aw_iconst 1928 (v := 1) dL_law_1927 kI_1 rfl ?_
  refine aw_iadd 1929 dL_law_1928 rfl ?_
  obtain ⟨g1, h⟩ := h
  refine aw_sld 1930 dL_law_1929 g1 rfl ?_
  refine aw_aload_n 1931 dL_law_1930 rfl 0 rfl rfl ?_
  refine aw_iload 1933 dL_law_1931 5 rfl rfl ?_
  refine aw_iconst 1934 (v := 2) dL_law_1933 kI_2 rfl ?_
  refine aw_iadd 1935 dL_law_1934 rfl ?_
  obtain ⟨g2, h⟩ := h
  refine aw_sld 1936 dL_law_1935 g2 rfl ?_
  refine aw_aload_n 1937 dL_law_1936 rfl 3 rfl rfl ?_
  obtain ⟨g3, h⟩ := h
  obtain ⟨g4, h⟩ := h
  refine aw_callSX (M' := M_L_isRecorded) 1940 292 [.ref _, .int _, .int _, .ref _] [] dL_law_1937 lk_RL_292 ms_L_isRecorded mp_L_isRecorded (0, 17, 20, 13) [] rfl ⟨leb rfl, leb rfl⟩ rfl (leb rfl) g3 g4 rfl (am_L_isRecorded hG h) (kkI fun v6 X5 h => ?_) (kxN KrI.no)
  refine aw_widen (cc' := cc + 2) (ss' := ss + 12) (Nat.le_refl _) (Nat.le_refl _) ?_
  refine aw_istore 1942 (lv' := [(6, _), (0, _), (1, _), (2, _), (3, _), (4, _), (5, _)]) dL_law_1940 (ltb rfl) rfl rfl ?_
  refine aw_aload_n 1943 dL_law_1942 rfl 3 rfl rfl ?_
  refine aw_aload_n 1944 dL_law_1943 rfl 1 rfl rfl ?_
  refine aw_iload 1946 dL_law_1944 6 rfl rfl ?_
  refine aw_iconst 1947 (v := 1) dL_law_1946 kI_1 rfl ?_
  refine aw_iadd 1948 dL_law_1947 rfl ?_
  obtain ⟨g7, h⟩ := h
  refine aw_sld 1949 dL_law_1948 g7 rfl ?_
  refine aw_aload_n 1950 dL_law_1949 rfl 1 rfl rfl ?_
  refine aw_iload 1952 dL_law_1950 6 rfl rfl ?_
  refine aw_iconst 1953 (v := 2) dL_law_1952 kI_2 rfl ?_
  refine aw_iadd 1954 dL_law_1953 rfl ?_
  obtain ⟨g8, h⟩ := h
  refine aw_sld 1955 dL_law_1954 g8 rfl ?_
  obtain ⟨g9, h⟩ := h
  obtain ⟨g10, h⟩ := h
  obtain ⟨g13, h⟩ := h
  refine aw_callV (M' := M_X5_isRecorded) 1958 294 5 l2 [.int _, .int _] [] dL_law_1955 lk_RL_294 mv_X5_isRecorded mp_X5_isRecorded rfl ⟨leb rfl, leb rfl⟩ rfl (ltb rfl) g13 rfl (leb rfl) g9 g10 rfl (am_X5_isRecorded hG h) (kkI fun v12 X11 h => ?_) (kxN KrI.no)
  refine aw_widen (cc' := cc + 2) (ss' := ss + 12) (Nat.le_refl _) (Nat.le_refl _) ?_
  refine aw_istore 1960 (lv' := [(7, _), (6, _), (0, _), (1, _), (2, _), (3, _), (4, _), (5, _)]) dL_law_1958 (ltb rfl) rfl rfl ?_
  refine aw_aload_n 1961 dL_law_1960 rfl 4 rfl rfl ?_
  obtain ⟨g14, h⟩ := h
  obtain ⟨g15, h⟩ := h
  obtain ⟨g18, h⟩ := h
  refine aw_callV (M' := M_X5_thrown) 1964 196 5 l2 [] [] dL_law_1961 lk_RL_196 mv_X5_thrown mp_X5_thrown rfl ⟨leb rfl, leb rfl⟩ rfl (ltb rfl) g18 rfl (leb rfl) g14 g15 rfl (am_X5_thrown hG h) (kkI fun v17 X16 h => ?_) (kxN KrI.no)
  refine aw_widen (cc' := cc + 2) (ss' := ss + 12) (Nat.le_refl _) (Nat.le_refl _) ?_
  refine aw_iload 1966 dL_law_1964 1 rfl rfl ?_
  refine aw_icmp_eq 1971 1969 dL_law_1966 rfl rfl (fun c19 => ?_) (fun c19 => ?_)
  · replace h := h.1 c19
    refine aw_iload 1973 dL_law_1971 1 rfl rfl ?_
    refine aw_if_ne 1995 1976 dL_law_1973 rfl rfl (fun c20 => ?_) (fun c20 => ?_)
    · replace h := h.1 c20
      refine aw_goto 3937 dL_law_1995 rfl ?_
      refine aw_iinc 3940 (v := 4) (lv' := [(5, _), (7, _), (6, _), (0, _), (1, _), (2, _), (3, _), (4, _)]) dL_law_3937 7 rfl kI_4 (ltb rfl) rfl rfl ?_
      refine aw_goto 28 dL_law_3940 rfl ?_
      exact aw_pick [3, 4, 5, 6, 7, 0] rfl (hO28 _ _ _ _ _ _ _ _ _ h)
    · replace h := h.2 c20
      refine aw_aload_n 1977 dL_law_1976 rfl 5 rfl rfl ?_
      refine aw_iconst 1978 (v := 0) dL_law_1977 kI_0 rfl ?_
      obtain ⟨g21, h⟩ := h
      obtain ⟨g22, h⟩ := h
      refine aw_laload 1979 dL_law_1978 g21 g22 rfl ?_
      refine aw_iload 1981 dL_law_1979 0 rfl rfl ?_
      refine aw_if_eq 1988 1984 dL_law_1981 rfl rfl (fun c23 => ?_) (fun c23 => ?_)
      · replace h := h.1 c23
        refine aw_lconst 1989 (v := 0) dL_law_1988 kL_0 rfl ?_
        refine aw_lcmp 1990 dL_law_1989 rfl ?_
        refine aw_if_eq 1995 1993 dL_law_1990 rfl rfl (fun c24 => ?_) (fun c24 => ?_)
        · replace h := h.1 c24
          refine aw_goto 3937 dL_law_1995 rfl ?_
          refine aw_iinc 3940 (v := 4) (lv' := [(5, _), (7, _), (6, _), (0, _), (1, _), (2, _), (3, _), (4, _)]) dL_law_3937 7 rfl kI_4 (ltb rfl) rfl rfl ?_
          refine aw_goto 28 dL_law_3940 rfl ?_
          exact aw_pick [3, 4, 5, 6, 7, 0] rfl (hO28 _ _ _ _ _ _ _ _ _ h)
        · replace h := h.2 c24
          refine aw_iconst 1994 (v := 0) dL_law_1993 kI_0 rfl ?_
          obtain ⟨g25, h⟩ := h
          obtain ⟨g26, h⟩ := h
          exact aw_ireturn (ty := .boolean) dL_law_1994 rfl rfl g25 g26 ⟨_, rfl, h⟩
      · replace h := h.2 c23
        refine aw_lconst 1985 (v := 1) dL_law_1984 kL_1 rfl ?_
        refine aw_goto 1989 dL_law_1985 rfl ?_
        refine aw_lcmp 1990 dL_law_1989 rfl ?_
        refine aw_if_eq 1995 1993 dL_law_1990 rfl rfl (fun c27 => ?_) (fun c27 => ?_)
        · replace h := h.1 c27
          refine aw_goto 3937 dL_law_1995 rfl ?_
          refine aw_iinc 3940 (v := 4) (lv' := [(5, _), (7, _), (6, _), (0, _), (1, _), (2, _), (3, _), (4, _)]) dL_law_3937 7 rfl kI_4 (ltb rfl) rfl rfl ?_
          refine aw_goto 28 dL_law_3940 rfl ?_
          exact aw_pick [3, 4, 5, 6, 7, 0] rfl (hO28 _ _ _ _ _ _ _ _ _ h)
        · replace h := h.2 c27
          refine aw_iconst 1994 (v := 0) dL_law_1993 kI_0 rfl ?_
          obtain ⟨g28, h⟩ := h
          obtain ⟨g29, h⟩ := h
          exact aw_ireturn (ty := .boolean) dL_law_1994 rfl rfl g28 g29 ⟨_, rfl, h⟩
  · replace h := h.2 c19
    refine aw_iconst 1970 (v := 0) dL_law_1969 kI_0 rfl ?_
    obtain ⟨g30, h⟩ := h
    obtain ⟨g31, h⟩ := h
    exact aw_ireturn (ty := .boolean) dL_law_1970 rfl rfl g30 g31 ⟨_, rfl, h⟩
set_option maxRecDepth 20000 in
theorem aw_L_law_1998 {G : GG} (hG : G.1.stackTraces = false) {P28 : Nat → Nat → Nat → Nat → Nat → Int32 → Nat → Nat → XH → Prop} {l0 : Nat} {l1 : Nat} {l2 : Nat} {l3 : Nat} {l4 : Nat} {l5 : Int32} {cc : Nat} {ss : Nat} {X : XH} {K : Int32 → XH → Prop} (hO28 : ∀ (l0 : Nat) (l1 : Nat) (l2 : Nat) (l3 : Nat) (l4 : Nat) (l5 : Int32) (cc : Nat) (ss : Nat) (X : XH), P28 l0 l1 l2 l3 l4 l5 cc ss X → AW G M_L_law 28 [(0, .ref 0), (1, .ref l1), (2, .ref l2), (3, .ref l3), (4, .ref l4), (5, .int l5)] [] X cc ss (KrI K)) (h : w_L_law_1998 G P28 l0 l1 l2 l3 l4 l5 cc ss X K) : AW G M_L_law 1998 [(0, .ref 0), (1, .ref l1), (2, .ref l2), (3, .ref l3), (4, .ref l4), (5, .int l5)] [] X cc ss (KrI K) := by
  unfold w_L_law_1998 at h
  refine aw_aload_n 1999 dL_law_1998 rfl 1 rfl rfl ?_
  refine aw_aload_n 2000 dL_law_1999 rfl 0 rfl rfl ?_
  refine aw_iload 2002 dL_law_2000 5 rfl rfl ?_
  refine aw_iconst 2003 (v := 1) dL_law_2002 kI_1 rfl ?_
  refine aw_iadd 2004 dL_law_2003 rfl ?_
  obtain ⟨g1, h⟩ := h
  refine aw_sld 2005 dL_law_2004 g1 rfl ?_
  refine aw_aload_n 2006 dL_law_2005 rfl 0 rfl rfl ?_
  refine aw_iload 2008 dL_law_2006 5 rfl rfl ?_
  refine aw_iconst 2009 (v := 2) dL_law_2008 kI_2 rfl ?_
  refine aw_iadd 2010 dL_law_2009 rfl ?_
  obtain ⟨g2, h⟩ := h
  refine aw_sld 2011 dL_law_2010 g2 rfl ?_
  refine aw_aload_n 2012 dL_law_2011 rfl 3 rfl rfl ?_
  obtain ⟨g3, h⟩ := h
  obtain ⟨g4, h⟩ := h
  refine aw_callSX (M' := M_L_sessionOf) 2015 295 [.ref _, .int _, .int _, .ref _] [] dL_law_2012 lk_RL_295 ms_L_sessionOf mp_L_sessionOf (0, 10, 13, 13) [(0, 10, 17, 17)] rfl ⟨leb rfl, leb rfl⟩ rfl (leb rfl) g3 g4 rfl (am_L_sessionOf hG h) (kkI fun v6 X5 h => ?_) (kxN KrI.no)
  refine aw_widen (cc' := cc + 3) (ss' := ss + 18) (Nat.le_refl _) (Nat.le_refl _) ?_
  refine aw_istore 2017 (lv' := [(6, _), (0, _), (1, _), (2, _), (3, _), (4, _), (5, _)]) dL_law_2015 (ltb rfl) rfl rfl ?_
  refine aw_aload_n 2018 dL_law_2017 rfl 3 rfl rfl ?_
  refine aw_aload_n 2019 dL_law_2018 rfl 1 rfl rfl ?_
  refine aw_iload 2021 dL_law_2019 6 rfl rfl ?_
  refine aw_iconst 2022 (v := 1) dL_law_2021 kI_1 rfl ?_
  refine aw_iadd 2023 dL_law_2022 rfl ?_
  obtain ⟨g7, h⟩ := h
  refine aw_sld 2024 dL_law_2023 g7 rfl ?_
  refine aw_aload_n 2025 dL_law_2024 rfl 1 rfl rfl ?_
  refine aw_iload 2027 dL_law_2025 6 rfl rfl ?_
  refine aw_iconst 2028 (v := 2) dL_law_2027 kI_2 rfl ?_
  refine aw_iadd 2029 dL_law_2028 rfl ?_
  obtain ⟨g8, h⟩ := h
  refine aw_sld 2030 dL_law_2029 g8 rfl ?_
  obtain ⟨g9, h⟩ := h
  obtain ⟨g10, h⟩ := h
  obtain ⟨g13, h⟩ := h
  refine aw_callV (M' := M_X5_sessionOf) 2033 297 5 l2 [.int _, .int _] [] dL_law_2030 lk_RL_297 mv_X5_sessionOf mp_X5_sessionOf rfl ⟨leb rfl, leb rfl⟩ rfl (ltb rfl) g13 rfl (leb rfl) g9 g10 rfl (am_X5_sessionOf hG h) (kkI fun v12 X11 h => ?_) (kxN KrI.no)
  refine aw_widen (cc' := cc + 3) (ss' := ss + 18) (Nat.le_refl _) (Nat.le_refl _) ?_
  refine aw_istore 2035 (lv' := [(7, _), (6, _), (0, _), (1, _), (2, _), (3, _), (4, _), (5, _)]) dL_law_2033 (ltb rfl) rfl rfl ?_
  refine aw_aload_n 2036 dL_law_2035 rfl 4 rfl rfl ?_
  obtain ⟨g14, h⟩ := h
  obtain ⟨g15, h⟩ := h
  obtain ⟨g18, h⟩ := h
  refine aw_callV (M' := M_X5_thrown) 2039 196 5 l2 [] [] dL_law_2036 lk_RL_196 mv_X5_thrown mp_X5_thrown rfl ⟨leb rfl, leb rfl⟩ rfl (ltb rfl) g18 rfl (leb rfl) g14 g15 rfl (am_X5_thrown hG h) (kkI fun v17 X16 h => ?_) (kxN KrI.no)
  refine aw_widen (cc' := cc + 3) (ss' := ss + 18) (Nat.le_refl _) (Nat.le_refl _) ?_
  refine aw_iload 2041 dL_law_2039 1 rfl rfl ?_
  refine aw_icmp_eq 2046 2044 dL_law_2041 rfl rfl (fun c19 => ?_) (fun c19 => ?_)
  · replace h := h.1 c19
    refine aw_iload 2048 dL_law_2046 1 rfl rfl ?_
    refine aw_if_ne 2063 2051 dL_law_2048 rfl rfl (fun c20 => ?_) (fun c20 => ?_)
    · replace h := h.1 c20
      refine aw_goto 3937 dL_law_2063 rfl ?_
      refine aw_iinc 3940 (v := 4) (lv' := [(5, _), (7, _), (6, _), (0, _), (1, _), (2, _), (3, _), (4, _)]) dL_law_3937 7 rfl kI_4 (ltb rfl) rfl rfl ?_
      refine aw_goto 28 dL_law_3940 rfl ?_
      exact aw_pick [3, 4, 5, 6, 7, 0] rfl (hO28 _ _ _ _ _ _ _ _ _ h)
    · replace h := h.2 c20
      refine aw_aload_n 2052 dL_law_2051 rfl 5 rfl rfl ?_
      refine aw_iconst 2053 (v := 0) dL_law_2052 kI_0 rfl ?_
      obtain ⟨g21, h⟩ := h
      obtain ⟨g22, h⟩ := h
      refine aw_laload 2054 dL_law_2053 g21 g22 rfl ?_
      refine aw_iload 2056 dL_law_2054 0 rfl rfl ?_
      refine aw_i2l 2057 dL_law_2056 rfl ?_
      refine aw_lcmp 2058 dL_law_2057 rfl ?_
      refine aw_if_eq 2063 2061 dL_law_2058 rfl rfl (fun c23 => ?_) (fun c23 => ?_)
      · replace h := h.1 c23
        refine aw_goto 3937 dL_law_2063 rfl ?_
        refine aw_iinc 3940 (v := 4) (lv' := [(5, _), (7, _), (6, _), (0, _), (1, _), (2, _), (3, _), (4, _)]) dL_law_3937 7 rfl kI_4 (ltb rfl) rfl rfl ?_
        refine aw_goto 28 dL_law_3940 rfl ?_
        exact aw_pick [3, 4, 5, 6, 7, 0] rfl (hO28 _ _ _ _ _ _ _ _ _ h)
      · replace h := h.2 c23
        refine aw_iconst 2062 (v := 0) dL_law_2061 kI_0 rfl ?_
        obtain ⟨g24, h⟩ := h
        obtain ⟨g25, h⟩ := h
        exact aw_ireturn (ty := .boolean) dL_law_2062 rfl rfl g24 g25 ⟨_, rfl, h⟩
  · replace h := h.2 c19
    refine aw_iconst 2045 (v := 0) dL_law_2044 kI_0 rfl ?_
    obtain ⟨g26, h⟩ := h
    obtain ⟨g27, h⟩ := h
    exact aw_ireturn (ty := .boolean) dL_law_2045 rfl rfl g26 g27 ⟨_, rfl, h⟩
set_option maxRecDepth 20000 in
theorem aw_L_law_2066 {G : GG} (hG : G.1.stackTraces = false) {P28 : Nat → Nat → Nat → Nat → Nat → Int32 → Nat → Nat → XH → Prop} {l0 : Nat} {l1 : Nat} {l2 : Nat} {l3 : Nat} {l4 : Nat} {l5 : Int32} {cc : Nat} {ss : Nat} {X : XH} {K : Int32 → XH → Prop} (hO28 : ∀ (l0 : Nat) (l1 : Nat) (l2 : Nat) (l3 : Nat) (l4 : Nat) (l5 : Int32) (cc : Nat) (ss : Nat) (X : XH), P28 l0 l1 l2 l3 l4 l5 cc ss X → AW G M_L_law 28 [(0, .ref 0), (1, .ref l1), (2, .ref l2), (3, .ref l3), (4, .ref l4), (5, .int l5)] [] X cc ss (KrI K)) (h : w_L_law_2066 G P28 l0 l1 l2 l3 l4 l5 cc ss X K) : AW G M_L_law 2066 [(0, .ref 0), (1, .ref l1), (2, .ref l2), (3, .ref l3), (4, .ref l4), (5, .int l5)] [] X cc ss (KrI K) := by
  unfold w_L_law_2066 at h
  refine aw_aload_n 2067 dL_law_2066 rfl 1 rfl rfl ?_
  refine aw_aload_n 2068 dL_law_2067 rfl 0 rfl rfl ?_
  refine aw_iload 2070 dL_law_2068 5 rfl rfl ?_
  refine aw_iconst 2071 (v := 1) dL_law_2070 kI_1 rfl ?_
  refine aw_iadd 2072 dL_law_2071 rfl ?_
  obtain ⟨g1, h⟩ := h
  refine aw_sld 2073 dL_law_2072 g1 rfl ?_
  refine aw_aload_n 2074 dL_law_2073 rfl 0 rfl rfl ?_
  refine aw_iload 2076 dL_law_2074 5 rfl rfl ?_
  refine aw_iconst 2077 (v := 2) dL_law_2076 kI_2 rfl ?_
  refine aw_iadd 2078 dL_law_2077 rfl ?_
  obtain ⟨g2, h⟩ := h
  refine aw_sld 2079 dL_law_2078 g2 rfl ?_
  refine aw_aload_n 2080 dL_law_2079 rfl 3 rfl rfl ?_
  obtain ⟨g3, h⟩ := h
  obtain ⟨g4, h⟩ := h
  refine aw_callSX (M' := M_L_roomFor) 2083 298 [.ref _, .int _, .int _, .ref _] [] dL_law_2080 lk_RL_298 ms_L_roomFor mp_L_roomFor (0, 10, 13, 13) [(0, 10, 17, 17)] rfl ⟨leb rfl, leb rfl⟩ rfl (leb rfl) g3 g4 rfl (am_L_roomFor hG h) (kkI fun v6 X5 h => ?_) (kxN KrI.no)
  refine aw_widen (cc' := cc + 3) (ss' := ss + 18) (Nat.le_refl _) (Nat.le_refl _) ?_
  refine aw_istore 2085 (lv' := [(6, _), (0, _), (1, _), (2, _), (3, _), (4, _), (5, _)]) dL_law_2083 (ltb rfl) rfl rfl ?_
  refine aw_aload_n 2086 dL_law_2085 rfl 3 rfl rfl ?_
  refine aw_aload_n 2087 dL_law_2086 rfl 1 rfl rfl ?_
  refine aw_iload 2089 dL_law_2087 6 rfl rfl ?_
  refine aw_iconst 2090 (v := 1) dL_law_2089 kI_1 rfl ?_
  refine aw_iadd 2091 dL_law_2090 rfl ?_
  obtain ⟨g7, h⟩ := h
  refine aw_sld 2092 dL_law_2091 g7 rfl ?_
  refine aw_aload_n 2093 dL_law_2092 rfl 1 rfl rfl ?_
  refine aw_iload 2095 dL_law_2093 6 rfl rfl ?_
  refine aw_iconst 2096 (v := 2) dL_law_2095 kI_2 rfl ?_
  refine aw_iadd 2097 dL_law_2096 rfl ?_
  obtain ⟨g8, h⟩ := h
  refine aw_sld 2098 dL_law_2097 g8 rfl ?_
  obtain ⟨g9, h⟩ := h
  obtain ⟨g10, h⟩ := h
  obtain ⟨g13, h⟩ := h
  refine aw_callV (M' := M_X5_roomFor) 2101 300 5 l2 [.int _, .int _] [] dL_law_2098 lk_RL_300 mv_X5_roomFor mp_X5_roomFor rfl ⟨leb rfl, leb rfl⟩ rfl (ltb rfl) g13 rfl (leb rfl) g9 g10 rfl (am_X5_roomFor hG h) (kkI fun v12 X11 h => ?_) (kxN KrI.no)
  refine aw_widen (cc' := cc + 3) (ss' := ss + 18) (Nat.le_refl _) (Nat.le_refl _) ?_
  refine aw_istore 2103 (lv' := [(7, _), (6, _), (0, _), (1, _), (2, _), (3, _), (4, _), (5, _)]) dL_law_2101 (ltb rfl) rfl rfl ?_
  refine aw_aload_n 2104 dL_law_2103 rfl 4 rfl rfl ?_
  obtain ⟨g14, h⟩ := h
  obtain ⟨g15, h⟩ := h
  obtain ⟨g18, h⟩ := h
  refine aw_callV (M' := M_X5_thrown) 2107 196 5 l2 [] [] dL_law_2104 lk_RL_196 mv_X5_thrown mp_X5_thrown rfl ⟨leb rfl, leb rfl⟩ rfl (ltb rfl) g18 rfl (leb rfl) g14 g15 rfl (am_X5_thrown hG h) (kkI fun v17 X16 h => ?_) (kxN KrI.no)
  refine aw_widen (cc' := cc + 3) (ss' := ss + 18) (Nat.le_refl _) (Nat.le_refl _) ?_
  refine aw_iload 2109 dL_law_2107 1 rfl rfl ?_
  refine aw_icmp_eq 2114 2112 dL_law_2109 rfl rfl (fun c19 => ?_) (fun c19 => ?_)
  · replace h := h.1 c19
    refine aw_iload 2116 dL_law_2114 1 rfl rfl ?_
    refine aw_if_ne 2131 2119 dL_law_2116 rfl rfl (fun c20 => ?_) (fun c20 => ?_)
    · replace h := h.1 c20
      refine aw_goto 3937 dL_law_2131 rfl ?_
      refine aw_iinc 3940 (v := 4) (lv' := [(5, _), (7, _), (6, _), (0, _), (1, _), (2, _), (3, _), (4, _)]) dL_law_3937 7 rfl kI_4 (ltb rfl) rfl rfl ?_
      refine aw_goto 28 dL_law_3940 rfl ?_
      exact aw_pick [3, 4, 5, 6, 7, 0] rfl (hO28 _ _ _ _ _ _ _ _ _ h)
    · replace h := h.2 c20
      refine aw_aload_n 2120 dL_law_2119 rfl 5 rfl rfl ?_
      refine aw_iconst 2121 (v := 0) dL_law_2120 kI_0 rfl ?_
      obtain ⟨g21, h⟩ := h
      obtain ⟨g22, h⟩ := h
      refine aw_laload 2122 dL_law_2121 g21 g22 rfl ?_
      refine aw_iload 2124 dL_law_2122 0 rfl rfl ?_
      refine aw_i2l 2125 dL_law_2124 rfl ?_
      refine aw_lcmp 2126 dL_law_2125 rfl ?_
      refine aw_if_eq 2131 2129 dL_law_2126 rfl rfl (fun c23 => ?_) (fun c23 => ?_)
      · replace h := h.1 c23
        refine aw_goto 3937 dL_law_2131 rfl ?_
        refine aw_iinc 3940 (v := 4) (lv' := [(5, _), (7, _), (6, _), (0, _), (1, _), (2, _), (3, _), (4, _)]) dL_law_3937 7 rfl kI_4 (ltb rfl) rfl rfl ?_
        refine aw_goto 28 dL_law_3940 rfl ?_
        exact aw_pick [3, 4, 5, 6, 7, 0] rfl (hO28 _ _ _ _ _ _ _ _ _ h)
      · replace h := h.2 c23
        refine aw_iconst 2130 (v := 0) dL_law_2129 kI_0 rfl ?_
        obtain ⟨g24, h⟩ := h
        obtain ⟨g25, h⟩ := h
        exact aw_ireturn (ty := .boolean) dL_law_2130 rfl rfl g24 g25 ⟨_, rfl, h⟩
  · replace h := h.2 c19
    refine aw_iconst 2113 (v := 0) dL_law_2112 kI_0 rfl ?_
    obtain ⟨g26, h⟩ := h
    obtain ⟨g27, h⟩ := h
    exact aw_ireturn (ty := .boolean) dL_law_2113 rfl rfl g26 g27 ⟨_, rfl, h⟩
set_option maxRecDepth 20000 in
theorem aw_L_law_2134 {G : GG} (hG : G.1.stackTraces = false) {P28 : Nat → Nat → Nat → Nat → Nat → Int32 → Nat → Nat → XH → Prop} {l0 : Nat} {l1 : Nat} {l2 : Nat} {l3 : Nat} {l4 : Nat} {l5 : Int32} {cc : Nat} {ss : Nat} {X : XH} {K : Int32 → XH → Prop} (hO28 : ∀ (l0 : Nat) (l1 : Nat) (l2 : Nat) (l3 : Nat) (l4 : Nat) (l5 : Int32) (cc : Nat) (ss : Nat) (X : XH), P28 l0 l1 l2 l3 l4 l5 cc ss X → AW G M_L_law 28 [(0, .ref 0), (1, .ref l1), (2, .ref l2), (3, .ref l3), (4, .ref l4), (5, .int l5)] [] X cc ss (KrI K)) (h : w_L_law_2134 G P28 l0 l1 l2 l3 l4 l5 cc ss X K) : AW G M_L_law 2134 [(0, .ref 0), (1, .ref l1), (2, .ref l2), (3, .ref l3), (4, .ref l4), (5, .int l5)] [] X cc ss (KrI K) := by
  unfold w_L_law_2134 at h
  refine aw_aload_n 2135 dL_law_2134 rfl 1 rfl rfl ?_
  refine aw_aload_n 2136 dL_law_2135 rfl 0 rfl rfl ?_
  refine aw_iload 2138 dL_law_2136 5 rfl rfl ?_
  refine aw_iconst 2139 (v := 1) dL_law_2138 kI_1 rfl ?_
  refine aw_iadd 2140 dL_law_2139 rfl ?_
  obtain ⟨g1, h⟩ := h
  refine aw_sld 2141 dL_law_2140 g1 rfl ?_
  refine aw_aload_n 2142 dL_law_2141 rfl 0 rfl rfl ?_
  refine aw_iload 2144 dL_law_2142 5 rfl rfl ?_
  refine aw_iconst 2145 (v := 2) dL_law_2144 kI_2 rfl ?_
  refine aw_iadd 2146 dL_law_2145 rfl ?_
  obtain ⟨g2, h⟩ := h
  refine aw_sld 2147 dL_law_2146 g2 rfl ?_
  refine aw_aload_n 2148 dL_law_2147 rfl 3 rfl rfl ?_
  obtain ⟨g3, h⟩ := h
  obtain ⟨g4, h⟩ := h
  refine aw_callSX (M' := M_L_fits) 2151 301 [.ref _, .int _, .int _, .ref _] [] dL_law_2148 lk_RL_301 ms_L_fits mp_L_fits (0, 17, 20, 13) [] rfl ⟨leb rfl, leb rfl⟩ rfl (leb rfl) g3 g4 rfl (am_L_fits hG h) (kkI fun v6 X5 h => ?_) (kxN KrI.no)
  refine aw_widen (cc' := cc + 2) (ss' := ss + 12) (Nat.le_refl _) (Nat.le_refl _) ?_
  refine aw_istore 2153 (lv' := [(6, _), (0, _), (1, _), (2, _), (3, _), (4, _), (5, _)]) dL_law_2151 (ltb rfl) rfl rfl ?_
  refine aw_aload_n 2154 dL_law_2153 rfl 3 rfl rfl ?_
  refine aw_aload_n 2155 dL_law_2154 rfl 1 rfl rfl ?_
  refine aw_iload 2157 dL_law_2155 6 rfl rfl ?_
  refine aw_iconst 2158 (v := 1) dL_law_2157 kI_1 rfl ?_
  refine aw_iadd 2159 dL_law_2158 rfl ?_
  obtain ⟨g7, h⟩ := h
  refine aw_sld 2160 dL_law_2159 g7 rfl ?_
  refine aw_aload_n 2161 dL_law_2160 rfl 1 rfl rfl ?_
  refine aw_iload 2163 dL_law_2161 6 rfl rfl ?_
  refine aw_iconst 2164 (v := 2) dL_law_2163 kI_2 rfl ?_
  refine aw_iadd 2165 dL_law_2164 rfl ?_
  obtain ⟨g8, h⟩ := h
  refine aw_sld 2166 dL_law_2165 g8 rfl ?_
  obtain ⟨g9, h⟩ := h
  obtain ⟨g10, h⟩ := h
  obtain ⟨g13, h⟩ := h
  refine aw_callV (M' := M_X5_fits) 2169 303 5 l2 [.int _, .int _] [] dL_law_2166 lk_RL_303 mv_X5_fits mp_X5_fits rfl ⟨leb rfl, leb rfl⟩ rfl (ltb rfl) g13 rfl (leb rfl) g9 g10 rfl (am_X5_fits hG h) (kkI fun v12 X11 h => ?_) (kxN KrI.no)
  refine aw_widen (cc' := cc + 2) (ss' := ss + 12) (Nat.le_refl _) (Nat.le_refl _) ?_
  refine aw_istore 2171 (lv' := [(7, _), (6, _), (0, _), (1, _), (2, _), (3, _), (4, _), (5, _)]) dL_law_2169 (ltb rfl) rfl rfl ?_
  refine aw_aload_n 2172 dL_law_2171 rfl 4 rfl rfl ?_
  obtain ⟨g14, h⟩ := h
  obtain ⟨g15, h⟩ := h
  obtain ⟨g18, h⟩ := h
  refine aw_callV (M' := M_X5_thrown) 2175 196 5 l2 [] [] dL_law_2172 lk_RL_196 mv_X5_thrown mp_X5_thrown rfl ⟨leb rfl, leb rfl⟩ rfl (ltb rfl) g18 rfl (leb rfl) g14 g15 rfl (am_X5_thrown hG h) (kkI fun v17 X16 h => ?_) (kxN KrI.no)
  refine aw_widen (cc' := cc + 2) (ss' := ss + 12) (Nat.le_refl _) (Nat.le_refl _) ?_
  refine aw_iload 2177 dL_law_2175 1 rfl rfl ?_
  refine aw_icmp_eq 2182 2180 dL_law_2177 rfl rfl (fun c19 => ?_) (fun c19 => ?_)
  · replace h := h.1 c19
    refine aw_iload 2184 dL_law_2182 1 rfl rfl ?_
    refine aw_if_ne 2206 2187 dL_law_2184 rfl rfl (fun c20 => ?_) (fun c20 => ?_)
    · replace h := h.1 c20
      refine aw_goto 3937 dL_law_2206 rfl ?_
      refine aw_iinc 3940 (v := 4) (lv' := [(5, _), (7, _), (6, _), (0, _), (1, _), (2, _), (3, _), (4, _)]) dL_law_3937 7 rfl kI_4 (ltb rfl) rfl rfl ?_
      refine aw_goto 28 dL_law_3940 rfl ?_
      exact aw_pick [3, 4, 5, 6, 7, 0] rfl (hO28 _ _ _ _ _ _ _ _ _ h)
    · replace h := h.2 c20
      refine aw_aload_n 2188 dL_law_2187 rfl 5 rfl rfl ?_
      refine aw_iconst 2189 (v := 0) dL_law_2188 kI_0 rfl ?_
      obtain ⟨g21, h⟩ := h
      obtain ⟨g22, h⟩ := h
      refine aw_laload 2190 dL_law_2189 g21 g22 rfl ?_
      refine aw_iload 2192 dL_law_2190 0 rfl rfl ?_
      refine aw_if_eq 2199 2195 dL_law_2192 rfl rfl (fun c23 => ?_) (fun c23 => ?_)
      · replace h := h.1 c23
        refine aw_lconst 2200 (v := 0) dL_law_2199 kL_0 rfl ?_
        refine aw_lcmp 2201 dL_law_2200 rfl ?_
        refine aw_if_eq 2206 2204 dL_law_2201 rfl rfl (fun c24 => ?_) (fun c24 => ?_)
        · replace h := h.1 c24
          refine aw_goto 3937 dL_law_2206 rfl ?_
          refine aw_iinc 3940 (v := 4) (lv' := [(5, _), (7, _), (6, _), (0, _), (1, _), (2, _), (3, _), (4, _)]) dL_law_3937 7 rfl kI_4 (ltb rfl) rfl rfl ?_
          refine aw_goto 28 dL_law_3940 rfl ?_
          exact aw_pick [3, 4, 5, 6, 7, 0] rfl (hO28 _ _ _ _ _ _ _ _ _ h)
        · replace h := h.2 c24
          refine aw_iconst 2205 (v := 0) dL_law_2204 kI_0 rfl ?_
          obtain ⟨g25, h⟩ := h
          obtain ⟨g26, h⟩ := h
          exact aw_ireturn (ty := .boolean) dL_law_2205 rfl rfl g25 g26 ⟨_, rfl, h⟩
      · replace h := h.2 c23
        refine aw_lconst 2196 (v := 1) dL_law_2195 kL_1 rfl ?_
        refine aw_goto 2200 dL_law_2196 rfl ?_
        refine aw_lcmp 2201 dL_law_2200 rfl ?_
        refine aw_if_eq 2206 2204 dL_law_2201 rfl rfl (fun c27 => ?_) (fun c27 => ?_)
        · replace h := h.1 c27
          refine aw_goto 3937 dL_law_2206 rfl ?_
          refine aw_iinc 3940 (v := 4) (lv' := [(5, _), (7, _), (6, _), (0, _), (1, _), (2, _), (3, _), (4, _)]) dL_law_3937 7 rfl kI_4 (ltb rfl) rfl rfl ?_
          refine aw_goto 28 dL_law_3940 rfl ?_
          exact aw_pick [3, 4, 5, 6, 7, 0] rfl (hO28 _ _ _ _ _ _ _ _ _ h)
        · replace h := h.2 c27
          refine aw_iconst 2205 (v := 0) dL_law_2204 kI_0 rfl ?_
          obtain ⟨g28, h⟩ := h
          obtain ⟨g29, h⟩ := h
          exact aw_ireturn (ty := .boolean) dL_law_2205 rfl rfl g28 g29 ⟨_, rfl, h⟩
  · replace h := h.2 c19
    refine aw_iconst 2181 (v := 0) dL_law_2180 kI_0 rfl ?_
    obtain ⟨g30, h⟩ := h
    obtain ⟨g31, h⟩ := h
    exact aw_ireturn (ty := .boolean) dL_law_2181 rfl rfl g30 g31 ⟨_, rfl, h⟩
set_option maxRecDepth 20000 in
theorem aw_L_law_2209 {G : GG} (hG : G.1.stackTraces = false) {P28 : Nat → Nat → Nat → Nat → Nat → Int32 → Nat → Nat → XH → Prop} {l0 : Nat} {l1 : Nat} {l2 : Nat} {l3 : Nat} {l4 : Nat} {l5 : Int32} {cc : Nat} {ss : Nat} {X : XH} {K : Int32 → XH → Prop} (hO28 : ∀ (l0 : Nat) (l1 : Nat) (l2 : Nat) (l3 : Nat) (l4 : Nat) (l5 : Int32) (cc : Nat) (ss : Nat) (X : XH), P28 l0 l1 l2 l3 l4 l5 cc ss X → AW G M_L_law 28 [(0, .ref 0), (1, .ref l1), (2, .ref l2), (3, .ref l3), (4, .ref l4), (5, .int l5)] [] X cc ss (KrI K)) (h : w_L_law_2209 G P28 l0 l1 l2 l3 l4 l5 cc ss X K) : AW G M_L_law 2209 [(0, .ref 0), (1, .ref l1), (2, .ref l2), (3, .ref l3), (4, .ref l4), (5, .int l5)] [] X cc ss (KrI K) := by
  unfold w_L_law_2209 at h
  refine aw_aload_n 2210 dL_law_2209 rfl 1 rfl rfl ?_
  refine aw_aload_n 2211 dL_law_2210 rfl 0 rfl rfl ?_
  refine aw_iload 2213 dL_law_2211 5 rfl rfl ?_
  refine aw_iconst 2214 (v := 1) dL_law_2213 kI_1 rfl ?_
  refine aw_iadd 2215 dL_law_2214 rfl ?_
  obtain ⟨g1, h⟩ := h
  refine aw_sld 2216 dL_law_2215 g1 rfl ?_
  refine aw_aload_n 2217 dL_law_2216 rfl 0 rfl rfl ?_
  refine aw_iload 2219 dL_law_2217 5 rfl rfl ?_
  refine aw_iconst 2220 (v := 2) dL_law_2219 kI_2 rfl ?_
  refine aw_iadd 2221 dL_law_2220 rfl ?_
  obtain ⟨g2, h⟩ := h
  refine aw_sld 2222 dL_law_2221 g2 rfl ?_
  refine aw_aload_n 2223 dL_law_2222 rfl 3 rfl rfl ?_
  obtain ⟨g3, h⟩ := h
  obtain ⟨g4, h⟩ := h
  refine aw_callSX (M' := M_L_hundredthsOf) 2226 304 [.ref _, .int _, .int _, .ref _] [] dL_law_2223 lk_RL_304 ms_L_hundredthsOf mp_L_hundredthsOf (0, 10, 13, 13) [(0, 10, 17, 17)] rfl ⟨leb rfl, leb rfl⟩ rfl (leb rfl) g3 g4 rfl (am_L_hundredthsOf hG h) (kkI fun v6 X5 h => ?_) (kxN KrI.no)
  refine aw_widen (cc' := cc + 3) (ss' := ss + 18) (Nat.le_refl _) (Nat.le_refl _) ?_
  refine aw_istore 2228 (lv' := [(6, _), (0, _), (1, _), (2, _), (3, _), (4, _), (5, _)]) dL_law_2226 (ltb rfl) rfl rfl ?_
  refine aw_aload_n 2229 dL_law_2228 rfl 3 rfl rfl ?_
  refine aw_aload_n 2230 dL_law_2229 rfl 1 rfl rfl ?_
  refine aw_iload 2232 dL_law_2230 6 rfl rfl ?_
  refine aw_iconst 2233 (v := 1) dL_law_2232 kI_1 rfl ?_
  refine aw_iadd 2234 dL_law_2233 rfl ?_
  obtain ⟨g7, h⟩ := h
  refine aw_sld 2235 dL_law_2234 g7 rfl ?_
  refine aw_aload_n 2236 dL_law_2235 rfl 1 rfl rfl ?_
  refine aw_iload 2238 dL_law_2236 6 rfl rfl ?_
  refine aw_iconst 2239 (v := 2) dL_law_2238 kI_2 rfl ?_
  refine aw_iadd 2240 dL_law_2239 rfl ?_
  obtain ⟨g8, h⟩ := h
  refine aw_sld 2241 dL_law_2240 g8 rfl ?_
  obtain ⟨g9, h⟩ := h
  obtain ⟨g10, h⟩ := h
  obtain ⟨g13, h⟩ := h
  refine aw_callV (M' := M_X5_hundredthsOf) 2244 306 5 l2 [.int _, .int _] [] dL_law_2241 lk_RL_306 mv_X5_hundredthsOf mp_X5_hundredthsOf rfl ⟨leb rfl, leb rfl⟩ rfl (ltb rfl) g13 rfl (leb rfl) g9 g10 rfl (am_X5_hundredthsOf hG h) (kkI fun v12 X11 h => ?_) (kxN KrI.no)
  refine aw_widen (cc' := cc + 3) (ss' := ss + 18) (Nat.le_refl _) (Nat.le_refl _) ?_
  refine aw_istore 2246 (lv' := [(7, _), (6, _), (0, _), (1, _), (2, _), (3, _), (4, _), (5, _)]) dL_law_2244 (ltb rfl) rfl rfl ?_
  refine aw_aload_n 2247 dL_law_2246 rfl 4 rfl rfl ?_
  obtain ⟨g14, h⟩ := h
  obtain ⟨g15, h⟩ := h
  obtain ⟨g18, h⟩ := h
  refine aw_callV (M' := M_X5_thrown) 2250 196 5 l2 [] [] dL_law_2247 lk_RL_196 mv_X5_thrown mp_X5_thrown rfl ⟨leb rfl, leb rfl⟩ rfl (ltb rfl) g18 rfl (leb rfl) g14 g15 rfl (am_X5_thrown hG h) (kkI fun v17 X16 h => ?_) (kxN KrI.no)
  refine aw_widen (cc' := cc + 3) (ss' := ss + 18) (Nat.le_refl _) (Nat.le_refl _) ?_
  refine aw_iload 2252 dL_law_2250 1 rfl rfl ?_
  refine aw_icmp_eq 2257 2255 dL_law_2252 rfl rfl (fun c19 => ?_) (fun c19 => ?_)
  · replace h := h.1 c19
    refine aw_iload 2259 dL_law_2257 1 rfl rfl ?_
    refine aw_if_ne 2274 2262 dL_law_2259 rfl rfl (fun c20 => ?_) (fun c20 => ?_)
    · replace h := h.1 c20
      refine aw_goto 3937 dL_law_2274 rfl ?_
      refine aw_iinc 3940 (v := 4) (lv' := [(5, _), (7, _), (6, _), (0, _), (1, _), (2, _), (3, _), (4, _)]) dL_law_3937 7 rfl kI_4 (ltb rfl) rfl rfl ?_
      refine aw_goto 28 dL_law_3940 rfl ?_
      exact aw_pick [3, 4, 5, 6, 7, 0] rfl (hO28 _ _ _ _ _ _ _ _ _ h)
    · replace h := h.2 c20
      refine aw_aload_n 2263 dL_law_2262 rfl 5 rfl rfl ?_
      refine aw_iconst 2264 (v := 0) dL_law_2263 kI_0 rfl ?_
      obtain ⟨g21, h⟩ := h
      obtain ⟨g22, h⟩ := h
      refine aw_laload 2265 dL_law_2264 g21 g22 rfl ?_
      refine aw_iload 2267 dL_law_2265 0 rfl rfl ?_
      refine aw_i2l 2268 dL_law_2267 rfl ?_
      refine aw_lcmp 2269 dL_law_2268 rfl ?_
      refine aw_if_eq 2274 2272 dL_law_2269 rfl rfl (fun c23 => ?_) (fun c23 => ?_)
      · replace h := h.1 c23
        refine aw_goto 3937 dL_law_2274 rfl ?_
        refine aw_iinc 3940 (v := 4) (lv' := [(5, _), (7, _), (6, _), (0, _), (1, _), (2, _), (3, _), (4, _)]) dL_law_3937 7 rfl kI_4 (ltb rfl) rfl rfl ?_
        refine aw_goto 28 dL_law_3940 rfl ?_
        exact aw_pick [3, 4, 5, 6, 7, 0] rfl (hO28 _ _ _ _ _ _ _ _ _ h)
      · replace h := h.2 c23
        refine aw_iconst 2273 (v := 0) dL_law_2272 kI_0 rfl ?_
        obtain ⟨g24, h⟩ := h
        obtain ⟨g25, h⟩ := h
        exact aw_ireturn (ty := .boolean) dL_law_2273 rfl rfl g24 g25 ⟨_, rfl, h⟩
  · replace h := h.2 c19
    refine aw_iconst 2256 (v := 0) dL_law_2255 kI_0 rfl ?_
    obtain ⟨g26, h⟩ := h
    obtain ⟨g27, h⟩ := h
    exact aw_ireturn (ty := .boolean) dL_law_2256 rfl rfl g26 g27 ⟨_, rfl, h⟩
set_option maxRecDepth 20000 in
theorem aw_L_law_2277 {G : GG} (hG : G.1.stackTraces = false) {P28 : Nat → Nat → Nat → Nat → Nat → Int32 → Nat → Nat → XH → Prop} {l0 : Nat} {l1 : Nat} {l2 : Nat} {l3 : Nat} {l4 : Nat} {l5 : Int32} {cc : Nat} {ss : Nat} {X : XH} {K : Int32 → XH → Prop} (hO28 : ∀ (l0 : Nat) (l1 : Nat) (l2 : Nat) (l3 : Nat) (l4 : Nat) (l5 : Int32) (cc : Nat) (ss : Nat) (X : XH), P28 l0 l1 l2 l3 l4 l5 cc ss X → AW G M_L_law 28 [(0, .ref 0), (1, .ref l1), (2, .ref l2), (3, .ref l3), (4, .ref l4), (5, .int l5)] [] X cc ss (KrI K)) (h : w_L_law_2277 G P28 l0 l1 l2 l3 l4 l5 cc ss X K) : AW G M_L_law 2277 [(0, .ref 0), (1, .ref l1), (2, .ref l2), (3, .ref l3), (4, .ref l4), (5, .int l5)] [] X cc ss (KrI K) := by
  unfold w_L_law_2277 at h
  refine aw_aload_n 2278 dL_law_2277 rfl 1 rfl rfl ?_
  refine aw_aload_n 2279 dL_law_2278 rfl 0 rfl rfl ?_
  refine aw_iload 2281 dL_law_2279 5 rfl rfl ?_
  refine aw_iconst 2282 (v := 1) dL_law_2281 kI_1 rfl ?_
  refine aw_iadd 2283 dL_law_2282 rfl ?_
  obtain ⟨g1, h⟩ := h
  refine aw_sld 2284 dL_law_2283 g1 rfl ?_
  refine aw_aload_n 2285 dL_law_2284 rfl 0 rfl rfl ?_
  refine aw_iload 2287 dL_law_2285 5 rfl rfl ?_
  refine aw_iconst 2288 (v := 2) dL_law_2287 kI_2 rfl ?_
  refine aw_iadd 2289 dL_law_2288 rfl ?_
  obtain ⟨g2, h⟩ := h
  refine aw_sld 2290 dL_law_2289 g2 rfl ?_
  refine aw_aload_n 2291 dL_law_2290 rfl 3 rfl rfl ?_
  obtain ⟨g3, h⟩ := h
  obtain ⟨g4, h⟩ := h
  refine aw_callSX (M' := M_L_reasonAgainst) 2294 307 [.ref _, .int _, .int _, .ref _] [] dL_law_2291 lk_RL_307 ms_L_reasonAgainst mp_L_reasonAgainst (0, 10, 13, 13) [] rfl ⟨leb rfl, leb rfl⟩ rfl (leb rfl) g3 g4 rfl (am_L_reasonAgainst hG h) (kkI fun v6 X5 h => ?_) (kxN KrI.no)
  refine aw_widen (cc' := cc + 2) (ss' := ss + 12) (Nat.le_refl _) (Nat.le_refl _) ?_
  refine aw_istore 2296 (lv' := [(6, _), (0, _), (1, _), (2, _), (3, _), (4, _), (5, _)]) dL_law_2294 (ltb rfl) rfl rfl ?_
  refine aw_aload_n 2297 dL_law_2296 rfl 3 rfl rfl ?_
  refine aw_aload_n 2298 dL_law_2297 rfl 1 rfl rfl ?_
  refine aw_iload 2300 dL_law_2298 6 rfl rfl ?_
  refine aw_iconst 2301 (v := 1) dL_law_2300 kI_1 rfl ?_
  refine aw_iadd 2302 dL_law_2301 rfl ?_
  obtain ⟨g7, h⟩ := h
  refine aw_sld 2303 dL_law_2302 g7 rfl ?_
  refine aw_aload_n 2304 dL_law_2303 rfl 1 rfl rfl ?_
  refine aw_iload 2306 dL_law_2304 6 rfl rfl ?_
  refine aw_iconst 2307 (v := 2) dL_law_2306 kI_2 rfl ?_
  refine aw_iadd 2308 dL_law_2307 rfl ?_
  obtain ⟨g8, h⟩ := h
  refine aw_sld 2309 dL_law_2308 g8 rfl ?_
  obtain ⟨g9, h⟩ := h
  obtain ⟨g10, h⟩ := h
  obtain ⟨g13, h⟩ := h
  refine aw_callV (M' := M_X5_reasonAgainst) 2312 309 5 l2 [.int _, .int _] [] dL_law_2309 lk_RL_309 mv_X5_reasonAgainst mp_X5_reasonAgainst rfl ⟨leb rfl, leb rfl⟩ rfl (ltb rfl) g13 rfl (leb rfl) g9 g10 rfl (am_X5_reasonAgainst hG h) (kkI fun v12 X11 h => ?_) (kxN KrI.no)
  refine aw_widen (cc' := cc + 2) (ss' := ss + 12) (Nat.le_refl _) (Nat.le_refl _) ?_
  refine aw_istore 2314 (lv' := [(7, _), (6, _), (0, _), (1, _), (2, _), (3, _), (4, _), (5, _)]) dL_law_2312 (ltb rfl) rfl rfl ?_
  refine aw_aload_n 2315 dL_law_2314 rfl 4 rfl rfl ?_
  obtain ⟨g14, h⟩ := h
  obtain ⟨g15, h⟩ := h
  obtain ⟨g18, h⟩ := h
  refine aw_callV (M' := M_X5_thrown) 2318 196 5 l2 [] [] dL_law_2315 lk_RL_196 mv_X5_thrown mp_X5_thrown rfl ⟨leb rfl, leb rfl⟩ rfl (ltb rfl) g18 rfl (leb rfl) g14 g15 rfl (am_X5_thrown hG h) (kkI fun v17 X16 h => ?_) (kxN KrI.no)
  refine aw_widen (cc' := cc + 2) (ss' := ss + 12) (Nat.le_refl _) (Nat.le_refl _) ?_
  refine aw_iload 2320 dL_law_2318 1 rfl rfl ?_
  refine aw_icmp_eq 2325 2323 dL_law_2320 rfl rfl (fun c19 => ?_) (fun c19 => ?_)
  · replace h := h.1 c19
    refine aw_iload 2327 dL_law_2325 1 rfl rfl ?_
    refine aw_if_ne 2342 2330 dL_law_2327 rfl rfl (fun c20 => ?_) (fun c20 => ?_)
    · replace h := h.1 c20
      refine aw_goto 3937 dL_law_2342 rfl ?_
      refine aw_iinc 3940 (v := 4) (lv' := [(5, _), (7, _), (6, _), (0, _), (1, _), (2, _), (3, _), (4, _)]) dL_law_3937 7 rfl kI_4 (ltb rfl) rfl rfl ?_
      refine aw_goto 28 dL_law_3940 rfl ?_
      exact aw_pick [3, 4, 5, 6, 7, 0] rfl (hO28 _ _ _ _ _ _ _ _ _ h)
    · replace h := h.2 c20
      refine aw_aload_n 2331 dL_law_2330 rfl 5 rfl rfl ?_
      refine aw_iconst 2332 (v := 0) dL_law_2331 kI_0 rfl ?_
      obtain ⟨g21, h⟩ := h
      obtain ⟨g22, h⟩ := h
      refine aw_laload 2333 dL_law_2332 g21 g22 rfl ?_
      refine aw_iload 2335 dL_law_2333 0 rfl rfl ?_
      refine aw_i2l 2336 dL_law_2335 rfl ?_
      refine aw_lcmp 2337 dL_law_2336 rfl ?_
      refine aw_if_eq 2342 2340 dL_law_2337 rfl rfl (fun c23 => ?_) (fun c23 => ?_)
      · replace h := h.1 c23
        refine aw_goto 3937 dL_law_2342 rfl ?_
        refine aw_iinc 3940 (v := 4) (lv' := [(5, _), (7, _), (6, _), (0, _), (1, _), (2, _), (3, _), (4, _)]) dL_law_3937 7 rfl kI_4 (ltb rfl) rfl rfl ?_
        refine aw_goto 28 dL_law_3940 rfl ?_
        exact aw_pick [3, 4, 5, 6, 7, 0] rfl (hO28 _ _ _ _ _ _ _ _ _ h)
      · replace h := h.2 c23
        refine aw_iconst 2341 (v := 0) dL_law_2340 kI_0 rfl ?_
        obtain ⟨g24, h⟩ := h
        obtain ⟨g25, h⟩ := h
        exact aw_ireturn (ty := .boolean) dL_law_2341 rfl rfl g24 g25 ⟨_, rfl, h⟩
  · replace h := h.2 c19
    refine aw_iconst 2324 (v := 0) dL_law_2323 kI_0 rfl ?_
    obtain ⟨g26, h⟩ := h
    obtain ⟨g27, h⟩ := h
    exact aw_ireturn (ty := .boolean) dL_law_2324 rfl rfl g26 g27 ⟨_, rfl, h⟩
set_option maxRecDepth 20000 in
theorem aw_L_law_2345 {G : GG} (hG : G.1.stackTraces = false) {P28 : Nat → Nat → Nat → Nat → Nat → Int32 → Nat → Nat → XH → Prop} {l0 : Nat} {l1 : Nat} {l2 : Nat} {l3 : Nat} {l4 : Nat} {l5 : Int32} {cc : Nat} {ss : Nat} {X : XH} {K : Int32 → XH → Prop} (hO28 : ∀ (l0 : Nat) (l1 : Nat) (l2 : Nat) (l3 : Nat) (l4 : Nat) (l5 : Int32) (cc : Nat) (ss : Nat) (X : XH), P28 l0 l1 l2 l3 l4 l5 cc ss X → AW G M_L_law 28 [(0, .ref 0), (1, .ref l1), (2, .ref l2), (3, .ref l3), (4, .ref l4), (5, .int l5)] [] X cc ss (KrI K)) (h : w_L_law_2345 G P28 l0 l1 l2 l3 l4 l5 cc ss X K) : AW G M_L_law 2345 [(0, .ref 0), (1, .ref l1), (2, .ref l2), (3, .ref l3), (4, .ref l4), (5, .int l5)] [] X cc ss (KrI K) := by
  unfold w_L_law_2345 at h
  refine aw_aload_n 2346 dL_law_2345 rfl 1 rfl rfl ?_
  refine aw_aload_n 2347 dL_law_2346 rfl 0 rfl rfl ?_
  refine aw_iload 2349 dL_law_2347 5 rfl rfl ?_
  refine aw_iconst 2350 (v := 1) dL_law_2349 kI_1 rfl ?_
  refine aw_iadd 2351 dL_law_2350 rfl ?_
  obtain ⟨g1, h⟩ := h
  refine aw_sld 2352 dL_law_2351 g1 rfl ?_
  refine aw_aload_n 2353 dL_law_2352 rfl 0 rfl rfl ?_
  refine aw_iload 2355 dL_law_2353 5 rfl rfl ?_
  refine aw_iconst 2356 (v := 2) dL_law_2355 kI_2 rfl ?_
  refine aw_iadd 2357 dL_law_2356 rfl ?_
  obtain ⟨g2, h⟩ := h
  refine aw_sld 2358 dL_law_2357 g2 rfl ?_
  refine aw_aload_n 2359 dL_law_2358 rfl 3 rfl rfl ?_
  obtain ⟨g3, h⟩ := h
  obtain ⟨g4, h⟩ := h
  refine aw_callSX (M' := M_L_staminaOf) 2362 310 [.ref _, .int _, .int _, .ref _] [] dL_law_2359 lk_RL_310 ms_L_staminaOf mp_L_staminaOf (0, 10, 13, 13) [] rfl ⟨leb rfl, leb rfl⟩ rfl (leb rfl) g3 g4 rfl (am_L_staminaOf hG h) (kkI fun v6 X5 h => ?_) (kxN KrI.no)
  refine aw_widen (cc' := cc + 2) (ss' := ss + 12) (Nat.le_refl _) (Nat.le_refl _) ?_
  refine aw_istore 2364 (lv' := [(6, _), (0, _), (1, _), (2, _), (3, _), (4, _), (5, _)]) dL_law_2362 (ltb rfl) rfl rfl ?_
  refine aw_aload_n 2365 dL_law_2364 rfl 3 rfl rfl ?_
  refine aw_aload_n 2366 dL_law_2365 rfl 1 rfl rfl ?_
  refine aw_iload 2368 dL_law_2366 6 rfl rfl ?_
  refine aw_iconst 2369 (v := 1) dL_law_2368 kI_1 rfl ?_
  refine aw_iadd 2370 dL_law_2369 rfl ?_
  obtain ⟨g7, h⟩ := h
  refine aw_sld 2371 dL_law_2370 g7 rfl ?_
  refine aw_aload_n 2372 dL_law_2371 rfl 1 rfl rfl ?_
  refine aw_iload 2374 dL_law_2372 6 rfl rfl ?_
  refine aw_iconst 2375 (v := 2) dL_law_2374 kI_2 rfl ?_
  refine aw_iadd 2376 dL_law_2375 rfl ?_
  obtain ⟨g8, h⟩ := h
  refine aw_sld 2377 dL_law_2376 g8 rfl ?_
  obtain ⟨g9, h⟩ := h
  obtain ⟨g10, h⟩ := h
  obtain ⟨g13, h⟩ := h
  refine aw_callV (M' := M_X5_staminaOf) 2380 312 5 l2 [.int _, .int _] [] dL_law_2377 lk_RL_312 mv_X5_staminaOf mp_X5_staminaOf rfl ⟨leb rfl, leb rfl⟩ rfl (ltb rfl) g13 rfl (leb rfl) g9 g10 rfl (am_X5_staminaOf hG h) (kkI fun v12 X11 h => ?_) (kxN KrI.no)
  refine aw_widen (cc' := cc + 2) (ss' := ss + 12) (Nat.le_refl _) (Nat.le_refl _) ?_
  refine aw_istore 2382 (lv' := [(7, _), (6, _), (0, _), (1, _), (2, _), (3, _), (4, _), (5, _)]) dL_law_2380 (ltb rfl) rfl rfl ?_
  refine aw_aload_n 2383 dL_law_2382 rfl 4 rfl rfl ?_
  obtain ⟨g14, h⟩ := h
  obtain ⟨g15, h⟩ := h
  obtain ⟨g18, h⟩ := h
  refine aw_callV (M' := M_X5_thrown) 2386 196 5 l2 [] [] dL_law_2383 lk_RL_196 mv_X5_thrown mp_X5_thrown rfl ⟨leb rfl, leb rfl⟩ rfl (ltb rfl) g18 rfl (leb rfl) g14 g15 rfl (am_X5_thrown hG h) (kkI fun v17 X16 h => ?_) (kxN KrI.no)
  refine aw_widen (cc' := cc + 2) (ss' := ss + 12) (Nat.le_refl _) (Nat.le_refl _) ?_
  refine aw_iload 2388 dL_law_2386 1 rfl rfl ?_
  refine aw_icmp_eq 2393 2391 dL_law_2388 rfl rfl (fun c19 => ?_) (fun c19 => ?_)
  · replace h := h.1 c19
    refine aw_iload 2395 dL_law_2393 1 rfl rfl ?_
    refine aw_if_ne 2410 2398 dL_law_2395 rfl rfl (fun c20 => ?_) (fun c20 => ?_)
    · replace h := h.1 c20
      refine aw_goto 3937 dL_law_2410 rfl ?_
      refine aw_iinc 3940 (v := 4) (lv' := [(5, _), (7, _), (6, _), (0, _), (1, _), (2, _), (3, _), (4, _)]) dL_law_3937 7 rfl kI_4 (ltb rfl) rfl rfl ?_
      refine aw_goto 28 dL_law_3940 rfl ?_
      exact aw_pick [3, 4, 5, 6, 7, 0] rfl (hO28 _ _ _ _ _ _ _ _ _ h)
    · replace h := h.2 c20
      refine aw_aload_n 2399 dL_law_2398 rfl 5 rfl rfl ?_
      refine aw_iconst 2400 (v := 0) dL_law_2399 kI_0 rfl ?_
      obtain ⟨g21, h⟩ := h
      obtain ⟨g22, h⟩ := h
      refine aw_laload 2401 dL_law_2400 g21 g22 rfl ?_
      refine aw_iload 2403 dL_law_2401 0 rfl rfl ?_
      refine aw_i2l 2404 dL_law_2403 rfl ?_
      refine aw_lcmp 2405 dL_law_2404 rfl ?_
      refine aw_if_eq 2410 2408 dL_law_2405 rfl rfl (fun c23 => ?_) (fun c23 => ?_)
      · replace h := h.1 c23
        refine aw_goto 3937 dL_law_2410 rfl ?_
        refine aw_iinc 3940 (v := 4) (lv' := [(5, _), (7, _), (6, _), (0, _), (1, _), (2, _), (3, _), (4, _)]) dL_law_3937 7 rfl kI_4 (ltb rfl) rfl rfl ?_
        refine aw_goto 28 dL_law_3940 rfl ?_
        exact aw_pick [3, 4, 5, 6, 7, 0] rfl (hO28 _ _ _ _ _ _ _ _ _ h)
      · replace h := h.2 c23
        refine aw_iconst 2409 (v := 0) dL_law_2408 kI_0 rfl ?_
        obtain ⟨g24, h⟩ := h
        obtain ⟨g25, h⟩ := h
        exact aw_ireturn (ty := .boolean) dL_law_2409 rfl rfl g24 g25 ⟨_, rfl, h⟩
  · replace h := h.2 c19
    refine aw_iconst 2392 (v := 0) dL_law_2391 kI_0 rfl ?_
    obtain ⟨g26, h⟩ := h
    obtain ⟨g27, h⟩ := h
    exact aw_ireturn (ty := .boolean) dL_law_2392 rfl rfl g26 g27 ⟨_, rfl, h⟩
set_option maxRecDepth 20000 in
theorem aw_L_law_2413 {G : GG} (hG : G.1.stackTraces = false) {P28 : Nat → Nat → Nat → Nat → Nat → Int32 → Nat → Nat → XH → Prop} {l0 : Nat} {l1 : Nat} {l2 : Nat} {l3 : Nat} {l4 : Nat} {l5 : Int32} {cc : Nat} {ss : Nat} {X : XH} {K : Int32 → XH → Prop} (hO28 : ∀ (l0 : Nat) (l1 : Nat) (l2 : Nat) (l3 : Nat) (l4 : Nat) (l5 : Int32) (cc : Nat) (ss : Nat) (X : XH), P28 l0 l1 l2 l3 l4 l5 cc ss X → AW G M_L_law 28 [(0, .ref 0), (1, .ref l1), (2, .ref l2), (3, .ref l3), (4, .ref l4), (5, .int l5)] [] X cc ss (KrI K)) (h : w_L_law_2413 G P28 l0 l1 l2 l3 l4 l5 cc ss X K) : AW G M_L_law 2413 [(0, .ref 0), (1, .ref l1), (2, .ref l2), (3, .ref l3), (4, .ref l4), (5, .int l5)] [] X cc ss (KrI K) := by
  unfold w_L_law_2413 at h
  refine aw_aload_n 2414 dL_law_2413 rfl 1 rfl rfl ?_
  refine aw_aload_n 2415 dL_law_2414 rfl 0 rfl rfl ?_
  refine aw_iload 2417 dL_law_2415 5 rfl rfl ?_
  refine aw_iconst 2418 (v := 1) dL_law_2417 kI_1 rfl ?_
  refine aw_iadd 2419 dL_law_2418 rfl ?_
  obtain ⟨g1, h⟩ := h
  refine aw_sld 2420 dL_law_2419 g1 rfl ?_
  refine aw_aload_n 2421 dL_law_2420 rfl 0 rfl rfl ?_
  refine aw_iload 2423 dL_law_2421 5 rfl rfl ?_
  refine aw_iconst 2424 (v := 2) dL_law_2423 kI_2 rfl ?_
  refine aw_iadd 2425 dL_law_2424 rfl ?_
  obtain ⟨g2, h⟩ := h
  refine aw_sld 2426 dL_law_2425 g2 rfl ?_
  refine aw_aload_n 2427 dL_law_2426 rfl 3 rfl rfl ?_
  obtain ⟨g3, h⟩ := h
  obtain ⟨g4, h⟩ := h
  refine aw_callSX (M' := M_L_strengthLeft) 2430 313 [.ref _, .int _, .int _, .ref _] [] dL_law_2427 lk_RL_313 ms_L_strengthLeft mp_L_strengthLeft (0, 10, 13, 13) [] rfl ⟨leb rfl, leb rfl⟩ rfl (leb rfl) g3 g4 rfl (am_L_strengthLeft hG h) (kkI fun v6 X5 h => ?_) (kxN KrI.no)
  refine aw_widen (cc' := cc + 2) (ss' := ss + 12) (Nat.le_refl _) (Nat.le_refl _) ?_
  refine aw_istore 2432 (lv' := [(6, _), (0, _), (1, _), (2, _), (3, _), (4, _), (5, _)]) dL_law_2430 (ltb rfl) rfl rfl ?_
  refine aw_aload_n 2433 dL_law_2432 rfl 3 rfl rfl ?_
  refine aw_aload_n 2434 dL_law_2433 rfl 1 rfl rfl ?_
  refine aw_iload 2436 dL_law_2434 6 rfl rfl ?_
  refine aw_iconst 2437 (v := 1) dL_law_2436 kI_1 rfl ?_
  refine aw_iadd 2438 dL_law_2437 rfl ?_
  obtain ⟨g7, h⟩ := h
  refine aw_sld 2439 dL_law_2438 g7 rfl ?_
  refine aw_aload_n 2440 dL_law_2439 rfl 1 rfl rfl ?_
  refine aw_iload 2442 dL_law_2440 6 rfl rfl ?_
  refine aw_iconst 2443 (v := 2) dL_law_2442 kI_2 rfl ?_
  refine aw_iadd 2444 dL_law_2443 rfl ?_
  obtain ⟨g8, h⟩ := h
  refine aw_sld 2445 dL_law_2444 g8 rfl ?_
  obtain ⟨g9, h⟩ := h
  obtain ⟨g10, h⟩ := h
  obtain ⟨g13, h⟩ := h
  refine aw_callV (M' := M_X5_strengthLeft) 2448 315 5 l2 [.int _, .int _] [] dL_law_2445 lk_RL_315 mv_X5_strengthLeft mp_X5_strengthLeft rfl ⟨leb rfl, leb rfl⟩ rfl (ltb rfl) g13 rfl (leb rfl) g9 g10 rfl (am_X5_strengthLeft hG h) (kkI fun v12 X11 h => ?_) (kxN KrI.no)
  refine aw_widen (cc' := cc + 2) (ss' := ss + 12) (Nat.le_refl _) (Nat.le_refl _) ?_
  refine aw_istore 2450 (lv' := [(7, _), (6, _), (0, _), (1, _), (2, _), (3, _), (4, _), (5, _)]) dL_law_2448 (ltb rfl) rfl rfl ?_
  refine aw_aload_n 2451 dL_law_2450 rfl 4 rfl rfl ?_
  obtain ⟨g14, h⟩ := h
  obtain ⟨g15, h⟩ := h
  obtain ⟨g18, h⟩ := h
  refine aw_callV (M' := M_X5_thrown) 2454 196 5 l2 [] [] dL_law_2451 lk_RL_196 mv_X5_thrown mp_X5_thrown rfl ⟨leb rfl, leb rfl⟩ rfl (ltb rfl) g18 rfl (leb rfl) g14 g15 rfl (am_X5_thrown hG h) (kkI fun v17 X16 h => ?_) (kxN KrI.no)
  refine aw_widen (cc' := cc + 2) (ss' := ss + 12) (Nat.le_refl _) (Nat.le_refl _) ?_
  refine aw_iload 2456 dL_law_2454 1 rfl rfl ?_
  refine aw_icmp_eq 2461 2459 dL_law_2456 rfl rfl (fun c19 => ?_) (fun c19 => ?_)
  · replace h := h.1 c19
    refine aw_iload 2463 dL_law_2461 1 rfl rfl ?_
    refine aw_if_ne 2478 2466 dL_law_2463 rfl rfl (fun c20 => ?_) (fun c20 => ?_)
    · replace h := h.1 c20
      refine aw_goto 3937 dL_law_2478 rfl ?_
      refine aw_iinc 3940 (v := 4) (lv' := [(5, _), (7, _), (6, _), (0, _), (1, _), (2, _), (3, _), (4, _)]) dL_law_3937 7 rfl kI_4 (ltb rfl) rfl rfl ?_
      refine aw_goto 28 dL_law_3940 rfl ?_
      exact aw_pick [3, 4, 5, 6, 7, 0] rfl (hO28 _ _ _ _ _ _ _ _ _ h)
    · replace h := h.2 c20
      refine aw_aload_n 2467 dL_law_2466 rfl 5 rfl rfl ?_
      refine aw_iconst 2468 (v := 0) dL_law_2467 kI_0 rfl ?_
      obtain ⟨g21, h⟩ := h
      obtain ⟨g22, h⟩ := h
      refine aw_laload 2469 dL_law_2468 g21 g22 rfl ?_
      refine aw_iload 2471 dL_law_2469 0 rfl rfl ?_
      refine aw_i2l 2472 dL_law_2471 rfl ?_
      refine aw_lcmp 2473 dL_law_2472 rfl ?_
      refine aw_if_eq 2478 2476 dL_law_2473 rfl rfl (fun c23 => ?_) (fun c23 => ?_)
      · replace h := h.1 c23
        refine aw_goto 3937 dL_law_2478 rfl ?_
        refine aw_iinc 3940 (v := 4) (lv' := [(5, _), (7, _), (6, _), (0, _), (1, _), (2, _), (3, _), (4, _)]) dL_law_3937 7 rfl kI_4 (ltb rfl) rfl rfl ?_
        refine aw_goto 28 dL_law_3940 rfl ?_
        exact aw_pick [3, 4, 5, 6, 7, 0] rfl (hO28 _ _ _ _ _ _ _ _ _ h)
      · replace h := h.2 c23
        refine aw_iconst 2477 (v := 0) dL_law_2476 kI_0 rfl ?_
        obtain ⟨g24, h⟩ := h
        obtain ⟨g25, h⟩ := h
        exact aw_ireturn (ty := .boolean) dL_law_2477 rfl rfl g24 g25 ⟨_, rfl, h⟩
  · replace h := h.2 c19
    refine aw_iconst 2460 (v := 0) dL_law_2459 kI_0 rfl ?_
    obtain ⟨g26, h⟩ := h
    obtain ⟨g27, h⟩ := h
    exact aw_ireturn (ty := .boolean) dL_law_2460 rfl rfl g26 g27 ⟨_, rfl, h⟩
set_option maxRecDepth 20000 in
theorem aw_L_law_2481 {G : GG} (hG : G.1.stackTraces = false) {P28 : Nat → Nat → Nat → Nat → Nat → Int32 → Nat → Nat → XH → Prop} {l0 : Nat} {l1 : Nat} {l2 : Nat} {l3 : Nat} {l4 : Nat} {l5 : Int32} {cc : Nat} {ss : Nat} {X : XH} {K : Int32 → XH → Prop} (hO28 : ∀ (l0 : Nat) (l1 : Nat) (l2 : Nat) (l3 : Nat) (l4 : Nat) (l5 : Int32) (cc : Nat) (ss : Nat) (X : XH), P28 l0 l1 l2 l3 l4 l5 cc ss X → AW G M_L_law 28 [(0, .ref 0), (1, .ref l1), (2, .ref l2), (3, .ref l3), (4, .ref l4), (5, .int l5)] [] X cc ss (KrI K)) (h : w_L_law_2481 G P28 l0 l1 l2 l3 l4 l5 cc ss X K) : AW G M_L_law 2481 [(0, .ref 0), (1, .ref l1), (2, .ref l2), (3, .ref l3), (4, .ref l4), (5, .int l5)] [] X cc ss (KrI K) := by
  unfold w_L_law_2481 at h
  refine aw_aload_n 2482 dL_law_2481 rfl 1 rfl rfl ?_
  refine aw_aload_n 2483 dL_law_2482 rfl 0 rfl rfl ?_
  refine aw_iload 2485 dL_law_2483 5 rfl rfl ?_
  refine aw_iconst 2486 (v := 1) dL_law_2485 kI_1 rfl ?_
  refine aw_iadd 2487 dL_law_2486 rfl ?_
  obtain ⟨g1, h⟩ := h
  refine aw_sld 2488 dL_law_2487 g1 rfl ?_
  refine aw_aload_n 2489 dL_law_2488 rfl 0 rfl rfl ?_
  refine aw_iload 2491 dL_law_2489 5 rfl rfl ?_
  refine aw_iconst 2492 (v := 2) dL_law_2491 kI_2 rfl ?_
  refine aw_iadd 2493 dL_law_2492 rfl ?_
  obtain ⟨g2, h⟩ := h
  refine aw_sld 2494 dL_law_2493 g2 rfl ?_
  refine aw_aload_n 2495 dL_law_2494 rfl 3 rfl rfl ?_
  obtain ⟨g3, h⟩ := h
  obtain ⟨g4, h⟩ := h
  refine aw_callSX (M' := M_L_framesOfVoice) 2498 316 [.ref _, .int _, .int _, .ref _] [] dL_law_2495 lk_RL_316 ms_L_framesOfVoice mp_L_framesOfVoice (0, 10, 13, 13) [] rfl ⟨leb rfl, leb rfl⟩ rfl (leb rfl) g3 g4 rfl (am_L_framesOfVoice hG h) (kkI fun v6 X5 h => ?_) (kxN KrI.no)
  refine aw_widen (cc' := cc + 2) (ss' := ss + 12) (Nat.le_refl _) (Nat.le_refl _) ?_
  refine aw_istore 2500 (lv' := [(6, _), (0, _), (1, _), (2, _), (3, _), (4, _), (5, _)]) dL_law_2498 (ltb rfl) rfl rfl ?_
  refine aw_aload_n 2501 dL_law_2500 rfl 3 rfl rfl ?_
  refine aw_aload_n 2502 dL_law_2501 rfl 1 rfl rfl ?_
  refine aw_iload 2504 dL_law_2502 6 rfl rfl ?_
  refine aw_iconst 2505 (v := 1) dL_law_2504 kI_1 rfl ?_
  refine aw_iadd 2506 dL_law_2505 rfl ?_
  obtain ⟨g7, h⟩ := h
  refine aw_sld 2507 dL_law_2506 g7 rfl ?_
  refine aw_aload_n 2508 dL_law_2507 rfl 1 rfl rfl ?_
  refine aw_iload 2510 dL_law_2508 6 rfl rfl ?_
  refine aw_iconst 2511 (v := 2) dL_law_2510 kI_2 rfl ?_
  refine aw_iadd 2512 dL_law_2511 rfl ?_
  obtain ⟨g8, h⟩ := h
  refine aw_sld 2513 dL_law_2512 g8 rfl ?_
  obtain ⟨g9, h⟩ := h
  obtain ⟨g10, h⟩ := h
  obtain ⟨g13, h⟩ := h
  refine aw_callV (M' := M_X5_framesOfVoice) 2516 318 5 l2 [.int _, .int _] [] dL_law_2513 lk_RL_318 mv_X5_framesOfVoice mp_X5_framesOfVoice rfl ⟨leb rfl, leb rfl⟩ rfl (ltb rfl) g13 rfl (leb rfl) g9 g10 rfl (am_X5_framesOfVoice hG h) (kkI fun v12 X11 h => ?_) (kxN KrI.no)
  refine aw_widen (cc' := cc + 2) (ss' := ss + 12) (Nat.le_refl _) (Nat.le_refl _) ?_
  refine aw_istore 2518 (lv' := [(7, _), (6, _), (0, _), (1, _), (2, _), (3, _), (4, _), (5, _)]) dL_law_2516 (ltb rfl) rfl rfl ?_
  refine aw_aload_n 2519 dL_law_2518 rfl 4 rfl rfl ?_
  obtain ⟨g14, h⟩ := h
  obtain ⟨g15, h⟩ := h
  obtain ⟨g18, h⟩ := h
  refine aw_callV (M' := M_X5_thrown) 2522 196 5 l2 [] [] dL_law_2519 lk_RL_196 mv_X5_thrown mp_X5_thrown rfl ⟨leb rfl, leb rfl⟩ rfl (ltb rfl) g18 rfl (leb rfl) g14 g15 rfl (am_X5_thrown hG h) (kkI fun v17 X16 h => ?_) (kxN KrI.no)
  refine aw_widen (cc' := cc + 2) (ss' := ss + 12) (Nat.le_refl _) (Nat.le_refl _) ?_
  refine aw_iload 2524 dL_law_2522 1 rfl rfl ?_
  refine aw_icmp_eq 2529 2527 dL_law_2524 rfl rfl (fun c19 => ?_) (fun c19 => ?_)
  · replace h := h.1 c19
    refine aw_iload 2531 dL_law_2529 1 rfl rfl ?_
    refine aw_if_ne 2546 2534 dL_law_2531 rfl rfl (fun c20 => ?_) (fun c20 => ?_)
    · replace h := h.1 c20
      refine aw_goto 3937 dL_law_2546 rfl ?_
      refine aw_iinc 3940 (v := 4) (lv' := [(5, _), (7, _), (6, _), (0, _), (1, _), (2, _), (3, _), (4, _)]) dL_law_3937 7 rfl kI_4 (ltb rfl) rfl rfl ?_
      refine aw_goto 28 dL_law_3940 rfl ?_
      exact aw_pick [3, 4, 5, 6, 7, 0] rfl (hO28 _ _ _ _ _ _ _ _ _ h)
    · replace h := h.2 c20
      refine aw_aload_n 2535 dL_law_2534 rfl 5 rfl rfl ?_
      refine aw_iconst 2536 (v := 0) dL_law_2535 kI_0 rfl ?_
      obtain ⟨g21, h⟩ := h
      obtain ⟨g22, h⟩ := h
      refine aw_laload 2537 dL_law_2536 g21 g22 rfl ?_
      refine aw_iload 2539 dL_law_2537 0 rfl rfl ?_
      refine aw_i2l 2540 dL_law_2539 rfl ?_
      refine aw_lcmp 2541 dL_law_2540 rfl ?_
      refine aw_if_eq 2546 2544 dL_law_2541 rfl rfl (fun c23 => ?_) (fun c23 => ?_)
      · replace h := h.1 c23
        refine aw_goto 3937 dL_law_2546 rfl ?_
        refine aw_iinc 3940 (v := 4) (lv' := [(5, _), (7, _), (6, _), (0, _), (1, _), (2, _), (3, _), (4, _)]) dL_law_3937 7 rfl kI_4 (ltb rfl) rfl rfl ?_
        refine aw_goto 28 dL_law_3940 rfl ?_
        exact aw_pick [3, 4, 5, 6, 7, 0] rfl (hO28 _ _ _ _ _ _ _ _ _ h)
      · replace h := h.2 c23
        refine aw_iconst 2545 (v := 0) dL_law_2544 kI_0 rfl ?_
        obtain ⟨g24, h⟩ := h
        obtain ⟨g25, h⟩ := h
        exact aw_ireturn (ty := .boolean) dL_law_2545 rfl rfl g24 g25 ⟨_, rfl, h⟩
  · replace h := h.2 c19
    refine aw_iconst 2528 (v := 0) dL_law_2527 kI_0 rfl ?_
    obtain ⟨g26, h⟩ := h
    obtain ⟨g27, h⟩ := h
    exact aw_ireturn (ty := .boolean) dL_law_2528 rfl rfl g26 g27 ⟨_, rfl, h⟩
set_option maxRecDepth 20000 in
theorem aw_L_law_2549 {G : GG} (hG : G.1.stackTraces = false) {P28 : Nat → Nat → Nat → Nat → Nat → Int32 → Nat → Nat → XH → Prop} {l0 : Nat} {l1 : Nat} {l2 : Nat} {l3 : Nat} {l4 : Nat} {l5 : Int32} {cc : Nat} {ss : Nat} {X : XH} {K : Int32 → XH → Prop} (hO28 : ∀ (l0 : Nat) (l1 : Nat) (l2 : Nat) (l3 : Nat) (l4 : Nat) (l5 : Int32) (cc : Nat) (ss : Nat) (X : XH), P28 l0 l1 l2 l3 l4 l5 cc ss X → AW G M_L_law 28 [(0, .ref 0), (1, .ref l1), (2, .ref l2), (3, .ref l3), (4, .ref l4), (5, .int l5)] [] X cc ss (KrI K)) (h : w_L_law_2549 G P28 l0 l1 l2 l3 l4 l5 cc ss X K) : AW G M_L_law 2549 [(0, .ref 0), (1, .ref l1), (2, .ref l2), (3, .ref l3), (4, .ref l4), (5, .int l5)] [] X cc ss (KrI K) := by
  unfold w_L_law_2549 at h
  refine aw_aload_n 2550 dL_law_2549 rfl 1 rfl rfl ?_
  refine aw_aload_n 2551 dL_law_2550 rfl 0 rfl rfl ?_
  refine aw_iload 2553 dL_law_2551 5 rfl rfl ?_
  refine aw_iconst 2554 (v := 1) dL_law_2553 kI_1 rfl ?_
  refine aw_iadd 2555 dL_law_2554 rfl ?_
  obtain ⟨g1, h⟩ := h
  refine aw_sld 2556 dL_law_2555 g1 rfl ?_
  refine aw_aload_n 2557 dL_law_2556 rfl 0 rfl rfl ?_
  refine aw_iload 2559 dL_law_2557 5 rfl rfl ?_
  refine aw_iconst 2560 (v := 2) dL_law_2559 kI_2 rfl ?_
  refine aw_iadd 2561 dL_law_2560 rfl ?_
  obtain ⟨g2, h⟩ := h
  refine aw_sld 2562 dL_law_2561 g2 rfl ?_
  refine aw_aload_n 2563 dL_law_2562 rfl 3 rfl rfl ?_
  obtain ⟨g3, h⟩ := h
  obtain ⟨g4, h⟩ := h
  refine aw_callSX (M' := M_L_sessionsByGoing) 2566 319 [.ref _, .int _, .int _, .ref _] [] dL_law_2563 lk_RL_319 ms_L_sessionsByGoing mp_L_sessionsByGoing (0, 10, 13, 13) [(0, 10, 17, 17)] rfl ⟨leb rfl, leb rfl⟩ rfl (leb rfl) g3 g4 rfl (am_L_sessionsByGoing hG h) (kkI fun v6 X5 h => ?_) (kxN KrI.no)
  refine aw_widen (cc' := cc + 3) (ss' := ss + 18) (Nat.le_refl _) (Nat.le_refl _) ?_
  refine aw_istore 2568 (lv' := [(6, _), (0, _), (1, _), (2, _), (3, _), (4, _), (5, _)]) dL_law_2566 (ltb rfl) rfl rfl ?_
  refine aw_aload_n 2569 dL_law_2568 rfl 3 rfl rfl ?_
  refine aw_aload_n 2570 dL_law_2569 rfl 1 rfl rfl ?_
  refine aw_iload 2572 dL_law_2570 6 rfl rfl ?_
  refine aw_iconst 2573 (v := 1) dL_law_2572 kI_1 rfl ?_
  refine aw_iadd 2574 dL_law_2573 rfl ?_
  obtain ⟨g7, h⟩ := h
  refine aw_sld 2575 dL_law_2574 g7 rfl ?_
  refine aw_aload_n 2576 dL_law_2575 rfl 1 rfl rfl ?_
  refine aw_iload 2578 dL_law_2576 6 rfl rfl ?_
  refine aw_iconst 2579 (v := 2) dL_law_2578 kI_2 rfl ?_
  refine aw_iadd 2580 dL_law_2579 rfl ?_
  obtain ⟨g8, h⟩ := h
  refine aw_sld 2581 dL_law_2580 g8 rfl ?_
  obtain ⟨g9, h⟩ := h
  obtain ⟨g10, h⟩ := h
  obtain ⟨g13, h⟩ := h
  refine aw_callV (M' := M_X5_sessionsByGoing) 2584 321 5 l2 [.int _, .int _] [] dL_law_2581 lk_RL_321 mv_X5_sessionsByGoing mp_X5_sessionsByGoing rfl ⟨leb rfl, leb rfl⟩ rfl (ltb rfl) g13 rfl (leb rfl) g9 g10 rfl (am_X5_sessionsByGoing hG h) (kkI fun v12 X11 h => ?_) (kxN KrI.no)
  refine aw_widen (cc' := cc + 3) (ss' := ss + 18) (Nat.le_refl _) (Nat.le_refl _) ?_
  refine aw_istore 2586 (lv' := [(7, _), (6, _), (0, _), (1, _), (2, _), (3, _), (4, _), (5, _)]) dL_law_2584 (ltb rfl) rfl rfl ?_
  refine aw_aload_n 2587 dL_law_2586 rfl 4 rfl rfl ?_
  obtain ⟨g14, h⟩ := h
  obtain ⟨g15, h⟩ := h
  obtain ⟨g18, h⟩ := h
  refine aw_callV (M' := M_X5_thrown) 2590 196 5 l2 [] [] dL_law_2587 lk_RL_196 mv_X5_thrown mp_X5_thrown rfl ⟨leb rfl, leb rfl⟩ rfl (ltb rfl) g18 rfl (leb rfl) g14 g15 rfl (am_X5_thrown hG h) (kkI fun v17 X16 h => ?_) (kxN KrI.no)
  refine aw_widen (cc' := cc + 3) (ss' := ss + 18) (Nat.le_refl _) (Nat.le_refl _) ?_
  refine aw_iload 2592 dL_law_2590 1 rfl rfl ?_
  refine aw_icmp_eq 2597 2595 dL_law_2592 rfl rfl (fun c19 => ?_) (fun c19 => ?_)
  · replace h := h.1 c19
    refine aw_iload 2599 dL_law_2597 1 rfl rfl ?_
    refine aw_if_ne 2614 2602 dL_law_2599 rfl rfl (fun c20 => ?_) (fun c20 => ?_)
    · replace h := h.1 c20
      refine aw_goto 3937 dL_law_2614 rfl ?_
      refine aw_iinc 3940 (v := 4) (lv' := [(5, _), (7, _), (6, _), (0, _), (1, _), (2, _), (3, _), (4, _)]) dL_law_3937 7 rfl kI_4 (ltb rfl) rfl rfl ?_
      refine aw_goto 28 dL_law_3940 rfl ?_
      exact aw_pick [3, 4, 5, 6, 7, 0] rfl (hO28 _ _ _ _ _ _ _ _ _ h)
    · replace h := h.2 c20
      refine aw_aload_n 2603 dL_law_2602 rfl 5 rfl rfl ?_
      refine aw_iconst 2604 (v := 0) dL_law_2603 kI_0 rfl ?_
      obtain ⟨g21, h⟩ := h
      obtain ⟨g22, h⟩ := h
      refine aw_laload 2605 dL_law_2604 g21 g22 rfl ?_
      refine aw_iload 2607 dL_law_2605 0 rfl rfl ?_
      refine aw_i2l 2608 dL_law_2607 rfl ?_
      refine aw_lcmp 2609 dL_law_2608 rfl ?_
      refine aw_if_eq 2614 2612 dL_law_2609 rfl rfl (fun c23 => ?_) (fun c23 => ?_)
      · replace h := h.1 c23
        refine aw_goto 3937 dL_law_2614 rfl ?_
        refine aw_iinc 3940 (v := 4) (lv' := [(5, _), (7, _), (6, _), (0, _), (1, _), (2, _), (3, _), (4, _)]) dL_law_3937 7 rfl kI_4 (ltb rfl) rfl rfl ?_
        refine aw_goto 28 dL_law_3940 rfl ?_
        exact aw_pick [3, 4, 5, 6, 7, 0] rfl (hO28 _ _ _ _ _ _ _ _ _ h)
      · replace h := h.2 c23
        refine aw_iconst 2613 (v := 0) dL_law_2612 kI_0 rfl ?_
        obtain ⟨g24, h⟩ := h
        obtain ⟨g25, h⟩ := h
        exact aw_ireturn (ty := .boolean) dL_law_2613 rfl rfl g24 g25 ⟨_, rfl, h⟩
  · replace h := h.2 c19
    refine aw_iconst 2596 (v := 0) dL_law_2595 kI_0 rfl ?_
    obtain ⟨g26, h⟩ := h
    obtain ⟨g27, h⟩ := h
    exact aw_ireturn (ty := .boolean) dL_law_2596 rfl rfl g26 g27 ⟨_, rfl, h⟩
set_option maxRecDepth 20000 in
theorem aw_L_law_2617 {G : GG} (hG : G.1.stackTraces = false) {P28 : Nat → Nat → Nat → Nat → Nat → Int32 → Nat → Nat → XH → Prop} {l0 : Nat} {l1 : Nat} {l2 : Nat} {l3 : Nat} {l4 : Nat} {l5 : Int32} {cc : Nat} {ss : Nat} {X : XH} {K : Int32 → XH → Prop} (hO28 : ∀ (l0 : Nat) (l1 : Nat) (l2 : Nat) (l3 : Nat) (l4 : Nat) (l5 : Int32) (cc : Nat) (ss : Nat) (X : XH), P28 l0 l1 l2 l3 l4 l5 cc ss X → AW G M_L_law 28 [(0, .ref 0), (1, .ref l1), (2, .ref l2), (3, .ref l3), (4, .ref l4), (5, .int l5)] [] X cc ss (KrI K)) (h : w_L_law_2617 G P28 l0 l1 l2 l3 l4 l5 cc ss X K) : AW G M_L_law 2617 [(0, .ref 0), (1, .ref l1), (2, .ref l2), (3, .ref l3), (4, .ref l4), (5, .int l5)] [] X cc ss (KrI K) := by
  unfold w_L_law_2617 at h
  refine aw_aload_n 2618 dL_law_2617 rfl 1 rfl rfl ?_
  refine aw_aload_n 2619 dL_law_2618 rfl 0 rfl rfl ?_
  refine aw_iload 2621 dL_law_2619 5 rfl rfl ?_
  refine aw_iconst 2622 (v := 1) dL_law_2621 kI_1 rfl ?_
  refine aw_iadd 2623 dL_law_2622 rfl ?_
  obtain ⟨g1, h⟩ := h
  refine aw_sld 2624 dL_law_2623 g1 rfl ?_
  refine aw_aload_n 2625 dL_law_2624 rfl 0 rfl rfl ?_
  refine aw_iload 2627 dL_law_2625 5 rfl rfl ?_
  refine aw_iconst 2628 (v := 2) dL_law_2627 kI_2 rfl ?_
  refine aw_iadd 2629 dL_law_2628 rfl ?_
  obtain ⟨g2, h⟩ := h
  refine aw_sld 2630 dL_law_2629 g2 rfl ?_
  refine aw_aload_n 2631 dL_law_2630 rfl 3 rfl rfl ?_
  obtain ⟨g3, h⟩ := h
  obtain ⟨g4, h⟩ := h
  refine aw_callSX (M' := M_L_sessionsByTable) 2634 322 [.ref _, .int _, .int _, .ref _] [] dL_law_2631 lk_RL_322 ms_L_sessionsByTable mp_L_sessionsByTable (0, 10, 13, 13) [(0, 10, 17, 17)] rfl ⟨leb rfl, leb rfl⟩ rfl (leb rfl) g3 g4 rfl (am_L_sessionsByTable hG h) (kkI fun v6 X5 h => ?_) (kxN KrI.no)
  refine aw_widen (cc' := cc + 3) (ss' := ss + 18) (Nat.le_refl _) (Nat.le_refl _) ?_
  refine aw_istore 2636 (lv' := [(6, _), (0, _), (1, _), (2, _), (3, _), (4, _), (5, _)]) dL_law_2634 (ltb rfl) rfl rfl ?_
  refine aw_aload_n 2637 dL_law_2636 rfl 3 rfl rfl ?_
  refine aw_aload_n 2638 dL_law_2637 rfl 1 rfl rfl ?_
  refine aw_iload 2640 dL_law_2638 6 rfl rfl ?_
  refine aw_iconst 2641 (v := 1) dL_law_2640 kI_1 rfl ?_
  refine aw_iadd 2642 dL_law_2641 rfl ?_
  obtain ⟨g7, h⟩ := h
  refine aw_sld 2643 dL_law_2642 g7 rfl ?_
  refine aw_aload_n 2644 dL_law_2643 rfl 1 rfl rfl ?_
  refine aw_iload 2646 dL_law_2644 6 rfl rfl ?_
  refine aw_iconst 2647 (v := 2) dL_law_2646 kI_2 rfl ?_
  refine aw_iadd 2648 dL_law_2647 rfl ?_
  obtain ⟨g8, h⟩ := h
  refine aw_sld 2649 dL_law_2648 g8 rfl ?_
  obtain ⟨g9, h⟩ := h
  obtain ⟨g10, h⟩ := h
  obtain ⟨g13, h⟩ := h
  refine aw_callV (M' := M_X5_sessionsByTable) 2652 324 5 l2 [.int _, .int _] [] dL_law_2649 lk_RL_324 mv_X5_sessionsByTable mp_X5_sessionsByTable rfl ⟨leb rfl, leb rfl⟩ rfl (ltb rfl) g13 rfl (leb rfl) g9 g10 rfl (am_X5_sessionsByTable hG h) (kkI fun v12 X11 h => ?_) (kxN KrI.no)
  refine aw_widen (cc' := cc + 3) (ss' := ss + 18) (Nat.le_refl _) (Nat.le_refl _) ?_
  refine aw_istore 2654 (lv' := [(7, _), (6, _), (0, _), (1, _), (2, _), (3, _), (4, _), (5, _)]) dL_law_2652 (ltb rfl) rfl rfl ?_
  refine aw_aload_n 2655 dL_law_2654 rfl 4 rfl rfl ?_
  obtain ⟨g14, h⟩ := h
  obtain ⟨g15, h⟩ := h
  obtain ⟨g18, h⟩ := h
  refine aw_callV (M' := M_X5_thrown) 2658 196 5 l2 [] [] dL_law_2655 lk_RL_196 mv_X5_thrown mp_X5_thrown rfl ⟨leb rfl, leb rfl⟩ rfl (ltb rfl) g18 rfl (leb rfl) g14 g15 rfl (am_X5_thrown hG h) (kkI fun v17 X16 h => ?_) (kxN KrI.no)
  refine aw_widen (cc' := cc + 3) (ss' := ss + 18) (Nat.le_refl _) (Nat.le_refl _) ?_
  refine aw_iload 2660 dL_law_2658 1 rfl rfl ?_
  refine aw_icmp_eq 2665 2663 dL_law_2660 rfl rfl (fun c19 => ?_) (fun c19 => ?_)
  · replace h := h.1 c19
    refine aw_iload 2667 dL_law_2665 1 rfl rfl ?_
    refine aw_if_ne 2682 2670 dL_law_2667 rfl rfl (fun c20 => ?_) (fun c20 => ?_)
    · replace h := h.1 c20
      refine aw_goto 3937 dL_law_2682 rfl ?_
      refine aw_iinc 3940 (v := 4) (lv' := [(5, _), (7, _), (6, _), (0, _), (1, _), (2, _), (3, _), (4, _)]) dL_law_3937 7 rfl kI_4 (ltb rfl) rfl rfl ?_
      refine aw_goto 28 dL_law_3940 rfl ?_
      exact aw_pick [3, 4, 5, 6, 7, 0] rfl (hO28 _ _ _ _ _ _ _ _ _ h)
    · replace h := h.2 c20
      refine aw_aload_n 2671 dL_law_2670 rfl 5 rfl rfl ?_
      refine aw_iconst 2672 (v := 0) dL_law_2671 kI_0 rfl ?_
      obtain ⟨g21, h⟩ := h
      obtain ⟨g22, h⟩ := h
      refine aw_laload 2673 dL_law_2672 g21 g22 rfl ?_
      refine aw_iload 2675 dL_law_2673 0 rfl rfl ?_
      refine aw_i2l 2676 dL_law_2675 rfl ?_
      refine aw_lcmp 2677 dL_law_2676 rfl ?_
      refine aw_if_eq 2682 2680 dL_law_2677 rfl rfl (fun c23 => ?_) (fun c23 => ?_)
      · replace h := h.1 c23
        refine aw_goto 3937 dL_law_2682 rfl ?_
        refine aw_iinc 3940 (v := 4) (lv' := [(5, _), (7, _), (6, _), (0, _), (1, _), (2, _), (3, _), (4, _)]) dL_law_3937 7 rfl kI_4 (ltb rfl) rfl rfl ?_
        refine aw_goto 28 dL_law_3940 rfl ?_
        exact aw_pick [3, 4, 5, 6, 7, 0] rfl (hO28 _ _ _ _ _ _ _ _ _ h)
      · replace h := h.2 c23
        refine aw_iconst 2681 (v := 0) dL_law_2680 kI_0 rfl ?_
        obtain ⟨g24, h⟩ := h
        obtain ⟨g25, h⟩ := h
        exact aw_ireturn (ty := .boolean) dL_law_2681 rfl rfl g24 g25 ⟨_, rfl, h⟩
  · replace h := h.2 c19
    refine aw_iconst 2664 (v := 0) dL_law_2663 kI_0 rfl ?_
    obtain ⟨g26, h⟩ := h
    obtain ⟨g27, h⟩ := h
    exact aw_ireturn (ty := .boolean) dL_law_2664 rfl rfl g26 g27 ⟨_, rfl, h⟩
set_option maxRecDepth 20000 in
theorem aw_L_law_2685 {G : GG} (hG : G.1.stackTraces = false) {P28 : Nat → Nat → Nat → Nat → Nat → Int32 → Nat → Nat → XH → Prop} {l0 : Nat} {l1 : Nat} {l2 : Nat} {l3 : Nat} {l4 : Nat} {l5 : Int32} {cc : Nat} {ss : Nat} {X : XH} {K : Int32 → XH → Prop} (hO28 : ∀ (l0 : Nat) (l1 : Nat) (l2 : Nat) (l3 : Nat) (l4 : Nat) (l5 : Int32) (cc : Nat) (ss : Nat) (X : XH), P28 l0 l1 l2 l3 l4 l5 cc ss X → AW G M_L_law 28 [(0, .ref 0), (1, .ref l1), (2, .ref l2), (3, .ref l3), (4, .ref l4), (5, .int l5)] [] X cc ss (KrI K)) (h : w_L_law_2685 G P28 l0 l1 l2 l3 l4 l5 cc ss X K) : AW G M_L_law 2685 [(0, .ref 0), (1, .ref l1), (2, .ref l2), (3, .ref l3), (4, .ref l4), (5, .int l5)] [] X cc ss (KrI K) := by
  unfold w_L_law_2685 at h
  refine aw_aload_n 2686 dL_law_2685 rfl 1 rfl rfl ?_
  refine aw_aload_n 2687 dL_law_2686 rfl 0 rfl rfl ?_
  refine aw_iload 2689 dL_law_2687 5 rfl rfl ?_
  refine aw_iconst 2690 (v := 1) dL_law_2689 kI_1 rfl ?_
  refine aw_iadd 2691 dL_law_2690 rfl ?_
  obtain ⟨g1, h⟩ := h
  refine aw_sld 2692 dL_law_2691 g1 rfl ?_
  refine aw_aload_n 2693 dL_law_2692 rfl 3 rfl rfl ?_
  obtain ⟨g2, h⟩ := h
  obtain ⟨g3, h⟩ := h
  refine aw_callSX (M' := M_L_clausesIn) 2696 325 [.ref _, .int _, .ref _] [] dL_law_2693 lk_RL_325 ms_L_clausesIn mp_L_clausesIn (0, 9, 12, 13) [] rfl ⟨leb rfl, leb rfl⟩ rfl (leb rfl) g2 g3 rfl (am_L_clausesIn hG h) (kkI fun v5 X4 h => ?_) (kxN KrI.no)
  refine aw_widen (cc' := cc + 1) (ss' := ss + 6) (Nat.le_refl _) (Nat.le_refl _) ?_
  refine aw_istore 2698 (lv' := [(6, _), (0, _), (1, _), (2, _), (3, _), (4, _), (5, _)]) dL_law_2696 (ltb rfl) rfl rfl ?_
  refine aw_aload_n 2699 dL_law_2698 rfl 3 rfl rfl ?_
  refine aw_aload_n 2700 dL_law_2699 rfl 1 rfl rfl ?_
  refine aw_iload 2702 dL_law_2700 6 rfl rfl ?_
  refine aw_iconst 2703 (v := 1) dL_law_2702 kI_1 rfl ?_
  refine aw_iadd 2704 dL_law_2703 rfl ?_
  obtain ⟨g6, h⟩ := h
  refine aw_sld 2705 dL_law_2704 g6 rfl ?_
  obtain ⟨g7, h⟩ := h
  obtain ⟨g8, h⟩ := h
  obtain ⟨g11, h⟩ := h
  refine aw_callV (M' := M_X5_clausesIn) 2708 327 5 l2 [.int _] [] dL_law_2705 lk_RL_327 mv_X5_clausesIn mp_X5_clausesIn rfl ⟨leb rfl, leb rfl⟩ rfl (ltb rfl) g11 rfl (leb rfl) g7 g8 rfl (am_X5_clausesIn hG h) (kkI fun v10 X9 h => ?_) (kxN KrI.no)
  refine aw_widen (cc' := cc + 1) (ss' := ss + 6) (Nat.le_refl _) (Nat.le_refl _) ?_
  refine aw_istore 2710 (lv' := [(7, _), (6, _), (0, _), (1, _), (2, _), (3, _), (4, _), (5, _)]) dL_law_2708 (ltb rfl) rfl rfl ?_
  refine aw_aload_n 2711 dL_law_2710 rfl 4 rfl rfl ?_
  obtain ⟨g12, h⟩ := h
  obtain ⟨g13, h⟩ := h
  obtain ⟨g16, h⟩ := h
  refine aw_callV (M' := M_X5_thrown) 2714 196 5 l2 [] [] dL_law_2711 lk_RL_196 mv_X5_thrown mp_X5_thrown rfl ⟨leb rfl, leb rfl⟩ rfl (ltb rfl) g16 rfl (leb rfl) g12 g13 rfl (am_X5_thrown hG h) (kkI fun v15 X14 h => ?_) (kxN KrI.no)
  refine aw_widen (cc' := cc + 1) (ss' := ss + 6) (Nat.le_refl _) (Nat.le_refl _) ?_
  refine aw_iload 2716 dL_law_2714 1 rfl rfl ?_
  refine aw_icmp_eq 2721 2719 dL_law_2716 rfl rfl (fun c17 => ?_) (fun c17 => ?_)
  · replace h := h.1 c17
    refine aw_iload 2723 dL_law_2721 1 rfl rfl ?_
    refine aw_if_ne 2738 2726 dL_law_2723 rfl rfl (fun c18 => ?_) (fun c18 => ?_)
    · replace h := h.1 c18
      refine aw_goto 3937 dL_law_2738 rfl ?_
      refine aw_iinc 3940 (v := 4) (lv' := [(5, _), (7, _), (6, _), (0, _), (1, _), (2, _), (3, _), (4, _)]) dL_law_3937 7 rfl kI_4 (ltb rfl) rfl rfl ?_
      refine aw_goto 28 dL_law_3940 rfl ?_
      exact aw_pick [3, 4, 5, 6, 7, 0] rfl (hO28 _ _ _ _ _ _ _ _ _ h)
    · replace h := h.2 c18
      refine aw_aload_n 2727 dL_law_2726 rfl 5 rfl rfl ?_
      refine aw_iconst 2728 (v := 0) dL_law_2727 kI_0 rfl ?_
      obtain ⟨g19, h⟩ := h
      obtain ⟨g20, h⟩ := h
      refine aw_laload 2729 dL_law_2728 g19 g20 rfl ?_
      refine aw_iload 2731 dL_law_2729 0 rfl rfl ?_
      refine aw_i2l 2732 dL_law_2731 rfl ?_
      refine aw_lcmp 2733 dL_law_2732 rfl ?_
      refine aw_if_eq 2738 2736 dL_law_2733 rfl rfl (fun c21 => ?_) (fun c21 => ?_)
      · replace h := h.1 c21
        refine aw_goto 3937 dL_law_2738 rfl ?_
        refine aw_iinc 3940 (v := 4) (lv' := [(5, _), (7, _), (6, _), (0, _), (1, _), (2, _), (3, _), (4, _)]) dL_law_3937 7 rfl kI_4 (ltb rfl) rfl rfl ?_
        refine aw_goto 28 dL_law_3940 rfl ?_
        exact aw_pick [3, 4, 5, 6, 7, 0] rfl (hO28 _ _ _ _ _ _ _ _ _ h)
      · replace h := h.2 c21
        refine aw_iconst 2737 (v := 0) dL_law_2736 kI_0 rfl ?_
        obtain ⟨g22, h⟩ := h
        obtain ⟨g23, h⟩ := h
        exact aw_ireturn (ty := .boolean) dL_law_2737 rfl rfl g22 g23 ⟨_, rfl, h⟩
  · replace h := h.2 c17
    refine aw_iconst 2720 (v := 0) dL_law_2719 kI_0 rfl ?_
    obtain ⟨g24, h⟩ := h
    obtain ⟨g25, h⟩ := h
    exact aw_ireturn (ty := .boolean) dL_law_2720 rfl rfl g24 g25 ⟨_, rfl, h⟩
set_option maxRecDepth 20000 in
theorem aw_L_law_2741 {G : GG} (hG : G.1.stackTraces = false) {P28 : Nat → Nat → Nat → Nat → Nat → Int32 → Nat → Nat → XH → Prop} {l0 : Nat} {l1 : Nat} {l2 : Nat} {l3 : Nat} {l4 : Nat} {l5 : Int32} {cc : Nat} {ss : Nat} {X : XH} {K : Int32 → XH → Prop} (hO28 : ∀ (l0 : Nat) (l1 : Nat) (l2 : Nat) (l3 : Nat) (l4 : Nat) (l5 : Int32) (cc : Nat) (ss : Nat) (X : XH), P28 l0 l1 l2 l3 l4 l5 cc ss X → AW G M_L_law 28 [(0, .ref 0), (1, .ref l1), (2, .ref l2), (3, .ref l3), (4, .ref l4), (5, .int l5)] [] X cc ss (KrI K)) (h : w_L_law_2741 G P28 l0 l1 l2 l3 l4 l5 cc ss X K) : AW G M_L_law 2741 [(0, .ref 0), (1, .ref l1), (2, .ref l2), (3, .ref l3), (4, .ref l4), (5, .int l5)] [] X cc ss (KrI K) := by
  unfold w_L_law_2741 at h
  refine aw_aload_n 2742 dL_law_2741 rfl 1 rfl rfl ?_
  refine aw_aload_n 2743 dL_law_2742 rfl 0 rfl rfl ?_
  refine aw_iload 2745 dL_law_2743 5 rfl rfl ?_
  refine aw_iconst 2746 (v := 1) dL_law_2745 kI_1 rfl ?_
  refine aw_iadd 2747 dL_law_2746 rfl ?_
  obtain ⟨g1, h⟩ := h
  refine aw_sld 2748 dL_law_2747 g1 rfl ?_
  refine aw_aload_n 2749 dL_law_2748 rfl 3 rfl rfl ?_
  obtain ⟨g2, h⟩ := h
  obtain ⟨g3, h⟩ := h
  refine aw_callSX (M' := M_L_lengthOf) 2752 328 [.ref _, .int _, .ref _] [] dL_law_2749 lk_RL_328 ms_L_lengthOf mp_L_lengthOf (0, 9, 12, 13) [] rfl ⟨leb rfl, leb rfl⟩ rfl (leb rfl) g2 g3 rfl (am_L_lengthOf hG h) (kkI fun v5 X4 h => ?_) (kxN KrI.no)
  refine aw_widen (cc' := cc + 1) (ss' := ss + 6) (Nat.le_refl _) (Nat.le_refl _) ?_
  refine aw_istore 2754 (lv' := [(6, _), (0, _), (1, _), (2, _), (3, _), (4, _), (5, _)]) dL_law_2752 (ltb rfl) rfl rfl ?_
  refine aw_aload_n 2755 dL_law_2754 rfl 3 rfl rfl ?_
  refine aw_aload_n 2756 dL_law_2755 rfl 1 rfl rfl ?_
  refine aw_iload 2758 dL_law_2756 6 rfl rfl ?_
  refine aw_iconst 2759 (v := 1) dL_law_2758 kI_1 rfl ?_
  refine aw_iadd 2760 dL_law_2759 rfl ?_
  obtain ⟨g6, h⟩ := h
  refine aw_sld 2761 dL_law_2760 g6 rfl ?_
  obtain ⟨g7, h⟩ := h
  obtain ⟨g8, h⟩ := h
  obtain ⟨g11, h⟩ := h
  refine aw_callV (M' := M_X5_lengthOf) 2764 330 5 l2 [.int _] [] dL_law_2761 lk_RL_330 mv_X5_lengthOf mp_X5_lengthOf rfl ⟨leb rfl, leb rfl⟩ rfl (ltb rfl) g11 rfl (leb rfl) g7 g8 rfl (am_X5_lengthOf hG h) (kkI fun v10 X9 h => ?_) (kxN KrI.no)
  refine aw_widen (cc' := cc + 1) (ss' := ss + 6) (Nat.le_refl _) (Nat.le_refl _) ?_
  refine aw_istore 2766 (lv' := [(7, _), (6, _), (0, _), (1, _), (2, _), (3, _), (4, _), (5, _)]) dL_law_2764 (ltb rfl) rfl rfl ?_
  refine aw_aload_n 2767 dL_law_2766 rfl 4 rfl rfl ?_
  obtain ⟨g12, h⟩ := h
  obtain ⟨g13, h⟩ := h
  obtain ⟨g16, h⟩ := h
  refine aw_callV (M' := M_X5_thrown) 2770 196 5 l2 [] [] dL_law_2767 lk_RL_196 mv_X5_thrown mp_X5_thrown rfl ⟨leb rfl, leb rfl⟩ rfl (ltb rfl) g16 rfl (leb rfl) g12 g13 rfl (am_X5_thrown hG h) (kkI fun v15 X14 h => ?_) (kxN KrI.no)
  refine aw_widen (cc' := cc + 1) (ss' := ss + 6) (Nat.le_refl _) (Nat.le_refl _) ?_
  refine aw_iload 2772 dL_law_2770 1 rfl rfl ?_
  refine aw_icmp_eq 2777 2775 dL_law_2772 rfl rfl (fun c17 => ?_) (fun c17 => ?_)
  · replace h := h.1 c17
    refine aw_iload 2779 dL_law_2777 1 rfl rfl ?_
    refine aw_if_ne 2794 2782 dL_law_2779 rfl rfl (fun c18 => ?_) (fun c18 => ?_)
    · replace h := h.1 c18
      refine aw_goto 3937 dL_law_2794 rfl ?_
      refine aw_iinc 3940 (v := 4) (lv' := [(5, _), (7, _), (6, _), (0, _), (1, _), (2, _), (3, _), (4, _)]) dL_law_3937 7 rfl kI_4 (ltb rfl) rfl rfl ?_
      refine aw_goto 28 dL_law_3940 rfl ?_
      exact aw_pick [3, 4, 5, 6, 7, 0] rfl (hO28 _ _ _ _ _ _ _ _ _ h)
    · replace h := h.2 c18
      refine aw_aload_n 2783 dL_law_2782 rfl 5 rfl rfl ?_
      refine aw_iconst 2784 (v := 0) dL_law_2783 kI_0 rfl ?_
      obtain ⟨g19, h⟩ := h
      obtain ⟨g20, h⟩ := h
      refine aw_laload 2785 dL_law_2784 g19 g20 rfl ?_
      refine aw_iload 2787 dL_law_2785 0 rfl rfl ?_
      refine aw_i2l 2788 dL_law_2787 rfl ?_
      refine aw_lcmp 2789 dL_law_2788 rfl ?_
      refine aw_if_eq 2794 2792 dL_law_2789 rfl rfl (fun c21 => ?_) (fun c21 => ?_)
      · replace h := h.1 c21
        refine aw_goto 3937 dL_law_2794 rfl ?_
        refine aw_iinc 3940 (v := 4) (lv' := [(5, _), (7, _), (6, _), (0, _), (1, _), (2, _), (3, _), (4, _)]) dL_law_3937 7 rfl kI_4 (ltb rfl) rfl rfl ?_
        refine aw_goto 28 dL_law_3940 rfl ?_
        exact aw_pick [3, 4, 5, 6, 7, 0] rfl (hO28 _ _ _ _ _ _ _ _ _ h)
      · replace h := h.2 c21
        refine aw_iconst 2793 (v := 0) dL_law_2792 kI_0 rfl ?_
        obtain ⟨g22, h⟩ := h
        obtain ⟨g23, h⟩ := h
        exact aw_ireturn (ty := .boolean) dL_law_2793 rfl rfl g22 g23 ⟨_, rfl, h⟩
  · replace h := h.2 c17
    refine aw_iconst 2776 (v := 0) dL_law_2775 kI_0 rfl ?_
    obtain ⟨g24, h⟩ := h
    obtain ⟨g25, h⟩ := h
    exact aw_ireturn (ty := .boolean) dL_law_2776 rfl rfl g24 g25 ⟨_, rfl, h⟩
set_option maxRecDepth 20000 in
theorem aw_L_law_2797 {G : GG} (hG : G.1.stackTraces = false) {P28 : Nat → Nat → Nat → Nat → Nat → Int32 → Nat → Nat → XH → Prop} {l0 : Nat} {l1 : Nat} {l2 : Nat} {l3 : Nat} {l4 : Nat} {l5 : Int32} {cc : Nat} {ss : Nat} {X : XH} {K : Int32 → XH → Prop} (hO28 : ∀ (l0 : Nat) (l1 : Nat) (l2 : Nat) (l3 : Nat) (l4 : Nat) (l5 : Int32) (cc : Nat) (ss : Nat) (X : XH), P28 l0 l1 l2 l3 l4 l5 cc ss X → AW G M_L_law 28 [(0, .ref 0), (1, .ref l1), (2, .ref l2), (3, .ref l3), (4, .ref l4), (5, .int l5)] [] X cc ss (KrI K)) (h : w_L_law_2797 G P28 l0 l1 l2 l3 l4 l5 cc ss X K) : AW G M_L_law 2797 [(0, .ref 0), (1, .ref l1), (2, .ref l2), (3, .ref l3), (4, .ref l4), (5, .int l5)] [] X cc ss (KrI K) := by
  unfold w_L_law_2797 at h
  refine aw_aload_n 2798 dL_law_2797 rfl 1 rfl rfl ?_
  refine aw_aload_n 2799 dL_law_2798 rfl 0 rfl rfl ?_
  refine aw_iload 2801 dL_law_2799 5 rfl rfl ?_
  refine aw_iconst 2802 (v := 1) dL_law_2801 kI_1 rfl ?_
  refine aw_iadd 2803 dL_law_2802 rfl ?_
  obtain ⟨g1, h⟩ := h
  refine aw_sld 2804 dL_law_2803 g1 rfl ?_
  refine aw_aload_n 2805 dL_law_2804 rfl 0 rfl rfl ?_
  refine aw_iload 2807 dL_law_2805 5 rfl rfl ?_
  refine aw_iconst 2808 (v := 2) dL_law_2807 kI_2 rfl ?_
  refine aw_iadd 2809 dL_law_2808 rfl ?_
  obtain ⟨g2, h⟩ := h
  refine aw_sld 2810 dL_law_2809 g2 rfl ?_
  refine aw_aload_n 2811 dL_law_2810 rfl 3 rfl rfl ?_
  obtain ⟨g3, h⟩ := h
  obtain ⟨g4, h⟩ := h
  refine aw_callSX (M' := M_L_speaksIn) 2814 331 [.ref _, .int _, .int _, .ref _] [] dL_law_2811 lk_RL_331 ms_L_speaksIn mp_L_speaksIn (0, 17, 20, 13) [] rfl ⟨leb rfl, leb rfl⟩ rfl (leb rfl) g3 g4 rfl (am_L_speaksIn hG h) (kkI fun v6 X5 h => ?_) (kxN KrI.no)
  refine aw_widen (cc' := cc + 2) (ss' := ss + 12) (Nat.le_refl _) (Nat.le_refl _) ?_
  refine aw_istore 2816 (lv' := [(6, _), (0, _), (1, _), (2, _), (3, _), (4, _), (5, _)]) dL_law_2814 (ltb rfl) rfl rfl ?_
  refine aw_aload_n 2817 dL_law_2816 rfl 3 rfl rfl ?_
  refine aw_aload_n 2818 dL_law_2817 rfl 1 rfl rfl ?_
  refine aw_iload 2820 dL_law_2818 6 rfl rfl ?_
  refine aw_iconst 2821 (v := 1) dL_law_2820 kI_1 rfl ?_
  refine aw_iadd 2822 dL_law_2821 rfl ?_
  obtain ⟨g7, h⟩ := h
  refine aw_sld 2823 dL_law_2822 g7 rfl ?_
  refine aw_aload_n 2824 dL_law_2823 rfl 1 rfl rfl ?_
  refine aw_iload 2826 dL_law_2824 6 rfl rfl ?_
  refine aw_iconst 2827 (v := 2) dL_law_2826 kI_2 rfl ?_
  refine aw_iadd 2828 dL_law_2827 rfl ?_
  obtain ⟨g8, h⟩ := h
  refine aw_sld 2829 dL_law_2828 g8 rfl ?_
  obtain ⟨g9, h⟩ := h
  obtain ⟨g10, h⟩ := h
  obtain ⟨g13, h⟩ := h
  refine aw_callV (M' := M_X5_speaksIn) 2832 333 5 l2 [.int _, .int _] [] dL_law_2829 lk_RL_333 mv_X5_speaksIn mp_X5_speaksIn rfl ⟨leb rfl, leb rfl⟩ rfl (ltb rfl) g13 rfl (leb rfl) g9 g10 rfl (am_X5_speaksIn hG h) (kkI fun v12 X11 h => ?_) (kxN KrI.no)
  refine aw_widen (cc' := cc + 2) (ss' := ss + 12) (Nat.le_refl _) (Nat.le_refl _) ?_
  refine aw_istore 2834 (lv' := [(7, _), (6, _), (0, _), (1, _), (2, _), (3, _), (4, _), (5, _)]) dL_law_2832 (ltb rfl) rfl rfl ?_
  refine aw_aload_n 2835 dL_law_2834 rfl 4 rfl rfl ?_
  obtain ⟨g14, h⟩ := h
  obtain ⟨g15, h⟩ := h
  obtain ⟨g18, h⟩ := h
  refine aw_callV (M' := M_X5_thrown) 2838 196 5 l2 [] [] dL_law_2835 lk_RL_196 mv_X5_thrown mp_X5_thrown rfl ⟨leb rfl, leb rfl⟩ rfl (ltb rfl) g18 rfl (leb rfl) g14 g15 rfl (am_X5_thrown hG h) (kkI fun v17 X16 h => ?_) (kxN KrI.no)
  refine aw_widen (cc' := cc + 2) (ss' := ss + 12) (Nat.le_refl _) (Nat.le_refl _) ?_
  refine aw_iload 2840 dL_law_2838 1 rfl rfl ?_
  refine aw_icmp_eq 2845 2843 dL_law_2840 rfl rfl (fun c19 => ?_) (fun c19 => ?_)
  · replace h := h.1 c19
    refine aw_iload 2847 dL_law_2845 1 rfl rfl ?_
    refine aw_if_ne 2869 2850 dL_law_2847 rfl rfl (fun c20 => ?_) (fun c20 => ?_)
    · replace h := h.1 c20
      refine aw_goto 3937 dL_law_2869 rfl ?_
      refine aw_iinc 3940 (v := 4) (lv' := [(5, _), (7, _), (6, _), (0, _), (1, _), (2, _), (3, _), (4, _)]) dL_law_3937 7 rfl kI_4 (ltb rfl) rfl rfl ?_
      refine aw_goto 28 dL_law_3940 rfl ?_
      exact aw_pick [3, 4, 5, 6, 7, 0] rfl (hO28 _ _ _ _ _ _ _ _ _ h)
    · replace h := h.2 c20
      refine aw_aload_n 2851 dL_law_2850 rfl 5 rfl rfl ?_
      refine aw_iconst 2852 (v := 0) dL_law_2851 kI_0 rfl ?_
      obtain ⟨g21, h⟩ := h
      obtain ⟨g22, h⟩ := h
      refine aw_laload 2853 dL_law_2852 g21 g22 rfl ?_
      refine aw_iload 2855 dL_law_2853 0 rfl rfl ?_
      refine aw_if_eq 2862 2858 dL_law_2855 rfl rfl (fun c23 => ?_) (fun c23 => ?_)
      · replace h := h.1 c23
        refine aw_lconst 2863 (v := 0) dL_law_2862 kL_0 rfl ?_
        refine aw_lcmp 2864 dL_law_2863 rfl ?_
        refine aw_if_eq 2869 2867 dL_law_2864 rfl rfl (fun c24 => ?_) (fun c24 => ?_)
        · replace h := h.1 c24
          refine aw_goto 3937 dL_law_2869 rfl ?_
          refine aw_iinc 3940 (v := 4) (lv' := [(5, _), (7, _), (6, _), (0, _), (1, _), (2, _), (3, _), (4, _)]) dL_law_3937 7 rfl kI_4 (ltb rfl) rfl rfl ?_
          refine aw_goto 28 dL_law_3940 rfl ?_
          exact aw_pick [3, 4, 5, 6, 7, 0] rfl (hO28 _ _ _ _ _ _ _ _ _ h)
        · replace h := h.2 c24
          refine aw_iconst 2868 (v := 0) dL_law_2867 kI_0 rfl ?_
          obtain ⟨g25, h⟩ := h
          obtain ⟨g26, h⟩ := h
          exact aw_ireturn (ty := .boolean) dL_law_2868 rfl rfl g25 g26 ⟨_, rfl, h⟩
      · replace h := h.2 c23
        refine aw_lconst 2859 (v := 1) dL_law_2858 kL_1 rfl ?_
        refine aw_goto 2863 dL_law_2859 rfl ?_
        refine aw_lcmp 2864 dL_law_2863 rfl ?_
        refine aw_if_eq 2869 2867 dL_law_2864 rfl rfl (fun c27 => ?_) (fun c27 => ?_)
        · replace h := h.1 c27
          refine aw_goto 3937 dL_law_2869 rfl ?_
          refine aw_iinc 3940 (v := 4) (lv' := [(5, _), (7, _), (6, _), (0, _), (1, _), (2, _), (3, _), (4, _)]) dL_law_3937 7 rfl kI_4 (ltb rfl) rfl rfl ?_
          refine aw_goto 28 dL_law_3940 rfl ?_
          exact aw_pick [3, 4, 5, 6, 7, 0] rfl (hO28 _ _ _ _ _ _ _ _ _ h)
        · replace h := h.2 c27
          refine aw_iconst 2868 (v := 0) dL_law_2867 kI_0 rfl ?_
          obtain ⟨g28, h⟩ := h
          obtain ⟨g29, h⟩ := h
          exact aw_ireturn (ty := .boolean) dL_law_2868 rfl rfl g28 g29 ⟨_, rfl, h⟩
  · replace h := h.2 c19
    refine aw_iconst 2844 (v := 0) dL_law_2843 kI_0 rfl ?_
    obtain ⟨g30, h⟩ := h
    obtain ⟨g31, h⟩ := h
    exact aw_ireturn (ty := .boolean) dL_law_2844 rfl rfl g30 g31 ⟨_, rfl, h⟩
set_option maxRecDepth 20000 in
theorem aw_L_law_2872 {G : GG} (hG : G.1.stackTraces = false) {P28 : Nat → Nat → Nat → Nat → Nat → Int32 → Nat → Nat → XH → Prop} {l0 : Nat} {l1 : Nat} {l2 : Nat} {l3 : Nat} {l4 : Nat} {l5 : Int32} {cc : Nat} {ss : Nat} {X : XH} {K : Int32 → XH → Prop} (hO28 : ∀ (l0 : Nat) (l1 : Nat) (l2 : Nat) (l3 : Nat) (l4 : Nat) (l5 : Int32) (cc : Nat) (ss : Nat) (X : XH), P28 l0 l1 l2 l3 l4 l5 cc ss X → AW G M_L_law 28 [(0, .ref 0), (1, .ref l1), (2, .ref l2), (3, .ref l3), (4, .ref l4), (5, .int l5)] [] X cc ss (KrI K)) (h : w_L_law_2872 G P28 l0 l1 l2 l3 l4 l5 cc ss X K) : AW G M_L_law 2872 [(0, .ref 0), (1, .ref l1), (2, .ref l2), (3, .ref l3), (4, .ref l4), (5, .int l5)] [] X cc ss (KrI K) := by
  unfold w_L_law_2872 at h
  refine aw_aload_n 2873 dL_law_2872 rfl 1 rfl rfl ?_
  refine aw_aload_n 2874 dL_law_2873 rfl 0 rfl rfl ?_
  refine aw_iload 2876 dL_law_2874 5 rfl rfl ?_
  refine aw_iconst 2877 (v := 1) dL_law_2876 kI_1 rfl ?_
  refine aw_iadd 2878 dL_law_2877 rfl ?_
  obtain ⟨g1, h⟩ := h
  refine aw_sld 2879 dL_law_2878 g1 rfl ?_
  refine aw_aload_n 2880 dL_law_2879 rfl 0 rfl rfl ?_
  refine aw_iload 2882 dL_law_2880 5 rfl rfl ?_
  refine aw_iconst 2883 (v := 2) dL_law_2882 kI_2 rfl ?_
  refine aw_iadd 2884 dL_law_2883 rfl ?_
  obtain ⟨g2, h⟩ := h
  refine aw_sld 2885 dL_law_2884 g2 rfl ?_
  refine aw_aload_n 2886 dL_law_2885 rfl 3 rfl rfl ?_
  obtain ⟨g3, h⟩ := h
  obtain ⟨g4, h⟩ := h
  refine aw_callSX (M' := M_L_isComplete) 2889 334 [.ref _, .int _, .int _, .ref _] [] dL_law_2886 lk_RL_334 ms_L_isComplete mp_L_isComplete (0, 17, 20, 13) [] rfl ⟨leb rfl, leb rfl⟩ rfl (leb rfl) g3 g4 rfl (am_L_isComplete hG h) (kkI fun v6 X5 h => ?_) (kxN KrI.no)
  refine aw_widen (cc' := cc + 2) (ss' := ss + 12) (Nat.le_refl _) (Nat.le_refl _) ?_
  refine aw_istore 2891 (lv' := [(6, _), (0, _), (1, _), (2, _), (3, _), (4, _), (5, _)]) dL_law_2889 (ltb rfl) rfl rfl ?_
  refine aw_aload_n 2892 dL_law_2891 rfl 3 rfl rfl ?_
  refine aw_aload_n 2893 dL_law_2892 rfl 1 rfl rfl ?_
  refine aw_iload 2895 dL_law_2893 6 rfl rfl ?_
  refine aw_iconst 2896 (v := 1) dL_law_2895 kI_1 rfl ?_
  refine aw_iadd 2897 dL_law_2896 rfl ?_
  obtain ⟨g7, h⟩ := h
  refine aw_sld 2898 dL_law_2897 g7 rfl ?_
  refine aw_aload_n 2899 dL_law_2898 rfl 1 rfl rfl ?_
  refine aw_iload 2901 dL_law_2899 6 rfl rfl ?_
  refine aw_iconst 2902 (v := 2) dL_law_2901 kI_2 rfl ?_
  refine aw_iadd 2903 dL_law_2902 rfl ?_
  obtain ⟨g8, h⟩ := h
  refine aw_sld 2904 dL_law_2903 g8 rfl ?_
  obtain ⟨g9, h⟩ := h
  obtain ⟨g10, h⟩ := h
  obtain ⟨g13, h⟩ := h
  refine aw_callV (M' := M_X5_isComplete) 2907 336 5 l2 [.int _, .int _] [] dL_law_2904 lk_RL_336 mv_X5_isComplete mp_X5_isComplete rfl ⟨leb rfl, leb rfl⟩ rfl (ltb rfl) g13 rfl (leb rfl) g9 g10 rfl (am_X5_isComplete hG h) (kkI fun v12 X11 h => ?_) (kxN KrI.no)
  refine aw_widen (cc' := cc + 2) (ss' := ss + 12) (Nat.le_refl _) (Nat.le_refl _) ?_
  refine aw_istore 2909 (lv' := [(7, _), (6, _), (0, _), (1, _), (2, _), (3, _), (4, _), (5, _)]) dL_law_2907 (ltb rfl) rfl rfl ?_
  refine aw_aload_n 2910 dL_law_2909 rfl 4 rfl rfl ?_
  obtain ⟨g14, h⟩ := h
  obtain ⟨g15, h⟩ := h
  obtain ⟨g18, h⟩ := h
  refine aw_callV (M' := M_X5_thrown) 2913 196 5 l2 [] [] dL_law_2910 lk_RL_196 mv_X5_thrown mp_X5_thrown rfl ⟨leb rfl, leb rfl⟩ rfl (ltb rfl) g18 rfl (leb rfl) g14 g15 rfl (am_X5_thrown hG h) (kkI fun v17 X16 h => ?_) (kxN KrI.no)
  refine aw_widen (cc' := cc + 2) (ss' := ss + 12) (Nat.le_refl _) (Nat.le_refl _) ?_
  refine aw_iload 2915 dL_law_2913 1 rfl rfl ?_
  refine aw_icmp_eq 2920 2918 dL_law_2915 rfl rfl (fun c19 => ?_) (fun c19 => ?_)
  · replace h := h.1 c19
    refine aw_iload 2922 dL_law_2920 1 rfl rfl ?_
    refine aw_if_ne 2944 2925 dL_law_2922 rfl rfl (fun c20 => ?_) (fun c20 => ?_)
    · replace h := h.1 c20
      refine aw_goto 3937 dL_law_2944 rfl ?_
      refine aw_iinc 3940 (v := 4) (lv' := [(5, _), (7, _), (6, _), (0, _), (1, _), (2, _), (3, _), (4, _)]) dL_law_3937 7 rfl kI_4 (ltb rfl) rfl rfl ?_
      refine aw_goto 28 dL_law_3940 rfl ?_
      exact aw_pick [3, 4, 5, 6, 7, 0] rfl (hO28 _ _ _ _ _ _ _ _ _ h)
    · replace h := h.2 c20
      refine aw_aload_n 2926 dL_law_2925 rfl 5 rfl rfl ?_
      refine aw_iconst 2927 (v := 0) dL_law_2926 kI_0 rfl ?_
      obtain ⟨g21, h⟩ := h
      obtain ⟨g22, h⟩ := h
      refine aw_laload 2928 dL_law_2927 g21 g22 rfl ?_
      refine aw_iload 2930 dL_law_2928 0 rfl rfl ?_
      refine aw_if_eq 2937 2933 dL_law_2930 rfl rfl (fun c23 => ?_) (fun c23 => ?_)
      · replace h := h.1 c23
        refine aw_lconst 2938 (v := 0) dL_law_2937 kL_0 rfl ?_
        refine aw_lcmp 2939 dL_law_2938 rfl ?_
        refine aw_if_eq 2944 2942 dL_law_2939 rfl rfl (fun c24 => ?_) (fun c24 => ?_)
        · replace h := h.1 c24
          refine aw_goto 3937 dL_law_2944 rfl ?_
          refine aw_iinc 3940 (v := 4) (lv' := [(5, _), (7, _), (6, _), (0, _), (1, _), (2, _), (3, _), (4, _)]) dL_law_3937 7 rfl kI_4 (ltb rfl) rfl rfl ?_
          refine aw_goto 28 dL_law_3940 rfl ?_
          exact aw_pick [3, 4, 5, 6, 7, 0] rfl (hO28 _ _ _ _ _ _ _ _ _ h)
        · replace h := h.2 c24
          refine aw_iconst 2943 (v := 0) dL_law_2942 kI_0 rfl ?_
          obtain ⟨g25, h⟩ := h
          obtain ⟨g26, h⟩ := h
          exact aw_ireturn (ty := .boolean) dL_law_2943 rfl rfl g25 g26 ⟨_, rfl, h⟩
      · replace h := h.2 c23
        refine aw_lconst 2934 (v := 1) dL_law_2933 kL_1 rfl ?_
        refine aw_goto 2938 dL_law_2934 rfl ?_
        refine aw_lcmp 2939 dL_law_2938 rfl ?_
        refine aw_if_eq 2944 2942 dL_law_2939 rfl rfl (fun c27 => ?_) (fun c27 => ?_)
        · replace h := h.1 c27
          refine aw_goto 3937 dL_law_2944 rfl ?_
          refine aw_iinc 3940 (v := 4) (lv' := [(5, _), (7, _), (6, _), (0, _), (1, _), (2, _), (3, _), (4, _)]) dL_law_3937 7 rfl kI_4 (ltb rfl) rfl rfl ?_
          refine aw_goto 28 dL_law_3940 rfl ?_
          exact aw_pick [3, 4, 5, 6, 7, 0] rfl (hO28 _ _ _ _ _ _ _ _ _ h)
        · replace h := h.2 c27
          refine aw_iconst 2943 (v := 0) dL_law_2942 kI_0 rfl ?_
          obtain ⟨g28, h⟩ := h
          obtain ⟨g29, h⟩ := h
          exact aw_ireturn (ty := .boolean) dL_law_2943 rfl rfl g28 g29 ⟨_, rfl, h⟩
  · replace h := h.2 c19
    refine aw_iconst 2919 (v := 0) dL_law_2918 kI_0 rfl ?_
    obtain ⟨g30, h⟩ := h
    obtain ⟨g31, h⟩ := h
    exact aw_ireturn (ty := .boolean) dL_law_2919 rfl rfl g30 g31 ⟨_, rfl, h⟩
set_option maxRecDepth 20000 in
theorem aw_L_law_2947 {G : GG} (hG : G.1.stackTraces = false) {P28 : Nat → Nat → Nat → Nat → Nat → Int32 → Nat → Nat → XH → Prop} {l0 : Nat} {l1 : Nat} {l2 : Nat} {l3 : Nat} {l4 : Nat} {l5 : Int32} {cc : Nat} {ss : Nat} {X : XH} {K : Int32 → XH → Prop} (hO28 : ∀ (l0 : Nat) (l1 : Nat) (l2 : Nat) (l3 : Nat) (l4 : Nat) (l5 : Int32) (cc : Nat) (ss : Nat) (X : XH), P28 l0 l1 l2 l3 l4 l5 cc ss X → AW G M_L_law 28 [(0, .ref 0), (1, .ref l1), (2, .ref l2), (3, .ref l3), (4, .ref l4), (5, .int l5)] [] X cc ss (KrI K)) (h : w_L_law_2947 G P28 l0 l1 l2 l3 l4 l5 cc ss X K) : AW G M_L_law 2947 [(0, .ref 0), (1, .ref l1), (2, .ref l2), (3, .ref l3), (4, .ref l4), (5, .int l5)] [] X cc ss (KrI K) := by
  unfold w_L_law_2947 at h
  refine aw_aload_n 2948 dL_law_2947 rfl 1 rfl rfl ?_
  refine aw_aload_n 2949 dL_law_2948 rfl 0 rfl rfl ?_
  refine aw_iload 2951 dL_law_2949 5 rfl rfl ?_
  refine aw_iconst 2952 (v := 1) dL_law_2951 kI_1 rfl ?_
  refine aw_iadd 2953 dL_law_2952 rfl ?_
  obtain ⟨g1, h⟩ := h
  refine aw_sld 2954 dL_law_2953 g1 rfl ?_
  refine aw_aload_n 2955 dL_law_2954 rfl 0 rfl rfl ?_
  refine aw_iload 2957 dL_law_2955 5 rfl rfl ?_
  refine aw_iconst 2958 (v := 2) dL_law_2957 kI_2 rfl ?_
  refine aw_iadd 2959 dL_law_2958 rfl ?_
  obtain ⟨g2, h⟩ := h
  refine aw_sld 2960 dL_law_2959 g2 rfl ?_
  refine aw_aload_n 2961 dL_law_2960 rfl 3 rfl rfl ?_
  obtain ⟨g3, h⟩ := h
  obtain ⟨g4, h⟩ := h
  refine aw_callSX (M' := M_L_isMixed) 2964 337 [.ref _, .int _, .int _, .ref _] [] dL_law_2961 lk_RL_337 ms_L_isMixed mp_L_isMixed (0, 17, 20, 13) [] rfl ⟨leb rfl, leb rfl⟩ rfl (leb rfl) g3 g4 rfl (am_L_isMixed hG h) (kkI fun v6 X5 h => ?_) (kxN KrI.no)
  refine aw_widen (cc' := cc + 2) (ss' := ss + 12) (Nat.le_refl _) (Nat.le_refl _) ?_
  refine aw_istore 2966 (lv' := [(6, _), (0, _), (1, _), (2, _), (3, _), (4, _), (5, _)]) dL_law_2964 (ltb rfl) rfl rfl ?_
  refine aw_aload_n 2967 dL_law_2966 rfl 3 rfl rfl ?_
  refine aw_aload_n 2968 dL_law_2967 rfl 1 rfl rfl ?_
  refine aw_iload 2970 dL_law_2968 6 rfl rfl ?_
  refine aw_iconst 2971 (v := 1) dL_law_2970 kI_1 rfl ?_
  refine aw_iadd 2972 dL_law_2971 rfl ?_
  obtain ⟨g7, h⟩ := h
  refine aw_sld 2973 dL_law_2972 g7 rfl ?_
  refine aw_aload_n 2974 dL_law_2973 rfl 1 rfl rfl ?_
  refine aw_iload 2976 dL_law_2974 6 rfl rfl ?_
  refine aw_iconst 2977 (v := 2) dL_law_2976 kI_2 rfl ?_
  refine aw_iadd 2978 dL_law_2977 rfl ?_
  obtain ⟨g8, h⟩ := h
  refine aw_sld 2979 dL_law_2978 g8 rfl ?_
  obtain ⟨g9, h⟩ := h
  obtain ⟨g10, h⟩ := h
  obtain ⟨g13, h⟩ := h
  refine aw_callV (M' := M_X5_isMixed) 2982 339 5 l2 [.int _, .int _] [] dL_law_2979 lk_RL_339 mv_X5_isMixed mp_X5_isMixed rfl ⟨leb rfl, leb rfl⟩ rfl (ltb rfl) g13 rfl (leb rfl) g9 g10 rfl (am_X5_isMixed hG h) (kkI fun v12 X11 h => ?_) (kxN KrI.no)
  refine aw_widen (cc' := cc + 2) (ss' := ss + 12) (Nat.le_refl _) (Nat.le_refl _) ?_
  refine aw_istore 2984 (lv' := [(7, _), (6, _), (0, _), (1, _), (2, _), (3, _), (4, _), (5, _)]) dL_law_2982 (ltb rfl) rfl rfl ?_
  refine aw_aload_n 2985 dL_law_2984 rfl 4 rfl rfl ?_
  obtain ⟨g14, h⟩ := h
  obtain ⟨g15, h⟩ := h
  obtain ⟨g18, h⟩ := h
  refine aw_callV (M' := M_X5_thrown) 2988 196 5 l2 [] [] dL_law_2985 lk_RL_196 mv_X5_thrown mp_X5_thrown rfl ⟨leb rfl, leb rfl⟩ rfl (ltb rfl) g18 rfl (leb rfl) g14 g15 rfl (am_X5_thrown hG h) (kkI fun v17 X16 h => ?_) (kxN KrI.no)
  refine aw_widen (cc' := cc + 2) (ss' := ss + 12) (Nat.le_refl _) (Nat.le_refl _) ?_
  refine aw_iload 2990 dL_law_2988 1 rfl rfl ?_
  refine aw_icmp_eq 2995 2993 dL_law_2990 rfl rfl (fun c19 => ?_) (fun c19 => ?_)
  · replace h := h.1 c19
    refine aw_iload 2997 dL_law_2995 1 rfl rfl ?_
    refine aw_if_ne 3019 3000 dL_law_2997 rfl rfl (fun c20 => ?_) (fun c20 => ?_)
    · replace h := h.1 c20
      refine aw_goto 3937 dL_law_3019 rfl ?_
      refine aw_iinc 3940 (v := 4) (lv' := [(5, _), (7, _), (6, _), (0, _), (1, _), (2, _), (3, _), (4, _)]) dL_law_3937 7 rfl kI_4 (ltb rfl) rfl rfl ?_
      refine aw_goto 28 dL_law_3940 rfl ?_
      exact aw_pick [3, 4, 5, 6, 7, 0] rfl (hO28 _ _ _ _ _ _ _ _ _ h)
    · replace h := h.2 c20
      refine aw_aload_n 3001 dL_law_3000 rfl 5 rfl rfl ?_
      refine aw_iconst 3002 (v := 0) dL_law_3001 kI_0 rfl ?_
      obtain ⟨g21, h⟩ := h
      obtain ⟨g22, h⟩ := h
      refine aw_laload 3003 dL_law_3002 g21 g22 rfl ?_
      refine aw_iload 3005 dL_law_3003 0 rfl rfl ?_
      refine aw_if_eq 3012 3008 dL_law_3005 rfl rfl (fun c23 => ?_) (fun c23 => ?_)
      · replace h := h.1 c23
        refine aw_lconst 3013 (v := 0) dL_law_3012 kL_0 rfl ?_
        refine aw_lcmp 3014 dL_law_3013 rfl ?_
        refine aw_if_eq 3019 3017 dL_law_3014 rfl rfl (fun c24 => ?_) (fun c24 => ?_)
        · replace h := h.1 c24
          refine aw_goto 3937 dL_law_3019 rfl ?_
          refine aw_iinc 3940 (v := 4) (lv' := [(5, _), (7, _), (6, _), (0, _), (1, _), (2, _), (3, _), (4, _)]) dL_law_3937 7 rfl kI_4 (ltb rfl) rfl rfl ?_
          refine aw_goto 28 dL_law_3940 rfl ?_
          exact aw_pick [3, 4, 5, 6, 7, 0] rfl (hO28 _ _ _ _ _ _ _ _ _ h)
        · replace h := h.2 c24
          refine aw_iconst 3018 (v := 0) dL_law_3017 kI_0 rfl ?_
          obtain ⟨g25, h⟩ := h
          obtain ⟨g26, h⟩ := h
          exact aw_ireturn (ty := .boolean) dL_law_3018 rfl rfl g25 g26 ⟨_, rfl, h⟩
      · replace h := h.2 c23
        refine aw_lconst 3009 (v := 1) dL_law_3008 kL_1 rfl ?_
        refine aw_goto 3013 dL_law_3009 rfl ?_
        refine aw_lcmp 3014 dL_law_3013 rfl ?_
        refine aw_if_eq 3019 3017 dL_law_3014 rfl rfl (fun c27 => ?_) (fun c27 => ?_)
        · replace h := h.1 c27
          refine aw_goto 3937 dL_law_3019 rfl ?_
          refine aw_iinc 3940 (v := 4) (lv' := [(5, _), (7, _), (6, _), (0, _), (1, _), (2, _), (3, _), (4, _)]) dL_law_3937 7 rfl kI_4 (ltb rfl) rfl rfl ?_
          refine aw_goto 28 dL_law_3940 rfl ?_
          exact aw_pick [3, 4, 5, 6, 7, 0] rfl (hO28 _ _ _ _ _ _ _ _ _ h)
        · replace h := h.2 c27
          refine aw_iconst 3018 (v := 0) dL_law_3017 kI_0 rfl ?_
          obtain ⟨g28, h⟩ := h
          obtain ⟨g29, h⟩ := h
          exact aw_ireturn (ty := .boolean) dL_law_3018 rfl rfl g28 g29 ⟨_, rfl, h⟩
  · replace h := h.2 c19
    refine aw_iconst 2994 (v := 0) dL_law_2993 kI_0 rfl ?_
    obtain ⟨g30, h⟩ := h
    obtain ⟨g31, h⟩ := h
    exact aw_ireturn (ty := .boolean) dL_law_2994 rfl rfl g30 g31 ⟨_, rfl, h⟩
set_option maxRecDepth 20000 in
theorem aw_L_law_3022 {G : GG} (hG : G.1.stackTraces = false) {P28 : Nat → Nat → Nat → Nat → Nat → Int32 → Nat → Nat → XH → Prop} {l0 : Nat} {l1 : Nat} {l2 : Nat} {l3 : Nat} {l4 : Nat} {l5 : Int32} {cc : Nat} {ss : Nat} {X : XH} {K : Int32 → XH → Prop} (hO28 : ∀ (l0 : Nat) (l1 : Nat) (l2 : Nat) (l3 : Nat) (l4 : Nat) (l5 : Int32) (cc : Nat) (ss : Nat) (X : XH), P28 l0 l1 l2 l3 l4 l5 cc ss X → AW G M_L_law 28 [(0, .ref 0), (1, .ref l1), (2, .ref l2), (3, .ref l3), (4, .ref l4), (5, .int l5)] [] X cc ss (KrI K)) (h : w_L_law_3022 G P28 l0 l1 l2 l3 l4 l5 cc ss X K) : AW G M_L_law 3022 [(0, .ref 0), (1, .ref l1), (2, .ref l2), (3, .ref l3), (4, .ref l4), (5, .int l5)] [] X cc ss (KrI K) := by
  unfold w_L_law_3022 at h
  refine aw_aload_n 3023 dL_law_3022 rfl 1 rfl rfl ?_
  refine aw_aload_n 3024 dL_law_3023 rfl 0 rfl rfl ?_
  refine aw_iload 3026 dL_law_3024 5 rfl rfl ?_
  refine aw_iconst 3027 (v := 1) dL_law_3026 kI_1 rfl ?_
  refine aw_iadd 3028 dL_law_3027 rfl ?_
  obtain ⟨g1, h⟩ := h
  refine aw_sld 3029 dL_law_3028 g1 rfl ?_
  refine aw_aload_n 3030 dL_law_3029 rfl 0 rfl rfl ?_
  refine aw_iload 3032 dL_law_3030 5 rfl rfl ?_
  refine aw_iconst 3033 (v := 2) dL_law_3032 kI_2 rfl ?_
  refine aw_iadd 3034 dL_law_3033 rfl ?_
  obtain ⟨g2, h⟩ := h
  refine aw_sld 3035 dL_law_3034 g2 rfl ?_
  refine aw_aload_n 3036 dL_law_3035 rfl 0 rfl rfl ?_
  refine aw_iload 3038 dL_law_3036 5 rfl rfl ?_
  refine aw_iconst 3039 (v := 3) dL_law_3038 kI_3 rfl ?_
  refine aw_iadd 3040 dL_law_3039 rfl ?_
  obtain ⟨g3, h⟩ := h
  refine aw_sld 3041 dL_law_3040 g3 rfl ?_
  refine aw_aload_n 3042 dL_law_3041 rfl 3 rfl rfl ?_
  obtain ⟨g4, h⟩ := h
  obtain ⟨g5, h⟩ := h
  refine aw_callSX (M' := M_L_hasSigned) 3045 340 [.ref _, .int _, .int _, .int _, .ref _] [] dL_law_3042 lk_RL_340 ms_L_hasSigned mp_L_hasSigned (0, 19, 22, 13) [] rfl ⟨leb rfl, leb rfl⟩ rfl (leb rfl) g4 g5 rfl (am_L_hasSigned hG h) (kkI fun v7 X6 h => ?_) (kxN KrI.no)
  refine aw_widen (cc' := cc + 3) (ss' := ss + 18) (Nat.le_refl _) (Nat.le_refl _) ?_
  refine aw_istore 3047 (lv' := [(6, _), (0, _), (1, _), (2, _), (3, _), (4, _), (5, _)]) dL_law_3045 (ltb rfl) rfl rfl ?_
  refine aw_aload_n 3048 dL_law_3047 rfl 3 rfl rfl ?_
  refine aw_aload_n 3049 dL_law_3048 rfl 1 rfl rfl ?_
  refine aw_iload 3051 dL_law_3049 6 rfl rfl ?_
  refine aw_iconst 3052 (v := 1) dL_law_3051 kI_1 rfl ?_
  refine aw_iadd 3053 dL_law_3052 rfl ?_
  obtain ⟨g8, h⟩ := h
  refine aw_sld 3054 dL_law_3053 g8 rfl ?_
  refine aw_aload_n 3055 dL_law_3054 rfl 1 rfl rfl ?_
  refine aw_iload 3057 dL_law_3055 6 rfl rfl ?_
  refine aw_iconst 3058 (v := 2) dL_law_3057 kI_2 rfl ?_
  refine aw_iadd 3059 dL_law_3058 rfl ?_
  obtain ⟨g9, h⟩ := h
  refine aw_sld 3060 dL_law_3059 g9 rfl ?_
  refine aw_aload_n 3061 dL_law_3060 rfl 1 rfl rfl ?_
  refine aw_iload 3063 dL_law_3061 6 rfl rfl ?_
  refine aw_iconst 3064 (v := 3) dL_law_3063 kI_3 rfl ?_
  refine aw_iadd 3065 dL_law_3064 rfl ?_
  obtain ⟨g10, h⟩ := h
  refine aw_sld 3066 dL_law_3065 g10 rfl ?_
  obtain ⟨g11, h⟩ := h
  obtain ⟨g12, h⟩ := h
  obtain ⟨g15, h⟩ := h
  refine aw_callV (M' := M_X5_hasSigned) 3069 342 5 l2 [.int _, .int _, .int _] [] dL_law_3066 lk_RL_342 mv_X5_hasSigned mp_X5_hasSigned rfl ⟨leb rfl, leb rfl⟩ rfl (ltb rfl) g15 rfl (leb rfl) g11 g12 rfl (am_X5_hasSigned hG h) (kkI fun v14 X13 h => ?_) (kxN KrI.no)
  refine aw_widen (cc' := cc + 3) (ss' := ss + 18) (Nat.le_refl _) (Nat.le_refl _) ?_
  refine aw_istore 3071 (lv' := [(7, _), (6, _), (0, _), (1, _), (2, _), (3, _), (4, _), (5, _)]) dL_law_3069 (ltb rfl) rfl rfl ?_
  refine aw_aload_n 3072 dL_law_3071 rfl 4 rfl rfl ?_
  obtain ⟨g16, h⟩ := h
  obtain ⟨g17, h⟩ := h
  obtain ⟨g20, h⟩ := h
  refine aw_callV (M' := M_X5_thrown) 3075 196 5 l2 [] [] dL_law_3072 lk_RL_196 mv_X5_thrown mp_X5_thrown rfl ⟨leb rfl, leb rfl⟩ rfl (ltb rfl) g20 rfl (leb rfl) g16 g17 rfl (am_X5_thrown hG h) (kkI fun v19 X18 h => ?_) (kxN KrI.no)
  refine aw_widen (cc' := cc + 3) (ss' := ss + 18) (Nat.le_refl _) (Nat.le_refl _) ?_
  refine aw_iload 3077 dL_law_3075 1 rfl rfl ?_
  refine aw_icmp_eq 3082 3080 dL_law_3077 rfl rfl (fun c21 => ?_) (fun c21 => ?_)
  · replace h := h.1 c21
    refine aw_iload 3084 dL_law_3082 1 rfl rfl ?_
    refine aw_if_ne 3106 3087 dL_law_3084 rfl rfl (fun c22 => ?_) (fun c22 => ?_)
    · replace h := h.1 c22
      refine aw_goto 3937 dL_law_3106 rfl ?_
      refine aw_iinc 3940 (v := 4) (lv' := [(5, _), (7, _), (6, _), (0, _), (1, _), (2, _), (3, _), (4, _)]) dL_law_3937 7 rfl kI_4 (ltb rfl) rfl rfl ?_
      refine aw_goto 28 dL_law_3940 rfl ?_
      exact aw_pick [3, 4, 5, 6, 7, 0] rfl (hO28 _ _ _ _ _ _ _ _ _ h)
    · replace h := h.2 c22
      refine aw_aload_n 3088 dL_law_3087 rfl 5 rfl rfl ?_
      refine aw_iconst 3089 (v := 0) dL_law_3088 kI_0 rfl ?_
      obtain ⟨g23, h⟩ := h
      obtain ⟨g24, h⟩ := h
      refine aw_laload 3090 dL_law_3089 g23 g24 rfl ?_
      refine aw_iload 3092 dL_law_3090 0 rfl rfl ?_
      refine aw_if_eq 3099 3095 dL_law_3092 rfl rfl (fun c25 => ?_) (fun c25 => ?_)
      · replace h := h.1 c25
        refine aw_lconst 3100 (v := 0) dL_law_3099 kL_0 rfl ?_
        refine aw_lcmp 3101 dL_law_3100 rfl ?_
        refine aw_if_eq 3106 3104 dL_law_3101 rfl rfl (fun c26 => ?_) (fun c26 => ?_)
        · replace h := h.1 c26
          refine aw_goto 3937 dL_law_3106 rfl ?_
          refine aw_iinc 3940 (v := 4) (lv' := [(5, _), (7, _), (6, _), (0, _), (1, _), (2, _), (3, _), (4, _)]) dL_law_3937 7 rfl kI_4 (ltb rfl) rfl rfl ?_
          refine aw_goto 28 dL_law_3940 rfl ?_
          exact aw_pick [3, 4, 5, 6, 7, 0] rfl (hO28 _ _ _ _ _ _ _ _ _ h)
        · replace h := h.2 c26
          refine aw_iconst 3105 (v := 0) dL_law_3104 kI_0 rfl ?_
          obtain ⟨g27, h⟩ := h
          obtain ⟨g28, h⟩ := h
          exact aw_ireturn (ty := .boolean) dL_law_3105 rfl rfl g27 g28 ⟨_, rfl, h⟩
      · replace h := h.2 c25
        refine aw_lconst 3096 (v := 1) dL_law_3095 kL_1 rfl ?_
        refine aw_goto 3100 dL_law_3096 rfl ?_
        refine aw_lcmp 3101 dL_law_3100 rfl ?_
        refine aw_if_eq 3106 3104 dL_law_3101 rfl rfl (fun c29 => ?_) (fun c29 => ?_)
        · replace h := h.1 c29
          refine aw_goto 3937 dL_law_3106 rfl ?_
          refine aw_iinc 3940 (v := 4) (lv' := [(5, _), (7, _), (6, _), (0, _), (1, _), (2, _), (3, _), (4, _)]) dL_law_3937 7 rfl kI_4 (ltb rfl) rfl rfl ?_
          refine aw_goto 28 dL_law_3940 rfl ?_
          exact aw_pick [3, 4, 5, 6, 7, 0] rfl (hO28 _ _ _ _ _ _ _ _ _ h)
        · replace h := h.2 c29
          refine aw_iconst 3105 (v := 0) dL_law_3104 kI_0 rfl ?_
          obtain ⟨g30, h⟩ := h
          obtain ⟨g31, h⟩ := h
          exact aw_ireturn (ty := .boolean) dL_law_3105 rfl rfl g30 g31 ⟨_, rfl, h⟩
  · replace h := h.2 c21
    refine aw_iconst 3081 (v := 0) dL_law_3080 kI_0 rfl ?_
    obtain ⟨g32, h⟩ := h
    obtain ⟨g33, h⟩ := h
    exact aw_ireturn (ty := .boolean) dL_law_3081 rfl rfl g32 g33 ⟨_, rfl, h⟩
set_option maxRecDepth 20000 in
theorem aw_L_law_3109 {G : GG} (hG : G.1.stackTraces = false) {P28 : Nat → Nat → Nat → Nat → Nat → Int32 → Nat → Nat → XH → Prop} {l0 : Nat} {l1 : Nat} {l2 : Nat} {l3 : Nat} {l4 : Nat} {l5 : Int32} {cc : Nat} {ss : Nat} {X : XH} {K : Int32 → XH → Prop} (hO28 : ∀ (l0 : Nat) (l1 : Nat) (l2 : Nat) (l3 : Nat) (l4 : Nat) (l5 : Int32) (cc : Nat) (ss : Nat) (X : XH), P28 l0 l1 l2 l3 l4 l5 cc ss X → AW G M_L_law 28 [(0, .ref 0), (1, .ref l1), (2, .ref l2), (3, .ref l3), (4, .ref l4), (5, .int l5)] [] X cc ss (KrI K)) (h : w_L_law_3109 G P28 l0 l1 l2 l3 l4 l5 cc ss X K) : AW G M_L_law 3109 [(0, .ref 0), (1, .ref l1), (2, .ref l2), (3, .ref l3), (4, .ref l4), (5, .int l5)] [] X cc ss (KrI K) := by
  unfold w_L_law_3109 at h
  refine aw_aload_n 3110 dL_law_3109 rfl 1 rfl rfl ?_
  refine aw_aload_n 3111 dL_law_3110 rfl 0 rfl rfl ?_
  refine aw_iload 3113 dL_law_3111 5 rfl rfl ?_
  refine aw_iconst 3114 (v := 1) dL_law_3113 kI_1 rfl ?_
  refine aw_iadd 3115 dL_law_3114 rfl ?_
  obtain ⟨g1, h⟩ := h
  refine aw_sld 3116 dL_law_3115 g1 rfl ?_
  refine aw_aload_n 3117 dL_law_3116 rfl 0 rfl rfl ?_
  refine aw_iload 3119 dL_law_3117 5 rfl rfl ?_
  refine aw_iconst 3120 (v := 2) dL_law_3119 kI_2 rfl ?_
  refine aw_iadd 3121 dL_law_3120 rfl ?_
  obtain ⟨g2, h⟩ := h
  refine aw_sld 3122 dL_law_3121 g2 rfl ?_
  refine aw_aload_n 3123 dL_law_3122 rfl 3 rfl rfl ?_
  obtain ⟨g3, h⟩ := h
  obtain ⟨g4, h⟩ := h
  refine aw_callSX (M' := M_L_signaturesOn) 3126 343 [.ref _, .int _, .int _, .ref _] [] dL_law_3123 lk_RL_343 ms_L_signaturesOn mp_L_signaturesOn (0, 10, 13, 13) [] rfl ⟨leb rfl, leb rfl⟩ rfl (leb rfl) g3 g4 rfl (am_L_signaturesOn hG h) (kkI fun v6 X5 h => ?_) (kxN KrI.no)
  refine aw_widen (cc' := cc + 2) (ss' := ss + 12) (Nat.le_refl _) (Nat.le_refl _) ?_
  refine aw_istore 3128 (lv' := [(6, _), (0, _), (1, _), (2, _), (3, _), (4, _), (5, _)]) dL_law_3126 (ltb rfl) rfl rfl ?_
  refine aw_aload_n 3129 dL_law_3128 rfl 3 rfl rfl ?_
  refine aw_aload_n 3130 dL_law_3129 rfl 1 rfl rfl ?_
  refine aw_iload 3132 dL_law_3130 6 rfl rfl ?_
  refine aw_iconst 3133 (v := 1) dL_law_3132 kI_1 rfl ?_
  refine aw_iadd 3134 dL_law_3133 rfl ?_
  obtain ⟨g7, h⟩ := h
  refine aw_sld 3135 dL_law_3134 g7 rfl ?_
  refine aw_aload_n 3136 dL_law_3135 rfl 1 rfl rfl ?_
  refine aw_iload 3138 dL_law_3136 6 rfl rfl ?_
  refine aw_iconst 3139 (v := 2) dL_law_3138 kI_2 rfl ?_
  refine aw_iadd 3140 dL_law_3139 rfl ?_
  obtain ⟨g8, h⟩ := h
  refine aw_sld 3141 dL_law_3140 g8 rfl ?_
  obtain ⟨g9, h⟩ := h
  obtain ⟨g10, h⟩ := h
  obtain ⟨g13, h⟩ := h
  refine aw_callV (M' := M_X5_signaturesOn) 3144 345 5 l2 [.int _, .int _] [] dL_law_3141 lk_RL_345 mv_X5_signaturesOn mp_X5_signaturesOn rfl ⟨leb rfl, leb rfl⟩ rfl (ltb rfl) g13 rfl (leb rfl) g9 g10 rfl (am_X5_signaturesOn hG h) (kkI fun v12 X11 h => ?_) (kxN KrI.no)
  refine aw_widen (cc' := cc + 2) (ss' := ss + 12) (Nat.le_refl _) (Nat.le_refl _) ?_
  refine aw_istore 3146 (lv' := [(7, _), (6, _), (0, _), (1, _), (2, _), (3, _), (4, _), (5, _)]) dL_law_3144 (ltb rfl) rfl rfl ?_
  refine aw_aload_n 3147 dL_law_3146 rfl 4 rfl rfl ?_
  obtain ⟨g14, h⟩ := h
  obtain ⟨g15, h⟩ := h
  obtain ⟨g18, h⟩ := h
  refine aw_callV (M' := M_X5_thrown) 3150 196 5 l2 [] [] dL_law_3147 lk_RL_196 mv_X5_thrown mp_X5_thrown rfl ⟨leb rfl, leb rfl⟩ rfl (ltb rfl) g18 rfl (leb rfl) g14 g15 rfl (am_X5_thrown hG h) (kkI fun v17 X16 h => ?_) (kxN KrI.no)
  refine aw_widen (cc' := cc + 2) (ss' := ss + 12) (Nat.le_refl _) (Nat.le_refl _) ?_
  refine aw_iload 3152 dL_law_3150 1 rfl rfl ?_
  refine aw_icmp_eq 3157 3155 dL_law_3152 rfl rfl (fun c19 => ?_) (fun c19 => ?_)
  · replace h := h.1 c19
    refine aw_iload 3159 dL_law_3157 1 rfl rfl ?_
    refine aw_if_ne 3174 3162 dL_law_3159 rfl rfl (fun c20 => ?_) (fun c20 => ?_)
    · replace h := h.1 c20
      refine aw_goto 3937 dL_law_3174 rfl ?_
      refine aw_iinc 3940 (v := 4) (lv' := [(5, _), (7, _), (6, _), (0, _), (1, _), (2, _), (3, _), (4, _)]) dL_law_3937 7 rfl kI_4 (ltb rfl) rfl rfl ?_
      refine aw_goto 28 dL_law_3940 rfl ?_
      exact aw_pick [3, 4, 5, 6, 7, 0] rfl (hO28 _ _ _ _ _ _ _ _ _ h)
    · replace h := h.2 c20
      refine aw_aload_n 3163 dL_law_3162 rfl 5 rfl rfl ?_
      refine aw_iconst 3164 (v := 0) dL_law_3163 kI_0 rfl ?_
      obtain ⟨g21, h⟩ := h
      obtain ⟨g22, h⟩ := h
      refine aw_laload 3165 dL_law_3164 g21 g22 rfl ?_
      refine aw_iload 3167 dL_law_3165 0 rfl rfl ?_
      refine aw_i2l 3168 dL_law_3167 rfl ?_
      refine aw_lcmp 3169 dL_law_3168 rfl ?_
      refine aw_if_eq 3174 3172 dL_law_3169 rfl rfl (fun c23 => ?_) (fun c23 => ?_)
      · replace h := h.1 c23
        refine aw_goto 3937 dL_law_3174 rfl ?_
        refine aw_iinc 3940 (v := 4) (lv' := [(5, _), (7, _), (6, _), (0, _), (1, _), (2, _), (3, _), (4, _)]) dL_law_3937 7 rfl kI_4 (ltb rfl) rfl rfl ?_
        refine aw_goto 28 dL_law_3940 rfl ?_
        exact aw_pick [3, 4, 5, 6, 7, 0] rfl (hO28 _ _ _ _ _ _ _ _ _ h)
      · replace h := h.2 c23
        refine aw_iconst 3173 (v := 0) dL_law_3172 kI_0 rfl ?_
        obtain ⟨g24, h⟩ := h
        obtain ⟨g25, h⟩ := h
        exact aw_ireturn (ty := .boolean) dL_law_3173 rfl rfl g24 g25 ⟨_, rfl, h⟩
  · replace h := h.2 c19
    refine aw_iconst 3156 (v := 0) dL_law_3155 kI_0 rfl ?_
    obtain ⟨g26, h⟩ := h
    obtain ⟨g27, h⟩ := h
    exact aw_ireturn (ty := .boolean) dL_law_3156 rfl rfl g26 g27 ⟨_, rfl, h⟩
set_option maxRecDepth 20000 in
theorem aw_L_law_3177 {G : GG} (hG : G.1.stackTraces = false) {P28 : Nat → Nat → Nat → Nat → Nat → Int32 → Nat → Nat → XH → Prop} {l0 : Nat} {l1 : Nat} {l2 : Nat} {l3 : Nat} {l4 : Nat} {l5 : Int32} {cc : Nat} {ss : Nat} {X : XH} {K : Int32 → XH → Prop} (hO28 : ∀ (l0 : Nat) (l1 : Nat) (l2 : Nat) (l3 : Nat) (l4 : Nat) (l5 : Int32) (cc : Nat) (ss : Nat) (X : XH), P28 l0 l1 l2 l3 l4 l5 cc ss X → AW G M_L_law 28 [(0, .ref 0), (1, .ref l1), (2, .ref l2), (3, .ref l3), (4, .ref l4), (5, .int l5)] [] X cc ss (KrI K)) (h : w_L_law_3177 G P28 l0 l1 l2 l3 l4 l5 cc ss X K) : AW G M_L_law 3177 [(0, .ref 0), (1, .ref l1), (2, .ref l2), (3, .ref l3), (4, .ref l4), (5, .int l5)] [] X cc ss (KrI K) := by
  unfold w_L_law_3177 at h
  refine aw_aload_n 3178 dL_law_3177 rfl 1 rfl rfl ?_
  refine aw_aload_n 3179 dL_law_3178 rfl 0 rfl rfl ?_
  refine aw_iload 3181 dL_law_3179 5 rfl rfl ?_
  refine aw_iconst 3182 (v := 1) dL_law_3181 kI_1 rfl ?_
  refine aw_iadd 3183 dL_law_3182 rfl ?_
  obtain ⟨g1, h⟩ := h
  refine aw_sld 3184 dL_law_3183 g1 rfl ?_
  refine aw_aload_n 3185 dL_law_3184 rfl 0 rfl rfl ?_
  refine aw_iload 3187 dL_law_3185 5 rfl rfl ?_
  refine aw_iconst 3188 (v := 2) dL_law_3187 kI_2 rfl ?_
  refine aw_iadd 3189 dL_law_3188 rfl ?_
  obtain ⟨g2, h⟩ := h
  refine aw_sld 3190 dL_law_3189 g2 rfl ?_
  refine aw_aload_n 3191 dL_law_3190 rfl 3 rfl rfl ?_
  obtain ⟨g3, h⟩ := h
  obtain ⟨g4, h⟩ := h
  refine aw_callSX (M' := M_L_missingOn) 3194 346 [.ref _, .int _, .int _, .ref _] [] dL_law_3191 lk_RL_346 ms_L_missingOn mp_L_missingOn (0, 10, 13, 13) [] rfl ⟨leb rfl, leb rfl⟩ rfl (leb rfl) g3 g4 rfl (am_L_missingOn hG h) (kkI fun v6 X5 h => ?_) (kxN KrI.no)
  refine aw_widen (cc' := cc + 2) (ss' := ss + 12) (Nat.le_refl _) (Nat.le_refl _) ?_
  refine aw_istore 3196 (lv' := [(6, _), (0, _), (1, _), (2, _), (3, _), (4, _), (5, _)]) dL_law_3194 (ltb rfl) rfl rfl ?_
  refine aw_aload_n 3197 dL_law_3196 rfl 3 rfl rfl ?_
  refine aw_aload_n 3198 dL_law_3197 rfl 1 rfl rfl ?_
  refine aw_iload 3200 dL_law_3198 6 rfl rfl ?_
  refine aw_iconst 3201 (v := 1) dL_law_3200 kI_1 rfl ?_
  refine aw_iadd 3202 dL_law_3201 rfl ?_
  obtain ⟨g7, h⟩ := h
  refine aw_sld 3203 dL_law_3202 g7 rfl ?_
  refine aw_aload_n 3204 dL_law_3203 rfl 1 rfl rfl ?_
  refine aw_iload 3206 dL_law_3204 6 rfl rfl ?_
  refine aw_iconst 3207 (v := 2) dL_law_3206 kI_2 rfl ?_
  refine aw_iadd 3208 dL_law_3207 rfl ?_
  obtain ⟨g8, h⟩ := h
  refine aw_sld 3209 dL_law_3208 g8 rfl ?_
  obtain ⟨g9, h⟩ := h
  obtain ⟨g10, h⟩ := h
  obtain ⟨g13, h⟩ := h
  refine aw_callV (M' := M_X5_missingOn) 3212 348 5 l2 [.int _, .int _] [] dL_law_3209 lk_RL_348 mv_X5_missingOn mp_X5_missingOn rfl ⟨leb rfl, leb rfl⟩ rfl (ltb rfl) g13 rfl (leb rfl) g9 g10 rfl (am_X5_missingOn hG h) (kkI fun v12 X11 h => ?_) (kxN KrI.no)
  refine aw_widen (cc' := cc + 2) (ss' := ss + 12) (Nat.le_refl _) (Nat.le_refl _) ?_
  refine aw_istore 3214 (lv' := [(7, _), (6, _), (0, _), (1, _), (2, _), (3, _), (4, _), (5, _)]) dL_law_3212 (ltb rfl) rfl rfl ?_
  refine aw_aload_n 3215 dL_law_3214 rfl 4 rfl rfl ?_
  obtain ⟨g14, h⟩ := h
  obtain ⟨g15, h⟩ := h
  obtain ⟨g18, h⟩ := h
  refine aw_callV (M' := M_X5_thrown) 3218 196 5 l2 [] [] dL_law_3215 lk_RL_196 mv_X5_thrown mp_X5_thrown rfl ⟨leb rfl, leb rfl⟩ rfl (ltb rfl) g18 rfl (leb rfl) g14 g15 rfl (am_X5_thrown hG h) (kkI fun v17 X16 h => ?_) (kxN KrI.no)
  refine aw_widen (cc' := cc + 2) (ss' := ss + 12) (Nat.le_refl _) (Nat.le_refl _) ?_
  refine aw_iload 3220 dL_law_3218 1 rfl rfl ?_
  refine aw_icmp_eq 3225 3223 dL_law_3220 rfl rfl (fun c19 => ?_) (fun c19 => ?_)
  · replace h := h.1 c19
    refine aw_iload 3227 dL_law_3225 1 rfl rfl ?_
    refine aw_if_ne 3242 3230 dL_law_3227 rfl rfl (fun c20 => ?_) (fun c20 => ?_)
    · replace h := h.1 c20
      refine aw_goto 3937 dL_law_3242 rfl ?_
      refine aw_iinc 3940 (v := 4) (lv' := [(5, _), (7, _), (6, _), (0, _), (1, _), (2, _), (3, _), (4, _)]) dL_law_3937 7 rfl kI_4 (ltb rfl) rfl rfl ?_
      refine aw_goto 28 dL_law_3940 rfl ?_
      exact aw_pick [3, 4, 5, 6, 7, 0] rfl (hO28 _ _ _ _ _ _ _ _ _ h)
    · replace h := h.2 c20
      refine aw_aload_n 3231 dL_law_3230 rfl 5 rfl rfl ?_
      refine aw_iconst 3232 (v := 0) dL_law_3231 kI_0 rfl ?_
      obtain ⟨g21, h⟩ := h
      obtain ⟨g22, h⟩ := h
      refine aw_laload 3233 dL_law_3232 g21 g22 rfl ?_
      refine aw_iload 3235 dL_law_3233 0 rfl rfl ?_
      refine aw_i2l 3236 dL_law_3235 rfl ?_
      refine aw_lcmp 3237 dL_law_3236 rfl ?_
      refine aw_if_eq 3242 3240 dL_law_3237 rfl rfl (fun c23 => ?_) (fun c23 => ?_)
      · replace h := h.1 c23
        refine aw_goto 3937 dL_law_3242 rfl ?_
        refine aw_iinc 3940 (v := 4) (lv' := [(5, _), (7, _), (6, _), (0, _), (1, _), (2, _), (3, _), (4, _)]) dL_law_3937 7 rfl kI_4 (ltb rfl) rfl rfl ?_
        refine aw_goto 28 dL_law_3940 rfl ?_
        exact aw_pick [3, 4, 5, 6, 7, 0] rfl (hO28 _ _ _ _ _ _ _ _ _ h)
      · replace h := h.2 c23
        refine aw_iconst 3241 (v := 0) dL_law_3240 kI_0 rfl ?_
        obtain ⟨g24, h⟩ := h
        obtain ⟨g25, h⟩ := h
        exact aw_ireturn (ty := .boolean) dL_law_3241 rfl rfl g24 g25 ⟨_, rfl, h⟩
  · replace h := h.2 c19
    refine aw_iconst 3224 (v := 0) dL_law_3223 kI_0 rfl ?_
    obtain ⟨g26, h⟩ := h
    obtain ⟨g27, h⟩ := h
    exact aw_ireturn (ty := .boolean) dL_law_3224 rfl rfl g26 g27 ⟨_, rfl, h⟩
set_option maxRecDepth 20000 in
theorem aw_L_law_3245 {G : GG} (hG : G.1.stackTraces = false) {P28 : Nat → Nat → Nat → Nat → Nat → Int32 → Nat → Nat → XH → Prop} {l0 : Nat} {l1 : Nat} {l2 : Nat} {l3 : Nat} {l4 : Nat} {l5 : Int32} {cc : Nat} {ss : Nat} {X : XH} {K : Int32 → XH → Prop} (hO28 : ∀ (l0 : Nat) (l1 : Nat) (l2 : Nat) (l3 : Nat) (l4 : Nat) (l5 : Int32) (cc : Nat) (ss : Nat) (X : XH), P28 l0 l1 l2 l3 l4 l5 cc ss X → AW G M_L_law 28 [(0, .ref 0), (1, .ref l1), (2, .ref l2), (3, .ref l3), (4, .ref l4), (5, .int l5)] [] X cc ss (KrI K)) (h : w_L_law_3245 G P28 l0 l1 l2 l3 l4 l5 cc ss X K) : AW G M_L_law 3245 [(0, .ref 0), (1, .ref l1), (2, .ref l2), (3, .ref l3), (4, .ref l4), (5, .int l5)] [] X cc ss (KrI K) := by
  unfold w_L_law_3245 at h
  refine aw_aload_n 3246 dL_law_3245 rfl 1 rfl rfl ?_
  refine aw_aload_n 3247 dL_law_3246 rfl 0 rfl rfl ?_
  refine aw_iload 3249 dL_law_3247 5 rfl rfl ?_
  refine aw_iconst 3250 (v := 1) dL_law_3249 kI_1 rfl ?_
  refine aw_iadd 3251 dL_law_3250 rfl ?_
  obtain ⟨g1, h⟩ := h
  refine aw_sld 3252 dL_law_3251 g1 rfl ?_
  refine aw_aload_n 3253 dL_law_3252 rfl 3 rfl rfl ?_
  obtain ⟨g2, h⟩ := h
  obtain ⟨g3, h⟩ := h
  refine aw_callSX (M' := M_L_annexOf) 3256 349 [.ref _, .int _, .ref _] [] dL_law_3253 lk_RL_349 ms_L_annexOf mp_L_annexOf (0, 9, 12, 13) [] rfl ⟨leb rfl, leb rfl⟩ rfl (leb rfl) g2 g3 rfl (am_L_annexOf hG h) (kkI fun v5 X4 h => ?_) (kxN KrI.no)
  refine aw_widen (cc' := cc + 1) (ss' := ss + 6) (Nat.le_refl _) (Nat.le_refl _) ?_
  refine aw_istore 3258 (lv' := [(6, _), (0, _), (1, _), (2, _), (3, _), (4, _), (5, _)]) dL_law_3256 (ltb rfl) rfl rfl ?_
  refine aw_aload_n 3259 dL_law_3258 rfl 3 rfl rfl ?_
  refine aw_aload_n 3260 dL_law_3259 rfl 1 rfl rfl ?_
  refine aw_iload 3262 dL_law_3260 6 rfl rfl ?_
  refine aw_iconst 3263 (v := 1) dL_law_3262 kI_1 rfl ?_
  refine aw_iadd 3264 dL_law_3263 rfl ?_
  obtain ⟨g6, h⟩ := h
  refine aw_sld 3265 dL_law_3264 g6 rfl ?_
  obtain ⟨g7, h⟩ := h
  obtain ⟨g8, h⟩ := h
  obtain ⟨g11, h⟩ := h
  refine aw_callV (M' := M_X5_annexOf) 3268 351 5 l2 [.int _] [] dL_law_3265 lk_RL_351 mv_X5_annexOf mp_X5_annexOf rfl ⟨leb rfl, leb rfl⟩ rfl (ltb rfl) g11 rfl (leb rfl) g7 g8 rfl (am_X5_annexOf hG h) (kkI fun v10 X9 h => ?_) (kxN KrI.no)
  refine aw_widen (cc' := cc + 1) (ss' := ss + 6) (Nat.le_refl _) (Nat.le_refl _) ?_
  refine aw_istore 3270 (lv' := [(7, _), (6, _), (0, _), (1, _), (2, _), (3, _), (4, _), (5, _)]) dL_law_3268 (ltb rfl) rfl rfl ?_
  refine aw_aload_n 3271 dL_law_3270 rfl 4 rfl rfl ?_
  obtain ⟨g12, h⟩ := h
  obtain ⟨g13, h⟩ := h
  obtain ⟨g16, h⟩ := h
  refine aw_callV (M' := M_X5_thrown) 3274 196 5 l2 [] [] dL_law_3271 lk_RL_196 mv_X5_thrown mp_X5_thrown rfl ⟨leb rfl, leb rfl⟩ rfl (ltb rfl) g16 rfl (leb rfl) g12 g13 rfl (am_X5_thrown hG h) (kkI fun v15 X14 h => ?_) (kxN KrI.no)
  refine aw_widen (cc' := cc + 1) (ss' := ss + 6) (Nat.le_refl _) (Nat.le_refl _) ?_
  refine aw_iload 3276 dL_law_3274 1 rfl rfl ?_
  refine aw_icmp_eq 3281 3279 dL_law_3276 rfl rfl (fun c17 => ?_) (fun c17 => ?_)
  · replace h := h.1 c17
    refine aw_iload 3283 dL_law_3281 1 rfl rfl ?_
    refine aw_if_ne 3298 3286 dL_law_3283 rfl rfl (fun c18 => ?_) (fun c18 => ?_)
    · replace h := h.1 c18
      refine aw_goto 3937 dL_law_3298 rfl ?_
      refine aw_iinc 3940 (v := 4) (lv' := [(5, _), (7, _), (6, _), (0, _), (1, _), (2, _), (3, _), (4, _)]) dL_law_3937 7 rfl kI_4 (ltb rfl) rfl rfl ?_
      refine aw_goto 28 dL_law_3940 rfl ?_
      exact aw_pick [3, 4, 5, 6, 7, 0] rfl (hO28 _ _ _ _ _ _ _ _ _ h)
    · replace h := h.2 c18
      refine aw_aload_n 3287 dL_law_3286 rfl 5 rfl rfl ?_
      refine aw_iconst 3288 (v := 0) dL_law_3287 kI_0 rfl ?_
      obtain ⟨g19, h⟩ := h
      obtain ⟨g20, h⟩ := h
      refine aw_laload 3289 dL_law_3288 g19 g20 rfl ?_
      refine aw_iload 3291 dL_law_3289 0 rfl rfl ?_
      refine aw_i2l 3292 dL_law_3291 rfl ?_
      refine aw_lcmp 3293 dL_law_3292 rfl ?_
      refine aw_if_eq 3298 3296 dL_law_3293 rfl rfl (fun c21 => ?_) (fun c21 => ?_)
      · replace h := h.1 c21
        refine aw_goto 3937 dL_law_3298 rfl ?_
        refine aw_iinc 3940 (v := 4) (lv' := [(5, _), (7, _), (6, _), (0, _), (1, _), (2, _), (3, _), (4, _)]) dL_law_3937 7 rfl kI_4 (ltb rfl) rfl rfl ?_
        refine aw_goto 28 dL_law_3940 rfl ?_
        exact aw_pick [3, 4, 5, 6, 7, 0] rfl (hO28 _ _ _ _ _ _ _ _ _ h)
      · replace h := h.2 c21
        refine aw_iconst 3297 (v := 0) dL_law_3296 kI_0 rfl ?_
        obtain ⟨g22, h⟩ := h
        obtain ⟨g23, h⟩ := h
        exact aw_ireturn (ty := .boolean) dL_law_3297 rfl rfl g22 g23 ⟨_, rfl, h⟩
  · replace h := h.2 c17
    refine aw_iconst 3280 (v := 0) dL_law_3279 kI_0 rfl ?_
    obtain ⟨g24, h⟩ := h
    obtain ⟨g25, h⟩ := h
    exact aw_ireturn (ty := .boolean) dL_law_3280 rfl rfl g24 g25 ⟨_, rfl, h⟩
set_option maxRecDepth 20000 in
theorem aw_L_law_3301 {G : GG} (hG : G.1.stackTraces = false) {P28 : Nat → Nat → Nat → Nat → Nat → Int32 → Nat → Nat → XH → Prop} {l0 : Nat} {l1 : Nat} {l2 : Nat} {l3 : Nat} {l4 : Nat} {l5 : Int32} {cc : Nat} {ss : Nat} {X : XH} {K : Int32 → XH → Prop} (hO28 : ∀ (l0 : Nat) (l1 : Nat) (l2 : Nat) (l3 : Nat) (l4 : Nat) (l5 : Int32) (cc : Nat) (ss : Nat) (X : XH), P28 l0 l1 l2 l3 l4 l5 cc ss X → AW G M_L_law 28 [(0, .ref 0), (1, .ref l1), (2, .ref l2), (3, .ref l3), (4, .ref l4), (5, .int l5)] [] X cc ss (KrI K)) (h : w_L_law_3301 G P28 l0 l1 l2 l3 l4 l5 cc ss X K) : AW G M_L_law 3301 [(0, .ref 0), (1, .ref l1), (2, .ref l2), (3, .ref l3), (4, .ref l4), (5, .int l5)] [] X cc ss (KrI K) := by
  unfold w_L_law_3301 at h
  refine aw_aload_n 3302 dL_law_3301 rfl 1 rfl rfl ?_
  refine aw_aload_n 3303 dL_law_3302 rfl 0 rfl rfl ?_
  refine aw_iload 3305 dL_law_3303 5 rfl rfl ?_
  refine aw_iconst 3306 (v := 1) dL_law_3305 kI_1 rfl ?_
  refine aw_iadd 3307 dL_law_3306 rfl ?_
  obtain ⟨g1, h⟩ := h
  refine aw_sld 3308 dL_law_3307 g1 rfl ?_
  refine aw_aload_n 3309 dL_law_3308 rfl 3 rfl rfl ?_
  obtain ⟨g2, h⟩ := h
  obtain ⟨g3, h⟩ := h
  refine aw_callSX (M' := M_L_recordedIn) 3312 352 [.ref _, .int _, .ref _] [] dL_law_3309 lk_RL_352 ms_L_recordedIn mp_L_recordedIn (0, 9, 12, 13) [] rfl ⟨leb rfl, leb rfl⟩ rfl (leb rfl) g2 g3 rfl (am_L_recordedIn hG h) (kkI fun v5 X4 h => ?_) (kxN KrI.no)
  refine aw_widen (cc' := cc + 1) (ss' := ss + 6) (Nat.le_refl _) (Nat.le_refl _) ?_
  refine aw_istore 3314 (lv' := [(6, _), (0, _), (1, _), (2, _), (3, _), (4, _), (5, _)]) dL_law_3312 (ltb rfl) rfl rfl ?_
  refine aw_aload_n 3315 dL_law_3314 rfl 3 rfl rfl ?_
  refine aw_aload_n 3316 dL_law_3315 rfl 1 rfl rfl ?_
  refine aw_iload 3318 dL_law_3316 6 rfl rfl ?_
  refine aw_iconst 3319 (v := 1) dL_law_3318 kI_1 rfl ?_
  refine aw_iadd 3320 dL_law_3319 rfl ?_
  obtain ⟨g6, h⟩ := h
  refine aw_sld 3321 dL_law_3320 g6 rfl ?_
  obtain ⟨g7, h⟩ := h
  obtain ⟨g8, h⟩ := h
  obtain ⟨g11, h⟩ := h
  refine aw_callV (M' := M_X5_recordedIn) 3324 354 5 l2 [.int _] [] dL_law_3321 lk_RL_354 mv_X5_recordedIn mp_X5_recordedIn rfl ⟨leb rfl, leb rfl⟩ rfl (ltb rfl) g11 rfl (leb rfl) g7 g8 rfl (am_X5_recordedIn hG h) (kkI fun v10 X9 h => ?_) (kxN KrI.no)
  refine aw_widen (cc' := cc + 1) (ss' := ss + 6) (Nat.le_refl _) (Nat.le_refl _) ?_
  refine aw_istore 3326 (lv' := [(7, _), (6, _), (0, _), (1, _), (2, _), (3, _), (4, _), (5, _)]) dL_law_3324 (ltb rfl) rfl rfl ?_
  refine aw_aload_n 3327 dL_law_3326 rfl 4 rfl rfl ?_
  obtain ⟨g12, h⟩ := h
  obtain ⟨g13, h⟩ := h
  obtain ⟨g16, h⟩ := h
  refine aw_callV (M' := M_X5_thrown) 3330 196 5 l2 [] [] dL_law_3327 lk_RL_196 mv_X5_thrown mp_X5_thrown rfl ⟨leb rfl, leb rfl⟩ rfl (ltb rfl) g16 rfl (leb rfl) g12 g13 rfl (am_X5_thrown hG h) (kkI fun v15 X14 h => ?_) (kxN KrI.no)
  refine aw_widen (cc' := cc + 1) (ss' := ss + 6) (Nat.le_refl _) (Nat.le_refl _) ?_
  refine aw_iload 3332 dL_law_3330 1 rfl rfl ?_
  refine aw_icmp_eq 3337 3335 dL_law_3332 rfl rfl (fun c17 => ?_) (fun c17 => ?_)
  · replace h := h.1 c17
    refine aw_iload 3339 dL_law_3337 1 rfl rfl ?_
    refine aw_if_ne 3354 3342 dL_law_3339 rfl rfl (fun c18 => ?_) (fun c18 => ?_)
    · replace h := h.1 c18
      refine aw_goto 3937 dL_law_3354 rfl ?_
      refine aw_iinc 3940 (v := 4) (lv' := [(5, _), (7, _), (6, _), (0, _), (1, _), (2, _), (3, _), (4, _)]) dL_law_3937 7 rfl kI_4 (ltb rfl) rfl rfl ?_
      refine aw_goto 28 dL_law_3940 rfl ?_
      exact aw_pick [3, 4, 5, 6, 7, 0] rfl (hO28 _ _ _ _ _ _ _ _ _ h)
    · replace h := h.2 c18
      refine aw_aload_n 3343 dL_law_3342 rfl 5 rfl rfl ?_
      refine aw_iconst 3344 (v := 0) dL_law_3343 kI_0 rfl ?_
      obtain ⟨g19, h⟩ := h
      obtain ⟨g20, h⟩ := h
      refine aw_laload 3345 dL_law_3344 g19 g20 rfl ?_
      refine aw_iload 3347 dL_law_3345 0 rfl rfl ?_
      refine aw_i2l 3348 dL_law_3347 rfl ?_
      refine aw_lcmp 3349 dL_law_3348 rfl ?_
      refine aw_if_eq 3354 3352 dL_law_3349 rfl rfl (fun c21 => ?_) (fun c21 => ?_)
      · replace h := h.1 c21
        refine aw_goto 3937 dL_law_3354 rfl ?_
        refine aw_iinc 3940 (v := 4) (lv' := [(5, _), (7, _), (6, _), (0, _), (1, _), (2, _), (3, _), (4, _)]) dL_law_3937 7 rfl kI_4 (ltb rfl) rfl rfl ?_
        refine aw_goto 28 dL_law_3940 rfl ?_
        exact aw_pick [3, 4, 5, 6, 7, 0] rfl (hO28 _ _ _ _ _ _ _ _ _ h)
      · replace h := h.2 c21
        refine aw_iconst 3353 (v := 0) dL_law_3352 kI_0 rfl ?_
        obtain ⟨g22, h⟩ := h
        obtain ⟨g23, h⟩ := h
        exact aw_ireturn (ty := .boolean) dL_law_3353 rfl rfl g22 g23 ⟨_, rfl, h⟩
  · replace h := h.2 c17
    refine aw_iconst 3336 (v := 0) dL_law_3335 kI_0 rfl ?_
    obtain ⟨g24, h⟩ := h
    obtain ⟨g25, h⟩ := h
    exact aw_ireturn (ty := .boolean) dL_law_3336 rfl rfl g24 g25 ⟨_, rfl, h⟩
set_option maxRecDepth 20000 in
theorem aw_L_law_3357 {G : GG} (hG : G.1.stackTraces = false) {P28 : Nat → Nat → Nat → Nat → Nat → Int32 → Nat → Nat → XH → Prop} {l0 : Nat} {l1 : Nat} {l2 : Nat} {l3 : Nat} {l4 : Nat} {l5 : Int32} {cc : Nat} {ss : Nat} {X : XH} {K : Int32 → XH → Prop} (hO28 : ∀ (l0 : Nat) (l1 : Nat) (l2 : Nat) (l3 : Nat) (l4 : Nat) (l5 : Int32) (cc : Nat) (ss : Nat) (X : XH), P28 l0 l1 l2 l3 l4 l5 cc ss X → AW G M_L_law 28 [(0, .ref 0), (1, .ref l1), (2, .ref l2), (3, .ref l3), (4, .ref l4), (5, .int l5)] [] X cc ss (KrI K)) (h : w_L_law_3357 G P28 l0 l1 l2 l3 l4 l5 cc ss X K) : AW G M_L_law 3357 [(0, .ref 0), (1, .ref l1), (2, .ref l2), (3, .ref l3), (4, .ref l4), (5, .int l5)] [] X cc ss (KrI K) := by
  unfold w_L_law_3357 at h
  refine aw_aload_n 3358 dL_law_3357 rfl 1 rfl rfl ?_
  refine aw_aload_n 3359 dL_law_3358 rfl 0 rfl rfl ?_
  refine aw_iload 3361 dL_law_3359 5 rfl rfl ?_
  refine aw_iconst 3362 (v := 1) dL_law_3361 kI_1 rfl ?_
  refine aw_iadd 3363 dL_law_3362 rfl ?_
  obtain ⟨g1, h⟩ := h
  refine aw_sld 3364 dL_law_3363 g1 rfl ?_
  refine aw_aload_n 3365 dL_law_3364 rfl 3 rfl rfl ?_
  obtain ⟨g2, h⟩ := h
  obtain ⟨g3, h⟩ := h
  refine aw_callSX (M' := M_L_readyByClauses) 3368 355 [.ref _, .int _, .ref _] [] dL_law_3365 lk_RL_355 ms_L_readyByClauses mp_L_readyByClauses (0, 9, 12, 13) [] rfl ⟨leb rfl, leb rfl⟩ rfl (leb rfl) g2 g3 rfl (am_L_readyByClauses hG h) (kkI fun v5 X4 h => ?_) (kxN KrI.no)
  refine aw_widen (cc' := cc + 1) (ss' := ss + 6) (Nat.le_refl _) (Nat.le_refl _) ?_
  refine aw_istore 3370 (lv' := [(6, _), (0, _), (1, _), (2, _), (3, _), (4, _), (5, _)]) dL_law_3368 (ltb rfl) rfl rfl ?_
  refine aw_aload_n 3371 dL_law_3370 rfl 3 rfl rfl ?_
  refine aw_aload_n 3372 dL_law_3371 rfl 1 rfl rfl ?_
  refine aw_iload 3374 dL_law_3372 6 rfl rfl ?_
  refine aw_iconst 3375 (v := 1) dL_law_3374 kI_1 rfl ?_
  refine aw_iadd 3376 dL_law_3375 rfl ?_
  obtain ⟨g6, h⟩ := h
  refine aw_sld 3377 dL_law_3376 g6 rfl ?_
  obtain ⟨g7, h⟩ := h
  obtain ⟨g8, h⟩ := h
  obtain ⟨g11, h⟩ := h
  refine aw_callV (M' := M_X5_readyByClauses) 3380 357 5 l2 [.int _] [] dL_law_3377 lk_RL_357 mv_X5_readyByClauses mp_X5_readyByClauses rfl ⟨leb rfl, leb rfl⟩ rfl (ltb rfl) g11 rfl (leb rfl) g7 g8 rfl (am_X5_readyByClauses hG h) (kkI fun v10 X9 h => ?_) (kxN KrI.no)
  refine aw_widen (cc' := cc + 1) (ss' := ss + 6) (Nat.le_refl _) (Nat.le_refl _) ?_
  refine aw_istore 3382 (lv' := [(7, _), (6, _), (0, _), (1, _), (2, _), (3, _), (4, _), (5, _)]) dL_law_3380 (ltb rfl) rfl rfl ?_
  refine aw_aload_n 3383 dL_law_3382 rfl 4 rfl rfl ?_
  obtain ⟨g12, h⟩ := h
  obtain ⟨g13, h⟩ := h
  obtain ⟨g16, h⟩ := h
  refine aw_callV (M' := M_X5_thrown) 3386 196 5 l2 [] [] dL_law_3383 lk_RL_196 mv_X5_thrown mp_X5_thrown rfl ⟨leb rfl, leb rfl⟩ rfl (ltb rfl) g16 rfl (leb rfl) g12 g13 rfl (am_X5_thrown hG h) (kkI fun v15 X14 h => ?_) (kxN KrI.no)
  refine aw_widen (cc' := cc + 1) (ss' := ss + 6) (Nat.le_refl _) (Nat.le_refl _) ?_
  refine aw_iload 3388 dL_law_3386 1 rfl rfl ?_
  refine aw_icmp_eq 3393 3391 dL_law_3388 rfl rfl (fun c17 => ?_) (fun c17 => ?_)
  · replace h := h.1 c17
    refine aw_iload 3395 dL_law_3393 1 rfl rfl ?_
    refine aw_if_ne 3410 3398 dL_law_3395 rfl rfl (fun c18 => ?_) (fun c18 => ?_)
    · replace h := h.1 c18
      refine aw_goto 3937 dL_law_3410 rfl ?_
      refine aw_iinc 3940 (v := 4) (lv' := [(5, _), (7, _), (6, _), (0, _), (1, _), (2, _), (3, _), (4, _)]) dL_law_3937 7 rfl kI_4 (ltb rfl) rfl rfl ?_
      refine aw_goto 28 dL_law_3940 rfl ?_
      exact aw_pick [3, 4, 5, 6, 7, 0] rfl (hO28 _ _ _ _ _ _ _ _ _ h)
    · replace h := h.2 c18
      refine aw_aload_n 3399 dL_law_3398 rfl 5 rfl rfl ?_
      refine aw_iconst 3400 (v := 0) dL_law_3399 kI_0 rfl ?_
      obtain ⟨g19, h⟩ := h
      obtain ⟨g20, h⟩ := h
      refine aw_laload 3401 dL_law_3400 g19 g20 rfl ?_
      refine aw_iload 3403 dL_law_3401 0 rfl rfl ?_
      refine aw_i2l 3404 dL_law_3403 rfl ?_
      refine aw_lcmp 3405 dL_law_3404 rfl ?_
      refine aw_if_eq 3410 3408 dL_law_3405 rfl rfl (fun c21 => ?_) (fun c21 => ?_)
      · replace h := h.1 c21
        refine aw_goto 3937 dL_law_3410 rfl ?_
        refine aw_iinc 3940 (v := 4) (lv' := [(5, _), (7, _), (6, _), (0, _), (1, _), (2, _), (3, _), (4, _)]) dL_law_3937 7 rfl kI_4 (ltb rfl) rfl rfl ?_
        refine aw_goto 28 dL_law_3940 rfl ?_
        exact aw_pick [3, 4, 5, 6, 7, 0] rfl (hO28 _ _ _ _ _ _ _ _ _ h)
      · replace h := h.2 c21
        refine aw_iconst 3409 (v := 0) dL_law_3408 kI_0 rfl ?_
        obtain ⟨g22, h⟩ := h
        obtain ⟨g23, h⟩ := h
        exact aw_ireturn (ty := .boolean) dL_law_3409 rfl rfl g22 g23 ⟨_, rfl, h⟩
  · replace h := h.2 c17
    refine aw_iconst 3392 (v := 0) dL_law_3391 kI_0 rfl ?_
    obtain ⟨g24, h⟩ := h
    obtain ⟨g25, h⟩ := h
    exact aw_ireturn (ty := .boolean) dL_law_3392 rfl rfl g24 g25 ⟨_, rfl, h⟩
set_option maxRecDepth 20000 in
theorem aw_L_law_3413 {G : GG} (hG : G.1.stackTraces = false) {P28 : Nat → Nat → Nat → Nat → Nat → Int32 → Nat → Nat → XH → Prop} {l0 : Nat} {l1 : Nat} {l2 : Nat} {l3 : Nat} {l4 : Nat} {l5 : Int32} {cc : Nat} {ss : Nat} {X : XH} {K : Int32 → XH → Prop} (hO28 : ∀ (l0 : Nat) (l1 : Nat) (l2 : Nat) (l3 : Nat) (l4 : Nat) (l5 : Int32) (cc : Nat) (ss : Nat) (X : XH), P28 l0 l1 l2 l3 l4 l5 cc ss X → AW G M_L_law 28 [(0, .ref 0), (1, .ref l1), (2, .ref l2), (3, .ref l3), (4, .ref l4), (5, .int l5)] [] X cc ss (KrI K)) (h : w_L_law_3413 G P28 l0 l1 l2 l3 l4 l5 cc ss X K) : AW G M_L_law 3413 [(0, .ref 0), (1, .ref l1), (2, .ref l2), (3, .ref l3), (4, .ref l4), (5, .int l5)] [] X cc ss (KrI K) := by
  unfold w_L_law_3413 at h
  refine aw_aload_n 3414 dL_law_3413 rfl 1 rfl rfl ?_
  refine aw_aload_n 3415 dL_law_3414 rfl 0 rfl rfl ?_
  refine aw_iload 3417 dL_law_3415 5 rfl rfl ?_
  refine aw_iconst 3418 (v := 1) dL_law_3417 kI_1 rfl ?_
  refine aw_iadd 3419 dL_law_3418 rfl ?_
  obtain ⟨g1, h⟩ := h
  refine aw_sld 3420 dL_law_3419 g1 rfl ?_
  refine aw_aload_n 3421 dL_law_3420 rfl 3 rfl rfl ?_
  obtain ⟨g2, h⟩ := h
  obtain ⟨g3, h⟩ := h
  refine aw_callSX (M' := M_L_readyByVoices) 3424 358 [.ref _, .int _, .ref _] [] dL_law_3421 lk_RL_358 ms_L_readyByVoices mp_L_readyByVoices (0, 9, 12, 13) [] rfl ⟨leb rfl, leb rfl⟩ rfl (leb rfl) g2 g3 rfl (am_L_readyByVoices hG h) (kkI fun v5 X4 h => ?_) (kxN KrI.no)
  refine aw_widen (cc' := cc + 1) (ss' := ss + 6) (Nat.le_refl _) (Nat.le_refl _) ?_
  refine aw_istore 3426 (lv' := [(6, _), (0, _), (1, _), (2, _), (3, _), (4, _), (5, _)]) dL_law_3424 (ltb rfl) rfl rfl ?_
  refine aw_aload_n 3427 dL_law_3426 rfl 3 rfl rfl ?_
  refine aw_aload_n 3428 dL_law_3427 rfl 1 rfl rfl ?_
  refine aw_iload 3430 dL_law_3428 6 rfl rfl ?_
  refine aw_iconst 3431 (v := 1) dL_law_3430 kI_1 rfl ?_
  refine aw_iadd 3432 dL_law_3431 rfl ?_
  obtain ⟨g6, h⟩ := h
  refine aw_sld 3433 dL_law_3432 g6 rfl ?_
  obtain ⟨g7, h⟩ := h
  obtain ⟨g8, h⟩ := h
  obtain ⟨g11, h⟩ := h
  refine aw_callV (M' := M_X5_readyByVoices) 3436 360 5 l2 [.int _] [] dL_law_3433 lk_RL_360 mv_X5_readyByVoices mp_X5_readyByVoices rfl ⟨leb rfl, leb rfl⟩ rfl (ltb rfl) g11 rfl (leb rfl) g7 g8 rfl (am_X5_readyByVoices hG h) (kkI fun v10 X9 h => ?_) (kxN KrI.no)
  refine aw_widen (cc' := cc + 1) (ss' := ss + 6) (Nat.le_refl _) (Nat.le_refl _) ?_
  refine aw_istore 3438 (lv' := [(7, _), (6, _), (0, _), (1, _), (2, _), (3, _), (4, _), (5, _)]) dL_law_3436 (ltb rfl) rfl rfl ?_
  refine aw_aload_n 3439 dL_law_3438 rfl 4 rfl rfl ?_
  obtain ⟨g12, h⟩ := h
  obtain ⟨g13, h⟩ := h
  obtain ⟨g16, h⟩ := h
  refine aw_callV (M' := M_X5_thrown) 3442 196 5 l2 [] [] dL_law_3439 lk_RL_196 mv_X5_thrown mp_X5_thrown rfl ⟨leb rfl, leb rfl⟩ rfl (ltb rfl) g16 rfl (leb rfl) g12 g13 rfl (am_X5_thrown hG h) (kkI fun v15 X14 h => ?_) (kxN KrI.no)
  refine aw_widen (cc' := cc + 1) (ss' := ss + 6) (Nat.le_refl _) (Nat.le_refl _) ?_
  refine aw_iload 3444 dL_law_3442 1 rfl rfl ?_
  refine aw_icmp_eq 3449 3447 dL_law_3444 rfl rfl (fun c17 => ?_) (fun c17 => ?_)
  · replace h := h.1 c17
    refine aw_iload 3451 dL_law_3449 1 rfl rfl ?_
    refine aw_if_ne 3466 3454 dL_law_3451 rfl rfl (fun c18 => ?_) (fun c18 => ?_)
    · replace h := h.1 c18
      refine aw_goto 3937 dL_law_3466 rfl ?_
      refine aw_iinc 3940 (v := 4) (lv' := [(5, _), (7, _), (6, _), (0, _), (1, _), (2, _), (3, _), (4, _)]) dL_law_3937 7 rfl kI_4 (ltb rfl) rfl rfl ?_
      refine aw_goto 28 dL_law_3940 rfl ?_
      exact aw_pick [3, 4, 5, 6, 7, 0] rfl (hO28 _ _ _ _ _ _ _ _ _ h)
    · replace h := h.2 c18
      refine aw_aload_n 3455 dL_law_3454 rfl 5 rfl rfl ?_
      refine aw_iconst 3456 (v := 0) dL_law_3455 kI_0 rfl ?_
      obtain ⟨g19, h⟩ := h
      obtain ⟨g20, h⟩ := h
      refine aw_laload 3457 dL_law_3456 g19 g20 rfl ?_
      refine aw_iload 3459 dL_law_3457 0 rfl rfl ?_
      refine aw_i2l 3460 dL_law_3459 rfl ?_
      refine aw_lcmp 3461 dL_law_3460 rfl ?_
      refine aw_if_eq 3466 3464 dL_law_3461 rfl rfl (fun c21 => ?_) (fun c21 => ?_)
      · replace h := h.1 c21
        refine aw_goto 3937 dL_law_3466 rfl ?_
        refine aw_iinc 3940 (v := 4) (lv' := [(5, _), (7, _), (6, _), (0, _), (1, _), (2, _), (3, _), (4, _)]) dL_law_3937 7 rfl kI_4 (ltb rfl) rfl rfl ?_
        refine aw_goto 28 dL_law_3940 rfl ?_
        exact aw_pick [3, 4, 5, 6, 7, 0] rfl (hO28 _ _ _ _ _ _ _ _ _ h)
      · replace h := h.2 c21
        refine aw_iconst 3465 (v := 0) dL_law_3464 kI_0 rfl ?_
        obtain ⟨g22, h⟩ := h
        obtain ⟨g23, h⟩ := h
        exact aw_ireturn (ty := .boolean) dL_law_3465 rfl rfl g22 g23 ⟨_, rfl, h⟩
  · replace h := h.2 c17
    refine aw_iconst 3448 (v := 0) dL_law_3447 kI_0 rfl ?_
    obtain ⟨g24, h⟩ := h
    obtain ⟨g25, h⟩ := h
    exact aw_ireturn (ty := .boolean) dL_law_3448 rfl rfl g24 g25 ⟨_, rfl, h⟩
set_option maxRecDepth 20000 in
theorem aw_L_law_3469 {G : GG} (hG : G.1.stackTraces = false) {P28 : Nat → Nat → Nat → Nat → Nat → Int32 → Nat → Nat → XH → Prop} {l0 : Nat} {l1 : Nat} {l2 : Nat} {l3 : Nat} {l4 : Nat} {l5 : Int32} {cc : Nat} {ss : Nat} {X : XH} {K : Int32 → XH → Prop} (hO28 : ∀ (l0 : Nat) (l1 : Nat) (l2 : Nat) (l3 : Nat) (l4 : Nat) (l5 : Int32) (cc : Nat) (ss : Nat) (X : XH), P28 l0 l1 l2 l3 l4 l5 cc ss X → AW G M_L_law 28 [(0, .ref 0), (1, .ref l1), (2, .ref l2), (3, .ref l3), (4, .ref l4), (5, .int l5)] [] X cc ss (KrI K)) (h : w_L_law_3469 G P28 l0 l1 l2 l3 l4 l5 cc ss X K) : AW G M_L_law 3469 [(0, .ref 0), (1, .ref l1), (2, .ref l2), (3, .ref l3), (4, .ref l4), (5, .int l5)] [] X cc ss (KrI K) := by
  unfold w_L_law_3469 at h
  refine aw_aload_n 3470 dL_law_3469 rfl 1 rfl rfl ?_
  refine aw_aload_n 3471 dL_law_3470 rfl 0 rfl rfl ?_
  refine aw_iload 3473 dL_law_3471 5 rfl rfl ?_
  refine aw_iconst 3474 (v := 1) dL_law_3473 kI_1 rfl ?_
  refine aw_iadd 3475 dL_law_3474 rfl ?_
  obtain ⟨g1, h⟩ := h
  refine aw_sld 3476 dL_law_3475 g1 rfl ?_
  refine aw_aload_n 3477 dL_law_3476 rfl 3 rfl rfl ?_
  obtain ⟨g2, h⟩ := h
  obtain ⟨g3, h⟩ := h
  refine aw_callSX (M' := M_L_isRatified) 3480 361 [.ref _, .int _, .ref _] [] dL_law_3477 lk_RL_361 ms_L_isRatified mp_L_isRatified (0, 16, 19, 13) [] rfl ⟨leb rfl, leb rfl⟩ rfl (leb rfl) g2 g3 rfl (am_L_isRatified hG h) (kkI fun v5 X4 h => ?_) (kxN KrI.no)
  refine aw_widen (cc' := cc + 1) (ss' := ss + 6) (Nat.le_refl _) (Nat.le_refl _) ?_
  refine aw_istore 3482 (lv' := [(6, _), (0, _), (1, _), (2, _), (3, _), (4, _), (5, _)]) dL_law_3480 (ltb rfl) rfl rfl ?_
  refine aw_aload_n 3483 dL_law_3482 rfl 3 rfl rfl ?_
  refine aw_aload_n 3484 dL_law_3483 rfl 1 rfl rfl ?_
  refine aw_iload 3486 dL_law_3484 6 rfl rfl ?_
  refine aw_iconst 3487 (v := 1) dL_law_3486 kI_1 rfl ?_
  refine aw_iadd 3488 dL_law_3487 rfl ?_
  obtain ⟨g6, h⟩ := h
  refine aw_sld 3489 dL_law_3488 g6 rfl ?_
  obtain ⟨g7, h⟩ := h
  obtain ⟨g8, h⟩ := h
  obtain ⟨g11, h⟩ := h
  refine aw_callV (M' := M_X5_isRatified) 3492 363 5 l2 [.int _] [] dL_law_3489 lk_RL_363 mv_X5_isRatified mp_X5_isRatified rfl ⟨leb rfl, leb rfl⟩ rfl (ltb rfl) g11 rfl (leb rfl) g7 g8 rfl (am_X5_isRatified hG h) (kkI fun v10 X9 h => ?_) (kxN KrI.no)
  refine aw_widen (cc' := cc + 1) (ss' := ss + 6) (Nat.le_refl _) (Nat.le_refl _) ?_
  refine aw_istore 3494 (lv' := [(7, _), (6, _), (0, _), (1, _), (2, _), (3, _), (4, _), (5, _)]) dL_law_3492 (ltb rfl) rfl rfl ?_
  refine aw_aload_n 3495 dL_law_3494 rfl 4 rfl rfl ?_
  obtain ⟨g12, h⟩ := h
  obtain ⟨g13, h⟩ := h
  obtain ⟨g16, h⟩ := h
  refine aw_callV (M' := M_X5_thrown) 3498 196 5 l2 [] [] dL_law_3495 lk_RL_196 mv_X5_thrown mp_X5_thrown rfl ⟨leb rfl, leb rfl⟩ rfl (ltb rfl) g16 rfl (leb rfl) g12 g13 rfl (am_X5_thrown hG h) (kkI fun v15 X14 h => ?_) (kxN KrI.no)
  refine aw_widen (cc' := cc + 1) (ss' := ss + 6) (Nat.le_refl _) (Nat.le_refl _) ?_
  refine aw_iload 3500 dL_law_3498 1 rfl rfl ?_
  refine aw_icmp_eq 3505 3503 dL_law_3500 rfl rfl (fun c17 => ?_) (fun c17 => ?_)
  · replace h := h.1 c17
    refine aw_iload 3507 dL_law_3505 1 rfl rfl ?_
    refine aw_if_ne 3529 3510 dL_law_3507 rfl rfl (fun c18 => ?_) (fun c18 => ?_)
    · replace h := h.1 c18
      refine aw_goto 3937 dL_law_3529 rfl ?_
      refine aw_iinc 3940 (v := 4) (lv' := [(5, _), (7, _), (6, _), (0, _), (1, _), (2, _), (3, _), (4, _)]) dL_law_3937 7 rfl kI_4 (ltb rfl) rfl rfl ?_
      refine aw_goto 28 dL_law_3940 rfl ?_
      exact aw_pick [3, 4, 5, 6, 7, 0] rfl (hO28 _ _ _ _ _ _ _ _ _ h)
    · replace h := h.2 c18
      refine aw_aload_n 3511 dL_law_3510 rfl 5 rfl rfl ?_
      refine aw_iconst 3512 (v := 0) dL_law_3511 kI_0 rfl ?_
      obtain ⟨g19, h⟩ := h
      obtain ⟨g20, h⟩ := h
      refine aw_laload 3513 dL_law_3512 g19 g20 rfl ?_
      refine aw_iload 3515 dL_law_3513 0 rfl rfl ?_
      refine aw_if_eq 3522 3518 dL_law_3515 rfl rfl (fun c21 => ?_) (fun c21 => ?_)
      · replace h := h.1 c21
        refine aw_lconst 3523 (v := 0) dL_law_3522 kL_0 rfl ?_
        refine aw_lcmp 3524 dL_law_3523 rfl ?_
        refine aw_if_eq 3529 3527 dL_law_3524 rfl rfl (fun c22 => ?_) (fun c22 => ?_)
        · replace h := h.1 c22
          refine aw_goto 3937 dL_law_3529 rfl ?_
          refine aw_iinc 3940 (v := 4) (lv' := [(5, _), (7, _), (6, _), (0, _), (1, _), (2, _), (3, _), (4, _)]) dL_law_3937 7 rfl kI_4 (ltb rfl) rfl rfl ?_
          refine aw_goto 28 dL_law_3940 rfl ?_
          exact aw_pick [3, 4, 5, 6, 7, 0] rfl (hO28 _ _ _ _ _ _ _ _ _ h)
        · replace h := h.2 c22
          refine aw_iconst 3528 (v := 0) dL_law_3527 kI_0 rfl ?_
          obtain ⟨g23, h⟩ := h
          obtain ⟨g24, h⟩ := h
          exact aw_ireturn (ty := .boolean) dL_law_3528 rfl rfl g23 g24 ⟨_, rfl, h⟩
      · replace h := h.2 c21
        refine aw_lconst 3519 (v := 1) dL_law_3518 kL_1 rfl ?_
        refine aw_goto 3523 dL_law_3519 rfl ?_
        refine aw_lcmp 3524 dL_law_3523 rfl ?_
        refine aw_if_eq 3529 3527 dL_law_3524 rfl rfl (fun c25 => ?_) (fun c25 => ?_)
        · replace h := h.1 c25
          refine aw_goto 3937 dL_law_3529 rfl ?_
          refine aw_iinc 3940 (v := 4) (lv' := [(5, _), (7, _), (6, _), (0, _), (1, _), (2, _), (3, _), (4, _)]) dL_law_3937 7 rfl kI_4 (ltb rfl) rfl rfl ?_
          refine aw_goto 28 dL_law_3940 rfl ?_
          exact aw_pick [3, 4, 5, 6, 7, 0] rfl (hO28 _ _ _ _ _ _ _ _ _ h)
        · replace h := h.2 c25
          refine aw_iconst 3528 (v := 0) dL_law_3527 kI_0 rfl ?_
          obtain ⟨g26, h⟩ := h
          obtain ⟨g27, h⟩ := h
          exact aw_ireturn (ty := .boolean) dL_law_3528 rfl rfl g26 g27 ⟨_, rfl, h⟩
  · replace h := h.2 c17
    refine aw_iconst 3504 (v := 0) dL_law_3503 kI_0 rfl ?_
    obtain ⟨g28, h⟩ := h
    obtain ⟨g29, h⟩ := h
    exact aw_ireturn (ty := .boolean) dL_law_3504 rfl rfl g28 g29 ⟨_, rfl, h⟩
set_option maxRecDepth 20000 in
theorem aw_L_law_3532 {G : GG} (hG : G.1.stackTraces = false) {P28 : Nat → Nat → Nat → Nat → Nat → Int32 → Nat → Nat → XH → Prop} {l0 : Nat} {l1 : Nat} {l2 : Nat} {l3 : Nat} {l4 : Nat} {l5 : Int32} {cc : Nat} {ss : Nat} {X : XH} {K : Int32 → XH → Prop} (hO28 : ∀ (l0 : Nat) (l1 : Nat) (l2 : Nat) (l3 : Nat) (l4 : Nat) (l5 : Int32) (cc : Nat) (ss : Nat) (X : XH), P28 l0 l1 l2 l3 l4 l5 cc ss X → AW G M_L_law 28 [(0, .ref 0), (1, .ref l1), (2, .ref l2), (3, .ref l3), (4, .ref l4), (5, .int l5)] [] X cc ss (KrI K)) (h : w_L_law_3532 G P28 l0 l1 l2 l3 l4 l5 cc ss X K) : AW G M_L_law 3532 [(0, .ref 0), (1, .ref l1), (2, .ref l2), (3, .ref l3), (4, .ref l4), (5, .int l5)] [] X cc ss (KrI K) := by
  unfold w_L_law_3532 at h
  refine aw_aload_n 3533 dL_law_3532 rfl 1 rfl rfl ?_
  refine aw_aload_n 3534 dL_law_3533 rfl 0 rfl rfl ?_
  refine aw_iload 3536 dL_law_3534 5 rfl rfl ?_
  refine aw_iconst 3537 (v := 1) dL_law_3536 kI_1 rfl ?_
  refine aw_iadd 3538 dL_law_3537 rfl ?_
  obtain ⟨g1, h⟩ := h
  refine aw_sld 3539 dL_law_3538 g1 rfl ?_
  refine aw_aload_n 3540 dL_law_3539 rfl 3 rfl rfl ?_
  obtain ⟨g2, h⟩ := h
  obtain ⟨g3, h⟩ := h
  refine aw_callSX (M' := M_L_misfitsIn) 3543 364 [.ref _, .int _, .ref _] [] dL_law_3540 lk_RL_364 ms_L_misfitsIn mp_L_misfitsIn (0, 9, 12, 13) [] rfl ⟨leb rfl, leb rfl⟩ rfl (leb rfl) g2 g3 rfl (am_L_misfitsIn hG h) (kkI fun v5 X4 h => ?_) (kxN KrI.no)
  refine aw_widen (cc' := cc + 1) (ss' := ss + 6) (Nat.le_refl _) (Nat.le_refl _) ?_
  refine aw_istore 3545 (lv' := [(6, _), (0, _), (1, _), (2, _), (3, _), (4, _), (5, _)]) dL_law_3543 (ltb rfl) rfl rfl ?_
  refine aw_aload_n 3546 dL_law_3545 rfl 3 rfl rfl ?_
  refine aw_aload_n 3547 dL_law_3546 rfl 1 rfl rfl ?_
  refine aw_iload 3549 dL_law_3547 6 rfl rfl ?_
  refine aw_iconst 3550 (v := 1) dL_law_3549 kI_1 rfl ?_
  refine aw_iadd 3551 dL_law_3550 rfl ?_
  obtain ⟨g6, h⟩ := h
  refine aw_sld 3552 dL_law_3551 g6 rfl ?_
  obtain ⟨g7, h⟩ := h
  obtain ⟨g8, h⟩ := h
  obtain ⟨g11, h⟩ := h
  refine aw_callV (M' := M_X5_misfitsIn) 3555 366 5 l2 [.int _] [] dL_law_3552 lk_RL_366 mv_X5_misfitsIn mp_X5_misfitsIn rfl ⟨leb rfl, leb rfl⟩ rfl (ltb rfl) g11 rfl (leb rfl) g7 g8 rfl (am_X5_misfitsIn hG h) (kkI fun v10 X9 h => ?_) (kxN KrI.no)
  refine aw_widen (cc' := cc + 1) (ss' := ss + 6) (Nat.le_refl _) (Nat.le_refl _) ?_
  refine aw_istore 3557 (lv' := [(7, _), (6, _), (0, _), (1, _), (2, _), (3, _), (4, _), (5, _)]) dL_law_3555 (ltb rfl) rfl rfl ?_
  refine aw_aload_n 3558 dL_law_3557 rfl 4 rfl rfl ?_
  obtain ⟨g12, h⟩ := h
  obtain ⟨g13, h⟩ := h
  obtain ⟨g16, h⟩ := h
  refine aw_callV (M' := M_X5_thrown) 3561 196 5 l2 [] [] dL_law_3558 lk_RL_196 mv_X5_thrown mp_X5_thrown rfl ⟨leb rfl, leb rfl⟩ rfl (ltb rfl) g16 rfl (leb rfl) g12 g13 rfl (am_X5_thrown hG h) (kkI fun v15 X14 h => ?_) (kxN KrI.no)
  refine aw_widen (cc' := cc + 1) (ss' := ss + 6) (Nat.le_refl _) (Nat.le_refl _) ?_
  refine aw_iload 3563 dL_law_3561 1 rfl rfl ?_
  refine aw_icmp_eq 3568 3566 dL_law_3563 rfl rfl (fun c17 => ?_) (fun c17 => ?_)
  · replace h := h.1 c17
    refine aw_iload 3570 dL_law_3568 1 rfl rfl ?_
    refine aw_if_ne 3585 3573 dL_law_3570 rfl rfl (fun c18 => ?_) (fun c18 => ?_)
    · replace h := h.1 c18
      refine aw_goto 3937 dL_law_3585 rfl ?_
      refine aw_iinc 3940 (v := 4) (lv' := [(5, _), (7, _), (6, _), (0, _), (1, _), (2, _), (3, _), (4, _)]) dL_law_3937 7 rfl kI_4 (ltb rfl) rfl rfl ?_
      refine aw_goto 28 dL_law_3940 rfl ?_
      exact aw_pick [3, 4, 5, 6, 7, 0] rfl (hO28 _ _ _ _ _ _ _ _ _ h)
    · replace h := h.2 c18
      refine aw_aload_n 3574 dL_law_3573 rfl 5 rfl rfl ?_
      refine aw_iconst 3575 (v := 0) dL_law_3574 kI_0 rfl ?_
      obtain ⟨g19, h⟩ := h
      obtain ⟨g20, h⟩ := h
      refine aw_laload 3576 dL_law_3575 g19 g20 rfl ?_
      refine aw_iload 3578 dL_law_3576 0 rfl rfl ?_
      refine aw_i2l 3579 dL_law_3578 rfl ?_
      refine aw_lcmp 3580 dL_law_3579 rfl ?_
      refine aw_if_eq 3585 3583 dL_law_3580 rfl rfl (fun c21 => ?_) (fun c21 => ?_)
      · replace h := h.1 c21
        refine aw_goto 3937 dL_law_3585 rfl ?_
        refine aw_iinc 3940 (v := 4) (lv' := [(5, _), (7, _), (6, _), (0, _), (1, _), (2, _), (3, _), (4, _)]) dL_law_3937 7 rfl kI_4 (ltb rfl) rfl rfl ?_
        refine aw_goto 28 dL_law_3940 rfl ?_
        exact aw_pick [3, 4, 5, 6, 7, 0] rfl (hO28 _ _ _ _ _ _ _ _ _ h)
      · replace h := h.2 c21
        refine aw_iconst 3584 (v := 0) dL_law_3583 kI_0 rfl ?_
        obtain ⟨g22, h⟩ := h
        obtain ⟨g23, h⟩ := h
        exact aw_ireturn (ty := .boolean) dL_law_3584 rfl rfl g22 g23 ⟨_, rfl, h⟩
  · replace h := h.2 c17
    refine aw_iconst 3567 (v := 0) dL_law_3566 kI_0 rfl ?_
    obtain ⟨g24, h⟩ := h
    obtain ⟨g25, h⟩ := h
    exact aw_ireturn (ty := .boolean) dL_law_3567 rfl rfl g24 g25 ⟨_, rfl, h⟩
set_option maxRecDepth 20000 in
theorem aw_L_law_3588 {G : GG} (hG : G.1.stackTraces = false) {P28 : Nat → Nat → Nat → Nat → Nat → Int32 → Nat → Nat → XH → Prop} {l0 : Nat} {l1 : Nat} {l2 : Nat} {l3 : Nat} {l4 : Nat} {l5 : Int32} {cc : Nat} {ss : Nat} {X : XH} {K : Int32 → XH → Prop} (hO28 : ∀ (l0 : Nat) (l1 : Nat) (l2 : Nat) (l3 : Nat) (l4 : Nat) (l5 : Int32) (cc : Nat) (ss : Nat) (X : XH), P28 l0 l1 l2 l3 l4 l5 cc ss X → AW G M_L_law 28 [(0, .ref 0), (1, .ref l1), (2, .ref l2), (3, .ref l3), (4, .ref l4), (5, .int l5)] [] X cc ss (KrI K)) (h : w_L_law_3588 G P28 l0 l1 l2 l3 l4 l5 cc ss X K) : AW G M_L_law 3588 [(0, .ref 0), (1, .ref l1), (2, .ref l2), (3, .ref l3), (4, .ref l4), (5, .int l5)] [] X cc ss (KrI K) := by
  unfold w_L_law_3588 at h
  refine aw_aload_n 3589 dL_law_3588 rfl 1 rfl rfl ?_
  obtain ⟨g1, h⟩ := h
  obtain ⟨g2, h⟩ := h
  obtain ⟨g5, h⟩ := h
  refine aw_callV (M' := M_X4_session) 3592 367 4 l1 [] [] dL_law_3589 lk_RL_367 mv_X4_session mp_X4_session rfl ⟨leb rfl, leb rfl⟩ rfl (ltb rfl) g5 rfl (leb rfl) g1 g2 rfl (am_X4_session hG h) (kkI fun v4 X3 h => ?_) (kxN KrI.no)
  refine aw_widen (cc' := cc) (ss' := ss) (Nat.le_refl _) (Nat.le_refl _) ?_
  refine aw_aload_n 3593 dL_law_3592 rfl 2 rfl rfl ?_
  obtain ⟨g6, h⟩ := h
  obtain ⟨g7, h⟩ := h
  obtain ⟨g10, h⟩ := h
  refine aw_callV (M' := M_X5_session) 3596 370 5 l2 [] [.int _] dL_law_3593 lk_RL_370 mv_X5_session mp_X5_session rfl ⟨leb rfl, leb rfl⟩ rfl (ltb rfl) g10 rfl (leb rfl) g6 g7 rfl (am_X5_session hG h) (kkI fun v9 X8 h => ?_) (kxN KrI.no)
  refine aw_widen (cc' := cc) (ss' := ss) (Nat.le_refl _) (Nat.le_refl _) ?_
  refine aw_icmp_eq 3937 3599 dL_law_3596 rfl rfl (fun c11 => ?_) (fun c11 => ?_)
  · replace h := h.1 c11
    refine aw_iinc 3940 (v := 4) (lv' := [(5, _), (0, _), (1, _), (2, _), (3, _), (4, _)]) dL_law_3937 5 rfl kI_4 (ltb rfl) rfl rfl ?_
    refine aw_goto 28 dL_law_3940 rfl ?_
    exact aw_pick [1, 2, 3, 4, 5, 0] rfl (hO28 _ _ _ _ _ _ _ _ _ h)
  · replace h := h.2 c11
    refine aw_iconst 3600 (v := 0) dL_law_3599 kI_0 rfl ?_
    obtain ⟨g12, h⟩ := h
    obtain ⟨g13, h⟩ := h
    exact aw_ireturn (ty := .boolean) dL_law_3600 rfl rfl g12 g13 ⟨_, rfl, h⟩
set_option maxRecDepth 20000 in
theorem aw_L_law_3601 {G : GG} (hG : G.1.stackTraces = false) {P28 : Nat → Nat → Nat → Nat → Nat → Int32 → Nat → Nat → XH → Prop} {l0 : Nat} {l1 : Nat} {l2 : Nat} {l3 : Nat} {l4 : Nat} {l5 : Int32} {cc : Nat} {ss : Nat} {X : XH} {K : Int32 → XH → Prop} (hO28 : ∀ (l0 : Nat) (l1 : Nat) (l2 : Nat) (l3 : Nat) (l4 : Nat) (l5 : Int32) (cc : Nat) (ss : Nat) (X : XH), P28 l0 l1 l2 l3 l4 l5 cc ss X → AW G M_L_law 28 [(0, .ref 0), (1, .ref l1), (2, .ref l2), (3, .ref l3), (4, .ref l4), (5, .int l5)] [] X cc ss (KrI K)) (h : w_L_law_3601 G P28 l0 l1 l2 l3 l4 l5 cc ss X K) : AW G M_L_law 3601 [(0, .ref 0), (1, .ref l1), (2, .ref l2), (3, .ref l3), (4, .ref l4), (5, .int l5)] [] X cc ss (KrI K) := by
  unfold w_L_law_3601 at h
  refine aw_aload_n 3602 dL_law_3601 rfl 1 rfl rfl ?_
  obtain ⟨g1, h⟩ := h
  obtain ⟨g2, h⟩ := h
  obtain ⟨g5, h⟩ := h
  refine aw_callV (M' := M_X4_recordings) 3605 371 4 l1 [] [] dL_law_3602 lk_RL_371 mv_X4_recordings mp_X4_recordings rfl ⟨leb rfl, leb rfl⟩ rfl (ltb rfl) g5 rfl (leb rfl) g1 g2 rfl (am_X4_recordings hG h) (kkI fun v4 X3 h => ?_) (kxN KrI.no)
  refine aw_widen (cc' := cc) (ss' := ss) (Nat.le_refl _) (Nat.le_refl _) ?_
  refine aw_aload_n 3606 dL_law_3605 rfl 2 rfl rfl ?_
  obtain ⟨g6, h⟩ := h
  obtain ⟨g7, h⟩ := h
  obtain ⟨g10, h⟩ := h
  refine aw_callV (M' := M_X5_recordings) 3609 374 5 l2 [] [.int _] dL_law_3606 lk_RL_374 mv_X5_recordings mp_X5_recordings rfl ⟨leb rfl, leb rfl⟩ rfl (ltb rfl) g10 rfl (leb rfl) g6 g7 rfl (am_X5_recordings hG h) (kkI fun v9 X8 h => ?_) (kxN KrI.no)
  refine aw_widen (cc' := cc) (ss' := ss) (Nat.le_refl _) (Nat.le_refl _) ?_
  refine aw_icmp_eq 3937 3612 dL_law_3609 rfl rfl (fun c11 => ?_) (fun c11 => ?_)
  · replace h := h.1 c11
    refine aw_iinc 3940 (v := 4) (lv' := [(5, _), (0, _), (1, _), (2, _), (3, _), (4, _)]) dL_law_3937 5 rfl kI_4 (ltb rfl) rfl rfl ?_
    refine aw_goto 28 dL_law_3940 rfl ?_
    exact aw_pick [1, 2, 3, 4, 5, 0] rfl (hO28 _ _ _ _ _ _ _ _ _ h)
  · replace h := h.2 c11
    refine aw_iconst 3613 (v := 0) dL_law_3612 kI_0 rfl ?_
    obtain ⟨g12, h⟩ := h
    obtain ⟨g13, h⟩ := h
    exact aw_ireturn (ty := .boolean) dL_law_3613 rfl rfl g12 g13 ⟨_, rfl, h⟩
set_option maxRecDepth 20000 in
theorem aw_L_law_3614 {G : GG} (hG : G.1.stackTraces = false) {P28 : Nat → Nat → Nat → Nat → Nat → Int32 → Nat → Nat → XH → Prop} {l0 : Nat} {l1 : Nat} {l2 : Nat} {l3 : Nat} {l4 : Nat} {l5 : Int32} {cc : Nat} {ss : Nat} {X : XH} {K : Int32 → XH → Prop} (hO28 : ∀ (l0 : Nat) (l1 : Nat) (l2 : Nat) (l3 : Nat) (l4 : Nat) (l5 : Int32) (cc : Nat) (ss : Nat) (X : XH), P28 l0 l1 l2 l3 l4 l5 cc ss X → AW G M_L_law 28 [(0, .ref 0), (1, .ref l1), (2, .ref l2), (3, .ref l3), (4, .ref l4), (5, .int l5)] [] X cc ss (KrI K)) (h : w_L_law_3614 G P28 l0 l1 l2 l3 l4 l5 cc ss X K) : AW G M_L_law 3614 [(0, .ref 0), (1, .ref l1), (2, .ref l2), (3, .ref l3), (4, .ref l4), (5, .int l5)] [] X cc ss (KrI K) := by
  unfold w_L_law_3614 at h
  refine aw_aload_n 3615 dL_law_3614 rfl 1 rfl rfl ?_
  obtain ⟨g1, h⟩ := h
  obtain ⟨g2, h⟩ := h
  obtain ⟨g5, h⟩ := h
  refine aw_callV (M' := M_X4_wiped) 3618 375 4 l1 [] [] dL_law_3615 lk_RL_375 mv_X4_wiped mp_X4_wiped rfl ⟨leb rfl, leb rfl⟩ rfl (ltb rfl) g5 rfl (leb rfl) g1 g2 rfl (am_X4_wiped hG h) (kkI fun v4 X3 h => ?_) (kxN KrI.no)
  refine aw_widen (cc' := cc) (ss' := ss) (Nat.le_refl _) (Nat.le_refl _) ?_
  refine aw_aload_n 3619 dL_law_3618 rfl 2 rfl rfl ?_
  obtain ⟨g6, h⟩ := h
  obtain ⟨g7, h⟩ := h
  obtain ⟨g10, h⟩ := h
  refine aw_callV (M' := M_X5_wiped) 3622 378 5 l2 [] [.int _] dL_law_3619 lk_RL_378 mv_X5_wiped mp_X5_wiped rfl ⟨leb rfl, leb rfl⟩ rfl (ltb rfl) g10 rfl (leb rfl) g6 g7 rfl (am_X5_wiped hG h) (kkI fun v9 X8 h => ?_) (kxN KrI.no)
  refine aw_widen (cc' := cc) (ss' := ss) (Nat.le_refl _) (Nat.le_refl _) ?_
  refine aw_icmp_eq 3937 3625 dL_law_3622 rfl rfl (fun c11 => ?_) (fun c11 => ?_)
  · replace h := h.1 c11
    refine aw_iinc 3940 (v := 4) (lv' := [(5, _), (0, _), (1, _), (2, _), (3, _), (4, _)]) dL_law_3937 5 rfl kI_4 (ltb rfl) rfl rfl ?_
    refine aw_goto 28 dL_law_3940 rfl ?_
    exact aw_pick [1, 2, 3, 4, 5, 0] rfl (hO28 _ _ _ _ _ _ _ _ _ h)
  · replace h := h.2 c11
    refine aw_iconst 3626 (v := 0) dL_law_3625 kI_0 rfl ?_
    obtain ⟨g12, h⟩ := h
    obtain ⟨g13, h⟩ := h
    exact aw_ireturn (ty := .boolean) dL_law_3626 rfl rfl g12 g13 ⟨_, rfl, h⟩
set_option maxRecDepth 20000 in
theorem aw_L_law_3627 {G : GG} (hG : G.1.stackTraces = false) {P28 : Nat → Nat → Nat → Nat → Nat → Int32 → Nat → Nat → XH → Prop} {l0 : Nat} {l1 : Nat} {l2 : Nat} {l3 : Nat} {l4 : Nat} {l5 : Int32} {cc : Nat} {ss : Nat} {X : XH} {K : Int32 → XH → Prop} (hO28 : ∀ (l0 : Nat) (l1 : Nat) (l2 : Nat) (l3 : Nat) (l4 : Nat) (l5 : Int32) (cc : Nat) (ss : Nat) (X : XH), P28 l0 l1 l2 l3 l4 l5 cc ss X → AW G M_L_law 28 [(0, .ref 0), (1, .ref l1), (2, .ref l2), (3, .ref l3), (4, .ref l4), (5, .int l5)] [] X cc ss (KrI K)) (h : w_L_law_3627 G P28 l0 l1 l2 l3 l4 l5 cc ss X K) : AW G M_L_law 3627 [(0, .ref 0), (1, .ref l1), (2, .ref l2), (3, .ref l3), (4, .ref l4), (5, .int l5)] [] X cc ss (KrI K) := by
  unfold w_L_law_3627 at h
  refine aw_aload_n 3628 dL_law_3627 rfl 1 rfl rfl ?_
  obtain ⟨g1, h⟩ := h
  obtain ⟨g2, h⟩ := h
  obtain ⟨g5, h⟩ := h
  refine aw_callV (M' := M_X4_mixes) 3631 379 4 l1 [] [] dL_law_3628 lk_RL_379 mv_X4_mixes mp_X4_mixes rfl ⟨leb rfl, leb rfl⟩ rfl (ltb rfl) g5 rfl (leb rfl) g1 g2 rfl (am_X4_mixes hG h) (kkI fun v4 X3 h => ?_) (kxN KrI.no)
  refine aw_widen (cc' := cc) (ss' := ss) (Nat.le_refl _) (Nat.le_refl _) ?_
  refine aw_aload_n 3632 dL_law_3631 rfl 2 rfl rfl ?_
  obtain ⟨g6, h⟩ := h
  obtain ⟨g7, h⟩ := h
  obtain ⟨g10, h⟩ := h
  refine aw_callV (M' := M_X5_mixes) 3635 382 5 l2 [] [.int _] dL_law_3632 lk_RL_382 mv_X5_mixes mp_X5_mixes rfl ⟨leb rfl, leb rfl⟩ rfl (ltb rfl) g10 rfl (leb rfl) g6 g7 rfl (am_X5_mixes hG h) (kkI fun v9 X8 h => ?_) (kxN KrI.no)
  refine aw_widen (cc' := cc) (ss' := ss) (Nat.le_refl _) (Nat.le_refl _) ?_
  refine aw_icmp_eq 3937 3638 dL_law_3635 rfl rfl (fun c11 => ?_) (fun c11 => ?_)
  · replace h := h.1 c11
    refine aw_iinc 3940 (v := 4) (lv' := [(5, _), (0, _), (1, _), (2, _), (3, _), (4, _)]) dL_law_3937 5 rfl kI_4 (ltb rfl) rfl rfl ?_
    refine aw_goto 28 dL_law_3940 rfl ?_
    exact aw_pick [1, 2, 3, 4, 5, 0] rfl (hO28 _ _ _ _ _ _ _ _ _ h)
  · replace h := h.2 c11
    refine aw_iconst 3639 (v := 0) dL_law_3638 kI_0 rfl ?_
    obtain ⟨g12, h⟩ := h
    obtain ⟨g13, h⟩ := h
    exact aw_ireturn (ty := .boolean) dL_law_3639 rfl rfl g12 g13 ⟨_, rfl, h⟩
set_option maxRecDepth 20000 in
theorem aw_L_law_3640 {G : GG} (hG : G.1.stackTraces = false) {P28 : Nat → Nat → Nat → Nat → Nat → Int32 → Nat → Nat → XH → Prop} {l0 : Nat} {l1 : Nat} {l2 : Nat} {l3 : Nat} {l4 : Nat} {l5 : Int32} {cc : Nat} {ss : Nat} {X : XH} {K : Int32 → XH → Prop} (hO28 : ∀ (l0 : Nat) (l1 : Nat) (l2 : Nat) (l3 : Nat) (l4 : Nat) (l5 : Int32) (cc : Nat) (ss : Nat) (X : XH), P28 l0 l1 l2 l3 l4 l5 cc ss X → AW G M_L_law 28 [(0, .ref 0), (1, .ref l1), (2, .ref l2), (3, .ref l3), (4, .ref l4), (5, .int l5)] [] X cc ss (KrI K)) (h : w_L_law_3640 G P28 l0 l1 l2 l3 l4 l5 cc ss X K) : AW G M_L_law 3640 [(0, .ref 0), (1, .ref l1), (2, .ref l2), (3, .ref l3), (4, .ref l4), (5, .int l5)] [] X cc ss (KrI K) := by
  unfold w_L_law_3640 at h
  refine aw_aload_n 3641 dL_law_3640 rfl 1 rfl rfl ?_
  refine aw_aload_n 3642 dL_law_3641 rfl 0 rfl rfl ?_
  refine aw_iload 3644 dL_law_3642 5 rfl rfl ?_
  refine aw_iconst 3645 (v := 1) dL_law_3644 kI_1 rfl ?_
  refine aw_iadd 3646 dL_law_3645 rfl ?_
  obtain ⟨g1, h⟩ := h
  refine aw_sld 3647 dL_law_3646 g1 rfl ?_
  refine aw_aload_n 3648 dL_law_3647 rfl 0 rfl rfl ?_
  refine aw_iload 3650 dL_law_3648 5 rfl rfl ?_
  refine aw_iconst 3651 (v := 2) dL_law_3650 kI_2 rfl ?_
  refine aw_iadd 3652 dL_law_3651 rfl ?_
  obtain ⟨g2, h⟩ := h
  refine aw_sld 3653 dL_law_3652 g2 rfl ?_
  refine aw_aload_n 3654 dL_law_3653 rfl 3 rfl rfl ?_
  obtain ⟨g3, h⟩ := h
  obtain ⟨g4, h⟩ := h
  refine aw_callSX (M' := M_L_leastAnnex) 3657 383 [.ref _, .int _, .int _, .ref _] [] dL_law_3654 lk_RL_383 ms_L_leastAnnex mp_L_leastAnnex (0, 10, 13, 13) [(0, 10, 17, 17)] rfl ⟨leb rfl, leb rfl⟩ rfl (leb rfl) g3 g4 rfl (am_L_leastAnnex hG h) (kkI fun v6 X5 h => ?_) (kxN KrI.no)
  refine aw_widen (cc' := cc + 4) (ss' := ss + 24) (Nat.le_refl _) (Nat.le_refl _) ?_
  refine aw_istore 3659 (lv' := [(6, _), (0, _), (1, _), (2, _), (3, _), (4, _), (5, _)]) dL_law_3657 (ltb rfl) rfl rfl ?_
  refine aw_aload_n 3660 dL_law_3659 rfl 3 rfl rfl ?_
  refine aw_aload_n 3661 dL_law_3660 rfl 1 rfl rfl ?_
  refine aw_iload 3663 dL_law_3661 6 rfl rfl ?_
  refine aw_iconst 3664 (v := 1) dL_law_3663 kI_1 rfl ?_
  refine aw_iadd 3665 dL_law_3664 rfl ?_
  obtain ⟨g7, h⟩ := h
  refine aw_sld 3666 dL_law_3665 g7 rfl ?_
  refine aw_aload_n 3667 dL_law_3666 rfl 1 rfl rfl ?_
  refine aw_iload 3669 dL_law_3667 6 rfl rfl ?_
  refine aw_iconst 3670 (v := 2) dL_law_3669 kI_2 rfl ?_
  refine aw_iadd 3671 dL_law_3670 rfl ?_
  obtain ⟨g8, h⟩ := h
  refine aw_sld 3672 dL_law_3671 g8 rfl ?_
  obtain ⟨g9, h⟩ := h
  obtain ⟨g10, h⟩ := h
  obtain ⟨g13, h⟩ := h
  refine aw_callV (M' := M_X5_leastAnnex) 3675 385 5 l2 [.int _, .int _] [] dL_law_3672 lk_RL_385 mv_X5_leastAnnex mp_X5_leastAnnex rfl ⟨leb rfl, leb rfl⟩ rfl (ltb rfl) g13 rfl (leb rfl) g9 g10 rfl (am_X5_leastAnnex hG h) (kkI fun v12 X11 h => ?_) (kxN KrI.no)
  refine aw_widen (cc' := cc + 4) (ss' := ss + 24) (Nat.le_refl _) (Nat.le_refl _) ?_
  refine aw_istore 3677 (lv' := [(7, _), (6, _), (0, _), (1, _), (2, _), (3, _), (4, _), (5, _)]) dL_law_3675 (ltb rfl) rfl rfl ?_
  refine aw_aload_n 3678 dL_law_3677 rfl 4 rfl rfl ?_
  obtain ⟨g14, h⟩ := h
  obtain ⟨g15, h⟩ := h
  obtain ⟨g18, h⟩ := h
  refine aw_callV (M' := M_X5_thrown) 3681 196 5 l2 [] [] dL_law_3678 lk_RL_196 mv_X5_thrown mp_X5_thrown rfl ⟨leb rfl, leb rfl⟩ rfl (ltb rfl) g18 rfl (leb rfl) g14 g15 rfl (am_X5_thrown hG h) (kkI fun v17 X16 h => ?_) (kxN KrI.no)
  refine aw_widen (cc' := cc + 4) (ss' := ss + 24) (Nat.le_refl _) (Nat.le_refl _) ?_
  refine aw_iload 3683 dL_law_3681 1 rfl rfl ?_
  refine aw_icmp_eq 3688 3686 dL_law_3683 rfl rfl (fun c19 => ?_) (fun c19 => ?_)
  · replace h := h.1 c19
    refine aw_iload 3690 dL_law_3688 1 rfl rfl ?_
    refine aw_if_ne 3705 3693 dL_law_3690 rfl rfl (fun c20 => ?_) (fun c20 => ?_)
    · replace h := h.1 c20
      refine aw_goto 3937 dL_law_3705 rfl ?_
      refine aw_iinc 3940 (v := 4) (lv' := [(5, _), (7, _), (6, _), (0, _), (1, _), (2, _), (3, _), (4, _)]) dL_law_3937 7 rfl kI_4 (ltb rfl) rfl rfl ?_
      refine aw_goto 28 dL_law_3940 rfl ?_
      exact aw_pick [3, 4, 5, 6, 7, 0] rfl (hO28 _ _ _ _ _ _ _ _ _ h)
    · replace h := h.2 c20
      refine aw_aload_n 3694 dL_law_3693 rfl 5 rfl rfl ?_
      refine aw_iconst 3695 (v := 0) dL_law_3694 kI_0 rfl ?_
      obtain ⟨g21, h⟩ := h
      obtain ⟨g22, h⟩ := h
      refine aw_laload 3696 dL_law_3695 g21 g22 rfl ?_
      refine aw_iload 3698 dL_law_3696 0 rfl rfl ?_
      refine aw_i2l 3699 dL_law_3698 rfl ?_
      refine aw_lcmp 3700 dL_law_3699 rfl ?_
      refine aw_if_eq 3705 3703 dL_law_3700 rfl rfl (fun c23 => ?_) (fun c23 => ?_)
      · replace h := h.1 c23
        refine aw_goto 3937 dL_law_3705 rfl ?_
        refine aw_iinc 3940 (v := 4) (lv' := [(5, _), (7, _), (6, _), (0, _), (1, _), (2, _), (3, _), (4, _)]) dL_law_3937 7 rfl kI_4 (ltb rfl) rfl rfl ?_
        refine aw_goto 28 dL_law_3940 rfl ?_
        exact aw_pick [3, 4, 5, 6, 7, 0] rfl (hO28 _ _ _ _ _ _ _ _ _ h)
      · replace h := h.2 c23
        refine aw_iconst 3704 (v := 0) dL_law_3703 kI_0 rfl ?_
        obtain ⟨g24, h⟩ := h
        obtain ⟨g25, h⟩ := h
        exact aw_ireturn (ty := .boolean) dL_law_3704 rfl rfl g24 g25 ⟨_, rfl, h⟩
  · replace h := h.2 c19
    refine aw_iconst 3687 (v := 0) dL_law_3686 kI_0 rfl ?_
    obtain ⟨g26, h⟩ := h
    obtain ⟨g27, h⟩ := h
    exact aw_ireturn (ty := .boolean) dL_law_3687 rfl rfl g26 g27 ⟨_, rfl, h⟩
set_option maxRecDepth 20000 in
theorem aw_L_law_3708 {G : GG} (hG : G.1.stackTraces = false) {P28 : Nat → Nat → Nat → Nat → Nat → Int32 → Nat → Nat → XH → Prop} {l0 : Nat} {l1 : Nat} {l2 : Nat} {l3 : Nat} {l4 : Nat} {l5 : Int32} {cc : Nat} {ss : Nat} {X : XH} {K : Int32 → XH → Prop} (hO28 : ∀ (l0 : Nat) (l1 : Nat) (l2 : Nat) (l3 : Nat) (l4 : Nat) (l5 : Int32) (cc : Nat) (ss : Nat) (X : XH), P28 l0 l1 l2 l3 l4 l5 cc ss X → AW G M_L_law 28 [(0, .ref 0), (1, .ref l1), (2, .ref l2), (3, .ref l3), (4, .ref l4), (5, .int l5)] [] X cc ss (KrI K)) (h : w_L_law_3708 G P28 l0 l1 l2 l3 l4 l5 cc ss X K) : AW G M_L_law 3708 [(0, .ref 0), (1, .ref l1), (2, .ref l2), (3, .ref l3), (4, .ref l4), (5, .int l5)] [] X cc ss (KrI K) := by
  unfold w_L_law_3708 at h
  refine aw_aload_n 3709 dL_law_3708 rfl 1 rfl rfl ?_
  refine aw_aload_n 3710 dL_law_3709 rfl 0 rfl rfl ?_
  refine aw_iload 3712 dL_law_3710 5 rfl rfl ?_
  refine aw_iconst 3713 (v := 1) dL_law_3712 kI_1 rfl ?_
  refine aw_iadd 3714 dL_law_3713 rfl ?_
  obtain ⟨g1, h⟩ := h
  refine aw_sld 3715 dL_law_3714 g1 rfl ?_
  refine aw_aload_n 3716 dL_law_3715 rfl 3 rfl rfl ?_
  obtain ⟨g2, h⟩ := h
  obtain ⟨g3, h⟩ := h
  refine aw_callSX (M' := M_L_longestSigh) 3719 386 [.ref _, .int _, .ref _] [] dL_law_3716 lk_RL_386 ms_L_longestSigh mp_L_longestSigh (0, 9, 12, 13) [(0, 9, 15, 17)] rfl ⟨leb rfl, leb rfl⟩ rfl (leb rfl) g2 g3 rfl (am_L_longestSigh hG h) (kkI fun v5 X4 h => ?_) (kxN KrI.no)
  refine aw_widen (cc' := cc + 2) (ss' := ss + 12) (Nat.le_refl _) (Nat.le_refl _) ?_
  refine aw_istore 3721 (lv' := [(6, _), (0, _), (1, _), (2, _), (3, _), (4, _), (5, _)]) dL_law_3719 (ltb rfl) rfl rfl ?_
  refine aw_aload_n 3722 dL_law_3721 rfl 3 rfl rfl ?_
  refine aw_aload_n 3723 dL_law_3722 rfl 1 rfl rfl ?_
  refine aw_iload 3725 dL_law_3723 6 rfl rfl ?_
  refine aw_iconst 3726 (v := 1) dL_law_3725 kI_1 rfl ?_
  refine aw_iadd 3727 dL_law_3726 rfl ?_
  obtain ⟨g6, h⟩ := h
  refine aw_sld 3728 dL_law_3727 g6 rfl ?_
  obtain ⟨g7, h⟩ := h
  obtain ⟨g8, h⟩ := h
  obtain ⟨g11, h⟩ := h
  refine aw_callV (M' := M_X5_longestSigh) 3731 388 5 l2 [.int _] [] dL_law_3728 lk_RL_388 mv_X5_longestSigh mp_X5_longestSigh rfl ⟨leb rfl, leb rfl⟩ rfl (ltb rfl) g11 rfl (leb rfl) g7 g8 rfl (am_X5_longestSigh hG h) (kkI fun v10 X9 h => ?_) (kxN KrI.no)
  refine aw_widen (cc' := cc + 2) (ss' := ss + 12) (Nat.le_refl _) (Nat.le_refl _) ?_
  refine aw_istore 3733 (lv' := [(7, _), (6, _), (0, _), (1, _), (2, _), (3, _), (4, _), (5, _)]) dL_law_3731 (ltb rfl) rfl rfl ?_
  refine aw_aload_n 3734 dL_law_3733 rfl 4 rfl rfl ?_
  obtain ⟨g12, h⟩ := h
  obtain ⟨g13, h⟩ := h
  obtain ⟨g16, h⟩ := h
  refine aw_callV (M' := M_X5_thrown) 3737 196 5 l2 [] [] dL_law_3734 lk_RL_196 mv_X5_thrown mp_X5_thrown rfl ⟨leb rfl, leb rfl⟩ rfl (ltb rfl) g16 rfl (leb rfl) g12 g13 rfl (am_X5_thrown hG h) (kkI fun v15 X14 h => ?_) (kxN KrI.no)
  refine aw_widen (cc' := cc + 2) (ss' := ss + 12) (Nat.le_refl _) (Nat.le_refl _) ?_
  refine aw_iload 3739 dL_law_3737 1 rfl rfl ?_
  refine aw_icmp_eq 3744 3742 dL_law_3739 rfl rfl (fun c17 => ?_) (fun c17 => ?_)
  · replace h := h.1 c17
    refine aw_iload 3746 dL_law_3744 1 rfl rfl ?_
    refine aw_if_ne 3761 3749 dL_law_3746 rfl rfl (fun c18 => ?_) (fun c18 => ?_)
    · replace h := h.1 c18
      refine aw_goto 3937 dL_law_3761 rfl ?_
      refine aw_iinc 3940 (v := 4) (lv' := [(5, _), (7, _), (6, _), (0, _), (1, _), (2, _), (3, _), (4, _)]) dL_law_3937 7 rfl kI_4 (ltb rfl) rfl rfl ?_
      refine aw_goto 28 dL_law_3940 rfl ?_
      exact aw_pick [3, 4, 5, 6, 7, 0] rfl (hO28 _ _ _ _ _ _ _ _ _ h)
    · replace h := h.2 c18
      refine aw_aload_n 3750 dL_law_3749 rfl 5 rfl rfl ?_
      refine aw_iconst 3751 (v := 0) dL_law_3750 kI_0 rfl ?_
      obtain ⟨g19, h⟩ := h
      obtain ⟨g20, h⟩ := h
      refine aw_laload 3752 dL_law_3751 g19 g20 rfl ?_
      refine aw_iload 3754 dL_law_3752 0 rfl rfl ?_
      refine aw_i2l 3755 dL_law_3754 rfl ?_
      refine aw_lcmp 3756 dL_law_3755 rfl ?_
      refine aw_if_eq 3761 3759 dL_law_3756 rfl rfl (fun c21 => ?_) (fun c21 => ?_)
      · replace h := h.1 c21
        refine aw_goto 3937 dL_law_3761 rfl ?_
        refine aw_iinc 3940 (v := 4) (lv' := [(5, _), (7, _), (6, _), (0, _), (1, _), (2, _), (3, _), (4, _)]) dL_law_3937 7 rfl kI_4 (ltb rfl) rfl rfl ?_
        refine aw_goto 28 dL_law_3940 rfl ?_
        exact aw_pick [3, 4, 5, 6, 7, 0] rfl (hO28 _ _ _ _ _ _ _ _ _ h)
      · replace h := h.2 c21
        refine aw_iconst 3760 (v := 0) dL_law_3759 kI_0 rfl ?_
        obtain ⟨g22, h⟩ := h
        obtain ⟨g23, h⟩ := h
        exact aw_ireturn (ty := .boolean) dL_law_3760 rfl rfl g22 g23 ⟨_, rfl, h⟩
  · replace h := h.2 c17
    refine aw_iconst 3743 (v := 0) dL_law_3742 kI_0 rfl ?_
    obtain ⟨g24, h⟩ := h
    obtain ⟨g25, h⟩ := h
    exact aw_ireturn (ty := .boolean) dL_law_3743 rfl rfl g24 g25 ⟨_, rfl, h⟩
set_option maxRecDepth 20000 in
theorem aw_L_law_3764 {G : GG} (hG : G.1.stackTraces = false) {P28 : Nat → Nat → Nat → Nat → Nat → Int32 → Nat → Nat → XH → Prop} {l0 : Nat} {l1 : Nat} {l2 : Nat} {l3 : Nat} {l4 : Nat} {l5 : Int32} {cc : Nat} {ss : Nat} {X : XH} {K : Int32 → XH → Prop} (hO28 : ∀ (l0 : Nat) (l1 : Nat) (l2 : Nat) (l3 : Nat) (l4 : Nat) (l5 : Int32) (cc : Nat) (ss : Nat) (X : XH), P28 l0 l1 l2 l3 l4 l5 cc ss X → AW G M_L_law 28 [(0, .ref 0), (1, .ref l1), (2, .ref l2), (3, .ref l3), (4, .ref l4), (5, .int l5)] [] X cc ss (KrI K)) (h : w_L_law_3764 G P28 l0 l1 l2 l3 l4 l5 cc ss X K) : AW G M_L_law 3764 [(0, .ref 0), (1, .ref l1), (2, .ref l2), (3, .ref l3), (4, .ref l4), (5, .int l5)] [] X cc ss (KrI K) := by
  unfold w_L_law_3764 at h
  refine aw_aload_n 3765 dL_law_3764 rfl 1 rfl rfl ?_
  refine aw_aload_n 3766 dL_law_3765 rfl 0 rfl rfl ?_
  refine aw_iload 3768 dL_law_3766 5 rfl rfl ?_
  refine aw_iconst 3769 (v := 1) dL_law_3768 kI_1 rfl ?_
  refine aw_iadd 3770 dL_law_3769 rfl ?_
  obtain ⟨g1, h⟩ := h
  refine aw_sld 3771 dL_law_3770 g1 rfl ?_
  refine aw_aload_n 3772 dL_law_3771 rfl 3 rfl rfl ?_
  obtain ⟨g2, h⟩ := h
  obtain ⟨g3, h⟩ := h
  refine aw_callSX (M' := M_L_nextClause) 3775 389 [.ref _, .int _, .ref _] [] dL_law_3772 lk_RL_389 ms_L_nextClause mp_L_nextClause (0, 9, 12, 13) [(0, 9, 15, 17)] rfl ⟨leb rfl, leb rfl⟩ rfl (leb rfl) g2 g3 rfl (am_L_nextClause hG h) (kkI fun v5 X4 h => ?_) (kxN KrI.no)
  refine aw_widen (cc' := cc + 2) (ss' := ss + 12) (Nat.le_refl _) (Nat.le_refl _) ?_
  refine aw_istore 3777 (lv' := [(6, _), (0, _), (1, _), (2, _), (3, _), (4, _), (5, _)]) dL_law_3775 (ltb rfl) rfl rfl ?_
  refine aw_aload_n 3778 dL_law_3777 rfl 3 rfl rfl ?_
  refine aw_aload_n 3779 dL_law_3778 rfl 1 rfl rfl ?_
  refine aw_iload 3781 dL_law_3779 6 rfl rfl ?_
  refine aw_iconst 3782 (v := 1) dL_law_3781 kI_1 rfl ?_
  refine aw_iadd 3783 dL_law_3782 rfl ?_
  obtain ⟨g6, h⟩ := h
  refine aw_sld 3784 dL_law_3783 g6 rfl ?_
  obtain ⟨g7, h⟩ := h
  obtain ⟨g8, h⟩ := h
  obtain ⟨g11, h⟩ := h
  refine aw_callV (M' := M_X5_nextClause) 3787 391 5 l2 [.int _] [] dL_law_3784 lk_RL_391 mv_X5_nextClause mp_X5_nextClause rfl ⟨leb rfl, leb rfl⟩ rfl (ltb rfl) g11 rfl (leb rfl) g7 g8 rfl (am_X5_nextClause hG h) (kkI fun v10 X9 h => ?_) (kxN KrI.no)
  refine aw_widen (cc' := cc + 2) (ss' := ss + 12) (Nat.le_refl _) (Nat.le_refl _) ?_
  refine aw_istore 3789 (lv' := [(7, _), (6, _), (0, _), (1, _), (2, _), (3, _), (4, _), (5, _)]) dL_law_3787 (ltb rfl) rfl rfl ?_
  refine aw_aload_n 3790 dL_law_3789 rfl 4 rfl rfl ?_
  obtain ⟨g12, h⟩ := h
  obtain ⟨g13, h⟩ := h
  obtain ⟨g16, h⟩ := h
  refine aw_callV (M' := M_X5_thrown) 3793 196 5 l2 [] [] dL_law_3790 lk_RL_196 mv_X5_thrown mp_X5_thrown rfl ⟨leb rfl, leb rfl⟩ rfl (ltb rfl) g16 rfl (leb rfl) g12 g13 rfl (am_X5_thrown hG h) (kkI fun v15 X14 h => ?_) (kxN KrI.no)
  refine aw_widen (cc' := cc + 2) (ss' := ss + 12) (Nat.le_refl _) (Nat.le_refl _) ?_
  refine aw_iload 3795 dL_law_3793 1 rfl rfl ?_
  refine aw_icmp_eq 3800 3798 dL_law_3795 rfl rfl (fun c17 => ?_) (fun c17 => ?_)
  · replace h := h.1 c17
    refine aw_iload 3802 dL_law_3800 1 rfl rfl ?_
    refine aw_if_ne 3817 3805 dL_law_3802 rfl rfl (fun c18 => ?_) (fun c18 => ?_)
    · replace h := h.1 c18
      refine aw_goto 3937 dL_law_3817 rfl ?_
      refine aw_iinc 3940 (v := 4) (lv' := [(5, _), (7, _), (6, _), (0, _), (1, _), (2, _), (3, _), (4, _)]) dL_law_3937 7 rfl kI_4 (ltb rfl) rfl rfl ?_
      refine aw_goto 28 dL_law_3940 rfl ?_
      exact aw_pick [3, 4, 5, 6, 7, 0] rfl (hO28 _ _ _ _ _ _ _ _ _ h)
    · replace h := h.2 c18
      refine aw_aload_n 3806 dL_law_3805 rfl 5 rfl rfl ?_
      refine aw_iconst 3807 (v := 0) dL_law_3806 kI_0 rfl ?_
      obtain ⟨g19, h⟩ := h
      obtain ⟨g20, h⟩ := h
      refine aw_laload 3808 dL_law_3807 g19 g20 rfl ?_
      refine aw_iload 3810 dL_law_3808 0 rfl rfl ?_
      refine aw_i2l 3811 dL_law_3810 rfl ?_
      refine aw_lcmp 3812 dL_law_3811 rfl ?_
      refine aw_if_eq 3817 3815 dL_law_3812 rfl rfl (fun c21 => ?_) (fun c21 => ?_)
      · replace h := h.1 c21
        refine aw_goto 3937 dL_law_3817 rfl ?_
        refine aw_iinc 3940 (v := 4) (lv' := [(5, _), (7, _), (6, _), (0, _), (1, _), (2, _), (3, _), (4, _)]) dL_law_3937 7 rfl kI_4 (ltb rfl) rfl rfl ?_
        refine aw_goto 28 dL_law_3940 rfl ?_
        exact aw_pick [3, 4, 5, 6, 7, 0] rfl (hO28 _ _ _ _ _ _ _ _ _ h)
      · replace h := h.2 c21
        refine aw_iconst 3816 (v := 0) dL_law_3815 kI_0 rfl ?_
        obtain ⟨g22, h⟩ := h
        obtain ⟨g23, h⟩ := h
        exact aw_ireturn (ty := .boolean) dL_law_3816 rfl rfl g22 g23 ⟨_, rfl, h⟩
  · replace h := h.2 c17
    refine aw_iconst 3799 (v := 0) dL_law_3798 kI_0 rfl ?_
    obtain ⟨g24, h⟩ := h
    obtain ⟨g25, h⟩ := h
    exact aw_ireturn (ty := .boolean) dL_law_3799 rfl rfl g24 g25 ⟨_, rfl, h⟩
set_option maxRecDepth 20000 in
theorem aw_L_law_3820 {G : GG} (hG : G.1.stackTraces = false) {P28 : Nat → Nat → Nat → Nat → Nat → Int32 → Nat → Nat → XH → Prop} {l0 : Nat} {l1 : Nat} {l2 : Nat} {l3 : Nat} {l4 : Nat} {l5 : Int32} {cc : Nat} {ss : Nat} {X : XH} {K : Int32 → XH → Prop} (hO28 : ∀ (l0 : Nat) (l1 : Nat) (l2 : Nat) (l3 : Nat) (l4 : Nat) (l5 : Int32) (cc : Nat) (ss : Nat) (X : XH), P28 l0 l1 l2 l3 l4 l5 cc ss X → AW G M_L_law 28 [(0, .ref 0), (1, .ref l1), (2, .ref l2), (3, .ref l3), (4, .ref l4), (5, .int l5)] [] X cc ss (KrI K)) (h : w_L_law_3820 G P28 l0 l1 l2 l3 l4 l5 cc ss X K) : AW G M_L_law 3820 [(0, .ref 0), (1, .ref l1), (2, .ref l2), (3, .ref l3), (4, .ref l4), (5, .int l5)] [] X cc ss (KrI K) := by
  unfold w_L_law_3820 at h
  refine aw_aload_n 3821 dL_law_3820 rfl 1 rfl rfl ?_
  obtain ⟨g1, h⟩ := h
  obtain ⟨g2, h⟩ := h
  obtain ⟨g5, h⟩ := h
  refine aw_callV (M' := M_X4_bestTongue) 3824 392 4 l1 [] [] dL_law_3821 lk_RL_392 mv_X4_bestTongue mp_X4_bestTongue rfl ⟨leb rfl, leb rfl⟩ rfl (ltb rfl) g5 rfl (leb rfl) g1 g2 rfl (am_X4_bestTongue hG h) (kkI fun v4 X3 h => ?_) (kxN KrI.no)
  refine aw_widen (cc' := cc) (ss' := ss) (Nat.le_refl _) (Nat.le_refl _) ?_
  refine aw_aload_n 3825 dL_law_3824 rfl 2 rfl rfl ?_
  obtain ⟨g6, h⟩ := h
  obtain ⟨g7, h⟩ := h
  obtain ⟨g10, h⟩ := h
  refine aw_callV (M' := M_X5_bestTongue) 3828 395 5 l2 [] [.int _] dL_law_3825 lk_RL_395 mv_X5_bestTongue mp_X5_bestTongue rfl ⟨leb rfl, leb rfl⟩ rfl (ltb rfl) g10 rfl (leb rfl) g6 g7 rfl (am_X5_bestTongue hG h) (kkI fun v9 X8 h => ?_) (kxN KrI.no)
  refine aw_widen (cc' := cc) (ss' := ss) (Nat.le_refl _) (Nat.le_refl _) ?_
  refine aw_icmp_eq 3937 3831 dL_law_3828 rfl rfl (fun c11 => ?_) (fun c11 => ?_)
  · replace h := h.1 c11
    refine aw_iinc 3940 (v := 4) (lv' := [(5, _), (0, _), (1, _), (2, _), (3, _), (4, _)]) dL_law_3937 5 rfl kI_4 (ltb rfl) rfl rfl ?_
    refine aw_goto 28 dL_law_3940 rfl ?_
    exact aw_pick [1, 2, 3, 4, 5, 0] rfl (hO28 _ _ _ _ _ _ _ _ _ h)
  · replace h := h.2 c11
    refine aw_iconst 3832 (v := 0) dL_law_3831 kI_0 rfl ?_
    obtain ⟨g12, h⟩ := h
    obtain ⟨g13, h⟩ := h
    exact aw_ireturn (ty := .boolean) dL_law_3832 rfl rfl g12 g13 ⟨_, rfl, h⟩
set_option maxRecDepth 20000 in
theorem aw_L_law_3833 {G : GG} (hG : G.1.stackTraces = false) {P28 : Nat → Nat → Nat → Nat → Nat → Int32 → Nat → Nat → XH → Prop} {l0 : Nat} {l1 : Nat} {l2 : Nat} {l3 : Nat} {l4 : Nat} {l5 : Int32} {cc : Nat} {ss : Nat} {X : XH} {K : Int32 → XH → Prop} (hO28 : ∀ (l0 : Nat) (l1 : Nat) (l2 : Nat) (l3 : Nat) (l4 : Nat) (l5 : Int32) (cc : Nat) (ss : Nat) (X : XH), P28 l0 l1 l2 l3 l4 l5 cc ss X → AW G M_L_law 28 [(0, .ref 0), (1, .ref l1), (2, .ref l2), (3, .ref l3), (4, .ref l4), (5, .int l5)] [] X cc ss (KrI K)) (h : w_L_law_3833 G P28 l0 l1 l2 l3 l4 l5 cc ss X K) : AW G M_L_law 3833 [(0, .ref 0), (1, .ref l1), (2, .ref l2), (3, .ref l3), (4, .ref l4), (5, .int l5)] [] X cc ss (KrI K) := by
  unfold w_L_law_3833 at h
  refine aw_aload_n 3834 dL_law_3833 rfl 1 rfl rfl ?_
  obtain ⟨g1, h⟩ := h
  obtain ⟨g2, h⟩ := h
  obtain ⟨g5, h⟩ := h
  refine aw_callV (M' := M_X4_loudestState) 3837 396 4 l1 [] [] dL_law_3834 lk_RL_396 mv_X4_loudestState mp_X4_loudestState rfl ⟨leb rfl, leb rfl⟩ rfl (ltb rfl) g5 rfl (leb rfl) g1 g2 rfl (am_X4_loudestState hG h) (kkI fun v4 X3 h => ?_) (kxN KrI.no)
  refine aw_widen (cc' := cc) (ss' := ss) (Nat.le_refl _) (Nat.le_refl _) ?_
  refine aw_aload_n 3838 dL_law_3837 rfl 2 rfl rfl ?_
  obtain ⟨g6, h⟩ := h
  obtain ⟨g7, h⟩ := h
  obtain ⟨g10, h⟩ := h
  refine aw_callV (M' := M_X5_loudestState) 3841 399 5 l2 [] [.int _] dL_law_3838 lk_RL_399 mv_X5_loudestState mp_X5_loudestState rfl ⟨leb rfl, leb rfl⟩ rfl (ltb rfl) g10 rfl (leb rfl) g6 g7 rfl (am_X5_loudestState hG h) (kkI fun v9 X8 h => ?_) (kxN KrI.no)
  refine aw_widen (cc' := cc) (ss' := ss) (Nat.le_refl _) (Nat.le_refl _) ?_
  refine aw_icmp_eq 3937 3844 dL_law_3841 rfl rfl (fun c11 => ?_) (fun c11 => ?_)
  · replace h := h.1 c11
    refine aw_iinc 3940 (v := 4) (lv' := [(5, _), (0, _), (1, _), (2, _), (3, _), (4, _)]) dL_law_3937 5 rfl kI_4 (ltb rfl) rfl rfl ?_
    refine aw_goto 28 dL_law_3940 rfl ?_
    exact aw_pick [1, 2, 3, 4, 5, 0] rfl (hO28 _ _ _ _ _ _ _ _ _ h)
  · replace h := h.2 c11
    refine aw_iconst 3845 (v := 0) dL_law_3844 kI_0 rfl ?_
    obtain ⟨g12, h⟩ := h
    obtain ⟨g13, h⟩ := h
    exact aw_ireturn (ty := .boolean) dL_law_3845 rfl rfl g12 g13 ⟨_, rfl, h⟩
set_option maxRecDepth 20000 in
theorem aw_L_law_3846 {G : GG} (hG : G.1.stackTraces = false) {P28 : Nat → Nat → Nat → Nat → Nat → Int32 → Nat → Nat → XH → Prop} {l0 : Nat} {l1 : Nat} {l2 : Nat} {l3 : Nat} {l4 : Nat} {l5 : Int32} {cc : Nat} {ss : Nat} {X : XH} {K : Int32 → XH → Prop} (hO28 : ∀ (l0 : Nat) (l1 : Nat) (l2 : Nat) (l3 : Nat) (l4 : Nat) (l5 : Int32) (cc : Nat) (ss : Nat) (X : XH), P28 l0 l1 l2 l3 l4 l5 cc ss X → AW G M_L_law 28 [(0, .ref 0), (1, .ref l1), (2, .ref l2), (3, .ref l3), (4, .ref l4), (5, .int l5)] [] X cc ss (KrI K)) (h : w_L_law_3846 G P28 l0 l1 l2 l3 l4 l5 cc ss X K) : AW G M_L_law 3846 [(0, .ref 0), (1, .ref l1), (2, .ref l2), (3, .ref l3), (4, .ref l4), (5, .int l5)] [] X cc ss (KrI K) := by
  unfold w_L_law_3846 at h
  refine aw_aload_n 3847 dL_law_3846 rfl 1 rfl rfl ?_
  refine aw_aload_n 3848 dL_law_3847 rfl 0 rfl rfl ?_
  refine aw_iload 3850 dL_law_3848 5 rfl rfl ?_
  refine aw_iconst 3851 (v := 1) dL_law_3850 kI_1 rfl ?_
  refine aw_iadd 3852 dL_law_3851 rfl ?_
  obtain ⟨g1, h⟩ := h
  refine aw_sld 3853 dL_law_3852 g1 rfl ?_
  refine aw_aload 3855 dL_law_3853 4 rfl rfl ?_
  obtain ⟨g2, h⟩ := h
  obtain ⟨g3, h⟩ := h
  refine aw_callSX (M' := M_L_meanFit) 3858 400 [.ref _, .int _, .ref _] [] dL_law_3855 lk_RL_400 ms_L_meanFit mp_L_meanFit (0, 8, 11, 13) [] rfl ⟨leb rfl, leb rfl⟩ rfl (leb rfl) g2 g3 rfl (am_L_meanFit hG h) (kkI fun v5 X4 h => ?_) (kxN KrI.no)
  refine aw_widen (cc' := cc + 1) (ss' := ss + 6) (Nat.le_refl _) (Nat.le_refl _) ?_
  refine aw_istore 3860 (lv' := [(6, _), (0, _), (1, _), (2, _), (3, _), (4, _), (5, _)]) dL_law_3858 (ltb rfl) rfl rfl ?_
  refine aw_aload_n 3861 dL_law_3860 rfl 3 rfl rfl ?_
  refine aw_aload_n 3862 dL_law_3861 rfl 1 rfl rfl ?_
  refine aw_iload 3864 dL_law_3862 6 rfl rfl ?_
  refine aw_iconst 3865 (v := 1) dL_law_3864 kI_1 rfl ?_
  refine aw_iadd 3866 dL_law_3865 rfl ?_
  obtain ⟨g6, h⟩ := h
  refine aw_sld 3867 dL_law_3866 g6 rfl ?_
  obtain ⟨g7, h⟩ := h
  obtain ⟨g8, h⟩ := h
  obtain ⟨g11, h⟩ := h
  refine aw_callV (M' := M_X5_meanFit) 3870 403 5 l2 [.int _] [] dL_law_3867 lk_RL_403 mv_X5_meanFit mp_X5_meanFit rfl ⟨leb rfl, leb rfl⟩ rfl (ltb rfl) g11 rfl (leb rfl) g7 g8 rfl (am_X5_meanFit hG h) (kkD fun v10 X9 h => ?_) (kxN KrD.no)
  refine aw_widen (cc' := cc + 1) (ss' := ss + 6) (Nat.le_refl _) (Nat.le_refl _) ?_
  refine aw_dstore 3872 (lv' := [(7, _), (6, _), (0, _), (1, _), (2, _), (3, _), (4, _), (5, _)]) dL_law_3870 (ltb rfl) rfl rfl ?_
  refine aw_aload_n 3873 dL_law_3872 rfl 4 rfl rfl ?_
  obtain ⟨g12, h⟩ := h
  obtain ⟨g13, h⟩ := h
  obtain ⟨g16, h⟩ := h
  refine aw_callV (M' := M_X5_thrown) 3876 196 5 l2 [] [] dL_law_3873 lk_RL_196 mv_X5_thrown mp_X5_thrown rfl ⟨leb rfl, leb rfl⟩ rfl (ltb rfl) g16 rfl (leb rfl) g12 g13 rfl (am_X5_thrown hG h) (kkI fun v15 X14 h => ?_) (kxN KrI.no)
  refine aw_widen (cc' := cc + 1) (ss' := ss + 6) (Nat.le_refl _) (Nat.le_refl _) ?_
  refine aw_iload 3878 dL_law_3876 1 rfl rfl ?_
  refine aw_icmp_eq 3883 3881 dL_law_3878 rfl rfl (fun c17 => ?_) (fun c17 => ?_)
  · replace h := h.1 c17
    refine aw_iload 3885 dL_law_3883 1 rfl rfl ?_
    refine aw_if_ne 3920 3888 dL_law_3885 rfl rfl (fun c18 => ?_) (fun c18 => ?_)
    · replace h := h.1 c18
      refine aw_goto 3937 dL_law_3920 rfl ?_
      refine aw_iinc 3940 (v := 4) (lv' := [(5, _), (7, _), (6, _), (0, _), (1, _), (2, _), (3, _), (4, _)]) dL_law_3937 7 rfl kI_4 (ltb rfl) rfl rfl ?_
      refine aw_goto 28 dL_law_3940 rfl ?_
      exact aw_pick [3, 4, 5, 6, 7, 0] rfl (hO28 _ _ _ _ _ _ _ _ _ h)
    · replace h := h.2 c18
      refine aw_aload 3890 dL_law_3888 6 rfl rfl ?_
      refine aw_iconst 3891 (v := 0) dL_law_3890 kI_0 rfl ?_
      obtain ⟨g19, h⟩ := h
      obtain ⟨g20, h⟩ := h
      refine aw_daload 3892 dL_law_3891 g19 g20 rfl ?_
      refine aw_dload 3894 dL_law_3892 0 rfl rfl ?_
      refine aw_dcmp 3895 dL_law_3894 rfl ?_
      refine aw_if_eq 3920 3898 dL_law_3895 rfl rfl (fun c21 => ?_) (fun c21 => ?_)
      · replace h := h.1 c21
        refine aw_goto 3937 dL_law_3920 rfl ?_
        refine aw_iinc 3940 (v := 4) (lv' := [(5, _), (7, _), (6, _), (0, _), (1, _), (2, _), (3, _), (4, _)]) dL_law_3937 7 rfl kI_4 (ltb rfl) rfl rfl ?_
        refine aw_goto 28 dL_law_3940 rfl ?_
        exact aw_pick [3, 4, 5, 6, 7, 0] rfl (hO28 _ _ _ _ _ _ _ _ _ h)
      · replace h := h.2 c21
        refine aw_aload 3900 dL_law_3898 6 rfl rfl ?_
        refine aw_iconst 3901 (v := 0) dL_law_3900 kI_0 rfl ?_
        refine aw_daload 3902 dL_law_3901 g19 g20 rfl ?_
        refine aw_aload 3904 dL_law_3902 6 rfl rfl ?_
        refine aw_iconst 3905 (v := 0) dL_law_3904 kI_0 rfl ?_
        refine aw_daload 3906 dL_law_3905 g19 g20 rfl ?_
        refine aw_dcmp 3907 dL_law_3906 rfl ?_
        refine aw_if_eq 3918 3910 dL_law_3907 rfl rfl (fun c22 => ?_) (fun c22 => ?_)
        · replace h := h.1 c22
          refine aw_iconst 3919 (v := 0) dL_law_3918 kI_0 rfl ?_
          obtain ⟨g23, h⟩ := h
          obtain ⟨g24, h⟩ := h
          exact aw_ireturn (ty := .boolean) dL_law_3919 rfl rfl g23 g24 ⟨_, rfl, h⟩
        · replace h := h.2 c22
          refine aw_dload 3912 dL_law_3910 0 rfl rfl ?_
          refine aw_dload 3914 dL_law_3912 0 rfl rfl ?_
          refine aw_dcmp 3915 dL_law_3914 rfl ?_
          refine aw_if_ne 3920 3918 dL_law_3915 rfl rfl (fun c25 => ?_) (fun c25 => ?_)
          · replace h := h.1 c25
            refine aw_goto 3937 dL_law_3920 rfl ?_
            refine aw_iinc 3940 (v := 4) (lv' := [(5, _), (7, _), (6, _), (0, _), (1, _), (2, _), (3, _), (4, _)]) dL_law_3937 7 rfl kI_4 (ltb rfl) rfl rfl ?_
            refine aw_goto 28 dL_law_3940 rfl ?_
            exact aw_pick [3, 4, 5, 6, 7, 0] rfl (hO28 _ _ _ _ _ _ _ _ _ h)
          · replace h := h.2 c25
            refine aw_iconst 3919 (v := 0) dL_law_3918 kI_0 rfl ?_
            obtain ⟨g26, h⟩ := h
            obtain ⟨g27, h⟩ := h
            exact aw_ireturn (ty := .boolean) dL_law_3919 rfl rfl g26 g27 ⟨_, rfl, h⟩
  · replace h := h.2 c17
    refine aw_iconst 3882 (v := 0) dL_law_3881 kI_0 rfl ?_
    obtain ⟨g28, h⟩ := h
    obtain ⟨g29, h⟩ := h
    exact aw_ireturn (ty := .boolean) dL_law_3882 rfl rfl g28 g29 ⟨_, rfl, h⟩
set_option maxRecDepth 20000 in
theorem aw_L_law_3923 {G : GG} (hG : G.1.stackTraces = false) {P28 : Nat → Nat → Nat → Nat → Nat → Int32 → Nat → Nat → XH → Prop} {l0 : Nat} {l1 : Nat} {l2 : Nat} {l3 : Nat} {l4 : Nat} {l5 : Int32} {cc : Nat} {ss : Nat} {X : XH} {K : Int32 → XH → Prop} (hO28 : ∀ (l0 : Nat) (l1 : Nat) (l2 : Nat) (l3 : Nat) (l4 : Nat) (l5 : Int32) (cc : Nat) (ss : Nat) (X : XH), P28 l0 l1 l2 l3 l4 l5 cc ss X → AW G M_L_law 28 [(0, .ref 0), (1, .ref l1), (2, .ref l2), (3, .ref l3), (4, .ref l4), (5, .int l5)] [] X cc ss (KrI K)) (h : w_L_law_3923 G P28 l0 l1 l2 l3 l4 l5 cc ss X K) : AW G M_L_law 3923 [(0, .ref 0), (1, .ref l1), (2, .ref l2), (3, .ref l3), (4, .ref l4), (5, .int l5)] [] X cc ss (KrI K) := by
  unfold w_L_law_3923 at h
  refine aw_aload_n 3924 dL_law_3923 rfl 1 rfl rfl ?_
  obtain ⟨g1, h⟩ := h
  obtain ⟨g2, h⟩ := h
  obtain ⟨g5, h⟩ := h
  refine aw_callV (M' := M_X4_digest) 3927 404 4 l1 [] [] dL_law_3924 lk_RL_404 mv_X4_digest mp_X4_digest rfl ⟨leb rfl, leb rfl⟩ rfl (ltb rfl) g5 rfl (leb rfl) g1 g2 rfl (am_X4_digest hG h) (kkL fun v4 X3 h => ?_) (kxN KrL.no)
  refine aw_widen (cc' := cc) (ss' := ss) (Nat.le_refl _) (Nat.le_refl _) ?_
  refine aw_aload_n 3928 dL_law_3927 rfl 2 rfl rfl ?_
  obtain ⟨g6, h⟩ := h
  obtain ⟨g7, h⟩ := h
  obtain ⟨g10, h⟩ := h
  refine aw_callV (M' := M_X5_digest) 3931 408 5 l2 [] [.long _] dL_law_3928 lk_RL_408 mv_X5_digest mp_X5_digest rfl ⟨leb rfl, leb rfl⟩ rfl (ltb rfl) g10 rfl (leb rfl) g6 g7 rfl (am_X5_digest hG h) (kkL fun v9 X8 h => ?_) (kxN KrL.no)
  refine aw_widen (cc' := cc) (ss' := ss) (Nat.le_refl _) (Nat.le_refl _) ?_
  refine aw_lcmp 3932 dL_law_3931 rfl ?_
  refine aw_if_eq 3937 3935 dL_law_3932 rfl rfl (fun c11 => ?_) (fun c11 => ?_)
  · replace h := h.1 c11
    refine aw_iinc 3940 (v := 4) (lv' := [(5, _), (0, _), (1, _), (2, _), (3, _), (4, _)]) dL_law_3937 5 rfl kI_4 (ltb rfl) rfl rfl ?_
    refine aw_goto 28 dL_law_3940 rfl ?_
    exact aw_pick [1, 2, 3, 4, 5, 0] rfl (hO28 _ _ _ _ _ _ _ _ _ h)
  · replace h := h.2 c11
    refine aw_iconst 3936 (v := 0) dL_law_3935 kI_0 rfl ?_
    obtain ⟨g12, h⟩ := h
    obtain ⟨g13, h⟩ := h
    exact aw_ireturn (ty := .boolean) dL_law_3936 rfl rfl g12 g13 ⟨_, rfl, h⟩
set_option maxRecDepth 20000 in
theorem aw_L_law_28 {G : GG} (hG : G.1.stackTraces = false)  {l0 : Nat} {l1 : Nat} {l2 : Nat} {l3 : Nat} {l4 : Nat} {l5 : Int32} {cc : Nat} {ss : Nat} {X : XH} {K : Int32 → XH → Prop}  (h : w_L_law_28 G  l0 l1 l2 l3 l4 l5 cc ss X K) : AW G M_L_law 28 [(0, .ref 0), (1, .ref l1), (2, .ref l2), (3, .ref l3), (4, .ref l4), (5, .int l5)] [] X cc ss (KrI K) :=
  h (fun l0 l1 l2 l3 l4 l5 cc ss X => AW G M_L_law 28 [(0, .ref 0), (1, .ref l1), (2, .ref l2), (3, .ref l3), (4, .ref l4), (5, .int l5)] [] X cc ss (KrI K)) (fun l0 l1 l2 l3 l4 l5 cc ss X h => by
    refine aw_iload 30 dL_law_28 5 rfl rfl ?_
    refine aw_aload_n 31 dL_law_30 rfl 0 rfl rfl ?_
    refine aw_slen 32 dL_law_31 rfl ?_
    refine aw_iconst 33 (v := 4) dL_law_32 kI_4 rfl ?_
    refine aw_isub 34 dL_law_33 rfl ?_
    refine aw_icmp_gt 3943 37 dL_law_34 rfl rfl (fun c1 => ?_) (fun c1 => ?_)
    · replace h := h.1 c1
      refine aw_iconst 3944 (v := 1) dL_law_3943 kI_1 rfl ?_
      obtain ⟨g2, h⟩ := h
      obtain ⟨g3, h⟩ := h
      exact aw_ireturn (ty := .boolean) dL_law_3944 rfl rfl g2 g3 ⟨_, rfl, h⟩
    · replace h := h.2 c1
      refine aw_aload_n 38 dL_law_37 rfl 0 rfl rfl ?_
      refine aw_iload 40 dL_law_38 5 rfl rfl ?_
      obtain ⟨g4, h⟩ := h
      refine aw_sld 41 dL_law_40 g4 rfl ?_
      refine aw_bipush 43 (v := 127) dL_law_41 kB_127 rfl ?_
      refine aw_iand 44 dL_law_43 rfl ?_
      by_cases c5 : ((G.2.2.2.1 (Int32.toNatClampNeg l5)) &&& (127 : Int32)).toInt < 0 ∨ 64 < ((G.2.2.2.1 (Int32.toNatClampNeg l5)) &&& (127 : Int32)).toInt
      · refine aw_tableOut 3937 dL_law_44 c5 rfl ?_
        replace h := h.1 c5
        refine aw_iinc 3940 (v := 4) (lv' := [(5, _), (0, _), (1, _), (2, _), (3, _), (4, _)]) dL_law_3937 5 rfl kI_4 (ltb rfl) rfl rfl ?_
        refine aw_goto 28 dL_law_3940 rfl ?_
        exact aw_pick [1, 2, 3, 4, 5, 0] rfl h
      by_cases c5_0 : ((G.2.2.2.1 (Int32.toNatClampNeg l5)) &&& (127 : Int32)).toInt = 0
      · refine aw_tableIn 320 dL_law_44 (fun q => c5 (Or.inl q)) (fun q => c5 (Or.inr q)) (by rw [c5_0]; rfl) rfl ?_
        replace h := h.2.1 c5_0
        exact aw_pick [0, 1, 2, 3, 4, 5] rfl (aw_L_law_320 hG (fun _ _ _ _ _ _ _ _ _ h => h) h)
      by_cases c5_1 : ((G.2.2.2.1 (Int32.toNatClampNeg l5)) &&& (127 : Int32)).toInt = 1
      · refine aw_tableIn 400 dL_law_44 (fun q => c5 (Or.inl q)) (fun q => c5 (Or.inr q)) (by rw [c5_1]; rfl) rfl ?_
        replace h := h.2.2.1 c5_1
        exact aw_pick [0, 1, 2, 3, 4, 5] rfl (aw_L_law_400 hG (fun _ _ _ _ _ _ _ _ _ h => h) h)
      by_cases c5_2 : ((G.2.2.2.1 (Int32.toNatClampNeg l5)) &&& (127 : Int32)).toInt = 2
      · refine aw_tableIn 468 dL_law_44 (fun q => c5 (Or.inl q)) (fun q => c5 (Or.inr q)) (by rw [c5_2]; rfl) rfl ?_
        replace h := h.2.2.2.1 c5_2
        exact aw_pick [0, 1, 2, 3, 4, 5] rfl (aw_L_law_468 hG (fun _ _ _ _ _ _ _ _ _ h => h) h)
      by_cases c5_3 : ((G.2.2.2.1 (Int32.toNatClampNeg l5)) &&& (127 : Int32)).toInt = 3
      · refine aw_tableIn 536 dL_law_44 (fun q => c5 (Or.inl q)) (fun q => c5 (Or.inr q)) (by rw [c5_3]; rfl) rfl ?_
        replace h := h.2.2.2.2.1 c5_3
        exact aw_pick [0, 1, 2, 3, 4, 5] rfl (aw_L_law_536 hG (fun _ _ _ _ _ _ _ _ _ h => h) h)
      by_cases c5_4 : ((G.2.2.2.1 (Int32.toNatClampNeg l5)) &&& (127 : Int32)).toInt = 4
      · refine aw_tableIn 604 dL_law_44 (fun q => c5 (Or.inl q)) (fun q => c5 (Or.inr q)) (by rw [c5_4]; rfl) rfl ?_
        replace h := h.2.2.2.2.2.1 c5_4
        exact aw_pick [0, 1, 2, 3, 4, 5] rfl (aw_L_law_604 hG (fun _ _ _ _ _ _ _ _ _ h => h) h)
      by_cases c5_5 : ((G.2.2.2.1 (Int32.toNatClampNeg l5)) &&& (127 : Int32)).toInt = 5
      · refine aw_tableIn 684 dL_law_44 (fun q => c5 (Or.inl q)) (fun q => c5 (Or.inr q)) (by rw [c5_5]; rfl) rfl ?_
        replace h := h.2.2.2.2.2.2.1 c5_5
        exact aw_pick [0, 1, 2, 3, 4, 5] rfl (aw_L_law_684 hG (fun _ _ _ _ _ _ _ _ _ h => h) h)
      by_cases c5_6 : ((G.2.2.2.1 (Int32.toNatClampNeg l5)) &&& (127 : Int32)).toInt = 6
      · refine aw_tableIn 764 dL_law_44 (fun q => c5 (Or.inl q)) (fun q => c5 (Or.inr q)) (by rw [c5_6]; rfl) rfl ?_
        replace h := h.2.2.2.2.2.2.2.1 c5_6
        exact aw_pick [0, 1, 2, 3, 4, 5] rfl (aw_L_law_764 hG (fun _ _ _ _ _ _ _ _ _ h => h) h)
      by_cases c5_7 : ((G.2.2.2.1 (Int32.toNatClampNeg l5)) &&& (127 : Int32)).toInt = 7
      · refine aw_tableIn 832 dL_law_44 (fun q => c5 (Or.inl q)) (fun q => c5 (Or.inr q)) (by rw [c5_7]; rfl) rfl ?_
        replace h := h.2.2.2.2.2.2.2.2.1 c5_7
        exact aw_pick [0, 1, 2, 3, 4, 5] rfl (aw_L_law_832 hG (fun _ _ _ _ _ _ _ _ _ h => h) h)
      by_cases c5_8 : ((G.2.2.2.1 (Int32.toNatClampNeg l5)) &&& (127 : Int32)).toInt = 8
      · refine aw_tableIn 912 dL_law_44 (fun q => c5 (Or.inl q)) (fun q => c5 (Or.inr q)) (by rw [c5_8]; rfl) rfl ?_
        replace h := h.2.2.2.2.2.2.2.2.2.1 c5_8
        exact aw_pick [0, 1, 2, 3, 4, 5] rfl (aw_L_law_912 hG (fun _ _ _ _ _ _ _ _ _ h => h) h)
      by_cases c5_9 : ((G.2.2.2.1 (Int32.toNatClampNeg l5)) &&& (127 : Int32)).toInt = 9
      · refine aw_tableIn 980 dL_law_44 (fun q => c5 (Or.inl q)) (fun q => c5 (Or.inr q)) (by rw [c5_9]; rfl) rfl ?_
        replace h := h.2.2.2.2.2.2.2.2.2.2.1 c5_9
        exact aw_pick [0, 1, 2, 3, 4, 5] rfl (aw_L_law_980 hG (fun _ _ _ _ _ _ _ _ _ h => h) h)
      by_cases c5_10 : ((G.2.2.2.1 (Int32.toNatClampNeg l5)) &&& (127 : Int32)).toInt = 10
      · refine aw_tableIn 1048 dL_law_44 (fun q => c5 (Or.inl q)) (fun q => c5 (Or.inr q)) (by rw [c5_10]; rfl) rfl ?_
        replace h := h.2.2.2.2.2.2.2.2.2.2.2.1 c5_10
        exact aw_pick [0, 1, 2, 3, 4, 5] rfl (aw_L_law_1048 hG (fun _ _ _ _ _ _ _ _ _ h => h) h)
      by_cases c5_11 : ((G.2.2.2.1 (Int32.toNatClampNeg l5)) &&& (127 : Int32)).toInt = 11
      · refine aw_tableIn 1092 dL_law_44 (fun q => c5 (Or.inl q)) (fun q => c5 (Or.inr q)) (by rw [c5_11]; rfl) rfl ?_
        replace h := h.2.2.2.2.2.2.2.2.2.2.2.2.1 c5_11
        exact aw_pick [0, 1, 2, 3, 4, 5] rfl (aw_L_law_1092 hG (fun _ _ _ _ _ _ _ _ _ h => h) h)
      by_cases c5_12 : ((G.2.2.2.1 (Int32.toNatClampNeg l5)) &&& (127 : Int32)).toInt = 12
      · refine aw_tableIn 1160 dL_law_44 (fun q => c5 (Or.inl q)) (fun q => c5 (Or.inr q)) (by rw [c5_12]; rfl) rfl ?_
        replace h := h.2.2.2.2.2.2.2.2.2.2.2.2.2.1 c5_12
        exact aw_pick [0, 1, 2, 3, 4, 5] rfl (aw_L_law_1160 hG (fun _ _ _ _ _ _ _ _ _ h => h) h)
      by_cases c5_13 : ((G.2.2.2.1 (Int32.toNatClampNeg l5)) &&& (127 : Int32)).toInt = 13
      · refine aw_tableIn 1240 dL_law_44 (fun q => c5 (Or.inl q)) (fun q => c5 (Or.inr q)) (by rw [c5_13]; rfl) rfl ?_
        replace h := h.2.2.2.2.2.2.2.2.2.2.2.2.2.2.1 c5_13
        exact aw_pick [0, 1, 2, 3, 4, 5] rfl (aw_L_law_1240 hG (fun _ _ _ _ _ _ _ _ _ h => h) h)
      by_cases c5_14 : ((G.2.2.2.1 (Int32.toNatClampNeg l5)) &&& (127 : Int32)).toInt = 14
      · refine aw_tableIn 1296 dL_law_44 (fun q => c5 (Or.inl q)) (fun q => c5 (Or.inr q)) (by rw [c5_14]; rfl) rfl ?_
        replace h := h.2.2.2.2.2.2.2.2.2.2.2.2.2.2.2.1 c5_14
        exact aw_pick [0, 1, 2, 3, 4, 5] rfl (aw_L_law_1296 hG (fun _ _ _ _ _ _ _ _ _ h => h) h)
      by_cases c5_15 : ((G.2.2.2.1 (Int32.toNatClampNeg l5)) &&& (127 : Int32)).toInt = 15
      · refine aw_tableIn 1309 dL_law_44 (fun q => c5 (Or.inl q)) (fun q => c5 (Or.inr q)) (by rw [c5_15]; rfl) rfl ?_
        replace h := h.2.2.2.2.2.2.2.2.2.2.2.2.2.2.2.2.1 c5_15
        exact aw_pick [0, 1, 2, 3, 4, 5] rfl (aw_L_law_1309 hG (fun _ _ _ _ _ _ _ _ _ h => h) h)
      by_cases c5_16 : ((G.2.2.2.1 (Int32.toNatClampNeg l5)) &&& (127 : Int32)).toInt = 16
      · refine aw_tableIn 1322 dL_law_44 (fun q => c5 (Or.inl q)) (fun q => c5 (Or.inr q)) (by rw [c5_16]; rfl) rfl ?_
        replace h := h.2.2.2.2.2.2.2.2.2.2.2.2.2.2.2.2.2.1 c5_16
        exact aw_pick [0, 1, 2, 3, 4, 5] rfl (aw_L_law_1322 hG (fun _ _ _ _ _ _ _ _ _ h => h) h)
      by_cases c5_17 : ((G.2.2.2.1 (Int32.toNatClampNeg l5)) &&& (127 : Int32)).toInt = 17
      · refine aw_tableIn 1366 dL_law_44 (fun q => c5 (Or.inl q)) (fun q => c5 (Or.inr q)) (by rw [c5_17]; rfl) rfl ?_
        replace h := h.2.2.2.2.2.2.2.2.2.2.2.2.2.2.2.2.2.2.1 c5_17
        exact aw_pick [0, 1, 2, 3, 4, 5] rfl (aw_L_law_1366 hG (fun _ _ _ _ _ _ _ _ _ h => h) h)
      by_cases c5_18 : ((G.2.2.2.1 (Int32.toNatClampNeg l5)) &&& (127 : Int32)).toInt = 18
      · refine aw_tableIn 1402 dL_law_44 (fun q => c5 (Or.inl q)) (fun q => c5 (Or.inr q)) (by rw [c5_18]; rfl) rfl ?_
        replace h := h.2.2.2.2.2.2.2.2.2.2.2.2.2.2.2.2.2.2.2.1 c5_18
        exact aw_pick [0, 1, 2, 3, 4, 5] rfl (aw_L_law_1402 hG (fun _ _ _ _ _ _ _ _ _ h => h) h)
      by_cases c5_19 : ((G.2.2.2.1 (Int32.toNatClampNeg l5)) &&& (127 : Int32)).toInt = 19
      · refine aw_tableIn 1438 dL_law_44 (fun q => c5 (Or.inl q)) (fun q => c5 (Or.inr q)) (by rw [c5_19]; rfl) rfl ?_
        replace h := h.2.2.2.2.2.2.2.2.2.2.2.2.2.2.2.2.2.2.2.2.1 c5_19
        exact aw_pick [0, 1, 2, 3, 4, 5] rfl (aw_L_law_1438 hG (fun _ _ _ _ _ _ _ _ _ h => h) h)
      by_cases c5_20 : ((G.2.2.2.1 (Int32.toNatClampNeg l5)) &&& (127 : Int32)).toInt = 20
      · refine aw_tableIn 1462 dL_law_44 (fun q => c5 (Or.inl q)) (fun q => c5 (Or.inr q)) (by rw [c5_20]; rfl) rfl ?_
        replace h := h.2.2.2.2.2.2.2.2.2.2.2.2.2.2.2.2.2.2.2.2.2.1 c5_20
        exact aw_pick [0, 1, 2, 3, 4, 5] rfl (aw_L_law_1462 hG (fun _ _ _ _ _ _ _ _ _ h => h) h)
      by_cases c5_21 : ((G.2.2.2.1 (Int32.toNatClampNeg l5)) &&& (127 : Int32)).toInt = 21
      · refine aw_tableIn 1475 dL_law_44 (fun q => c5 (Or.inl q)) (fun q => c5 (Or.inr q)) (by rw [c5_21]; rfl) rfl ?_
        replace h := h.2.2.2.2.2.2.2.2.2.2.2.2.2.2.2.2.2.2.2.2.2.2.1 c5_21
        exact aw_pick [0, 1, 2, 3, 4, 5] rfl (aw_L_law_1475 hG (fun _ _ _ _ _ _ _ _ _ h => h) h)
      by_cases c5_22 : ((G.2.2.2.1 (Int32.toNatClampNeg l5)) &&& (127 : Int32)).toInt = 22
      · refine aw_tableIn 1488 dL_law_44 (fun q => c5 (Or.inl q)) (fun q => c5 (Or.inr q)) (by rw [c5_22]; rfl) rfl ?_
        replace h := h.2.2.2.2.2.2.2.2.2.2.2.2.2.2.2.2.2.2.2.2.2.2.2.1 c5_22
        exact aw_pick [0, 1, 2, 3, 4, 5] rfl (aw_L_law_1488 hG (fun _ _ _ _ _ _ _ _ _ h => h) h)
      by_cases c5_23 : ((G.2.2.2.1 (Int32.toNatClampNeg l5)) &&& (127 : Int32)).toInt = 23
      · refine aw_tableIn 1544 dL_law_44 (fun q => c5 (Or.inl q)) (fun q => c5 (Or.inr q)) (by rw [c5_23]; rfl) rfl ?_
        replace h := h.2.2.2.2.2.2.2.2.2.2.2.2.2.2.2.2.2.2.2.2.2.2.2.2.1 c5_23
        exact aw_pick [0, 1, 2, 3, 4, 5] rfl (aw_L_law_1544 hG (fun _ _ _ _ _ _ _ _ _ h => h) h)
      by_cases c5_24 : ((G.2.2.2.1 (Int32.toNatClampNeg l5)) &&& (127 : Int32)).toInt = 24
      · refine aw_tableIn 1600 dL_law_44 (fun q => c5 (Or.inl q)) (fun q => c5 (Or.inr q)) (by rw [c5_24]; rfl) rfl ?_
        replace h := h.2.2.2.2.2.2.2.2.2.2.2.2.2.2.2.2.2.2.2.2.2.2.2.2.2.1 c5_24
        exact aw_pick [0, 1, 2, 3, 4, 5] rfl (aw_L_law_1600 hG (fun _ _ _ _ _ _ _ _ _ h => h) h)
      by_cases c5_25 : ((G.2.2.2.1 (Int32.toNatClampNeg l5)) &&& (127 : Int32)).toInt = 25
      · refine aw_tableIn 1656 dL_law_44 (fun q => c5 (Or.inl q)) (fun q => c5 (Or.inr q)) (by rw [c5_25]; rfl) rfl ?_
        replace h := h.2.2.2.2.2.2.2.2.2.2.2.2.2.2.2.2.2.2.2.2.2.2.2.2.2.2.1 c5_25
        exact aw_pick [0, 1, 2, 3, 4, 5] rfl (aw_L_law_1656 hG (fun _ _ _ _ _ _ _ _ _ h => h) h)
      by_cases c5_26 : ((G.2.2.2.1 (Int32.toNatClampNeg l5)) &&& (127 : Int32)).toInt = 26
      · refine aw_tableIn 1712 dL_law_44 (fun q => c5 (Or.inl q)) (fun q => c5 (Or.inr q)) (by rw [c5_26]; rfl) rfl ?_
        replace h := h.2.2.2.2.2.2.2.2.2.2.2.2.2.2.2.2.2.2.2.2.2.2.2.2.2.2.2.1 c5_26
        exact aw_pick [0, 1, 2, 3, 4, 5] rfl (aw_L_law_1712 hG (fun _ _ _ _ _ _ _ _ _ h => h) h)
      by_cases c5_27 : ((G.2.2.2.1 (Int32.toNatClampNeg l5)) &&& (127 : Int32)).toInt = 27
      · refine aw_tableIn 1787 dL_law_44 (fun q => c5 (Or.inl q)) (fun q => c5 (Or.inr q)) (by rw [c5_27]; rfl) rfl ?_
        replace h := h.2.2.2.2.2.2.2.2.2.2.2.2.2.2.2.2.2.2.2.2.2.2.2.2.2.2.2.2.1 c5_27
        exact aw_pick [0, 1, 2, 3, 4, 5] rfl (aw_L_law_1787 hG (fun _ _ _ _ _ _ _ _ _ h => h) h)
      by_cases c5_28 : ((G.2.2.2.1 (Int32.toNatClampNeg l5)) &&& (127 : Int32)).toInt = 28
      · refine aw_tableIn 1855 dL_law_44 (fun q => c5 (Or.inl q)) (fun q => c5 (Or.inr q)) (by rw [c5_28]; rfl) rfl ?_
        replace h := h.2.2.2.2.2.2.2.2.2.2.2.2.2.2.2.2.2.2.2.2.2.2.2.2.2.2.2.2.2.1 c5_28
        exact aw_pick [0, 1, 2, 3, 4, 5] rfl (aw_L_law_1855 hG (fun _ _ _ _ _ _ _ _ _ h => h) h)
      by_cases c5_29 : ((G.2.2.2.1 (Int32.toNatClampNeg l5)) &&& (127 : Int32)).toInt = 29
      · refine aw_tableIn 1923 dL_law_44 (fun q => c5 (Or.inl q)) (fun q => c5 (Or.inr q)) (by rw [c5_29]; rfl) rfl ?_
        replace h := h.2.2.2.2.2.2.2.2.2.2.2.2.2.2.2.2.2.2.2.2.2.2.2.2.2.2.2.2.2.2.1 c5_29
        exact aw_pick [0, 1, 2, 3, 4, 5] rfl (aw_L_law_1923 hG (fun _ _ _ _ _ _ _ _ _ h => h) h)
      by_cases c5_30 : ((G.2.2.2.1 (Int32.toNatClampNeg l5)) &&& (127 : Int32)).toInt = 30
      · refine aw_tableIn 1998 dL_law_44 (fun q => c5 (Or.inl q)) (fun q => c5 (Or.inr q)) (by rw [c5_30]; rfl) rfl ?_
        replace h := h.2.2.2.2.2.2.2.2.2.2.2.2.2.2.2.2.2.2.2.2.2.2.2.2.2.2.2.2.2.2.2.1 c5_30
        exact aw_pick [0, 1, 2, 3, 4, 5] rfl (aw_L_law_1998 hG (fun _ _ _ _ _ _ _ _ _ h => h) h)
      by_cases c5_31 : ((G.2.2.2.1 (Int32.toNatClampNeg l5)) &&& (127 : Int32)).toInt = 31
      · refine aw_tableIn 2066 dL_law_44 (fun q => c5 (Or.inl q)) (fun q => c5 (Or.inr q)) (by rw [c5_31]; rfl) rfl ?_
        replace h := h.2.2.2.2.2.2.2.2.2.2.2.2.2.2.2.2.2.2.2.2.2.2.2.2.2.2.2.2.2.2.2.2.1 c5_31
        exact aw_pick [0, 1, 2, 3, 4, 5] rfl (aw_L_law_2066 hG (fun _ _ _ _ _ _ _ _ _ h => h) h)
      by_cases c5_32 : ((G.2.2.2.1 (Int32.toNatClampNeg l5)) &&& (127 : Int32)).toInt = 32
      · refine aw_tableIn 2134 dL_law_44 (fun q => c5 (Or.inl q)) (fun q => c5 (Or.inr q)) (by rw [c5_32]; rfl) rfl ?_
        replace h := h.2.2.2.2.2.2.2.2.2.2.2.2.2.2.2.2.2.2.2.2.2.2.2.2.2.2.2.2.2.2.2.2.2.1 c5_32
        exact aw_pick [0, 1, 2, 3, 4, 5] rfl (aw_L_law_2134 hG (fun _ _ _ _ _ _ _ _ _ h => h) h)
      by_cases c5_33 : ((G.2.2.2.1 (Int32.toNatClampNeg l5)) &&& (127 : Int32)).toInt = 33
      · refine aw_tableIn 2209 dL_law_44 (fun q => c5 (Or.inl q)) (fun q => c5 (Or.inr q)) (by rw [c5_33]; rfl) rfl ?_
        replace h := h.2.2.2.2.2.2.2.2.2.2.2.2.2.2.2.2.2.2.2.2.2.2.2.2.2.2.2.2.2.2.2.2.2.2.1 c5_33
        exact aw_pick [0, 1, 2, 3, 4, 5] rfl (aw_L_law_2209 hG (fun _ _ _ _ _ _ _ _ _ h => h) h)
      by_cases c5_34 : ((G.2.2.2.1 (Int32.toNatClampNeg l5)) &&& (127 : Int32)).toInt = 34
      · refine aw_tableIn 2277 dL_law_44 (fun q => c5 (Or.inl q)) (fun q => c5 (Or.inr q)) (by rw [c5_34]; rfl) rfl ?_
        replace h := h.2.2.2.2.2.2.2.2.2.2.2.2.2.2.2.2.2.2.2.2.2.2.2.2.2.2.2.2.2.2.2.2.2.2.2.1 c5_34
        exact aw_pick [0, 1, 2, 3, 4, 5] rfl (aw_L_law_2277 hG (fun _ _ _ _ _ _ _ _ _ h => h) h)
      by_cases c5_35 : ((G.2.2.2.1 (Int32.toNatClampNeg l5)) &&& (127 : Int32)).toInt = 35
      · refine aw_tableIn 2345 dL_law_44 (fun q => c5 (Or.inl q)) (fun q => c5 (Or.inr q)) (by rw [c5_35]; rfl) rfl ?_
        replace h := h.2.2.2.2.2.2.2.2.2.2.2.2.2.2.2.2.2.2.2.2.2.2.2.2.2.2.2.2.2.2.2.2.2.2.2.2.1 c5_35
        exact aw_pick [0, 1, 2, 3, 4, 5] rfl (aw_L_law_2345 hG (fun _ _ _ _ _ _ _ _ _ h => h) h)
      by_cases c5_36 : ((G.2.2.2.1 (Int32.toNatClampNeg l5)) &&& (127 : Int32)).toInt = 36
      · refine aw_tableIn 2413 dL_law_44 (fun q => c5 (Or.inl q)) (fun q => c5 (Or.inr q)) (by rw [c5_36]; rfl) rfl ?_
        replace h := h.2.2.2.2.2.2.2.2.2.2.2.2.2.2.2.2.2.2.2.2.2.2.2.2.2.2.2.2.2.2.2.2.2.2.2.2.2.1 c5_36
        exact aw_pick [0, 1, 2, 3, 4, 5] rfl (aw_L_law_2413 hG (fun _ _ _ _ _ _ _ _ _ h => h) h)
      by_cases c5_37 : ((G.2.2.2.1 (Int32.toNatClampNeg l5)) &&& (127 : Int32)).toInt = 37
      · refine aw_tableIn 2481 dL_law_44 (fun q => c5 (Or.inl q)) (fun q => c5 (Or.inr q)) (by rw [c5_37]; rfl) rfl ?_
        replace h := h.2.2.2.2.2.2.2.2.2.2.2.2.2.2.2.2.2.2.2.2.2.2.2.2.2.2.2.2.2.2.2.2.2.2.2.2.2.2.1 c5_37
        exact aw_pick [0, 1, 2, 3, 4, 5] rfl (aw_L_law_2481 hG (fun _ _ _ _ _ _ _ _ _ h => h) h)
      by_cases c5_38 : ((G.2.2.2.1 (Int32.toNatClampNeg l5)) &&& (127 : Int32)).toInt = 38
      · refine aw_tableIn 2549 dL_law_44 (fun q => c5 (Or.inl q)) (fun q => c5 (Or.inr q)) (by rw [c5_38]; rfl) rfl ?_
        replace h := h.2.2.2.2.2.2.2.2.2.2.2.2.2.2.2.2.2.2.2.2.2.2.2.2.2.2.2.2.2.2.2.2.2.2.2.2.2.2.2.1 c5_38
        exact aw_pick [0, 1, 2, 3, 4, 5] rfl (aw_L_law_2549 hG (fun _ _ _ _ _ _ _ _ _ h => h) h)
      by_cases c5_39 : ((G.2.2.2.1 (Int32.toNatClampNeg l5)) &&& (127 : Int32)).toInt = 39
      · refine aw_tableIn 2617 dL_law_44 (fun q => c5 (Or.inl q)) (fun q => c5 (Or.inr q)) (by rw [c5_39]; rfl) rfl ?_
        replace h := h.2.2.2.2.2.2.2.2.2.2.2.2.2.2.2.2.2.2.2.2.2.2.2.2.2.2.2.2.2.2.2.2.2.2.2.2.2.2.2.2.1 c5_39
        exact aw_pick [0, 1, 2, 3, 4, 5] rfl (aw_L_law_2617 hG (fun _ _ _ _ _ _ _ _ _ h => h) h)
      by_cases c5_40 : ((G.2.2.2.1 (Int32.toNatClampNeg l5)) &&& (127 : Int32)).toInt = 40
      · refine aw_tableIn 2685 dL_law_44 (fun q => c5 (Or.inl q)) (fun q => c5 (Or.inr q)) (by rw [c5_40]; rfl) rfl ?_
        replace h := h.2.2.2.2.2.2.2.2.2.2.2.2.2.2.2.2.2.2.2.2.2.2.2.2.2.2.2.2.2.2.2.2.2.2.2.2.2.2.2.2.2.1 c5_40
        exact aw_pick [0, 1, 2, 3, 4, 5] rfl (aw_L_law_2685 hG (fun _ _ _ _ _ _ _ _ _ h => h) h)
      by_cases c5_41 : ((G.2.2.2.1 (Int32.toNatClampNeg l5)) &&& (127 : Int32)).toInt = 41
      · refine aw_tableIn 2741 dL_law_44 (fun q => c5 (Or.inl q)) (fun q => c5 (Or.inr q)) (by rw [c5_41]; rfl) rfl ?_
        replace h := h.2.2.2.2.2.2.2.2.2.2.2.2.2.2.2.2.2.2.2.2.2.2.2.2.2.2.2.2.2.2.2.2.2.2.2.2.2.2.2.2.2.2.1 c5_41
        exact aw_pick [0, 1, 2, 3, 4, 5] rfl (aw_L_law_2741 hG (fun _ _ _ _ _ _ _ _ _ h => h) h)
      by_cases c5_42 : ((G.2.2.2.1 (Int32.toNatClampNeg l5)) &&& (127 : Int32)).toInt = 42
      · refine aw_tableIn 2797 dL_law_44 (fun q => c5 (Or.inl q)) (fun q => c5 (Or.inr q)) (by rw [c5_42]; rfl) rfl ?_
        replace h := h.2.2.2.2.2.2.2.2.2.2.2.2.2.2.2.2.2.2.2.2.2.2.2.2.2.2.2.2.2.2.2.2.2.2.2.2.2.2.2.2.2.2.2.1 c5_42
        exact aw_pick [0, 1, 2, 3, 4, 5] rfl (aw_L_law_2797 hG (fun _ _ _ _ _ _ _ _ _ h => h) h)
      by_cases c5_43 : ((G.2.2.2.1 (Int32.toNatClampNeg l5)) &&& (127 : Int32)).toInt = 43
      · refine aw_tableIn 2872 dL_law_44 (fun q => c5 (Or.inl q)) (fun q => c5 (Or.inr q)) (by rw [c5_43]; rfl) rfl ?_
        replace h := h.2.2.2.2.2.2.2.2.2.2.2.2.2.2.2.2.2.2.2.2.2.2.2.2.2.2.2.2.2.2.2.2.2.2.2.2.2.2.2.2.2.2.2.2.1 c5_43
        exact aw_pick [0, 1, 2, 3, 4, 5] rfl (aw_L_law_2872 hG (fun _ _ _ _ _ _ _ _ _ h => h) h)
      by_cases c5_44 : ((G.2.2.2.1 (Int32.toNatClampNeg l5)) &&& (127 : Int32)).toInt = 44
      · refine aw_tableIn 2947 dL_law_44 (fun q => c5 (Or.inl q)) (fun q => c5 (Or.inr q)) (by rw [c5_44]; rfl) rfl ?_
        replace h := h.2.2.2.2.2.2.2.2.2.2.2.2.2.2.2.2.2.2.2.2.2.2.2.2.2.2.2.2.2.2.2.2.2.2.2.2.2.2.2.2.2.2.2.2.2.1 c5_44
        exact aw_pick [0, 1, 2, 3, 4, 5] rfl (aw_L_law_2947 hG (fun _ _ _ _ _ _ _ _ _ h => h) h)
      by_cases c5_45 : ((G.2.2.2.1 (Int32.toNatClampNeg l5)) &&& (127 : Int32)).toInt = 45
      · refine aw_tableIn 3022 dL_law_44 (fun q => c5 (Or.inl q)) (fun q => c5 (Or.inr q)) (by rw [c5_45]; rfl) rfl ?_
        replace h := h.2.2.2.2.2.2.2.2.2.2.2.2.2.2.2.2.2.2.2.2.2.2.2.2.2.2.2.2.2.2.2.2.2.2.2.2.2.2.2.2.2.2.2.2.2.2.1 c5_45
        exact aw_pick [0, 1, 2, 3, 4, 5] rfl (aw_L_law_3022 hG (fun _ _ _ _ _ _ _ _ _ h => h) h)
      by_cases c5_46 : ((G.2.2.2.1 (Int32.toNatClampNeg l5)) &&& (127 : Int32)).toInt = 46
      · refine aw_tableIn 3109 dL_law_44 (fun q => c5 (Or.inl q)) (fun q => c5 (Or.inr q)) (by rw [c5_46]; rfl) rfl ?_
        replace h := h.2.2.2.2.2.2.2.2.2.2.2.2.2.2.2.2.2.2.2.2.2.2.2.2.2.2.2.2.2.2.2.2.2.2.2.2.2.2.2.2.2.2.2.2.2.2.2.1 c5_46
        exact aw_pick [0, 1, 2, 3, 4, 5] rfl (aw_L_law_3109 hG (fun _ _ _ _ _ _ _ _ _ h => h) h)
      by_cases c5_47 : ((G.2.2.2.1 (Int32.toNatClampNeg l5)) &&& (127 : Int32)).toInt = 47
      · refine aw_tableIn 3177 dL_law_44 (fun q => c5 (Or.inl q)) (fun q => c5 (Or.inr q)) (by rw [c5_47]; rfl) rfl ?_
        replace h := h.2.2.2.2.2.2.2.2.2.2.2.2.2.2.2.2.2.2.2.2.2.2.2.2.2.2.2.2.2.2.2.2.2.2.2.2.2.2.2.2.2.2.2.2.2.2.2.2.1 c5_47
        exact aw_pick [0, 1, 2, 3, 4, 5] rfl (aw_L_law_3177 hG (fun _ _ _ _ _ _ _ _ _ h => h) h)
      by_cases c5_48 : ((G.2.2.2.1 (Int32.toNatClampNeg l5)) &&& (127 : Int32)).toInt = 48
      · refine aw_tableIn 3245 dL_law_44 (fun q => c5 (Or.inl q)) (fun q => c5 (Or.inr q)) (by rw [c5_48]; rfl) rfl ?_
        replace h := h.2.2.2.2.2.2.2.2.2.2.2.2.2.2.2.2.2.2.2.2.2.2.2.2.2.2.2.2.2.2.2.2.2.2.2.2.2.2.2.2.2.2.2.2.2.2.2.2.2.1 c5_48
        exact aw_pick [0, 1, 2, 3, 4, 5] rfl (aw_L_law_3245 hG (fun _ _ _ _ _ _ _ _ _ h => h) h)
      by_cases c5_49 : ((G.2.2.2.1 (Int32.toNatClampNeg l5)) &&& (127 : Int32)).toInt = 49
      · refine aw_tableIn 3301 dL_law_44 (fun q => c5 (Or.inl q)) (fun q => c5 (Or.inr q)) (by rw [c5_49]; rfl) rfl ?_
        replace h := h.2.2.2.2.2.2.2.2.2.2.2.2.2.2.2.2.2.2.2.2.2.2.2.2.2.2.2.2.2.2.2.2.2.2.2.2.2.2.2.2.2.2.2.2.2.2.2.2.2.2.1 c5_49
        exact aw_pick [0, 1, 2, 3, 4, 5] rfl (aw_L_law_3301 hG (fun _ _ _ _ _ _ _ _ _ h => h) h)
      by_cases c5_50 : ((G.2.2.2.1 (Int32.toNatClampNeg l5)) &&& (127 : Int32)).toInt = 50
      · refine aw_tableIn 3357 dL_law_44 (fun q => c5 (Or.inl q)) (fun q => c5 (Or.inr q)) (by rw [c5_50]; rfl) rfl ?_
        replace h := h.2.2.2.2.2.2.2.2.2.2.2.2.2.2.2.2.2.2.2.2.2.2.2.2.2.2.2.2.2.2.2.2.2.2.2.2.2.2.2.2.2.2.2.2.2.2.2.2.2.2.2.1 c5_50
        exact aw_pick [0, 1, 2, 3, 4, 5] rfl (aw_L_law_3357 hG (fun _ _ _ _ _ _ _ _ _ h => h) h)
      by_cases c5_51 : ((G.2.2.2.1 (Int32.toNatClampNeg l5)) &&& (127 : Int32)).toInt = 51
      · refine aw_tableIn 3413 dL_law_44 (fun q => c5 (Or.inl q)) (fun q => c5 (Or.inr q)) (by rw [c5_51]; rfl) rfl ?_
        replace h := h.2.2.2.2.2.2.2.2.2.2.2.2.2.2.2.2.2.2.2.2.2.2.2.2.2.2.2.2.2.2.2.2.2.2.2.2.2.2.2.2.2.2.2.2.2.2.2.2.2.2.2.2.1 c5_51
        exact aw_pick [0, 1, 2, 3, 4, 5] rfl (aw_L_law_3413 hG (fun _ _ _ _ _ _ _ _ _ h => h) h)
      by_cases c5_52 : ((G.2.2.2.1 (Int32.toNatClampNeg l5)) &&& (127 : Int32)).toInt = 52
      · refine aw_tableIn 3469 dL_law_44 (fun q => c5 (Or.inl q)) (fun q => c5 (Or.inr q)) (by rw [c5_52]; rfl) rfl ?_
        replace h := h.2.2.2.2.2.2.2.2.2.2.2.2.2.2.2.2.2.2.2.2.2.2.2.2.2.2.2.2.2.2.2.2.2.2.2.2.2.2.2.2.2.2.2.2.2.2.2.2.2.2.2.2.2.1 c5_52
        exact aw_pick [0, 1, 2, 3, 4, 5] rfl (aw_L_law_3469 hG (fun _ _ _ _ _ _ _ _ _ h => h) h)
      by_cases c5_53 : ((G.2.2.2.1 (Int32.toNatClampNeg l5)) &&& (127 : Int32)).toInt = 53
      · refine aw_tableIn 3532 dL_law_44 (fun q => c5 (Or.inl q)) (fun q => c5 (Or.inr q)) (by rw [c5_53]; rfl) rfl ?_
        replace h := h.2.2.2.2.2.2.2.2.2.2.2.2.2.2.2.2.2.2.2.2.2.2.2.2.2.2.2.2.2.2.2.2.2.2.2.2.2.2.2.2.2.2.2.2.2.2.2.2.2.2.2.2.2.2.1 c5_53
        exact aw_pick [0, 1, 2, 3, 4, 5] rfl (aw_L_law_3532 hG (fun _ _ _ _ _ _ _ _ _ h => h) h)
      by_cases c5_54 : ((G.2.2.2.1 (Int32.toNatClampNeg l5)) &&& (127 : Int32)).toInt = 54
      · refine aw_tableIn 3588 dL_law_44 (fun q => c5 (Or.inl q)) (fun q => c5 (Or.inr q)) (by rw [c5_54]; rfl) rfl ?_
        replace h := h.2.2.2.2.2.2.2.2.2.2.2.2.2.2.2.2.2.2.2.2.2.2.2.2.2.2.2.2.2.2.2.2.2.2.2.2.2.2.2.2.2.2.2.2.2.2.2.2.2.2.2.2.2.2.2.1 c5_54
        exact aw_pick [0, 1, 2, 3, 4, 5] rfl (aw_L_law_3588 hG (fun _ _ _ _ _ _ _ _ _ h => h) h)
      by_cases c5_55 : ((G.2.2.2.1 (Int32.toNatClampNeg l5)) &&& (127 : Int32)).toInt = 55
      · refine aw_tableIn 3601 dL_law_44 (fun q => c5 (Or.inl q)) (fun q => c5 (Or.inr q)) (by rw [c5_55]; rfl) rfl ?_
        replace h := h.2.2.2.2.2.2.2.2.2.2.2.2.2.2.2.2.2.2.2.2.2.2.2.2.2.2.2.2.2.2.2.2.2.2.2.2.2.2.2.2.2.2.2.2.2.2.2.2.2.2.2.2.2.2.2.2.1 c5_55
        exact aw_pick [0, 1, 2, 3, 4, 5] rfl (aw_L_law_3601 hG (fun _ _ _ _ _ _ _ _ _ h => h) h)
      by_cases c5_56 : ((G.2.2.2.1 (Int32.toNatClampNeg l5)) &&& (127 : Int32)).toInt = 56
      · refine aw_tableIn 3614 dL_law_44 (fun q => c5 (Or.inl q)) (fun q => c5 (Or.inr q)) (by rw [c5_56]; rfl) rfl ?_
        replace h := h.2.2.2.2.2.2.2.2.2.2.2.2.2.2.2.2.2.2.2.2.2.2.2.2.2.2.2.2.2.2.2.2.2.2.2.2.2.2.2.2.2.2.2.2.2.2.2.2.2.2.2.2.2.2.2.2.2.1 c5_56
        exact aw_pick [0, 1, 2, 3, 4, 5] rfl (aw_L_law_3614 hG (fun _ _ _ _ _ _ _ _ _ h => h) h)
      by_cases c5_57 : ((G.2.2.2.1 (Int32.toNatClampNeg l5)) &&& (127 : Int32)).toInt = 57
      · refine aw_tableIn 3627 dL_law_44 (fun q => c5 (Or.inl q)) (fun q => c5 (Or.inr q)) (by rw [c5_57]; rfl) rfl ?_
        replace h := h.2.2.2.2.2.2.2.2.2.2.2.2.2.2.2.2.2.2.2.2.2.2.2.2.2.2.2.2.2.2.2.2.2.2.2.2.2.2.2.2.2.2.2.2.2.2.2.2.2.2.2.2.2.2.2.2.2.2.1 c5_57
        exact aw_pick [0, 1, 2, 3, 4, 5] rfl (aw_L_law_3627 hG (fun _ _ _ _ _ _ _ _ _ h => h) h)
      by_cases c5_58 : ((G.2.2.2.1 (Int32.toNatClampNeg l5)) &&& (127 : Int32)).toInt = 58
      · refine aw_tableIn 3640 dL_law_44 (fun q => c5 (Or.inl q)) (fun q => c5 (Or.inr q)) (by rw [c5_58]; rfl) rfl ?_
        replace h := h.2.2.2.2.2.2.2.2.2.2.2.2.2.2.2.2.2.2.2.2.2.2.2.2.2.2.2.2.2.2.2.2.2.2.2.2.2.2.2.2.2.2.2.2.2.2.2.2.2.2.2.2.2.2.2.2.2.2.2.1 c5_58
        exact aw_pick [0, 1, 2, 3, 4, 5] rfl (aw_L_law_3640 hG (fun _ _ _ _ _ _ _ _ _ h => h) h)
      by_cases c5_59 : ((G.2.2.2.1 (Int32.toNatClampNeg l5)) &&& (127 : Int32)).toInt = 59
      · refine aw_tableIn 3708 dL_law_44 (fun q => c5 (Or.inl q)) (fun q => c5 (Or.inr q)) (by rw [c5_59]; rfl) rfl ?_
        replace h := h.2.2.2.2.2.2.2.2.2.2.2.2.2.2.2.2.2.2.2.2.2.2.2.2.2.2.2.2.2.2.2.2.2.2.2.2.2.2.2.2.2.2.2.2.2.2.2.2.2.2.2.2.2.2.2.2.2.2.2.2.1 c5_59
        exact aw_pick [0, 1, 2, 3, 4, 5] rfl (aw_L_law_3708 hG (fun _ _ _ _ _ _ _ _ _ h => h) h)
      by_cases c5_60 : ((G.2.2.2.1 (Int32.toNatClampNeg l5)) &&& (127 : Int32)).toInt = 60
      · refine aw_tableIn 3764 dL_law_44 (fun q => c5 (Or.inl q)) (fun q => c5 (Or.inr q)) (by rw [c5_60]; rfl) rfl ?_
        replace h := h.2.2.2.2.2.2.2.2.2.2.2.2.2.2.2.2.2.2.2.2.2.2.2.2.2.2.2.2.2.2.2.2.2.2.2.2.2.2.2.2.2.2.2.2.2.2.2.2.2.2.2.2.2.2.2.2.2.2.2.2.2.1 c5_60
        exact aw_pick [0, 1, 2, 3, 4, 5] rfl (aw_L_law_3764 hG (fun _ _ _ _ _ _ _ _ _ h => h) h)
      by_cases c5_61 : ((G.2.2.2.1 (Int32.toNatClampNeg l5)) &&& (127 : Int32)).toInt = 61
      · refine aw_tableIn 3820 dL_law_44 (fun q => c5 (Or.inl q)) (fun q => c5 (Or.inr q)) (by rw [c5_61]; rfl) rfl ?_
        replace h := h.2.2.2.2.2.2.2.2.2.2.2.2.2.2.2.2.2.2.2.2.2.2.2.2.2.2.2.2.2.2.2.2.2.2.2.2.2.2.2.2.2.2.2.2.2.2.2.2.2.2.2.2.2.2.2.2.2.2.2.2.2.2.1 c5_61
        exact aw_pick [0, 1, 2, 3, 4, 5] rfl (aw_L_law_3820 hG (fun _ _ _ _ _ _ _ _ _ h => h) h)
      by_cases c5_62 : ((G.2.2.2.1 (Int32.toNatClampNeg l5)) &&& (127 : Int32)).toInt = 62
      · refine aw_tableIn 3833 dL_law_44 (fun q => c5 (Or.inl q)) (fun q => c5 (Or.inr q)) (by rw [c5_62]; rfl) rfl ?_
        replace h := h.2.2.2.2.2.2.2.2.2.2.2.2.2.2.2.2.2.2.2.2.2.2.2.2.2.2.2.2.2.2.2.2.2.2.2.2.2.2.2.2.2.2.2.2.2.2.2.2.2.2.2.2.2.2.2.2.2.2.2.2.2.2.2.1 c5_62
        exact aw_pick [0, 1, 2, 3, 4, 5] rfl (aw_L_law_3833 hG (fun _ _ _ _ _ _ _ _ _ h => h) h)
      by_cases c5_63 : ((G.2.2.2.1 (Int32.toNatClampNeg l5)) &&& (127 : Int32)).toInt = 63
      · refine aw_tableIn 3846 dL_law_44 (fun q => c5 (Or.inl q)) (fun q => c5 (Or.inr q)) (by rw [c5_63]; rfl) rfl ?_
        replace h := h.2.2.2.2.2.2.2.2.2.2.2.2.2.2.2.2.2.2.2.2.2.2.2.2.2.2.2.2.2.2.2.2.2.2.2.2.2.2.2.2.2.2.2.2.2.2.2.2.2.2.2.2.2.2.2.2.2.2.2.2.2.2.2.2.1 c5_63
        exact aw_pick [0, 1, 2, 3, 4, 5] rfl (aw_L_law_3846 hG (fun _ _ _ _ _ _ _ _ _ h => h) h)
      have c5_64 : ((G.2.2.2.1 (Int32.toNatClampNeg l5)) &&& (127 : Int32)).toInt = 64 := by omega
      refine aw_tableIn 3923 dL_law_44 (fun q => c5 (Or.inl q)) (fun q => c5 (Or.inr q)) (by rw [c5_64]; rfl) rfl ?_
      replace h := h.2.2.2.2.2.2.2.2.2.2.2.2.2.2.2.2.2.2.2.2.2.2.2.2.2.2.2.2.2.2.2.2.2.2.2.2.2.2.2.2.2.2.2.2.2.2.2.2.2.2.2.2.2.2.2.2.2.2.2.2.2.2.2.2.2 c5_64
      exact aw_pick [0, 1, 2, 3, 4, 5] rfl (aw_L_law_3923 hG (fun _ _ _ _ _ _ _ _ _ h => h) h))
set_option maxRecDepth 20000 in
theorem am_L_law {G : GG} (hG : G.1.stackTraces = false) {X : XH} {K : Int32 → XH → Prop} (h : w_L_law G 0 X K) : AW G M_L_law 0 [(0, .ref 0)] [] X 0 0 (KrI K) := by
  unfold w_L_law at h
  refine aw_new 3 8 4 dL_law_0 (ltb rfl) (tk1 (i := 17) (by decide +kernel) rfl) (tk1 (i := 18) (by decide +kernel) rfl) (tk1 (i := 1) (by decide +kernel) rfl) (leb rfl) (leb rfl) rfl ?_
  refine aw_dup 4 dL_law_3 rfl rfl ?_
  refine aw_callI (M' := M_X4_init) 7 186 (hz X + 1) [] [.ref _] dL_law_4 lk_RL_186 mi_X4_init mp_X4_init rfl rfl ⟨leb rfl, leb rfl⟩ rfl (leb rfl) (leb rfl) (leb rfl) rfl (am_X4_init hG h) (kkV fun X1 h => ?_) KrV.no
  refine aw_widen (cc' := 122) (ss' := 3818) (leb rfl) (leb rfl) ?_
  refine aw_astore_n 8 (lv' := [(1, _), (0, _)]) dL_law_7 rfl (ltb rfl) rfl rfl ?_
  refine aw_new 11 187 5 dL_law_8 (ltb rfl) (tk5 (i := 224) (by decide +kernel) rfl) (tk5 (i := 225) (by decide +kernel) rfl) (tk1 (i := 6) (by decide +kernel) rfl) (leb rfl) (leb rfl) rfl ?_
  refine aw_dup 12 dL_law_11 rfl rfl ?_
  refine aw_callI (M' := M_X5_init) 15 189 (hz X1 + 1) [] [.ref _] dL_law_12 lk_RL_189 mi_X5_init mp_X5_init rfl rfl ⟨leb rfl, leb rfl⟩ rfl (leb rfl) (leb rfl) (leb rfl) rfl (am_X5_init hG h) (kkV fun X2 h => ?_) KrV.no
  refine aw_widen (cc' := 128) (ss' := 7234) (leb rfl) (leb rfl) ?_
  refine aw_astore_n 16 (lv' := [(2, _), (1, _), (0, _)]) dL_law_15 rfl (ltb rfl) rfl rfl ?_
  refine aw_iconst 17 (v := 1) dL_law_16 kI_1 rfl ?_
  refine aw_newa 19 102 1 dL_law_17 (tk8 (i := 57) (by decide +kernel) rfl) rfl (leb rfl) (leb rfl) rfl (by decide) (by decide) (by decide) (leb rfl) (leb rfl) rfl ?_
  refine aw_astore_n 20 (lv' := [(3, _), (2, _), (1, _), (0, _)]) dL_law_19 rfl (ltb rfl) rfl rfl ?_
  refine aw_iconst 21 (v := 1) dL_law_20 kI_1 rfl ?_
  refine aw_newa 23 103 1 dL_law_21 (tk8 (i := 58) (by decide +kernel) rfl) rfl (leb rfl) (leb rfl) rfl (by decide) (by decide) (by decide) (leb rfl) (leb rfl) rfl ?_
  refine aw_astore 25 (lv' := [(4, _), (3, _), (2, _), (1, _), (0, _)]) dL_law_23 (ltb rfl) rfl rfl ?_
  refine aw_iconst 26 (v := 0) dL_law_25 kI_0 rfl ?_
  refine aw_istore 28 (lv' := [(5, _), (4, _), (3, _), (2, _), (1, _), (0, _)]) dL_law_26 (ltb rfl) rfl rfl ?_
  exact aw_pick [5, 4, 3, 2, 1, 0] rfl (aw_L_law_28 hG  h)
end XWK12
