set_option maxHeartbeats 4000000 in
set_option maxRecDepth 100000 in
theorem s_L_rolls_293 {X : xF} {G : xG} {μ : xM} {I : xI} {P : xP} {n rq cn st : Nat} {S tx : Nat → Int32} {H : Nat → Nat → Int32} {y a b : Nat} (hC : xC X G cL_rolls wsL_rolls RL 21 rm_L_rolls) (hD : xD X G yL_rolls.name (some .boolean) 0 0 (pW μ cn)) (hK : lK μ) (hp : oP P 1) (hO : oR I P 1 S n rq st H 0 tx) (hi : invN S n rq) (hcc : lC S n rq cn) (hA : lA I P S n rq) (ha : a < n) (hb : b < n) (hab : a ≠ b) : xg X G (0, 0) μ I P [some (.ref (xZ G + 1)), some (.ref (xZ G + 255)), some (.ref (xZ G + 256)), some (.ref (xZ G + 257)), some (.ref (xZ G + 258)), some (.ref (xZ G + 259)), some (.ref (xZ G + 260)), some (.int 1), some (.int (nI y)), some (.int (nI a)), some (.int (nI b)), none, none, none, none, none, none, none, none, none, none] 293 [] := by
  have hK0 := hK
  obtain ⟨ko, hS, ⟨kg, ng⟩, ⟨kl, nl⟩, ⟨kw, nw⟩, ⟨ku, nu⟩, ⟨kc, nc⟩, ⟨kr, nr⟩⟩ := hK
  have hi0 := hi
  obtain ⟨hn20, hn, hq6, hq, hcur, hdr, h8, h9, h10, hrows⟩ := hi
  have hcn : cN S = n := by rw [cN, hn, nI_clamp (by omega)]
  have hcq : cQn S = rq := by rw [cQn, hq, nI_clamp (by omega)]
  have hia : ¬ isR (nI a) (S 0) = 0 := by rw [hn, isR_nI ha (by omega)]; decide
  have hib : ¬ isR (nI b) (S 0) = 0 := by rw [hn, isR_nI hb (by omega)]; decide
  have hok : okSwap S (nI a) (nI b) = true := by rw [okSwap, if_neg hia, if_neg hib, if_neg (fun e => hab ((nI_eq (by omega) (by omega)).mp e))]
  have hsc : sSwap S (nI a) (nI b) = swapS S a b rq := by rw [sSwap, if_pos hok, nI_clamp (by omega), nI_clamp (by omega), hcq]
  have hac : aSwap S (nI a) (nI b) = S 1 := by rw [aSwap, if_pos hok]
  have lps : ∀ (q k : Nat), k + q = rq → ∀ (J' : xI) (Q' : xP) (K : xI) (x11 x12 x13 x14 x16 x19 x20 : Option Value), swR I J' P Q' a b → rtR (fun x => mvs x (nI a) (nI b)) J' K k → xg X G (0, 0) μ K Q' [some (.ref (xZ G + 1)), some (.ref (xZ G + 255)), some (.ref (xZ G + 256)), some (.ref (xZ G + 257)), some (.ref (xZ G + 258)), some (.ref (xZ G + 259)), some (.ref (xZ G + 260)), some (.int 1), some (.int (nI y)), some (.int (nI a)), some (.int (nI b)), x11, x12, x13, x14, none, x16, none, some (.int (nI k)), x19, x20] 432 [] := by
    intro q
    induction q with
    | zero =>
      intro k hk J' Q' K x11 x12 x13 x14 x16 x19 x20 hsw hrt
      have ek : rq = k := by omega
      subst ek
      refine r_iload (pc := 432) hC dL_rolls_432 rfl ?_
      refine r_aload_n (pc := 434) hC dL_rolls_434 rfl ?_
      refine r_iconst (pc := 435) (v := 2) hC dL_rolls_435 (by decide) ?_
      refine r_iald (pc := 436) hC kg (xi_l (k := 2) ng (by decide) (by decide) (by decide)) dL_rolls_436 ?_
      have hK2 : K 255 2 = nI rq := by rw [hrt.2 255 (by decide), hsw.2.2.1 255 (by decide) (by decide) (by decide)]; exact (hA.1 2 (by decide)).trans hq
      have hK1 : K 255 1 = S 1 := by rw [hrt.2 255 (by decide), hsw.2.2.1 255 (by decide) (by decide) (by decide)]; exact hA.1 1 (by decide)
      rw [hK2]
      refine r_icmp_ge (pc := 437) (tgt := 501) hC dL_rolls_437 (by decide) (fun bq437 => ?_) (fun bq437 => ?_)
      · skip
        refine r_aload_n (pc := 501) hC dL_rolls_501 rfl ?_
        refine r_iload (pc := 502) hC dL_rolls_502 rfl ?_
        refine r_iload (pc := 504) hC dL_rolls_504 rfl ?_
        obtain ⟨g1, g2⟩ := oR_law (J := K) (Q := Q') hp hi0 hO (fun c hc => by rw [hrt.2 c (by omega), hsw.2.2.1 c (by omega) (by omega) (by omega)]) (fun c hc => hsw.2.2.2 c (by omega))
        obtain ⟨z1, z2⟩ := lA_swap hA hi0 hcc ha hb hab hsw hrt
        refine k_X4_swap (pc := 506) hC gL_rolls_X4_swap ⟨Nat.le_of_ble_eq_true rfl, Nat.le_of_ble_eq_true rfl⟩ ko hS g1 g2 hi0 (Nat.le_of_ble_eq_true rfl) rfl ⟨Nat.zero_le _, Nat.zero_le _⟩ dL_rolls_506 ?_
        intro J506 Q506 rP506 rT506 rN506 rF506
        refine r_aload_n (pc := 509) hC dL_rolls_509 rfl ?_
        refine r_iconst (pc := 510) (v := 1) hC dL_rolls_510 (by decide) ?_
        refine r_iald (pc := 511) hC kg (xi_l (k := 1) ng (by decide) (by decide) (by decide)) dL_rolls_511 ?_
        rw [(rF506 255 (by decide)).1, hK1]
        refine r_icmp_ne (pc := 512) (tgt := 519) hC dL_rolls_512 (by decide) (fun bq => (by first | exact absurd (hac) bq | exact absurd bq (hac))) (fun bq512 => ?_)
        refine r_iconst (pc := 515) (v := 1) hC dL_rolls_515 (by decide) ?_
        refine r_goto (pc := 516) (tgt := 520) hC dL_rolls_516 (by decide) ?_
        refine r_iret (pc := 520) hC hD rfl dL_rolls_520 rfl ?_
        exact ⟨rfl, rfl, swapS S a b rq, n, rq, rP506, ⟨_, _, _, by rw [← hsc]; exact rT506 hok⟩, by rw [← hsc]; exact inv_swap hi0 hok, lA_cong z1 (fun c h1 h2 => (rF506 c (by omega)).1) (rF506 259 (by decide)).2, z2⟩
      · skip
        exact absurd (nI_le (by omega) (by omega)) bq437
    | succ q ih =>
      intro k hk J' Q' K x11 x12 x13 x14 x16 x19 x20 hsw hrt
      refine r_iload (pc := 432) hC dL_rolls_432 rfl ?_
      refine r_aload_n (pc := 434) hC dL_rolls_434 rfl ?_
      refine r_iconst (pc := 435) (v := 2) hC dL_rolls_435 (by decide) ?_
      refine r_iald (pc := 436) hC kg (xi_l (k := 2) ng (by decide) (by decide) (by decide)) dL_rolls_436 ?_
      have hK2 : K 255 2 = nI rq := by rw [hrt.2 255 (by decide), hsw.2.2.1 255 (by decide) (by decide) (by decide)]; exact (hA.1 2 (by decide)).trans hq
      have hK1 : K 255 1 = S 1 := by rw [hrt.2 255 (by decide), hsw.2.2.1 255 (by decide) (by decide) (by decide)]; exact hA.1 1 (by decide)
      rw [hK2]
      refine r_icmp_ge (pc := 437) (tgt := 501) hC dL_rolls_437 (by decide) (fun bq437 => ?_) (fun bq437 => ?_)
      · skip
        exact absurd bq437 (nI_ge (by omega) (by omega))
      · skip
        refine r_aload (pc := 440) hC dL_rolls_440 rfl ?_
        refine r_iconst (pc := 442) (v := 3) hC dL_rolls_442 (by decide) ?_
        refine r_iload (pc := 443) hC dL_rolls_443 rfl ?_
        refine r_imul (pc := 445) hC dL_rolls_445 ?_
        refine r_iald (pc := 446) hC kr (xi_e (k := 3 * k) (pk_mul 3 _) nr (by omega) (by decide)) dL_rolls_446 ?_
        refine r_iload (pc := 447) hC dL_rolls_447 rfl ?_
        refine r_ishr (pc := 449) hC dL_rolls_449 ?_
        refine r_iconst (pc := 450) (v := 1) hC dL_rolls_450 (by decide) ?_
        refine r_iand (pc := 451) hC dL_rolls_451 ?_
        refine r_istore (pc := 452) (L' := [_, _, _, _, _, _, _, _, _, _, _, _, _, _, _, _, _, _, _, _, _]) hC dL_rolls_452 rfl (Nat.le_of_ble_eq_true rfl) rfl ?_
        refine r_aload (pc := 454) hC dL_rolls_454 rfl ?_
        refine r_iconst (pc := 456) (v := 3) hC dL_rolls_456 (by decide) ?_
        refine r_iload (pc := 457) hC dL_rolls_457 rfl ?_
        refine r_imul (pc := 459) hC dL_rolls_459 ?_
        refine r_iald (pc := 460) hC kr (xi_e (k := 3 * k) (pk_mul 3 _) nr (by omega) (by decide)) dL_rolls_460 ?_
        refine r_iload (pc := 461) hC dL_rolls_461 rfl ?_
        refine r_ishr (pc := 463) hC dL_rolls_463 ?_
        refine r_iconst (pc := 464) (v := 1) hC dL_rolls_464 (by decide) ?_
        refine r_iand (pc := 465) hC dL_rolls_465 ?_
        refine r_istore (pc := 466) (L' := [_, _, _, _, _, _, _, _, _, _, _, _, _, _, _, _, _, _, _, _, _]) hC dL_rolls_466 rfl (Nat.le_of_ble_eq_true rfl) rfl ?_
        refine r_aload (pc := 468) hC dL_rolls_468 rfl ?_
        refine r_iconst (pc := 470) (v := 3) hC dL_rolls_470 (by decide) ?_
        refine r_iload (pc := 471) hC dL_rolls_471 rfl ?_
        refine r_imul (pc := 473) hC dL_rolls_473 ?_
        refine r_dup2 (pc := 474) hC dL_rolls_474 rfl rfl ?_
        refine r_iald (pc := 475) hC kr (xi_e (k := 3 * k) (pk_mul 3 _) nr (by omega) (by decide)) dL_rolls_475 ?_
        refine r_iload (pc := 476) hC dL_rolls_476 rfl ?_
        refine r_iload (pc := 478) hC dL_rolls_478 rfl ?_
        refine r_isub (pc := 480) hC dL_rolls_480 ?_
        refine r_iload (pc := 481) hC dL_rolls_481 rfl ?_
        refine r_ishl (pc := 483) hC dL_rolls_483 ?_
        refine r_iload (pc := 484) hC dL_rolls_484 rfl ?_
        refine r_iload (pc := 486) hC dL_rolls_486 rfl ?_
        refine r_isub (pc := 488) hC dL_rolls_488 ?_
        refine r_iload (pc := 489) hC dL_rolls_489 rfl ?_
        refine r_ishl (pc := 491) hC dL_rolls_491 ?_
        refine r_iadd (pc := 492) hC dL_rolls_492 ?_
        refine r_iadd (pc := 493) hC dL_rolls_493 ?_
        refine r_iast (pc := 494) hC kr (xi_e (k := 3 * k) (pk_mul 3 _) nr (by omega) (by decide)) dL_rolls_494 ?_
        refine r_iinc (pc := 495) (v := 1) (L' := [_, _, _, _, _, _, _, _, _, _, _, _, _, _, _, _, _, _, _, _, _]) hC dL_rolls_495 rfl (by decide) rfl rfl ?_
        refine r_goto (pc := 498) (tgt := 432) hC dL_rolls_498 (by decide) ?_
        rw [nI_1]; exact ih (k + 1) (by omega) J' Q' _ _ _ _ _ _ _ _ hsw (rtR_s hrt)
  refine r_aload_n (pc := 293) hC dL_rolls_293 rfl ?_
  refine r_iload (pc := 294) hC dL_rolls_294 rfl ?_
  refine r_iald (pc := 296) hC kl (xi_n (k := a) (by rw [nl]; omega) (by rw [nl]; decide)) dL_rolls_296 ?_
  refine r_istore (pc := 297) (L' := [_, _, _, _, _, _, _, _, _, _, _, _, _, _, _, _, _, _, _, _, _]) hC dL_rolls_297 rfl (Nat.le_of_ble_eq_true rfl) rfl ?_
  refine r_aload_n (pc := 299) hC dL_rolls_299 rfl ?_
  refine r_iload (pc := 300) hC dL_rolls_300 rfl ?_
  refine r_iald (pc := 302) hC kw (xi_n (k := a) (by rw [nw]; omega) (by rw [nw]; decide)) dL_rolls_302 ?_
  refine r_istore (pc := 303) (L' := [_, _, _, _, _, _, _, _, _, _, _, _, _, _, _, _, _, _, _, _, _]) hC dL_rolls_303 rfl (Nat.le_of_ble_eq_true rfl) rfl ?_
  refine r_aload (pc := 305) hC dL_rolls_305 rfl ?_
  refine r_iload (pc := 307) hC dL_rolls_307 rfl ?_
  refine r_iald (pc := 309) hC ku (xi_n (k := a) (by rw [nu]; omega) (by rw [nu]; decide)) dL_rolls_309 ?_
  refine r_istore (pc := 310) (L' := [_, _, _, _, _, _, _, _, _, _, _, _, _, _, _, _, _, _, _, _, _]) hC dL_rolls_310 rfl (Nat.le_of_ble_eq_true rfl) rfl ?_
  refine r_aload (pc := 312) hC dL_rolls_312 rfl ?_
  refine r_iconst (pc := 314) (v := 2) hC dL_rolls_314 (by decide) ?_
  refine r_iload (pc := 315) hC dL_rolls_315 rfl ?_
  refine r_imul (pc := 317) hC dL_rolls_317 ?_
  refine r_lald (pc := 318) hC kc (xi_e (k := 2 * a) (by rw [show (2 : Int32) = nI 2 from rfl, pk_mul]) nc (by omega) (by decide)) dL_rolls_318 ?_
  refine r_lstore (pc := 319) (L' := [_, _, _, _, _, _, _, _, _, _, _, _, _, _, _, _, _, _, _, _, _]) hC dL_rolls_319 rfl (Nat.le_of_ble_eq_true rfl) rfl ?_
  refine r_aload (pc := 321) hC dL_rolls_321 rfl ?_
  refine r_iconst (pc := 323) (v := 2) hC dL_rolls_323 (by decide) ?_
  refine r_iload (pc := 324) hC dL_rolls_324 rfl ?_
  refine r_imul (pc := 326) hC dL_rolls_326 ?_
  refine r_iconst (pc := 327) (v := 1) hC dL_rolls_327 (by decide) ?_
  refine r_iadd (pc := 328) hC dL_rolls_328 ?_
  refine r_lald (pc := 329) hC kc (xi_e (k := 2 * a + 1) (by rw [show (2 : Int32) = nI 2 from rfl, pk_mul]; exact nI_add _ 1) nc (by omega) (by decide)) dL_rolls_329 ?_
  refine r_lstore (pc := 330) (L' := [_, _, _, _, _, _, _, _, _, _, _, _, _, _, _, _, _, _, _, _, _]) hC dL_rolls_330 rfl (Nat.le_of_ble_eq_true rfl) rfl ?_
  refine r_aload_n (pc := 332) hC dL_rolls_332 rfl ?_
  refine r_iload (pc := 333) hC dL_rolls_333 rfl ?_
  refine r_aload_n (pc := 335) hC dL_rolls_335 rfl ?_
  refine r_iload (pc := 336) hC dL_rolls_336 rfl ?_
  refine r_iald (pc := 338) hC kl (xi_n (k := b) (by rw [nl]; omega) (by rw [nl]; decide)) dL_rolls_338 ?_
  refine r_iast (pc := 339) hC kl (xi_n (k := a) (by rw [nl]; omega) (by rw [nl]; decide)) dL_rolls_339 ?_
  refine r_aload_n (pc := 340) hC dL_rolls_340 rfl ?_
  refine r_iload (pc := 341) hC dL_rolls_341 rfl ?_
  refine r_aload_n (pc := 343) hC dL_rolls_343 rfl ?_
  refine r_iload (pc := 344) hC dL_rolls_344 rfl ?_
  refine r_iald (pc := 346) hC kw (xi_n (k := b) (by rw [nw]; omega) (by rw [nw]; decide)) dL_rolls_346 ?_
  rw [xu_row (b := 257) (by decide)]
  refine r_iast (pc := 347) hC kw (xi_n (k := a) (by rw [nw]; omega) (by rw [nw]; decide)) dL_rolls_347 ?_
  refine r_aload (pc := 348) hC dL_rolls_348 rfl ?_
  refine r_iload (pc := 350) hC dL_rolls_350 rfl ?_
  refine r_aload (pc := 352) hC dL_rolls_352 rfl ?_
  refine r_iload (pc := 354) hC dL_rolls_354 rfl ?_
  refine r_iald (pc := 356) hC ku (xi_n (k := b) (by rw [nu]; omega) (by rw [nu]; decide)) dL_rolls_356 ?_
  rw [xu_row (b := 258) (by decide), xu_row (b := 258) (by decide)]
  refine r_iast (pc := 357) hC ku (xi_n (k := a) (by rw [nu]; omega) (by rw [nu]; decide)) dL_rolls_357 ?_
  refine r_aload (pc := 358) hC dL_rolls_358 rfl ?_
  refine r_iconst (pc := 360) (v := 2) hC dL_rolls_360 (by decide) ?_
  refine r_iload (pc := 361) hC dL_rolls_361 rfl ?_
  refine r_imul (pc := 363) hC dL_rolls_363 ?_
  refine r_aload (pc := 364) hC dL_rolls_364 rfl ?_
  refine r_iconst (pc := 366) (v := 2) hC dL_rolls_366 (by decide) ?_
  refine r_iload (pc := 367) hC dL_rolls_367 rfl ?_
  refine r_imul (pc := 369) hC dL_rolls_369 ?_
  refine r_lald (pc := 370) hC kc (xi_e (k := 2 * b) (by rw [show (2 : Int32) = nI 2 from rfl, pk_mul]) nc (by omega) (by decide)) dL_rolls_370 ?_
  refine r_last (pc := 371) hC kc (xi_e (k := 2 * a) (by rw [show (2 : Int32) = nI 2 from rfl, pk_mul]) nc (by omega) (by decide)) dL_rolls_371 ?_
  refine r_aload (pc := 372) hC dL_rolls_372 rfl ?_
  refine r_iconst (pc := 374) (v := 2) hC dL_rolls_374 (by decide) ?_
  refine r_iload (pc := 375) hC dL_rolls_375 rfl ?_
  refine r_imul (pc := 377) hC dL_rolls_377 ?_
  refine r_iconst (pc := 378) (v := 1) hC dL_rolls_378 (by decide) ?_
  refine r_iadd (pc := 379) hC dL_rolls_379 ?_
  refine r_aload (pc := 380) hC dL_rolls_380 rfl ?_
  refine r_iconst (pc := 382) (v := 2) hC dL_rolls_382 (by decide) ?_
  refine r_iload (pc := 383) hC dL_rolls_383 rfl ?_
  refine r_imul (pc := 385) hC dL_rolls_385 ?_
  refine r_iconst (pc := 386) (v := 1) hC dL_rolls_386 (by decide) ?_
  refine r_iadd (pc := 387) hC dL_rolls_387 ?_
  refine r_lald (pc := 388) hC kc (xi_e (k := 2 * b + 1) (by rw [show (2 : Int32) = nI 2 from rfl, pk_mul]; exact nI_add _ 1) nc (by omega) (by decide)) dL_rolls_388 ?_
  rw [xu_ne (Or.inr (by omega))]
  refine r_last (pc := 389) hC kc (xi_e (k := 2 * a + 1) (by rw [show (2 : Int32) = nI 2 from rfl, pk_mul]; exact nI_add _ 1) nc (by omega) (by decide)) dL_rolls_389 ?_
  refine r_aload_n (pc := 390) hC dL_rolls_390 rfl ?_
  refine r_iload (pc := 391) hC dL_rolls_391 rfl ?_
  refine r_iload (pc := 393) hC dL_rolls_393 rfl ?_
  refine r_iast (pc := 395) hC kl (xi_n (k := b) (by rw [nl]; omega) (by rw [nl]; decide)) dL_rolls_395 ?_
  refine r_aload_n (pc := 396) hC dL_rolls_396 rfl ?_
  refine r_iload (pc := 397) hC dL_rolls_397 rfl ?_
  refine r_iload (pc := 399) hC dL_rolls_399 rfl ?_
  refine r_iast (pc := 401) hC kw (xi_n (k := b) (by rw [nw]; omega) (by rw [nw]; decide)) dL_rolls_401 ?_
  refine r_aload (pc := 402) hC dL_rolls_402 rfl ?_
  refine r_iload (pc := 404) hC dL_rolls_404 rfl ?_
  refine r_iload (pc := 406) hC dL_rolls_406 rfl ?_
  refine r_iast (pc := 408) hC ku (xi_n (k := b) (by rw [nu]; omega) (by rw [nu]; decide)) dL_rolls_408 ?_
  refine r_aload (pc := 409) hC dL_rolls_409 rfl ?_
  refine r_iconst (pc := 411) (v := 2) hC dL_rolls_411 (by decide) ?_
  refine r_iload (pc := 412) hC dL_rolls_412 rfl ?_
  refine r_imul (pc := 414) hC dL_rolls_414 ?_
  refine r_lload (pc := 415) hC dL_rolls_415 rfl ?_
  refine r_last (pc := 417) hC kc (xi_e (k := 2 * b) (by rw [show (2 : Int32) = nI 2 from rfl, pk_mul]) nc (by omega) (by decide)) dL_rolls_417 ?_
  refine r_aload (pc := 418) hC dL_rolls_418 rfl ?_
  refine r_iconst (pc := 420) (v := 2) hC dL_rolls_420 (by decide) ?_
  refine r_iload (pc := 421) hC dL_rolls_421 rfl ?_
  refine r_imul (pc := 423) hC dL_rolls_423 ?_
  refine r_iconst (pc := 424) (v := 1) hC dL_rolls_424 (by decide) ?_
  refine r_iadd (pc := 425) hC dL_rolls_425 ?_
  refine r_lload (pc := 426) hC dL_rolls_426 rfl ?_
  refine r_last (pc := 428) hC kc (xi_e (k := 2 * b + 1) (by rw [show (2 : Int32) = nI 2 from rfl, pk_mul]; exact nI_add _ 1) nc (by omega) (by decide)) dL_rolls_428 ?_
  refine r_iconst (pc := 429) (v := 0) hC dL_rolls_429 (by decide) ?_
  refine r_istore (pc := 430) (L' := [_, _, _, _, _, _, _, _, _, _, _, _, _, _, _, _, _, _, _, _, _]) hC dL_rolls_430 rfl (Nat.le_of_ble_eq_true rfl) rfl ?_
  exact lps rq 0 (by omega) _ _ _ _ _ _ _ _ none none (swR_ok hab) rtR_0
