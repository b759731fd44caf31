theorem wl_L_names_29 : Cond.constantLong RL 29 (357813080665) ∈ wsL_names := List.mem_of_getElem? (i := 2) (by decide +kernel)
theorem wl_L_names_21 : Cond.constantLong RL 21 (255) ∈ wsL_names := List.mem_of_getElem? (i := 3) (by decide +kernel)
theorem wl_L_names_23 : Cond.constantLong RL 23 (293220667220) ∈ wsL_names := List.mem_of_getElem? (i := 1) (by decide +kernel)
set_option maxHeartbeats 4000000 in
set_option maxRecDepth 100000 in
theorem s_L_names_373 {X : xF} {G : xG} {μ : xM} {I : xI} {P : xP} {n rq cn st y : Nat} {S tx : Nat → Int32} {H : Nat → Nat → Int32} {x9 x11 x12 : Option Value} (hC : xC X G cL_names wsL_names RL 16 rm_L_names) (hD : xD X G yL_names.name (some .boolean) 0 0 (pW μ cn)) (hK : lK μ) (hy : y < 10000000) (hp : oP P 1) (hO : oR I P 1 S n rq st H (nSz y) tx) (hi : invN S n rq) (hcc : lC S n rq cn) (hA : lA I P S n rq) (hT : ∀ j, j < nSz y → tx j = nmF y j) (h20 : n < 20) (hred : nmR S n tx (nSz y) 0 = 0) (b1 : I 256 n = nI (nSz y)) (b2 : I 257 n = 0) (b3 : I 258 n = 0) (b4 : ∀ b, b < 2 → P 259 (2 * n + b) = 0) : xg X G (0, 0) μ I P [some (.ref (xZ G + 1)), some (.ref (xZ G + 255)), some (.ref (xZ G + 256)), some (.ref (xZ G + 257)), some (.ref (xZ G + 258)), some (.ref (xZ G + 259)), some (.int (nI y)), some (.int (nI (nSz y))), some (.int (nI (nKd y))), x9, some (.int 1), x11, x12, some (.int (nI n)), some (.int (nI 0)), none] 373 [] := by
  have hK0 := hK
  obtain ⟨ko, hS, ⟨kg, ng⟩, ⟨kl, nl⟩, ⟨kw, nw⟩, ⟨ku, nu⟩, ⟨kc, nc⟩, ⟨kr, nr⟩⟩ := hK
  have hi0 := hi
  obtain ⟨hn20, hn, hq6, hq, hcur, hdr, h8, h9, h10, hrows⟩ := hi
  have hcn : cN S = n := by rw [cN, hn, nI_clamp (by omega)]
  obtain ⟨hz1, hz14⟩ := nSz_le y
  have hk2 := nKd_le y
  obtain ⟨t1, t2, t3, t4⟩ := tx_of hT (nmF_ok y) hz1 hz14
  have loop : ∀ (q k : Nat), k + q = nSz y → ∀ (Q' : xP) (x15 : Option Value), oP Q' 1 → oR I Q' 1 S n rq st H (nSz y) tx → lA I Q' S n rq → (∀ b, b < 2 → Q' 259 (2 * n + b) = pkX (nmF y) k b) → xg X G (0, 0) μ I Q' [some (.ref (xZ G + 1)), some (.ref (xZ G + 255)), some (.ref (xZ G + 256)), some (.ref (xZ G + 257)), some (.ref (xZ G + 258)), some (.ref (xZ G + 259)), some (.int (nI y)), some (.int (nI (nSz y))), some (.int (nI (nKd y))), x9, some (.int 1), x11, x12, some (.int (nI n)), some (.int (nI k)), x15] 373 [] := by
    intro q
    induction q with
    | zero =>
      intro k hk Q' x15 hp' hO' hA1 hB
      refine r_iload (pc := 373) hC dL_names_373 rfl ?_
      refine r_iload (pc := 375) hC dL_names_375 rfl ?_
      refine r_icmp_ge (pc := 377) (tgt := 464) hC dL_names_377 (by decide) (fun bq377 => ?_) (fun bq377 => ?_)
      · skip
        have ek : k = nSz y := by omega
        subst ek
        refine r_aload_n (pc := 464) hC dL_names_464 rfl ?_
        refine r_iconst (pc := 465) (v := 0) hC dL_names_465 (by decide) ?_
        refine r_dup2 (pc := 466) hC dL_names_466 rfl rfl ?_
        refine r_iald (pc := 467) hC kg (xi_l (k := 0) ng (by decide) (by decide) (by decide)) dL_names_467 ?_
        rw [hA1.1 0 (by decide), hn]
        refine r_iconst (pc := 468) (v := 1) hC dL_names_468 (by decide) ?_
        refine r_iadd (pc := 469) hC dL_names_469 ?_
        rw [nI_1]
        refine r_iast (pc := 470) hC kg (xi_l (k := 0) ng (by decide) (by decide) (by decide)) dL_names_470 ?_
        refine r_aload_n (pc := 471) hC dL_names_471 rfl ?_
        refine r_iconst (pc := 472) (v := 1) hC dL_names_472 (by decide) ?_
        refine r_aload_n (pc := 473) hC dL_names_473 rfl ?_
        refine r_iconst (pc := 474) (v := 1) hC dL_names_474 (by decide) ?_
        refine r_iald (pc := 475) hC kg (xi_l (k := 1) ng (by decide) (by decide) (by decide)) dL_names_475 ?_
        rw [xu_ne (Or.inr (by decide)), hA1.1 1 (by decide)]
        refine r_if_ge (pc := 476) (tgt := 483) hC dL_names_476 (by decide) (fun bq476 => ?_) (fun bq476 => ?_)
        · skip
          refine r_aload_n (pc := 483) hC dL_names_483 rfl ?_
          refine r_iconst (pc := 484) (v := 1) hC dL_names_484 (by decide) ?_
          refine r_iald (pc := 485) hC kg (xi_l (k := 1) ng (by decide) (by decide) (by decide)) dL_names_485 ?_
          rw [xu_ne (Or.inr (by decide)), hA1.1 1 (by decide)]
          refine r_iast (pc := 486) hC kg (xi_l (k := 1) ng (by decide) (by decide) (by decide)) dL_names_486 ?_
          refine r_iload (pc := 487) hC dL_names_487 rfl ?_
          refine r_istore (pc := 489) (L' := [_, _, _, _, _, _, _, _, _, _, _, _, _, _, _, _]) hC dL_names_489 rfl (Nat.le_of_ble_eq_true rfl) rfl ?_
          refine r_iload (pc := 491) hC dL_names_491 rfl ?_
          refine r_iconst (pc := 493) (v := 1) hC dL_names_493 (by decide) ?_
          refine r_isub (pc := 494) hC dL_names_494 ?_
          refine r_istore (pc := 495) (L' := [_, _, _, _, _, _, _, _, _, _, _, _, _, _, _, _]) hC dL_names_495 rfl (Nat.le_of_ble_eq_true rfl) rfl ?_
          have hsh : (if 0 ≤ S 1 then S 1 else 0) = S 1 := if_pos bq476
          have hA3 := lA_add (s := nSz y) hA1 h20 hz14 hT b1 b2 b3 hB
          rw [hsh] at hA3
          have hi2 : invN (addS S n tx 0 (nSz y)) (n + 1) rq := by
            have z := addS_inv (tx := tx) (t := nSz y) hi0 (Nat.zero_le _) hred
            rw [t1] at z; exact z
          obtain ⟨g1, g2⟩ := oR_law (J := xu (xu I 255 0 (nI (n + 1))) 255 1 (S 1)) (Q := Q') hp' hi0 hO' (fun c hc => by rw [xu_row (by omega), xu_row (by omega)]) (fun c _ => rfl)
          exact s_L_names_497 hC hD hK0 hy g1 g2 hi0 hcc hT hi2 hA3 h20 hred
        · skip
          refine r_iconst (pc := 479) (v := 0) hC dL_names_479 (by decide) ?_
          refine r_goto (pc := 480) (tgt := 486) hC dL_names_480 (by decide) ?_
          skip
          refine r_iast (pc := 486) hC kg (xi_l (k := 1) ng (by decide) (by decide) (by decide)) dL_names_486 ?_
          refine r_iload (pc := 487) hC dL_names_487 rfl ?_
          refine r_istore (pc := 489) (L' := [_, _, _, _, _, _, _, _, _, _, _, _, _, _, _, _]) hC dL_names_489 rfl (Nat.le_of_ble_eq_true rfl) rfl ?_
          refine r_iload (pc := 491) hC dL_names_491 rfl ?_
          refine r_iconst (pc := 493) (v := 1) hC dL_names_493 (by decide) ?_
          refine r_isub (pc := 494) hC dL_names_494 ?_
          refine r_istore (pc := 495) (L' := [_, _, _, _, _, _, _, _, _, _, _, _, _, _, _, _]) hC dL_names_495 rfl (Nat.le_of_ble_eq_true rfl) rfl ?_
          have hsh : (if 0 ≤ S 1 then S 1 else 0) = 0 := if_neg bq476
          have hA3 := lA_add (s := nSz y) hA1 h20 hz14 hT b1 b2 b3 hB
          rw [hsh] at hA3
          have hi2 : invN (addS S n tx 0 (nSz y)) (n + 1) rq := by
            have z := addS_inv (tx := tx) (t := nSz y) hi0 (Nat.zero_le _) hred
            rw [t1] at z; exact z
          obtain ⟨g1, g2⟩ := oR_law (J := xu (xu I 255 0 (nI (n + 1))) 255 1 (0)) (Q := Q') hp' hi0 hO' (fun c hc => by rw [xu_row (by omega), xu_row (by omega)]) (fun c _ => rfl)
          exact s_L_names_497 hC hD hK0 hy g1 g2 hi0 hcc hT hi2 hA3 h20 hred
      · skip
        exact absurd (nI_le (by omega) (by omega)) bq377
    | succ q ih =>
      intro k hk Q' x15 hp' hO' hA1 hB
      refine r_iload (pc := 373) hC dL_names_373 rfl ?_
      refine r_iload (pc := 375) hC dL_names_375 rfl ?_
      refine r_icmp_ge (pc := 377) (tgt := 464) hC dL_names_377 (by decide) (fun bq377 => ?_) (fun bq377 => ?_)
      · skip
        exact absurd bq377 (nI_ge (by omega) (by omega))
      · skip
        refine r_iload (pc := 380) hC dL_names_380 rfl ?_
        refine r_if_ne (pc := 382) (tgt := 397) hC dL_names_382 (by decide) (fun bq382 => ?_) (fun bq382 => ?_)
        · skip
          refine r_iload (pc := 397) hC dL_names_397 rfl ?_
          refine r_iconst (pc := 399) (v := 1) hC dL_names_399 (by decide) ?_
          refine r_icmp_ne (pc := 400) (tgt := 409) hC dL_names_400 (by decide) (fun bq400 => ?_) (fun bq400 => ?_)
          · skip
            refine r_ldc2 (pc := 409) (v := 357813080665) hC dL_names_409 wl_L_names_29 ?_
            refine r_bipush (pc := 412) (v := 8) hC dL_names_412 (by decide) ?_
            refine r_iconst (pc := 414) (v := 4) hC dL_names_414 (by decide) ?_
            refine r_iload (pc := 415) hC dL_names_415 rfl ?_
            refine r_isub (pc := 417) hC dL_names_417 ?_
            refine r_imul (pc := 418) hC dL_names_418 ?_
            refine r_lshr (pc := 419) hC dL_names_419 ?_
            refine r_ldc2 (pc := 420) (v := 255) hC dL_names_420 wl_L_names_21 ?_
            refine r_land (pc := 423) hC dL_names_423 ?_
            refine r_l2i (pc := 424) hC dL_names_424 ?_
            have hkd0 : ¬ nKd y = 0 := fun e => bq382 (by rw [e]; rfl)
            have hz5 : nSz y = 5 := by unfold nSz; rw [if_pos (by omega)]
            have hkd2 : nKd y = 2 := by
              have : nKd y ≠ 1 := fun e => bq400 (by rw [e]; rfl)
              omega
            rw [wn_1 (k := k) (by omega), show sch 1 k = nmF y k from by unfold nmF; rw [if_neg hkd0, hkd2]]
            refine r_istore (pc := 425) (L' := [_, _, _, _, _, _, _, _, _, _, _, _, _, _, _, _]) hC dL_names_425 rfl (Nat.le_of_ble_eq_true rfl) rfl ?_
            refine r_aload (pc := 427) hC dL_names_427 rfl ?_
            refine r_iconst (pc := 429) (v := 2) hC dL_names_429 (by decide) ?_
            refine r_iload (pc := 430) hC dL_names_430 rfl ?_
            refine r_imul (pc := 432) hC dL_names_432 ?_
            refine r_iload (pc := 433) hC dL_names_433 rfl ?_
            refine r_bipush (pc := 435) (v := 10) hC dL_names_435 (by decide) ?_
            refine r_idiv (pc := 437) hC dL_names_437 (by decide) ?_
            refine r_iadd (pc := 438) hC dL_names_438 ?_
            refine r_dup2 (pc := 439) hC dL_names_439 rfl rfl ?_
            refine r_lald (pc := 440) hC kc (xi_e (k := 2 * n + k / 10) (ix_c (by omega)) nc (by omega) (by decide)) dL_names_440 ?_
            refine r_iload (pc := 441) hC dL_names_441 rfl ?_
            refine r_bipush (pc := 443) (v := 31) hC dL_names_443 (by decide) ?_
            refine r_isub (pc := 445) hC dL_names_445 ?_
            refine r_i2l (pc := 446) hC dL_names_446 ?_
            refine r_bipush (pc := 447) (v := 6) hC dL_names_447 (by decide) ?_
            refine r_iload (pc := 449) hC dL_names_449 rfl ?_
            refine r_bipush (pc := 451) (v := 10) hC dL_names_451 (by decide) ?_
            refine r_irem (pc := 453) hC dL_names_453 (by decide) ?_
            refine r_imul (pc := 454) hC dL_names_454 ?_
            refine r_lshl (pc := 455) hC dL_names_455 ?_
            refine r_lor (pc := 456) hC dL_names_456 ?_
            rw [(pk_put (k := k) (c := nmF y k) (by rw [hB (k / 10) (by omega)]; exact pkX_lt (fun j hj => nmF_l (y := y) (by omega)) (by omega)) (nmF_l (y := y) (by omega))).resolve_right (by omega)]
            refine r_last (pc := 457) hC kc (xi_e (k := 2 * n + k / 10) (ix_c (by omega)) nc (by omega) (by decide)) dL_names_457 ?_
            refine r_iinc (pc := 458) (v := 1) (L' := [_, _, _, _, _, _, _, _, _, _, _, _, _, _, _, _]) hC dL_names_458 rfl (by decide) rfl rfl ?_
            refine r_goto (pc := 461) (tgt := 373) hC dL_names_461 (by decide) ?_
            obtain ⟨g1, g2⟩ := oR_law (J := I) (Q := xu Q' 259 (2 * n + k / 10) (Q' 259 (2 * n + k / 10) ||| dg (nmF y k) * 2 ^ (6 * (k % 10)))) hp' hi0 hO' (fun c _ => rfl) (fun c hc => xu_row (by omega))
            rw [nI_1]
            exact ih (k + 1) (by omega) _ _ g1 g2 (lA_c hA1 (by omega)) (fun b hb => by
              rw [pkX_step (fun j hj => nmF_l (y := y) (by omega)) (by omega) hb]
              by_cases e : b = k / 10
              · subst e; rw [if_pos rfl, xu_at, hB _ hb]
              · rw [if_neg e, xu_ne (Or.inr (by omega)), hB b hb])
          · skip
            refine r_ldc2 (pc := 403) (v := 293220667220) hC dL_names_403 wl_L_names_23 ?_
            refine r_goto (pc := 406) (tgt := 412) hC dL_names_406 (by decide) ?_
            refine r_bipush (pc := 412) (v := 8) hC dL_names_412 (by decide) ?_
            refine r_iconst (pc := 414) (v := 4) hC dL_names_414 (by decide) ?_
            refine r_iload (pc := 415) hC dL_names_415 rfl ?_
            refine r_isub (pc := 417) hC dL_names_417 ?_
            refine r_imul (pc := 418) hC dL_names_418 ?_
            refine r_lshr (pc := 419) hC dL_names_419 ?_
            refine r_ldc2 (pc := 420) (v := 255) hC dL_names_420 wl_L_names_21 ?_
            refine r_land (pc := 423) hC dL_names_423 ?_
            refine r_l2i (pc := 424) hC dL_names_424 ?_
            have hkd0 : ¬ nKd y = 0 := fun e => bq382 (by rw [e]; rfl)
            have hz5 : nSz y = 5 := by unfold nSz; rw [if_pos (by omega)]
            have hkd1 : nKd y = 1 := (nI_eq (b := 1) (by omega) (by decide)).mp bq400
            rw [wn_0 (k := k) (by omega), show sch 0 k = nmF y k from by unfold nmF; rw [if_neg hkd0, hkd1]]
            refine r_istore (pc := 425) (L' := [_, _, _, _, _, _, _, _, _, _, _, _, _, _, _, _]) hC dL_names_425 rfl (Nat.le_of_ble_eq_true rfl) rfl ?_
            refine r_aload (pc := 427) hC dL_names_427 rfl ?_
            refine r_iconst (pc := 429) (v := 2) hC dL_names_429 (by decide) ?_
            refine r_iload (pc := 430) hC dL_names_430 rfl ?_
            refine r_imul (pc := 432) hC dL_names_432 ?_
            refine r_iload (pc := 433) hC dL_names_433 rfl ?_
            refine r_bipush (pc := 435) (v := 10) hC dL_names_435 (by decide) ?_
            refine r_idiv (pc := 437) hC dL_names_437 (by decide) ?_
            refine r_iadd (pc := 438) hC dL_names_438 ?_
            refine r_dup2 (pc := 439) hC dL_names_439 rfl rfl ?_
            refine r_lald (pc := 440) hC kc (xi_e (k := 2 * n + k / 10) (ix_c (by omega)) nc (by omega) (by decide)) dL_names_440 ?_
            refine r_iload (pc := 441) hC dL_names_441 rfl ?_
            refine r_bipush (pc := 443) (v := 31) hC dL_names_443 (by decide) ?_
            refine r_isub (pc := 445) hC dL_names_445 ?_
            refine r_i2l (pc := 446) hC dL_names_446 ?_
            refine r_bipush (pc := 447) (v := 6) hC dL_names_447 (by decide) ?_
            refine r_iload (pc := 449) hC dL_names_449 rfl ?_
            refine r_bipush (pc := 451) (v := 10) hC dL_names_451 (by decide) ?_
            refine r_irem (pc := 453) hC dL_names_453 (by decide) ?_
            refine r_imul (pc := 454) hC dL_names_454 ?_
            refine r_lshl (pc := 455) hC dL_names_455 ?_
            refine r_lor (pc := 456) hC dL_names_456 ?_
            rw [(pk_put (k := k) (c := nmF y k) (by rw [hB (k / 10) (by omega)]; exact pkX_lt (fun j hj => nmF_l (y := y) (by omega)) (by omega)) (nmF_l (y := y) (by omega))).resolve_right (by omega)]
            refine r_last (pc := 457) hC kc (xi_e (k := 2 * n + k / 10) (ix_c (by omega)) nc (by omega) (by decide)) dL_names_457 ?_
            refine r_iinc (pc := 458) (v := 1) (L' := [_, _, _, _, _, _, _, _, _, _, _, _, _, _, _, _]) hC dL_names_458 rfl (by decide) rfl rfl ?_
            refine r_goto (pc := 461) (tgt := 373) hC dL_names_461 (by decide) ?_
            obtain ⟨g1, g2⟩ := oR_law (J := I) (Q := xu Q' 259 (2 * n + k / 10) (Q' 259 (2 * n + k / 10) ||| dg (nmF y k) * 2 ^ (6 * (k % 10)))) hp' hi0 hO' (fun c _ => rfl) (fun c hc => xu_row (by omega))
            rw [nI_1]
            exact ih (k + 1) (by omega) _ _ g1 g2 (lA_c hA1 (by omega)) (fun b hb => by
              rw [pkX_step (fun j hj => nmF_l (y := y) (by omega)) (by omega) hb]
              by_cases e : b = k / 10
              · subst e; rw [if_pos rfl, xu_at, hB _ hb]
              · rw [if_neg e, xu_ne (Or.inr (by omega)), hB b hb])
        · skip
          refine r_iload (pc := 385) hC dL_names_385 rfl ?_
          refine r_iload (pc := 387) hC dL_names_387 rfl ?_
          refine r_iload (pc := 389) hC dL_names_389 rfl ?_
          refine k_L_name (pc := 391) hC gL_names_L_name ⟨Nat.le_of_ble_eq_true rfl, Nat.le_of_ble_eq_true rfl⟩ hy (by omega) hz14 (Nat.le_of_ble_eq_true rfl) rfl ⟨Nat.zero_le _, Nat.zero_le _⟩ dL_names_391 ?_
          refine r_goto (pc := 394) (tgt := 425) hC dL_names_394 (by decide) ?_
          have hkd0 : nKd y = 0 := (nI_eq (b := 0) (by omega) (by decide)).mp bq382
          rw [show nI (nmL y k (nSz y)) = nmF y k from by unfold nmF; rw [if_pos hkd0]]
          refine r_istore (pc := 425) (L' := [_, _, _, _, _, _, _, _, _, _, _, _, _, _, _, _]) hC dL_names_425 rfl (Nat.le_of_ble_eq_true rfl) rfl ?_
          refine r_aload (pc := 427) hC dL_names_427 rfl ?_
          refine r_iconst (pc := 429) (v := 2) hC dL_names_429 (by decide) ?_
          refine r_iload (pc := 430) hC dL_names_430 rfl ?_
          refine r_imul (pc := 432) hC dL_names_432 ?_
          refine r_iload (pc := 433) hC dL_names_433 rfl ?_
          refine r_bipush (pc := 435) (v := 10) hC dL_names_435 (by decide) ?_
          refine r_idiv (pc := 437) hC dL_names_437 (by decide) ?_
          refine r_iadd (pc := 438) hC dL_names_438 ?_
          refine r_dup2 (pc := 439) hC dL_names_439 rfl rfl ?_
          refine r_lald (pc := 440) hC kc (xi_e (k := 2 * n + k / 10) (ix_c (by omega)) nc (by omega) (by decide)) dL_names_440 ?_
          refine r_iload (pc := 441) hC dL_names_441 rfl ?_
          refine r_bipush (pc := 443) (v := 31) hC dL_names_443 (by decide) ?_
          refine r_isub (pc := 445) hC dL_names_445 ?_
          refine r_i2l (pc := 446) hC dL_names_446 ?_
          refine r_bipush (pc := 447) (v := 6) hC dL_names_447 (by decide) ?_
          refine r_iload (pc := 449) hC dL_names_449 rfl ?_
          refine r_bipush (pc := 451) (v := 10) hC dL_names_451 (by decide) ?_
          refine r_irem (pc := 453) hC dL_names_453 (by decide) ?_
          refine r_imul (pc := 454) hC dL_names_454 ?_
          refine r_lshl (pc := 455) hC dL_names_455 ?_
          refine r_lor (pc := 456) hC dL_names_456 ?_
          rw [(pk_put (k := k) (c := nmF y k) (by rw [hB (k / 10) (by omega)]; exact pkX_lt (fun j hj => nmF_l (y := y) (by omega)) (by omega)) (nmF_l (y := y) (by omega))).resolve_right (by omega)]
          refine r_last (pc := 457) hC kc (xi_e (k := 2 * n + k / 10) (ix_c (by omega)) nc (by omega) (by decide)) dL_names_457 ?_
          refine r_iinc (pc := 458) (v := 1) (L' := [_, _, _, _, _, _, _, _, _, _, _, _, _, _, _, _]) hC dL_names_458 rfl (by decide) rfl rfl ?_
          refine r_goto (pc := 461) (tgt := 373) hC dL_names_461 (by decide) ?_
          obtain ⟨g1, g2⟩ := oR_law (J := I) (Q := xu Q' 259 (2 * n + k / 10) (Q' 259 (2 * n + k / 10) ||| dg (nmF y k) * 2 ^ (6 * (k % 10)))) hp' hi0 hO' (fun c _ => rfl) (fun c hc => xu_row (by omega))
          rw [nI_1]
          exact ih (k + 1) (by omega) _ _ g1 g2 (lA_c hA1 (by omega)) (fun b hb => by
            rw [pkX_step (fun j hj => nmF_l (y := y) (by omega)) (by omega) hb]
            by_cases e : b = k / 10
            · subst e; rw [if_pos rfl, xu_at, hB _ hb]
            · rw [if_neg e, xu_ne (Or.inr (by omega)), hB b hb])
  exact loop (nSz y) 0 (by omega) P none hp hO hA (fun b hb => by rw [b4 b hb, pkX_0])
