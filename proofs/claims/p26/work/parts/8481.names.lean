abbrev rm_L_names : Room := { frames := 5, cells := 0, slots := 0, locals := 115 }
theorem wl_L_names_60 : Cond.constant RL 60 (-1000004) ∈ wsL_names := List.mem_of_getElem? (i := 4) (by decide +kernel)
set_option maxHeartbeats 4000000 in
set_option maxRecDepth 100000 in
theorem s_L_names_497 {X : xF} {G : xG} {μ : xM} {I : xI} {P : xP} {n rq cn st y : Nat} {S tx : Nat → Int32} {H : Nat → Nat → Int32} {x9 x11 x12 : Option Value} (hC : xC X G cL_names wsL_names RL 16 rm_L_names) (hD : xD X G yL_names.name (some .boolean) 0 0 (pW μ cn)) (hK : lK μ) (hy : y < 10000000) (hp : oP P 1) (hO : oR I P 1 S n rq st H (nSz y) tx) (hi : invN S n rq) (hcc : lC S n rq cn) (hT : ∀ j, j < nSz y → tx j = nmF y j) (hi2 : invN (addS S n tx 0 (nSz y)) (n + 1) rq) (hA2 : lA I P (addS S n tx 0 (nSz y)) (n + 1) rq) (h20 : n < 20) (hred : nmR S n tx (nSz y) 0 = 0) : xg X G (0, 0) μ I P [some (.ref (xZ G + 1)), some (.ref (xZ G + 255)), some (.ref (xZ G + 256)), some (.ref (xZ G + 257)), some (.ref (xZ G + 258)), some (.ref (xZ G + 259)), some (.int (nI y)), some (.int (nI (nSz y))), some (.int (nI (nKd y))), x9, some (.int 1), x11, x12, some (.int (nI n)), some (.int (nI n)), some (.int (nI n - 1))] 497 [] := by
  have hK0 := hK
  obtain ⟨ko, hS, ⟨kg, ng⟩, ⟨kl, nl⟩, ⟨kw, nw⟩, ⟨ku, nu⟩, ⟨kc, nc⟩, ⟨kr, nr⟩⟩ := hK
  have hi0 := hi
  obtain ⟨hn20, hn, hq6, hq, hcur, hdr, h8, h9, h10, hrows⟩ := hi
  have hcn : cN S = n := by rw [cN, hn, nI_clamp (by omega)]
  obtain ⟨hz1, hz14⟩ := nSz_le y
  have hk2 := nKd_le y
  obtain ⟨f0, f1, f2, f3, f4, f5⟩ := aa_yes hcn hT (nmF_ok y) hz1 hz14 hred
  obtain ⟨r1, r2, r3, r4, r5⟩ := addS_row (S := S) (tx := tx) (n := n) hz14
  obtain ⟨t1, t2, t3, t4⟩ := tx_of hT (nmF_ok y) hz1 hz14
  have loop : ∀ (q k : Nat), k + q = n → ∀ (fn : Nat), (q ≤ fn ∧ fn ≤ n ∧ isNm (addS S n tx 0 (nSz y)) tx (nSz y) fn = true ∧ ∀ i, q ≤ i → i < fn → isNm (addS S n tx 0 (nSz y)) tx (nSz y) i = false) → xg X G (0, 0) μ I P [some (.ref (xZ G + 1)), some (.ref (xZ G + 255)), some (.ref (xZ G + 256)), some (.ref (xZ G + 257)), some (.ref (xZ G + 258)), some (.ref (xZ G + 259)), some (.int (nI y)), some (.int (nI (nSz y))), some (.int (nI (nKd y))), x9, some (.int 1), x11, x12, some (.int (nI n)), some (.int (nI fn)), some (.int (nI q - 1))] 497 [] := by
    intro q
    induction q with
    | zero =>
      intro k hk fn hfn
      refine r_iload (pc := 497) hC dL_names_497 rfl ?_
      refine r_if_lt (pc := 499) (tgt := 566) hC dL_names_499 (by decide) (fun bq499 => ?_) (fun bq499 => ?_)
      · skip
        refine r_aload_n (pc := 566) hC dL_names_566 rfl ?_
        refine k_X4_add (pc := 567) hC gL_names_X4_add ⟨Nat.le_of_ble_eq_true rfl, Nat.le_of_ble_eq_true rfl⟩ ko hS hp hO hi0 (Nat.le_of_ble_eq_true rfl) rfl ⟨Nat.zero_le _, Nat.zero_le _⟩ dL_names_567 ?_
        intro J567 Q567 rP567 rT567 rN567 rF567
        rw [f4]
        have hO3 := rT567 f3
        rw [t4, f5] at hO3
        refine r_iconst (pc := 570) (v := 1) hC dL_names_570 (by decide) ?_
        refine r_icmp_ne (pc := 571) (tgt := 605) hC dL_names_571 (by decide) (fun bq => (by first | exact absurd (rfl) bq | exact absurd bq (rfl))) (fun bq571 => ?_)
        refine r_aload_n (pc := 574) hC dL_names_574 rfl ?_
        refine k_X4_find (pc := 575) hC gL_names_X4_find ⟨Nat.le_of_ble_eq_true rfl, Nat.le_of_ble_eq_true rfl⟩ ko hS rP567 hO3 hi2 (Nat.le_of_ble_eq_true rfl) rfl ⟨Nat.zero_le _, Nat.zero_le _⟩ dL_names_575 ?_
        rw [find_at (n := n + 1) (by omega) hfn.2.2.1 (fun i g => hfn.2.2.2 i (Nat.zero_le _) g)]
        refine r_iload (pc := 578) hC dL_names_578 rfl ?_
        refine r_icmp_ne (pc := 580) (tgt := 605) hC dL_names_580 (by decide) (fun bq => (by first | exact absurd (rfl) bq | exact absurd bq (rfl))) (fun bq580 => ?_)
        refine r_aload_n (pc := 583) hC dL_names_583 rfl ?_
        refine k_X4_clearText (pc := 584) hC gL_names_X4_clearText ⟨Nat.le_of_ble_eq_true rfl, Nat.le_of_ble_eq_true rfl⟩ ko hS rP567 hO3 hi2 (Nat.le_of_ble_eq_true rfl) rfl ⟨Nat.zero_le _, Nat.zero_le _⟩ dL_names_584 ?_
        intro J584 rT584 rF584
        refine r_iload (pc := 587) hC dL_names_587 rfl ?_
        refine r_icmp_ne (pc := 589) (tgt := 605) hC dL_names_589 (by decide) (fun bq => (by first | exact absurd (rfl) bq | exact absurd bq (rfl))) (fun bq589 => ?_)
        refine r_aload_n (pc := 592) hC dL_names_592 rfl ?_
        refine k_X4_find (pc := 593) hC gL_names_X4_find ⟨Nat.le_of_ble_eq_true rfl, Nat.le_of_ble_eq_true rfl⟩ ko hS rP567 rT584 hi2 (Nat.le_of_ble_eq_true rfl) rfl ⟨Nat.zero_le _, Nat.zero_le _⟩ dL_names_593 ?_
        rw [find_0 hi2]
        refine r_ldc (pc := 596) (v := -1000004) hC dL_names_596 wl_L_names_60 ?_
        refine r_icmp_ne (pc := 598) (tgt := 605) hC dL_names_598 (by decide) (fun bq => (by first | exact absurd (rfl) bq | exact absurd bq (rfl))) (fun bq598 => ?_)
        refine r_iconst (pc := 601) (v := 1) hC dL_names_601 (by decide) ?_
        refine r_goto (pc := 602) (tgt := 606) hC dL_names_602 (by decide) ?_
        refine r_iret (pc := 606) hC hD rfl dL_names_606 rfl ?_
        exact ⟨rfl, rfl, (addS S n tx 0 (nSz y)), n + 1, rq, rP567, ⟨_, _, _, rT584⟩, hi2, lA_cong hA2 (fun c h1 h2 => by rw [rF584 c (by omega)]; exact (rF567 c (by omega)).1) (rF567 259 (by decide)).2, lC_add hcc h20 hz14⟩
      · skip
        exact absurd (by decide) bq499
    | succ q ih =>
      intro k hk fn hfn
      refine r_iload (pc := 497) hC dL_names_497 rfl ?_
      refine r_if_lt (pc := 499) (tgt := 566) hC dL_names_499 (by decide) (fun bq499 => ?_) (fun bq499 => ?_)
      · skip
        exact absurd bq499 (by rw [nI_pred]; exact nI_pos (by omega))
      · skip
        rw [nI_pred]
        refine r_aload_n (pc := 502) hC dL_names_502 rfl ?_
        refine r_iload (pc := 503) hC dL_names_503 rfl ?_
        refine r_iald (pc := 505) hC kl (xi_n (k := q) (by rw [nl]; omega) (by rw [nl]; decide)) dL_names_505 ?_
        rw [(hA2.2.1 q (by omega)).1, (row_len hi2 (show q < n + 1 by omega)).1]
        refine r_iload (pc := 506) hC dL_names_506 rfl ?_
        refine r_icmp_ne (pc := 508) (tgt := 556) hC dL_names_508 (by decide) (fun bq508 => ?_) (fun bq508 => ?_)
        · skip
          refine r_iload (pc := 556) hC dL_names_556 rfl ?_
          refine r_istore (pc := 558) (L' := [_, _, _, _, _, _, _, _, _, _, _, _, _, _, _, _]) hC dL_names_558 rfl (Nat.le_of_ble_eq_true rfl) rfl ?_
          refine r_iinc (pc := 560) (v := -1) (L' := [_, _, _, _, _, _, _, _, _, _, _, _, _, _, _, _]) hC dL_names_560 rfl (by decide) rfl rfl ?_
          refine r_goto (pc := 563) (tgt := 497) hC dL_names_563 (by decide) ?_
          obtain ⟨b1, b2, b3, b4, b5⟩ := hA2.2.1 q (by omega)
          obtain ⟨c1, c2, c3, c4, c5⟩ := hA2.2.1 n (by omega)
          have q0 : P 259 (2 * q) = pkX (sLet (addS S n tx 0 (nSz y)) q) (sLen (addS S n tx 0 (nSz y)) q) 0 := b5 0 (by decide)
          have q1 : P 259 (2 * q + 1) = pkX (sLet (addS S n tx 0 (nSz y)) q) (sLen (addS S n tx 0 (nSz y)) q) 1 := b5 1 (by decide)
          have n0 : P 259 (2 * n) = pkX (sLet (addS S n tx 0 (nSz y)) n) (nSz y) 0 := (c5 0 (by decide)).trans (by rw [r4])
          have n1 : P 259 (2 * n + 1) = pkX (sLet (addS S n tx 0 (nSz y)) n) (nSz y) 1 := (c5 1 (by decide)).trans (by rw [r4])
          have hno : isNm (addS S n tx 0 (nSz y)) tx (nSz y) q = false := by
            refine Bool.eq_false_iff.mpr (fun e => ?_)
            have e := isNm_iff.mp e
            exact bq508 (by rw [e.1])
          rw [show nI q + (-1) = nI q - 1 from (Int32.sub_eq_add_neg ..).symm]
          exact ih (k + 1) (by omega) fn ⟨by omega, hfn.2.1, hfn.2.2.1, fun i g1 g2 => by
            rcases Nat.lt_or_ge q i with g | g
            · exact hfn.2.2.2 i (by omega) g2
            · rw [show i = q by omega]; exact hno⟩
        · skip
          refine r_aload (pc := 511) hC dL_names_511 rfl ?_
          refine r_iconst (pc := 513) (v := 2) hC dL_names_513 (by decide) ?_
          refine r_iload (pc := 514) hC dL_names_514 rfl ?_
          refine r_imul (pc := 516) hC dL_names_516 ?_
          refine r_lald (pc := 517) hC kc (xi_e (k := 2 * q) (by rw [show (2 : Int32) = nI 2 from rfl, pk_mul]) nc (by omega) (by decide)) dL_names_517 ?_
          refine r_aload (pc := 518) hC dL_names_518 rfl ?_
          refine r_iconst (pc := 520) (v := 2) hC dL_names_520 (by decide) ?_
          refine r_iload (pc := 521) hC dL_names_521 rfl ?_
          refine r_imul (pc := 523) hC dL_names_523 ?_
          refine r_lald (pc := 524) hC kc (xi_e (k := 2 * n) (by rw [show (2 : Int32) = nI 2 from rfl, pk_mul]) nc (by omega) (by decide)) dL_names_524 ?_
          refine r_lcmp (pc := 525) hC dL_names_525 ?_
          refine r_if_ne (pc := 526) (tgt := 556) hC dL_names_526 (by decide) (fun bq526 => ?_) (fun bq526 => ?_)
          · skip
            refine r_iload (pc := 556) hC dL_names_556 rfl ?_
            refine r_istore (pc := 558) (L' := [_, _, _, _, _, _, _, _, _, _, _, _, _, _, _, _]) hC dL_names_558 rfl (Nat.le_of_ble_eq_true rfl) rfl ?_
            refine r_iinc (pc := 560) (v := -1) (L' := [_, _, _, _, _, _, _, _, _, _, _, _, _, _, _, _]) hC dL_names_560 rfl (by decide) rfl rfl ?_
            refine r_goto (pc := 563) (tgt := 497) hC dL_names_563 (by decide) ?_
            obtain ⟨b1, b2, b3, b4, b5⟩ := hA2.2.1 q (by omega)
            obtain ⟨c1, c2, c3, c4, c5⟩ := hA2.2.1 n (by omega)
            have q0 : P 259 (2 * q) = pkX (sLet (addS S n tx 0 (nSz y)) q) (sLen (addS S n tx 0 (nSz y)) q) 0 := b5 0 (by decide)
            have q1 : P 259 (2 * q + 1) = pkX (sLet (addS S n tx 0 (nSz y)) q) (sLen (addS S n tx 0 (nSz y)) q) 1 := b5 1 (by decide)
            have n0 : P 259 (2 * n) = pkX (sLet (addS S n tx 0 (nSz y)) n) (nSz y) 0 := (c5 0 (by decide)).trans (by rw [r4])
            have n1 : P 259 (2 * n + 1) = pkX (sLet (addS S n tx 0 (nSz y)) n) (nSz y) 1 := (c5 1 (by decide)).trans (by rw [r4])
            have hno : isNm (addS S n tx 0 (nSz y)) tx (nSz y) q = false := by
              refine Bool.eq_false_iff.mpr (fun e => ?_)
              have e := isNm_iff.mp e
              exact bq526 (l_cmp0.mpr (by rw [q0, n0, e.1, pkX_congr (fun j hj => (e.2 j hj).trans (r5 j hj).symm)]))
            rw [show nI q + (-1) = nI q - 1 from (Int32.sub_eq_add_neg ..).symm]
            exact ih (k + 1) (by omega) fn ⟨by omega, hfn.2.1, hfn.2.2.1, fun i g1 g2 => by
              rcases Nat.lt_or_ge q i with g | g
              · exact hfn.2.2.2 i (by omega) g2
              · rw [show i = q by omega]; exact hno⟩
          · skip
            refine r_aload (pc := 529) hC dL_names_529 rfl ?_
            refine r_iconst (pc := 531) (v := 2) hC dL_names_531 (by decide) ?_
            refine r_iload (pc := 532) hC dL_names_532 rfl ?_
            refine r_imul (pc := 534) hC dL_names_534 ?_
            refine r_iconst (pc := 535) (v := 1) hC dL_names_535 (by decide) ?_
            refine r_iadd (pc := 536) hC dL_names_536 ?_
            refine r_lald (pc := 537) hC kc (xi_e (k := 2 * q + 1) (by rw [show (2 : Int32) = nI 2 from rfl, pk_mul, nI_1]) nc (by omega) (by decide)) dL_names_537 ?_
            refine r_aload (pc := 538) hC dL_names_538 rfl ?_
            refine r_iconst (pc := 540) (v := 2) hC dL_names_540 (by decide) ?_
            refine r_iload (pc := 541) hC dL_names_541 rfl ?_
            refine r_imul (pc := 543) hC dL_names_543 ?_
            refine r_iconst (pc := 544) (v := 1) hC dL_names_544 (by decide) ?_
            refine r_iadd (pc := 545) hC dL_names_545 ?_
            refine r_lald (pc := 546) hC kc (xi_e (k := 2 * n + 1) (by rw [show (2 : Int32) = nI 2 from rfl, pk_mul, nI_1]) nc (by omega) (by decide)) dL_names_546 ?_
            refine r_lcmp (pc := 547) hC dL_names_547 ?_
            refine r_if_ne (pc := 548) (tgt := 556) hC dL_names_548 (by decide) (fun bq548 => ?_) (fun bq548 => ?_)
            · skip
              refine r_iload (pc := 556) hC dL_names_556 rfl ?_
              refine r_istore (pc := 558) (L' := [_, _, _, _, _, _, _, _, _, _, _, _, _, _, _, _]) hC dL_names_558 rfl (Nat.le_of_ble_eq_true rfl) rfl ?_
              refine r_iinc (pc := 560) (v := -1) (L' := [_, _, _, _, _, _, _, _, _, _, _, _, _, _, _, _]) hC dL_names_560 rfl (by decide) rfl rfl ?_
              refine r_goto (pc := 563) (tgt := 497) hC dL_names_563 (by decide) ?_
              obtain ⟨b1, b2, b3, b4, b5⟩ := hA2.2.1 q (by omega)
              obtain ⟨c1, c2, c3, c4, c5⟩ := hA2.2.1 n (by omega)
              have q0 : P 259 (2 * q) = pkX (sLet (addS S n tx 0 (nSz y)) q) (sLen (addS S n tx 0 (nSz y)) q) 0 := b5 0 (by decide)
              have q1 : P 259 (2 * q + 1) = pkX (sLet (addS S n tx 0 (nSz y)) q) (sLen (addS S n tx 0 (nSz y)) q) 1 := b5 1 (by decide)
              have n0 : P 259 (2 * n) = pkX (sLet (addS S n tx 0 (nSz y)) n) (nSz y) 0 := (c5 0 (by decide)).trans (by rw [r4])
              have n1 : P 259 (2 * n + 1) = pkX (sLet (addS S n tx 0 (nSz y)) n) (nSz y) 1 := (c5 1 (by decide)).trans (by rw [r4])
              have hno : isNm (addS S n tx 0 (nSz y)) tx (nSz y) q = false := by
                refine Bool.eq_false_iff.mpr (fun e => ?_)
                have e := isNm_iff.mp e
                exact bq548 (l_cmp0.mpr (by rw [q1, n1, e.1, pkX_congr (fun j hj => (e.2 j hj).trans (r5 j hj).symm)]))
              rw [show nI q + (-1) = nI q - 1 from (Int32.sub_eq_add_neg ..).symm]
              exact ih (k + 1) (by omega) fn ⟨by omega, hfn.2.1, hfn.2.2.1, fun i g1 g2 => by
                rcases Nat.lt_or_ge q i with g | g
                · exact hfn.2.2.2 i (by omega) g2
                · rw [show i = q by omega]; exact hno⟩
            · skip
              refine r_iload (pc := 551) hC dL_names_551 rfl ?_
              refine r_goto (pc := 553) (tgt := 558) hC dL_names_553 (by decide) ?_
              refine r_istore (pc := 558) (L' := [_, _, _, _, _, _, _, _, _, _, _, _, _, _, _, _]) hC dL_names_558 rfl (Nat.le_of_ble_eq_true rfl) rfl ?_
              refine r_iinc (pc := 560) (v := -1) (L' := [_, _, _, _, _, _, _, _, _, _, _, _, _, _, _, _]) hC dL_names_560 rfl (by decide) rfl rfl ?_
              refine r_goto (pc := 563) (tgt := 497) hC dL_names_563 (by decide) ?_
              obtain ⟨b1, b2, b3, b4, b5⟩ := hA2.2.1 q (by omega)
              obtain ⟨c1, c2, c3, c4, c5⟩ := hA2.2.1 n (by omega)
              have q0 : P 259 (2 * q) = pkX (sLet (addS S n tx 0 (nSz y)) q) (sLen (addS S n tx 0 (nSz y)) q) 0 := b5 0 (by decide)
              have q1 : P 259 (2 * q + 1) = pkX (sLet (addS S n tx 0 (nSz y)) q) (sLen (addS S n tx 0 (nSz y)) q) 1 := b5 1 (by decide)
              have n0 : P 259 (2 * n) = pkX (sLet (addS S n tx 0 (nSz y)) n) (nSz y) 0 := (c5 0 (by decide)).trans (by rw [r4])
              have n1 : P 259 (2 * n + 1) = pkX (sLet (addS S n tx 0 (nSz y)) n) (nSz y) 1 := (c5 1 (by decide)).trans (by rw [r4])
              have hlen : sLen (addS S n tx 0 (nSz y)) q = nSz y := (nI_eq (by omega) (by omega)).mp bq508
              have l4 : ∀ j, j < nSz y → okL (sLet (addS S n tx 0 (nSz y)) q j) := by
                obtain ⟨Lq, l1, l2, l3, l4⟩ := row_ok hi2 (show q < n + 1 by omega)
                rw [hlen] at l3
                rw [← l3] at l4
                exact l4
              rw [hlen] at q0 q1
              have hsame := pkX_inj (g := sLet (addS S n tx 0 (nSz y)) n) l4 (fun j hj => by rw [r5 j hj, hT j hj]; exact nmF_l hj) hz14 ((l_eq (by have := pkX_lt (b := 0) l4 hz14; omega) (by have := pkX_lt (f := sLet (addS S n tx 0 (nSz y)) n) (b := 0) (L := nSz y) (fun j hj => by rw [r5 j hj, hT j hj]; exact nmF_l hj) hz14; omega)).mp (by rw [← n0, ← q0]; exact l_cmp0.mp bq526)) ((l_eq (by have := pkX_lt (b := 1) l4 hz14; omega) (by have := pkX_lt (f := sLet (addS S n tx 0 (nSz y)) n) (b := 1) (L := nSz y) (fun j hj => by rw [r5 j hj, hT j hj]; exact nmF_l hj) hz14; omega)).mp (by rw [← n1, ← q1]; exact l_cmp0.mp bq548))
              rw [show nI q + (-1) = nI q - 1 from (Int32.sub_eq_add_neg ..).symm]
              exact ih (k + 1) (by omega) q ⟨Nat.le_refl q, by omega, isNm_iff.mpr ⟨hlen, fun j hj => by rw [hsame j hj]; exact r5 j hj⟩, fun i g1 g2 => absurd g1 (by omega)⟩
  exact loop n 0 (by omega) n ⟨Nat.le_refl n, Nat.le_refl n, isNm_iff.mpr ⟨r4, r5⟩, fun i g1 g2 => absurd g1 (by omega)⟩
