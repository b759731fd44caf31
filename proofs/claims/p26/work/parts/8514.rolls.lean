theorem ck_v {k : Nat} (h : k < 3) : ¬ inr (1 + nI k) 1 3 = 0 := by
  have key : ∀ k : Fin 3, ¬ inr (1 + nI k.1) 1 3 = 0 := by decide +kernel
  exact key ⟨k, h⟩
theorem ck_r {k : Nat} (h : k < 41) : ¬ inr (nI k - 20) (-20) 20 = 0 := by
  have key : ∀ k : Fin 41, ¬ inr (nI k.1 - 20) (-20) 20 = 0 := by decide +kernel
  exact key ⟨k, h⟩
theorem ck_ok {S : Nat → Int32} {r v : Int32} (h1 : ¬ inr r (-20) 20 = 0) (h2 : ¬ r = 0) (h3 : ¬ inr v 1 3 = 0) (h4 : ¬ S 0 = 0) : okCrank S r v = true := by
  rw [okCrank, if_pos]
  unfold mcr
  rw [if_neg h1, if_neg h2, if_neg h3, if_neg h4]
theorem ck_fin {S : Nat → Int32} {n q : Nat} {r v : Int32} (hi : invN S n q) (hok : okCrank S r v = true) : aCrank S r v = sCrank S r v 1 ∧ sCrank S r v 6 = S 6 ∧ sCrank S r v 7 = S 7 ∧ ∀ i, 351 ≤ i → sCrank S r v i = S i := by
  obtain ⟨hn20, hn, hq6, hq, hcur, hdr, h8, h9, h10, hrows⟩ := hi
  have hm : mcr r v (S 0) = 0 := by
    unfold okCrank at hok
    by_cases w : mcr r v (S 0) = 0
    · exact w
    · rw [if_neg w] at hok; exact absurd hok (by decide)
  obtain ⟨c1, c2, c3, c4⟩ := mcr_0 hm
  obtain ⟨a, ha, hs1⟩ : ∃ a, a < n ∧ S 1 = nI a := hcur.resolve_left (fun w => c4 (by rw [hn, w.1]; rfl))
  have hca : cA S = a := by rw [cA, hs1, nI_clamp (by omega)]
  have hcn : cN S = n := by rw [cN, hn, nI_clamp (by omega)]
  have hcg : cG S r = stepsS S n a (cUp r) (cW r) := by rw [cG, hcn, hca]
  have hs : sCrank S r v = crFS S a (cUp r) v (stepsS S n a (cUp r) (cW r)) := by rw [sCrank, if_pos hok, hca, hcg]
  refine ⟨?_, ?_, ?_, fun i hh => ?_⟩
  · rw [hs, crFS_1 hs1, aCrank, if_pos hm, hca, hcg]
  · rw [hs]; unfold crFS; rw [upd_ne (by decide), upd_ne (by decide), crS_small (by decide) (by decide)]
  · rw [hs]; unfold crFS; rw [upd_ne (by decide), upd_ne (by decide), crS_small (by decide) (by decide)]
  · rw [hs]; exact crFS_far (fun i hi => (steps_row ha i hi).1) hn20 hh
theorem in_set {n x : Nat} (hn : n ≤ 20) (h1 : 1 ≤ x) (h2 : x < 2 ^ n) : ¬ inSet (nI x) (nI n) = 0 := by
  obtain ⟨e1, e2, e3⟩ := shl_lim hn
  unfold inSet inr
  rw [e1, if_neg (show ¬ nI x < 1 from nI_nlt (b := 1) h1 (by omega)), if_neg (nI_nlt (by omega) (by omega))]
  decide
set_option maxHeartbeats 4000000 in
set_option maxRecDepth 100000 in
theorem c_L_rolls_3 (l : Launch) {G : xG} {μ : xM} {I : xI} {P : xP} {n rq cn : Nat} {S : Nat → Int32} {y : Nat} (hK : lK μ) (hV : lV I P S n rq cn) (hy : y < 10000000) : Ct l yL_rolls wsL_rolls rm_L_rolls G μ I P [.ref (xZ G + 1), .ref (xZ G + 255), .ref (xZ G + 256), .ref (xZ G + 257), .ref (xZ G + 258), .ref (xZ G + 259), .ref (xZ G + 260), .int 3, .int (nI y)] 0 0 (fun vv μ' I' P' => pW μ cn vv μ' I' P') := by
  have hK0 := hK
  obtain ⟨ko, hS, ⟨kg, ng⟩, ⟨kl, nl⟩, ⟨kw, nw⟩, ⟨ku, nu⟩, ⟨kc, nc⟩, ⟨kr, nr⟩⟩ := hK
  obtain ⟨hp, ⟨st, H, tx, hO⟩, hi, hA, hcc⟩ := hV
  have hA0 := hA
  have hi0 := hi
  obtain ⟨ag, ar, at_⟩ := hA
  obtain ⟨hn20, hn, hq6, hq, hcur, hdr, h8, h9, h10, hrows⟩ := hi
  have hcn : cN S = n := by rw [cN, hn, nI_clamp (by omega)]
  have hcq : cQn S = rq := by rw [cQn, hq, nI_clamp (by omega)]
  refine Ct.of (cc := cL_rolls) (maxL := 21) (ret := (some .boolean)) [some (.ref (xZ G + 1)), some (.ref (xZ G + 255)), some (.ref (xZ G + 256)), some (.ref (xZ G + 257)), some (.ref (xZ G + 258)), some (.ref (xZ G + 259)), some (.ref (xZ G + 260)), some (.int 3), some (.int (nI y)), none, none, none, none, none, none, none, none, none, none, none, none] (by decide) rfl rfl rfl (Nat.le_of_ble_eq_true rfl) ?_
  intro X hC hD h0 _
  refine r_aload_n (pc := 0) hC dL_rolls_0 rfl ?_
  refine r_iconst (pc := 1) (v := 0) hC dL_rolls_1 (by decide) ?_
  refine r_iald (pc := 2) hC kg (xi_l (k := 0) ng (by decide) (by decide) (by decide)) dL_rolls_2 ?_
  rw [ag 0 (by decide), hn]
  refine r_if_ne (pc := 3) (tgt := 53) hC dL_rolls_3 (by decide) (fun bq3 => ?_) (fun bq3 => ?_)
  · skip
    have hn1 : ¬ nI n = 0 := bq3
    have hn1p : 0 < n := by
      rcases Nat.eq_zero_or_pos n with w | w
      · exact absurd (by rw [w]; rfl) hn1
      · exact w
    have hrow : y % n < n := Nat.mod_lt _ hn1p
    refine r_iload (pc := 53) hC dL_rolls_53 rfl ?_
    refine r_aload_n (pc := 55) hC dL_rolls_55 rfl ?_
    refine r_iconst (pc := 56) (v := 0) hC dL_rolls_56 (by decide) ?_
    refine r_iald (pc := 57) hC kg (xi_l (k := 0) ng (by decide) (by decide) (by decide)) dL_rolls_57 ?_
    rw [ag 0 (by decide), hn]
    refine r_irem (pc := 58) hC dL_rolls_58 hn1 ?_
    rw [show nI y - nI y / nI n * nI n = nI (y % n) from pk_rem (by omega) hn1p (by omega)]
    refine r_istore (pc := 59) (L' := [_, _, _, _, _, _, _, _, _, _, _, _, _, _, _, _, _, _, _, _, _]) hC dL_rolls_59 rfl (Nat.le_of_ble_eq_true rfl) rfl ?_
    refine r_iload (pc := 61) hC dL_rolls_61 rfl ?_
    refine r_if_ne (pc := 63) (tgt := 250) hC dL_rolls_63 (by decide) (fun bq63 => ?_) (fun bq => (by first | exact absurd ((by decide : ¬ (3 : Int32) = 0)) bq | exact absurd bq ((by decide : ¬ (3 : Int32) = 0))))
    refine r_iload (pc := 250) hC dL_rolls_250 rfl ?_
    refine r_iconst (pc := 252) (v := 1) hC dL_rolls_252 (by decide) ?_
    refine r_icmp_ne (pc := 253) (tgt := 521) hC dL_rolls_253 (by decide) (fun bq253 => ?_) (fun bq => (by first | exact absurd ((by decide : ¬ (3 : Int32) = 1)) bq | exact absurd bq ((by decide : ¬ (3 : Int32) = 1))))
    refine r_iload (pc := 521) hC dL_rolls_521 rfl ?_
    refine r_iconst (pc := 523) (v := 2) hC dL_rolls_523 (by decide) ?_
    refine r_icmp_ne (pc := 524) (tgt := 585) hC dL_rolls_524 (by decide) (fun bq524 => ?_) (fun bq => (by first | exact absurd ((by decide : ¬ (3 : Int32) = 2)) bq | exact absurd bq ((by decide : ¬ (3 : Int32) = 2))))
    refine r_iload (pc := 585) hC dL_rolls_585 rfl ?_
    refine r_iconst (pc := 587) (v := 3) hC dL_rolls_587 (by decide) ?_
    refine r_icmp_ne (pc := 588) (tgt := 663) hC dL_rolls_588 (by decide) (fun bq => (by first | exact absurd (rfl) bq | exact absurd bq (rfl))) (fun bq588 => ?_)
    have e41 : nI y - nI y / 41 * 41 = nI (y % 41) := pk_rem (d := 41) (by omega) (by decide) (by decide)
    have d41 : nI y / 41 = nI (y / 41) := pk_div (d := 41) (by omega) (by decide) (by decide)
    have e3 : nI (y / 41) - nI (y / 41) / 3 * 3 = nI (y / 41 % 3) := pk_rem (d := 3) (by omega) (by decide) (by decide)
    refine r_iload (pc := 591) hC dL_rolls_591 rfl ?_
    refine r_bipush (pc := 593) (v := 41) hC dL_rolls_593 (by decide) ?_
    refine r_irem (pc := 595) hC dL_rolls_595 (by decide) ?_
    rw [e41]
    refine r_bipush (pc := 596) (v := 20) hC dL_rolls_596 (by decide) ?_
    refine r_isub (pc := 598) hC dL_rolls_598 ?_
    refine r_istore (pc := 599) (L' := [_, _, _, _, _, _, _, _, _, _, _, _, _, _, _, _, _, _, _, _, _]) hC dL_rolls_599 rfl (Nat.le_of_ble_eq_true rfl) rfl ?_
    refine r_iload (pc := 601) hC dL_rolls_601 rfl ?_
    refine r_if_ne (pc := 603) (tgt := 610) hC dL_rolls_603 (by decide) (fun bq603 => ?_) (fun bq603 => ?_)
    · skip
      refine r_iload (pc := 610) hC dL_rolls_610 rfl ?_
      refine r_istore (pc := 612) (L' := [_, _, _, _, _, _, _, _, _, _, _, _, _, _, _, _, _, _, _, _, _]) hC dL_rolls_612 rfl (Nat.le_of_ble_eq_true rfl) rfl ?_
      refine r_iconst (pc := 614) (v := 1) hC dL_rolls_614 (by decide) ?_
      refine r_iload (pc := 615) hC dL_rolls_615 rfl ?_
      refine r_bipush (pc := 617) (v := 41) hC dL_rolls_617 (by decide) ?_
      refine r_idiv (pc := 619) hC dL_rolls_619 (by decide) ?_
      rw [d41]
      refine r_iconst (pc := 620) (v := 3) hC dL_rolls_620 (by decide) ?_
      refine r_irem (pc := 621) hC dL_rolls_621 (by decide) ?_
      rw [e3]
      refine r_iadd (pc := 622) hC dL_rolls_622 ?_
      refine r_istore (pc := 623) (L' := [_, _, _, _, _, _, _, _, _, _, _, _, _, _, _, _, _, _, _, _, _]) hC dL_rolls_623 rfl (Nat.le_of_ble_eq_true rfl) rfl ?_
      have hcv : ¬ inr (1 + nI (y / 41 % 3)) 1 3 = 0 := ck_v (Nat.mod_lt _ (by decide))
      have hok : okCrank S (nI (y % 41) - 20) (1 + nI (y / 41 % 3)) = true := ck_ok (ck_r (Nat.mod_lt _ (by decide))) bq603 hcv (by rw [hn]; exact hn1)
      refine r_aload_n (pc := 625) hC dL_rolls_625 rfl ?_
      refine r_aload_n (pc := 626) hC dL_rolls_626 rfl ?_
      refine r_aload (pc := 627) hC dL_rolls_627 rfl ?_
      refine r_iload (pc := 629) hC dL_rolls_629 rfl ?_
      refine r_iload (pc := 631) hC dL_rolls_631 rfl ?_
      refine k_L_crank (pc := 633) hC gL_rolls_L_crank ⟨Nat.le_of_ble_eq_true rfl, Nat.le_of_ble_eq_true rfl⟩ hK0 hA0 hi0 hok (Nat.le_of_ble_eq_true rfl) rfl ⟨Nat.zero_le _, Nat.zero_le _⟩ dL_rolls_633 ?_
      intro J633 t633 ht633 lA633 fr633
      refine r_istore (pc := 636) (L' := [_, _, _, _, _, _, _, _, _, _, _, _, _, _, _, _, _, _, _, _, _]) hC dL_rolls_636 rfl (Nat.le_of_ble_eq_true rfl) rfl ?_
      refine r_iload (pc := 638) hC dL_rolls_638 rfl ?_
      refine r_if_lt (pc := 640) (tgt := 661) hC dL_rolls_640 (by decide) (fun bq => (by first | exact absurd ((Int32.not_lt.mpr ht633)) bq | exact absurd bq ((Int32.not_lt.mpr ht633)))) (fun bq640 => ?_)
      refine r_aload_n (pc := 643) hC dL_rolls_643 rfl ?_
      refine r_iload (pc := 644) hC dL_rolls_644 rfl ?_
      refine r_iload (pc := 646) hC dL_rolls_646 rfl ?_
      obtain ⟨g1, g2⟩ := oR_law (J := J633) (Q := P) hp hi0 hO (fun c hc => fr633 c (by omega) (by omega) (by omega)) (fun c hc => rfl)
      obtain ⟨w1, w2, w3, w4⟩ := ck_fin hi0 hok
      refine k_X4_crank (pc := 648) hC gL_rolls_X4_crank ⟨Nat.le_of_ble_eq_true rfl, Nat.le_of_ble_eq_true rfl⟩ ko hS g1 g2 hi0 (Nat.le_of_ble_eq_true rfl) rfl ⟨Nat.zero_le _, Nat.zero_le _⟩ dL_rolls_648 ?_
      intro J648 Q648 rP648 rT648 rN648 rF648
      refine r_aload_n (pc := 651) hC dL_rolls_651 rfl ?_
      refine r_iconst (pc := 652) (v := 1) hC dL_rolls_652 (by decide) ?_
      refine r_iald (pc := 653) hC kg (xi_l (k := 1) ng (by decide) (by decide) (by decide)) dL_rolls_653 ?_
      rw [(rF648 255 (by decide)).1, lA633.1 1 (by decide)]
      refine r_icmp_ne (pc := 654) (tgt := 661) hC dL_rolls_654 (by decide) (fun bq => (by first | exact absurd (w1) bq | exact absurd bq (w1))) (fun bq654 => ?_)
      refine r_iconst (pc := 657) (v := 1) hC dL_rolls_657 (by decide) ?_
      refine r_goto (pc := 658) (tgt := 662) hC dL_rolls_658 (by decide) ?_
      refine r_iret (pc := 662) hC hD rfl dL_rolls_662 rfl ?_
      exact ⟨rfl, rfl, _, n, rq, rP648, ⟨_, _, _, rT648 hok⟩, inv_crank hi0 hok, lA_cong lA633 (fun c h1 h2 => (rF648 c (by omega)).1) (rF648 259 (by decide)).2, lC_keep hcc w2 w3 w4 (Nat.le_refl n)⟩
    · skip
      refine r_iconst (pc := 606) (v := 1) hC dL_rolls_606 (by decide) ?_
      refine r_goto (pc := 607) (tgt := 612) hC dL_rolls_607 (by decide) ?_
      refine r_istore (pc := 612) (L' := [_, _, _, _, _, _, _, _, _, _, _, _, _, _, _, _, _, _, _, _, _]) hC dL_rolls_612 rfl (Nat.le_of_ble_eq_true rfl) rfl ?_
      refine r_iconst (pc := 614) (v := 1) hC dL_rolls_614 (by decide) ?_
      refine r_iload (pc := 615) hC dL_rolls_615 rfl ?_
      refine r_bipush (pc := 617) (v := 41) hC dL_rolls_617 (by decide) ?_
      refine r_idiv (pc := 619) hC dL_rolls_619 (by decide) ?_
      rw [d41]
      refine r_iconst (pc := 620) (v := 3) hC dL_rolls_620 (by decide) ?_
      refine r_irem (pc := 621) hC dL_rolls_621 (by decide) ?_
      rw [e3]
      refine r_iadd (pc := 622) hC dL_rolls_622 ?_
      refine r_istore (pc := 623) (L' := [_, _, _, _, _, _, _, _, _, _, _, _, _, _, _, _, _, _, _, _, _]) hC dL_rolls_623 rfl (Nat.le_of_ble_eq_true rfl) rfl ?_
      have hcv : ¬ inr (1 + nI (y / 41 % 3)) 1 3 = 0 := ck_v (Nat.mod_lt _ (by decide))
      have hok : okCrank S (1 : Int32) (1 + nI (y / 41 % 3)) = true := ck_ok (by decide) (by decide) hcv (by rw [hn]; exact hn1)
      refine r_aload_n (pc := 625) hC dL_rolls_625 rfl ?_
      refine r_aload_n (pc := 626) hC dL_rolls_626 rfl ?_
      refine r_aload (pc := 627) hC dL_rolls_627 rfl ?_
      refine r_iload (pc := 629) hC dL_rolls_629 rfl ?_
      refine r_iload (pc := 631) hC dL_rolls_631 rfl ?_
      refine k_L_crank (pc := 633) hC gL_rolls_L_crank ⟨Nat.le_of_ble_eq_true rfl, Nat.le_of_ble_eq_true rfl⟩ hK0 hA0 hi0 hok (Nat.le_of_ble_eq_true rfl) rfl ⟨Nat.zero_le _, Nat.zero_le _⟩ dL_rolls_633 ?_
      intro J633 t633 ht633 lA633 fr633
      refine r_istore (pc := 636) (L' := [_, _, _, _, _, _, _, _, _, _, _, _, _, _, _, _, _, _, _, _, _]) hC dL_rolls_636 rfl (Nat.le_of_ble_eq_true rfl) rfl ?_
      refine r_iload (pc := 638) hC dL_rolls_638 rfl ?_
      refine r_if_lt (pc := 640) (tgt := 661) hC dL_rolls_640 (by decide) (fun bq => (by first | exact absurd ((Int32.not_lt.mpr ht633)) bq | exact absurd bq ((Int32.not_lt.mpr ht633)))) (fun bq640 => ?_)
      refine r_aload_n (pc := 643) hC dL_rolls_643 rfl ?_
      refine r_iload (pc := 644) hC dL_rolls_644 rfl ?_
      refine r_iload (pc := 646) hC dL_rolls_646 rfl ?_
      obtain ⟨g1, g2⟩ := oR_law (J := J633) (Q := P) hp hi0 hO (fun c hc => fr633 c (by omega) (by omega) (by omega)) (fun c hc => rfl)
      obtain ⟨w1, w2, w3, w4⟩ := ck_fin hi0 hok
      refine k_X4_crank (pc := 648) hC gL_rolls_X4_crank ⟨Nat.le_of_ble_eq_true rfl, Nat.le_of_ble_eq_true rfl⟩ ko hS g1 g2 hi0 (Nat.le_of_ble_eq_true rfl) rfl ⟨Nat.zero_le _, Nat.zero_le _⟩ dL_rolls_648 ?_
      intro J648 Q648 rP648 rT648 rN648 rF648
      refine r_aload_n (pc := 651) hC dL_rolls_651 rfl ?_
      refine r_iconst (pc := 652) (v := 1) hC dL_rolls_652 (by decide) ?_
      refine r_iald (pc := 653) hC kg (xi_l (k := 1) ng (by decide) (by decide) (by decide)) dL_rolls_653 ?_
      rw [(rF648 255 (by decide)).1, lA633.1 1 (by decide)]
      refine r_icmp_ne (pc := 654) (tgt := 661) hC dL_rolls_654 (by decide) (fun bq => (by first | exact absurd (w1) bq | exact absurd bq (w1))) (fun bq654 => ?_)
      refine r_iconst (pc := 657) (v := 1) hC dL_rolls_657 (by decide) ?_
      refine r_goto (pc := 658) (tgt := 662) hC dL_rolls_658 (by decide) ?_
      refine r_iret (pc := 662) hC hD rfl dL_rolls_662 rfl ?_
      exact ⟨rfl, rfl, _, n, rq, rP648, ⟨_, _, _, rT648 hok⟩, inv_crank hi0 hok, lA_cong lA633 (fun c h1 h2 => (rF648 c (by omega)).1) (rF648 259 (by decide)).2, lC_keep hcc w2 w3 w4 (Nat.le_refl n)⟩
  · skip
    have hn0 : n = 0 := (nI_eq (b := 0) (by omega) (by decide)).mp bq3
    have hS0 : S 0 = 0 := by rw [hn, hn0]; rfl
    obtain ⟨⟨c1, c2⟩, ⟨m1, m2⟩, ⟨k1, k2⟩, r1, r2⟩ := r_empty hS0
    refine r_aload_n (pc := 6) hC dL_rolls_6 rfl ?_
    refine r_iconst (pc := 7) (v := 0) hC dL_rolls_7 (by decide) ?_
    refine k_X4_cut (pc := 8) hC gL_rolls_X4_cut ⟨Nat.le_of_ble_eq_true rfl, Nat.le_of_ble_eq_true rfl⟩ ko hS hp hO hi0 (Nat.le_of_ble_eq_true rfl) rfl ⟨Nat.zero_le _, Nat.zero_le _⟩ dL_rolls_8 ?_
    intro J8 Q8 rP8 rT8 rN8 rF8
    rw [c2]
    refine r_ldc (pc := 11) (v := -1000001) hC dL_rolls_11 wl_L_rolls_71 ?_
    refine r_icmp_ne (pc := 13) (tgt := 51) hC dL_rolls_13 (by decide) (fun bq => (by first | exact absurd (rfl) bq | exact absurd bq (rfl))) (fun bq13 => ?_)
    refine r_aload_n (pc := 16) hC dL_rolls_16 rfl ?_
    refine r_iconst (pc := 17) (v := 0) hC dL_rolls_17 (by decide) ?_
    refine k_X4_mend (pc := 18) hC gL_rolls_X4_mend ⟨Nat.le_of_ble_eq_true rfl, Nat.le_of_ble_eq_true rfl⟩ ko hS rP8 (rN8 c1) hi0 (Nat.le_of_ble_eq_true rfl) rfl ⟨Nat.zero_le _, Nat.zero_le _⟩ dL_rolls_18 ?_
    intro J18 Q18 rP18 rT18 rN18 rF18
    rw [m2]
    refine r_ldc (pc := 21) (v := -1000001) hC dL_rolls_21 wl_L_rolls_71 ?_
    refine r_icmp_ne (pc := 23) (tgt := 51) hC dL_rolls_23 (by decide) (fun bq => (by first | exact absurd (rfl) bq | exact absurd bq (rfl))) (fun bq23 => ?_)
    refine r_aload_n (pc := 26) hC dL_rolls_26 rfl ?_
    refine r_iconst (pc := 27) (v := 1) hC dL_rolls_27 (by decide) ?_
    refine r_iconst (pc := 28) (v := 1) hC dL_rolls_28 (by decide) ?_
    refine k_X4_crank (pc := 29) hC gL_rolls_X4_crank ⟨Nat.le_of_ble_eq_true rfl, Nat.le_of_ble_eq_true rfl⟩ ko hS rP18 (rN18 m1) hi0 (Nat.le_of_ble_eq_true rfl) rfl ⟨Nat.zero_le _, Nat.zero_le _⟩ dL_rolls_29 ?_
    intro J29 Q29 rP29 rT29 rN29 rF29
    rw [k2]
    refine r_ldc (pc := 32) (v := -1000002) hC dL_rolls_32 wl_L_rolls_64 ?_
    refine r_icmp_ne (pc := 34) (tgt := 51) hC dL_rolls_34 (by decide) (fun bq => (by first | exact absurd (rfl) bq | exact absurd bq (rfl))) (fun bq34 => ?_)
    refine r_aload_n (pc := 37) hC dL_rolls_37 rfl ?_
    refine r_iconst (pc := 38) (v := 1) hC dL_rolls_38 (by decide) ?_
    refine k_X4_route (pc := 39) hC gL_rolls_X4_route ⟨Nat.le_of_ble_eq_true rfl, Nat.le_of_ble_eq_true rfl⟩ ko hS rP29 (rN29 k1) hi0 (Nat.le_of_ble_eq_true rfl) rfl ⟨Nat.zero_le _, Nat.zero_le _⟩ dL_rolls_39 ?_
    intro J39 Q39 rP39 rT39 rN39 rF39
    rw [r2]
    refine r_ldc (pc := 42) (v := -1000001) hC dL_rolls_42 wl_L_rolls_71 ?_
    refine r_icmp_ne (pc := 44) (tgt := 51) hC dL_rolls_44 (by decide) (fun bq => (by first | exact absurd (rfl) bq | exact absurd bq (rfl))) (fun bq44 => ?_)
    refine r_iconst (pc := 47) (v := 1) hC dL_rolls_47 (by decide) ?_
    refine r_goto (pc := 48) (tgt := 52) hC dL_rolls_48 (by decide) ?_
    refine r_iret (pc := 52) hC hD rfl dL_rolls_52 rfl ?_
    exact ⟨rfl, rfl, S, n, rq, rP39, ⟨_, _, _, rN39 r1⟩, hi0, lA_cong hA0 (fun c h1 h2 => by rw [(rF39 c (by omega)).1, (rF29 c (by omega)).1, (rF18 c (by omega)).1]; exact (rF8 c (by omega)).1) (by rw [(rF39 259 (by decide)).2, (rF29 259 (by decide)).2, (rF18 259 (by decide)).2]; exact (rF8 259 (by decide)).2), lC_keep hcc rfl rfl (fun _ _ => rfl) (Nat.le_refl n)⟩
theorem k_L_rolls_3 {X : xF} {G : xG} {cs : Nat × Nat} {μ : xM} {I : xI} {P : xP} {L : List (Option Value)} {pc : Nat} {rest : List Value} {cc : ByteArray} {Ts : List Cond} {own : String} {nL : Nat} {R : Room} (hC : xC X G cc Ts own nL R) {index : Nat} (hG : GoodIn Ts (va_wsS own index yL_rolls wsL_rolls)) (hR : rm_L_rolls.frames + 1 ≤ R.frames ∧ 8 + (21 + 11) + rm_L_rolls.locals ≤ R.locals) {n rq cn : Nat} {S : Nat → Int32} {y : Nat} (hK : lK μ) (hV : lV I P S n rq cn) (hy : y < 10000000) (hW : (rest.map fun v => v.category).sum ≤ 8) (hL : L.length = nL) (hcs : cs.1 ≤ R.cells ∧ cs.2 ≤ R.slots) (hdec : decode cc pc = .ok (.invokestatic index, 3)) (kk : ∀ (I' : xI) (P' : xP) (S' : Nat → Int32) (n' rq' : Nat), lV I' P' S' n' rq' (cn + 1) → xg X G cs μ I' P' L (pc + 3) (.int 1 :: rest)) : xg X G cs μ I P L pc (.int (nI y) :: .int 3 :: .ref (xZ G + 260) :: .ref (xZ G + 259) :: .ref (xZ G + 258) :: .ref (xZ G + 257) :: .ref (xZ G + 256) :: .ref (xZ G + 255) :: .ref (xZ G + 1) :: rest) :=
  r_callS hC (c_L_rolls_3 X.2.1 hK hV hy) hG rfl rfl rfl hd_L_rolls.2 hR rfl rfl hW hL hcs hdec (by rintro vv μ' I' P' ⟨rfl, rfl, S', n', rq', h⟩; exact kk I' P' S' n' rq' h)
theorem wl_L_rolls_91 : Cond.constant RL 91 (-1000003) ∈ wsL_rolls := List.mem_of_getElem? (i := 3) (by decide +kernel)
set_option maxHeartbeats 4000000 in
set_option maxRecDepth 100000 in
theorem c_L_rolls_4 (l : Launch) {G : xG} {μ : xM} {I : xI} {P : xP} {n rq cn : Nat} {S : Nat → Int32} {y : Nat} (hK : lK μ) (hV : lV I P S n rq cn) (hy : y < 10000000) : Ct l yL_rolls wsL_rolls rm_L_rolls G μ I P [.ref (xZ G + 1), .ref (xZ G + 255), .ref (xZ G + 256), .ref (xZ G + 257), .ref (xZ G + 258), .ref (xZ G + 259), .ref (xZ G + 260), .int 4, .int (nI y)] 0 0 (fun vv μ' I' P' => pW μ cn vv μ' I' P') := by
  have hK0 := hK
  obtain ⟨ko, hS, ⟨kg, ng⟩, ⟨kl, nl⟩, ⟨kw, nw⟩, ⟨ku, nu⟩, ⟨kc, nc⟩, ⟨kr, nr⟩⟩ := hK
  obtain ⟨hp, ⟨st, H, tx, hO⟩, hi, hA, hcc⟩ := hV
  have hA0 := hA
  have hi0 := hi
  obtain ⟨ag, ar, at_⟩ := hA
  obtain ⟨hn20, hn, hq6, hq, hcur, hdr, h8, h9, h10, hrows⟩ := hi
  have hcn : cN S = n := by rw [cN, hn, nI_clamp (by omega)]
  have hcq : cQn S = rq := by rw [cQn, hq, nI_clamp (by omega)]
  refine Ct.of (cc := cL_rolls) (maxL := 21) (ret := (some .boolean)) [some (.ref (xZ G + 1)), some (.ref (xZ G + 255)), some (.ref (xZ G + 256)), some (.ref (xZ G + 257)), some (.ref (xZ G + 258)), some (.ref (xZ G + 259)), some (.ref (xZ G + 260)), some (.int 4), some (.int (nI y)), none, none, none, none, none, none, none, none, none, none, none, none] (by decide) rfl rfl rfl (Nat.le_of_ble_eq_true rfl) ?_
  intro X hC hD h0 _
  refine r_aload_n (pc := 0) hC dL_rolls_0 rfl ?_
  refine r_iconst (pc := 1) (v := 0) hC dL_rolls_1 (by decide) ?_
  refine r_iald (pc := 2) hC kg (xi_l (k := 0) ng (by decide) (by decide) (by decide)) dL_rolls_2 ?_
  rw [ag 0 (by decide), hn]
  refine r_if_ne (pc := 3) (tgt := 53) hC dL_rolls_3 (by decide) (fun bq3 => ?_) (fun bq3 => ?_)
  · skip
    have hn1 : ¬ nI n = 0 := bq3
    have hn1p : 0 < n := by
      rcases Nat.eq_zero_or_pos n with w | w
      · exact absurd (by rw [w]; rfl) hn1
      · exact w
    have hrow : y % n < n := Nat.mod_lt _ hn1p
    refine r_iload (pc := 53) hC dL_rolls_53 rfl ?_
    refine r_aload_n (pc := 55) hC dL_rolls_55 rfl ?_
    refine r_iconst (pc := 56) (v := 0) hC dL_rolls_56 (by decide) ?_
    refine r_iald (pc := 57) hC kg (xi_l (k := 0) ng (by decide) (by decide) (by decide)) dL_rolls_57 ?_
    rw [ag 0 (by decide), hn]
    refine r_irem (pc := 58) hC dL_rolls_58 hn1 ?_
    rw [show nI y - nI y / nI n * nI n = nI (y % n) from pk_rem (by omega) hn1p (by omega)]
    refine r_istore (pc := 59) (L' := [_, _, _, _, _, _, _, _, _, _, _, _, _, _, _, _, _, _, _, _, _]) hC dL_rolls_59 rfl (Nat.le_of_ble_eq_true rfl) rfl ?_
    refine r_iload (pc := 61) hC dL_rolls_61 rfl ?_
    refine r_if_ne (pc := 63) (tgt := 250) hC dL_rolls_63 (by decide) (fun bq63 => ?_) (fun bq => (by first | exact absurd ((by decide : ¬ (4 : Int32) = 0)) bq | exact absurd bq ((by decide : ¬ (4 : Int32) = 0))))
    refine r_iload (pc := 250) hC dL_rolls_250 rfl ?_
    refine r_iconst (pc := 252) (v := 1) hC dL_rolls_252 (by decide) ?_
    refine r_icmp_ne (pc := 253) (tgt := 521) hC dL_rolls_253 (by decide) (fun bq253 => ?_) (fun bq => (by first | exact absurd ((by decide : ¬ (4 : Int32) = 1)) bq | exact absurd bq ((by decide : ¬ (4 : Int32) = 1))))
    refine r_iload (pc := 521) hC dL_rolls_521 rfl ?_
    refine r_iconst (pc := 523) (v := 2) hC dL_rolls_523 (by decide) ?_
    refine r_icmp_ne (pc := 524) (tgt := 585) hC dL_rolls_524 (by decide) (fun bq524 => ?_) (fun bq => (by first | exact absurd ((by decide : ¬ (4 : Int32) = 2)) bq | exact absurd bq ((by decide : ¬ (4 : Int32) = 2))))
    refine r_iload (pc := 585) hC dL_rolls_585 rfl ?_
    refine r_iconst (pc := 587) (v := 3) hC dL_rolls_587 (by decide) ?_
    refine r_icmp_ne (pc := 588) (tgt := 663) hC dL_rolls_588 (by decide) (fun bq588 => ?_) (fun bq => (by first | exact absurd ((by decide : ¬ (4 : Int32) = 3)) bq | exact absurd bq ((by decide : ¬ (4 : Int32) = 3))))
    have hp2 := p20 hn20
    have hp1 : 2 ≤ 2 ^ n := by
      have z := Nat.pow_le_pow_right (show 0 < 2 by decide) hn1p
      rw [Nat.pow_one] at z; exact z
    have hx : 1 + y / 3 % (2 ^ n - 1) < 2 ^ n := by have := Nat.mod_lt (y / 3) (show 0 < 2 ^ n - 1 by omega); omega
    have hin : ¬ inSet (nI (1 + y / 3 % (2 ^ n - 1))) (S 0) = 0 := by rw [hn]; exact in_set hn20 (by omega) hx
    have e3 : nI y / 3 = nI (y / 3) := pk_div (d := 3) (by omega) (by decide) (by decide)
    refine r_iconst (pc := 663) (v := 1) hC dL_rolls_663 (by decide) ?_
    refine r_iload (pc := 664) hC dL_rolls_664 rfl ?_
    refine r_iconst (pc := 666) (v := 3) hC dL_rolls_666 (by decide) ?_
    refine r_idiv (pc := 667) hC dL_rolls_667 (by decide) ?_
    rw [e3]
    refine r_iconst (pc := 668) (v := 1) hC dL_rolls_668 (by decide) ?_
    refine r_aload_n (pc := 669) hC dL_rolls_669 rfl ?_
    refine r_iconst (pc := 670) (v := 0) hC dL_rolls_670 (by decide) ?_
    refine r_iald (pc := 671) hC kg (xi_l (k := 0) ng (by decide) (by decide) (by decide)) dL_rolls_671 ?_
    rw [ag 0 (by decide), hn]
    refine r_ishl (pc := 672) hC dL_rolls_672 ?_
    rw [b1s hn20]
    refine r_iconst (pc := 673) (v := 1) hC dL_rolls_673 (by decide) ?_
    refine r_isub (pc := 674) hC dL_rolls_674 ?_
    refine r_irem (pc := 675) hC dL_rolls_675 (by rw [show (1 : Int32) = nI 1 from rfl, pk_sub (by omega)]; exact nI_ne0 (by omega) (by omega)) ?_
    rw [show nI (2 ^ n) - 1 = nI (2 ^ n - 1) from pk_sub (b := 1) (by omega), show nI (y / 3) - nI (y / 3) / nI (2 ^ n - 1) * nI (2 ^ n - 1) = nI (y / 3 % (2 ^ n - 1)) from pk_rem (by omega) (by omega) (by omega)]
    refine r_iadd (pc := 676) hC dL_rolls_676 ?_
    rw [show (1 : Int32) + nI (y / 3 % (2 ^ n - 1)) = nI (1 + y / 3 % (2 ^ n - 1)) from nI_add 1 _]
    refine r_istore (pc := 677) (L' := [_, _, _, _, _, _, _, _, _, _, _, _, _, _, _, _, _, _, _, _, _]) hC dL_rolls_677 rfl (Nat.le_of_ble_eq_true rfl) rfl ?_
    refine r_aload_n (pc := 679) hC dL_rolls_679 rfl ?_
    refine r_iconst (pc := 680) (v := 2) hC dL_rolls_680 (by decide) ?_
    refine r_iald (pc := 681) hC kg (xi_l (k := 2) ng (by decide) (by decide) (by decide)) dL_rolls_681 ?_
    rw [ag 2 (by decide), hq]
    refine r_bipush (pc := 682) (v := 6) hC dL_rolls_682 (by decide) ?_
    refine r_icmp_ne (pc := 684) (tgt := 704) hC dL_rolls_684 (by decide) (fun bq684 => ?_) (fun bq684 => ?_)
    · skip
      have h6 : ¬ S 2 = 6 := by rw [hq]; exact bq684
      have hq5 : rq < 6 := by
        rcases Nat.lt_or_ge rq 6 with w | w
        · exact w
        · exact absurd (show nI rq = 6 by rw [show rq = 6 by omega]; rfl) bq684
      have hok : okRoute S (nI (1 + y / 3 % (2 ^ n - 1))) = true := by rw [okRoute, if_neg hin, if_neg h6]
      have hsr : sRoute S (nI (1 + y / 3 % (2 ^ n - 1))) = rtS S rq (nI (1 + y / 3 % (2 ^ n - 1))) := by rw [sRoute, if_pos hok, hq, nI_clamp (by omega), ← hq]; rfl
      have har : aRoute S (nI (1 + y / 3 % (2 ^ n - 1))) = nI rq := by rw [aRoute, if_neg hin, if_neg h6, hq]
      refine r_aload (pc := 704) hC dL_rolls_704 rfl ?_
      refine r_iconst (pc := 706) (v := 3) hC dL_rolls_706 (by decide) ?_
      refine r_aload_n (pc := 707) hC dL_rolls_707 rfl ?_
      refine r_iconst (pc := 708) (v := 2) hC dL_rolls_708 (by decide) ?_
      refine r_iald (pc := 709) hC kg (xi_l (k := 2) ng (by decide) (by decide) (by decide)) dL_rolls_709 ?_
      rw [ag 2 (by decide), hq]
      refine r_imul (pc := 710) hC dL_rolls_710 ?_
      refine r_iload (pc := 711) hC dL_rolls_711 rfl ?_
      refine r_iast (pc := 713) hC kr (xi_e (k := 3 * rq) (pk_mul 3 _) nr (by omega) (by decide)) dL_rolls_713 ?_
      refine r_aload (pc := 714) hC dL_rolls_714 rfl ?_
      refine r_iconst (pc := 716) (v := 3) hC dL_rolls_716 (by decide) ?_
      refine r_aload_n (pc := 717) hC dL_rolls_717 rfl ?_
      refine r_iconst (pc := 718) (v := 2) hC dL_rolls_718 (by decide) ?_
      refine r_iald (pc := 719) hC kg (xi_l (k := 2) ng (by decide) (by decide) (by decide)) dL_rolls_719 ?_
      rw [xu_row (b := 255) (by decide), ag 2 (by decide), hq]
      refine r_imul (pc := 720) hC dL_rolls_720 ?_
      refine r_iconst (pc := 721) (v := 1) hC dL_rolls_721 (by decide) ?_
      refine r_iadd (pc := 722) hC dL_rolls_722 ?_
      refine r_iconst (pc := 723) (v := 0) hC dL_rolls_723 (by decide) ?_
      refine r_iast (pc := 724) hC kr (xi_e (k := 3 * rq + 1) (by rw [show (3 : Int32) = nI 3 from rfl, pk_mul]; exact nI_add _ 1) nr (by omega) (by decide)) dL_rolls_724 ?_
      refine r_aload (pc := 725) hC dL_rolls_725 rfl ?_
      refine r_iconst (pc := 727) (v := 3) hC dL_rolls_727 (by decide) ?_
      refine r_aload_n (pc := 728) hC dL_rolls_728 rfl ?_
      refine r_iconst (pc := 729) (v := 2) hC dL_rolls_729 (by decide) ?_
      refine r_iald (pc := 730) hC kg (xi_l (k := 2) ng (by decide) (by decide) (by decide)) dL_rolls_730 ?_
      rw [xu_row (b := 255) (by decide), xu_row (b := 255) (by decide), ag 2 (by decide), hq]
      refine r_imul (pc := 731) hC dL_rolls_731 ?_
      refine r_iconst (pc := 732) (v := 2) hC dL_rolls_732 (by decide) ?_
      refine r_iadd (pc := 733) hC dL_rolls_733 ?_
      refine r_iconst (pc := 734) (v := 0) hC dL_rolls_734 (by decide) ?_
      refine r_iast (pc := 735) hC kr (xi_e (k := 3 * rq + 2) (by rw [show (3 : Int32) = nI 3 from rfl, pk_mul]; exact nI_add _ 2) nr (by omega) (by decide)) dL_rolls_735 ?_
      refine r_aload_n (pc := 736) hC dL_rolls_736 rfl ?_
      refine r_iconst (pc := 737) (v := 2) hC dL_rolls_737 (by decide) ?_
      refine r_dup2 (pc := 738) hC dL_rolls_738 rfl rfl ?_
      refine r_iald (pc := 739) hC kg (xi_l (k := 2) ng (by decide) (by decide) (by decide)) dL_rolls_739 ?_
      rw [xu_row (b := 255) (by decide), xu_row (b := 255) (by decide), xu_row (b := 255) (by decide), ag 2 (by decide), hq]
      refine r_iconst (pc := 740) (v := 1) hC dL_rolls_740 (by decide) ?_
      refine r_iadd (pc := 741) hC dL_rolls_741 ?_
      rw [nI_1]
      refine r_iast (pc := 742) hC kg (xi_l (k := 2) ng (by decide) (by decide) (by decide)) dL_rolls_742 ?_
      refine r_aload_n (pc := 743) hC dL_rolls_743 rfl ?_
      refine r_iload (pc := 744) hC dL_rolls_744 rfl ?_
      obtain ⟨g1, g2⟩ := oR_law (J := (xu (xu (xu (xu I 260 (3 * rq) (nI (1 + y / 3 % (2 ^ n - 1)))) 260 (3 * rq + 1) 0) 260 (3 * rq + 2) 0) 255 2 (nI (rq + 1)))) (Q := P) hp hi0 hO (fun c hc => by rw [xu_row (by omega), xu_row (by omega), xu_row (by omega), xu_row (by omega)]) (fun c hc => rfl)
      obtain ⟨z1, z2⟩ := lA_rt hA0 hi0 hcc hx
      refine k_X4_route (pc := 746) hC gL_rolls_X4_route ⟨Nat.le_of_ble_eq_true rfl, Nat.le_of_ble_eq_true rfl⟩ ko hS g1 g2 hi0 (Nat.le_of_ble_eq_true rfl) rfl ⟨Nat.zero_le _, Nat.zero_le _⟩ dL_rolls_746 ?_
      intro J746 Q746 rP746 rT746 rN746 rF746
      refine r_aload_n (pc := 749) hC dL_rolls_749 rfl ?_
      refine r_iconst (pc := 750) (v := 2) hC dL_rolls_750 (by decide) ?_
      refine r_iald (pc := 751) hC kg (xi_l (k := 2) ng (by decide) (by decide) (by decide)) dL_rolls_751 ?_
      rw [(rF746 255 (by decide)).1, xu_at]
      refine r_iconst (pc := 752) (v := 1) hC dL_rolls_752 (by decide) ?_
      refine r_isub (pc := 753) hC dL_rolls_753 ?_
      rw [nI_pred]
      refine r_icmp_ne (pc := 754) (tgt := 761) hC dL_rolls_754 (by decide) (fun bq => (by first | exact absurd (har) bq | exact absurd bq (har))) (fun bq754 => ?_)
      refine r_iconst (pc := 757) (v := 1) hC dL_rolls_757 (by decide) ?_
      refine r_goto (pc := 758) (tgt := 762) hC dL_rolls_758 (by decide) ?_
      refine r_iret (pc := 762) hC hD rfl dL_rolls_762 rfl ?_
      exact ⟨rfl, rfl, rtS S rq (nI (1 + y / 3 % (2 ^ n - 1))), n, rq + 1, rP746, ⟨_, _, _, by rw [← hsr]; exact rT746 hok⟩, by rw [← hsr]; exact inv_route hi0 hok, lA_cong z1 (fun c h1 h2 => (rF746 c (by omega)).1) (rF746 259 (by decide)).2, z2⟩
    · skip
      have h6 : S 2 = 6 := by rw [hq]; exact bq684
      have hnk : okRoute S (nI (1 + y / 3 % (2 ^ n - 1))) = false := by rw [okRoute, if_neg hin, if_pos h6]
      refine r_aload_n (pc := 687) hC dL_rolls_687 rfl ?_
      refine r_iload (pc := 688) hC dL_rolls_688 rfl ?_
      refine k_X4_route (pc := 690) hC gL_rolls_X4_route ⟨Nat.le_of_ble_eq_true rfl, Nat.le_of_ble_eq_true rfl⟩ ko hS hp hO hi0 (Nat.le_of_ble_eq_true rfl) rfl ⟨Nat.zero_le _, Nat.zero_le _⟩ dL_rolls_690 ?_
      intro J690 Q690 rP690 rT690 rN690 rF690
      rw [show aRoute S (nI (1 + y / 3 % (2 ^ n - 1))) = -1000003 from by rw [aRoute, if_neg hin, if_pos h6]]
      refine r_ldc (pc := 693) (v := -1000003) hC dL_rolls_693 wl_L_rolls_91 ?_
      refine r_icmp_ne (pc := 695) (tgt := 702) hC dL_rolls_695 (by decide) (fun bq => (by first | exact absurd (rfl) bq | exact absurd bq (rfl))) (fun bq695 => ?_)
      refine r_iconst (pc := 698) (v := 1) hC dL_rolls_698 (by decide) ?_
      refine r_goto (pc := 699) (tgt := 703) hC dL_rolls_699 (by decide) ?_
      refine r_iret (pc := 703) hC hD rfl dL_rolls_703 rfl ?_
      exact ⟨rfl, rfl, S, n, rq, rP690, ⟨_, _, _, rN690 hnk⟩, hi0, lA_cong hA0 (fun c h1 h2 => (rF690 c (by omega)).1) (rF690 259 (by decide)).2, lC_keep hcc rfl rfl (fun _ _ => rfl) (Nat.le_refl n)⟩
  · skip
    have hn0 : n = 0 := (nI_eq (b := 0) (by omega) (by decide)).mp bq3
    have hS0 : S 0 = 0 := by rw [hn, hn0]; rfl
    obtain ⟨⟨c1, c2⟩, ⟨m1, m2⟩, ⟨k1, k2⟩, r1, r2⟩ := r_empty hS0
    refine r_aload_n (pc := 6) hC dL_rolls_6 rfl ?_
    refine r_iconst (pc := 7) (v := 0) hC dL_rolls_7 (by decide) ?_
    refine k_X4_cut (pc := 8) hC gL_rolls_X4_cut ⟨Nat.le_of_ble_eq_true rfl, Nat.le_of_ble_eq_true rfl⟩ ko hS hp hO hi0 (Nat.le_of_ble_eq_true rfl) rfl ⟨Nat.zero_le _, Nat.zero_le _⟩ dL_rolls_8 ?_
    intro J8 Q8 rP8 rT8 rN8 rF8
    rw [c2]
    refine r_ldc (pc := 11) (v := -1000001) hC dL_rolls_11 wl_L_rolls_71 ?_
    refine r_icmp_ne (pc := 13) (tgt := 51) hC dL_rolls_13 (by decide) (fun bq => (by first | exact absurd (rfl) bq | exact absurd bq (rfl))) (fun bq13 => ?_)
    refine r_aload_n (pc := 16) hC dL_rolls_16 rfl ?_
    refine r_iconst (pc := 17) (v := 0) hC dL_rolls_17 (by decide) ?_
    refine k_X4_mend (pc := 18) hC gL_rolls_X4_mend ⟨Nat.le_of_ble_eq_true rfl, Nat.le_of_ble_eq_true rfl⟩ ko hS rP8 (rN8 c1) hi0 (Nat.le_of_ble_eq_true rfl) rfl ⟨Nat.zero_le _, Nat.zero_le _⟩ dL_rolls_18 ?_
    intro J18 Q18 rP18 rT18 rN18 rF18
    rw [m2]
    refine r_ldc (pc := 21) (v := -1000001) hC dL_rolls_21 wl_L_rolls_71 ?_
    refine r_icmp_ne (pc := 23) (tgt := 51) hC dL_rolls_23 (by decide) (fun bq => (by first | exact absurd (rfl) bq | exact absurd bq (rfl))) (fun bq23 => ?_)
    refine r_aload_n (pc := 26) hC dL_rolls_26 rfl ?_
    refine r_iconst (pc := 27) (v := 1) hC dL_rolls_27 (by decide) ?_
    refine r_iconst (pc := 28) (v := 1) hC dL_rolls_28 (by decide) ?_
    refine k_X4_crank (pc := 29) hC gL_rolls_X4_crank ⟨Nat.le_of_ble_eq_true rfl, Nat.le_of_ble_eq_true rfl⟩ ko hS rP18 (rN18 m1) hi0 (Nat.le_of_ble_eq_true rfl) rfl ⟨Nat.zero_le _, Nat.zero_le _⟩ dL_rolls_29 ?_
    intro J29 Q29 rP29 rT29 rN29 rF29
    rw [k2]
    refine r_ldc (pc := 32) (v := -1000002) hC dL_rolls_32 wl_L_rolls_64 ?_
    refine r_icmp_ne (pc := 34) (tgt := 51) hC dL_rolls_34 (by decide) (fun bq => (by first | exact absurd (rfl) bq | exact absurd bq (rfl))) (fun bq34 => ?_)
    refine r_aload_n (pc := 37) hC dL_rolls_37 rfl ?_
    refine r_iconst (pc := 38) (v := 1) hC dL_rolls_38 (by decide) ?_
    refine k_X4_route (pc := 39) hC gL_rolls_X4_route ⟨Nat.le_of_ble_eq_true rfl, Nat.le_of_ble_eq_true rfl⟩ ko hS rP29 (rN29 k1) hi0 (Nat.le_of_ble_eq_true rfl) rfl ⟨Nat.zero_le _, Nat.zero_le _⟩ dL_rolls_39 ?_
    intro J39 Q39 rP39 rT39 rN39 rF39
    rw [r2]
    refine r_ldc (pc := 42) (v := -1000001) hC dL_rolls_42 wl_L_rolls_71 ?_
    refine r_icmp_ne (pc := 44) (tgt := 51) hC dL_rolls_44 (by decide) (fun bq => (by first | exact absurd (rfl) bq | exact absurd bq (rfl))) (fun bq44 => ?_)
    refine r_iconst (pc := 47) (v := 1) hC dL_rolls_47 (by decide) ?_
    refine r_goto (pc := 48) (tgt := 52) hC dL_rolls_48 (by decide) ?_
    refine r_iret (pc := 52) hC hD rfl dL_rolls_52 rfl ?_
    exact ⟨rfl, rfl, S, n, rq, rP39, ⟨_, _, _, rN39 r1⟩, hi0, lA_cong hA0 (fun c h1 h2 => by rw [(rF39 c (by omega)).1, (rF29 c (by omega)).1, (rF18 c (by omega)).1]; exact (rF8 c (by omega)).1) (by rw [(rF39 259 (by decide)).2, (rF29 259 (by decide)).2, (rF18 259 (by decide)).2]; exact (rF8 259 (by decide)).2), lC_keep hcc rfl rfl (fun _ _ => rfl) (Nat.le_refl n)⟩
theorem k_L_rolls_4 {X : xF} {G : xG} {cs : Nat × Nat} {μ : xM} {I : xI} {P : xP} {L : List (Option Value)} {pc : Nat} {rest : List Value} {cc : ByteArray} {Ts : List Cond} {own : String} {nL : Nat} {R : Room} (hC : xC X G cc Ts own nL R) {index : Nat} (hG : GoodIn Ts (va_wsS own index yL_rolls wsL_rolls)) (hR : rm_L_rolls.frames + 1 ≤ R.frames ∧ 8 + (21 + 11) + rm_L_rolls.locals ≤ R.locals) {n rq cn : Nat} {S : Nat → Int32} {y : Nat} (hK : lK μ) (hV : lV I P S n rq cn) (hy : y < 10000000) (hW : (rest.map fun v => v.category).sum ≤ 8) (hL : L.length = nL) (hcs : cs.1 ≤ R.cells ∧ cs.2 ≤ R.slots) (hdec : decode cc pc = .ok (.invokestatic index, 3)) (kk : ∀ (I' : xI) (P' : xP) (S' : Nat → Int32) (n' rq' : Nat), lV I' P' S' n' rq' (cn + 1) → xg X G cs μ I' P' L (pc + 3) (.int 1 :: rest)) : xg X G cs μ I P L pc (.int (nI y) :: .int 4 :: .ref (xZ G + 260) :: .ref (xZ G + 259) :: .ref (xZ G + 258) :: .ref (xZ G + 257) :: .ref (xZ G + 256) :: .ref (xZ G + 255) :: .ref (xZ G + 1) :: rest) :=
  r_callS hC (c_L_rolls_4 X.2.1 hK hV hy) hG rfl rfl rfl hd_L_rolls.2 hR rfl rfl hW hL hcs hdec (by rintro vv μ' I' P' ⟨rfl, rfl, S', n', rq', h⟩; exact kk I' P' S' n' rq' h)
