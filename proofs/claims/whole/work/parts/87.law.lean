/-! the law's loop -/
theorem oS_far {μ μ' : xM} {h : Nat} (hs : oS μ h) (hc : ∀ c, h ≤ c → c < h + 254 → μ'.2.1 c = μ.2.1 c ∧ μ'.2.2 c = μ.2.2 c) : oS μ' h := by
  obtain ⟨s1, s2, s3, s4, s5⟩ := hs
  exact ⟨by rw [(hc _ (by omega) (by omega)).1]; exact s1, ⟨by rw [(hc _ (by omega) (by omega)).1]; exact s2.1, by rw [(hc _ (by omega) (by omega)).2]; exact s2.2⟩, bS_cong s3 (fun c h1 h2 => hc c (by omega) (by omega)), ⟨by rw [(hc _ (by omega) (by omega)).1]; exact s4.1, by rw [(hc _ (by omega) (by omega)).2]; exact s4.2⟩, fun i hi => bS_cong (s5 i hi) (fun c h1 h2 => hc c (by omega) (by omega))⟩
theorem oP_far {P Q : xP} {h : Nat} (hp : oP P h) (hc : ∀ c, h ≤ c → c < h + 254 → Q c = P c) : oP Q h := by
  obtain ⟨p0, p1, p2, p3, p4, p5, p, hpp, hinj⟩ := hp
  exact ⟨by rw [hc _ (by omega) (by omega)]; exact p0, by rw [hc _ (by omega) (by omega)]; exact p1, by rw [hc _ (by omega) (by omega)]; exact p2, by rw [hc _ (by omega) (by omega)]; exact p3, bP_cong p4 (fun c h1 h2 => hc c (by omega) (by omega)), fun i hi => bP_cong (p5 i hi) (fun c h1 h2 => hc c (by omega) (by omega)), p, fun i hi => by rw [hc _ (by omega) (by omega)]; exact hpp i hi, hinj⟩
theorem oR_farP {I : xI} {P Q : xP} {h n q st t : Nat} {S tx : Nat → Int32} {H : Nat → Nat → Int32} (hp : oP P h) (hi : invN S n q) (hr : oR I P h S n q st H t tx) (hc : ∀ c, h ≤ c → c < h + 254 → Q c = P c) : oR I Q h S n q st H t tx := by
  obtain ⟨p0, p1, p2, p3, p4, p5, p, hpp, hinj⟩ := hp
  obtain ⟨r1, r2, r3, r4, r5⟩ := hr
  refine ⟨bR_cong p4 hi.1 hi.2.2.1 r1 (fun c _ _ => rfl) (fun c k1 k2 => hc c (by omega) (by omega)), r2, fun k hk => ?_, r4, r5⟩
  obtain ⟨n1, q1, h1, h2⟩ := r3 k hk
  obtain ⟨g1, g2⟩ := hpp k (by omega)
  refine ⟨n1, q1, h1, ?_⟩
  rw [hc _ (by omega) (by omega)]
  rw [g2] at h2 ⊢
  exact bR_cong (p5 _ g1) h1.1 h1.2.2.1 h2 (fun c _ _ => rfl) (fun c k1 k2 => hc c (by omega) (by omega))
/-- one more call fits into the script -/
theorem fits4 {N k : Nat} (hN : N ≤ 2048) (hk : 4 * k ≤ 2052) : (nI N - 4 < nI (4 * k)) ↔ ¬ 4 * k + 4 ≤ N := by
  rw [Int32.lt_iff_toInt_lt, show nI N - 4 = nI N - nI 4 from rfl, pk_sub_toInt (by omega) (by omega), nI_toInt (by omega)]
  omega
set_option maxHeartbeats 4000000 in
set_option maxRecDepth 100000 in
/-- from the loop's head to the law's end with true; hE: the end -/
theorem law_loop {X : xF} {G : xG} {μ : xM} {b N : Nat} {xs : Nat → Int32} (hC : xC X G cL_law wsL_law RL 4 room_1) (hX : va_X b N xs X.2.2.2.2.1 X.2.2.2.2.1.heap) (hbl : b < X.2.2.2.2.1.heap.size) (hbA : ¬ xA G b) (hN : N ≤ 2048) (hs : oS μ 1) (kh : μ.2.1 1 = 5) (hE : ∀ (I : xI) (P : xP) (L : List (Option Value)), xg X G (259, 4447) μ I P L 706 [.int 1]) : ∀ (w k : Nat), k + w = 513 → ∀ (I : xI) (P : xP), wL μ I P → xg X G (259, 4447) μ I P [some (.ref b), some (.ref (xZ G + 1)), some (.ref (xZ G + 255)), some (.int (nI (4 * k)))] 18 [] := by
  intro w
  induction w with
  | zero =>
    intro k hk I P hW
    refine r_iload_n (pc := 18) hC dL_law_18 rfl ?_
    refine r_aload_n (pc := 19) hC dL_law_19 rfl ?_
    refine r_scl (pc := 20) hC hX hbl hbA dL_law_20 ?_
    refine r_iconst (pc := 21) (v := 4) hC dL_law_21 (by decide) ?_
    refine r_isub (pc := 22) hC dL_law_22 ?_
    refine r_icmp_gt (pc := 23) (tgt := 705) hC dL_law_23 (by decide) (fun _ => ?_) (fun c => absurd ((fits4 hN (by omega)).mpr (by omega)) c)
    refine r_iconst (pc := 705) (v := 1) hC dL_law_705 (by decide) ?_
    exact hE _ _ _
  | succ w ih =>
    intro k hk I P hW
    refine r_iload_n (pc := 18) hC dL_law_18 rfl ?_
    refine r_aload_n (pc := 19) hC dL_law_19 rfl ?_
    refine r_scl (pc := 20) hC hX hbl hbA dL_law_20 ?_
    refine r_iconst (pc := 21) (v := 4) hC dL_law_21 (by decide) ?_
    refine r_isub (pc := 22) hC dL_law_22 ?_
    refine r_icmp_gt (pc := 23) (tgt := 705) hC dL_law_23 (by decide) (fun _ => ?_) (fun c => ?_)
    · refine r_iconst (pc := 705) (v := 1) hC dL_law_705 (by decide) ?_
      exact hE _ _ _
    · have hfit : 4 * k + 3 < N := by
        have h9 : ¬ ¬ (4 * k + 4 ≤ N) := fun h => c ((fits4 (k := k) hN (by omega)).mpr h)
        omega
      have hG : ∀ (I : xI) (P : xP), wL μ I P → xg X G (259, 4447) μ I P [some (.ref b), some (.ref (xZ G + 1)), some (.ref (xZ G + 255)), some (.int (nI (4 * k)))] 699 [] := fun I P hW => by
        refine r_iinc (pc := 699) (v := 4) (L' := [_, _, _, _]) hC dL_law_699 rfl (by decide) rfl rfl ?_
        refine r_goto (pc := 702) (tgt := 18) hC dL_law_702 (by decide) ?_
        have z := ih (k + 1) (by omega) I P hW
        rw [show 4 * (k + 1) = 4 * k + 4 by omega, ← nI_add (4 * k) 4] at z
        exact z
      refine r_aload_n (pc := 26) hC dL_law_26 rfl ?_
      refine r_iload_n (pc := 27) hC dL_law_27 rfl ?_
      refine r_sld (pc := 28) (k := 4 * k) hC hX hbl hbA (xi_n (by omega) (by omega)) dL_law_28 ?_
      refine r_bipush (pc := 29) (v := 31) hC dL_law_29 (by decide) ?_
      refine r_iand (pc := 31) hC dL_law_31 ?_
      obtain ⟨j, hj, ej⟩ := pk_andE (xs (4 * k)) (m := 31) 5 (by decide)
      rw [ej]
      rcases Nat.lt_or_ge j 23 with hj23 | hj23
      · have hc : j = 0 ∨ j = 1 ∨ j = 2 ∨ j = 3 ∨ j = 4 ∨ j = 5 ∨ j = 6 ∨ j = 7 ∨ j = 8 ∨ j = 9 ∨ j = 10 ∨ j = 11 ∨ j = 12 ∨ j = 13 ∨ j = 14 ∨ j = 15 ∨ j = 16 ∨ j = 17 ∨ j = 18 ∨ j = 19 ∨ j = 20 ∨ j = 21 ∨ j = 22 := by omega
        rcases hc with rfl | rfl | rfl | rfl | rfl | rfl | rfl | rfl | rfl | rfl | rfl | rfl | rfl | rfl | rfl | rfl | rfl | rfl | rfl | rfl | rfl | rfl | rfl
        · refine r_tableIn (pc := 32) (off := 108) (tgt := 140) hC dL_law_32 (by decide) (by decide) rfl (by decide) ?_
          exact law_add hC hX hbl hbA hN hs kh hfit hG hW
        · refine r_tableIn (pc := 32) (off := 121) (tgt := 153) hC dL_law_32 (by decide) (by decide) rfl (by decide) ?_
          exact law_cut hC hX hbl hbA hN hs kh hfit hG hW
        · refine r_tableIn (pc := 32) (off := 144) (tgt := 176) hC dL_law_32 (by decide) (by decide) rfl (by decide) ?_
          exact law_swap hC hX hbl hbA hN hs kh hfit hG hW
        · refine r_tableIn (pc := 32) (off := 177) (tgt := 209) hC dL_law_32 (by decide) (by decide) rfl (by decide) ?_
          exact law_mend hC hX hbl hbA hN hs kh hfit hG hW
        · refine r_tableIn (pc := 32) (off := 200) (tgt := 232) hC dL_law_32 (by decide) (by decide) rfl (by decide) ?_
          exact law_crank hC hX hbl hbA hN hs kh hfit hG hW
        · refine r_tableIn (pc := 32) (off := 233) (tgt := 265) hC dL_law_32 (by decide) (by decide) rfl (by decide) ?_
          exact law_route hC hX hbl hbA hN hs kh hfit hG hW
        · refine r_tableIn (pc := 32) (off := 256) (tgt := 288) hC dL_law_32 (by decide) (by decide) rfl (by decide) ?_
          exact law_drive hC hX hbl hbA hN hs kh hfit hG hW
        · refine r_tableIn (pc := 32) (off := 279) (tgt := 311) hC dL_law_32 (by decide) (by decide) rfl (by decide) ?_
          exact law_stop hC hX hbl hbA hN hs kh hfit hG hW
        · refine r_tableIn (pc := 32) (off := 292) (tgt := 324) hC dL_law_32 (by decide) (by decide) rfl (by decide) ?_
          exact law_set hC hX hbl hbA hN hs kh hfit hG hW
        · refine r_tableIn (pc := 32) (off := 325) (tgt := 357) hC dL_law_32 (by decide) (by decide) rfl (by decide) ?_
          exact law_rowOf hC hX hbl hbA hN hs kh hfit hG hW
        · refine r_tableIn (pc := 32) (off := 358) (tgt := 390) hC dL_law_32 (by decide) (by decide) rfl (by decide) ?_
          exact law_letter hC hX hbl hbA hN hs kh hfit hG hW
        · refine r_tableIn (pc := 32) (off := 391) (tgt := 423) hC dL_law_32 (by decide) (by decide) rfl (by decide) ?_
          exact law_routeOf hC hX hbl hbA hN hs kh hfit hG hW
        · refine r_tableIn (pc := 32) (off := 424) (tgt := 456) hC dL_law_32 (by decide) (by decide) rfl (by decide) ?_
          exact law_would hC hX hbl hbA hN hs kh hfit hG hW
        · refine r_tableIn (pc := 32) (off := 467) (tgt := 499) hC dL_law_32 (by decide) (by decide) rfl (by decide) ?_
          exact law_nearest hC hX hbl hbA hN hs kh hfit hG hW
        · refine r_tableIn (pc := 32) (off := 490) (tgt := 522) hC dL_law_32 (by decide) (by decide) rfl (by decide) ?_
          exact law_alike hC hX hbl hbA hN hs kh hfit hG hW
        · refine r_tableIn (pc := 32) (off := 523) (tgt := 555) hC dL_law_32 (by decide) (by decide) rfl (by decide) ?_
          exact law_read hC hX hbl hbA hN hs kh hfit hG hW
        · refine r_tableIn (pc := 32) (off := 546) (tgt := 578) hC dL_law_32 (by decide) (by decide) rfl (by decide) ?_
          exact law_find hC hX hbl hbA hN hs kh hfit hG hW
        · refine r_tableIn (pc := 32) (off := 559) (tgt := 591) hC dL_law_32 (by decide) (by decide) rfl (by decide) ?_
          exact law_mean hC hX hbl hbA hN hs kh hfit hG hW
        · refine r_tableIn (pc := 32) (off := 572) (tgt := 604) hC dL_law_32 (by decide) (by decide) rfl (by decide) ?_
          exact law_count hC hX hbl hbA hN hs kh hfit hG hW
        · refine r_tableIn (pc := 32) (off := 595) (tgt := 627) hC dL_law_32 (by decide) (by decide) rfl (by decide) ?_
          exact law_undo hC hX hbl hbA hN hs kh hfit hG hW
        · refine r_tableIn (pc := 32) (off := 608) (tgt := 640) hC dL_law_32 (by decide) (by decide) rfl (by decide) ?_
          exact law_type hC hX hbl hbA hN hs kh hfit hG hW
        · refine r_tableIn (pc := 32) (off := 631) (tgt := 663) hC dL_law_32 (by decide) (by decide) rfl (by decide) ?_
          exact law_clearText hC hX hbl hbA hN hs kh hfit hG hW
        · refine r_tableIn (pc := 32) (off := 644) (tgt := 676) hC dL_law_32 (by decide) (by decide) rfl (by decide) ?_
          exact law_fault hC hX hbl hbA hN hs kh hfit hG hW
      · refine r_tableOut (pc := 32) (tgt := 699) hC dL_law_32 (Or.inr (by rw [nI_toInt (by omega)]; omega)) (by decide) ?_
        exact hG _ _ hW
