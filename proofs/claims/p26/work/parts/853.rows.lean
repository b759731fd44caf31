theorem ro_out {S : Nat → Int32} {n q : Nat} (hi : invN S n q) : aRowOf S (nI n) 0 = -1000001 ∧ aRowOf S (-1) 0 = -1000001 ∧ aLetter S (nI n) 0 = -1000001 := by
  have hn := hi.2.1
  have hn20 := hi.1
  have h1 : isR (nI n) (S 0) = 0 := by rw [hn]; exact isR_out (Nat.le_refl n) (by omega)
  have h2 : isR (-1) (S 0) = 0 := by rw [isR, if_pos (by decide)]
  exact ⟨by rw [aRowOf, if_pos h1], by rw [aRowOf, if_pos h2], by rw [aLetter, if_pos h1]⟩
theorem ro_ok {S : Nat → Int32} {n q k : Nat} (hi : invN S n q) (hk : k < n) : aRowOf S (nI k) 0 = S (11 + 17 * k) ∧ aRowOf S (nI k) 1 = sWid S k ∧ aRowOf S (nI k) 2 = sq (S 8) (sWid S k) ∧ aRowOf S (nI k) 3 = sKind S k ∧ aRowOf S (nI k) 4 = S (12 + 17 * k) ∧ aRowOf S (nI k) 5 = S (13 + 17 * k) ∧ aRowOf S (nI k) 6 = rset (fun j => S (351 + 3 * j)) (nI k) q ∧ aRowOf S (nI k) 7 = (if S 1 = nI k then 1 else 0) ∧ aRowOf S (nI k) 8 = -1000001 := by
  have hn := hi.2.1
  have hn20 := hi.1
  have hq6 := hi.2.2.1
  have hq := hi.2.2.2.1
  have h1 : ¬ isR (nI k) (S 0) = 0 := by rw [hn, isR_nI hk (by omega)]; decide
  have hc : (nI k).toNatClampNeg = k := nI_clamp (by omega)
  have hcq : (S 2).toNatClampNeg = q := by rw [hq, nI_clamp (by omega)]
  refine ⟨?_, ?_, ?_, ?_, ?_, ?_, ?_, ?_, ?_⟩ <;> rw [aRowOf, if_neg h1]
  · rw [if_neg (by decide), if_pos rfl, hc]
  · rw [if_neg (by decide), if_neg (by decide), if_pos rfl, hc]
  · rw [if_neg (by decide), if_neg (by decide), if_neg (by decide), if_pos rfl, hc]
  · rw [if_neg (by decide), if_neg (by decide), if_neg (by decide), if_neg (by decide), if_pos rfl, hc]
  · rw [if_neg (by decide), if_neg (by decide), if_neg (by decide), if_neg (by decide), if_neg (by decide), if_pos rfl, hc]
  · rw [if_neg (by decide), if_neg (by decide), if_neg (by decide), if_neg (by decide), if_neg (by decide), if_neg (by decide), if_pos rfl, hc]
  · rw [if_neg (by decide), if_neg (by decide), if_neg (by decide), if_neg (by decide), if_neg (by decide), if_neg (by decide), if_neg (by decide), if_pos rfl, hcq]
  · rw [if_neg (by decide), if_neg (by decide), if_neg (by decide), if_neg (by decide), if_neg (by decide), if_neg (by decide), if_neg (by decide), if_neg (by decide)]
  · rw [if_pos (by decide)]
theorem le_out {S : Nat → Int32} {n q k : Nat} (hi : invN S n q) (hk : k < n) : aLetter S (nI k) (-1) = -1000001 := by
  have hn := hi.2.1
  have hn20 := hi.1
  rw [aLetter, if_neg (by rw [hn, isR_nI hk (by omega)]; decide), if_neg (by decide)]
theorem le_ok {S : Nat → Int32} {n q r j : Nat} (hi : invN S n q) (hr : r < n) (hj : j < 15) : (sLen S r ≤ j → aLetter S (nI r) (nI j) = -1000004) ∧ (j < sLen S r → aLetter S (nI r) (nI j) = sLet S r j) := by
  have hn := hi.2.1
  have hn20 := hi.1
  obtain ⟨h1, h2, h3⟩ := row_len hi hr
  have h4 : ¬ isR (nI r) (S 0) = 0 := by rw [hn, isR_nI hr (by omega)]; decide
  refine ⟨fun h => ?_, fun h => ?_⟩
  · rw [aLetter, if_neg h4, if_pos (nI_pos' (by omega)), nI_clamp (by omega), h1, if_pos (nI_le h (by omega))]
  · rw [aLetter, if_neg h4, if_pos (nI_pos' (by omega)), nI_clamp (show r < 2 ^ 31 by omega), h1, if_neg (nI_ge h (by omega)), nI_clamp (by omega)]; rfl
theorem ct_ok {S : Nat → Int32} {ps ty : Int32} : aCount S ps ty 0 = S 0 ∧ aCount S ps ty 1 = (if 0 ≤ S 1 then S 1 else -1000004) ∧ aCount S ps ty 2 = S 2 ∧ aCount S ps ty 3 = (if 0 ≤ S 3 then S 3 else -1000004) ∧ aCount S ps ty 4 = tset (fun r => S (13 + 17 * r)) (S 0).toNatClampNeg ∧ aCount S ps ty 5 = S 4 ∧ aCount S ps ty 6 = S 5 ∧ aCount S ps ty 7 = S 6 ∧ aCount S ps ty 8 = S 7 ∧ aCount S ps ty 9 = aWrong S ∧ aCount S ps ty 10 = (wid1 (sWid S) (S 0).toNatClampNeg).1 ∧ aCount S ps ty 12 = ty ∧ aCount S ps ty 20 = S 8 ∧ aCount S ps ty 21 = S 9 ∧ aCount S ps ty 22 = S 10 ∧ aCount S ps ty 13 = -1000001 ∧ aCount S ps ty 19 = -1000001 ∧ aCount S ps ty 23 = -1000001 := by
  refine ⟨?_, ?_, ?_, ?_, ?_, ?_, ?_, ?_, ?_, ?_, ?_, ?_, ?_, ?_, ?_, ?_, ?_, ?_⟩ <;> rfl
abbrev rm_L_areRows : Room := { frames := 8, cells := 0, slots := 0, locals := 170 }
theorem wl_L_areRows_60 : Cond.constant RL 60 (-1000004) ∈ wsL_areRows := List.mem_of_getElem? (i := 2) (by decide +kernel)
theorem wl_L_areRows_71 : Cond.constant RL 71 (-1000001) ∈ wsL_areRows := List.mem_of_getElem? (i := 1) (by decide +kernel)
theorem hd_L_areRows : yL_areRows.cls = RL ∧ yL_areRows.cls ≠ "java/lang/invoke/MethodHandle" ∧ yL_areRows.cls ≠ "java/lang/invoke/VarHandle" ∧ (parseMethodDescriptor yL_areRows.desc).map (fun d => d.parameters.length) = some 7 := ⟨rfl, by decide +kernel, by decide +kernel, by decide +kernel⟩
set_option maxHeartbeats 4000000 in
set_option maxRecDepth 100000 in
theorem c_L_areRows (l : Launch) {G : xG} {μ : xM} {I : xI} {P : xP} {n rq cn : Nat} {S : Nat → Int32}  (hK : lK μ) (hV : lV I P S n rq cn) (hcb : cn < 1000000) : Ct l yL_areRows wsL_areRows rm_L_areRows G μ I P [.ref (xZ G + 1), .ref (xZ G + 255), .ref (xZ G + 256), .ref (xZ G + 257), .ref (xZ G + 258), .ref (xZ G + 259), .ref (xZ G + 260)] 0 0 (fun vv μ' I' P' => vv = some (.int (1)) ∧ μ' = μ ∧ I' = (I) ∧ P' = (P)) := by
  have hK0 := hK
  have hV0 := hV
  obtain ⟨ko, hS, ⟨kg, ng⟩, ⟨kl, nl⟩, ⟨kw, nw⟩, ⟨ku, nu⟩, ⟨kc, nc⟩, ⟨kr, nr⟩⟩ := hK
  obtain ⟨hp, ⟨st, H, tx, hO⟩, hi, hA, hcc⟩ := hV
  have hA0 := hA
  have hi0 := hi
  obtain ⟨ag, ar, at_⟩ := hA
  obtain ⟨hn20, hn, hq6, hq, hcur, hdr, h8, h9, h10, hrows⟩ := hi
  have hcn : cN S = n := by rw [cN, hn, nI_clamp (by omega)]
  have hcq : cQn S = rq := by rw [cQn, hq, nI_clamp (by omega)]
  obtain ⟨t1, t2, t3⟩ := ro_out hi0
  refine Ct.of (cc := cL_areRows) (maxL := 15) (ret := (some .boolean)) [some (.ref (xZ G + 1)), some (.ref (xZ G + 255)), some (.ref (xZ G + 256)), some (.ref (xZ G + 257)), some (.ref (xZ G + 258)), some (.ref (xZ G + 259)), some (.ref (xZ G + 260)), none, none, none, none, none, none, none, none] (by decide) rfl rfl rfl (Nat.le_of_ble_eq_true rfl) ?_
  intro X hC hD h0 _
  have lp3 : ∀ (q k : Nat), k + q = 15 → ∀ (row : Nat) (x8 x9 x10 x12 : Option Value) (y13 : Int32), row < n → (∀ x14, xg X G (0, 0) μ I P [some (.ref (xZ G + 1)), some (.ref (xZ G + 255)), some (.ref (xZ G + 256)), some (.ref (xZ G + 257)), some (.ref (xZ G + 258)), some (.ref (xZ G + 259)), some (.ref (xZ G + 260)), some (.int 1), x8, x9, x10, some (.int (nI row)), x12, some (.int y13), x14] 385 []) → xg X G (0, 0) μ I P [some (.ref (xZ G + 1)), some (.ref (xZ G + 255)), some (.ref (xZ G + 256)), some (.ref (xZ G + 257)), some (.ref (xZ G + 258)), some (.ref (xZ G + 259)), some (.ref (xZ G + 260)), some (.int 1), x8, x9, x10, some (.int (nI row)), x12, some (.int y13), some (.int (nI k))] 326 [] := by
    intro q
    induction q with
    | zero =>
      intro k hk row x8 x9 x10 x12 y13 hrw kk
      refine r_iload (pc := 326) hC dL_areRows_326 rfl ?_
      refine r_bipush (pc := 328) (v := 15) hC dL_areRows_328 (by decide) ?_
      refine r_icmp_ge (pc := 330) (tgt := 385) hC dL_areRows_330 (by decide) (fun bq330 => ?_) (fun bq330 => ?_)
      · skip
        exact kk _
      · skip
        exact absurd (nI_le (b := k) (a := 15) (by omega) (by omega)) bq330
    | succ q ih =>
      intro k hk row x8 x9 x10 x12 y13 hrw kk
      refine r_iload (pc := 326) hC dL_areRows_326 rfl ?_
      refine r_bipush (pc := 328) (v := 15) hC dL_areRows_328 (by decide) ?_
      refine r_icmp_ge (pc := 330) (tgt := 385) hC dL_areRows_330 (by decide) (fun bq330 => ?_) (fun bq330 => ?_)
      · skip
        exact absurd bq330 (nI_ge (b := 15) (by omega) (by decide))
      · skip
        refine r_iload (pc := 333) hC dL_areRows_333 rfl ?_
        refine r_if_eq (pc := 335) (tgt := 385) hC dL_areRows_335 (by decide) (fun bq => (by first | exact absurd ((by decide : ¬ (1 : Int32) = 0)) bq | exact absurd bq ((by decide : ¬ (1 : Int32) = 0)))) (fun bq335 => ?_)
        refine r_aload_n (pc := 338) hC dL_areRows_338 rfl ?_
        refine r_iload (pc := 339) hC dL_areRows_339 rfl ?_
        refine r_iload (pc := 341) hC dL_areRows_341 rfl ?_
        refine k_X4_letter (pc := 343) hC gL_areRows_X4_letter ⟨Nat.le_of_ble_eq_true rfl, Nat.le_of_ble_eq_true rfl⟩ ko hS hp hO hi0 (Nat.le_of_ble_eq_true rfl) rfl ⟨Nat.zero_le _, Nat.zero_le _⟩ dL_areRows_343 ?_
        obtain ⟨hl1, hl2, hl3⟩ := row_len hi0 hrw
        have hle := le_ok hi0 hrw (show k < 15 by omega)
        refine r_iload (pc := 346) hC dL_areRows_346 rfl ?_
        refine r_aload_n (pc := 348) hC dL_areRows_348 rfl ?_
        refine r_iload (pc := 349) hC dL_areRows_349 rfl ?_
        refine r_iald (pc := 351) hC kl (xi_n (k := row) (by rw [nl]; omega) (by rw [nl]; decide)) dL_areRows_351 ?_
        rw [(ar row hrw).1, hl1]
        refine r_icmp_ge (pc := 352) (tgt := 367) hC dL_areRows_352 (by decide) (fun bq352 => ?_) (fun bq352 => ?_)
        · skip
          refine r_ldc (pc := 367) (v := -1000004) hC dL_areRows_367 wl_L_areRows_60 ?_
          refine r_icmp_ne (pc := 369) (tgt := 376) hC dL_areRows_369 (by decide) (fun bq => (by first | exact absurd ((hle.1 ((nI_leI (by omega) (by omega)).mp bq352))) bq | exact absurd bq ((hle.1 ((nI_leI (by omega) (by omega)).mp bq352))))) (fun bq369 => ?_)
          refine r_iconst (pc := 372) (v := 1) hC dL_areRows_372 (by decide) ?_
          refine r_goto (pc := 373) (tgt := 377) hC dL_areRows_373 (by decide) ?_
          refine r_istore (pc := 377) (L' := [_, _, _, _, _, _, _, _, _, _, _, _, _, _, _]) hC dL_areRows_377 rfl (Nat.le_of_ble_eq_true rfl) rfl ?_
          refine r_iinc (pc := 379) (v := 1) (L' := [_, _, _, _, _, _, _, _, _, _, _, _, _, _, _]) hC dL_areRows_379 rfl (by decide) rfl rfl ?_
          refine r_goto (pc := 382) (tgt := 326) hC dL_areRows_382 (by decide) ?_
          rw [nI_1]; exact ih (k + 1) (by omega) row _ _ _ _ _ hrw kk
        · skip
          have hjl : k < sLen S row := (nI_ltI (by omega) (by omega)).mp (Int32.not_le.mp bq352)
          refine r_aload (pc := 355) hC dL_areRows_355 rfl ?_
          refine r_iload (pc := 357) hC dL_areRows_357 rfl ?_
          refine r_iload (pc := 359) hC dL_areRows_359 rfl ?_
          refine k_L_sign (pc := 361) hC gL_areRows_L_sign ⟨Nat.le_of_ble_eq_true rfl, Nat.le_of_ble_eq_true rfl⟩ hK0 hA0 hi0 hrw hjl (Nat.le_of_ble_eq_true rfl) rfl ⟨Nat.zero_le _, Nat.zero_le _⟩ dL_areRows_361 ?_
          refine r_goto (pc := 364) (tgt := 369) hC dL_areRows_364 (by decide) ?_
          refine r_icmp_ne (pc := 369) (tgt := 376) hC dL_areRows_369 (by decide) (fun bq => (by first | exact absurd ((hle.2 hjl)) bq | exact absurd bq ((hle.2 hjl)))) (fun bq369 => ?_)
          refine r_iconst (pc := 372) (v := 1) hC dL_areRows_372 (by decide) ?_
          refine r_goto (pc := 373) (tgt := 377) hC dL_areRows_373 (by decide) ?_
          refine r_istore (pc := 377) (L' := [_, _, _, _, _, _, _, _, _, _, _, _, _, _, _]) hC dL_areRows_377 rfl (Nat.le_of_ble_eq_true rfl) rfl ?_
          refine r_iinc (pc := 379) (v := 1) (L' := [_, _, _, _, _, _, _, _, _, _, _, _, _, _, _]) hC dL_areRows_379 rfl (by decide) rfl rfl ?_
          refine r_goto (pc := 382) (tgt := 326) hC dL_areRows_382 (by decide) ?_
          rw [nI_1]; exact ih (k + 1) (by omega) row _ _ _ _ _ hrw kk
  have lp2 : ∀ (q k : Nat), k + q = rq → ∀ (row : Nat) (x8 x9 x10 : Option Value) (y12 : Int32), row < n → (∀ x14, xg X G (0, 0) μ I P [some (.ref (xZ G + 1)), some (.ref (xZ G + 255)), some (.ref (xZ G + 256)), some (.ref (xZ G + 257)), some (.ref (xZ G + 258)), some (.ref (xZ G + 259)), some (.ref (xZ G + 260)), some (.int 1), x8, x9, x10, some (.int (nI row)), some (.int y12), some (.int (rset (fun k => S (351 + 3 * k)) (nI row) rq)), x14] 120 []) → xg X G (0, 0) μ I P [some (.ref (xZ G + 1)), some (.ref (xZ G + 255)), some (.ref (xZ G + 256)), some (.ref (xZ G + 257)), some (.ref (xZ G + 258)), some (.ref (xZ G + 259)), some (.ref (xZ G + 260)), some (.int 1), x8, x9, x10, some (.int (nI row)), some (.int y12), some (.int (rset (fun k => S (351 + 3 * k)) (nI row) k)), some (.int (nI k))] 86 [] := by
    intro q
    induction q with
    | zero =>
      intro k hk row x8 x9 x10 y12 hrw kk
      refine r_iload (pc := 86) hC dL_areRows_86 rfl ?_
      refine r_aload_n (pc := 88) hC dL_areRows_88 rfl ?_
      refine r_iconst (pc := 89) (v := 2) hC dL_areRows_89 (by decide) ?_
      refine r_iald (pc := 90) hC kg (xi_l (k := 2) ng (by decide) (by decide) (by decide)) dL_areRows_90 ?_
      rw [ag 2 (by decide), hq]
      refine r_icmp_ge (pc := 91) (tgt := 120) hC dL_areRows_91 (by decide) (fun bq91 => ?_) (fun bq91 => ?_)
      · skip
        have ek : k = rq := by omega
        rw [ek]
        exact kk _
      · skip
        exact absurd (nI_le (by omega) (by omega)) bq91
    | succ q ih =>
      intro k hk row x8 x9 x10 y12 hrw kk
      refine r_iload (pc := 86) hC dL_areRows_86 rfl ?_
      refine r_aload_n (pc := 88) hC dL_areRows_88 rfl ?_
      refine r_iconst (pc := 89) (v := 2) hC dL_areRows_89 (by decide) ?_
      refine r_iald (pc := 90) hC kg (xi_l (k := 2) ng (by decide) (by decide) (by decide)) dL_areRows_90 ?_
      rw [ag 2 (by decide), hq]
      refine r_icmp_ge (pc := 91) (tgt := 120) hC dL_areRows_91 (by decide) (fun bq91 => ?_) (fun bq91 => ?_)
      · skip
        exact absurd bq91 (nI_ge (by omega) (by omega))
      · skip
        refine r_iload (pc := 94) hC dL_areRows_94 rfl ?_
        refine r_aload (pc := 96) hC dL_areRows_96 rfl ?_
        refine r_iconst (pc := 98) (v := 3) hC dL_areRows_98 (by decide) ?_
        refine r_iload (pc := 99) hC dL_areRows_99 rfl ?_
        refine r_imul (pc := 101) hC dL_areRows_101 ?_
        refine r_iald (pc := 102) hC kr (xi_e (k := 3 * k) (pk_mul 3 _) nr (by omega) (by decide)) dL_areRows_102 ?_
        rw [show I 260 (3 * k) = S (351 + 3 * k) from at_ k (by omega) 0 (by decide)]
        refine r_iload (pc := 103) hC dL_areRows_103 rfl ?_
        refine r_ishr (pc := 105) hC dL_areRows_105 ?_
        refine r_iconst (pc := 106) (v := 1) hC dL_areRows_106 (by decide) ?_
        refine r_iand (pc := 107) hC dL_areRows_107 ?_
        refine r_iload (pc := 108) hC dL_areRows_108 rfl ?_
        refine r_ishl (pc := 110) hC dL_areRows_110 ?_
        refine r_ior (pc := 111) hC dL_areRows_111 ?_
        refine r_istore (pc := 112) (L' := [_, _, _, _, _, _, _, _, _, _, _, _, _, _, _]) hC dL_areRows_112 rfl (Nat.le_of_ble_eq_true rfl) rfl ?_
        refine r_iinc (pc := 114) (v := 1) (L' := [_, _, _, _, _, _, _, _, _, _, _, _, _, _, _]) hC dL_areRows_114 rfl (by decide) rfl rfl ?_
        refine r_goto (pc := 117) (tgt := 86) hC dL_areRows_117 (by decide) ?_
        rw [nI_1]; exact ih (k + 1) (by omega) row _ _ _ _ hrw kk
  have lp1 : ∀ (q k : Nat), k + q = n → ∀ (x12 x13 x14 : Option Value), xg X G (0, 0) μ I P [some (.ref (xZ G + 1)), some (.ref (xZ G + 255)), some (.ref (xZ G + 256)), some (.ref (xZ G + 257)), some (.ref (xZ G + 258)), some (.ref (xZ G + 259)), some (.ref (xZ G + 260)), some (.int 1), some (.int (tset (fun i => S (13 + 17 * i)) k)), some (.int (wid1 (sWid S) k).1), some (.int (wid1 (sWid S) k).2), some (.int (nI k)), x12, x13, x14] 57 [] := by
    intro q
    induction q with
    | zero =>
      intro k hk x12 x13 x14
      have ek : n = k := by omega
      subst ek
      refine r_iload (pc := 57) hC dL_areRows_57 rfl ?_
      refine r_aload_n (pc := 59) hC dL_areRows_59 rfl ?_
      refine r_iconst (pc := 60) (v := 0) hC dL_areRows_60 (by decide) ?_
      refine r_iald (pc := 61) hC kg (xi_l (k := 0) ng (by decide) (by decide) (by decide)) dL_areRows_61 ?_
      rw [ag 0 (by decide), hn]
      refine r_icmp_ge (pc := 62) (tgt := 391) hC dL_areRows_62 (by decide) (fun bq62 => ?_) (fun bq62 => ?_)
      · skip
        refine r_iload (pc := 391) hC dL_areRows_391 rfl ?_
        refine r_if_eq (pc := 393) (tgt := 421) hC dL_areRows_393 (by decide) (fun bq => (by first | exact absurd ((by decide : ¬ (1 : Int32) = 0)) bq | exact absurd bq ((by decide : ¬ (1 : Int32) = 0)))) (fun bq393 => ?_)
        refine r_aload_n (pc := 396) hC dL_areRows_396 rfl ?_
        refine r_iconst (pc := 397) (v := 4) hC dL_areRows_397 (by decide) ?_
        refine k_X4_count (pc := 398) hC gL_areRows_X4_count ⟨Nat.le_of_ble_eq_true rfl, Nat.le_of_ble_eq_true rfl⟩ ko hS hp hO hi0 (Nat.le_of_ble_eq_true rfl) rfl ⟨Nat.zero_le _, Nat.zero_le _⟩ dL_areRows_398 ?_
        rw [show aCount S (nI st) (nI 0) 4 = tset (fun i => S (13 + 17 * i)) n from by rw [(ct_ok (ps := nI st) (ty := nI 0)).2.2.2.2.1, hn, nI_clamp (by omega)]]
        refine r_iload (pc := 401) hC dL_areRows_401 rfl ?_
        refine r_icmp_ne (pc := 403) (tgt := 421) hC dL_areRows_403 (by decide) (fun bq => (by first | exact absurd (rfl) bq | exact absurd bq (rfl))) (fun bq403 => ?_)
        refine r_aload_n (pc := 406) hC dL_areRows_406 rfl ?_
        refine r_bipush (pc := 407) (v := 10) hC dL_areRows_407 (by decide) ?_
        refine k_X4_count (pc := 409) hC gL_areRows_X4_count ⟨Nat.le_of_ble_eq_true rfl, Nat.le_of_ble_eq_true rfl⟩ ko hS hp hO hi0 (Nat.le_of_ble_eq_true rfl) rfl ⟨Nat.zero_le _, Nat.zero_le _⟩ dL_areRows_409 ?_
        rw [show aCount S (nI st) (nI 0) 10 = (wid1 (sWid S) n).1 from by rw [(ct_ok (ps := nI st) (ty := nI 0)).2.2.2.2.2.2.2.2.2.2.1, hn, nI_clamp (by omega)]]
        refine r_iload (pc := 412) hC dL_areRows_412 rfl ?_
        refine r_icmp_ne (pc := 414) (tgt := 421) hC dL_areRows_414 (by decide) (fun bq => (by first | exact absurd (rfl) bq | exact absurd bq (rfl))) (fun bq414 => ?_)
        refine r_iconst (pc := 417) (v := 1) hC dL_areRows_417 (by decide) ?_
        refine r_goto (pc := 418) (tgt := 422) hC dL_areRows_418 (by decide) ?_
        refine r_iret (pc := 422) hC hD rfl dL_areRows_422 rfl ?_
        exact ⟨rfl, rfl, rfl, rfl⟩
      · skip
        exact absurd (nI_le (by omega) (by omega)) bq62
    | succ q ih =>
      intro k hk x12 x13 x14
      refine r_iload (pc := 57) hC dL_areRows_57 rfl ?_
      refine r_aload_n (pc := 59) hC dL_areRows_59 rfl ?_
      refine r_iconst (pc := 60) (v := 0) hC dL_areRows_60 (by decide) ?_
      refine r_iald (pc := 61) hC kg (xi_l (k := 0) ng (by decide) (by decide) (by decide)) dL_areRows_61 ?_
      rw [ag 0 (by decide), hn]
      refine r_icmp_ge (pc := 62) (tgt := 391) hC dL_areRows_62 (by decide) (fun bq62 => ?_) (fun bq62 => ?_)
      · skip
        exact absurd bq62 (nI_ge (by omega) (by omega))
      · skip
        refine r_iload (pc := 65) hC dL_areRows_65 rfl ?_
        refine r_if_eq (pc := 67) (tgt := 391) hC dL_areRows_67 (by decide) (fun bq => (by first | exact absurd ((by decide : ¬ (1 : Int32) = 0)) bq | exact absurd bq ((by decide : ¬ (1 : Int32) = 0)))) (fun bq67 => ?_)
        refine r_aload_n (pc := 70) hC dL_areRows_70 rfl ?_
        refine r_aload (pc := 71) hC dL_areRows_71 rfl ?_
        refine r_iload (pc := 73) hC dL_areRows_73 rfl ?_
        refine k_L_width (pc := 75) hC gL_areRows_L_width ⟨Nat.le_of_ble_eq_true rfl, Nat.le_of_ble_eq_true rfl⟩ hK0 hA0 hi0 (by omega) (Nat.le_of_ble_eq_true rfl) rfl ⟨Nat.zero_le _, Nat.zero_le _⟩ dL_areRows_75 ?_
        refine r_istore (pc := 78) (L' := [_, _, _, _, _, _, _, _, _, _, _, _, _, _, _]) hC dL_areRows_78 rfl (Nat.le_of_ble_eq_true rfl) rfl ?_
        refine r_iconst (pc := 80) (v := 0) hC dL_areRows_80 (by decide) ?_
        refine r_istore (pc := 81) (L' := [_, _, _, _, _, _, _, _, _, _, _, _, _, _, _]) hC dL_areRows_81 rfl (Nat.le_of_ble_eq_true rfl) rfl ?_
        refine r_iconst (pc := 83) (v := 0) hC dL_areRows_83 (by decide) ?_
        refine r_istore (pc := 84) (L' := [_, _, _, _, _, _, _, _, _, _, _, _, _, _, _]) hC dL_areRows_84 rfl (Nat.le_of_ble_eq_true rfl) rfl ?_
        refine lp2 rq 0 (by omega) k _ _ _ _ (by omega) (fun x14 => ?_)
        obtain ⟨u0, u1, u2, u3, u4, u5, u6, u7, u8⟩ := ro_ok hi0 (show k < n by omega)
        obtain ⟨w, hw60, hw⟩ := wid_n hi0 (show k < n by omega)
        obtain ⟨v1, v2, v3, v4, v5⟩ := ar k (by omega)
        refine r_iload (pc := 120) hC dL_areRows_120 rfl ?_
        refine r_aload (pc := 122) hC dL_areRows_122 rfl ?_
        refine r_iload (pc := 124) hC dL_areRows_124 rfl ?_
        refine r_iald (pc := 126) hC ku (xi_n (k := k) (by rw [nu]; omega) (by rw [nu]; decide)) dL_areRows_126 ?_
        rw [v3]
        refine r_iload (pc := 127) hC dL_areRows_127 rfl ?_
        refine r_ishl (pc := 129) hC dL_areRows_129 ?_
        refine r_ior (pc := 130) hC dL_areRows_130 ?_
        refine r_istore (pc := 131) (L' := [_, _, _, _, _, _, _, _, _, _, _, _, _, _, _]) hC dL_areRows_131 rfl (Nat.le_of_ble_eq_true rfl) rfl ?_
        refine r_iload (pc := 133) hC dL_areRows_133 rfl ?_
        refine r_iload (pc := 135) hC dL_areRows_135 rfl ?_
        refine r_icmp_le (pc := 137) (tgt := 145) hC dL_areRows_137 (by decide) (fun bq137 => ?_) (fun bq137 => ?_)
        · skip
          refine r_iload (pc := 145) hC dL_areRows_145 rfl ?_
          refine r_istore (pc := 147) (L' := [_, _, _, _, _, _, _, _, _, _, _, _, _, _, _]) hC dL_areRows_147 rfl (Nat.le_of_ble_eq_true rfl) rfl ?_
          refine r_iload (pc := 149) hC dL_areRows_149 rfl ?_
          refine r_iload (pc := 151) hC dL_areRows_151 rfl ?_
          refine r_icmp_le (pc := 153) (tgt := 161) hC dL_areRows_153 (by decide) (fun bq153 => ?_) (fun bq153 => ?_)
          · skip
            refine r_iload (pc := 161) hC dL_areRows_161 rfl ?_
            refine r_istore (pc := 163) (L' := [_, _, _, _, _, _, _, _, _, _, _, _, _, _, _]) hC dL_areRows_163 rfl (Nat.le_of_ble_eq_true rfl) rfl ?_
            refine r_aload_n (pc := 165) hC dL_areRows_165 rfl ?_
            refine r_iload (pc := 166) hC dL_areRows_166 rfl ?_
            refine r_iconst (pc := 168) (v := 0) hC dL_areRows_168 (by decide) ?_
            refine k_X4_rowOf (pc := 169) hC gL_areRows_X4_rowOf ⟨Nat.le_of_ble_eq_true rfl, Nat.le_of_ble_eq_true rfl⟩ ko hS hp hO hi0 (Nat.le_of_ble_eq_true rfl) rfl ⟨Nat.zero_le _, Nat.zero_le _⟩ dL_areRows_169 ?_
            rw [u0]
            refine r_aload_n (pc := 172) hC dL_areRows_172 rfl ?_
            refine r_iload (pc := 173) hC dL_areRows_173 rfl ?_
            refine r_iald (pc := 175) hC kl (xi_n (k := k) (by rw [nl]; omega) (by rw [nl]; decide)) dL_areRows_175 ?_
            rw [v1]
            refine r_icmp_ne (pc := 176) (tgt := 320) hC dL_areRows_176 (by decide) (fun bq => (by first | exact absurd (rfl) bq | exact absurd bq (rfl))) (fun bq176 => ?_)
            refine r_aload_n (pc := 179) hC dL_areRows_179 rfl ?_
            refine r_iload (pc := 180) hC dL_areRows_180 rfl ?_
            refine r_iconst (pc := 182) (v := 1) hC dL_areRows_182 (by decide) ?_
            refine k_X4_rowOf (pc := 183) hC gL_areRows_X4_rowOf ⟨Nat.le_of_ble_eq_true rfl, Nat.le_of_ble_eq_true rfl⟩ ko hS hp hO hi0 (Nat.le_of_ble_eq_true rfl) rfl ⟨Nat.zero_le _, Nat.zero_le _⟩ dL_areRows_183 ?_
            rw [u1]
            refine r_iload (pc := 186) hC dL_areRows_186 rfl ?_
            refine r_icmp_ne (pc := 188) (tgt := 320) hC dL_areRows_188 (by decide) (fun bq => (by first | exact absurd (rfl) bq | exact absurd bq (rfl))) (fun bq188 => ?_)
            refine r_aload_n (pc := 191) hC dL_areRows_191 rfl ?_
            refine r_iload (pc := 192) hC dL_areRows_192 rfl ?_
            refine r_iconst (pc := 194) (v := 2) hC dL_areRows_194 (by decide) ?_
            refine k_X4_rowOf (pc := 195) hC gL_areRows_X4_rowOf ⟨Nat.le_of_ble_eq_true rfl, Nat.le_of_ble_eq_true rfl⟩ ko hS hp hO hi0 (Nat.le_of_ble_eq_true rfl) rfl ⟨Nat.zero_le _, Nat.zero_le _⟩ dL_areRows_195 ?_
            rw [u2]
            refine r_aload_n (pc := 198) hC dL_areRows_198 rfl ?_
            refine r_iload (pc := 199) hC dL_areRows_199 rfl ?_
            rw [hw]
            refine k_L_squeeze (pc := 201) hC gL_areRows_L_squeeze ⟨Nat.le_of_ble_eq_true rfl, Nat.le_of_ble_eq_true rfl⟩ hK0 hA0 hi0 hw60 (Nat.le_of_ble_eq_true rfl) rfl ⟨Nat.zero_le _, Nat.zero_le _⟩ dL_areRows_201 ?_
            rw [← hw]
            refine r_icmp_ne (pc := 204) (tgt := 320) hC dL_areRows_204 (by decide) (fun bq => (by first | exact absurd (rfl) bq | exact absurd bq (rfl))) (fun bq204 => ?_)
            refine r_aload_n (pc := 207) hC dL_areRows_207 rfl ?_
            refine r_iload (pc := 208) hC dL_areRows_208 rfl ?_
            refine r_iconst (pc := 210) (v := 3) hC dL_areRows_210 (by decide) ?_
            refine k_X4_rowOf (pc := 211) hC gL_areRows_X4_rowOf ⟨Nat.le_of_ble_eq_true rfl, Nat.le_of_ble_eq_true rfl⟩ ko hS hp hO hi0 (Nat.le_of_ble_eq_true rfl) rfl ⟨Nat.zero_le _, Nat.zero_le _⟩ dL_areRows_211 ?_
            rw [u3]
            refine r_aload_n (pc := 214) hC dL_areRows_214 rfl ?_
            refine r_aload (pc := 215) hC dL_areRows_215 rfl ?_
            refine r_iload (pc := 217) hC dL_areRows_217 rfl ?_
            refine k_L_kind (pc := 219) hC gL_areRows_L_kind ⟨Nat.le_of_ble_eq_true rfl, Nat.le_of_ble_eq_true rfl⟩ hK0 hA0 hi0 (by omega) (Nat.le_of_ble_eq_true rfl) rfl ⟨Nat.zero_le _, Nat.zero_le _⟩ dL_areRows_219 ?_
            refine r_icmp_ne (pc := 222) (tgt := 320) hC dL_areRows_222 (by decide) (fun bq => (by first | exact absurd (rfl) bq | exact absurd bq (rfl))) (fun bq222 => ?_)
            refine r_aload_n (pc := 225) hC dL_areRows_225 rfl ?_
            refine r_iload (pc := 226) hC dL_areRows_226 rfl ?_
            refine r_iconst (pc := 228) (v := 4) hC dL_areRows_228 (by decide) ?_
            refine k_X4_rowOf (pc := 229) hC gL_areRows_X4_rowOf ⟨Nat.le_of_ble_eq_true rfl, Nat.le_of_ble_eq_true rfl⟩ ko hS hp hO hi0 (Nat.le_of_ble_eq_true rfl) rfl ⟨Nat.zero_le _, Nat.zero_le _⟩ dL_areRows_229 ?_
            rw [u4]
            refine r_aload_n (pc := 232) hC dL_areRows_232 rfl ?_
            refine r_iload (pc := 233) hC dL_areRows_233 rfl ?_
            refine r_iald (pc := 235) hC kw (xi_n (k := k) (by rw [nw]; omega) (by rw [nw]; decide)) dL_areRows_235 ?_
            rw [v2]
            refine r_icmp_ne (pc := 236) (tgt := 320) hC dL_areRows_236 (by decide) (fun bq => (by first | exact absurd (rfl) bq | exact absurd bq (rfl))) (fun bq236 => ?_)
            refine r_aload_n (pc := 239) hC dL_areRows_239 rfl ?_
            refine r_iload (pc := 240) hC dL_areRows_240 rfl ?_
            refine r_iconst (pc := 242) (v := 5) hC dL_areRows_242 (by decide) ?_
            refine k_X4_rowOf (pc := 243) hC gL_areRows_X4_rowOf ⟨Nat.le_of_ble_eq_true rfl, Nat.le_of_ble_eq_true rfl⟩ ko hS hp hO hi0 (Nat.le_of_ble_eq_true rfl) rfl ⟨Nat.zero_le _, Nat.zero_le _⟩ dL_areRows_243 ?_
            rw [u5]
            refine r_aload (pc := 246) hC dL_areRows_246 rfl ?_
            refine r_iload (pc := 248) hC dL_areRows_248 rfl ?_
            refine r_iald (pc := 250) hC ku (xi_n (k := k) (by rw [nu]; omega) (by rw [nu]; decide)) dL_areRows_250 ?_
            rw [v3]
            refine r_icmp_ne (pc := 251) (tgt := 320) hC dL_areRows_251 (by decide) (fun bq => (by first | exact absurd (rfl) bq | exact absurd bq (rfl))) (fun bq251 => ?_)
            refine r_aload_n (pc := 254) hC dL_areRows_254 rfl ?_
            refine r_iload (pc := 255) hC dL_areRows_255 rfl ?_
            refine r_bipush (pc := 257) (v := 6) hC dL_areRows_257 (by decide) ?_
            refine k_X4_rowOf (pc := 259) hC gL_areRows_X4_rowOf ⟨Nat.le_of_ble_eq_true rfl, Nat.le_of_ble_eq_true rfl⟩ ko hS hp hO hi0 (Nat.le_of_ble_eq_true rfl) rfl ⟨Nat.zero_le _, Nat.zero_le _⟩ dL_areRows_259 ?_
            rw [u6]
            refine r_iload (pc := 262) hC dL_areRows_262 rfl ?_
            refine r_icmp_ne (pc := 264) (tgt := 320) hC dL_areRows_264 (by decide) (fun bq => (by first | exact absurd (rfl) bq | exact absurd bq (rfl))) (fun bq264 => ?_)
            refine r_aload_n (pc := 267) hC dL_areRows_267 rfl ?_
            refine r_iload (pc := 268) hC dL_areRows_268 rfl ?_
            refine r_bipush (pc := 270) (v := 7) hC dL_areRows_270 (by decide) ?_
            refine k_X4_rowOf (pc := 272) hC gL_areRows_X4_rowOf ⟨Nat.le_of_ble_eq_true rfl, Nat.le_of_ble_eq_true rfl⟩ ko hS hp hO hi0 (Nat.le_of_ble_eq_true rfl) rfl ⟨Nat.zero_le _, Nat.zero_le _⟩ dL_areRows_272 ?_
            rw [u7]
            refine r_aload_n (pc := 275) hC dL_areRows_275 rfl ?_
            refine r_iconst (pc := 276) (v := 1) hC dL_areRows_276 (by decide) ?_
            refine r_iald (pc := 277) hC kg (xi_l (k := 1) ng (by decide) (by decide) (by decide)) dL_areRows_277 ?_
            rw [ag 1 (by decide)]
            refine r_iload (pc := 278) hC dL_areRows_278 rfl ?_
            refine r_icmp_ne (pc := 280) (tgt := 287) hC dL_areRows_280 (by decide) (fun bq280 => ?_) (fun bq280 => ?_)
            · skip
              refine r_iconst (pc := 287) (v := 0) hC dL_areRows_287 (by decide) ?_
              rw [if_neg bq280]
              refine r_icmp_ne (pc := 288) (tgt := 320) hC dL_areRows_288 (by decide) (fun bq => (by first | exact absurd (rfl) bq | exact absurd bq (rfl))) (fun bq288 => ?_)
              refine r_aload_n (pc := 291) hC dL_areRows_291 rfl ?_
              refine r_iload (pc := 292) hC dL_areRows_292 rfl ?_
              refine r_bipush (pc := 294) (v := 8) hC dL_areRows_294 (by decide) ?_
              refine k_X4_rowOf (pc := 296) hC gL_areRows_X4_rowOf ⟨Nat.le_of_ble_eq_true rfl, Nat.le_of_ble_eq_true rfl⟩ ko hS hp hO hi0 (Nat.le_of_ble_eq_true rfl) rfl ⟨Nat.zero_le _, Nat.zero_le _⟩ dL_areRows_296 ?_
              rw [u8]
              refine r_ldc (pc := 299) (v := -1000001) hC dL_areRows_299 wl_L_areRows_71 ?_
              refine r_icmp_ne (pc := 301) (tgt := 320) hC dL_areRows_301 (by decide) (fun bq => (by first | exact absurd (rfl) bq | exact absurd bq (rfl))) (fun bq301 => ?_)
              refine r_aload_n (pc := 304) hC dL_areRows_304 rfl ?_
              refine r_iload (pc := 305) hC dL_areRows_305 rfl ?_
              refine r_iconst (pc := 307) (v := -1) hC dL_areRows_307 (by decide) ?_
              refine k_X4_letter (pc := 308) hC gL_areRows_X4_letter ⟨Nat.le_of_ble_eq_true rfl, Nat.le_of_ble_eq_true rfl⟩ ko hS hp hO hi0 (Nat.le_of_ble_eq_true rfl) rfl ⟨Nat.zero_le _, Nat.zero_le _⟩ dL_areRows_308 ?_
              rw [le_out hi0 (show k < n by omega)]
              refine r_ldc (pc := 311) (v := -1000001) hC dL_areRows_311 wl_L_areRows_71 ?_
              refine r_icmp_ne (pc := 313) (tgt := 320) hC dL_areRows_313 (by decide) (fun bq => (by first | exact absurd (rfl) bq | exact absurd bq (rfl))) (fun bq313 => ?_)
              refine r_iconst (pc := 316) (v := 1) hC dL_areRows_316 (by decide) ?_
              refine r_goto (pc := 317) (tgt := 321) hC dL_areRows_317 (by decide) ?_
              refine r_istore (pc := 321) (L' := [_, _, _, _, _, _, _, _, _, _, _, _, _, _, _]) hC dL_areRows_321 rfl (Nat.le_of_ble_eq_true rfl) rfl ?_
              refine r_iconst (pc := 323) (v := 0) hC dL_areRows_323 (by decide) ?_
              refine r_istore (pc := 324) (L' := [_, _, _, _, _, _, _, _, _, _, _, _, _, _, _]) hC dL_areRows_324 rfl (Nat.le_of_ble_eq_true rfl) rfl ?_
              refine lp3 15 0 (by omega) k _ _ _ _ _ (by omega) (fun x14 => ?_)
              refine r_iinc (pc := 385) (v := 1) (L' := [_, _, _, _, _, _, _, _, _, _, _, _, _, _, _]) hC dL_areRows_385 rfl (by decide) rfl rfl ?_
              refine r_goto (pc := 388) (tgt := 57) hC dL_areRows_388 (by decide) ?_
              have e1 : wid1 (sWid S) (k + 1) = (wid1 (sWid S) k) := if_pos bq137
              have z := ih (k + 1) (by omega) (some (.int (sWid S k))) (some (.int (rset (fun k => S (351 + 3 * k)) (nI k) rq))) x14
              rw [e1] at z
              rw [nI_1]
              exact z
            · skip
              refine r_iconst (pc := 283) (v := 1) hC dL_areRows_283 (by decide) ?_
              refine r_goto (pc := 284) (tgt := 288) hC dL_areRows_284 (by decide) ?_
              rw [if_pos bq280]
              refine r_icmp_ne (pc := 288) (tgt := 320) hC dL_areRows_288 (by decide) (fun bq => (by first | exact absurd (rfl) bq | exact absurd bq (rfl))) (fun bq288 => ?_)
              refine r_aload_n (pc := 291) hC dL_areRows_291 rfl ?_
              refine r_iload (pc := 292) hC dL_areRows_292 rfl ?_
              refine r_bipush (pc := 294) (v := 8) hC dL_areRows_294 (by decide) ?_
              refine k_X4_rowOf (pc := 296) hC gL_areRows_X4_rowOf ⟨Nat.le_of_ble_eq_true rfl, Nat.le_of_ble_eq_true rfl⟩ ko hS hp hO hi0 (Nat.le_of_ble_eq_true rfl) rfl ⟨Nat.zero_le _, Nat.zero_le _⟩ dL_areRows_296 ?_
              rw [u8]
              refine r_ldc (pc := 299) (v := -1000001) hC dL_areRows_299 wl_L_areRows_71 ?_
              refine r_icmp_ne (pc := 301) (tgt := 320) hC dL_areRows_301 (by decide) (fun bq => (by first | exact absurd (rfl) bq | exact absurd bq (rfl))) (fun bq301 => ?_)
              refine r_aload_n (pc := 304) hC dL_areRows_304 rfl ?_
              refine r_iload (pc := 305) hC dL_areRows_305 rfl ?_
              refine r_iconst (pc := 307) (v := -1) hC dL_areRows_307 (by decide) ?_
              refine k_X4_letter (pc := 308) hC gL_areRows_X4_letter ⟨Nat.le_of_ble_eq_true rfl, Nat.le_of_ble_eq_true rfl⟩ ko hS hp hO hi0 (Nat.le_of_ble_eq_true rfl) rfl ⟨Nat.zero_le _, Nat.zero_le _⟩ dL_areRows_308 ?_
              rw [le_out hi0 (show k < n by omega)]
              refine r_ldc (pc := 311) (v := -1000001) hC dL_areRows_311 wl_L_areRows_71 ?_
              refine r_icmp_ne (pc := 313) (tgt := 320) hC dL_areRows_313 (by decide) (fun bq => (by first | exact absurd (rfl) bq | exact absurd bq (rfl))) (fun bq313 => ?_)
              refine r_iconst (pc := 316) (v := 1) hC dL_areRows_316 (by decide) ?_
              refine r_goto (pc := 317) (tgt := 321) hC dL_areRows_317 (by decide) ?_
              refine r_istore (pc := 321) (L' := [_, _, _, _, _, _, _, _, _, _, _, _, _, _, _]) hC dL_areRows_321 rfl (Nat.le_of_ble_eq_true rfl) rfl ?_
              refine r_iconst (pc := 323) (v := 0) hC dL_areRows_323 (by decide) ?_
              refine r_istore (pc := 324) (L' := [_, _, _, _, _, _, _, _, _, _, _, _, _, _, _]) hC dL_areRows_324 rfl (Nat.le_of_ble_eq_true rfl) rfl ?_
              refine lp3 15 0 (by omega) k _ _ _ _ _ (by omega) (fun x14 => ?_)
              refine r_iinc (pc := 385) (v := 1) (L' := [_, _, _, _, _, _, _, _, _, _, _, _, _, _, _]) hC dL_areRows_385 rfl (by decide) rfl rfl ?_
              refine r_goto (pc := 388) (tgt := 57) hC dL_areRows_388 (by decide) ?_
              have e1 : wid1 (sWid S) (k + 1) = (wid1 (sWid S) k) := if_pos bq137
              have z := ih (k + 1) (by omega) (some (.int (sWid S k))) (some (.int (rset (fun k => S (351 + 3 * k)) (nI k) rq))) x14
              rw [e1] at z
              rw [nI_1]
              exact z
          · skip
            exact absurd bq137 bq153
        · skip
          refine r_iload (pc := 140) hC dL_areRows_140 rfl ?_
          refine r_goto (pc := 142) (tgt := 147) hC dL_areRows_142 (by decide) ?_
          refine r_istore (pc := 147) (L' := [_, _, _, _, _, _, _, _, _, _, _, _, _, _, _]) hC dL_areRows_147 rfl (Nat.le_of_ble_eq_true rfl) rfl ?_
          refine r_iload (pc := 149) hC dL_areRows_149 rfl ?_
          refine r_iload (pc := 151) hC dL_areRows_151 rfl ?_
          refine r_icmp_le (pc := 153) (tgt := 161) hC dL_areRows_153 (by decide) (fun bq153 => ?_) (fun bq153 => ?_)
          · skip
            exact absurd bq153 bq137
          · skip
            refine r_iload (pc := 156) hC dL_areRows_156 rfl ?_
            refine r_goto (pc := 158) (tgt := 163) hC dL_areRows_158 (by decide) ?_
            refine r_istore (pc := 163) (L' := [_, _, _, _, _, _, _, _, _, _, _, _, _, _, _]) hC dL_areRows_163 rfl (Nat.le_of_ble_eq_true rfl) rfl ?_
            refine r_aload_n (pc := 165) hC dL_areRows_165 rfl ?_
            refine r_iload (pc := 166) hC dL_areRows_166 rfl ?_
            refine r_iconst (pc := 168) (v := 0) hC dL_areRows_168 (by decide) ?_
            refine k_X4_rowOf (pc := 169) hC gL_areRows_X4_rowOf ⟨Nat.le_of_ble_eq_true rfl, Nat.le_of_ble_eq_true rfl⟩ ko hS hp hO hi0 (Nat.le_of_ble_eq_true rfl) rfl ⟨Nat.zero_le _, Nat.zero_le _⟩ dL_areRows_169 ?_
            rw [u0]
            refine r_aload_n (pc := 172) hC dL_areRows_172 rfl ?_
            refine r_iload (pc := 173) hC dL_areRows_173 rfl ?_
            refine r_iald (pc := 175) hC kl (xi_n (k := k) (by rw [nl]; omega) (by rw [nl]; decide)) dL_areRows_175 ?_
            rw [v1]
            refine r_icmp_ne (pc := 176) (tgt := 320) hC dL_areRows_176 (by decide) (fun bq => (by first | exact absurd (rfl) bq | exact absurd bq (rfl))) (fun bq176 => ?_)
            refine r_aload_n (pc := 179) hC dL_areRows_179 rfl ?_
            refine r_iload (pc := 180) hC dL_areRows_180 rfl ?_
            refine r_iconst (pc := 182) (v := 1) hC dL_areRows_182 (by decide) ?_
            refine k_X4_rowOf (pc := 183) hC gL_areRows_X4_rowOf ⟨Nat.le_of_ble_eq_true rfl, Nat.le_of_ble_eq_true rfl⟩ ko hS hp hO hi0 (Nat.le_of_ble_eq_true rfl) rfl ⟨Nat.zero_le _, Nat.zero_le _⟩ dL_areRows_183 ?_
            rw [u1]
            refine r_iload (pc := 186) hC dL_areRows_186 rfl ?_
            refine r_icmp_ne (pc := 188) (tgt := 320) hC dL_areRows_188 (by decide) (fun bq => (by first | exact absurd (rfl) bq | exact absurd bq (rfl))) (fun bq188 => ?_)
            refine r_aload_n (pc := 191) hC dL_areRows_191 rfl ?_
            refine r_iload (pc := 192) hC dL_areRows_192 rfl ?_
            refine r_iconst (pc := 194) (v := 2) hC dL_areRows_194 (by decide) ?_
            refine k_X4_rowOf (pc := 195) hC gL_areRows_X4_rowOf ⟨Nat.le_of_ble_eq_true rfl, Nat.le_of_ble_eq_true rfl⟩ ko hS hp hO hi0 (Nat.le_of_ble_eq_true rfl) rfl ⟨Nat.zero_le _, Nat.zero_le _⟩ dL_areRows_195 ?_
            rw [u2]
            refine r_aload_n (pc := 198) hC dL_areRows_198 rfl ?_
            refine r_iload (pc := 199) hC dL_areRows_199 rfl ?_
            rw [hw]
            refine k_L_squeeze (pc := 201) hC gL_areRows_L_squeeze ⟨Nat.le_of_ble_eq_true rfl, Nat.le_of_ble_eq_true rfl⟩ hK0 hA0 hi0 hw60 (Nat.le_of_ble_eq_true rfl) rfl ⟨Nat.zero_le _, Nat.zero_le _⟩ dL_areRows_201 ?_
            rw [← hw]
            refine r_icmp_ne (pc := 204) (tgt := 320) hC dL_areRows_204 (by decide) (fun bq => (by first | exact absurd (rfl) bq | exact absurd bq (rfl))) (fun bq204 => ?_)
            refine r_aload_n (pc := 207) hC dL_areRows_207 rfl ?_
            refine r_iload (pc := 208) hC dL_areRows_208 rfl ?_
            refine r_iconst (pc := 210) (v := 3) hC dL_areRows_210 (by decide) ?_
            refine k_X4_rowOf (pc := 211) hC gL_areRows_X4_rowOf ⟨Nat.le_of_ble_eq_true rfl, Nat.le_of_ble_eq_true rfl⟩ ko hS hp hO hi0 (Nat.le_of_ble_eq_true rfl) rfl ⟨Nat.zero_le _, Nat.zero_le _⟩ dL_areRows_211 ?_
            rw [u3]
            refine r_aload_n (pc := 214) hC dL_areRows_214 rfl ?_
            refine r_aload (pc := 215) hC dL_areRows_215 rfl ?_
            refine r_iload (pc := 217) hC dL_areRows_217 rfl ?_
            refine k_L_kind (pc := 219) hC gL_areRows_L_kind ⟨Nat.le_of_ble_eq_true rfl, Nat.le_of_ble_eq_true rfl⟩ hK0 hA0 hi0 (by omega) (Nat.le_of_ble_eq_true rfl) rfl ⟨Nat.zero_le _, Nat.zero_le _⟩ dL_areRows_219 ?_
            refine r_icmp_ne (pc := 222) (tgt := 320) hC dL_areRows_222 (by decide) (fun bq => (by first | exact absurd (rfl) bq | exact absurd bq (rfl))) (fun bq222 => ?_)
            refine r_aload_n (pc := 225) hC dL_areRows_225 rfl ?_
            refine r_iload (pc := 226) hC dL_areRows_226 rfl ?_
            refine r_iconst (pc := 228) (v := 4) hC dL_areRows_228 (by decide) ?_
            refine k_X4_rowOf (pc := 229) hC gL_areRows_X4_rowOf ⟨Nat.le_of_ble_eq_true rfl, Nat.le_of_ble_eq_true rfl⟩ ko hS hp hO hi0 (Nat.le_of_ble_eq_true rfl) rfl ⟨Nat.zero_le _, Nat.zero_le _⟩ dL_areRows_229 ?_
            rw [u4]
            refine r_aload_n (pc := 232) hC dL_areRows_232 rfl ?_
            refine r_iload (pc := 233) hC dL_areRows_233 rfl ?_
            refine r_iald (pc := 235) hC kw (xi_n (k := k) (by rw [nw]; omega) (by rw [nw]; decide)) dL_areRows_235 ?_
            rw [v2]
            refine r_icmp_ne (pc := 236) (tgt := 320) hC dL_areRows_236 (by decide) (fun bq => (by first | exact absurd (rfl) bq | exact absurd bq (rfl))) (fun bq236 => ?_)
            refine r_aload_n (pc := 239) hC dL_areRows_239 rfl ?_
            refine r_iload (pc := 240) hC dL_areRows_240 rfl ?_
            refine r_iconst (pc := 242) (v := 5) hC dL_areRows_242 (by decide) ?_
            refine k_X4_rowOf (pc := 243) hC gL_areRows_X4_rowOf ⟨Nat.le_of_ble_eq_true rfl, Nat.le_of_ble_eq_true rfl⟩ ko hS hp hO hi0 (Nat.le_of_ble_eq_true rfl) rfl ⟨Nat.zero_le _, Nat.zero_le _⟩ dL_areRows_243 ?_
            rw [u5]
            refine r_aload (pc := 246) hC dL_areRows_246 rfl ?_
            refine r_iload (pc := 248) hC dL_areRows_248 rfl ?_
            refine r_iald (pc := 250) hC ku (xi_n (k := k) (by rw [nu]; omega) (by rw [nu]; decide)) dL_areRows_250 ?_
            rw [v3]
            refine r_icmp_ne (pc := 251) (tgt := 320) hC dL_areRows_251 (by decide) (fun bq => (by first | exact absurd (rfl) bq | exact absurd bq (rfl))) (fun bq251 => ?_)
            refine r_aload_n (pc := 254) hC dL_areRows_254 rfl ?_
            refine r_iload (pc := 255) hC dL_areRows_255 rfl ?_
            refine r_bipush (pc := 257) (v := 6) hC dL_areRows_257 (by decide) ?_
            refine k_X4_rowOf (pc := 259) hC gL_areRows_X4_rowOf ⟨Nat.le_of_ble_eq_true rfl, Nat.le_of_ble_eq_true rfl⟩ ko hS hp hO hi0 (Nat.le_of_ble_eq_true rfl) rfl ⟨Nat.zero_le _, Nat.zero_le _⟩ dL_areRows_259 ?_
            rw [u6]
            refine r_iload (pc := 262) hC dL_areRows_262 rfl ?_
            refine r_icmp_ne (pc := 264) (tgt := 320) hC dL_areRows_264 (by decide) (fun bq => (by first | exact absurd (rfl) bq | exact absurd bq (rfl))) (fun bq264 => ?_)
            refine r_aload_n (pc := 267) hC dL_areRows_267 rfl ?_
            refine r_iload (pc := 268) hC dL_areRows_268 rfl ?_
            refine r_bipush (pc := 270) (v := 7) hC dL_areRows_270 (by decide) ?_
            refine k_X4_rowOf (pc := 272) hC gL_areRows_X4_rowOf ⟨Nat.le_of_ble_eq_true rfl, Nat.le_of_ble_eq_true rfl⟩ ko hS hp hO hi0 (Nat.le_of_ble_eq_true rfl) rfl ⟨Nat.zero_le _, Nat.zero_le _⟩ dL_areRows_272 ?_
            rw [u7]
            refine r_aload_n (pc := 275) hC dL_areRows_275 rfl ?_
            refine r_iconst (pc := 276) (v := 1) hC dL_areRows_276 (by decide) ?_
            refine r_iald (pc := 277) hC kg (xi_l (k := 1) ng (by decide) (by decide) (by decide)) dL_areRows_277 ?_
            rw [ag 1 (by decide)]
            refine r_iload (pc := 278) hC dL_areRows_278 rfl ?_
            refine r_icmp_ne (pc := 280) (tgt := 287) hC dL_areRows_280 (by decide) (fun bq280 => ?_) (fun bq280 => ?_)
            · skip
              refine r_iconst (pc := 287) (v := 0) hC dL_areRows_287 (by decide) ?_
              rw [if_neg bq280]
              refine r_icmp_ne (pc := 288) (tgt := 320) hC dL_areRows_288 (by decide) (fun bq => (by first | exact absurd (rfl) bq | exact absurd bq (rfl))) (fun bq288 => ?_)
              refine r_aload_n (pc := 291) hC dL_areRows_291 rfl ?_
              refine r_iload (pc := 292) hC dL_areRows_292 rfl ?_
              refine r_bipush (pc := 294) (v := 8) hC dL_areRows_294 (by decide) ?_
              refine k_X4_rowOf (pc := 296) hC gL_areRows_X4_rowOf ⟨Nat.le_of_ble_eq_true rfl, Nat.le_of_ble_eq_true rfl⟩ ko hS hp hO hi0 (Nat.le_of_ble_eq_true rfl) rfl ⟨Nat.zero_le _, Nat.zero_le _⟩ dL_areRows_296 ?_
              rw [u8]
              refine r_ldc (pc := 299) (v := -1000001) hC dL_areRows_299 wl_L_areRows_71 ?_
              refine r_icmp_ne (pc := 301) (tgt := 320) hC dL_areRows_301 (by decide) (fun bq => (by first | exact absurd (rfl) bq | exact absurd bq (rfl))) (fun bq301 => ?_)
              refine r_aload_n (pc := 304) hC dL_areRows_304 rfl ?_
              refine r_iload (pc := 305) hC dL_areRows_305 rfl ?_
              refine r_iconst (pc := 307) (v := -1) hC dL_areRows_307 (by decide) ?_
              refine k_X4_letter (pc := 308) hC gL_areRows_X4_letter ⟨Nat.le_of_ble_eq_true rfl, Nat.le_of_ble_eq_true rfl⟩ ko hS hp hO hi0 (Nat.le_of_ble_eq_true rfl) rfl ⟨Nat.zero_le _, Nat.zero_le _⟩ dL_areRows_308 ?_
              rw [le_out hi0 (show k < n by omega)]
              refine r_ldc (pc := 311) (v := -1000001) hC dL_areRows_311 wl_L_areRows_71 ?_
              refine r_icmp_ne (pc := 313) (tgt := 320) hC dL_areRows_313 (by decide) (fun bq => (by first | exact absurd (rfl) bq | exact absurd bq (rfl))) (fun bq313 => ?_)
              refine r_iconst (pc := 316) (v := 1) hC dL_areRows_316 (by decide) ?_
              refine r_goto (pc := 317) (tgt := 321) hC dL_areRows_317 (by decide) ?_
              refine r_istore (pc := 321) (L' := [_, _, _, _, _, _, _, _, _, _, _, _, _, _, _]) hC dL_areRows_321 rfl (Nat.le_of_ble_eq_true rfl) rfl ?_
              refine r_iconst (pc := 323) (v := 0) hC dL_areRows_323 (by decide) ?_
              refine r_istore (pc := 324) (L' := [_, _, _, _, _, _, _, _, _, _, _, _, _, _, _]) hC dL_areRows_324 rfl (Nat.le_of_ble_eq_true rfl) rfl ?_
              refine lp3 15 0 (by omega) k _ _ _ _ _ (by omega) (fun x14 => ?_)
              refine r_iinc (pc := 385) (v := 1) (L' := [_, _, _, _, _, _, _, _, _, _, _, _, _, _, _]) hC dL_areRows_385 rfl (by decide) rfl rfl ?_
              refine r_goto (pc := 388) (tgt := 57) hC dL_areRows_388 (by decide) ?_
              have e1 : wid1 (sWid S) (k + 1) = (nI k, sWid S k) := if_neg bq137
              have z := ih (k + 1) (by omega) (some (.int (sWid S k))) (some (.int (rset (fun k => S (351 + 3 * k)) (nI k) rq))) x14
              rw [e1] at z
              rw [nI_1]
              exact z
            · skip
              refine r_iconst (pc := 283) (v := 1) hC dL_areRows_283 (by decide) ?_
              refine r_goto (pc := 284) (tgt := 288) hC dL_areRows_284 (by decide) ?_
              rw [if_pos bq280]
              refine r_icmp_ne (pc := 288) (tgt := 320) hC dL_areRows_288 (by decide) (fun bq => (by first | exact absurd (rfl) bq | exact absurd bq (rfl))) (fun bq288 => ?_)
              refine r_aload_n (pc := 291) hC dL_areRows_291 rfl ?_
              refine r_iload (pc := 292) hC dL_areRows_292 rfl ?_
              refine r_bipush (pc := 294) (v := 8) hC dL_areRows_294 (by decide) ?_
              refine k_X4_rowOf (pc := 296) hC gL_areRows_X4_rowOf ⟨Nat.le_of_ble_eq_true rfl, Nat.le_of_ble_eq_true rfl⟩ ko hS hp hO hi0 (Nat.le_of_ble_eq_true rfl) rfl ⟨Nat.zero_le _, Nat.zero_le _⟩ dL_areRows_296 ?_
              rw [u8]
              refine r_ldc (pc := 299) (v := -1000001) hC dL_areRows_299 wl_L_areRows_71 ?_
              refine r_icmp_ne (pc := 301) (tgt := 320) hC dL_areRows_301 (by decide) (fun bq => (by first | exact absurd (rfl) bq | exact absurd bq (rfl))) (fun bq301 => ?_)
              refine r_aload_n (pc := 304) hC dL_areRows_304 rfl ?_
              refine r_iload (pc := 305) hC dL_areRows_305 rfl ?_
              refine r_iconst (pc := 307) (v := -1) hC dL_areRows_307 (by decide) ?_
              refine k_X4_letter (pc := 308) hC gL_areRows_X4_letter ⟨Nat.le_of_ble_eq_true rfl, Nat.le_of_ble_eq_true rfl⟩ ko hS hp hO hi0 (Nat.le_of_ble_eq_true rfl) rfl ⟨Nat.zero_le _, Nat.zero_le _⟩ dL_areRows_308 ?_
              rw [le_out hi0 (show k < n by omega)]
              refine r_ldc (pc := 311) (v := -1000001) hC dL_areRows_311 wl_L_areRows_71 ?_
              refine r_icmp_ne (pc := 313) (tgt := 320) hC dL_areRows_313 (by decide) (fun bq => (by first | exact absurd (rfl) bq | exact absurd bq (rfl))) (fun bq313 => ?_)
              refine r_iconst (pc := 316) (v := 1) hC dL_areRows_316 (by decide) ?_
              refine r_goto (pc := 317) (tgt := 321) hC dL_areRows_317 (by decide) ?_
              refine r_istore (pc := 321) (L' := [_, _, _, _, _, _, _, _, _, _, _, _, _, _, _]) hC dL_areRows_321 rfl (Nat.le_of_ble_eq_true rfl) rfl ?_
              refine r_iconst (pc := 323) (v := 0) hC dL_areRows_323 (by decide) ?_
              refine r_istore (pc := 324) (L' := [_, _, _, _, _, _, _, _, _, _, _, _, _, _, _]) hC dL_areRows_324 rfl (Nat.le_of_ble_eq_true rfl) rfl ?_
              refine lp3 15 0 (by omega) k _ _ _ _ _ (by omega) (fun x14 => ?_)
              refine r_iinc (pc := 385) (v := 1) (L' := [_, _, _, _, _, _, _, _, _, _, _, _, _, _, _]) hC dL_areRows_385 rfl (by decide) rfl rfl ?_
              refine r_goto (pc := 388) (tgt := 57) hC dL_areRows_388 (by decide) ?_
              have e1 : wid1 (sWid S) (k + 1) = (nI k, sWid S k) := if_neg bq137
              have z := ih (k + 1) (by omega) (some (.int (sWid S k))) (some (.int (rset (fun k => S (351 + 3 * k)) (nI k) rq))) x14
              rw [e1] at z
              rw [nI_1]
              exact z
  refine r_aload_n (pc := 0) hC dL_areRows_0 rfl ?_
  refine r_aload_n (pc := 1) hC dL_areRows_1 rfl ?_
  refine r_iconst (pc := 2) (v := 0) hC dL_areRows_2 (by decide) ?_
  refine r_iald (pc := 3) hC kg (xi_l (k := 0) ng (by decide) (by decide) (by decide)) dL_areRows_3 ?_
  rw [ag 0 (by decide), hn]
  refine r_iconst (pc := 4) (v := 0) hC dL_areRows_4 (by decide) ?_
  refine k_X4_rowOf (pc := 5) hC gL_areRows_X4_rowOf ⟨Nat.le_of_ble_eq_true rfl, Nat.le_of_ble_eq_true rfl⟩ ko hS hp hO hi0 (Nat.le_of_ble_eq_true rfl) rfl ⟨Nat.zero_le _, Nat.zero_le _⟩ dL_areRows_5 ?_
  rw [t1]
  refine r_ldc (pc := 8) (v := -1000001) hC dL_areRows_8 wl_L_areRows_71 ?_
  refine r_icmp_ne (pc := 10) (tgt := 41) hC dL_areRows_10 (by decide) (fun bq => (by first | exact absurd (rfl) bq | exact absurd bq (rfl))) (fun bq10 => ?_)
  refine r_aload_n (pc := 13) hC dL_areRows_13 rfl ?_
  refine r_iconst (pc := 14) (v := -1) hC dL_areRows_14 (by decide) ?_
  refine r_iconst (pc := 15) (v := 0) hC dL_areRows_15 (by decide) ?_
  refine k_X4_rowOf (pc := 16) hC gL_areRows_X4_rowOf ⟨Nat.le_of_ble_eq_true rfl, Nat.le_of_ble_eq_true rfl⟩ ko hS hp hO hi0 (Nat.le_of_ble_eq_true rfl) rfl ⟨Nat.zero_le _, Nat.zero_le _⟩ dL_areRows_16 ?_
  rw [t2]
  refine r_ldc (pc := 19) (v := -1000001) hC dL_areRows_19 wl_L_areRows_71 ?_
  refine r_icmp_ne (pc := 21) (tgt := 41) hC dL_areRows_21 (by decide) (fun bq => (by first | exact absurd (rfl) bq | exact absurd bq (rfl))) (fun bq21 => ?_)
  refine r_aload_n (pc := 24) hC dL_areRows_24 rfl ?_
  refine r_aload_n (pc := 25) hC dL_areRows_25 rfl ?_
  refine r_iconst (pc := 26) (v := 0) hC dL_areRows_26 (by decide) ?_
  refine r_iald (pc := 27) hC kg (xi_l (k := 0) ng (by decide) (by decide) (by decide)) dL_areRows_27 ?_
  rw [ag 0 (by decide), hn]
  refine r_iconst (pc := 28) (v := 0) hC dL_areRows_28 (by decide) ?_
  refine k_X4_letter (pc := 29) hC gL_areRows_X4_letter ⟨Nat.le_of_ble_eq_true rfl, Nat.le_of_ble_eq_true rfl⟩ ko hS hp hO hi0 (Nat.le_of_ble_eq_true rfl) rfl ⟨Nat.zero_le _, Nat.zero_le _⟩ dL_areRows_29 ?_
  rw [t3]
  refine r_ldc (pc := 32) (v := -1000001) hC dL_areRows_32 wl_L_areRows_71 ?_
  refine r_icmp_ne (pc := 34) (tgt := 41) hC dL_areRows_34 (by decide) (fun bq => (by first | exact absurd (rfl) bq | exact absurd bq (rfl))) (fun bq34 => ?_)
  refine r_iconst (pc := 37) (v := 1) hC dL_areRows_37 (by decide) ?_
  refine r_goto (pc := 38) (tgt := 42) hC dL_areRows_38 (by decide) ?_
  refine r_istore (pc := 42) (L' := [_, _, _, _, _, _, _, _, _, _, _, _, _, _, _]) hC dL_areRows_42 rfl (Nat.le_of_ble_eq_true rfl) rfl ?_
  refine r_iconst (pc := 44) (v := 0) hC dL_areRows_44 (by decide) ?_
  refine r_istore (pc := 45) (L' := [_, _, _, _, _, _, _, _, _, _, _, _, _, _, _]) hC dL_areRows_45 rfl (Nat.le_of_ble_eq_true rfl) rfl ?_
  refine r_ldc (pc := 47) (v := -1000004) hC dL_areRows_47 wl_L_areRows_60 ?_
  refine r_istore (pc := 49) (L' := [_, _, _, _, _, _, _, _, _, _, _, _, _, _, _]) hC dL_areRows_49 rfl (Nat.le_of_ble_eq_true rfl) rfl ?_
  refine r_iconst (pc := 51) (v := 0) hC dL_areRows_51 (by decide) ?_
  refine r_istore (pc := 52) (L' := [_, _, _, _, _, _, _, _, _, _, _, _, _, _, _]) hC dL_areRows_52 rfl (Nat.le_of_ble_eq_true rfl) rfl ?_
  refine r_iconst (pc := 54) (v := 0) hC dL_areRows_54 (by decide) ?_
  refine r_istore (pc := 55) (L' := [_, _, _, _, _, _, _, _, _, _, _, _, _, _, _]) hC dL_areRows_55 rfl (Nat.le_of_ble_eq_true rfl) rfl ?_
  exact lp1 n 0 (by omega) none none none
theorem k_L_areRows {X : xF} {G : xG} {cs : Nat × Nat} {μ : xM} {I : xI} {P : xP} {L : List (Option Value)} {pc : Nat} {rest : List Value} {cc : ByteArray} {Ts : List Cond} {own : String} {nL : Nat} {R : Room} (hC : xC X G cc Ts own nL R) {index : Nat} (hG : GoodIn Ts (va_wsS own index yL_areRows wsL_areRows)) (hR : rm_L_areRows.frames + 1 ≤ R.frames ∧ 8 + (15 + 11) + rm_L_areRows.locals ≤ R.locals) {n rq cn : Nat} {S : Nat → Int32}  (hK : lK μ) (hV : lV I P S n rq cn) (hcb : cn < 1000000) (hW : (rest.map fun v => v.category).sum ≤ 8) (hL : L.length = nL) (hcs : cs.1 ≤ R.cells ∧ cs.2 ≤ R.slots) (hdec : decode cc pc = .ok (.invokestatic index, 3)) (kk : xg X G cs μ I P L (pc + 3) (.int (1) :: rest)) : xg X G cs μ I P L pc (.ref (xZ G + 260) :: .ref (xZ G + 259) :: .ref (xZ G + 258) :: .ref (xZ G + 257) :: .ref (xZ G + 256) :: .ref (xZ G + 255) :: .ref (xZ G + 1) :: rest) :=
  r_callS hC (c_L_areRows X.2.1 hK hV hcb) hG rfl rfl rfl hd_L_areRows.2 hR rfl rfl hW hL hcs hdec (by rintro v μ' I' P' ⟨rfl, rfl, rfl, rfl⟩; exact kk)
