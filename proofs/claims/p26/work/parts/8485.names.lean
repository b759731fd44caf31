theorem hd_L_names : yL_names.cls = RL ∧ yL_names.cls ≠ "java/lang/invoke/MethodHandle" ∧ yL_names.cls ≠ "java/lang/invoke/VarHandle" ∧ (parseMethodDescriptor yL_names.desc).map (fun d => d.parameters.length) = some 7 := ⟨rfl, by decide +kernel, by decide +kernel, by decide +kernel⟩
set_option maxHeartbeats 4000000 in
set_option maxRecDepth 100000 in
theorem c_L_names (l : Launch) {G : xG} {μ : xM} {I : xI} {P : xP} {n rq cn : Nat} {S : Nat → Int32} {y : Nat} (hK : lK μ) (hV : lV I P S n rq cn) (hy : y < 10000000) : Ct l yL_names wsL_names rm_L_names G μ I P [.ref (xZ G + 1), .ref (xZ G + 255), .ref (xZ G + 256), .ref (xZ G + 257), .ref (xZ G + 258), .ref (xZ G + 259), .int (nI y)] 0 0 (fun vv μ' I' P' => pW μ cn vv μ' I' P') := by
  have hK0 := hK
  obtain ⟨ko, hS, ⟨kg, ng⟩, ⟨kl, nl⟩, ⟨kw, nw⟩, ⟨ku, nu⟩, ⟨kc, nc⟩, ⟨kr, nr⟩⟩ := hK
  obtain ⟨hp, ⟨st, H, tx, hO⟩, hi, hA, hcc⟩ := hV
  have hA0 := hA
  have hi0 := hi
  obtain ⟨ag, ar, at_⟩ := hA
  obtain ⟨hn20, hn, hq6, hq, hcur, hdr, h8, h9, h10, hrows⟩ := hi
  have hcn : cN S = n := by rw [cN, hn, nI_clamp (by omega)]
  have hcq : cQn S = rq := by rw [cQn, hq, nI_clamp (by omega)]
  have e7 : nI y / 7 = nI (y / 7) := pk_div (d := 7) (by omega) (by decide) (by decide)
  have e4 : nI y - nI y / 4 * 4 = nI (y % 4) := pk_rem (d := 4) (by omega) (by decide) (by decide)
  have e9 : nI y - nI y / 9 * 9 = nI (y % 9) := pk_rem (d := 9) (by omega) (by decide) (by decide)
  have e14 : nI (y / 7) - nI (y / 7) / 14 * 14 = nI (y / 7 % 14) := pk_rem (d := 14) (by omega) (by decide) (by decide)
  have e77 : nI (y / 7) - nI (y / 7) / 7 * 7 = nI (y / 7 % 7) := pk_rem (d := 7) (by omega) (by decide) (by decide)
  refine Ct.of (cc := cL_names) (maxL := 16) (ret := (some .boolean)) [some (.ref (xZ G + 1)), some (.ref (xZ G + 255)), some (.ref (xZ G + 256)), some (.ref (xZ G + 257)), some (.ref (xZ G + 258)), some (.ref (xZ G + 259)), some (.int (nI y)), none, none, none, none, none, none, none, none, none] (by decide) rfl rfl rfl (Nat.le_of_ble_eq_true rfl) ?_
  intro X hC hD h0 _
  refine r_iconst (pc := 0) (v := 1) hC dL_names_0 (by decide) ?_
  refine r_iload (pc := 1) hC dL_names_1 rfl ?_
  refine r_bipush (pc := 3) (v := 7) hC dL_names_3 (by decide) ?_
  refine r_idiv (pc := 5) hC dL_names_5 (by decide) ?_
  rw [e7]
  refine r_iload (pc := 6) hC dL_names_6 rfl ?_
  refine r_iconst (pc := 8) (v := 4) hC dL_names_8 (by decide) ?_
  refine r_irem (pc := 9) hC dL_names_9 (by decide) ?_
  rw [e4]
  refine r_if_ne (pc := 10) (tgt := 18) hC dL_names_10 (by decide) (fun bq10 => ?_) (fun bq10 => ?_)
  · skip
    refine r_bipush (pc := 18) (v := 7) hC dL_names_18 (by decide) ?_
    refine r_irem (pc := 20) hC dL_names_20 (by decide) ?_
    rw [e77]
    refine r_iadd (pc := 21) hC dL_names_21 ?_
    refine r_istore (pc := 22) (L' := [_, _, _, _, _, _, _, _, _, _, _, _, _, _, _, _]) hC dL_names_22 rfl (Nat.le_of_ble_eq_true rfl) rfl ?_
    refine r_iload (pc := 24) hC dL_names_24 rfl ?_
    refine r_bipush (pc := 26) (v := 9) hC dL_names_26 (by decide) ?_
    refine r_irem (pc := 28) hC dL_names_28 (by decide) ?_
    rw [e9]
    refine r_iconst (pc := 29) (v := 2) hC dL_names_29 (by decide) ?_
    refine r_icmp_ge (pc := 30) (tgt := 43) hC dL_names_30 (by decide) (fun bq30 => ?_) (fun bq30 => ?_)
    · skip
      refine r_iconst (pc := 43) (v := 0) hC dL_names_43 (by decide) ?_
      skip
      refine r_istore (pc := 44) (L' := [_, _, _, _, _, _, _, _, _, _, _, _, _, _, _, _]) hC dL_names_44 rfl (Nat.le_of_ble_eq_true rfl) rfl ?_
      refine r_iload (pc := 46) hC dL_names_46 rfl ?_
      refine r_if_le (pc := 48) (tgt := 55) hC dL_names_48 (by decide) (fun bq48 => ?_) (fun bq48 => ?_)
      · skip
        refine r_iload (pc := 55) hC dL_names_55 rfl ?_
        refine r_istore (pc := 57) (L' := [_, _, _, _, _, _, _, _, _, _, _, _, _, _, _, _]) hC dL_names_57 rfl (Nat.le_of_ble_eq_true rfl) rfl ?_
        have hk9 : nKd y = 0 := by
          have : ¬ y % 9 < 2 := fun w => absurd bq30 (nI_ge (a := y % 9) (b := 2) w (by decide))
          unfold nKd; rw [if_neg this]
        have hs9 : nSz y = 1 + y / 7 % 7 := by
          unfold nSz; rw [if_neg (by omega), if_neg (fun e => bq10 (by rw [e]; rfl))]
        have z := s_L_names_59 (y := y) hC hD hK0 hy hp hO hi0 hcc hA0
        rw [hs9, hk9] at z
        rw [show nI (1 + y / 7 % 7) = 1 + nI (y / 7 % 7) from (nI_add 1 _).symm] at z
        exact z
      · skip
        exact absurd (show (0 : Int32) ≤ 0 by decide) bq48
    · skip
      refine r_iload (pc := 33) hC dL_names_33 rfl ?_
      refine r_bipush (pc := 35) (v := 9) hC dL_names_35 (by decide) ?_
      refine r_irem (pc := 37) hC dL_names_37 (by decide) ?_
      rw [e9]
      refine r_iconst (pc := 38) (v := 1) hC dL_names_38 (by decide) ?_
      refine r_iadd (pc := 39) hC dL_names_39 ?_
      refine r_goto (pc := 40) (tgt := 44) hC dL_names_40 (by decide) ?_
      rw [nI_1]
      refine r_istore (pc := 44) (L' := [_, _, _, _, _, _, _, _, _, _, _, _, _, _, _, _]) hC dL_names_44 rfl (Nat.le_of_ble_eq_true rfl) rfl ?_
      refine r_iload (pc := 46) hC dL_names_46 rfl ?_
      refine r_if_le (pc := 48) (tgt := 55) hC dL_names_48 (by decide) (fun bq48 => ?_) (fun bq48 => ?_)
      · skip
        exact absurd bq48 (nI_nle (by omega) (by omega))
      · skip
        refine r_iconst (pc := 51) (v := 5) hC dL_names_51 (by decide) ?_
        refine r_goto (pc := 52) (tgt := 57) hC dL_names_52 (by decide) ?_
        refine r_istore (pc := 57) (L' := [_, _, _, _, _, _, _, _, _, _, _, _, _, _, _, _]) hC dL_names_57 rfl (Nat.le_of_ble_eq_true rfl) rfl ?_
        have hk9 : nKd y = y % 9 + 1 := by
          have : y % 9 < 2 := (nI_ltI (b := 2) (by omega) (by decide)).mp (Int32.not_le.mp bq30)
          unfold nKd; rw [if_pos this]
        have hs9 : nSz y = 5 := by unfold nSz; rw [if_pos (by omega)]
        have z := s_L_names_59 (y := y) hC hD hK0 hy hp hO hi0 hcc hA0
        rw [hs9, hk9] at z
        exact z
  · skip
    refine r_bipush (pc := 13) (v := 14) hC dL_names_13 (by decide) ?_
    refine r_goto (pc := 15) (tgt := 20) hC dL_names_15 (by decide) ?_
    refine r_irem (pc := 20) hC dL_names_20 (by decide) ?_
    rw [e14]
    refine r_iadd (pc := 21) hC dL_names_21 ?_
    refine r_istore (pc := 22) (L' := [_, _, _, _, _, _, _, _, _, _, _, _, _, _, _, _]) hC dL_names_22 rfl (Nat.le_of_ble_eq_true rfl) rfl ?_
    refine r_iload (pc := 24) hC dL_names_24 rfl ?_
    refine r_bipush (pc := 26) (v := 9) hC dL_names_26 (by decide) ?_
    refine r_irem (pc := 28) hC dL_names_28 (by decide) ?_
    rw [e9]
    refine r_iconst (pc := 29) (v := 2) hC dL_names_29 (by decide) ?_
    refine r_icmp_ge (pc := 30) (tgt := 43) hC dL_names_30 (by decide) (fun bq30 => ?_) (fun bq30 => ?_)
    · skip
      refine r_iconst (pc := 43) (v := 0) hC dL_names_43 (by decide) ?_
      skip
      refine r_istore (pc := 44) (L' := [_, _, _, _, _, _, _, _, _, _, _, _, _, _, _, _]) hC dL_names_44 rfl (Nat.le_of_ble_eq_true rfl) rfl ?_
      refine r_iload (pc := 46) hC dL_names_46 rfl ?_
      refine r_if_le (pc := 48) (tgt := 55) hC dL_names_48 (by decide) (fun bq48 => ?_) (fun bq48 => ?_)
      · skip
        refine r_iload (pc := 55) hC dL_names_55 rfl ?_
        refine r_istore (pc := 57) (L' := [_, _, _, _, _, _, _, _, _, _, _, _, _, _, _, _]) hC dL_names_57 rfl (Nat.le_of_ble_eq_true rfl) rfl ?_
        have hk9 : nKd y = 0 := by
          have : ¬ y % 9 < 2 := fun w => absurd bq30 (nI_ge (a := y % 9) (b := 2) w (by decide))
          unfold nKd; rw [if_neg this]
        have hs9 : nSz y = 1 + y / 7 % 14 := by
          unfold nSz; rw [if_neg (by omega), if_pos ((nI_eq (b := 0) (by omega) (by decide)).mp bq10)]
        have z := s_L_names_59 (y := y) hC hD hK0 hy hp hO hi0 hcc hA0
        rw [hs9, hk9] at z
        rw [show nI (1 + y / 7 % 14) = 1 + nI (y / 7 % 14) from (nI_add 1 _).symm] at z
        exact z
      · skip
        exact absurd (show (0 : Int32) ≤ 0 by decide) bq48
    · skip
      refine r_iload (pc := 33) hC dL_names_33 rfl ?_
      refine r_bipush (pc := 35) (v := 9) hC dL_names_35 (by decide) ?_
      refine r_irem (pc := 37) hC dL_names_37 (by decide) ?_
      rw [e9]
      refine r_iconst (pc := 38) (v := 1) hC dL_names_38 (by decide) ?_
      refine r_iadd (pc := 39) hC dL_names_39 ?_
      refine r_goto (pc := 40) (tgt := 44) hC dL_names_40 (by decide) ?_
      rw [nI_1]
      refine r_istore (pc := 44) (L' := [_, _, _, _, _, _, _, _, _, _, _, _, _, _, _, _]) hC dL_names_44 rfl (Nat.le_of_ble_eq_true rfl) rfl ?_
      refine r_iload (pc := 46) hC dL_names_46 rfl ?_
      refine r_if_le (pc := 48) (tgt := 55) hC dL_names_48 (by decide) (fun bq48 => ?_) (fun bq48 => ?_)
      · skip
        exact absurd bq48 (nI_nle (by omega) (by omega))
      · skip
        refine r_iconst (pc := 51) (v := 5) hC dL_names_51 (by decide) ?_
        refine r_goto (pc := 52) (tgt := 57) hC dL_names_52 (by decide) ?_
        refine r_istore (pc := 57) (L' := [_, _, _, _, _, _, _, _, _, _, _, _, _, _, _, _]) hC dL_names_57 rfl (Nat.le_of_ble_eq_true rfl) rfl ?_
        have hk9 : nKd y = y % 9 + 1 := by
          have : y % 9 < 2 := (nI_ltI (b := 2) (by omega) (by decide)).mp (Int32.not_le.mp bq30)
          unfold nKd; rw [if_pos this]
        have hs9 : nSz y = 5 := by unfold nSz; rw [if_pos (by omega)]
        have z := s_L_names_59 (y := y) hC hD hK0 hy hp hO hi0 hcc hA0
        rw [hs9, hk9] at z
        exact z
theorem k_L_names {X : xF} {G : xG} {cs : Nat × Nat} {μ : xM} {I : xI} {P : xP} {L : List (Option Value)} {pc : Nat} {rest : List Value} {cc : ByteArray} {Ts : List Cond} {own : String} {nL : Nat} {R : Room} (hC : xC X G cc Ts own nL R) {index : Nat} (hG : GoodIn Ts (va_wsS own index yL_names wsL_names)) (hR : rm_L_names.frames + 1 ≤ R.frames ∧ 8 + (16 + 11) + rm_L_names.locals ≤ R.locals) {n rq cn : Nat} {S : Nat → Int32} {y : Nat} (hK : lK μ) (hV : lV I P S n rq cn) (hy : y < 10000000) (hW : (rest.map fun v => v.category).sum ≤ 8) (hL : L.length = nL) (hcs : cs.1 ≤ R.cells ∧ cs.2 ≤ R.slots) (hdec : decode cc pc = .ok (.invokestatic index, 3)) (kk : ∀ (I' : xI) (P' : xP) (S' : Nat → Int32) (n' rq' : Nat), lV I' P' S' n' rq' (cn + 1) → xg X G cs μ I' P' L (pc + 3) (.int 1 :: rest)) : xg X G cs μ I P L pc (.int (nI y) :: .ref (xZ G + 259) :: .ref (xZ G + 258) :: .ref (xZ G + 257) :: .ref (xZ G + 256) :: .ref (xZ G + 255) :: .ref (xZ G + 1) :: rest) :=
  r_callS hC (c_L_names X.2.1 hK hV hy) hG rfl rfl rfl hd_L_names.2 hR rfl rfl hW hL hcs hdec (by rintro vv μ' I' P' ⟨rfl, rfl, S', n', rq', h⟩; exact kk I' P' S' n' rq' h)
