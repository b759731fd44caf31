/-- calls on an empty roll -/
theorem r_empty {S : Nat → Int32} (h : S 0 = 0) : (okRow S 0 = false ∧ aCut S 0 = -1000001) ∧ (okMend S 0 = false ∧ aMend S 0 = -1000001) ∧ (okCrank S 1 1 = false ∧ aCrank S 1 1 = -1000002) ∧ okRoute S 1 = false ∧ aRoute S 1 = -1000001 := by
  have h1 : isR 0 (S 0) = 0 := by rw [h]; decide
  have h2 : mcr 1 1 (S 0) = -1000002 := by rw [h]; decide
  have h3 : inSet 1 (S 0) = 0 := by rw [h]; decide
  refine ⟨⟨by rw [okRow, if_pos h1], by rw [aCut, if_pos h1]⟩, ⟨by rw [okMend, if_pos h1], by rw [aMend, if_pos h1]⟩, ⟨by rw [okCrank, h2, if_neg (by decide)], by rw [aCrank, h2, if_neg (by decide)]⟩, by rw [okRoute, if_pos h3], by rw [aRoute, if_pos h3]⟩
theorem wl_L_rolls_71 : Cond.constant RL 71 (-1000001) ∈ wsL_rolls := List.mem_of_getElem? (i := 1) (by decide +kernel)
theorem wl_L_rolls_64 : Cond.constant RL 64 (-1000002) ∈ wsL_rolls := List.mem_of_getElem? (i := 2) (by decide +kernel)
theorem hd_L_rolls : yL_rolls.cls = RL ∧ yL_rolls.cls ≠ "java/lang/invoke/MethodHandle" ∧ yL_rolls.cls ≠ "java/lang/invoke/VarHandle" ∧ (parseMethodDescriptor yL_rolls.desc).map (fun d => d.parameters.length) = some 9 := ⟨rfl, by decide +kernel, by decide +kernel, by decide +kernel⟩
set_option maxHeartbeats 4000000 in
set_option maxRecDepth 100000 in
theorem c_L_rolls_0 (l : Launch) {G : xG} {μ : xM} {I : xI} {P : xP} {n rq cn : Nat} {S : Nat → Int32} {y : Nat} (hK : lK μ) (hV : lV I P S n rq cn) (hy : y < 10000000) : Ct l yL_rolls wsL_rolls rm_L_rolls G μ I P [.ref (xZ G + 1), .ref (xZ G + 255), .ref (xZ G + 256), .ref (xZ G + 257), .ref (xZ G + 258), .ref (xZ G + 259), .ref (xZ G + 260), .int 0, .int (nI y)] 0 0 (fun vv μ' I' P' => pW μ cn vv μ' I' P') := by
  have hK0 := hK
  obtain ⟨ko, hS, ⟨kg, ng⟩, ⟨kl, nl⟩, ⟨kw, nw⟩, ⟨ku, nu⟩, ⟨kc, nc⟩, ⟨kr, nr⟩⟩ := hK
  obtain ⟨hp, ⟨st, H, tx, hO⟩, hi, hA, hcc⟩ := hV
  have hA0 := hA
  have hi0 := hi
  obtain ⟨ag, ar, at_⟩ := hA
  obtain ⟨hn20, hn, hq6, hq, hcur, hdr, h8, h9, h10, hrows⟩ := hi
  have hcn : cN S = n := by rw [cN, hn, nI_clamp (by omega)]
  have hcq : cQn S = rq := by rw [cQn, hq, nI_clamp (by omega)]
  refine Ct.of (cc := cL_rolls) (maxL := 21) (ret := (some .boolean)) [some (.ref (xZ G + 1)), some (.ref (xZ G + 255)), some (.ref (xZ G + 256)), some (.ref (xZ G + 257)), some (.ref (xZ G + 258)), some (.ref (xZ G + 259)), some (.ref (xZ G + 260)), some (.int 0), some (.int (nI y)), none, none, none, none, none, none, none, none, none, none, none, none] (by decide) rfl rfl rfl (Nat.le_of_ble_eq_true rfl) ?_
  intro X hC hD h0 _
  refine r_aload_n (pc := 0) hC dL_rolls_0 rfl ?_
  refine r_iconst (pc := 1) (v := 0) hC dL_rolls_1 (by decide) ?_
  refine r_iald (pc := 2) hC kg (xi_l (k := 0) ng (by decide) (by decide) (by decide)) dL_rolls_2 ?_
  rw [ag 0 (by decide), hn]
  refine r_if_ne (pc := 3) (tgt := 53) hC dL_rolls_3 (by decide) (fun bq3 => ?_) (fun bq3 => ?_)
  · skip
    have hn1 : ¬ nI n = 0 := bq3
    have hn1p : 0 < n := by
      rcases Nat.eq_zero_or_pos n with w | w
      · exact absurd (by rw [w]; rfl) hn1
      · exact w
    have hrow : y % n < n := Nat.mod_lt _ hn1p
    refine r_iload (pc := 53) hC dL_rolls_53 rfl ?_
    refine r_aload_n (pc := 55) hC dL_rolls_55 rfl ?_
    refine r_iconst (pc := 56) (v := 0) hC dL_rolls_56 (by decide) ?_
    refine r_iald (pc := 57) hC kg (xi_l (k := 0) ng (by decide) (by decide) (by decide)) dL_rolls_57 ?_
    rw [ag 0 (by decide), hn]
    refine r_irem (pc := 58) hC dL_rolls_58 hn1 ?_
    rw [show nI y - nI y / nI n * nI n = nI (y % n) from pk_rem (by omega) hn1p (by omega)]
    refine r_istore (pc := 59) (L' := [_, _, _, _, _, _, _, _, _, _, _, _, _, _, _, _, _, _, _, _, _]) hC dL_rolls_59 rfl (Nat.le_of_ble_eq_true rfl) rfl ?_
    refine r_iload (pc := 61) hC dL_rolls_61 rfl ?_
    refine r_if_ne (pc := 63) (tgt := 250) hC dL_rolls_63 (by decide) (fun bq => (by first | exact absurd (rfl) bq | exact absurd bq (rfl))) (fun bq63 => ?_)
    exact s_L_rolls_66 hC hD hK0 hp hO hi0 hcc hA0 hrow
  · skip
    have hn0 : n = 0 := (nI_eq (b := 0) (by omega) (by decide)).mp bq3
    have hS0 : S 0 = 0 := by rw [hn, hn0]; rfl
    obtain ⟨⟨c1, c2⟩, ⟨m1, m2⟩, ⟨k1, k2⟩, r1, r2⟩ := r_empty hS0
    refine r_aload_n (pc := 6) hC dL_rolls_6 rfl ?_
    refine r_iconst (pc := 7) (v := 0) hC dL_rolls_7 (by decide) ?_
    refine k_X4_cut (pc := 8) hC gL_rolls_X4_cut ⟨Nat.le_of_ble_eq_true rfl, Nat.le_of_ble_eq_true rfl⟩ ko hS hp hO hi0 (Nat.le_of_ble_eq_true rfl) rfl ⟨Nat.zero_le _, Nat.zero_le _⟩ dL_rolls_8 ?_
    intro J8 Q8 rP8 rT8 rN8 rF8
    rw [c2]
    refine r_ldc (pc := 11) (v := -1000001) hC dL_rolls_11 wl_L_rolls_71 ?_
    refine r_icmp_ne (pc := 13) (tgt := 51) hC dL_rolls_13 (by decide) (fun bq => (by first | exact absurd (rfl) bq | exact absurd bq (rfl))) (fun bq13 => ?_)
    refine r_aload_n (pc := 16) hC dL_rolls_16 rfl ?_
    refine r_iconst (pc := 17) (v := 0) hC dL_rolls_17 (by decide) ?_
    refine k_X4_mend (pc := 18) hC gL_rolls_X4_mend ⟨Nat.le_of_ble_eq_true rfl, Nat.le_of_ble_eq_true rfl⟩ ko hS rP8 (rN8 c1) hi0 (Nat.le_of_ble_eq_true rfl) rfl ⟨Nat.zero_le _, Nat.zero_le _⟩ dL_rolls_18 ?_
    intro J18 Q18 rP18 rT18 rN18 rF18
    rw [m2]
    refine r_ldc (pc := 21) (v := -1000001) hC dL_rolls_21 wl_L_rolls_71 ?_
    refine r_icmp_ne (pc := 23) (tgt := 51) hC dL_rolls_23 (by decide) (fun bq => (by first | exact absurd (rfl) bq | exact absurd bq (rfl))) (fun bq23 => ?_)
    refine r_aload_n (pc := 26) hC dL_rolls_26 rfl ?_
    refine r_iconst (pc := 27) (v := 1) hC dL_rolls_27 (by decide) ?_
    refine r_iconst (pc := 28) (v := 1) hC dL_rolls_28 (by decide) ?_
    refine k_X4_crank (pc := 29) hC gL_rolls_X4_crank ⟨Nat.le_of_ble_eq_true rfl, Nat.le_of_ble_eq_true rfl⟩ ko hS rP18 (rN18 m1) hi0 (Nat.le_of_ble_eq_true rfl) rfl ⟨Nat.zero_le _, Nat.zero_le _⟩ dL_rolls_29 ?_
    intro J29 Q29 rP29 rT29 rN29 rF29
    rw [k2]
    refine r_ldc (pc := 32) (v := -1000002) hC dL_rolls_32 wl_L_rolls_64 ?_
    refine r_icmp_ne (pc := 34) (tgt := 51) hC dL_rolls_34 (by decide) (fun bq => (by first | exact absurd (rfl) bq | exact absurd bq (rfl))) (fun bq34 => ?_)
    refine r_aload_n (pc := 37) hC dL_rolls_37 rfl ?_
    refine r_iconst (pc := 38) (v := 1) hC dL_rolls_38 (by decide) ?_
    refine k_X4_route (pc := 39) hC gL_rolls_X4_route ⟨Nat.le_of_ble_eq_true rfl, Nat.le_of_ble_eq_true rfl⟩ ko hS rP29 (rN29 k1) hi0 (Nat.le_of_ble_eq_true rfl) rfl ⟨Nat.zero_le _, Nat.zero_le _⟩ dL_rolls_39 ?_
    intro J39 Q39 rP39 rT39 rN39 rF39
    rw [r2]
    refine r_ldc (pc := 42) (v := -1000001) hC dL_rolls_42 wl_L_rolls_71 ?_
    refine r_icmp_ne (pc := 44) (tgt := 51) hC dL_rolls_44 (by decide) (fun bq => (by first | exact absurd (rfl) bq | exact absurd bq (rfl))) (fun bq44 => ?_)
    refine r_iconst (pc := 47) (v := 1) hC dL_rolls_47 (by decide) ?_
    refine r_goto (pc := 48) (tgt := 52) hC dL_rolls_48 (by decide) ?_
    refine r_iret (pc := 52) hC hD rfl dL_rolls_52 rfl ?_
    exact ⟨rfl, rfl, S, n, rq, rP39, ⟨_, _, _, rN39 r1⟩, hi0, lA_cong hA0 (fun c h1 h2 => by rw [(rF39 c (by omega)).1, (rF29 c (by omega)).1, (rF18 c (by omega)).1]; exact (rF8 c (by omega)).1) (by rw [(rF39 259 (by decide)).2, (rF29 259 (by decide)).2, (rF18 259 (by decide)).2]; exact (rF8 259 (by decide)).2), lC_keep hcc rfl rfl (fun _ _ => rfl) (Nat.le_refl n)⟩
theorem k_L_rolls_0 {X : xF} {G : xG} {cs : Nat × Nat} {μ : xM} {I : xI} {P : xP} {L : List (Option Value)} {pc : Nat} {rest : List Value} {cc : ByteArray} {Ts : List Cond} {own : String} {nL : Nat} {R : Room} (hC : xC X G cc Ts own nL R) {index : Nat} (hG : GoodIn Ts (va_wsS own index yL_rolls wsL_rolls)) (hR : rm_L_rolls.frames + 1 ≤ R.frames ∧ 8 + (21 + 11) + rm_L_rolls.locals ≤ R.locals) {n rq cn : Nat} {S : Nat → Int32} {y : Nat} (hK : lK μ) (hV : lV I P S n rq cn) (hy : y < 10000000) (hW : (rest.map fun v => v.category).sum ≤ 8) (hL : L.length = nL) (hcs : cs.1 ≤ R.cells ∧ cs.2 ≤ R.slots) (hdec : decode cc pc = .ok (.invokestatic index, 3)) (kk : ∀ (I' : xI) (P' : xP) (S' : Nat → Int32) (n' rq' : Nat), lV I' P' S' n' rq' (cn + 1) → xg X G cs μ I' P' L (pc + 3) (.int 1 :: rest)) : xg X G cs μ I P L pc (.int (nI y) :: .int 0 :: .ref (xZ G + 260) :: .ref (xZ G + 259) :: .ref (xZ G + 258) :: .ref (xZ G + 257) :: .ref (xZ G + 256) :: .ref (xZ G + 255) :: .ref (xZ G + 1) :: rest) :=
  r_callS hC (c_L_rolls_0 X.2.1 hK hV hy) hG rfl rfl rfl hd_L_rolls.2 hR rfl rfl hW hL hcs hdec (by rintro vv μ' I' P' ⟨rfl, rfl, S', n', rq', h⟩; exact kk I' P' S' n' rq' h)
set_option maxHeartbeats 4000000 in
set_option maxRecDepth 100000 in
theorem c_L_rolls_1 (l : Launch) {G : xG} {μ : xM} {I : xI} {P : xP} {n rq cn : Nat} {S : Nat → Int32} {y : Nat} (hK : lK μ) (hV : lV I P S n rq cn) (hy : y < 10000000) : Ct l yL_rolls wsL_rolls rm_L_rolls G μ I P [.ref (xZ G + 1), .ref (xZ G + 255), .ref (xZ G + 256), .ref (xZ G + 257), .ref (xZ G + 258), .ref (xZ G + 259), .ref (xZ G + 260), .int 1, .int (nI y)] 0 0 (fun vv μ' I' P' => pW μ cn vv μ' I' P') := by
  have hK0 := hK
  obtain ⟨ko, hS, ⟨kg, ng⟩, ⟨kl, nl⟩, ⟨kw, nw⟩, ⟨ku, nu⟩, ⟨kc, nc⟩, ⟨kr, nr⟩⟩ := hK
  obtain ⟨hp, ⟨st, H, tx, hO⟩, hi, hA, hcc⟩ := hV
  have hA0 := hA
  have hi0 := hi
  obtain ⟨ag, ar, at_⟩ := hA
  obtain ⟨hn20, hn, hq6, hq, hcur, hdr, h8, h9, h10, hrows⟩ := hi
  have hcn : cN S = n := by rw [cN, hn, nI_clamp (by omega)]
  have hcq : cQn S = rq := by rw [cQn, hq, nI_clamp (by omega)]
  refine Ct.of (cc := cL_rolls) (maxL := 21) (ret := (some .boolean)) [some (.ref (xZ G + 1)), some (.ref (xZ G + 255)), some (.ref (xZ G + 256)), some (.ref (xZ G + 257)), some (.ref (xZ G + 258)), some (.ref (xZ G + 259)), some (.ref (xZ G + 260)), some (.int 1), some (.int (nI y)), none, none, none, none, none, none, none, none, none, none, none, none] (by decide) rfl rfl rfl (Nat.le_of_ble_eq_true rfl) ?_
  intro X hC hD h0 _
  refine r_aload_n (pc := 0) hC dL_rolls_0 rfl ?_
  refine r_iconst (pc := 1) (v := 0) hC dL_rolls_1 (by decide) ?_
  refine r_iald (pc := 2) hC kg (xi_l (k := 0) ng (by decide) (by decide) (by decide)) dL_rolls_2 ?_
  rw [ag 0 (by decide), hn]
  refine r_if_ne (pc := 3) (tgt := 53) hC dL_rolls_3 (by decide) (fun bq3 => ?_) (fun bq3 => ?_)
  · skip
    have hn1 : ¬ nI n = 0 := bq3
    have hn1p : 0 < n := by
      rcases Nat.eq_zero_or_pos n with w | w
      · exact absurd (by rw [w]; rfl) hn1
      · exact w
    have hrow : y % n < n := Nat.mod_lt _ hn1p
    refine r_iload (pc := 53) hC dL_rolls_53 rfl ?_
    refine r_aload_n (pc := 55) hC dL_rolls_55 rfl ?_
    refine r_iconst (pc := 56) (v := 0) hC dL_rolls_56 (by decide) ?_
    refine r_iald (pc := 57) hC kg (xi_l (k := 0) ng (by decide) (by decide) (by decide)) dL_rolls_57 ?_
    rw [ag 0 (by decide), hn]
    refine r_irem (pc := 58) hC dL_rolls_58 hn1 ?_
    rw [show nI y - nI y / nI n * nI n = nI (y % n) from pk_rem (by omega) hn1p (by omega)]
    refine r_istore (pc := 59) (L' := [_, _, _, _, _, _, _, _, _, _, _, _, _, _, _, _, _, _, _, _, _]) hC dL_rolls_59 rfl (Nat.le_of_ble_eq_true rfl) rfl ?_
    refine r_iload (pc := 61) hC dL_rolls_61 rfl ?_
    refine r_if_ne (pc := 63) (tgt := 250) hC dL_rolls_63 (by decide) (fun bq63 => ?_) (fun bq => (by first | exact absurd ((by decide : ¬ (1 : Int32) = 0)) bq | exact absurd bq ((by decide : ¬ (1 : Int32) = 0))))
    refine r_iload (pc := 250) hC dL_rolls_250 rfl ?_
    refine r_iconst (pc := 252) (v := 1) hC dL_rolls_252 (by decide) ?_
    refine r_icmp_ne (pc := 253) (tgt := 521) hC dL_rolls_253 (by decide) (fun bq => (by first | exact absurd (rfl) bq | exact absurd bq (rfl))) (fun bq253 => ?_)
    refine r_iload (pc := 256) hC dL_rolls_256 rfl ?_
    refine r_bipush (pc := 258) (v := 20) hC dL_rolls_258 (by decide) ?_
    refine r_idiv (pc := 260) hC dL_rolls_260 (by decide) ?_
    rw [show nI y / 20 = nI (y / 20) from pk_div (d := 20) (by omega) (by decide) (by decide)]
    refine r_aload_n (pc := 261) hC dL_rolls_261 rfl ?_
    refine r_iconst (pc := 262) (v := 0) hC dL_rolls_262 (by decide) ?_
    refine r_iald (pc := 263) hC kg (xi_l (k := 0) ng (by decide) (by decide) (by decide)) dL_rolls_263 ?_
    rw [ag 0 (by decide), hn]
    refine r_irem (pc := 264) hC dL_rolls_264 hn1 ?_
    rw [show nI (y / 20) - nI (y / 20) / nI n * nI n = nI (y / 20 % n) from pk_rem (by omega) hn1p (by omega)]
    refine r_istore (pc := 265) (L' := [_, _, _, _, _, _, _, _, _, _, _, _, _, _, _, _, _, _, _, _, _]) hC dL_rolls_265 rfl (Nat.le_of_ble_eq_true rfl) rfl ?_
    refine r_iload (pc := 267) hC dL_rolls_267 rfl ?_
    refine r_iload (pc := 269) hC dL_rolls_269 rfl ?_
    refine r_icmp_ne (pc := 271) (tgt := 293) hC dL_rolls_271 (by decide) (fun bq271 => ?_) (fun bq271 => ?_)
    · skip
      exact s_L_rolls_293 hC hD hK0 hp hO hi0 hcc hA0 hrow (Nat.mod_lt _ hn1p) (fun e => bq271 (by rw [e]))
    · skip
      have hns : okSwap S (nI (y % n)) (nI (y / 20 % n)) = false := by unfold okSwap; rw [if_pos bq271, ite_self, ite_self]
      refine r_aload_n (pc := 274) hC dL_rolls_274 rfl ?_
      refine r_iload (pc := 275) hC dL_rolls_275 rfl ?_
      refine r_iload (pc := 277) hC dL_rolls_277 rfl ?_
      refine k_X4_swap (pc := 279) hC gL_rolls_X4_swap ⟨Nat.le_of_ble_eq_true rfl, Nat.le_of_ble_eq_true rfl⟩ ko hS hp hO hi0 (Nat.le_of_ble_eq_true rfl) rfl ⟨Nat.zero_le _, Nat.zero_le _⟩ dL_rolls_279 ?_
      intro J279 Q279 rP279 rT279 rN279 rF279
      rw [show aSwap S (nI (y % n)) (nI (y / 20 % n)) = -1000001 from by rw [aSwap, if_neg (by rw [hns]; decide)]]
      refine r_ldc (pc := 282) (v := -1000001) hC dL_rolls_282 wl_L_rolls_71 ?_
      refine r_icmp_ne (pc := 284) (tgt := 291) hC dL_rolls_284 (by decide) (fun bq => (by first | exact absurd (rfl) bq | exact absurd bq (rfl))) (fun bq284 => ?_)
      refine r_iconst (pc := 287) (v := 1) hC dL_rolls_287 (by decide) ?_
      refine r_goto (pc := 288) (tgt := 292) hC dL_rolls_288 (by decide) ?_
      refine r_iret (pc := 292) hC hD rfl dL_rolls_292 rfl ?_
      exact ⟨rfl, rfl, S, n, rq, rP279, ⟨_, _, _, rN279 hns⟩, hi0, lA_cong hA0 (fun c h1 h2 => (rF279 c (by omega)).1) (rF279 259 (by decide)).2, lC_keep hcc rfl rfl (fun _ _ => rfl) (Nat.le_refl n)⟩
  · skip
    have hn0 : n = 0 := (nI_eq (b := 0) (by omega) (by decide)).mp bq3
    have hS0 : S 0 = 0 := by rw [hn, hn0]; rfl
    obtain ⟨⟨c1, c2⟩, ⟨m1, m2⟩, ⟨k1, k2⟩, r1, r2⟩ := r_empty hS0
    refine r_aload_n (pc := 6) hC dL_rolls_6 rfl ?_
    refine r_iconst (pc := 7) (v := 0) hC dL_rolls_7 (by decide) ?_
    refine k_X4_cut (pc := 8) hC gL_rolls_X4_cut ⟨Nat.le_of_ble_eq_true rfl, Nat.le_of_ble_eq_true rfl⟩ ko hS hp hO hi0 (Nat.le_of_ble_eq_true rfl) rfl ⟨Nat.zero_le _, Nat.zero_le _⟩ dL_rolls_8 ?_
    intro J8 Q8 rP8 rT8 rN8 rF8
    rw [c2]
    refine r_ldc (pc := 11) (v := -1000001) hC dL_rolls_11 wl_L_rolls_71 ?_
    refine r_icmp_ne (pc := 13) (tgt := 51) hC dL_rolls_13 (by decide) (fun bq => (by first | exact absurd (rfl) bq | exact absurd bq (rfl))) (fun bq13 => ?_)
    refine r_aload_n (pc := 16) hC dL_rolls_16 rfl ?_
    refine r_iconst (pc := 17) (v := 0) hC dL_rolls_17 (by decide) ?_
    refine k_X4_mend (pc := 18) hC gL_rolls_X4_mend ⟨Nat.le_of_ble_eq_true rfl, Nat.le_of_ble_eq_true rfl⟩ ko hS rP8 (rN8 c1) hi0 (Nat.le_of_ble_eq_true rfl) rfl ⟨Nat.zero_le _, Nat.zero_le _⟩ dL_rolls_18 ?_
    intro J18 Q18 rP18 rT18 rN18 rF18
    rw [m2]
    refine r_ldc (pc := 21) (v := -1000001) hC dL_rolls_21 wl_L_rolls_71 ?_
    refine r_icmp_ne (pc := 23) (tgt := 51) hC dL_rolls_23 (by decide) (fun bq => (by first | exact absurd (rfl) bq | exact absurd bq (rfl))) (fun bq23 => ?_)
    refine r_aload_n (pc := 26) hC dL_rolls_26 rfl ?_
    refine r_iconst (pc := 27) (v := 1) hC dL_rolls_27 (by decide) ?_
    refine r_iconst (pc := 28) (v := 1) hC dL_rolls_28 (by decide) ?_
    refine k_X4_crank (pc := 29) hC gL_rolls_X4_crank ⟨Nat.le_of_ble_eq_true rfl, Nat.le_of_ble_eq_true rfl⟩ ko hS rP18 (rN18 m1) hi0 (Nat.le_of_ble_eq_true rfl) rfl ⟨Nat.zero_le _, Nat.zero_le _⟩ dL_rolls_29 ?_
    intro J29 Q29 rP29 rT29 rN29 rF29
    rw [k2]
    refine r_ldc (pc := 32) (v := -1000002) hC dL_rolls_32 wl_L_rolls_64 ?_
    refine r_icmp_ne (pc := 34) (tgt := 51) hC dL_rolls_34 (by decide) (fun bq => (by first | exact absurd (rfl) bq | exact absurd bq (rfl))) (fun bq34 => ?_)
    refine r_aload_n (pc := 37) hC dL_rolls_37 rfl ?_
    refine r_iconst (pc := 38) (v := 1) hC dL_rolls_38 (by decide) ?_
    refine k_X4_route (pc := 39) hC gL_rolls_X4_route ⟨Nat.le_of_ble_eq_true rfl, Nat.le_of_ble_eq_true rfl⟩ ko hS rP29 (rN29 k1) hi0 (Nat.le_of_ble_eq_true rfl) rfl ⟨Nat.zero_le _, Nat.zero_le _⟩ dL_rolls_39 ?_
    intro J39 Q39 rP39 rT39 rN39 rF39
    rw [r2]
    refine r_ldc (pc := 42) (v := -1000001) hC dL_rolls_42 wl_L_rolls_71 ?_
    refine r_icmp_ne (pc := 44) (tgt := 51) hC dL_rolls_44 (by decide) (fun bq => (by first | exact absurd (rfl) bq | exact absurd bq (rfl))) (fun bq44 => ?_)
    refine r_iconst (pc := 47) (v := 1) hC dL_rolls_47 (by decide) ?_
    refine r_goto (pc := 48) (tgt := 52) hC dL_rolls_48 (by decide) ?_
    refine r_iret (pc := 52) hC hD rfl dL_rolls_52 rfl ?_
    exact ⟨rfl, rfl, S, n, rq, rP39, ⟨_, _, _, rN39 r1⟩, hi0, lA_cong hA0 (fun c h1 h2 => by rw [(rF39 c (by omega)).1, (rF29 c (by omega)).1, (rF18 c (by omega)).1]; exact (rF8 c (by omega)).1) (by rw [(rF39 259 (by decide)).2, (rF29 259 (by decide)).2, (rF18 259 (by decide)).2]; exact (rF8 259 (by decide)).2), lC_keep hcc rfl rfl (fun _ _ => rfl) (Nat.le_refl n)⟩
theorem k_L_rolls_1 {X : xF} {G : xG} {cs : Nat × Nat} {μ : xM} {I : xI} {P : xP} {L : List (Option Value)} {pc : Nat} {rest : List Value} {cc : ByteArray} {Ts : List Cond} {own : String} {nL : Nat} {R : Room} (hC : xC X G cc Ts own nL R) {index : Nat} (hG : GoodIn Ts (va_wsS own index yL_rolls wsL_rolls)) (hR : rm_L_rolls.frames + 1 ≤ R.frames ∧ 8 + (21 + 11) + rm_L_rolls.locals ≤ R.locals) {n rq cn : Nat} {S : Nat → Int32} {y : Nat} (hK : lK μ) (hV : lV I P S n rq cn) (hy : y < 10000000) (hW : (rest.map fun v => v.category).sum ≤ 8) (hL : L.length = nL) (hcs : cs.1 ≤ R.cells ∧ cs.2 ≤ R.slots) (hdec : decode cc pc = .ok (.invokestatic index, 3)) (kk : ∀ (I' : xI) (P' : xP) (S' : Nat → Int32) (n' rq' : Nat), lV I' P' S' n' rq' (cn + 1) → xg X G cs μ I' P' L (pc + 3) (.int 1 :: rest)) : xg X G cs μ I P L pc (.int (nI y) :: .int 1 :: .ref (xZ G + 260) :: .ref (xZ G + 259) :: .ref (xZ G + 258) :: .ref (xZ G + 257) :: .ref (xZ G + 256) :: .ref (xZ G + 255) :: .ref (xZ G + 1) :: rest) :=
  r_callS hC (c_L_rolls_1 X.2.1 hK hV hy) hG rfl rfl rfl hd_L_rolls.2 hR rfl rfl hW hL hcs hdec (by rintro vv μ' I' P' ⟨rfl, rfl, S', n', rq', h⟩; exact kk I' P' S' n' rq' h)
set_option maxHeartbeats 4000000 in
set_option maxRecDepth 100000 in
theorem c_L_rolls_2 (l : Launch) {G : xG} {μ : xM} {I : xI} {P : xP} {n rq cn : Nat} {S : Nat → Int32} {y : Nat} (hK : lK μ) (hV : lV I P S n rq cn) (hy : y < 10000000) : Ct l yL_rolls wsL_rolls rm_L_rolls G μ I P [.ref (xZ G + 1), .ref (xZ G + 255), .ref (xZ G + 256), .ref (xZ G + 257), .ref (xZ G + 258), .ref (xZ G + 259), .ref (xZ G + 260), .int 2, .int (nI y)] 0 0 (fun vv μ' I' P' => pW μ cn vv μ' I' P') := by
  have hK0 := hK
  obtain ⟨ko, hS, ⟨kg, ng⟩, ⟨kl, nl⟩, ⟨kw, nw⟩, ⟨ku, nu⟩, ⟨kc, nc⟩, ⟨kr, nr⟩⟩ := hK
  obtain ⟨hp, ⟨st, H, tx, hO⟩, hi, hA, hcc⟩ := hV
  have hA0 := hA
  have hi0 := hi
  obtain ⟨ag, ar, at_⟩ := hA
  obtain ⟨hn20, hn, hq6, hq, hcur, hdr, h8, h9, h10, hrows⟩ := hi
  have hcn : cN S = n := by rw [cN, hn, nI_clamp (by omega)]
  have hcq : cQn S = rq := by rw [cQn, hq, nI_clamp (by omega)]
  refine Ct.of (cc := cL_rolls) (maxL := 21) (ret := (some .boolean)) [some (.ref (xZ G + 1)), some (.ref (xZ G + 255)), some (.ref (xZ G + 256)), some (.ref (xZ G + 257)), some (.ref (xZ G + 258)), some (.ref (xZ G + 259)), some (.ref (xZ G + 260)), some (.int 2), some (.int (nI y)), none, none, none, none, none, none, none, none, none, none, none, none] (by decide) rfl rfl rfl (Nat.le_of_ble_eq_true rfl) ?_
  intro X hC hD h0 _
  refine r_aload_n (pc := 0) hC dL_rolls_0 rfl ?_
  refine r_iconst (pc := 1) (v := 0) hC dL_rolls_1 (by decide) ?_
  refine r_iald (pc := 2) hC kg (xi_l (k := 0) ng (by decide) (by decide) (by decide)) dL_rolls_2 ?_
  rw [ag 0 (by decide), hn]
  refine r_if_ne (pc := 3) (tgt := 53) hC dL_rolls_3 (by decide) (fun bq3 => ?_) (fun bq3 => ?_)
  · skip
    have hn1 : ¬ nI n = 0 := bq3
    have hn1p : 0 < n := by
      rcases Nat.eq_zero_or_pos n with w | w
      · exact absurd (by rw [w]; rfl) hn1
      · exact w
    have hrow : y % n < n := Nat.mod_lt _ hn1p
    refine r_iload (pc := 53) hC dL_rolls_53 rfl ?_
    refine r_aload_n (pc := 55) hC dL_rolls_55 rfl ?_
    refine r_iconst (pc := 56) (v := 0) hC dL_rolls_56 (by decide) ?_
    refine r_iald (pc := 57) hC kg (xi_l (k := 0) ng (by decide) (by decide) (by decide)) dL_rolls_57 ?_
    rw [ag 0 (by decide), hn]
    refine r_irem (pc := 58) hC dL_rolls_58 hn1 ?_
    rw [show nI y - nI y / nI n * nI n = nI (y % n) from pk_rem (by omega) hn1p (by omega)]
    refine r_istore (pc := 59) (L' := [_, _, _, _, _, _, _, _, _, _, _, _, _, _, _, _, _, _, _, _, _]) hC dL_rolls_59 rfl (Nat.le_of_ble_eq_true rfl) rfl ?_
    refine r_iload (pc := 61) hC dL_rolls_61 rfl ?_
    refine r_if_ne (pc := 63) (tgt := 250) hC dL_rolls_63 (by decide) (fun bq63 => ?_) (fun bq => (by first | exact absurd ((by decide : ¬ (2 : Int32) = 0)) bq | exact absurd bq ((by decide : ¬ (2 : Int32) = 0))))
    refine r_iload (pc := 250) hC dL_rolls_250 rfl ?_
    refine r_iconst (pc := 252) (v := 1) hC dL_rolls_252 (by decide) ?_
    refine r_icmp_ne (pc := 253) (tgt := 521) hC dL_rolls_253 (by decide) (fun bq253 => ?_) (fun bq => (by first | exact absurd ((by decide : ¬ (2 : Int32) = 1)) bq | exact absurd bq ((by decide : ¬ (2 : Int32) = 1))))
    refine r_iload (pc := 521) hC dL_rolls_521 rfl ?_
    refine r_iconst (pc := 523) (v := 2) hC dL_rolls_523 (by decide) ?_
    refine r_icmp_ne (pc := 524) (tgt := 585) hC dL_rolls_524 (by decide) (fun bq => (by first | exact absurd (rfl) bq | exact absurd bq (rfl))) (fun bq524 => ?_)
    have hir : ¬ isR (nI (y % n)) (S 0) = 0 := by rw [hn, isR_nI hrow (by omega)]; decide
    have hcl : (nI (y % n)).toNatClampNeg = y % n := nI_clamp (by omega)
    obtain ⟨v1, v2, v3, v4, v5⟩ := ar (y % n) hrow
    have hT : S (13 + 17 * (y % n)) = 0 ∨ S (13 + 17 * (y % n)) = 1 := (hrows _ hrow).choose_spec.2.2.2.2
    refine r_aload (pc := 527) hC dL_rolls_527 rfl ?_
    refine r_iload (pc := 529) hC dL_rolls_529 rfl ?_
    refine r_iald (pc := 531) hC ku (xi_n (k := (y % n)) (by rw [nu]; omega) (by rw [nu]; decide)) dL_rolls_531 ?_
    rw [v3]
    refine r_if_ne (pc := 532) (tgt := 552) hC dL_rolls_532 (by decide) (fun bq532 => ?_) (fun bq532 => ?_)
    · skip
      have h1t := hT.resolve_left bq532
      have hmk : okMend S (nI (y % n)) = true := by rw [okMend, if_neg hir, hcl, if_pos h1t]
      have hma : aMend S (nI (y % n)) = S (12 + 17 * (y % n)) / 2 := by rw [aMend, if_neg hir, hcl, if_pos h1t]
      have hsm : sMend S (nI (y % n)) = upd (upd S (12 + 17 * (y % n)) (S (12 + 17 * (y % n)) / 2)) (13 + 17 * (y % n)) 0 := by rw [sMend, if_pos hmk, hcl]
      refine r_aload_n (pc := 552) hC dL_rolls_552 rfl ?_
      refine r_iload (pc := 553) hC dL_rolls_553 rfl ?_
      refine r_dup2 (pc := 555) hC dL_rolls_555 rfl rfl ?_
      refine r_iald (pc := 556) hC kw (xi_n (k := (y % n)) (by rw [nw]; omega) (by rw [nw]; decide)) dL_rolls_556 ?_
      refine r_iconst (pc := 557) (v := 2) hC dL_rolls_557 (by decide) ?_
      refine r_idiv (pc := 558) hC dL_rolls_558 (by decide) ?_
      refine r_iast (pc := 559) hC kw (xi_n (k := (y % n)) (by rw [nw]; omega) (by rw [nw]; decide)) dL_rolls_559 ?_
      refine r_aload (pc := 560) hC dL_rolls_560 rfl ?_
      refine r_iload (pc := 562) hC dL_rolls_562 rfl ?_
      refine r_iconst (pc := 564) (v := 0) hC dL_rolls_564 (by decide) ?_
      refine r_iast (pc := 565) hC ku (xi_n (k := (y % n)) (by rw [nu]; omega) (by rw [nu]; decide)) dL_rolls_565 ?_
      refine r_aload_n (pc := 566) hC dL_rolls_566 rfl ?_
      refine r_iload (pc := 567) hC dL_rolls_567 rfl ?_
      obtain ⟨g1, g2⟩ := oR_law (J := (xu (xu I 257 (y % n) (I 257 (y % n) / 2)) 258 (y % n) 0)) (Q := P) hp hi0 hO (fun c hc => by rw [xu_row (by omega), xu_row (by omega)]) (fun c hc => rfl)
      have z1 : lA (xu (xu I 257 (y % n) (I 257 (y % n) / 2)) 258 (y % n) 0) P (sMend S (nI (y % n))) n rq := by rw [hsm, v2]; exact lA_u (lA_w hA0 hrow) hrow
      refine k_X4_mend (pc := 569) hC gL_rolls_X4_mend ⟨Nat.le_of_ble_eq_true rfl, Nat.le_of_ble_eq_true rfl⟩ ko hS g1 g2 hi0 (Nat.le_of_ble_eq_true rfl) rfl ⟨Nat.zero_le _, Nat.zero_le _⟩ dL_rolls_569 ?_
      intro J569 Q569 rP569 rT569 rN569 rF569
      refine r_aload_n (pc := 572) hC dL_rolls_572 rfl ?_
      refine r_iload (pc := 573) hC dL_rolls_573 rfl ?_
      refine r_iald (pc := 575) hC kw (xi_n (k := (y % n)) (by rw [nw]; omega) (by rw [nw]; decide)) dL_rolls_575 ?_
      rw [(rF569 257 (by decide)).1, xu_row (by decide), xu_at, v2]
      refine r_icmp_ne (pc := 576) (tgt := 583) hC dL_rolls_576 (by decide) (fun bq => (by first | exact absurd (hma) bq | exact absurd bq (hma))) (fun bq576 => ?_)
      refine r_iconst (pc := 579) (v := 1) hC dL_rolls_579 (by decide) ?_
      refine r_goto (pc := 580) (tgt := 584) hC dL_rolls_580 (by decide) ?_
      refine r_iret (pc := 584) hC hD rfl dL_rolls_584 rfl ?_
      have hfin : ∀ i, i < 12 ∨ 351 ≤ i → sMend S (nI (y % n)) i = S i := fun i h => by rw [hsm, upd_ne (by omega), upd_ne (by omega)]
      exact ⟨rfl, rfl, sMend S (nI (y % n)), n, rq, rP569, ⟨_, _, _, rT569 hmk⟩, inv_mend hi0 hmk, lA_cong z1 (fun c h1 h2 => (rF569 c (by omega)).1) (rF569 259 (by decide)).2, lC_keep hcc (hfin 6 (by decide)) (hfin 7 (by decide)) (fun i hh => hfin i (Or.inr hh)) (Nat.le_refl n)⟩
    · skip
      have hnt : ¬ S (13 + 17 * (y % n)) = 1 := fun e => absurd (e.symm.trans bq532) (by decide)
      have hnk : okMend S (nI (y % n)) = false := by rw [okMend, if_neg hir, hcl, if_neg hnt]
      refine r_aload_n (pc := 535) hC dL_rolls_535 rfl ?_
      refine r_iload (pc := 536) hC dL_rolls_536 rfl ?_
      refine k_X4_mend (pc := 538) hC gL_rolls_X4_mend ⟨Nat.le_of_ble_eq_true rfl, Nat.le_of_ble_eq_true rfl⟩ ko hS hp hO hi0 (Nat.le_of_ble_eq_true rfl) rfl ⟨Nat.zero_le _, Nat.zero_le _⟩ dL_rolls_538 ?_
      intro J538 Q538 rP538 rT538 rN538 rF538
      rw [show aMend S (nI (y % n)) = -1000002 from by rw [aMend, if_neg hir, hcl, if_neg hnt]]
      refine r_ldc (pc := 541) (v := -1000002) hC dL_rolls_541 wl_L_rolls_64 ?_
      refine r_icmp_ne (pc := 543) (tgt := 550) hC dL_rolls_543 (by decide) (fun bq => (by first | exact absurd (rfl) bq | exact absurd bq (rfl))) (fun bq543 => ?_)
      refine r_iconst (pc := 546) (v := 1) hC dL_rolls_546 (by decide) ?_
      refine r_goto (pc := 547) (tgt := 551) hC dL_rolls_547 (by decide) ?_
      refine r_iret (pc := 551) hC hD rfl dL_rolls_551 rfl ?_
      exact ⟨rfl, rfl, S, n, rq, rP538, ⟨_, _, _, rN538 hnk⟩, hi0, lA_cong hA0 (fun c h1 h2 => (rF538 c (by omega)).1) (rF538 259 (by decide)).2, lC_keep hcc rfl rfl (fun _ _ => rfl) (Nat.le_refl n)⟩
  · skip
    have hn0 : n = 0 := (nI_eq (b := 0) (by omega) (by decide)).mp bq3
    have hS0 : S 0 = 0 := by rw [hn, hn0]; rfl
    obtain ⟨⟨c1, c2⟩, ⟨m1, m2⟩, ⟨k1, k2⟩, r1, r2⟩ := r_empty hS0
    refine r_aload_n (pc := 6) hC dL_rolls_6 rfl ?_
    refine r_iconst (pc := 7) (v := 0) hC dL_rolls_7 (by decide) ?_
    refine k_X4_cut (pc := 8) hC gL_rolls_X4_cut ⟨Nat.le_of_ble_eq_true rfl, Nat.le_of_ble_eq_true rfl⟩ ko hS hp hO hi0 (Nat.le_of_ble_eq_true rfl) rfl ⟨Nat.zero_le _, Nat.zero_le _⟩ dL_rolls_8 ?_
    intro J8 Q8 rP8 rT8 rN8 rF8
    rw [c2]
    refine r_ldc (pc := 11) (v := -1000001) hC dL_rolls_11 wl_L_rolls_71 ?_
    refine r_icmp_ne (pc := 13) (tgt := 51) hC dL_rolls_13 (by decide) (fun bq => (by first | exact absurd (rfl) bq | exact absurd bq (rfl))) (fun bq13 => ?_)
    refine r_aload_n (pc := 16) hC dL_rolls_16 rfl ?_
    refine r_iconst (pc := 17) (v := 0) hC dL_rolls_17 (by decide) ?_
    refine k_X4_mend (pc := 18) hC gL_rolls_X4_mend ⟨Nat.le_of_ble_eq_true rfl, Nat.le_of_ble_eq_true rfl⟩ ko hS rP8 (rN8 c1) hi0 (Nat.le_of_ble_eq_true rfl) rfl ⟨Nat.zero_le _, Nat.zero_le _⟩ dL_rolls_18 ?_
    intro J18 Q18 rP18 rT18 rN18 rF18
    rw [m2]
    refine r_ldc (pc := 21) (v := -1000001) hC dL_rolls_21 wl_L_rolls_71 ?_
    refine r_icmp_ne (pc := 23) (tgt := 51) hC dL_rolls_23 (by decide) (fun bq => (by first | exact absurd (rfl) bq | exact absurd bq (rfl))) (fun bq23 => ?_)
    refine r_aload_n (pc := 26) hC dL_rolls_26 rfl ?_
    refine r_iconst (pc := 27) (v := 1) hC dL_rolls_27 (by decide) ?_
    refine r_iconst (pc := 28) (v := 1) hC dL_rolls_28 (by decide) ?_
    refine k_X4_crank (pc := 29) hC gL_rolls_X4_crank ⟨Nat.le_of_ble_eq_true rfl, Nat.le_of_ble_eq_true rfl⟩ ko hS rP18 (rN18 m1) hi0 (Nat.le_of_ble_eq_true rfl) rfl ⟨Nat.zero_le _, Nat.zero_le _⟩ dL_rolls_29 ?_
    intro J29 Q29 rP29 rT29 rN29 rF29
    rw [k2]
    refine r_ldc (pc := 32) (v := -1000002) hC dL_rolls_32 wl_L_rolls_64 ?_
    refine r_icmp_ne (pc := 34) (tgt := 51) hC dL_rolls_34 (by decide) (fun bq => (by first | exact absurd (rfl) bq | exact absurd bq (rfl))) (fun bq34 => ?_)
    refine r_aload_n (pc := 37) hC dL_rolls_37 rfl ?_
    refine r_iconst (pc := 38) (v := 1) hC dL_rolls_38 (by decide) ?_
    refine k_X4_route (pc := 39) hC gL_rolls_X4_route ⟨Nat.le_of_ble_eq_true rfl, Nat.le_of_ble_eq_true rfl⟩ ko hS rP29 (rN29 k1) hi0 (Nat.le_of_ble_eq_true rfl) rfl ⟨Nat.zero_le _, Nat.zero_le _⟩ dL_rolls_39 ?_
    intro J39 Q39 rP39 rT39 rN39 rF39
    rw [r2]
    refine r_ldc (pc := 42) (v := -1000001) hC dL_rolls_42 wl_L_rolls_71 ?_
    refine r_icmp_ne (pc := 44) (tgt := 51) hC dL_rolls_44 (by decide) (fun bq => (by first | exact absurd (rfl) bq | exact absurd bq (rfl))) (fun bq44 => ?_)
    refine r_iconst (pc := 47) (v := 1) hC dL_rolls_47 (by decide) ?_
    refine r_goto (pc := 48) (tgt := 52) hC dL_rolls_48 (by decide) ?_
    refine r_iret (pc := 52) hC hD rfl dL_rolls_52 rfl ?_
    exact ⟨rfl, rfl, S, n, rq, rP39, ⟨_, _, _, rN39 r1⟩, hi0, lA_cong hA0 (fun c h1 h2 => by rw [(rF39 c (by omega)).1, (rF29 c (by omega)).1, (rF18 c (by omega)).1]; exact (rF8 c (by omega)).1) (by rw [(rF39 259 (by decide)).2, (rF29 259 (by decide)).2, (rF18 259 (by decide)).2]; exact (rF8 259 (by decide)).2), lC_keep hcc rfl rfl (fun _ _ => rfl) (Nat.le_refl n)⟩
theorem k_L_rolls_2 {X : xF} {G : xG} {cs : Nat × Nat} {μ : xM} {I : xI} {P : xP} {L : List (Option Value)} {pc : Nat} {rest : List Value} {cc : ByteArray} {Ts : List Cond} {own : String} {nL : Nat} {R : Room} (hC : xC X G cc Ts own nL R) {index : Nat} (hG : GoodIn Ts (va_wsS own index yL_rolls wsL_rolls)) (hR : rm_L_rolls.frames + 1 ≤ R.frames ∧ 8 + (21 + 11) + rm_L_rolls.locals ≤ R.locals) {n rq cn : Nat} {S : Nat → Int32} {y : Nat} (hK : lK μ) (hV : lV I P S n rq cn) (hy : y < 10000000) (hW : (rest.map fun v => v.category).sum ≤ 8) (hL : L.length = nL) (hcs : cs.1 ≤ R.cells ∧ cs.2 ≤ R.slots) (hdec : decode cc pc = .ok (.invokestatic index, 3)) (kk : ∀ (I' : xI) (P' : xP) (S' : Nat → Int32) (n' rq' : Nat), lV I' P' S' n' rq' (cn + 1) → xg X G cs μ I' P' L (pc + 3) (.int 1 :: rest)) : xg X G cs μ I P L pc (.int (nI y) :: .int 2 :: .ref (xZ G + 260) :: .ref (xZ G + 259) :: .ref (xZ G + 258) :: .ref (xZ G + 257) :: .ref (xZ G + 256) :: .ref (xZ G + 255) :: .ref (xZ G + 1) :: rest) :=
  r_callS hC (c_L_rolls_2 X.2.1 hK hV hy) hG rfl rfl rfl hd_L_rolls.2 hR rfl rfl hW hL hcs hdec (by rintro vv μ' I' P' ⟨rfl, rfl, S', n', rq', h⟩; exact kk I' P' S' n' rq' h)
