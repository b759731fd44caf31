theorem drv_ok {S : Nat → Int32} {n q j : Nat} (hi : invN S n q) (hj : j ≤ q) : okDrive S (nI j - 1) = true ∧ aDrive S (nI j - 1) = S 3 ∧ sDrive S (nI j - 1) = upd S 3 (nI j - 1) ∧ okDrive (upd S 3 (nI j - 1)) (nI q) = false ∧ aDrive (upd S 3 (nI j - 1)) (nI q) = -1000001 := by
  have hq6 := hi.2.2.1
  have hq := hi.2.2.2.1
  have o1 : okDrive S (nI j - 1) = true := by
    unfold okDrive
    cases j with
    | zero => rw [if_pos (by decide)]
    | succ j =>
      rw [nI_pred]
      by_cases e : nI j = -1
      · rw [if_pos e]
      · rw [if_neg e, hq, isR_nI (by omega) (by omega), if_neg (by decide)]
  have o2 : okDrive (upd S 3 (nI j - 1)) (nI q) = false := by
    unfold okDrive
    rw [if_neg (fun e => nI_pos (n := q) (by omega) (by rw [e]; decide)), upd_ne (by decide), hq, isR_out (Nat.le_refl q) (by omega), if_pos rfl]
  exact ⟨o1, by rw [aDrive, if_pos o1], by rw [sDrive, if_pos o1], o2, by rw [aDrive, if_neg (by rw [o2]; decide)]⟩
theorem set_in {c v lo hi : Nat} (h0 : inr (nI c) 0 2 = 1) (hl : setLo (nI c) = nI lo) (hh : setHi (nI c) = nI hi) (h1 : lo ≤ v) (h2 : v ≤ hi) (hb : hi < 1000) : okSet (nI c) (nI v) = true := by
  have h3 : inr (nI v) (nI lo) (nI hi) = 1 := by
    unfold inr
    rw [if_neg (nI_nlt h1 (by omega)), if_neg (nI_nlt h2 (by omega))]
  rw [okSet, h0, if_neg (by decide), hl, hh, h3, if_neg (by decide)]
theorem set_in_0 {v : Nat} (h1 : 4 ≤ v) (h2 : v ≤ 60) : okSet (nI 0) (nI v) = true := set_in (lo := 4) (hi := 60) (by decide) (by decide) (by decide) h1 h2 (by decide)
theorem set_in_1 {v : Nat} (h1 : 1 ≤ v) (h2 : v ≤ 200) : okSet (nI 1) (nI v) = true := set_in (lo := 1) (hi := 200) (by decide) (by decide) (by decide) h1 h2 (by decide)
theorem set_in_2 {v : Nat} (h1 : 1 ≤ v) (h2 : v ≤ 50) : okSet (nI 2) (nI v) = true := set_in (lo := 1) (hi := 50) (by decide) (by decide) (by decide) h1 h2 (by decide)
abbrev rm_L_acts : Room := { frames := 9, cells := 0, slots := 0, locals := 191 }
theorem wl_L_acts_92 : Cond.constant RL 92 (10000000) ∈ wsL_acts := List.mem_of_getElem? (i := 1) (by decide +kernel)
theorem wl_L_acts_71 : Cond.constant RL 71 (-1000001) ∈ wsL_acts := List.mem_of_getElem? (i := 2) (by decide +kernel)
theorem hd_L_acts : yL_acts.cls = RL ∧ yL_acts.cls ≠ "java/lang/invoke/MethodHandle" ∧ yL_acts.cls ≠ "java/lang/invoke/VarHandle" ∧ (parseMethodDescriptor yL_acts.desc).map (fun d => d.parameters.length) = some 8 := ⟨rfl, by decide +kernel, by decide +kernel, by decide +kernel⟩
set_option maxHeartbeats 4000000 in
set_option maxRecDepth 100000 in
theorem c_L_acts (l : Launch) {G : xG} {μ : xM} {I : xI} {P : xP} {n rq cn : Nat} {S : Nat → Int32} {z : Int32} (hK : lK μ) (hV : lV I P S n rq cn) : Ct l yL_acts wsL_acts rm_L_acts G μ I P [.ref (xZ G + 1), .ref (xZ G + 255), .ref (xZ G + 256), .ref (xZ G + 257), .ref (xZ G + 258), .ref (xZ G + 259), .ref (xZ G + 260), .int z] 0 0 (fun vv μ' I' P' => pW μ cn vv μ' I' P') := by
  have hK0 := hK
  have hV0 := hV
  obtain ⟨ko, hS, ⟨kg, ng⟩, ⟨kl, nl⟩, ⟨kw, nw⟩, ⟨ku, nu⟩, ⟨kc, nc⟩, ⟨kr, nr⟩⟩ := hK
  obtain ⟨hp, ⟨st, H, tx, hO⟩, hi, hA, hcc⟩ := hV
  have hA0 := hA
  have hi0 := hi
  obtain ⟨ag, ar, at_⟩ := hA
  obtain ⟨hn20, hn, hq6, hq, hcur, hdr, h8, h9, h10, hrows⟩ := hi
  have hcn : cN S = n := by rw [cN, hn, nI_clamp (by omega)]
  have hcq : cQn S = rq := by rw [cQn, hq, nI_clamp (by omega)]
  refine Ct.of (cc := cL_acts) (maxL := 12) (ret := (some .boolean)) [some (.ref (xZ G + 1)), some (.ref (xZ G + 255)), some (.ref (xZ G + 256)), some (.ref (xZ G + 257)), some (.ref (xZ G + 258)), some (.ref (xZ G + 259)), some (.ref (xZ G + 260)), some (.int z), none, none, none, none] (by decide) rfl rfl rfl (Nat.le_of_ble_eq_true rfl) ?_
  intro X hC hD h0 _
  refine r_iload (pc := 0) hC dL_acts_0 rfl ?_
  refine r_iconst (pc := 2) (v := 5) hC dL_acts_2 (by decide) ?_
  refine r_ishr (pc := 3) hC dL_acts_3 ?_
  refine r_ldc (pc := 4) (v := 10000000) hC dL_acts_4 wl_L_acts_92 ?_
  refine k_L_low (pc := 6) hC gL_acts_L_low ⟨Nat.le_of_ble_eq_true rfl, Nat.le_of_ble_eq_true rfl⟩ (by decide) (Nat.le_of_ble_eq_true rfl) rfl ⟨Nat.zero_le _, Nat.zero_le _⟩ dL_acts_6 ?_
  obtain ⟨y, hy, ey⟩ := lowI_n (v := z >>> ((5 : Int32) &&& 31)) (m := 10000000) (by decide) (by decide)
  rw [show lowI (z >>> ((5 : Int32) &&& 31)) 10000000 = nI y from ey]
  refine r_istore (pc := 9) (L' := [_, _, _, _, _, _, _, _, _, _, _, _]) hC dL_acts_9 rfl (Nat.le_of_ble_eq_true rfl) rfl ?_
  refine r_iload (pc := 11) hC dL_acts_11 rfl ?_
  refine r_bipush (pc := 13) (v := 32) hC dL_acts_13 (by decide) ?_
  refine k_L_low (pc := 15) hC gL_acts_L_low ⟨Nat.le_of_ble_eq_true rfl, Nat.le_of_ble_eq_true rfl⟩ (by decide) (Nat.le_of_ble_eq_true rfl) rfl ⟨Nat.zero_le _, Nat.zero_le _⟩ dL_acts_15 ?_
  obtain ⟨wy, hwy, ew⟩ := lowI_n (v := z) (m := 32) (by decide) (by decide)
  rw [show lowI z 32 = nI wy from ew]
  refine r_istore (pc := 18) (L' := [_, _, _, _, _, _, _, _, _, _, _, _]) hC dL_acts_18 rfl (Nat.le_of_ble_eq_true rfl) rfl ?_
  refine r_iload (pc := 20) hC dL_acts_20 rfl ?_
  refine r_bipush (pc := 22) (v := 9) hC dL_acts_22 (by decide) ?_
  refine r_icmp_ge (pc := 24) (tgt := 41) hC dL_acts_24 (by decide) (fun bq24 => ?_) (fun bq24 => ?_)
  · skip
    refine r_iload (pc := 41) hC dL_acts_41 rfl ?_
    refine r_bipush (pc := 43) (v := 23) hC dL_acts_43 (by decide) ?_
    refine r_icmp_ge (pc := 45) (tgt := 109) hC dL_acts_45 (by decide) (fun bq45 => ?_) (fun bq45 => ?_)
    · skip
      refine r_iload (pc := 109) hC dL_acts_109 rfl ?_
      refine r_bipush (pc := 111) (v := 25) hC dL_acts_111 (by decide) ?_
      refine r_icmp_ge (pc := 113) (tgt := 167) hC dL_acts_113 (by decide) (fun bq113 => ?_) (fun bq113 => ?_)
      · skip
        refine r_iload (pc := 167) hC dL_acts_167 rfl ?_
        refine r_bipush (pc := 169) (v := 29) hC dL_acts_169 (by decide) ?_
        refine r_icmp_ge (pc := 171) (tgt := 273) hC dL_acts_171 (by decide) (fun bq171 => ?_) (fun bq171 => ?_)
        · skip
          refine r_iload (pc := 273) hC dL_acts_273 rfl ?_
          refine r_iconst (pc := 275) (v := 3) hC dL_acts_275 (by decide) ?_
          refine r_irem (pc := 276) hC dL_acts_276 (by decide) ?_
          rw [show nI y - nI y / 3 * 3 = nI (y % 3) from pk_rem (d := 3) (by omega) (by decide) (by decide)]
          refine r_istore (pc := 277) (L' := [_, _, _, _, _, _, _, _, _, _, _, _]) hC dL_acts_277 rfl (Nat.le_of_ble_eq_true rfl) rfl ?_
          have hwl : y % 3 < 3 := Nat.mod_lt _ (by decide)
          have d3 : nI y / 3 = nI (y / 3) := pk_div (d := 3) (by omega) (by decide) (by decide)
          have e2 : nI y - nI y / 2 * 2 = nI (y % 2) := pk_rem (d := 2) (by omega) (by decide) (by decide)
          have e57 : nI (y / 3) - nI (y / 3) / 57 * 57 = nI (y / 3 % 57) := pk_rem (d := 57) (by omega) (by decide) (by decide)
          have e200 : nI (y / 3) - nI (y / 3) / 200 * 200 = nI (y / 3 % 200) := pk_rem (d := 200) (by omega) (by decide) (by decide)
          have e9 : nI (y / 3) - nI (y / 3) / 9 * 9 = nI (y / 3 % 9) := pk_rem (d := 9) (by omega) (by decide) (by decide)
          have e50 : nI (y / 3) - nI (y / 3) / 50 * 50 = nI (y / 3 % 50) := pk_rem (d := 50) (by omega) (by decide) (by decide)
          refine r_aload_n (pc := 279) hC dL_acts_279 rfl ?_
          refine r_bipush (pc := 280) (v := 8) hC dL_acts_280 (by decide) ?_
          refine r_iload (pc := 282) hC dL_acts_282 rfl ?_
          refine r_iadd (pc := 284) hC dL_acts_284 ?_
          refine r_iald (pc := 285) hC kg (xi_e (k := 8 + y % 3) (nI_add 8 _) ng (by omega) (by decide)) dL_acts_285 ?_
          rw [ag (8 + y % 3) (by omega)]
          refine r_istore (pc := 286) (L' := [_, _, _, _, _, _, _, _, _, _, _, _]) hC dL_acts_286 rfl (Nat.le_of_ble_eq_true rfl) rfl ?_
          refine r_aload_n (pc := 288) hC dL_acts_288 rfl ?_
          refine r_bipush (pc := 289) (v := 8) hC dL_acts_289 (by decide) ?_
          refine r_iload (pc := 291) hC dL_acts_291 rfl ?_
          refine r_iadd (pc := 293) hC dL_acts_293 ?_
          refine r_iload (pc := 294) hC dL_acts_294 rfl ?_
          refine r_if_ne (pc := 296) (tgt := 311) hC dL_acts_296 (by decide) (fun bq296 => ?_) (fun bq296 => ?_)
          · skip
            refine r_iload (pc := 311) hC dL_acts_311 rfl ?_
            refine r_iconst (pc := 313) (v := 1) hC dL_acts_313 (by decide) ?_
            refine r_icmp_ne (pc := 314) (tgt := 342) hC dL_acts_314 (by decide) (fun bq314 => ?_) (fun bq314 => ?_)
            · skip
              refine r_iconst (pc := 342) (v := 1) hC dL_acts_342 (by decide) ?_
              refine r_iload (pc := 343) hC dL_acts_343 rfl ?_
              refine r_iconst (pc := 345) (v := 3) hC dL_acts_345 (by decide) ?_
              refine r_idiv (pc := 346) hC dL_acts_346 (by decide) ?_
              rw [d3]
              refine r_bipush (pc := 347) (v := 50) hC dL_acts_347 (by decide) ?_
              refine r_irem (pc := 349) hC dL_acts_349 (by decide) ?_
              rw [e50]
              refine r_iadd (pc := 350) hC dL_acts_350 ?_
              rw [show (1 : Int32) + nI (y / 3 % 50) = nI (1 + y / 3 % 50) from nI_add 1 _]
              refine r_iast (pc := 351) hC kg (xi_e (k := 8 + y % 3) (nI_add 8 _) ng (by omega) (by decide)) dL_acts_351 ?_
              refine r_aload_n (pc := 352) hC dL_acts_352 rfl ?_
              refine r_iload (pc := 353) hC dL_acts_353 rfl ?_
              refine r_aload_n (pc := 355) hC dL_acts_355 rfl ?_
              refine r_bipush (pc := 356) (v := 8) hC dL_acts_356 (by decide) ?_
              refine r_iload (pc := 358) hC dL_acts_358 rfl ?_
              refine r_iadd (pc := 360) hC dL_acts_360 ?_
              refine r_iald (pc := 361) hC kg (xi_e (k := 8 + y % 3) (nI_add 8 _) ng (by omega) (by decide)) dL_acts_361 ?_
              have hc : y % 3 = 2 := by
                have h0 : y % 3 ≠ 0 := fun e => bq296 (by rw [e]; rfl)
                have h1 : y % 3 ≠ 1 := fun e => bq314 (by rw [e]; rfl)
                omega
              have hok : okSet (nI (y % 3)) (nI (1 + y / 3 % 50)) = true := by rw [hc]; exact set_in_2 (by omega) (by omega)
              have hcl : (nI (y % 3)).toNatClampNeg = y % 3 := nI_clamp (by omega)
              have has : aSet S (nI (y % 3)) (nI (1 + y / 3 % 50)) = S (8 + y % 3) := by rw [aSet, if_pos hok, hcl]
              have hss : sSet S (nI (y % 3)) (nI (1 + y / 3 % 50)) = upd S (8 + y % 3) (nI (1 + y / 3 % 50)) := by rw [sSet, if_pos hok, hcl]
              have z1 : lA (xu I 255 (8 + y % 3) (nI (1 + y / 3 % 50))) P (sSet S (nI (y % 3)) (nI (1 + y / 3 % 50))) n rq := by rw [hss]; exact lA_g hA0 (by omega)
              obtain ⟨g1, g2⟩ := oR_law (J := xu I 255 (8 + y % 3) (nI (1 + y / 3 % 50))) (Q := P) hp hi0 hO (fun c hc => xu_row (by omega)) (fun c hc => rfl)
              rw [xu_at]
              refine k_X4_set (pc := 362) hC gL_acts_X4_set ⟨Nat.le_of_ble_eq_true rfl, Nat.le_of_ble_eq_true rfl⟩ ko hS g1 g2 hi0 (Nat.le_of_ble_eq_true rfl) rfl ⟨Nat.zero_le _, Nat.zero_le _⟩ dL_acts_362 ?_
              intro J362 Q362 rP362 rT362 rN362 rF362
              refine r_iload (pc := 365) hC dL_acts_365 rfl ?_
              refine r_icmp_ne (pc := 367) (tgt := 374) hC dL_acts_367 (by decide) (fun bq => (by first | exact absurd (has) bq | exact absurd bq (has))) (fun bq367 => ?_)
              refine r_iconst (pc := 370) (v := 1) hC dL_acts_370 (by decide) ?_
              refine r_goto (pc := 371) (tgt := 375) hC dL_acts_371 (by decide) ?_
              refine r_iret (pc := 375) hC hD rfl dL_acts_375 rfl ?_
              exact ⟨rfl, rfl, _, n, rq, rP362, ⟨_, _, _, rT362 hok⟩, inv_set hi0 hok, lA_cong z1 (fun c h1 h2 => (rF362 c (by omega)).1) (rF362 259 (by decide)).2, lC_keep hcc (by rw [hss, upd_ne (by omega)]) (by rw [hss, upd_ne (by omega)]) (fun i hh => by rw [hss, upd_ne (by omega)]) (Nat.le_refl n)⟩
            · skip
              refine r_iconst (pc := 317) (v := 1) hC dL_acts_317 (by decide) ?_
              refine r_iload (pc := 318) hC dL_acts_318 rfl ?_
              refine r_iconst (pc := 320) (v := 3) hC dL_acts_320 (by decide) ?_
              refine r_idiv (pc := 321) hC dL_acts_321 (by decide) ?_
              rw [d3]
              refine r_iload (pc := 322) hC dL_acts_322 rfl ?_
              refine r_iconst (pc := 324) (v := 2) hC dL_acts_324 (by decide) ?_
              refine r_irem (pc := 325) hC dL_acts_325 (by decide) ?_
              rw [e2]
              refine r_if_ne (pc := 326) (tgt := 335) hC dL_acts_326 (by decide) (fun bq326 => ?_) (fun bq326 => ?_)
              · skip
                refine r_bipush (pc := 335) (v := 9) hC dL_acts_335 (by decide) ?_
                refine r_irem (pc := 337) hC dL_acts_337 (by decide) ?_
                rw [e9]
                refine r_iadd (pc := 338) hC dL_acts_338 ?_
                refine r_goto (pc := 339) (tgt := 351) hC dL_acts_339 (by decide) ?_
                rw [show (1 : Int32) + nI (y / 3 % 9) = nI (1 + y / 3 % 9) from nI_add 1 _]
                refine r_iast (pc := 351) hC kg (xi_e (k := 8 + y % 3) (nI_add 8 _) ng (by omega) (by decide)) dL_acts_351 ?_
                refine r_aload_n (pc := 352) hC dL_acts_352 rfl ?_
                refine r_iload (pc := 353) hC dL_acts_353 rfl ?_
                refine r_aload_n (pc := 355) hC dL_acts_355 rfl ?_
                refine r_bipush (pc := 356) (v := 8) hC dL_acts_356 (by decide) ?_
                refine r_iload (pc := 358) hC dL_acts_358 rfl ?_
                refine r_iadd (pc := 360) hC dL_acts_360 ?_
                refine r_iald (pc := 361) hC kg (xi_e (k := 8 + y % 3) (nI_add 8 _) ng (by omega) (by decide)) dL_acts_361 ?_
                have hc : y % 3 = 1 := (nI_eq (b := 1) (by omega) (by decide)).mp bq314
                have hok : okSet (nI (y % 3)) (nI (1 + y / 3 % 9)) = true := by rw [hc]; exact set_in_1 (by omega) (by omega)
                have hcl : (nI (y % 3)).toNatClampNeg = y % 3 := nI_clamp (by omega)
                have has : aSet S (nI (y % 3)) (nI (1 + y / 3 % 9)) = S (8 + y % 3) := by rw [aSet, if_pos hok, hcl]
                have hss : sSet S (nI (y % 3)) (nI (1 + y / 3 % 9)) = upd S (8 + y % 3) (nI (1 + y / 3 % 9)) := by rw [sSet, if_pos hok, hcl]
                have z1 : lA (xu I 255 (8 + y % 3) (nI (1 + y / 3 % 9))) P (sSet S (nI (y % 3)) (nI (1 + y / 3 % 9))) n rq := by rw [hss]; exact lA_g hA0 (by omega)
                obtain ⟨g1, g2⟩ := oR_law (J := xu I 255 (8 + y % 3) (nI (1 + y / 3 % 9))) (Q := P) hp hi0 hO (fun c hc => xu_row (by omega)) (fun c hc => rfl)
                rw [xu_at]
                refine k_X4_set (pc := 362) hC gL_acts_X4_set ⟨Nat.le_of_ble_eq_true rfl, Nat.le_of_ble_eq_true rfl⟩ ko hS g1 g2 hi0 (Nat.le_of_ble_eq_true rfl) rfl ⟨Nat.zero_le _, Nat.zero_le _⟩ dL_acts_362 ?_
                intro J362 Q362 rP362 rT362 rN362 rF362
                refine r_iload (pc := 365) hC dL_acts_365 rfl ?_
                refine r_icmp_ne (pc := 367) (tgt := 374) hC dL_acts_367 (by decide) (fun bq => (by first | exact absurd (has) bq | exact absurd bq (has))) (fun bq367 => ?_)
                refine r_iconst (pc := 370) (v := 1) hC dL_acts_370 (by decide) ?_
                refine r_goto (pc := 371) (tgt := 375) hC dL_acts_371 (by decide) ?_
                refine r_iret (pc := 375) hC hD rfl dL_acts_375 rfl ?_
                exact ⟨rfl, rfl, _, n, rq, rP362, ⟨_, _, _, rT362 hok⟩, inv_set hi0 hok, lA_cong z1 (fun c h1 h2 => (rF362 c (by omega)).1) (rF362 259 (by decide)).2, lC_keep hcc (by rw [hss, upd_ne (by omega)]) (by rw [hss, upd_ne (by omega)]) (fun i hh => by rw [hss, upd_ne (by omega)]) (Nat.le_refl n)⟩
              · skip
                refine r_sipush (pc := 329) (v := 200) hC dL_acts_329 (by decide) ?_
                refine r_goto (pc := 332) (tgt := 337) hC dL_acts_332 (by decide) ?_
                refine r_irem (pc := 337) hC dL_acts_337 (by decide) ?_
                rw [e200]
                refine r_iadd (pc := 338) hC dL_acts_338 ?_
                refine r_goto (pc := 339) (tgt := 351) hC dL_acts_339 (by decide) ?_
                rw [show (1 : Int32) + nI (y / 3 % 200) = nI (1 + y / 3 % 200) from nI_add 1 _]
                refine r_iast (pc := 351) hC kg (xi_e (k := 8 + y % 3) (nI_add 8 _) ng (by omega) (by decide)) dL_acts_351 ?_
                refine r_aload_n (pc := 352) hC dL_acts_352 rfl ?_
                refine r_iload (pc := 353) hC dL_acts_353 rfl ?_
                refine r_aload_n (pc := 355) hC dL_acts_355 rfl ?_
                refine r_bipush (pc := 356) (v := 8) hC dL_acts_356 (by decide) ?_
                refine r_iload (pc := 358) hC dL_acts_358 rfl ?_
                refine r_iadd (pc := 360) hC dL_acts_360 ?_
                refine r_iald (pc := 361) hC kg (xi_e (k := 8 + y % 3) (nI_add 8 _) ng (by omega) (by decide)) dL_acts_361 ?_
                have hc : y % 3 = 1 := (nI_eq (b := 1) (by omega) (by decide)).mp bq314
                have hok : okSet (nI (y % 3)) (nI (1 + y / 3 % 200)) = true := by rw [hc]; exact set_in_1 (by omega) (by omega)
                have hcl : (nI (y % 3)).toNatClampNeg = y % 3 := nI_clamp (by omega)
                have has : aSet S (nI (y % 3)) (nI (1 + y / 3 % 200)) = S (8 + y % 3) := by rw [aSet, if_pos hok, hcl]
                have hss : sSet S (nI (y % 3)) (nI (1 + y / 3 % 200)) = upd S (8 + y % 3) (nI (1 + y / 3 % 200)) := by rw [sSet, if_pos hok, hcl]
                have z1 : lA (xu I 255 (8 + y % 3) (nI (1 + y / 3 % 200))) P (sSet S (nI (y % 3)) (nI (1 + y / 3 % 200))) n rq := by rw [hss]; exact lA_g hA0 (by omega)
                obtain ⟨g1, g2⟩ := oR_law (J := xu I 255 (8 + y % 3) (nI (1 + y / 3 % 200))) (Q := P) hp hi0 hO (fun c hc => xu_row (by omega)) (fun c hc => rfl)
                rw [xu_at]
                refine k_X4_set (pc := 362) hC gL_acts_X4_set ⟨Nat.le_of_ble_eq_true rfl, Nat.le_of_ble_eq_true rfl⟩ ko hS g1 g2 hi0 (Nat.le_of_ble_eq_true rfl) rfl ⟨Nat.zero_le _, Nat.zero_le _⟩ dL_acts_362 ?_
                intro J362 Q362 rP362 rT362 rN362 rF362
                refine r_iload (pc := 365) hC dL_acts_365 rfl ?_
                refine r_icmp_ne (pc := 367) (tgt := 374) hC dL_acts_367 (by decide) (fun bq => (by first | exact absurd (has) bq | exact absurd bq (has))) (fun bq367 => ?_)
                refine r_iconst (pc := 370) (v := 1) hC dL_acts_370 (by decide) ?_
                refine r_goto (pc := 371) (tgt := 375) hC dL_acts_371 (by decide) ?_
                refine r_iret (pc := 375) hC hD rfl dL_acts_375 rfl ?_
                exact ⟨rfl, rfl, _, n, rq, rP362, ⟨_, _, _, rT362 hok⟩, inv_set hi0 hok, lA_cong z1 (fun c h1 h2 => (rF362 c (by omega)).1) (rF362 259 (by decide)).2, lC_keep hcc (by rw [hss, upd_ne (by omega)]) (by rw [hss, upd_ne (by omega)]) (fun i hh => by rw [hss, upd_ne (by omega)]) (Nat.le_refl n)⟩
          · skip
            refine r_iconst (pc := 299) (v := 4) hC dL_acts_299 (by decide) ?_
            refine r_iload (pc := 300) hC dL_acts_300 rfl ?_
            refine r_iconst (pc := 302) (v := 3) hC dL_acts_302 (by decide) ?_
            refine r_idiv (pc := 303) hC dL_acts_303 (by decide) ?_
            rw [d3]
            refine r_bipush (pc := 304) (v := 57) hC dL_acts_304 (by decide) ?_
            refine r_irem (pc := 306) hC dL_acts_306 (by decide) ?_
            rw [e57]
            refine r_iadd (pc := 307) hC dL_acts_307 ?_
            refine r_goto (pc := 308) (tgt := 351) hC dL_acts_308 (by decide) ?_
            rw [show (4 : Int32) + nI (y / 3 % 57) = nI (4 + y / 3 % 57) from nI_add 4 _]
            refine r_iast (pc := 351) hC kg (xi_e (k := 8 + y % 3) (nI_add 8 _) ng (by omega) (by decide)) dL_acts_351 ?_
            refine r_aload_n (pc := 352) hC dL_acts_352 rfl ?_
            refine r_iload (pc := 353) hC dL_acts_353 rfl ?_
            refine r_aload_n (pc := 355) hC dL_acts_355 rfl ?_
            refine r_bipush (pc := 356) (v := 8) hC dL_acts_356 (by decide) ?_
            refine r_iload (pc := 358) hC dL_acts_358 rfl ?_
            refine r_iadd (pc := 360) hC dL_acts_360 ?_
            refine r_iald (pc := 361) hC kg (xi_e (k := 8 + y % 3) (nI_add 8 _) ng (by omega) (by decide)) dL_acts_361 ?_
            have hc : y % 3 = 0 := (nI_eq (b := 0) (by omega) (by decide)).mp bq296
            have hok : okSet (nI (y % 3)) (nI (4 + y / 3 % 57)) = true := by rw [hc]; exact set_in_0 (by omega) (by omega)
            have hcl : (nI (y % 3)).toNatClampNeg = y % 3 := nI_clamp (by omega)
            have has : aSet S (nI (y % 3)) (nI (4 + y / 3 % 57)) = S (8 + y % 3) := by rw [aSet, if_pos hok, hcl]
            have hss : sSet S (nI (y % 3)) (nI (4 + y / 3 % 57)) = upd S (8 + y % 3) (nI (4 + y / 3 % 57)) := by rw [sSet, if_pos hok, hcl]
            have z1 : lA (xu I 255 (8 + y % 3) (nI (4 + y / 3 % 57))) P (sSet S (nI (y % 3)) (nI (4 + y / 3 % 57))) n rq := by rw [hss]; exact lA_g hA0 (by omega)
            obtain ⟨g1, g2⟩ := oR_law (J := xu I 255 (8 + y % 3) (nI (4 + y / 3 % 57))) (Q := P) hp hi0 hO (fun c hc => xu_row (by omega)) (fun c hc => rfl)
            rw [xu_at]
            refine k_X4_set (pc := 362) hC gL_acts_X4_set ⟨Nat.le_of_ble_eq_true rfl, Nat.le_of_ble_eq_true rfl⟩ ko hS g1 g2 hi0 (Nat.le_of_ble_eq_true rfl) rfl ⟨Nat.zero_le _, Nat.zero_le _⟩ dL_acts_362 ?_
            intro J362 Q362 rP362 rT362 rN362 rF362
            refine r_iload (pc := 365) hC dL_acts_365 rfl ?_
            refine r_icmp_ne (pc := 367) (tgt := 374) hC dL_acts_367 (by decide) (fun bq => (by first | exact absurd (has) bq | exact absurd bq (has))) (fun bq367 => ?_)
            refine r_iconst (pc := 370) (v := 1) hC dL_acts_370 (by decide) ?_
            refine r_goto (pc := 371) (tgt := 375) hC dL_acts_371 (by decide) ?_
            refine r_iret (pc := 375) hC hD rfl dL_acts_375 rfl ?_
            exact ⟨rfl, rfl, _, n, rq, rP362, ⟨_, _, _, rT362 hok⟩, inv_set hi0 hok, lA_cong z1 (fun c h1 h2 => (rF362 c (by omega)).1) (rF362 259 (by decide)).2, lC_keep hcc (by rw [hss, upd_ne (by omega)]) (by rw [hss, upd_ne (by omega)]) (fun i hh => by rw [hss, upd_ne (by omega)]) (Nat.le_refl n)⟩
        · skip
          refine r_aload_n (pc := 174) hC dL_acts_174 rfl ?_
          refine r_aload_n (pc := 175) hC dL_acts_175 rfl ?_
          refine r_aload (pc := 176) hC dL_acts_176 rfl ?_
          refine r_aload (pc := 178) hC dL_acts_178 rfl ?_
          refine r_aload (pc := 180) hC dL_acts_180 rfl ?_
          refine r_aload_n (pc := 182) hC dL_acts_182 rfl ?_
          refine r_iconst (pc := 183) (v := 1) hC dL_acts_183 (by decide) ?_
          refine r_iald (pc := 184) hC kg (xi_l (k := 1) ng (by decide) (by decide) (by decide)) dL_acts_184 ?_
          rw [ag 1 (by decide)]
          refine k_L_wrong (pc := 185) hC gL_acts_L_wrong ⟨Nat.le_of_ble_eq_true rfl, Nat.le_of_ble_eq_true rfl⟩ hK0 hA0 hi0 (Nat.le_of_ble_eq_true rfl) rfl ⟨Nat.zero_le _, Nat.zero_le _⟩ dL_acts_185 ?_
          refine r_istore (pc := 188) (L' := [_, _, _, _, _, _, _, _, _, _, _, _]) hC dL_acts_188 rfl (Nat.le_of_ble_eq_true rfl) rfl ?_
          refine r_aload_n (pc := 190) hC dL_acts_190 rfl ?_
          refine r_bipush (pc := 191) (v := 6) hC dL_acts_191 (by decide) ?_
          refine r_dup2 (pc := 193) hC dL_acts_193 rfl rfl ?_
          refine r_iald (pc := 194) hC kg (xi_l (k := 6) ng (by decide) (by decide) (by decide)) dL_acts_194 ?_
          rw [ag 6 (by decide)]
          refine r_iconst (pc := 195) (v := 1) hC dL_acts_195 (by decide) ?_
          refine r_iadd (pc := 196) hC dL_acts_196 ?_
          refine r_iast (pc := 197) hC kg (xi_l (k := 6) ng (by decide) (by decide) (by decide)) dL_acts_197 ?_
          refine r_aload_n (pc := 198) hC dL_acts_198 rfl ?_
          refine r_bipush (pc := 199) (v := 7) hC dL_acts_199 (by decide) ?_
          refine r_dup2 (pc := 201) hC dL_acts_201 rfl rfl ?_
          refine r_iald (pc := 202) hC kg (xi_l (k := 7) ng (by decide) (by decide) (by decide)) dL_acts_202 ?_
          rw [xu_ne (Or.inr (by decide)), ag 7 (by decide)]
          refine r_iload (pc := 203) hC dL_acts_203 rfl ?_
          refine r_if_ne (pc := 205) (tgt := 212) hC dL_acts_205 (by decide) (fun bq205 => ?_) (fun bq205 => ?_)
          · skip
            refine r_iconst (pc := 212) (v := 0) hC dL_acts_212 (by decide) ?_
            refine r_iadd (pc := 213) hC dL_acts_213 ?_
            refine r_iast (pc := 214) hC kg (xi_l (k := 7) ng (by decide) (by decide) (by decide)) dL_acts_214 ?_
            refine r_aload_n (pc := 215) hC dL_acts_215 rfl ?_
            refine r_iconst (pc := 216) (v := 3) hC dL_acts_216 (by decide) ?_
            refine r_iald (pc := 217) hC kg (xi_l (k := 3) ng (by decide) (by decide) (by decide)) dL_acts_217 ?_
            rw [xu_ne (Or.inr (by decide)), xu_ne (Or.inr (by decide)), ag 3 (by decide)]
            refine r_if_lt (pc := 218) (tgt := 258) hC dL_acts_218 (by decide) (fun bq218 => ?_) (fun bq218 => ?_)
            · skip
              refine r_aload_n (pc := 258) hC dL_acts_258 rfl ?_
              have hxr : xright (aWrong S) = 0 := by rw [xright, if_neg bq205]
              have y1 := lA_g (k := 7) (v := S 7 + 0) (lA_g (k := 6) (v := S 6 + 1) hA0 (by decide)) (by decide)
              have z1 : lA (xu (xu I 255 6 (S 6 + 1)) 255 7 (S 7 + 0)) P (sStop S) n rq := by
                unfold sStop
                simp only
                rw [if_pos bq218, hxr]; exact y1
              obtain ⟨g1, g2⟩ := oR_law (J := (xu (xu I 255 6 (S 6 + 1)) 255 7 (S 7 + 0))) (Q := P) hp hi0 hO (fun c hc => by rw [xu_row (by omega), xu_row (by omega)]) (fun c hc => rfl)
              refine k_X4_stop (pc := 259) hC gL_acts_X4_stop ⟨Nat.le_of_ble_eq_true rfl, Nat.le_of_ble_eq_true rfl⟩ ko hS g1 g2 hi0 (Nat.le_of_ble_eq_true rfl) rfl ⟨Nat.zero_le _, Nat.zero_le _⟩ dL_acts_259 ?_
              intro J259 Q259 rP259 rT259 rN259 rF259
              refine r_iload (pc := 262) hC dL_acts_262 rfl ?_
              refine r_icmp_ne (pc := 264) (tgt := 271) hC dL_acts_264 (by decide) (fun bq => (by first | exact absurd (rfl) bq | exact absurd bq (rfl))) (fun bq264 => ?_)
              refine r_iconst (pc := 267) (v := 1) hC dL_acts_267 (by decide) ?_
              refine r_goto (pc := 268) (tgt := 272) hC dL_acts_268 (by decide) ?_
              refine r_iret (pc := 272) hC hD rfl dL_acts_272 rfl ?_
              exact ⟨rfl, rfl, sStop S, n, rq, rP259, ⟨_, _, _, rT259 rfl⟩, inv_stop hi0, lA_cong z1 (fun c h1 h2 => (rF259 c (by omega)).1) (rF259 259 (by decide)).2, lC_stop hi0 hcc⟩
            · skip
              obtain ⟨d, hd, hd3⟩ := hdr.resolve_left (fun w => bq218 (by rw [w]; decide))
              refine r_aload (pc := 221) hC dL_acts_221 rfl ?_
              refine r_iconst (pc := 223) (v := 3) hC dL_acts_223 (by decide) ?_
              refine r_aload_n (pc := 224) hC dL_acts_224 rfl ?_
              refine r_iconst (pc := 225) (v := 3) hC dL_acts_225 (by decide) ?_
              refine r_iald (pc := 226) hC kg (xi_l (k := 3) ng (by decide) (by decide) (by decide)) dL_acts_226 ?_
              rw [xu_ne (Or.inr (by decide)), xu_ne (Or.inr (by decide)), ag 3 (by decide), hd3]
              refine r_imul (pc := 227) hC dL_acts_227 ?_
              refine r_iconst (pc := 228) (v := 1) hC dL_acts_228 (by decide) ?_
              refine r_iadd (pc := 229) hC dL_acts_229 ?_
              refine r_dup2 (pc := 230) hC dL_acts_230 rfl rfl ?_
              refine r_iald (pc := 231) hC kr (xi_e (k := 3 * d + 1) (by rw [show (3 : Int32) = nI 3 from rfl, pk_mul]; exact nI_add _ 1) nr (by omega) (by decide)) dL_acts_231 ?_
              rw [xu_row (b := 260) (by decide), xu_row (b := 260) (by decide), show I 260 (3 * d + 1) = S (352 + 3 * d) from (at_ d hd 1 (by decide)).trans (congrArg S (by omega))]
              refine r_iconst (pc := 232) (v := 1) hC dL_acts_232 (by decide) ?_
              refine r_iadd (pc := 233) hC dL_acts_233 ?_
              refine r_iast (pc := 234) hC kr (xi_e (k := 3 * d + 1) (by rw [show (3 : Int32) = nI 3 from rfl, pk_mul]; exact nI_add _ 1) nr (by omega) (by decide)) dL_acts_234 ?_
              refine r_aload (pc := 235) hC dL_acts_235 rfl ?_
              refine r_iconst (pc := 237) (v := 3) hC dL_acts_237 (by decide) ?_
              refine r_aload_n (pc := 238) hC dL_acts_238 rfl ?_
              refine r_iconst (pc := 239) (v := 3) hC dL_acts_239 (by decide) ?_
              refine r_iald (pc := 240) hC kg (xi_l (k := 3) ng (by decide) (by decide) (by decide)) dL_acts_240 ?_
              rw [xu_row (b := 255) (by decide), xu_ne (Or.inr (by decide)), xu_ne (Or.inr (by decide)), ag 3 (by decide), hd3]
              refine r_imul (pc := 241) hC dL_acts_241 ?_
              refine r_iconst (pc := 242) (v := 2) hC dL_acts_242 (by decide) ?_
              refine r_iadd (pc := 243) hC dL_acts_243 ?_
              refine r_dup2 (pc := 244) hC dL_acts_244 rfl rfl ?_
              refine r_iald (pc := 245) hC kr (xi_e (k := 3 * d + 2) (by rw [show (3 : Int32) = nI 3 from rfl, pk_mul]; exact nI_add _ 2) nr (by omega) (by decide)) dL_acts_245 ?_
              rw [xu_ne (Or.inr (by omega)), xu_row (b := 260) (by decide), xu_row (b := 260) (by decide), show I 260 (3 * d + 2) = S (353 + 3 * d) from (at_ d hd 2 (by decide)).trans (congrArg S (by omega))]
              refine r_iload (pc := 246) hC dL_acts_246 rfl ?_
              refine r_if_ne (pc := 248) (tgt := 255) hC dL_acts_248 (by decide) (fun bq248 => ?_) (fun bq248 => ?_)
              · skip
                refine r_iconst (pc := 255) (v := 0) hC dL_acts_255 (by decide) ?_
                refine r_iadd (pc := 256) hC dL_acts_256 ?_
                refine r_iast (pc := 257) hC kr (xi_e (k := 3 * d + 2) (by rw [show (3 : Int32) = nI 3 from rfl, pk_mul]; exact nI_add _ 2) nr (by omega) (by decide)) dL_acts_257 ?_
                refine r_aload_n (pc := 258) hC dL_acts_258 rfl ?_
                have hxr : xright (aWrong S) = 0 := by rw [xright, if_neg bq205]
                have y1 := lA_g (k := 7) (v := S 7 + 0) (lA_g (k := 6) (v := S 6 + 1) hA0 (by decide)) (by decide)
                have z1 : lA (xu (xu (xu (xu I 255 6 (S 6 + 1)) 255 7 (S 7 + 0)) 260 (3 * d + 1) (S (352 + 3 * d) + 1)) 260 (3 * d + 2) (S (353 + 3 * d) + 0)) P (sStop S) n rq := by
                  unfold sStop
                  simp only
                  rw [if_neg bq218, hxr, show sDrv S = d from by unfold sDrv; rw [hd3, nI_clamp (by omega)], show 353 + 3 * d = 351 + 3 * d + 2 by omega, show 352 + 3 * d = 351 + 3 * d + 1 by omega]
                  exact lA_r (j := d) (t := 2) (lA_r (j := d) (t := 1) y1 (by decide)) (by decide)
                obtain ⟨g1, g2⟩ := oR_law (J := (xu (xu (xu (xu I 255 6 (S 6 + 1)) 255 7 (S 7 + 0)) 260 (3 * d + 1) (S (352 + 3 * d) + 1)) 260 (3 * d + 2) (S (353 + 3 * d) + 0))) (Q := P) hp hi0 hO (fun c hc => by rw [xu_row (by omega), xu_row (by omega), xu_row (by omega), xu_row (by omega)]) (fun c hc => rfl)
                refine k_X4_stop (pc := 259) hC gL_acts_X4_stop ⟨Nat.le_of_ble_eq_true rfl, Nat.le_of_ble_eq_true rfl⟩ ko hS g1 g2 hi0 (Nat.le_of_ble_eq_true rfl) rfl ⟨Nat.zero_le _, Nat.zero_le _⟩ dL_acts_259 ?_
                intro J259 Q259 rP259 rT259 rN259 rF259
                refine r_iload (pc := 262) hC dL_acts_262 rfl ?_
                refine r_icmp_ne (pc := 264) (tgt := 271) hC dL_acts_264 (by decide) (fun bq => (by first | exact absurd (rfl) bq | exact absurd bq (rfl))) (fun bq264 => ?_)
                refine r_iconst (pc := 267) (v := 1) hC dL_acts_267 (by decide) ?_
                refine r_goto (pc := 268) (tgt := 272) hC dL_acts_268 (by decide) ?_
                refine r_iret (pc := 272) hC hD rfl dL_acts_272 rfl ?_
                exact ⟨rfl, rfl, sStop S, n, rq, rP259, ⟨_, _, _, rT259 rfl⟩, inv_stop hi0, lA_cong z1 (fun c h1 h2 => (rF259 c (by omega)).1) (rF259 259 (by decide)).2, lC_stop hi0 hcc⟩
              · skip
                exact absurd bq248 bq205
          · skip
            refine r_iconst (pc := 208) (v := 1) hC dL_acts_208 (by decide) ?_
            refine r_goto (pc := 209) (tgt := 213) hC dL_acts_209 (by decide) ?_
            refine r_iadd (pc := 213) hC dL_acts_213 ?_
            refine r_iast (pc := 214) hC kg (xi_l (k := 7) ng (by decide) (by decide) (by decide)) dL_acts_214 ?_
            refine r_aload_n (pc := 215) hC dL_acts_215 rfl ?_
            refine r_iconst (pc := 216) (v := 3) hC dL_acts_216 (by decide) ?_
            refine r_iald (pc := 217) hC kg (xi_l (k := 3) ng (by decide) (by decide) (by decide)) dL_acts_217 ?_
            rw [xu_ne (Or.inr (by decide)), xu_ne (Or.inr (by decide)), ag 3 (by decide)]
            refine r_if_lt (pc := 218) (tgt := 258) hC dL_acts_218 (by decide) (fun bq218 => ?_) (fun bq218 => ?_)
            · skip
              refine r_aload_n (pc := 258) hC dL_acts_258 rfl ?_
              have hxr : xright (aWrong S) = 1 := by rw [xright, if_pos bq205]
              have y1 := lA_g (k := 7) (v := S 7 + 1) (lA_g (k := 6) (v := S 6 + 1) hA0 (by decide)) (by decide)
              have z1 : lA (xu (xu I 255 6 (S 6 + 1)) 255 7 (S 7 + 1)) P (sStop S) n rq := by
                unfold sStop
                simp only
                rw [if_pos bq218, hxr]; exact y1
              obtain ⟨g1, g2⟩ := oR_law (J := (xu (xu I 255 6 (S 6 + 1)) 255 7 (S 7 + 1))) (Q := P) hp hi0 hO (fun c hc => by rw [xu_row (by omega), xu_row (by omega)]) (fun c hc => rfl)
              refine k_X4_stop (pc := 259) hC gL_acts_X4_stop ⟨Nat.le_of_ble_eq_true rfl, Nat.le_of_ble_eq_true rfl⟩ ko hS g1 g2 hi0 (Nat.le_of_ble_eq_true rfl) rfl ⟨Nat.zero_le _, Nat.zero_le _⟩ dL_acts_259 ?_
              intro J259 Q259 rP259 rT259 rN259 rF259
              refine r_iload (pc := 262) hC dL_acts_262 rfl ?_
              refine r_icmp_ne (pc := 264) (tgt := 271) hC dL_acts_264 (by decide) (fun bq => (by first | exact absurd (rfl) bq | exact absurd bq (rfl))) (fun bq264 => ?_)
              refine r_iconst (pc := 267) (v := 1) hC dL_acts_267 (by decide) ?_
              refine r_goto (pc := 268) (tgt := 272) hC dL_acts_268 (by decide) ?_
              refine r_iret (pc := 272) hC hD rfl dL_acts_272 rfl ?_
              exact ⟨rfl, rfl, sStop S, n, rq, rP259, ⟨_, _, _, rT259 rfl⟩, inv_stop hi0, lA_cong z1 (fun c h1 h2 => (rF259 c (by omega)).1) (rF259 259 (by decide)).2, lC_stop hi0 hcc⟩
            · skip
              obtain ⟨d, hd, hd3⟩ := hdr.resolve_left (fun w => bq218 (by rw [w]; decide))
              refine r_aload (pc := 221) hC dL_acts_221 rfl ?_
              refine r_iconst (pc := 223) (v := 3) hC dL_acts_223 (by decide) ?_
              refine r_aload_n (pc := 224) hC dL_acts_224 rfl ?_
              refine r_iconst (pc := 225) (v := 3) hC dL_acts_225 (by decide) ?_
              refine r_iald (pc := 226) hC kg (xi_l (k := 3) ng (by decide) (by decide) (by decide)) dL_acts_226 ?_
              rw [xu_ne (Or.inr (by decide)), xu_ne (Or.inr (by decide)), ag 3 (by decide), hd3]
              refine r_imul (pc := 227) hC dL_acts_227 ?_
              refine r_iconst (pc := 228) (v := 1) hC dL_acts_228 (by decide) ?_
              refine r_iadd (pc := 229) hC dL_acts_229 ?_
              refine r_dup2 (pc := 230) hC dL_acts_230 rfl rfl ?_
              refine r_iald (pc := 231) hC kr (xi_e (k := 3 * d + 1) (by rw [show (3 : Int32) = nI 3 from rfl, pk_mul]; exact nI_add _ 1) nr (by omega) (by decide)) dL_acts_231 ?_
              rw [xu_row (b := 260) (by decide), xu_row (b := 260) (by decide), show I 260 (3 * d + 1) = S (352 + 3 * d) from (at_ d hd 1 (by decide)).trans (congrArg S (by omega))]
              refine r_iconst (pc := 232) (v := 1) hC dL_acts_232 (by decide) ?_
              refine r_iadd (pc := 233) hC dL_acts_233 ?_
              refine r_iast (pc := 234) hC kr (xi_e (k := 3 * d + 1) (by rw [show (3 : Int32) = nI 3 from rfl, pk_mul]; exact nI_add _ 1) nr (by omega) (by decide)) dL_acts_234 ?_
              refine r_aload (pc := 235) hC dL_acts_235 rfl ?_
              refine r_iconst (pc := 237) (v := 3) hC dL_acts_237 (by decide) ?_
              refine r_aload_n (pc := 238) hC dL_acts_238 rfl ?_
              refine r_iconst (pc := 239) (v := 3) hC dL_acts_239 (by decide) ?_
              refine r_iald (pc := 240) hC kg (xi_l (k := 3) ng (by decide) (by decide) (by decide)) dL_acts_240 ?_
              rw [xu_row (b := 255) (by decide), xu_ne (Or.inr (by decide)), xu_ne (Or.inr (by decide)), ag 3 (by decide), hd3]
              refine r_imul (pc := 241) hC dL_acts_241 ?_
              refine r_iconst (pc := 242) (v := 2) hC dL_acts_242 (by decide) ?_
              refine r_iadd (pc := 243) hC dL_acts_243 ?_
              refine r_dup2 (pc := 244) hC dL_acts_244 rfl rfl ?_
              refine r_iald (pc := 245) hC kr (xi_e (k := 3 * d + 2) (by rw [show (3 : Int32) = nI 3 from rfl, pk_mul]; exact nI_add _ 2) nr (by omega) (by decide)) dL_acts_245 ?_
              rw [xu_ne (Or.inr (by omega)), xu_row (b := 260) (by decide), xu_row (b := 260) (by decide), show I 260 (3 * d + 2) = S (353 + 3 * d) from (at_ d hd 2 (by decide)).trans (congrArg S (by omega))]
              refine r_iload (pc := 246) hC dL_acts_246 rfl ?_
              refine r_if_ne (pc := 248) (tgt := 255) hC dL_acts_248 (by decide) (fun bq248 => ?_) (fun bq248 => ?_)
              · skip
                exact absurd bq205 bq248
              · skip
                refine r_iconst (pc := 251) (v := 1) hC dL_acts_251 (by decide) ?_
                refine r_goto (pc := 252) (tgt := 256) hC dL_acts_252 (by decide) ?_
                refine r_iadd (pc := 256) hC dL_acts_256 ?_
                refine r_iast (pc := 257) hC kr (xi_e (k := 3 * d + 2) (by rw [show (3 : Int32) = nI 3 from rfl, pk_mul]; exact nI_add _ 2) nr (by omega) (by decide)) dL_acts_257 ?_
                refine r_aload_n (pc := 258) hC dL_acts_258 rfl ?_
                have hxr : xright (aWrong S) = 1 := by rw [xright, if_pos bq205]
                have y1 := lA_g (k := 7) (v := S 7 + 1) (lA_g (k := 6) (v := S 6 + 1) hA0 (by decide)) (by decide)
                have z1 : lA (xu (xu (xu (xu I 255 6 (S 6 + 1)) 255 7 (S 7 + 1)) 260 (3 * d + 1) (S (352 + 3 * d) + 1)) 260 (3 * d + 2) (S (353 + 3 * d) + 1)) P (sStop S) n rq := by
                  unfold sStop
                  simp only
                  rw [if_neg bq218, hxr, show sDrv S = d from by unfold sDrv; rw [hd3, nI_clamp (by omega)], show 353 + 3 * d = 351 + 3 * d + 2 by omega, show 352 + 3 * d = 351 + 3 * d + 1 by omega]
                  exact lA_r (j := d) (t := 2) (lA_r (j := d) (t := 1) y1 (by decide)) (by decide)
                obtain ⟨g1, g2⟩ := oR_law (J := (xu (xu (xu (xu I 255 6 (S 6 + 1)) 255 7 (S 7 + 1)) 260 (3 * d + 1) (S (352 + 3 * d) + 1)) 260 (3 * d + 2) (S (353 + 3 * d) + 1))) (Q := P) hp hi0 hO (fun c hc => by rw [xu_row (by omega), xu_row (by omega), xu_row (by omega), xu_row (by omega)]) (fun c hc => rfl)
                refine k_X4_stop (pc := 259) hC gL_acts_X4_stop ⟨Nat.le_of_ble_eq_true rfl, Nat.le_of_ble_eq_true rfl⟩ ko hS g1 g2 hi0 (Nat.le_of_ble_eq_true rfl) rfl ⟨Nat.zero_le _, Nat.zero_le _⟩ dL_acts_259 ?_
                intro J259 Q259 rP259 rT259 rN259 rF259
                refine r_iload (pc := 262) hC dL_acts_262 rfl ?_
                refine r_icmp_ne (pc := 264) (tgt := 271) hC dL_acts_264 (by decide) (fun bq => (by first | exact absurd (rfl) bq | exact absurd bq (rfl))) (fun bq264 => ?_)
                refine r_iconst (pc := 267) (v := 1) hC dL_acts_267 (by decide) ?_
                refine r_goto (pc := 268) (tgt := 272) hC dL_acts_268 (by decide) ?_
                refine r_iret (pc := 272) hC hD rfl dL_acts_272 rfl ?_
                exact ⟨rfl, rfl, sStop S, n, rq, rP259, ⟨_, _, _, rT259 rfl⟩, inv_stop hi0, lA_cong z1 (fun c h1 h2 => (rF259 c (by omega)).1) (rF259 259 (by decide)).2, lC_stop hi0 hcc⟩
      · skip
        refine r_iload (pc := 116) hC dL_acts_116 rfl ?_
        refine r_aload_n (pc := 118) hC dL_acts_118 rfl ?_
        refine r_iconst (pc := 119) (v := 2) hC dL_acts_119 (by decide) ?_
        refine r_iald (pc := 120) hC kg (xi_l (k := 2) ng (by decide) (by decide) (by decide)) dL_acts_120 ?_
        rw [ag 2 (by decide), hq]
        refine r_iconst (pc := 121) (v := 1) hC dL_acts_121 (by decide) ?_
        refine r_iadd (pc := 122) hC dL_acts_122 ?_
        refine r_irem (pc := 123) hC dL_acts_123 (by rw [nI_1]; exact nI_ne0 (by omega) (by omega)) ?_
        rw [nI_1, show nI y - nI y / nI (rq + 1) * nI (rq + 1) = nI (y % (rq + 1)) from pk_rem (by omega) (by omega) (by omega)]
        refine r_iconst (pc := 124) (v := 1) hC dL_acts_124 (by decide) ?_
        refine r_isub (pc := 125) hC dL_acts_125 ?_
        refine r_istore (pc := 126) (L' := [_, _, _, _, _, _, _, _, _, _, _, _]) hC dL_acts_126 rfl (Nat.le_of_ble_eq_true rfl) rfl ?_
        refine r_aload_n (pc := 128) hC dL_acts_128 rfl ?_
        refine r_iconst (pc := 129) (v := 3) hC dL_acts_129 (by decide) ?_
        refine r_iald (pc := 130) hC kg (xi_l (k := 3) ng (by decide) (by decide) (by decide)) dL_acts_130 ?_
        rw [ag 3 (by decide)]
        refine r_istore (pc := 131) (L' := [_, _, _, _, _, _, _, _, _, _, _, _]) hC dL_acts_131 rfl (Nat.le_of_ble_eq_true rfl) rfl ?_
        refine r_aload_n (pc := 133) hC dL_acts_133 rfl ?_
        refine r_iconst (pc := 134) (v := 3) hC dL_acts_134 (by decide) ?_
        refine r_iload (pc := 135) hC dL_acts_135 rfl ?_
        refine r_iast (pc := 137) hC kg (xi_l (k := 3) ng (by decide) (by decide) (by decide)) dL_acts_137 ?_
        have hj : y % (rq + 1) ≤ rq := by have := Nat.mod_lt y (show 0 < rq + 1 by omega); omega
        obtain ⟨o1, a1, s1, o2, a2⟩ := drv_ok hi0 hj
        obtain ⟨g1, g2⟩ := oR_law (J := xu I 255 3 (nI (y % (rq + 1)) - 1)) (Q := P) hp hi0 hO (fun c hc => xu_row (by omega)) (fun c hc => rfl)
        have z1 := lA_g (k := 3) (v := nI (y % (rq + 1)) - 1) hA0 (by decide)
        refine r_aload_n (pc := 138) hC dL_acts_138 rfl ?_
        refine r_iload (pc := 139) hC dL_acts_139 rfl ?_
        refine k_X4_drive (pc := 141) hC gL_acts_X4_drive ⟨Nat.le_of_ble_eq_true rfl, Nat.le_of_ble_eq_true rfl⟩ ko hS g1 g2 hi0 (Nat.le_of_ble_eq_true rfl) rfl ⟨Nat.zero_le _, Nat.zero_le _⟩ dL_acts_141 ?_
        intro J141 Q141 rP141 rT141 rN141 rF141
        rw [a1]
        refine r_iload (pc := 144) hC dL_acts_144 rfl ?_
        refine r_icmp_ne (pc := 146) (tgt := 165) hC dL_acts_146 (by decide) (fun bq => (by first | exact absurd (rfl) bq | exact absurd bq (rfl))) (fun bq146 => ?_)
        have hi2 := inv_drive hi0 o1
        have hO2 := rT141 o1
        rw [s1] at hi2 hO2
        refine r_aload_n (pc := 149) hC dL_acts_149 rfl ?_
        refine r_aload_n (pc := 150) hC dL_acts_150 rfl ?_
        refine r_iconst (pc := 151) (v := 2) hC dL_acts_151 (by decide) ?_
        refine r_iald (pc := 152) hC kg (xi_l (k := 2) ng (by decide) (by decide) (by decide)) dL_acts_152 ?_
        rw [(rF141 255 (by decide)).1, xu_ne (Or.inr (by decide)), ag 2 (by decide), hq]
        refine k_X4_drive (pc := 153) hC gL_acts_X4_drive ⟨Nat.le_of_ble_eq_true rfl, Nat.le_of_ble_eq_true rfl⟩ ko hS rP141 hO2 hi2 (Nat.le_of_ble_eq_true rfl) rfl ⟨Nat.zero_le _, Nat.zero_le _⟩ dL_acts_153 ?_
        intro J153 Q153 rP153 rT153 rN153 rF153
        rw [a2]
        refine r_ldc (pc := 156) (v := -1000001) hC dL_acts_156 wl_L_acts_71 ?_
        refine r_icmp_ne (pc := 158) (tgt := 165) hC dL_acts_158 (by decide) (fun bq => (by first | exact absurd (rfl) bq | exact absurd bq (rfl))) (fun bq158 => ?_)
        refine r_iconst (pc := 161) (v := 1) hC dL_acts_161 (by decide) ?_
        refine r_goto (pc := 162) (tgt := 166) hC dL_acts_162 (by decide) ?_
        refine r_iret (pc := 166) hC hD rfl dL_acts_166 rfl ?_
        exact ⟨rfl, rfl, upd S 3 (nI (y % (rq + 1)) - 1), n, rq, rP153, ⟨_, _, _, rN153 o2⟩, hi2, lA_cong z1 (fun c h1 h2 => by rw [(rF153 c (by omega)).1]; exact (rF141 c (by omega)).1) (by rw [(rF153 259 (by decide)).2]; exact (rF141 259 (by decide)).2), lC_keep hcc (upd_ne (by decide)) (upd_ne (by decide)) (fun i hh => upd_ne (by omega)) (Nat.le_refl n)⟩
    · skip
      refine r_aload_n (pc := 48) hC dL_acts_48 rfl ?_
      refine r_aload_n (pc := 49) hC dL_acts_49 rfl ?_
      refine r_aload_n (pc := 50) hC dL_acts_50 rfl ?_
      refine r_aload_n (pc := 51) hC dL_acts_51 rfl ?_
      refine r_aload (pc := 52) hC dL_acts_52 rfl ?_
      refine r_aload (pc := 54) hC dL_acts_54 rfl ?_
      refine r_aload (pc := 56) hC dL_acts_56 rfl ?_
      refine r_iload (pc := 58) hC dL_acts_58 rfl ?_
      refine r_bipush (pc := 60) (v := 9) hC dL_acts_60 (by decide) ?_
      refine r_icmp_ne (pc := 62) (tgt := 69) hC dL_acts_62 (by decide) (fun bq62 => ?_) (fun bq62 => ?_)
      · skip
        refine r_iload (pc := 69) hC dL_acts_69 rfl ?_
        refine r_bipush (pc := 71) (v := 10) hC dL_acts_71 (by decide) ?_
        refine r_icmp_ne (pc := 73) (tgt := 80) hC dL_acts_73 (by decide) (fun bq73 => ?_) (fun bq73 => ?_)
        · skip
          refine r_iload (pc := 80) hC dL_acts_80 rfl ?_
          refine r_bipush (pc := 82) (v := 13) hC dL_acts_82 (by decide) ?_
          refine r_icmp_ge (pc := 84) (tgt := 91) hC dL_acts_84 (by decide) (fun bq84 => ?_) (fun bq84 => ?_)
          · skip
            refine r_iload (pc := 91) hC dL_acts_91 rfl ?_
            refine r_bipush (pc := 93) (v := 21) hC dL_acts_93 (by decide) ?_
            refine r_icmp_ge (pc := 95) (tgt := 102) hC dL_acts_95 (by decide) (fun bq95 => ?_) (fun bq95 => ?_)
            · skip
              refine r_iconst (pc := 102) (v := 4) hC dL_acts_102 (by decide) ?_
              refine r_iload (pc := 103) hC dL_acts_103 rfl ?_
              refine k_L_rolls_4 (pc := 105) hC gL_acts_L_rolls ⟨Nat.le_of_ble_eq_true rfl, Nat.le_of_ble_eq_true rfl⟩ hK0 hV0 hy (Nat.le_of_ble_eq_true rfl) rfl ⟨Nat.zero_le _, Nat.zero_le _⟩ dL_acts_105 ?_
              intro J105 Q105 S105 n105 q105 hV105
              refine r_iret (pc := 108) hC hD rfl dL_acts_108 rfl ?_
              exact ⟨rfl, rfl, _, _, _, hV105⟩
            · skip
              refine r_iconst (pc := 98) (v := 3) hC dL_acts_98 (by decide) ?_
              refine r_goto (pc := 99) (tgt := 103) hC dL_acts_99 (by decide) ?_
              refine r_iload (pc := 103) hC dL_acts_103 rfl ?_
              refine k_L_rolls_3 (pc := 105) hC gL_acts_L_rolls ⟨Nat.le_of_ble_eq_true rfl, Nat.le_of_ble_eq_true rfl⟩ hK0 hV0 hy (Nat.le_of_ble_eq_true rfl) rfl ⟨Nat.zero_le _, Nat.zero_le _⟩ dL_acts_105 ?_
              intro J105 Q105 S105 n105 q105 hV105
              refine r_iret (pc := 108) hC hD rfl dL_acts_108 rfl ?_
              exact ⟨rfl, rfl, _, _, _, hV105⟩
          · skip
            refine r_iconst (pc := 87) (v := 2) hC dL_acts_87 (by decide) ?_
            refine r_goto (pc := 88) (tgt := 103) hC dL_acts_88 (by decide) ?_
            refine r_iload (pc := 103) hC dL_acts_103 rfl ?_
            refine k_L_rolls_2 (pc := 105) hC gL_acts_L_rolls ⟨Nat.le_of_ble_eq_true rfl, Nat.le_of_ble_eq_true rfl⟩ hK0 hV0 hy (Nat.le_of_ble_eq_true rfl) rfl ⟨Nat.zero_le _, Nat.zero_le _⟩ dL_acts_105 ?_
            intro J105 Q105 S105 n105 q105 hV105
            refine r_iret (pc := 108) hC hD rfl dL_acts_108 rfl ?_
            exact ⟨rfl, rfl, _, _, _, hV105⟩
        · skip
          refine r_iconst (pc := 76) (v := 1) hC dL_acts_76 (by decide) ?_
          refine r_goto (pc := 77) (tgt := 103) hC dL_acts_77 (by decide) ?_
          refine r_iload (pc := 103) hC dL_acts_103 rfl ?_
          refine k_L_rolls_1 (pc := 105) hC gL_acts_L_rolls ⟨Nat.le_of_ble_eq_true rfl, Nat.le_of_ble_eq_true rfl⟩ hK0 hV0 hy (Nat.le_of_ble_eq_true rfl) rfl ⟨Nat.zero_le _, Nat.zero_le _⟩ dL_acts_105 ?_
          intro J105 Q105 S105 n105 q105 hV105
          refine r_iret (pc := 108) hC hD rfl dL_acts_108 rfl ?_
          exact ⟨rfl, rfl, _, _, _, hV105⟩
      · skip
        refine r_iconst (pc := 65) (v := 0) hC dL_acts_65 (by decide) ?_
        refine r_goto (pc := 66) (tgt := 103) hC dL_acts_66 (by decide) ?_
        refine r_iload (pc := 103) hC dL_acts_103 rfl ?_
        refine k_L_rolls_0 (pc := 105) hC gL_acts_L_rolls ⟨Nat.le_of_ble_eq_true rfl, Nat.le_of_ble_eq_true rfl⟩ hK0 hV0 hy (Nat.le_of_ble_eq_true rfl) rfl ⟨Nat.zero_le _, Nat.zero_le _⟩ dL_acts_105 ?_
        intro J105 Q105 S105 n105 q105 hV105
        refine r_iret (pc := 108) hC hD rfl dL_acts_108 rfl ?_
        exact ⟨rfl, rfl, _, _, _, hV105⟩
  · skip
    refine r_aload_n (pc := 27) hC dL_acts_27 rfl ?_
    refine r_aload_n (pc := 28) hC dL_acts_28 rfl ?_
    refine r_aload_n (pc := 29) hC dL_acts_29 rfl ?_
    refine r_aload_n (pc := 30) hC dL_acts_30 rfl ?_
    refine r_aload (pc := 31) hC dL_acts_31 rfl ?_
    refine r_aload (pc := 33) hC dL_acts_33 rfl ?_
    refine r_iload (pc := 35) hC dL_acts_35 rfl ?_
    refine k_L_names (pc := 37) hC gL_acts_L_names ⟨Nat.le_of_ble_eq_true rfl, Nat.le_of_ble_eq_true rfl⟩ hK0 hV0 hy (Nat.le_of_ble_eq_true rfl) rfl ⟨Nat.zero_le _, Nat.zero_le _⟩ dL_acts_37 ?_
    intro J37 Q37 S37 n37 q37 hV37
    refine r_iret (pc := 40) hC hD rfl dL_acts_40 rfl ?_
    exact ⟨rfl, rfl, _, _, _, hV37⟩
theorem k_L_acts {X : xF} {G : xG} {cs : Nat × Nat} {μ : xM} {I : xI} {P : xP} {L : List (Option Value)} {pc : Nat} {rest : List Value} {cc : ByteArray} {Ts : List Cond} {own : String} {nL : Nat} {R : Room} (hC : xC X G cc Ts own nL R) {index : Nat} (hG : GoodIn Ts (va_wsS own index yL_acts wsL_acts)) (hR : rm_L_acts.frames + 1 ≤ R.frames ∧ 8 + (12 + 11) + rm_L_acts.locals ≤ R.locals) {n rq cn : Nat} {S : Nat → Int32} {z : Int32} (hK : lK μ) (hV : lV I P S n rq cn) (hW : (rest.map fun v => v.category).sum ≤ 8) (hL : L.length = nL) (hcs : cs.1 ≤ R.cells ∧ cs.2 ≤ R.slots) (hdec : decode cc pc = .ok (.invokestatic index, 3)) (kk : ∀ (I' : xI) (P' : xP) (S' : Nat → Int32) (n' rq' : Nat), lV I' P' S' n' rq' (cn + 1) → xg X G cs μ I' P' L (pc + 3) (.int 1 :: rest)) : xg X G cs μ I P L pc (.int z :: .ref (xZ G + 260) :: .ref (xZ G + 259) :: .ref (xZ G + 258) :: .ref (xZ G + 257) :: .ref (xZ G + 256) :: .ref (xZ G + 255) :: .ref (xZ G + 1) :: rest) :=
  r_callS hC (c_L_acts X.2.1 hK hV) hG rfl rfl rfl hd_L_acts.2 hR rfl rfl hW hL hcs hdec (by rintro vv μ' I' P' ⟨rfl, rfl, S', n', rq', h⟩; exact kk I' P' S' n' rq' h)
