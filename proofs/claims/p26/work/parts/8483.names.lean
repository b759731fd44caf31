theorem wl_L_names_64 : Cond.constant RL 64 (-1000002) ∈ wsL_names := List.mem_of_getElem? (i := 5) (by decide +kernel)
set_option maxHeartbeats 4000000 in
set_option maxRecDepth 100000 in
theorem s_L_names_174 {X : xF} {G : xG} {μ : xM} {I : xI} {P : xP} {n rq cn st y : Nat} {S tx : Nat → Int32} {H : Nat → Nat → Int32} {x12 : Option Value} (hC : xC X G cL_names wsL_names RL 16 rm_L_names) (hD : xD X G yL_names.name (some .boolean) 0 0 (pW μ cn)) (hK : lK μ) (hy : y < 10000000) (hp : oP P 1) (hO : oR I P 1 S n rq st H (nSz y) tx) (hi : invN S n rq) (hcc : lC S n rq cn) (hA : lA I P S n rq) (hT : ∀ j, j < nSz y → tx j = nmF y j) : xg X G (0, 0) μ I P [some (.ref (xZ G + 1)), some (.ref (xZ G + 255)), some (.ref (xZ G + 256)), some (.ref (xZ G + 257)), some (.ref (xZ G + 258)), some (.ref (xZ G + 259)), some (.int (nI y)), some (.int (nI (nSz y))), some (.int (nI (nKd y))), some (.int (wsum (nmF y) (nSz y))), some (.int 1), some (.int (nI (nSz y))), x12, none, none, none] 174 [] := by
  have hK0 := hK
  obtain ⟨ko, hS, ⟨kg, ng⟩, ⟨kl, nl⟩, ⟨kw, nw⟩, ⟨ku, nu⟩, ⟨kc, nc⟩, ⟨kr, nr⟩⟩ := hK
  have hi0 := hi
  obtain ⟨hn20, hn, hq6, hq, hcur, hdr, h8, h9, h10, hrows⟩ := hi
  have hcn : cN S = n := by rw [cN, hn, nI_clamp (by omega)]
  obtain ⟨hz1, hz14⟩ := nSz_le y
  have hk2 := nKd_le y
  obtain ⟨w, hw60, hw⟩ := wid_f (y := y)
  refine r_aload_n (pc := 174) hC dL_names_174 rfl ?_
  refine r_iload (pc := 175) hC dL_names_175 rfl ?_
  rw [hw]
  refine k_L_squeeze (pc := 177) hC gL_names_L_squeeze ⟨Nat.le_of_ble_eq_true rfl, Nat.le_of_ble_eq_true rfl⟩ hK0 hA hi0 hw60 (Nat.le_of_ble_eq_true rfl) rfl ⟨Nat.zero_le _, Nat.zero_le _⟩ dL_names_177 ?_
  refine r_istore (pc := 180) (L' := [_, _, _, _, _, _, _, _, _, _, _, _, _, _, _, _]) hC dL_names_180 rfl (Nat.le_of_ble_eq_true rfl) rfl ?_
  refine r_iload (pc := 182) hC dL_names_182 rfl ?_
  refine r_sipush (pc := 184) (v := 150) hC dL_names_184 (by decide) ?_
  refine r_icmp_le (pc := 187) (tgt := 194) hC dL_names_187 (by decide) (fun bq187 => ?_) (fun bq187 => ?_)
  · skip
    refine r_aload_n (pc := 194) hC dL_names_194 rfl ?_
    refine r_iconst (pc := 195) (v := 0) hC dL_names_195 (by decide) ?_
    refine r_iald (pc := 196) hC kg (xi_l (k := 0) ng (by decide) (by decide) (by decide)) dL_names_196 ?_
    rw [hA.1 0 (by decide), hn]
    refine r_bipush (pc := 197) (v := 20) hC dL_names_197 (by decide) ?_
    refine r_icmp_ne (pc := 199) (tgt := 206) hC dL_names_199 (by decide) (fun bq199 => ?_) (fun bq199 => ?_)
    · skip
      refine r_iconst (pc := 206) (v := 0) hC dL_names_206 (by decide) ?_
      obtain ⟨e1, e2⟩ := nm_red (S := S) (n := n) hT (nmF_ok y) hz1 hz14
      rw [hw] at e1 e2
      have h20 : n ≠ 20 := fun e => bq199 (by rw [e]; rfl)
      rw [if_pos bq187] at e1 e2
      rw [if_neg h20] at e1
      obtain ⟨f0, f1, f2, f3, f4, f5⟩ := aa_yes hcn hT (nmF_ok y) hz1 hz14 e1
      refine r_istore (pc := 207) (L' := [_, _, _, _, _, _, _, _, _, _, _, _, _, _, _, _]) hC dL_names_207 rfl (Nat.le_of_ble_eq_true rfl) rfl ?_
      refine r_iload (pc := 209) hC dL_names_209 rfl ?_
      refine r_if_eq (pc := 211) (tgt := 288) hC dL_names_211 (by decide) (fun bq => (by first | exact absurd ((by decide : ¬ (1 : Int32) = 0)) bq | exact absurd bq ((by decide : ¬ (1 : Int32) = 0)))) (fun bq211 => ?_)
      refine r_aload_n (pc := 214) hC dL_names_214 rfl ?_
      refine r_iconst (pc := 215) (v := 0) hC dL_names_215 (by decide) ?_
      refine k_X4_fault (pc := 216) hC gL_names_X4_fault ⟨Nat.le_of_ble_eq_true rfl, Nat.le_of_ble_eq_true rfl⟩ ko hS hp hO hi0 (Nat.le_of_ble_eq_true rfl) rfl ⟨Nat.zero_le _, Nat.zero_le _⟩ dL_names_216 ?_
      rw [f0]
      refine r_iload (pc := 219) hC dL_names_219 rfl ?_
      refine r_if_ne (pc := 221) (tgt := 229) hC dL_names_221 (by decide) (fun bq => (by first | exact absurd ((rfl : (0 : Int32) = 0)) bq | exact absurd bq ((rfl : (0 : Int32) = 0)))) (fun bq221 => ?_)
      refine r_ldc (pc := 224) (v := -1000004) hC dL_names_224 wl_L_names_60 ?_
      refine r_goto (pc := 226) (tgt := 230) hC dL_names_226 (by decide) ?_
      refine r_icmp_ne (pc := 230) (tgt := 288) hC dL_names_230 (by decide) (fun bq => (by first | exact absurd (rfl) bq | exact absurd bq (rfl))) (fun bq230 => ?_)
      refine r_aload_n (pc := 233) hC dL_names_233 rfl ?_
      refine r_iconst (pc := 234) (v := 1) hC dL_names_234 (by decide) ?_
      refine k_X4_fault (pc := 235) hC gL_names_X4_fault ⟨Nat.le_of_ble_eq_true rfl, Nat.le_of_ble_eq_true rfl⟩ ko hS hp hO hi0 (Nat.le_of_ble_eq_true rfl) rfl ⟨Nat.zero_le _, Nat.zero_le _⟩ dL_names_235 ?_
      rw [f1]
      refine r_iload (pc := 238) hC dL_names_238 rfl ?_
      refine r_if_ne (pc := 240) (tgt := 248) hC dL_names_240 (by decide) (fun bq => (by first | exact absurd ((rfl : (0 : Int32) = 0)) bq | exact absurd bq ((rfl : (0 : Int32) = 0)))) (fun bq240 => ?_)
      refine r_ldc (pc := 243) (v := -1000004) hC dL_names_243 wl_L_names_60 ?_
      refine r_goto (pc := 245) (tgt := 250) hC dL_names_245 (by decide) ?_
      refine r_icmp_ne (pc := 250) (tgt := 288) hC dL_names_250 (by decide) (fun bq => (by first | exact absurd (rfl) bq | exact absurd bq (rfl))) (fun bq250 => ?_)
      refine r_aload_n (pc := 253) hC dL_names_253 rfl ?_
      refine r_iconst (pc := 254) (v := 2) hC dL_names_254 (by decide) ?_
      refine k_X4_fault (pc := 255) hC gL_names_X4_fault ⟨Nat.le_of_ble_eq_true rfl, Nat.le_of_ble_eq_true rfl⟩ ko hS hp hO hi0 (Nat.le_of_ble_eq_true rfl) rfl ⟨Nat.zero_le _, Nat.zero_le _⟩ dL_names_255 ?_
      rw [f2]
      refine r_iload (pc := 258) hC dL_names_258 rfl ?_
      refine r_if_ne (pc := 260) (tgt := 268) hC dL_names_260 (by decide) (fun bq => (by first | exact absurd ((rfl : (0 : Int32) = 0)) bq | exact absurd bq ((rfl : (0 : Int32) = 0)))) (fun bq260 => ?_)
      refine r_ldc (pc := 263) (v := -1000004) hC dL_names_263 wl_L_names_60 ?_
      refine r_goto (pc := 265) (tgt := 281) hC dL_names_265 (by decide) ?_
      refine r_icmp_ne (pc := 281) (tgt := 288) hC dL_names_281 (by decide) (fun bq => (by first | exact absurd (rfl) bq | exact absurd bq (rfl))) (fun bq281 => ?_)
      refine r_iconst (pc := 284) (v := 1) hC dL_names_284 (by decide) ?_
      refine r_goto (pc := 285) (tgt := 289) hC dL_names_285 (by decide) ?_
      refine r_istore (pc := 289) (L' := [_, _, _, _, _, _, _, _, _, _, _, _, _, _, _, _]) hC dL_names_289 rfl (Nat.le_of_ble_eq_true rfl) rfl ?_
      refine r_iload (pc := 291) hC dL_names_291 rfl ?_
      refine r_if_eq (pc := 293) (tgt := 301) hC dL_names_293 (by decide) (fun bq => (by first | exact absurd ((by decide : ¬ (1 : Int32) = 0)) bq | exact absurd bq ((by decide : ¬ (1 : Int32) = 0)))) (fun bq293 => ?_)
      refine r_iload (pc := 296) hC dL_names_296 rfl ?_
      refine r_if_le (pc := 298) (tgt := 330) hC dL_names_298 (by decide) (fun bq298 => ?_) (fun bq => (by first | exact absurd ((by decide : (0 : Int32) ≤ 0)) bq | exact absurd bq ((by decide : (0 : Int32) ≤ 0))))
      refine r_aload_n (pc := 330) hC dL_names_330 rfl ?_
      refine r_iconst (pc := 331) (v := 0) hC dL_names_331 (by decide) ?_
      refine r_iald (pc := 332) hC kg (xi_l (k := 0) ng (by decide) (by decide) (by decide)) dL_names_332 ?_
      rw [hA.1 0 (by decide), hn]
      refine r_istore (pc := 333) (L' := [_, _, _, _, _, _, _, _, _, _, _, _, _, _, _, _]) hC dL_names_333 rfl (Nat.le_of_ble_eq_true rfl) rfl ?_
      refine r_aload_n (pc := 335) hC dL_names_335 rfl ?_
      refine r_iload (pc := 336) hC dL_names_336 rfl ?_
      refine r_iload (pc := 338) hC dL_names_338 rfl ?_
      refine r_iast (pc := 340) hC kl (xi_n (k := n) (by rw [nl]; omega) (by rw [nl]; decide)) dL_names_340 ?_
      refine r_aload_n (pc := 341) hC dL_names_341 rfl ?_
      refine r_iload (pc := 342) hC dL_names_342 rfl ?_
      refine r_iconst (pc := 344) (v := 0) hC dL_names_344 (by decide) ?_
      refine r_iast (pc := 345) hC kw (xi_n (k := n) (by rw [nw]; omega) (by rw [nw]; decide)) dL_names_345 ?_
      refine r_aload (pc := 346) hC dL_names_346 rfl ?_
      refine r_iload (pc := 348) hC dL_names_348 rfl ?_
      refine r_iconst (pc := 350) (v := 0) hC dL_names_350 (by decide) ?_
      refine r_iast (pc := 351) hC ku (xi_n (k := n) (by rw [nu]; omega) (by rw [nu]; decide)) dL_names_351 ?_
      refine r_aload (pc := 352) hC dL_names_352 rfl ?_
      refine r_iconst (pc := 354) (v := 2) hC dL_names_354 (by decide) ?_
      refine r_iload (pc := 355) hC dL_names_355 rfl ?_
      refine r_imul (pc := 357) hC dL_names_357 ?_
      refine r_lconst (pc := 358) (v := 0) hC dL_names_358 rfl ?_
      refine r_last (pc := 359) hC kc (xi_e (k := 2 * n) (by rw [show (2 : Int32) = nI 2 from rfl, pk_mul]) nc (by omega) (by decide)) dL_names_359 ?_
      refine r_aload (pc := 360) hC dL_names_360 rfl ?_
      refine r_iconst (pc := 362) (v := 2) hC dL_names_362 (by decide) ?_
      refine r_iload (pc := 363) hC dL_names_363 rfl ?_
      refine r_imul (pc := 365) hC dL_names_365 ?_
      refine r_iconst (pc := 366) (v := 1) hC dL_names_366 (by decide) ?_
      refine r_iadd (pc := 367) hC dL_names_367 ?_
      refine r_lconst (pc := 368) (v := 0) hC dL_names_368 rfl ?_
      refine r_last (pc := 369) hC kc (xi_e (k := 2 * n + 1) (by rw [show (2 : Int32) = nI 2 from rfl, pk_mul, nI_1]) nc (by omega) (by decide)) dL_names_369 ?_
      refine r_iconst (pc := 370) (v := 0) hC dL_names_370 (by decide) ?_
      refine r_istore (pc := 371) (L' := [_, _, _, _, _, _, _, _, _, _, _, _, _, _, _, _]) hC dL_names_371 rfl (Nat.le_of_ble_eq_true rfl) rfl ?_
      have hA4 := lA_c (v := 0) (m := 2 * n + 1) (lA_c (v := 0) (m := 2 * n) (lA_o (c := 258) (v := 0) (lA_o (c := 257) (v := 0) (lA_o (c := 256) (v := nI (nSz y)) hA (Or.inl rfl) (Nat.le_refl n)) (Or.inr (Or.inl rfl)) (Nat.le_refl n)) (Or.inr (Or.inr rfl)) (Nat.le_refl n)) (Nat.le_refl _)) (by omega)
      obtain ⟨g1, g2⟩ := oR_law (J := xu (xu (xu I 256 n (nI (nSz y))) 257 n 0) 258 n 0) (Q := xu (xu P 259 (2 * n) 0) 259 (2 * n + 1) 0) hp hi0 hO (fun c hc => by rw [xu_row (by omega), xu_row (by omega), xu_row (by omega)]) (fun c hc => by rw [xu_row (by omega), xu_row (by omega)])
      exact s_L_names_373 hC hD hK0 hy g1 g2 hi0 hcc hA4 hT (by omega) e1 (by rw [xu_row (by decide), xu_row (by decide), xu_at]) (by rw [xu_row (by decide), xu_at]) xu_at (fun b hb => by
        have hc : b = 0 ∨ b = 1 := by omega
        rcases hc with rfl | rfl
        · rw [xu_ne (Or.inr (by omega))]; exact xu_at
        · rw [xu_at])
    · skip
      refine r_iconst (pc := 202) (v := 3) hC dL_names_202 (by decide) ?_
      refine r_goto (pc := 203) (tgt := 207) hC dL_names_203 (by decide) ?_
      obtain ⟨e1, e2⟩ := nm_red (S := S) (n := n) hT (nmF_ok y) hz1 hz14
      rw [hw] at e1 e2
      have h20 : n = 20 := (nI_eq (b := 20) (by omega) (by decide)).mp bq199
      rw [if_pos bq187] at e1 e2
      rw [if_pos h20] at e1
      obtain ⟨f0, f1, f2, f3, f4⟩ := aa_no hcn hT (nmF_ok y) hz1 hz14 e1 (by decide) e2
      refine r_istore (pc := 207) (L' := [_, _, _, _, _, _, _, _, _, _, _, _, _, _, _, _]) hC dL_names_207 rfl (Nat.le_of_ble_eq_true rfl) rfl ?_
      refine r_iload (pc := 209) hC dL_names_209 rfl ?_
      refine r_if_eq (pc := 211) (tgt := 288) hC dL_names_211 (by decide) (fun bq => (by first | exact absurd ((by decide : ¬ (1 : Int32) = 0)) bq | exact absurd bq ((by decide : ¬ (1 : Int32) = 0)))) (fun bq211 => ?_)
      refine r_aload_n (pc := 214) hC dL_names_214 rfl ?_
      refine r_iconst (pc := 215) (v := 0) hC dL_names_215 (by decide) ?_
      refine k_X4_fault (pc := 216) hC gL_names_X4_fault ⟨Nat.le_of_ble_eq_true rfl, Nat.le_of_ble_eq_true rfl⟩ ko hS hp hO hi0 (Nat.le_of_ble_eq_true rfl) rfl ⟨Nat.zero_le _, Nat.zero_le _⟩ dL_names_216 ?_
      rw [f0]
      refine r_iload (pc := 219) hC dL_names_219 rfl ?_
      refine r_if_ne (pc := 221) (tgt := 229) hC dL_names_221 (by decide) (fun bq221 => ?_) (fun bq => (by first | exact absurd ((by decide : ¬ (3 : Int32) = 0)) bq | exact absurd bq ((by decide : ¬ (3 : Int32) = 0))))
      refine r_iconst (pc := 229) (v := 0) hC dL_names_229 (by decide) ?_
      refine r_icmp_ne (pc := 230) (tgt := 288) hC dL_names_230 (by decide) (fun bq => (by first | exact absurd (rfl) bq | exact absurd bq (rfl))) (fun bq230 => ?_)
      refine r_aload_n (pc := 233) hC dL_names_233 rfl ?_
      refine r_iconst (pc := 234) (v := 1) hC dL_names_234 (by decide) ?_
      refine k_X4_fault (pc := 235) hC gL_names_X4_fault ⟨Nat.le_of_ble_eq_true rfl, Nat.le_of_ble_eq_true rfl⟩ ko hS hp hO hi0 (Nat.le_of_ble_eq_true rfl) rfl ⟨Nat.zero_le _, Nat.zero_le _⟩ dL_names_235 ?_
      rw [f1]
      refine r_iload (pc := 238) hC dL_names_238 rfl ?_
      refine r_if_ne (pc := 240) (tgt := 248) hC dL_names_240 (by decide) (fun bq240 => ?_) (fun bq => (by first | exact absurd ((by decide : ¬ (3 : Int32) = 0)) bq | exact absurd bq ((by decide : ¬ (3 : Int32) = 0))))
      refine r_iload (pc := 248) hC dL_names_248 rfl ?_
      refine r_icmp_ne (pc := 250) (tgt := 288) hC dL_names_250 (by decide) (fun bq => (by first | exact absurd (rfl) bq | exact absurd bq (rfl))) (fun bq250 => ?_)
      refine r_aload_n (pc := 253) hC dL_names_253 rfl ?_
      refine r_iconst (pc := 254) (v := 2) hC dL_names_254 (by decide) ?_
      refine k_X4_fault (pc := 255) hC gL_names_X4_fault ⟨Nat.le_of_ble_eq_true rfl, Nat.le_of_ble_eq_true rfl⟩ ko hS hp hO hi0 (Nat.le_of_ble_eq_true rfl) rfl ⟨Nat.zero_le _, Nat.zero_le _⟩ dL_names_255 ?_
      rw [f2]
      refine r_iload (pc := 258) hC dL_names_258 rfl ?_
      refine r_if_ne (pc := 260) (tgt := 268) hC dL_names_260 (by decide) (fun bq260 => ?_) (fun bq => (by first | exact absurd ((by decide : ¬ (3 : Int32) = 0)) bq | exact absurd bq ((by decide : ¬ (3 : Int32) = 0))))
      refine r_iload (pc := 268) hC dL_names_268 rfl ?_
      refine r_iconst (pc := 270) (v := 2) hC dL_names_270 (by decide) ?_
      refine r_icmp_ne (pc := 271) (tgt := 279) hC dL_names_271 (by decide) (fun bq271 => ?_) (fun bq => (by first | exact absurd ((by decide : ¬ (3 : Int32) = 2)) bq | exact absurd bq ((by decide : ¬ (3 : Int32) = 2))))
      refine r_iload (pc := 279) hC dL_names_279 rfl ?_
      refine r_icmp_ne (pc := 281) (tgt := 288) hC dL_names_281 (by decide) (fun bq => (by first | exact absurd (rfl) bq | exact absurd bq (rfl))) (fun bq281 => ?_)
      refine r_iconst (pc := 284) (v := 1) hC dL_names_284 (by decide) ?_
      refine r_goto (pc := 285) (tgt := 289) hC dL_names_285 (by decide) ?_
      refine r_istore (pc := 289) (L' := [_, _, _, _, _, _, _, _, _, _, _, _, _, _, _, _]) hC dL_names_289 rfl (Nat.le_of_ble_eq_true rfl) rfl ?_
      refine r_iload (pc := 291) hC dL_names_291 rfl ?_
      refine r_if_eq (pc := 293) (tgt := 301) hC dL_names_293 (by decide) (fun bq => (by first | exact absurd ((by decide : ¬ (1 : Int32) = 0)) bq | exact absurd bq ((by decide : ¬ (1 : Int32) = 0)))) (fun bq293 => ?_)
      refine r_iload (pc := 296) hC dL_names_296 rfl ?_
      refine r_if_le (pc := 298) (tgt := 330) hC dL_names_298 (by decide) (fun bq => (by first | exact absurd ((by decide : ¬ (3 : Int32) ≤ 0)) bq | exact absurd bq ((by decide : ¬ (3 : Int32) ≤ 0)))) (fun bq298 => ?_)
      refine r_iload (pc := 301) hC dL_names_301 rfl ?_
      refine r_if_eq (pc := 303) (tgt := 328) hC dL_names_303 (by decide) (fun bq => (by first | exact absurd ((by decide : ¬ (1 : Int32) = 0)) bq | exact absurd bq ((by decide : ¬ (1 : Int32) = 0)))) (fun bq303 => ?_)
      refine r_aload_n (pc := 306) hC dL_names_306 rfl ?_
      refine k_X4_add (pc := 307) hC gL_names_X4_add ⟨Nat.le_of_ble_eq_true rfl, Nat.le_of_ble_eq_true rfl⟩ ko hS hp hO hi0 (Nat.le_of_ble_eq_true rfl) rfl ⟨Nat.zero_le _, Nat.zero_le _⟩ dL_names_307 ?_
      intro J307 Q307 rP307 rT307 rN307 rF307
      rw [f4]
      refine r_ldc (pc := 310) (v := -1000002) hC dL_names_310 wl_L_names_64 ?_
      refine r_icmp_ne (pc := 312) (tgt := 328) hC dL_names_312 (by decide) (fun bq => (by first | exact absurd (rfl) bq | exact absurd bq (rfl))) (fun bq312 => ?_)
      refine r_aload_n (pc := 315) hC dL_names_315 rfl ?_
      refine k_X4_clearText (pc := 316) hC gL_names_X4_clearText ⟨Nat.le_of_ble_eq_true rfl, Nat.le_of_ble_eq_true rfl⟩ ko hS rP307 (rN307 f3) hi0 (Nat.le_of_ble_eq_true rfl) rfl ⟨Nat.zero_le _, Nat.zero_le _⟩ dL_names_316 ?_
      intro J316 rT316 rF316
      refine r_iload (pc := 319) hC dL_names_319 rfl ?_
      refine r_icmp_ne (pc := 321) (tgt := 328) hC dL_names_321 (by decide) (fun bq => (by first | exact absurd (rfl) bq | exact absurd bq (rfl))) (fun bq321 => ?_)
      refine r_iconst (pc := 324) (v := 1) hC dL_names_324 (by decide) ?_
      refine r_goto (pc := 325) (tgt := 329) hC dL_names_325 (by decide) ?_
      refine r_iret (pc := 329) hC hD rfl dL_names_329 rfl ?_
      exact ⟨rfl, rfl, S, n, rq, rP307, ⟨_, _, _, rT316⟩, hi0, lA_cong hA (fun c h1 h2 => by rw [rF316 c (by omega)]; exact (rF307 c (by omega)).1) (rF307 259 (by decide)).2, lC_keep hcc rfl rfl (fun _ _ => rfl) (Nat.le_refl n)⟩
  · skip
    refine r_iconst (pc := 190) (v := 2) hC dL_names_190 (by decide) ?_
    refine r_goto (pc := 191) (tgt := 207) hC dL_names_191 (by decide) ?_
    obtain ⟨e1, e2⟩ := nm_red (S := S) (n := n) hT (nmF_ok y) hz1 hz14
    rw [hw] at e1 e2
    rw [if_neg bq187] at e1 e2
    obtain ⟨f0, f1, f2, f3, f4⟩ := aa_no hcn hT (nmF_ok y) hz1 hz14 e1 (by decide) e2
    refine r_istore (pc := 207) (L' := [_, _, _, _, _, _, _, _, _, _, _, _, _, _, _, _]) hC dL_names_207 rfl (Nat.le_of_ble_eq_true rfl) rfl ?_
    refine r_iload (pc := 209) hC dL_names_209 rfl ?_
    refine r_if_eq (pc := 211) (tgt := 288) hC dL_names_211 (by decide) (fun bq => (by first | exact absurd ((by decide : ¬ (1 : Int32) = 0)) bq | exact absurd bq ((by decide : ¬ (1 : Int32) = 0)))) (fun bq211 => ?_)
    refine r_aload_n (pc := 214) hC dL_names_214 rfl ?_
    refine r_iconst (pc := 215) (v := 0) hC dL_names_215 (by decide) ?_
    refine k_X4_fault (pc := 216) hC gL_names_X4_fault ⟨Nat.le_of_ble_eq_true rfl, Nat.le_of_ble_eq_true rfl⟩ ko hS hp hO hi0 (Nat.le_of_ble_eq_true rfl) rfl ⟨Nat.zero_le _, Nat.zero_le _⟩ dL_names_216 ?_
    rw [f0]
    refine r_iload (pc := 219) hC dL_names_219 rfl ?_
    refine r_if_ne (pc := 221) (tgt := 229) hC dL_names_221 (by decide) (fun bq221 => ?_) (fun bq => (by first | exact absurd ((by decide : ¬ (2 : Int32) = 0)) bq | exact absurd bq ((by decide : ¬ (2 : Int32) = 0))))
    refine r_iconst (pc := 229) (v := 0) hC dL_names_229 (by decide) ?_
    refine r_icmp_ne (pc := 230) (tgt := 288) hC dL_names_230 (by decide) (fun bq => (by first | exact absurd (rfl) bq | exact absurd bq (rfl))) (fun bq230 => ?_)
    refine r_aload_n (pc := 233) hC dL_names_233 rfl ?_
    refine r_iconst (pc := 234) (v := 1) hC dL_names_234 (by decide) ?_
    refine k_X4_fault (pc := 235) hC gL_names_X4_fault ⟨Nat.le_of_ble_eq_true rfl, Nat.le_of_ble_eq_true rfl⟩ ko hS hp hO hi0 (Nat.le_of_ble_eq_true rfl) rfl ⟨Nat.zero_le _, Nat.zero_le _⟩ dL_names_235 ?_
    rw [f1]
    refine r_iload (pc := 238) hC dL_names_238 rfl ?_
    refine r_if_ne (pc := 240) (tgt := 248) hC dL_names_240 (by decide) (fun bq240 => ?_) (fun bq => (by first | exact absurd ((by decide : ¬ (2 : Int32) = 0)) bq | exact absurd bq ((by decide : ¬ (2 : Int32) = 0))))
    refine r_iload (pc := 248) hC dL_names_248 rfl ?_
    refine r_icmp_ne (pc := 250) (tgt := 288) hC dL_names_250 (by decide) (fun bq => (by first | exact absurd (rfl) bq | exact absurd bq (rfl))) (fun bq250 => ?_)
    refine r_aload_n (pc := 253) hC dL_names_253 rfl ?_
    refine r_iconst (pc := 254) (v := 2) hC dL_names_254 (by decide) ?_
    refine k_X4_fault (pc := 255) hC gL_names_X4_fault ⟨Nat.le_of_ble_eq_true rfl, Nat.le_of_ble_eq_true rfl⟩ ko hS hp hO hi0 (Nat.le_of_ble_eq_true rfl) rfl ⟨Nat.zero_le _, Nat.zero_le _⟩ dL_names_255 ?_
    rw [f2]
    refine r_iload (pc := 258) hC dL_names_258 rfl ?_
    refine r_if_ne (pc := 260) (tgt := 268) hC dL_names_260 (by decide) (fun bq260 => ?_) (fun bq => (by first | exact absurd ((by decide : ¬ (2 : Int32) = 0)) bq | exact absurd bq ((by decide : ¬ (2 : Int32) = 0))))
    refine r_iload (pc := 268) hC dL_names_268 rfl ?_
    refine r_iconst (pc := 270) (v := 2) hC dL_names_270 (by decide) ?_
    refine r_icmp_ne (pc := 271) (tgt := 279) hC dL_names_271 (by decide) (fun bq => (by first | exact absurd (rfl) bq | exact absurd bq (rfl))) (fun bq271 => ?_)
    refine r_iload (pc := 274) hC dL_names_274 rfl ?_
    refine r_goto (pc := 276) (tgt := 281) hC dL_names_276 (by decide) ?_
    refine r_icmp_ne (pc := 281) (tgt := 288) hC dL_names_281 (by decide) (fun bq => (by first | exact absurd (rfl) bq | exact absurd bq (rfl))) (fun bq281 => ?_)
    refine r_iconst (pc := 284) (v := 1) hC dL_names_284 (by decide) ?_
    refine r_goto (pc := 285) (tgt := 289) hC dL_names_285 (by decide) ?_
    refine r_istore (pc := 289) (L' := [_, _, _, _, _, _, _, _, _, _, _, _, _, _, _, _]) hC dL_names_289 rfl (Nat.le_of_ble_eq_true rfl) rfl ?_
    refine r_iload (pc := 291) hC dL_names_291 rfl ?_
    refine r_if_eq (pc := 293) (tgt := 301) hC dL_names_293 (by decide) (fun bq => (by first | exact absurd ((by decide : ¬ (1 : Int32) = 0)) bq | exact absurd bq ((by decide : ¬ (1 : Int32) = 0)))) (fun bq293 => ?_)
    refine r_iload (pc := 296) hC dL_names_296 rfl ?_
    refine r_if_le (pc := 298) (tgt := 330) hC dL_names_298 (by decide) (fun bq => (by first | exact absurd ((by decide : ¬ (2 : Int32) ≤ 0)) bq | exact absurd bq ((by decide : ¬ (2 : Int32) ≤ 0)))) (fun bq298 => ?_)
    refine r_iload (pc := 301) hC dL_names_301 rfl ?_
    refine r_if_eq (pc := 303) (tgt := 328) hC dL_names_303 (by decide) (fun bq => (by first | exact absurd ((by decide : ¬ (1 : Int32) = 0)) bq | exact absurd bq ((by decide : ¬ (1 : Int32) = 0)))) (fun bq303 => ?_)
    refine r_aload_n (pc := 306) hC dL_names_306 rfl ?_
    refine k_X4_add (pc := 307) hC gL_names_X4_add ⟨Nat.le_of_ble_eq_true rfl, Nat.le_of_ble_eq_true rfl⟩ ko hS hp hO hi0 (Nat.le_of_ble_eq_true rfl) rfl ⟨Nat.zero_le _, Nat.zero_le _⟩ dL_names_307 ?_
    intro J307 Q307 rP307 rT307 rN307 rF307
    rw [f4]
    refine r_ldc (pc := 310) (v := -1000002) hC dL_names_310 wl_L_names_64 ?_
    refine r_icmp_ne (pc := 312) (tgt := 328) hC dL_names_312 (by decide) (fun bq => (by first | exact absurd (rfl) bq | exact absurd bq (rfl))) (fun bq312 => ?_)
    refine r_aload_n (pc := 315) hC dL_names_315 rfl ?_
    refine k_X4_clearText (pc := 316) hC gL_names_X4_clearText ⟨Nat.le_of_ble_eq_true rfl, Nat.le_of_ble_eq_true rfl⟩ ko hS rP307 (rN307 f3) hi0 (Nat.le_of_ble_eq_true rfl) rfl ⟨Nat.zero_le _, Nat.zero_le _⟩ dL_names_316 ?_
    intro J316 rT316 rF316
    refine r_iload (pc := 319) hC dL_names_319 rfl ?_
    refine r_icmp_ne (pc := 321) (tgt := 328) hC dL_names_321 (by decide) (fun bq => (by first | exact absurd (rfl) bq | exact absurd bq (rfl))) (fun bq321 => ?_)
    refine r_iconst (pc := 324) (v := 1) hC dL_names_324 (by decide) ?_
    refine r_goto (pc := 325) (tgt := 329) hC dL_names_325 (by decide) ?_
    refine r_iret (pc := 329) hC hD rfl dL_names_329 rfl ?_
    exact ⟨rfl, rfl, S, n, rq, rP307, ⟨_, _, _, rT316⟩, hi0, lA_cong hA (fun c h1 h2 => by rw [rF316 c (by omega)]; exact (rF307 c (by omega)).1) (rF307 259 (by decide)).2, lC_keep hcc rfl rfl (fun _ _ => rfl) (Nat.le_refl n)⟩
