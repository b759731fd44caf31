abbrev rm_L_rolls : Room := { frames := 5, cells := 0, slots := 0, locals := 114 }
set_option maxHeartbeats 4000000 in
set_option maxRecDepth 100000 in
theorem s_L_rolls_66 {X : xF} {G : xG} {μ : xM} {I : xI} {P : xP} {n rq cn st : Nat} {S tx : Nat → Int32} {H : Nat → Nat → Int32} {y row : Nat} (hC : xC X G cL_rolls wsL_rolls RL 21 rm_L_rolls) (hD : xD X G yL_rolls.name (some .boolean) 0 0 (pW μ cn)) (hK : lK μ) (hp : oP P 1) (hO : oR I P 1 S n rq st H 0 tx) (hi : invN S n rq) (hcc : lC S n rq cn) (hA : lA I P S n rq) (hr : row < n) : xg X G (0, 0) μ I P [some (.ref (xZ G + 1)), some (.ref (xZ G + 255)), some (.ref (xZ G + 256)), some (.ref (xZ G + 257)), some (.ref (xZ G + 258)), some (.ref (xZ G + 259)), some (.ref (xZ G + 260)), some (.int 0), some (.int (nI y)), some (.int (nI row)), none, none, none, none, none, none, none, none, none, none, none] 66 [] := by
  have hK0 := hK
  obtain ⟨ko, hS, ⟨kg, ng⟩, ⟨kl, nl⟩, ⟨kw, nw⟩, ⟨ku, nu⟩, ⟨kc, nc⟩, ⟨kr, nr⟩⟩ := hK
  have hi0 := hi
  obtain ⟨hn20, hn, hq6, hq, hcur, hdr, h8, h9, h10, hrows⟩ := hi
  have hcn : cN S = n := by rw [cN, hn, nI_clamp (by omega)]
  have hcq : cQn S = rq := by rw [cQn, hq, nI_clamp (by omega)]
  have hir : ¬ isR (nI row) (S 0) = 0 := by rw [hn, isR_nI hr (by omega)]; decide
  have hok : okRow S (nI row) = true := by rw [okRow, if_neg hir]
  have hsc : sCut S (nI row) = cutS S row n rq := by rw [sCut, if_pos hok, nI_clamp (by omega), hcn, hcq]
  have hac : aCut S (nI row) = S 1 - cutZ S row n := by rw [aCut, if_neg hir, nI_clamp (by omega), hcn]
  have lpr : ∀ (q k : Nat), k + q = rq → ∀ (J' : xI) (Q' : xP) (K : xI), cuR (xu I 255 0 (nI (n - 1))) J' P Q' row (n - 1) → rtR (fun x => mvd x (nI row)) J' K k → xg X G (0, 0) μ K Q' [some (.ref (xZ G + 1)), some (.ref (xZ G + 255)), some (.ref (xZ G + 256)), some (.ref (xZ G + 257)), some (.ref (xZ G + 258)), some (.ref (xZ G + 259)), some (.ref (xZ G + 260)), some (.int 0), some (.int (nI y)), some (.int (nI row)), some (.int (nI k)), none, none, none, none, none, none, none, none, none, none] 160 [] := by
    intro q
    induction q with
    | zero =>
      intro k hk J' Q' K hcu hrt
      have ek : rq = k := by omega
      subst ek
      refine r_iload (pc := 160) hC dL_rolls_160 rfl ?_
      refine r_aload_n (pc := 162) hC dL_rolls_162 rfl ?_
      refine r_iconst (pc := 163) (v := 2) hC dL_rolls_163 (by decide) ?_
      refine r_iald (pc := 164) hC kg (xi_l (k := 2) ng (by decide) (by decide) (by decide)) dL_rolls_164 ?_
      have hK1 : K 255 1 = S 1 := by rw [hrt.2 255 (by decide), hcu.2.2.1 255 (by decide) (by decide) (by decide), xu_ne (Or.inr (by decide))]; exact hA.1 1 (by decide)
      have hKz : K 255 0 = nI (n - 1) := by rw [hrt.2 255 (by decide), hcu.2.2.1 255 (by decide) (by decide) (by decide), xu_at]
      have hK2 : K 255 2 = nI rq := by rw [hrt.2 255 (by decide), hcu.2.2.1 255 (by decide) (by decide) (by decide), xu_ne (Or.inr (by decide))]; exact (hA.1 2 (by decide)).trans hq
      rw [hK2]
      refine r_icmp_ge (pc := 165) (tgt := 193) hC dL_rolls_165 (by decide) (fun bq165 => ?_) (fun bq165 => ?_)
      · skip
        refine r_aload_n (pc := 193) hC dL_rolls_193 rfl ?_
        refine r_iconst (pc := 194) (v := 1) hC dL_rolls_194 (by decide) ?_
        refine r_aload_n (pc := 195) hC dL_rolls_195 rfl ?_
        refine r_iconst (pc := 196) (v := 1) hC dL_rolls_196 (by decide) ?_
        refine r_iald (pc := 197) hC kg (xi_l (k := 1) ng (by decide) (by decide) (by decide)) dL_rolls_197 ?_
        rw [hK1]
        refine r_iload (pc := 198) hC dL_rolls_198 rfl ?_
        refine r_icmp_le (pc := 200) (tgt := 211) hC dL_rolls_200 (by decide) (fun bq200 => ?_) (fun bq200 => ?_)
        · skip
          refine r_aload_n (pc := 211) hC dL_rolls_211 rfl ?_
          refine r_iconst (pc := 212) (v := 1) hC dL_rolls_212 (by decide) ?_
          refine r_iald (pc := 213) hC kg (xi_l (k := 1) ng (by decide) (by decide) (by decide)) dL_rolls_213 ?_
          rw [hK1]
          refine r_aload_n (pc := 214) hC dL_rolls_214 rfl ?_
          refine r_iconst (pc := 215) (v := 0) hC dL_rolls_215 (by decide) ?_
          refine r_iald (pc := 216) hC kg (xi_l (k := 0) ng (by decide) (by decide) (by decide)) dL_rolls_216 ?_
          rw [hKz]
          refine r_icmp_ne (pc := 217) (tgt := 228) hC dL_rolls_217 (by decide) (fun bq217 => ?_) (fun bq217 => ?_)
          · skip
            refine r_aload_n (pc := 228) hC dL_rolls_228 rfl ?_
            refine r_iconst (pc := 229) (v := 1) hC dL_rolls_229 (by decide) ?_
            refine r_iald (pc := 230) hC kg (xi_l (k := 1) ng (by decide) (by decide) (by decide)) dL_rolls_230 ?_
            rw [hK1, show S 1 = S 1 - cutZ S row n from by rw [cutZ, if_neg (fun e => absurd bq200 (Int32.not_le.mpr e)), if_neg bq217, Int32.sub_zero]]
            refine r_iast (pc := 231) hC kg (xi_l (k := 1) ng (by decide) (by decide) (by decide)) dL_rolls_231 ?_
            refine r_aload_n (pc := 232) hC dL_rolls_232 rfl ?_
            refine r_iload (pc := 233) hC dL_rolls_233 rfl ?_
            obtain ⟨g1, g2⟩ := oR_law (J := xu K 255 1 (S 1 - cutZ S row n)) (Q := Q') hp hi0 hO (fun c hc => by rw [xu_row (by omega), hrt.2 c (by omega), hcu.2.2.1 c (by omega) (by omega) (by omega), xu_row (by omega)]) (fun c hc => hcu.2.2.2 c (by omega))
            obtain ⟨z1, z2⟩ := lA_cut hA hi0 hcc hr hcu hrt
            refine k_X4_cut (pc := 235) hC gL_rolls_X4_cut ⟨Nat.le_of_ble_eq_true rfl, Nat.le_of_ble_eq_true rfl⟩ ko hS g1 g2 hi0 (Nat.le_of_ble_eq_true rfl) rfl ⟨Nat.zero_le _, Nat.zero_le _⟩ dL_rolls_235 ?_
            intro J235 Q235 rP235 rT235 rN235 rF235
            refine r_aload_n (pc := 238) hC dL_rolls_238 rfl ?_
            refine r_iconst (pc := 239) (v := 1) hC dL_rolls_239 (by decide) ?_
            refine r_iald (pc := 240) hC kg (xi_l (k := 1) ng (by decide) (by decide) (by decide)) dL_rolls_240 ?_
            rw [(rF235 255 (by decide)).1, xu_at]
            refine r_icmp_ne (pc := 241) (tgt := 248) hC dL_rolls_241 (by decide) (fun bq => (by first | exact absurd (hac) bq | exact absurd bq (hac))) (fun bq241 => ?_)
            refine r_iconst (pc := 244) (v := 1) hC dL_rolls_244 (by decide) ?_
            refine r_goto (pc := 245) (tgt := 249) hC dL_rolls_245 (by decide) ?_
            refine r_iret (pc := 249) hC hD rfl dL_rolls_249 rfl ?_
            exact ⟨rfl, rfl, cutS S row n rq, n - 1, rq, rP235, ⟨_, _, _, by rw [← hsc]; exact rT235 hok⟩, by rw [← hsc]; exact inv_cut hi0 hok, lA_cong z1 (fun c h1 h2 => (rF235 c (by omega)).1) (rF235 259 (by decide)).2, z2⟩
          · skip
            refine r_aload_n (pc := 220) hC dL_rolls_220 rfl ?_
            refine r_iconst (pc := 221) (v := 0) hC dL_rolls_221 (by decide) ?_
            refine r_iald (pc := 222) hC kg (xi_l (k := 0) ng (by decide) (by decide) (by decide)) dL_rolls_222 ?_
            rw [hKz]
            refine r_iconst (pc := 223) (v := 1) hC dL_rolls_223 (by decide) ?_
            refine r_isub (pc := 224) hC dL_rolls_224 ?_
            refine r_goto (pc := 225) (tgt := 231) hC dL_rolls_225 (by decide) ?_
            rw [show nI (n - 1) - 1 = S 1 - cutZ S row n from by rw [cutZ, if_neg (fun e => absurd bq200 (Int32.not_le.mpr e)), if_pos bq217, bq217]]
            refine r_iast (pc := 231) hC kg (xi_l (k := 1) ng (by decide) (by decide) (by decide)) dL_rolls_231 ?_
            refine r_aload_n (pc := 232) hC dL_rolls_232 rfl ?_
            refine r_iload (pc := 233) hC dL_rolls_233 rfl ?_
            obtain ⟨g1, g2⟩ := oR_law (J := xu K 255 1 (S 1 - cutZ S row n)) (Q := Q') hp hi0 hO (fun c hc => by rw [xu_row (by omega), hrt.2 c (by omega), hcu.2.2.1 c (by omega) (by omega) (by omega), xu_row (by omega)]) (fun c hc => hcu.2.2.2 c (by omega))
            obtain ⟨z1, z2⟩ := lA_cut hA hi0 hcc hr hcu hrt
            refine k_X4_cut (pc := 235) hC gL_rolls_X4_cut ⟨Nat.le_of_ble_eq_true rfl, Nat.le_of_ble_eq_true rfl⟩ ko hS g1 g2 hi0 (Nat.le_of_ble_eq_true rfl) rfl ⟨Nat.zero_le _, Nat.zero_le _⟩ dL_rolls_235 ?_
            intro J235 Q235 rP235 rT235 rN235 rF235
            refine r_aload_n (pc := 238) hC dL_rolls_238 rfl ?_
            refine r_iconst (pc := 239) (v := 1) hC dL_rolls_239 (by decide) ?_
            refine r_iald (pc := 240) hC kg (xi_l (k := 1) ng (by decide) (by decide) (by decide)) dL_rolls_240 ?_
            rw [(rF235 255 (by decide)).1, xu_at]
            refine r_icmp_ne (pc := 241) (tgt := 248) hC dL_rolls_241 (by decide) (fun bq => (by first | exact absurd (hac) bq | exact absurd bq (hac))) (fun bq241 => ?_)
            refine r_iconst (pc := 244) (v := 1) hC dL_rolls_244 (by decide) ?_
            refine r_goto (pc := 245) (tgt := 249) hC dL_rolls_245 (by decide) ?_
            refine r_iret (pc := 249) hC hD rfl dL_rolls_249 rfl ?_
            exact ⟨rfl, rfl, cutS S row n rq, n - 1, rq, rP235, ⟨_, _, _, by rw [← hsc]; exact rT235 hok⟩, by rw [← hsc]; exact inv_cut hi0 hok, lA_cong z1 (fun c h1 h2 => (rF235 c (by omega)).1) (rF235 259 (by decide)).2, z2⟩
        · skip
          refine r_aload_n (pc := 203) hC dL_rolls_203 rfl ?_
          refine r_iconst (pc := 204) (v := 1) hC dL_rolls_204 (by decide) ?_
          refine r_iald (pc := 205) hC kg (xi_l (k := 1) ng (by decide) (by decide) (by decide)) dL_rolls_205 ?_
          rw [hK1]
          refine r_iconst (pc := 206) (v := 1) hC dL_rolls_206 (by decide) ?_
          refine r_isub (pc := 207) hC dL_rolls_207 ?_
          refine r_goto (pc := 208) (tgt := 231) hC dL_rolls_208 (by decide) ?_
          rw [show S 1 - 1 = S 1 - cutZ S row n from by rw [cutZ, if_pos (Int32.not_le.mp bq200)]]
          refine r_iast (pc := 231) hC kg (xi_l (k := 1) ng (by decide) (by decide) (by decide)) dL_rolls_231 ?_
          refine r_aload_n (pc := 232) hC dL_rolls_232 rfl ?_
          refine r_iload (pc := 233) hC dL_rolls_233 rfl ?_
          obtain ⟨g1, g2⟩ := oR_law (J := xu K 255 1 (S 1 - cutZ S row n)) (Q := Q') hp hi0 hO (fun c hc => by rw [xu_row (by omega), hrt.2 c (by omega), hcu.2.2.1 c (by omega) (by omega) (by omega), xu_row (by omega)]) (fun c hc => hcu.2.2.2 c (by omega))
          obtain ⟨z1, z2⟩ := lA_cut hA hi0 hcc hr hcu hrt
          refine k_X4_cut (pc := 235) hC gL_rolls_X4_cut ⟨Nat.le_of_ble_eq_true rfl, Nat.le_of_ble_eq_true rfl⟩ ko hS g1 g2 hi0 (Nat.le_of_ble_eq_true rfl) rfl ⟨Nat.zero_le _, Nat.zero_le _⟩ dL_rolls_235 ?_
          intro J235 Q235 rP235 rT235 rN235 rF235
          refine r_aload_n (pc := 238) hC dL_rolls_238 rfl ?_
          refine r_iconst (pc := 239) (v := 1) hC dL_rolls_239 (by decide) ?_
          refine r_iald (pc := 240) hC kg (xi_l (k := 1) ng (by decide) (by decide) (by decide)) dL_rolls_240 ?_
          rw [(rF235 255 (by decide)).1, xu_at]
          refine r_icmp_ne (pc := 241) (tgt := 248) hC dL_rolls_241 (by decide) (fun bq => (by first | exact absurd (hac) bq | exact absurd bq (hac))) (fun bq241 => ?_)
          refine r_iconst (pc := 244) (v := 1) hC dL_rolls_244 (by decide) ?_
          refine r_goto (pc := 245) (tgt := 249) hC dL_rolls_245 (by decide) ?_
          refine r_iret (pc := 249) hC hD rfl dL_rolls_249 rfl ?_
          exact ⟨rfl, rfl, cutS S row n rq, n - 1, rq, rP235, ⟨_, _, _, by rw [← hsc]; exact rT235 hok⟩, by rw [← hsc]; exact inv_cut hi0 hok, lA_cong z1 (fun c h1 h2 => (rF235 c (by omega)).1) (rF235 259 (by decide)).2, z2⟩
      · skip
        exact absurd (nI_le (by omega) (by omega)) bq165
    | succ q ih =>
      intro k hk J' Q' K hcu hrt
      refine r_iload (pc := 160) hC dL_rolls_160 rfl ?_
      refine r_aload_n (pc := 162) hC dL_rolls_162 rfl ?_
      refine r_iconst (pc := 163) (v := 2) hC dL_rolls_163 (by decide) ?_
      refine r_iald (pc := 164) hC kg (xi_l (k := 2) ng (by decide) (by decide) (by decide)) dL_rolls_164 ?_
      have hK1 : K 255 1 = S 1 := by rw [hrt.2 255 (by decide), hcu.2.2.1 255 (by decide) (by decide) (by decide), xu_ne (Or.inr (by decide))]; exact hA.1 1 (by decide)
      have hKz : K 255 0 = nI (n - 1) := by rw [hrt.2 255 (by decide), hcu.2.2.1 255 (by decide) (by decide) (by decide), xu_at]
      have hK2 : K 255 2 = nI rq := by rw [hrt.2 255 (by decide), hcu.2.2.1 255 (by decide) (by decide) (by decide), xu_ne (Or.inr (by decide))]; exact (hA.1 2 (by decide)).trans hq
      rw [hK2]
      refine r_icmp_ge (pc := 165) (tgt := 193) hC dL_rolls_165 (by decide) (fun bq165 => ?_) (fun bq165 => ?_)
      · skip
        exact absurd bq165 (nI_ge (by omega) (by omega))
      · skip
        refine r_aload (pc := 168) hC dL_rolls_168 rfl ?_
        refine r_iconst (pc := 170) (v := 3) hC dL_rolls_170 (by decide) ?_
        refine r_iload (pc := 171) hC dL_rolls_171 rfl ?_
        refine r_imul (pc := 173) hC dL_rolls_173 ?_
        refine r_aload (pc := 174) hC dL_rolls_174 rfl ?_
        refine r_iconst (pc := 176) (v := 3) hC dL_rolls_176 (by decide) ?_
        refine r_iload (pc := 177) hC dL_rolls_177 rfl ?_
        refine r_imul (pc := 179) hC dL_rolls_179 ?_
        refine r_iald (pc := 180) hC kr (xi_e (k := 3 * k) (pk_mul 3 _) nr (by omega) (by decide)) dL_rolls_180 ?_
        refine r_iload (pc := 181) hC dL_rolls_181 rfl ?_
        refine k_L_moved (pc := 183) hC gL_rolls_L_moved ⟨Nat.le_of_ble_eq_true rfl, Nat.le_of_ble_eq_true rfl⟩  (Nat.le_of_ble_eq_true rfl) rfl ⟨Nat.zero_le _, Nat.zero_le _⟩ dL_rolls_183 ?_
        refine r_iast (pc := 186) hC kr (xi_e (k := 3 * k) (pk_mul 3 _) nr (by omega) (by decide)) dL_rolls_186 ?_
        refine r_iinc (pc := 187) (v := 1) (L' := [_, _, _, _, _, _, _, _, _, _, _, _, _, _, _, _, _, _, _, _, _]) hC dL_rolls_187 rfl (by decide) rfl rfl ?_
        refine r_goto (pc := 190) (tgt := 160) hC dL_rolls_190 (by decide) ?_
        rw [nI_1]; exact ih (k + 1) (by omega) J' Q' _ hcu (rtR_s hrt)
  have lpc : ∀ (q k : Nat), k + q = (n - 1 - row) → ∀ (J' : xI) (Q' : xP), cuR (xu I 255 0 (nI (n - 1))) J' P Q' row (row + k) → xg X G (0, 0) μ J' Q' [some (.ref (xZ G + 1)), some (.ref (xZ G + 255)), some (.ref (xZ G + 256)), some (.ref (xZ G + 257)), some (.ref (xZ G + 258)), some (.ref (xZ G + 259)), some (.ref (xZ G + 260)), some (.int 0), some (.int (nI y)), some (.int (nI row)), some (.int (nI (row + k))), none, none, none, none, none, none, none, none, none, none] 77 [] := by
    intro q
    induction q with
    | zero =>
      intro k hk J' Q' hcu
      refine r_iload (pc := 77) hC dL_rolls_77 rfl ?_
      refine r_aload_n (pc := 79) hC dL_rolls_79 rfl ?_
      refine r_iconst (pc := 80) (v := 0) hC dL_rolls_80 (by decide) ?_
      refine r_iald (pc := 81) hC kg (xi_l (k := 0) ng (by decide) (by decide) (by decide)) dL_rolls_81 ?_
      rw [hcu.2.2.1 255 (by decide) (by decide) (by decide), xu_at]
      refine r_icmp_ge (pc := 82) (tgt := 157) hC dL_rolls_82 (by decide) (fun bq82 => ?_) (fun bq82 => ?_)
      · skip
        refine r_iconst (pc := 157) (v := 0) hC dL_rolls_157 (by decide) ?_
        refine r_istore (pc := 158) (L' := [_, _, _, _, _, _, _, _, _, _, _, _, _, _, _, _, _, _, _, _, _]) hC dL_rolls_158 rfl (Nat.le_of_ble_eq_true rfl) rfl ?_
        exact lpr rq 0 (by omega) J' Q' J' (by rw [show row + k = n - 1 by omega] at hcu; exact hcu) rtR_0
      · skip
        exact absurd (nI_le (by omega) (by omega)) bq82
    | succ q ih =>
      intro k hk J' Q' hcu
      refine r_iload (pc := 77) hC dL_rolls_77 rfl ?_
      refine r_aload_n (pc := 79) hC dL_rolls_79 rfl ?_
      refine r_iconst (pc := 80) (v := 0) hC dL_rolls_80 (by decide) ?_
      refine r_iald (pc := 81) hC kg (xi_l (k := 0) ng (by decide) (by decide) (by decide)) dL_rolls_81 ?_
      rw [hcu.2.2.1 255 (by decide) (by decide) (by decide), xu_at]
      refine r_icmp_ge (pc := 82) (tgt := 157) hC dL_rolls_82 (by decide) (fun bq82 => ?_) (fun bq82 => ?_)
      · skip
        exact absurd bq82 (nI_ge (by omega) (by omega))
      · skip
        refine r_aload_n (pc := 85) hC dL_rolls_85 rfl ?_
        refine r_iload (pc := 86) hC dL_rolls_86 rfl ?_
        refine r_aload_n (pc := 88) hC dL_rolls_88 rfl ?_
        refine r_iload (pc := 89) hC dL_rolls_89 rfl ?_
        refine r_iconst (pc := 91) (v := 1) hC dL_rolls_91 (by decide) ?_
        refine r_iadd (pc := 92) hC dL_rolls_92 ?_
        refine r_iald (pc := 93) hC kl (xi_e (k := row + k + 1) (nI_1 _) nl (by omega) (by decide)) dL_rolls_93 ?_
        refine r_iast (pc := 94) hC kl (xi_n (k := (row + k)) (by rw [nl]; omega) (by rw [nl]; decide)) dL_rolls_94 ?_
        refine r_aload_n (pc := 95) hC dL_rolls_95 rfl ?_
        refine r_iload (pc := 96) hC dL_rolls_96 rfl ?_
        refine r_aload_n (pc := 98) hC dL_rolls_98 rfl ?_
        refine r_iload (pc := 99) hC dL_rolls_99 rfl ?_
        refine r_iconst (pc := 101) (v := 1) hC dL_rolls_101 (by decide) ?_
        refine r_iadd (pc := 102) hC dL_rolls_102 ?_
        refine r_iald (pc := 103) hC kw (xi_e (k := row + k + 1) (nI_1 _) nw (by omega) (by decide)) dL_rolls_103 ?_
        rw [xu_row (b := 257) (by decide)]
        refine r_iast (pc := 104) hC kw (xi_n (k := (row + k)) (by rw [nw]; omega) (by rw [nw]; decide)) dL_rolls_104 ?_
        refine r_aload (pc := 105) hC dL_rolls_105 rfl ?_
        refine r_iload (pc := 107) hC dL_rolls_107 rfl ?_
        refine r_aload (pc := 109) hC dL_rolls_109 rfl ?_
        refine r_iload (pc := 111) hC dL_rolls_111 rfl ?_
        refine r_iconst (pc := 113) (v := 1) hC dL_rolls_113 (by decide) ?_
        refine r_iadd (pc := 114) hC dL_rolls_114 ?_
        refine r_iald (pc := 115) hC ku (xi_e (k := row + k + 1) (nI_1 _) nu (by omega) (by decide)) dL_rolls_115 ?_
        rw [xu_row (b := 258) (by decide), xu_row (b := 258) (by decide)]
        refine r_iast (pc := 116) hC ku (xi_n (k := (row + k)) (by rw [nu]; omega) (by rw [nu]; decide)) dL_rolls_116 ?_
        refine r_aload (pc := 117) hC dL_rolls_117 rfl ?_
        refine r_iconst (pc := 119) (v := 2) hC dL_rolls_119 (by decide) ?_
        refine r_iload (pc := 120) hC dL_rolls_120 rfl ?_
        refine r_imul (pc := 122) hC dL_rolls_122 ?_
        refine r_aload (pc := 123) hC dL_rolls_123 rfl ?_
        refine r_iconst (pc := 125) (v := 2) hC dL_rolls_125 (by decide) ?_
        refine r_iload (pc := 126) hC dL_rolls_126 rfl ?_
        refine r_imul (pc := 128) hC dL_rolls_128 ?_
        refine r_iconst (pc := 129) (v := 2) hC dL_rolls_129 (by decide) ?_
        refine r_iadd (pc := 130) hC dL_rolls_130 ?_
        refine r_lald (pc := 131) hC kc (xi_e (k := 2 * (row + k) + 2) (by rw [show (2 : Int32) = nI 2 from rfl, pk_mul]; exact nI_add _ 2) nc (by omega) (by decide)) dL_rolls_131 ?_
        refine r_last (pc := 132) hC kc (xi_e (k := 2 * (row + k)) (by rw [show (2 : Int32) = nI 2 from rfl, pk_mul]) nc (by omega) (by decide)) dL_rolls_132 ?_
        refine r_aload (pc := 133) hC dL_rolls_133 rfl ?_
        refine r_iconst (pc := 135) (v := 2) hC dL_rolls_135 (by decide) ?_
        refine r_iload (pc := 136) hC dL_rolls_136 rfl ?_
        refine r_imul (pc := 138) hC dL_rolls_138 ?_
        refine r_iconst (pc := 139) (v := 1) hC dL_rolls_139 (by decide) ?_
        refine r_iadd (pc := 140) hC dL_rolls_140 ?_
        refine r_aload (pc := 141) hC dL_rolls_141 rfl ?_
        refine r_iconst (pc := 143) (v := 2) hC dL_rolls_143 (by decide) ?_
        refine r_iload (pc := 144) hC dL_rolls_144 rfl ?_
        refine r_imul (pc := 146) hC dL_rolls_146 ?_
        refine r_iconst (pc := 147) (v := 3) hC dL_rolls_147 (by decide) ?_
        refine r_iadd (pc := 148) hC dL_rolls_148 ?_
        refine r_lald (pc := 149) hC kc (xi_e (k := 2 * (row + k) + 3) (by rw [show (2 : Int32) = nI 2 from rfl, pk_mul]; exact nI_add _ 3) nc (by omega) (by decide)) dL_rolls_149 ?_
        rw [xu_ne (Or.inr (by omega))]
        refine r_last (pc := 150) hC kc (xi_e (k := 2 * (row + k) + 1) (by rw [show (2 : Int32) = nI 2 from rfl, pk_mul]; exact nI_add _ 1) nc (by omega) (by decide)) dL_rolls_150 ?_
        refine r_iinc (pc := 151) (v := 1) (L' := [_, _, _, _, _, _, _, _, _, _, _, _, _, _, _, _, _, _, _, _, _]) hC dL_rolls_151 rfl (by decide) rfl rfl ?_
        refine r_goto (pc := 154) (tgt := 77) hC dL_rolls_154 (by decide) ?_
        rw [nI_1]; exact ih (k + 1) (by omega) _ _ (cuR_s hcu (by omega))
  refine r_aload_n (pc := 66) hC dL_rolls_66 rfl ?_
  refine r_iconst (pc := 67) (v := 0) hC dL_rolls_67 (by decide) ?_
  refine r_dup2 (pc := 68) hC dL_rolls_68 rfl rfl ?_
  refine r_iald (pc := 69) hC kg (xi_l (k := 0) ng (by decide) (by decide) (by decide)) dL_rolls_69 ?_
  rw [hA.1 0 (by decide), hn]
  refine r_iconst (pc := 70) (v := 1) hC dL_rolls_70 (by decide) ?_
  refine r_isub (pc := 71) hC dL_rolls_71 ?_
  rw [show nI n - 1 = nI (n - 1) from pk_sub (b := 1) (by omega)]
  refine r_iast (pc := 72) hC kg (xi_l (k := 0) ng (by decide) (by decide) (by decide)) dL_rolls_72 ?_
  refine r_iload (pc := 73) hC dL_rolls_73 rfl ?_
  refine r_istore (pc := 75) (L' := [_, _, _, _, _, _, _, _, _, _, _, _, _, _, _, _, _, _, _, _, _]) hC dL_rolls_75 rfl (Nat.le_of_ble_eq_true rfl) rfl ?_
  exact lpc (n - 1 - row) 0 (by omega) _ P cuR_0
