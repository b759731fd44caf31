/-- the law's world at its start -/
theorem lV_00 {I : xI} {P : xP} (hp : oP P 1) (hO : oR (xu (xu (xu (xu (xu I 255 1 (-1)) 255 3 (-1)) 255 8 24) 255 9 30) 255 10 10) P 1 S00 0 0 0 (fun _ _ => 0) 0 (fun _ => 0)) (hz : I 255 = fun _ => 0) : lV (xu (xu (xu (xu (xu I 255 1 (-1)) 255 3 (-1)) 255 8 24) 255 9 30) 255 10 10) P S00 0 0 0 := by
  refine ⟨hp, ⟨_, _, _, hO⟩, inv_00, ⟨fun k hk => ?_, fun i hi => absurd hi (by omega), fun j hj => absurd hj (by omega)⟩, ⟨0, 0, fun _ => 0, fun _ => 0, fun _ => 0, rfl, rfl, Nat.le_refl 0, Nat.le_refl 0, Nat.le_refl 0, fun j hj => absurd hj (by omega)⟩⟩
  by_cases h10 : k = 10
  · subst h10; rw [xu_at]; rfl
  · rw [xu_ne (Or.inr h10)]
    by_cases h9 : k = 9
    · subst h9; rw [xu_at]; rfl
    · rw [xu_ne (Or.inr h9)]
      by_cases h8 : k = 8
      · subst h8; rw [xu_at]; rfl
      · rw [xu_ne (Or.inr h8)]
        by_cases h3 : k = 3
        · subst h3; rw [xu_at]; rfl
        · rw [xu_ne (Or.inr h3)]
          by_cases h1 : k = 1
          · subst h1; rw [xu_at]; rfl
          · rw [xu_ne (Or.inr h1), hz]
            unfold S00
            rw [if_neg h1, if_neg h3, if_neg h8, if_neg h9, if_neg h10]
theorem wl_L_law_71 : Cond.constant RL 71 (-1000001) ∈ wsL_law := List.mem_of_getElem? (i := 6) (by decide +kernel)
theorem wl_L_law_8 : Cond.constant RL 8 (2147483647) ∈ wsL_law := List.mem_of_getElem? (i := 5) (by decide +kernel)
set_option maxHeartbeats 4000000 in
set_option maxRecDepth 100000 in
theorem s_L_law_42 {X : xF} {G : xG} {μ : xM} {I : xI} {P : xP}  (hC : xC X G cL_law wsL_law RL 11 room_1) (hK : lK μ) (hp : oP P 1) (hO : oR I P 1 S00 0 0 0 (fun _ _ => 0) 0 (fun _ => 0)) (hz : I 255 = fun _ => 0) (hE : ∀ (μ : xM) (I : xI) (P : xP) (Lc : List (Option Value)), xg X G (260, 2294) μ I P Lc 317 [.int 1]) : xg X G (260, 2294) μ I P [some (.ref (xX G 9)), some (.ref (xZ G + 1)), some (.ref (xZ G + 255)), some (.ref (xZ G + 256)), some (.ref (xZ G + 257)), some (.ref (xZ G + 258)), some (.ref (xZ G + 259)), some (.ref (xZ G + 260)), none, none, none] 42 [] := by
  have hK0 := hK
  obtain ⟨ko, hS, ⟨kg, ng⟩, ⟨kl, nl⟩, ⟨kw, nw⟩, ⟨ku, nu⟩, ⟨kc, nc⟩, ⟨kr, nr⟩⟩ := hK
  have lt : ∀ (T : Nat), T < 70 → ∀ (q k : Nat), k + q = T → ∀ (J' : xI) (Q' : xP) (S : Nat → Int32) (n rq : Nat), lV J' Q' S n rq (6 + k) → xg X G (260, 2294) μ J' Q' [some (.ref (xX G 9)), some (.ref (xZ G + 1)), some (.ref (xZ G + 255)), some (.ref (xZ G + 256)), some (.ref (xZ G + 257)), some (.ref (xZ G + 258)), some (.ref (xZ G + 259)), some (.ref (xZ G + 260)), some (.int 1), some (.int (nI T)), some (.int (nI k))] 199 [] := by
    intro T hT
    intro q
    induction q with
    | zero =>
      intro k hk J' Q' S n rq hV
      refine r_iload (pc := 199) hC dL_law_199 rfl ?_
      refine r_iload (pc := 201) hC dL_law_201 rfl ?_
      refine r_icmp_ge (pc := 203) (tgt := 274) hC dL_law_203 (by decide) (fun bq203 => ?_) (fun bq203 => ?_)
      · skip
        refine r_iload (pc := 274) hC dL_law_274 rfl ?_
        refine r_if_eq (pc := 276) (tgt := 316) hC dL_law_276 (by decide) (fun bq => (by first | exact absurd ((by decide : ¬ (1 : Int32) = 0)) bq | exact absurd bq ((by decide : ¬ (1 : Int32) = 0)))) (fun bq276 => ?_)
        obtain ⟨hp2, ⟨st2, H2, tx2, hO2⟩, hi2, -, -⟩ := hV
        refine r_aload_n (pc := 279) hC dL_law_279 rfl ?_
        refine r_bipush (pc := 280) (v := 13) hC dL_law_280 (by decide) ?_
        refine k_X4_count (pc := 282) hC gL_law_X4_count ⟨Nat.le_of_ble_eq_true rfl, Nat.le_of_ble_eq_true rfl⟩ ko hS hp2 hO2 hi2 (Nat.le_of_ble_eq_true rfl) rfl ⟨Nat.le_of_ble_eq_true rfl, Nat.le_of_ble_eq_true rfl⟩ dL_law_282 ?_
        rw [show aCount S (nI st2) (nI 0) 13 = -1000001 from ct_ok.2.2.2.2.2.2.2.2.2.2.2.2.2.2.2.1]
        refine r_ldc (pc := 285) (v := -1000001) hC dL_law_285 wl_L_law_71 ?_
        refine r_icmp_ne (pc := 287) (tgt := 316) hC dL_law_287 (by decide) (fun bq => (by first | exact absurd (rfl) bq | exact absurd bq (rfl))) (fun bq287 => ?_)
        refine r_aload_n (pc := 290) hC dL_law_290 rfl ?_
        refine r_bipush (pc := 291) (v := 19) hC dL_law_291 (by decide) ?_
        refine k_X4_count (pc := 293) hC gL_law_X4_count ⟨Nat.le_of_ble_eq_true rfl, Nat.le_of_ble_eq_true rfl⟩ ko hS hp2 hO2 hi2 (Nat.le_of_ble_eq_true rfl) rfl ⟨Nat.le_of_ble_eq_true rfl, Nat.le_of_ble_eq_true rfl⟩ dL_law_293 ?_
        rw [show aCount S (nI st2) (nI 0) 19 = -1000001 from ct_ok.2.2.2.2.2.2.2.2.2.2.2.2.2.2.2.2.1]
        refine r_ldc (pc := 296) (v := -1000001) hC dL_law_296 wl_L_law_71 ?_
        refine r_icmp_ne (pc := 298) (tgt := 316) hC dL_law_298 (by decide) (fun bq => (by first | exact absurd (rfl) bq | exact absurd bq (rfl))) (fun bq298 => ?_)
        refine r_aload_n (pc := 301) hC dL_law_301 rfl ?_
        refine r_bipush (pc := 302) (v := 23) hC dL_law_302 (by decide) ?_
        refine k_X4_count (pc := 304) hC gL_law_X4_count ⟨Nat.le_of_ble_eq_true rfl, Nat.le_of_ble_eq_true rfl⟩ ko hS hp2 hO2 hi2 (Nat.le_of_ble_eq_true rfl) rfl ⟨Nat.le_of_ble_eq_true rfl, Nat.le_of_ble_eq_true rfl⟩ dL_law_304 ?_
        rw [show aCount S (nI st2) (nI 0) 23 = -1000001 from ct_ok.2.2.2.2.2.2.2.2.2.2.2.2.2.2.2.2.2]
        refine r_ldc (pc := 307) (v := -1000001) hC dL_law_307 wl_L_law_71 ?_
        refine r_icmp_ne (pc := 309) (tgt := 316) hC dL_law_309 (by decide) (fun bq => (by first | exact absurd (rfl) bq | exact absurd bq (rfl))) (fun bq309 => ?_)
        refine r_iconst (pc := 312) (v := 1) hC dL_law_312 (by decide) ?_
        refine r_goto (pc := 313) (tgt := 317) hC dL_law_313 (by decide) ?_
        exact hE _ _ _ _
      · skip
        exact absurd (nI_le (by omega) (by omega)) bq203
    | succ q ih =>
      intro k hk J' Q' S n rq hV
      refine r_iload (pc := 199) hC dL_law_199 rfl ?_
      refine r_iload (pc := 201) hC dL_law_201 rfl ?_
      refine r_icmp_ge (pc := 203) (tgt := 274) hC dL_law_203 (by decide) (fun bq203 => ?_) (fun bq203 => ?_)
      · skip
        exact absurd bq203 (nI_ge (by omega) (by omega))
      · skip
        refine r_iload (pc := 206) hC dL_law_206 rfl ?_
        refine r_if_eq (pc := 208) (tgt := 274) hC dL_law_208 (by decide) (fun bq => (by first | exact absurd ((by decide : ¬ (1 : Int32) = 0)) bq | exact absurd bq ((by decide : ¬ (1 : Int32) = 0)))) (fun bq208 => ?_)
        refine r_aload_n (pc := 211) hC dL_law_211 rfl ?_
        refine r_aload_n (pc := 212) hC dL_law_212 rfl ?_
        refine r_aload_n (pc := 213) hC dL_law_213 rfl ?_
        refine r_aload (pc := 214) hC dL_law_214 rfl ?_
        refine r_aload (pc := 216) hC dL_law_216 rfl ?_
        refine r_aload (pc := 218) hC dL_law_218 rfl ?_
        refine r_aload (pc := 220) hC dL_law_220 rfl ?_
        refine r_aload_n (pc := 222) hC dL_law_222 rfl ?_
        refine r_bipush (pc := 223) (v := 7) hC dL_law_223 (by decide) ?_
        refine r_iload (pc := 225) hC dL_law_225 rfl ?_
        refine r_iadd (pc := 227) hC dL_law_227 ?_
        rw [show (7 : Int32) + nI k = nI (7 + k) from nI_add 7 k]
        refine k_L_cell (pc := 228) hC gL_law_L_cell ⟨Nat.le_of_ble_eq_true rfl, Nat.le_of_ble_eq_true rfl⟩ (by omega) (Nat.le_of_ble_eq_true rfl) rfl ⟨Nat.le_of_ble_eq_true rfl, Nat.le_of_ble_eq_true rfl⟩ dL_law_228 ?_
        intro v228
        refine r_sipush (pc := 231) (v := 7919) hC dL_law_231 (by decide) ?_
        refine r_iload (pc := 234) hC dL_law_234 rfl ?_
        refine r_imul (pc := 236) hC dL_law_236 ?_
        refine r_ixor (pc := 237) hC dL_law_237 ?_
        refine k_L_acts (pc := 238) hC gL_law_L_acts ⟨Nat.le_of_ble_eq_true rfl, Nat.le_of_ble_eq_true rfl⟩ hK0 hV (Nat.le_of_ble_eq_true rfl) rfl ⟨Nat.le_of_ble_eq_true rfl, Nat.le_of_ble_eq_true rfl⟩ dL_law_238 ?_
        intro J238 Q238 S238 n238 q238 hV238
        refine r_if_eq (pc := 241) (tgt := 265) hC dL_law_241 (by decide) (fun bq => (by first | exact absurd ((by decide : ¬ (1 : Int32) = 0)) bq | exact absurd bq ((by decide : ¬ (1 : Int32) = 0)))) (fun bq241 => ?_)
        refine r_aload_n (pc := 244) hC dL_law_244 rfl ?_
        refine r_aload_n (pc := 245) hC dL_law_245 rfl ?_
        refine r_aload_n (pc := 246) hC dL_law_246 rfl ?_
        refine r_aload (pc := 247) hC dL_law_247 rfl ?_
        refine r_aload (pc := 249) hC dL_law_249 rfl ?_
        refine r_aload (pc := 251) hC dL_law_251 rfl ?_
        refine r_aload (pc := 253) hC dL_law_253 rfl ?_
        refine k_L_isSo (pc := 255) hC gL_law_L_isSo ⟨Nat.le_of_ble_eq_true rfl, Nat.le_of_ble_eq_true rfl⟩ hK0 hV238 (by omega) (Nat.le_of_ble_eq_true rfl) rfl ⟨Nat.le_of_ble_eq_true rfl, Nat.le_of_ble_eq_true rfl⟩ dL_law_255 ?_
        refine r_if_eq (pc := 258) (tgt := 265) hC dL_law_258 (by decide) (fun bq => (by first | exact absurd ((by decide : ¬ (1 : Int32) = 0)) bq | exact absurd bq ((by decide : ¬ (1 : Int32) = 0)))) (fun bq258 => ?_)
        refine r_iconst (pc := 261) (v := 1) hC dL_law_261 (by decide) ?_
        refine r_goto (pc := 262) (tgt := 266) hC dL_law_262 (by decide) ?_
        refine r_istore (pc := 266) (L' := [_, _, _, _, _, _, _, _, _, _, _]) hC dL_law_266 rfl (Nat.le_of_ble_eq_true rfl) rfl ?_
        refine r_iinc (pc := 268) (v := 1) (L' := [_, _, _, _, _, _, _, _, _, _, _]) hC dL_law_268 rfl (by decide) rfl rfl ?_
        refine r_goto (pc := 271) (tgt := 199) hC dL_law_271 (by decide) ?_
        rw [nI_1]; exact ih (k + 1) (by omega) _ _ _ _ _ hV238
  have ls : ∀ (q k : Nat), k + q = 6 → ∀ (J' : xI) (Q' : xP) (S : Nat → Int32) (n rq : Nat), lV J' Q' S n rq k → xg X G (260, 2294) μ J' Q' [some (.ref (xX G 9)), some (.ref (xZ G + 1)), some (.ref (xZ G + 255)), some (.ref (xZ G + 256)), some (.ref (xZ G + 257)), some (.ref (xZ G + 258)), some (.ref (xZ G + 259)), some (.ref (xZ G + 260)), some (.int 1), some (.int (nI k)), none] 86 [] := by
    intro q
    induction q with
    | zero =>
      intro k hk J' Q' S n rq hV
      have ek : k = 6 := by omega
      subst ek
      refine r_iload (pc := 86) hC dL_law_86 rfl ?_
      refine r_bipush (pc := 88) (v := 6) hC dL_law_88 (by decide) ?_
      refine r_icmp_ge (pc := 90) (tgt := 152) hC dL_law_90 (by decide) (fun bq90 => ?_) (fun bq90 => ?_)
      · skip
        refine r_iload (pc := 152) hC dL_law_152 rfl ?_
        refine r_if_eq (pc := 154) (tgt := 178) hC dL_law_154 (by decide) (fun bq => (by first | exact absurd ((by decide : ¬ (1 : Int32) = 0)) bq | exact absurd bq ((by decide : ¬ (1 : Int32) = 0)))) (fun bq154 => ?_)
        refine r_aload_n (pc := 157) hC dL_law_157 rfl ?_
        refine r_aload_n (pc := 158) hC dL_law_158 rfl ?_
        refine r_aload_n (pc := 159) hC dL_law_159 rfl ?_
        refine r_aload (pc := 160) hC dL_law_160 rfl ?_
        refine r_aload (pc := 162) hC dL_law_162 rfl ?_
        refine r_aload (pc := 164) hC dL_law_164 rfl ?_
        refine r_aload (pc := 166) hC dL_law_166 rfl ?_
        refine k_L_isSo (pc := 168) hC gL_law_L_isSo ⟨Nat.le_of_ble_eq_true rfl, Nat.le_of_ble_eq_true rfl⟩ hK0 hV (by decide) (Nat.le_of_ble_eq_true rfl) rfl ⟨Nat.le_of_ble_eq_true rfl, Nat.le_of_ble_eq_true rfl⟩ dL_law_168 ?_
        refine r_if_eq (pc := 171) (tgt := 178) hC dL_law_171 (by decide) (fun bq => (by first | exact absurd ((by decide : ¬ (1 : Int32) = 0)) bq | exact absurd bq ((by decide : ¬ (1 : Int32) = 0)))) (fun bq171 => ?_)
        refine r_iconst (pc := 174) (v := 1) hC dL_law_174 (by decide) ?_
        refine r_goto (pc := 175) (tgt := 179) hC dL_law_175 (by decide) ?_
        refine r_istore (pc := 179) (L' := [_, _, _, _, _, _, _, _, _, _, _]) hC dL_law_179 rfl (Nat.le_of_ble_eq_true rfl) rfl ?_
        refine r_bipush (pc := 181) (v := 14) hC dL_law_181 (by decide) ?_
        refine r_aload_n (pc := 183) hC dL_law_183 rfl ?_
        refine r_iconst (pc := 184) (v := 0) hC dL_law_184 (by decide) ?_
        refine k_L_cell (pc := 185) hC gL_law_L_cell ⟨Nat.le_of_ble_eq_true rfl, Nat.le_of_ble_eq_true rfl⟩ (k := 0) (by decide) (Nat.le_of_ble_eq_true rfl) rfl ⟨Nat.le_of_ble_eq_true rfl, Nat.le_of_ble_eq_true rfl⟩ dL_law_185 ?_
        intro v185
        refine r_bipush (pc := 188) (v := 56) hC dL_law_188 (by decide) ?_
        refine k_L_low (pc := 190) hC gL_law_L_low ⟨Nat.le_of_ble_eq_true rfl, Nat.le_of_ble_eq_true rfl⟩ (by decide) (Nat.le_of_ble_eq_true rfl) rfl ⟨Nat.le_of_ble_eq_true rfl, Nat.le_of_ble_eq_true rfl⟩ dL_law_190 ?_
        obtain ⟨tn, htn, et⟩ := lowI_n (v := v185) (m := 56) (by decide) (by decide)
        rw [show lowI v185 56 = nI tn from et]
        refine r_iadd (pc := 193) hC dL_law_193 ?_
        rw [show (14 : Int32) + nI tn = nI (14 + tn) from nI_add 14 tn]
        refine r_istore (pc := 194) (L' := [_, _, _, _, _, _, _, _, _, _, _]) hC dL_law_194 rfl (Nat.le_of_ble_eq_true rfl) rfl ?_
        refine r_iconst (pc := 196) (v := 0) hC dL_law_196 (by decide) ?_
        refine r_istore (pc := 197) (L' := [_, _, _, _, _, _, _, _, _, _, _]) hC dL_law_197 rfl (Nat.le_of_ble_eq_true rfl) rfl ?_
        exact lt (14 + tn) (by omega) (14 + tn) 0 (by omega) _ _ _ _ _ hV
      · skip
        exact absurd (by decide) bq90
    | succ q ih =>
      intro k hk J' Q' S n rq hV
      refine r_iload (pc := 86) hC dL_law_86 rfl ?_
      refine r_bipush (pc := 88) (v := 6) hC dL_law_88 (by decide) ?_
      refine r_icmp_ge (pc := 90) (tgt := 152) hC dL_law_90 (by decide) (fun bq90 => ?_) (fun bq90 => ?_)
      · skip
        exact absurd bq90 (nI_ge (b := 6) (by omega) (by decide))
      · skip
        refine r_iload (pc := 93) hC dL_law_93 rfl ?_
        refine r_if_eq (pc := 95) (tgt := 152) hC dL_law_95 (by decide) (fun bq => (by first | exact absurd ((by decide : ¬ (1 : Int32) = 0)) bq | exact absurd bq ((by decide : ¬ (1 : Int32) = 0)))) (fun bq95 => ?_)
        refine r_aload_n (pc := 98) hC dL_law_98 rfl ?_
        refine r_aload_n (pc := 99) hC dL_law_99 rfl ?_
        refine r_aload_n (pc := 100) hC dL_law_100 rfl ?_
        refine r_aload (pc := 101) hC dL_law_101 rfl ?_
        refine r_aload (pc := 103) hC dL_law_103 rfl ?_
        refine r_aload (pc := 105) hC dL_law_105 rfl ?_
        refine r_aload (pc := 107) hC dL_law_107 rfl ?_
        refine r_aload_n (pc := 109) hC dL_law_109 rfl ?_
        refine r_iconst (pc := 110) (v := 1) hC dL_law_110 (by decide) ?_
        refine r_iload (pc := 111) hC dL_law_111 rfl ?_
        refine r_iadd (pc := 113) hC dL_law_113 ?_
        rw [show (1 : Int32) + nI k = nI (1 + k) from nI_add 1 k]
        refine k_L_cell (pc := 114) hC gL_law_L_cell ⟨Nat.le_of_ble_eq_true rfl, Nat.le_of_ble_eq_true rfl⟩ (by omega) (Nat.le_of_ble_eq_true rfl) rfl ⟨Nat.le_of_ble_eq_true rfl, Nat.le_of_ble_eq_true rfl⟩ dL_law_114 ?_
        intro v114
        refine r_ldc (pc := 117) (v := 2147483647) hC dL_law_117 wl_L_law_8 ?_
        refine r_iand (pc := 119) hC dL_law_119 ?_
        refine r_sipush (pc := 120) (v := 192) hC dL_law_120 (by decide) ?_
        refine r_idiv (pc := 123) hC dL_law_123 (by decide) ?_
        refine r_sipush (pc := 124) (v := 192) hC dL_law_124 (by decide) ?_
        refine r_imul (pc := 127) hC dL_law_127 ?_
        refine r_iload (pc := 128) hC dL_law_128 rfl ?_
        refine r_iconst (pc := 130) (v := 5) hC dL_law_130 (by decide) ?_
        refine r_icmp_ge (pc := 131) (tgt := 138) hC dL_law_131 (by decide) (fun bq131 => ?_) (fun bq131 => ?_)
        · skip
          refine r_bipush (pc := 138) (v := 21) hC dL_law_138 (by decide) ?_
          refine r_iadd (pc := 140) hC dL_law_140 ?_
          refine k_L_acts (pc := 141) hC gL_law_L_acts ⟨Nat.le_of_ble_eq_true rfl, Nat.le_of_ble_eq_true rfl⟩ hK0 hV (Nat.le_of_ble_eq_true rfl) rfl ⟨Nat.le_of_ble_eq_true rfl, Nat.le_of_ble_eq_true rfl⟩ dL_law_141 ?_
          intro J141 Q141 S141 n141 q141 hV141
          refine r_istore (pc := 144) (L' := [_, _, _, _, _, _, _, _, _, _, _]) hC dL_law_144 rfl (Nat.le_of_ble_eq_true rfl) rfl ?_
          refine r_iinc (pc := 146) (v := 1) (L' := [_, _, _, _, _, _, _, _, _, _, _]) hC dL_law_146 rfl (by decide) rfl rfl ?_
          refine r_goto (pc := 149) (tgt := 86) hC dL_law_149 (by decide) ?_
          rw [nI_1]; exact ih (k + 1) (by omega) _ _ _ _ _ hV141
        · skip
          refine r_iconst (pc := 134) (v := 0) hC dL_law_134 (by decide) ?_
          refine r_goto (pc := 135) (tgt := 140) hC dL_law_135 (by decide) ?_
          refine r_iadd (pc := 140) hC dL_law_140 ?_
          refine k_L_acts (pc := 141) hC gL_law_L_acts ⟨Nat.le_of_ble_eq_true rfl, Nat.le_of_ble_eq_true rfl⟩ hK0 hV (Nat.le_of_ble_eq_true rfl) rfl ⟨Nat.le_of_ble_eq_true rfl, Nat.le_of_ble_eq_true rfl⟩ dL_law_141 ?_
          intro J141 Q141 S141 n141 q141 hV141
          refine r_istore (pc := 144) (L' := [_, _, _, _, _, _, _, _, _, _, _]) hC dL_law_144 rfl (Nat.le_of_ble_eq_true rfl) rfl ?_
          refine r_iinc (pc := 146) (v := 1) (L' := [_, _, _, _, _, _, _, _, _, _, _]) hC dL_law_146 rfl (by decide) rfl rfl ?_
          refine r_goto (pc := 149) (tgt := 86) hC dL_law_149 (by decide) ?_
          rw [nI_1]; exact ih (k + 1) (by omega) _ _ _ _ _ hV141
  refine r_aload_n (pc := 42) hC dL_law_42 rfl ?_
  refine r_iconst (pc := 43) (v := 1) hC dL_law_43 (by decide) ?_
  refine r_iconst (pc := 44) (v := -1) hC dL_law_44 (by decide) ?_
  refine r_iast (pc := 45) hC kg (xi_l (k := 1) ng (by decide) (by decide) (by decide)) dL_law_45 ?_
  refine r_aload_n (pc := 46) hC dL_law_46 rfl ?_
  refine r_iconst (pc := 47) (v := 3) hC dL_law_47 (by decide) ?_
  refine r_iconst (pc := 48) (v := -1) hC dL_law_48 (by decide) ?_
  refine r_iast (pc := 49) hC kg (xi_l (k := 3) ng (by decide) (by decide) (by decide)) dL_law_49 ?_
  refine r_aload_n (pc := 50) hC dL_law_50 rfl ?_
  refine r_bipush (pc := 51) (v := 8) hC dL_law_51 (by decide) ?_
  refine r_bipush (pc := 53) (v := 24) hC dL_law_53 (by decide) ?_
  refine r_iast (pc := 55) hC kg (xi_l (k := 8) ng (by decide) (by decide) (by decide)) dL_law_55 ?_
  refine r_aload_n (pc := 56) hC dL_law_56 rfl ?_
  refine r_bipush (pc := 57) (v := 9) hC dL_law_57 (by decide) ?_
  refine r_bipush (pc := 59) (v := 30) hC dL_law_59 (by decide) ?_
  refine r_iast (pc := 61) hC kg (xi_l (k := 9) ng (by decide) (by decide) (by decide)) dL_law_61 ?_
  refine r_aload_n (pc := 62) hC dL_law_62 rfl ?_
  refine r_bipush (pc := 63) (v := 10) hC dL_law_63 (by decide) ?_
  refine r_bipush (pc := 65) (v := 10) hC dL_law_65 (by decide) ?_
  refine r_iast (pc := 67) hC kg (xi_l (k := 10) ng (by decide) (by decide) (by decide)) dL_law_67 ?_
  obtain ⟨g1, g2⟩ := oR_law (J := (xu (xu (xu (xu (xu I 255 1 (-1)) 255 3 (-1)) 255 8 24) 255 9 30) 255 10 10)) (Q := P) hp inv_00 hO (fun c hc => by rw [xu_row (by omega), xu_row (by omega), xu_row (by omega), xu_row (by omega), xu_row (by omega)]) (fun c hc => rfl)
  refine r_aload_n (pc := 68) hC dL_law_68 rfl ?_
  refine r_iconst (pc := 69) (v := 0) hC dL_law_69 (by decide) ?_
  refine k_X4_count (pc := 70) hC gL_law_X4_count ⟨Nat.le_of_ble_eq_true rfl, Nat.le_of_ble_eq_true rfl⟩ ko hS g1 g2 inv_00 (Nat.le_of_ble_eq_true rfl) rfl ⟨Nat.le_of_ble_eq_true rfl, Nat.le_of_ble_eq_true rfl⟩ dL_law_70 ?_
  refine r_if_ne (pc := 73) (tgt := 80) hC dL_law_73 (by decide) (fun bq => (by first | exact absurd ((show aCount S00 (nI 0) (nI 0) 0 = 0 from ct_ok.1.trans rfl)) bq | exact absurd bq ((show aCount S00 (nI 0) (nI 0) 0 = 0 from ct_ok.1.trans rfl)))) (fun bq73 => ?_)
  refine r_iconst (pc := 76) (v := 1) hC dL_law_76 (by decide) ?_
  refine r_goto (pc := 77) (tgt := 81) hC dL_law_77 (by decide) ?_
  refine r_istore (pc := 81) (L' := [_, _, _, _, _, _, _, _, _, _, _]) hC dL_law_81 rfl (Nat.le_of_ble_eq_true rfl) rfl ?_
  refine r_iconst (pc := 83) (v := 0) hC dL_law_83 (by decide) ?_
  refine r_istore (pc := 84) (L' := [_, _, _, _, _, _, _, _, _, _, _]) hC dL_law_84 rfl (Nat.le_of_ble_eq_true rfl) rfl ?_
  exact ls 6 0 (by decide) _ _ _ _ _ (lV_00 g1 g2 hz)
