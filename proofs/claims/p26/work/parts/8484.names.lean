set_option maxHeartbeats 4000000 in
set_option maxRecDepth 100000 in
theorem s_L_names_59 {X : xF} {G : xG} {μ : xM} {I : xI} {P : xP} {n rq cn st y : Nat} {S tx : Nat → Int32} {H : Nat → Nat → Int32}  (hC : xC X G cL_names wsL_names RL 16 rm_L_names) (hD : xD X G yL_names.name (some .boolean) 0 0 (pW μ cn)) (hK : lK μ) (hy : y < 10000000) (hp : oP P 1) (hO : oR I P 1 S n rq st H 0 tx) (hi : invN S n rq) (hcc : lC S n rq cn) (hA : lA I P S n rq) : xg X G (0, 0) μ I P [some (.ref (xZ G + 1)), some (.ref (xZ G + 255)), some (.ref (xZ G + 256)), some (.ref (xZ G + 257)), some (.ref (xZ G + 258)), some (.ref (xZ G + 259)), some (.int (nI y)), some (.int (nI (nSz y))), some (.int (nI (nKd y))), none, none, none, none, none, none, none] 59 [] := by
  have hK0 := hK
  obtain ⟨ko, hS, ⟨kg, ng⟩, ⟨kl, nl⟩, ⟨kw, nw⟩, ⟨ku, nu⟩, ⟨kc, nc⟩, ⟨kr, nr⟩⟩ := hK
  have hi0 := hi
  obtain ⟨hn20, hn, hq6, hq, hcur, hdr, h8, h9, h10, hrows⟩ := hi
  have hcn : cN S = n := by rw [cN, hn, nI_clamp (by omega)]
  obtain ⟨hz1, hz14⟩ := nSz_le y
  have hk2 := nKd_le y
  have loop : ∀ (q k : Nat), k + q = nSz y → ∀ (J' : xI) (tx' : Nat → Int32) (x12 : Option Value), oR J' P 1 S n rq st H k tx' → (∀ j, j < k → tx' j = nmF y j) → (∀ c, 255 ≤ c → J' c = I c) → xg X G (0, 0) μ J' P [some (.ref (xZ G + 1)), some (.ref (xZ G + 255)), some (.ref (xZ G + 256)), some (.ref (xZ G + 257)), some (.ref (xZ G + 258)), some (.ref (xZ G + 259)), some (.int (nI y)), some (.int (nI (nSz y))), some (.int (nI (nKd y))), some (.int (wsum (nmF y) k)), some (.int 1), some (.int (nI k)), x12, none, none, none] 79 [] := by
    intro q
    induction q with
    | zero =>
      intro k hk J' tx' x12 hO' htx hJ
      refine r_iload (pc := 79) hC dL_names_79 rfl ?_
      refine r_iload (pc := 81) hC dL_names_81 rfl ?_
      refine r_icmp_ge (pc := 83) (tgt := 174) hC dL_names_83 (by decide) (fun bq83 => ?_) (fun bq83 => ?_)
      · skip
        have ek : k = nSz y := by omega
        subst ek
        exact s_L_names_174 hC hD hK0 hy hp hO' hi0 hcc (lA_cong hA (fun c h1 h2 => hJ c h1) rfl) htx
      · skip
        exact absurd (nI_le (by omega) (by omega)) bq83
    | succ q ih =>
      intro k hk J' tx' x12 hO' htx hJ
      refine r_iload (pc := 79) hC dL_names_79 rfl ?_
      refine r_iload (pc := 81) hC dL_names_81 rfl ?_
      refine r_icmp_ge (pc := 83) (tgt := 174) hC dL_names_83 (by decide) (fun bq83 => ?_) (fun bq83 => ?_)
      · skip
        exact absurd bq83 (nI_ge (by omega) (by omega))
      · skip
        refine r_iload (pc := 86) hC dL_names_86 rfl ?_
        refine r_if_eq (pc := 88) (tgt := 174) hC dL_names_88 (by decide) (fun bq => (by first | exact absurd ((by decide : ¬ (1 : Int32) = 0)) bq | exact absurd bq ((by decide : ¬ (1 : Int32) = 0)))) (fun bq88 => ?_)
        refine r_iload (pc := 91) hC dL_names_91 rfl ?_
        refine r_if_ne (pc := 93) (tgt := 108) hC dL_names_93 (by decide) (fun bq93 => ?_) (fun bq93 => ?_)
        · skip
          refine r_iload (pc := 108) hC dL_names_108 rfl ?_
          refine r_iconst (pc := 110) (v := 1) hC dL_names_110 (by decide) ?_
          refine r_icmp_ne (pc := 111) (tgt := 120) hC dL_names_111 (by decide) (fun bq111 => ?_) (fun bq111 => ?_)
          · skip
            refine r_ldc2 (pc := 120) (v := 357813080665) hC dL_names_120 wl_L_names_29 ?_
            refine r_bipush (pc := 123) (v := 8) hC dL_names_123 (by decide) ?_
            refine r_iconst (pc := 125) (v := 4) hC dL_names_125 (by decide) ?_
            refine r_iload (pc := 126) hC dL_names_126 rfl ?_
            refine r_isub (pc := 128) hC dL_names_128 ?_
            refine r_imul (pc := 129) hC dL_names_129 ?_
            refine r_lshr (pc := 130) hC dL_names_130 ?_
            refine r_ldc2 (pc := 131) (v := 255) hC dL_names_131 wl_L_names_21 ?_
            refine r_land (pc := 134) hC dL_names_134 ?_
            refine r_l2i (pc := 135) hC dL_names_135 ?_
            have hkd0 : ¬ nKd y = 0 := fun e => bq93 (by rw [e]; rfl)
            have hz5 : nSz y = 5 := by unfold nSz; rw [if_pos (by omega)]
            have hkd2 : nKd y = 2 := by
              have : nKd y ≠ 1 := fun e => bq111 (by rw [e]; rfl)
              omega
            rw [wn_1 (k := k) (by omega), show sch 1 k = nmF y k from by unfold nmF; rw [if_neg hkd0, hkd2]]
            refine r_istore (pc := 136) (L' := [_, _, _, _, _, _, _, _, _, _, _, _, _, _, _, _]) hC dL_names_136 rfl (Nat.le_of_ble_eq_true rfl) rfl ?_
            refine r_iload (pc := 138) hC dL_names_138 rfl ?_
            refine r_iload (pc := 140) hC dL_names_140 rfl ?_
            refine k_L_wide (pc := 142) hC gL_names_L_wide ⟨Nat.le_of_ble_eq_true rfl, Nat.le_of_ble_eq_true rfl⟩  (Nat.le_of_ble_eq_true rfl) rfl ⟨Nat.zero_le _, Nat.zero_le _⟩ dL_names_142 ?_
            refine r_iadd (pc := 145) hC dL_names_145 ?_
            refine r_istore (pc := 146) (L' := [_, _, _, _, _, _, _, _, _, _, _, _, _, _, _, _]) hC dL_names_146 rfl (Nat.le_of_ble_eq_true rfl) rfl ?_
            refine r_aload_n (pc := 148) hC dL_names_148 rfl ?_
            refine r_iload (pc := 149) hC dL_names_149 rfl ?_
            refine k_X4_type (pc := 151) hC gL_names_X4_type ⟨Nat.le_of_ble_eq_true rfl, Nat.le_of_ble_eq_true rfl⟩ ko hS hp hO' hi0 (Nat.le_of_ble_eq_true rfl) rfl ⟨Nat.zero_le _, Nat.zero_le _⟩ dL_names_151 ?_
            intro J151 rT151 rF151
            obtain ⟨okT, aT⟩ := okL_ty (t := k) (nmF_l (y := y) (k := k) (by omega)) (by omega)
            rw [aT]
            refine r_iload (pc := 154) hC dL_names_154 rfl ?_
            refine r_iconst (pc := 156) (v := 1) hC dL_names_156 (by decide) ?_
            refine r_iadd (pc := 157) hC dL_names_157 ?_
            refine r_icmp_ne (pc := 158) (tgt := 165) hC dL_names_158 (by decide) (fun bq => (by first | exact absurd ((nI_1 k).symm) bq | exact absurd bq ((nI_1 k).symm))) (fun bq158 => ?_)
            refine r_iconst (pc := 161) (v := 1) hC dL_names_161 (by decide) ?_
            refine r_goto (pc := 162) (tgt := 166) hC dL_names_162 (by decide) ?_
            refine r_istore (pc := 166) (L' := [_, _, _, _, _, _, _, _, _, _, _, _, _, _, _, _]) hC dL_names_166 rfl (Nat.le_of_ble_eq_true rfl) rfl ?_
            refine r_iinc (pc := 168) (v := 1) (L' := [_, _, _, _, _, _, _, _, _, _, _, _, _, _, _, _]) hC dL_names_168 rfl (by decide) rfl rfl ?_
            refine r_goto (pc := 171) (tgt := 79) hC dL_names_171 (by decide) ?_
            rw [nI_1]
            exact ih (k + 1) (by omega) J151 _ _ (rT151.1 okT) (fun j hj => by
              by_cases e : j = k
              · subst e; rw [upd_at]
              · rw [upd_ne e]; exact htx j (by omega)) (fun c hc => (rF151 c (by omega)).trans (hJ c hc))
          · skip
            refine r_ldc2 (pc := 114) (v := 293220667220) hC dL_names_114 wl_L_names_23 ?_
            refine r_goto (pc := 117) (tgt := 123) hC dL_names_117 (by decide) ?_
            refine r_bipush (pc := 123) (v := 8) hC dL_names_123 (by decide) ?_
            refine r_iconst (pc := 125) (v := 4) hC dL_names_125 (by decide) ?_
            refine r_iload (pc := 126) hC dL_names_126 rfl ?_
            refine r_isub (pc := 128) hC dL_names_128 ?_
            refine r_imul (pc := 129) hC dL_names_129 ?_
            refine r_lshr (pc := 130) hC dL_names_130 ?_
            refine r_ldc2 (pc := 131) (v := 255) hC dL_names_131 wl_L_names_21 ?_
            refine r_land (pc := 134) hC dL_names_134 ?_
            refine r_l2i (pc := 135) hC dL_names_135 ?_
            have hkd0 : ¬ nKd y = 0 := fun e => bq93 (by rw [e]; rfl)
            have hz5 : nSz y = 5 := by unfold nSz; rw [if_pos (by omega)]
            have hkd1 : nKd y = 1 := (nI_eq (b := 1) (by omega) (by decide)).mp bq111
            rw [wn_0 (k := k) (by omega), show sch 0 k = nmF y k from by unfold nmF; rw [if_neg hkd0, hkd1]]
            refine r_istore (pc := 136) (L' := [_, _, _, _, _, _, _, _, _, _, _, _, _, _, _, _]) hC dL_names_136 rfl (Nat.le_of_ble_eq_true rfl) rfl ?_
            refine r_iload (pc := 138) hC dL_names_138 rfl ?_
            refine r_iload (pc := 140) hC dL_names_140 rfl ?_
            refine k_L_wide (pc := 142) hC gL_names_L_wide ⟨Nat.le_of_ble_eq_true rfl, Nat.le_of_ble_eq_true rfl⟩  (Nat.le_of_ble_eq_true rfl) rfl ⟨Nat.zero_le _, Nat.zero_le _⟩ dL_names_142 ?_
            refine r_iadd (pc := 145) hC dL_names_145 ?_
            refine r_istore (pc := 146) (L' := [_, _, _, _, _, _, _, _, _, _, _, _, _, _, _, _]) hC dL_names_146 rfl (Nat.le_of_ble_eq_true rfl) rfl ?_
            refine r_aload_n (pc := 148) hC dL_names_148 rfl ?_
            refine r_iload (pc := 149) hC dL_names_149 rfl ?_
            refine k_X4_type (pc := 151) hC gL_names_X4_type ⟨Nat.le_of_ble_eq_true rfl, Nat.le_of_ble_eq_true rfl⟩ ko hS hp hO' hi0 (Nat.le_of_ble_eq_true rfl) rfl ⟨Nat.zero_le _, Nat.zero_le _⟩ dL_names_151 ?_
            intro J151 rT151 rF151
            obtain ⟨okT, aT⟩ := okL_ty (t := k) (nmF_l (y := y) (k := k) (by omega)) (by omega)
            rw [aT]
            refine r_iload (pc := 154) hC dL_names_154 rfl ?_
            refine r_iconst (pc := 156) (v := 1) hC dL_names_156 (by decide) ?_
            refine r_iadd (pc := 157) hC dL_names_157 ?_
            refine r_icmp_ne (pc := 158) (tgt := 165) hC dL_names_158 (by decide) (fun bq => (by first | exact absurd ((nI_1 k).symm) bq | exact absurd bq ((nI_1 k).symm))) (fun bq158 => ?_)
            refine r_iconst (pc := 161) (v := 1) hC dL_names_161 (by decide) ?_
            refine r_goto (pc := 162) (tgt := 166) hC dL_names_162 (by decide) ?_
            refine r_istore (pc := 166) (L' := [_, _, _, _, _, _, _, _, _, _, _, _, _, _, _, _]) hC dL_names_166 rfl (Nat.le_of_ble_eq_true rfl) rfl ?_
            refine r_iinc (pc := 168) (v := 1) (L' := [_, _, _, _, _, _, _, _, _, _, _, _, _, _, _, _]) hC dL_names_168 rfl (by decide) rfl rfl ?_
            refine r_goto (pc := 171) (tgt := 79) hC dL_names_171 (by decide) ?_
            rw [nI_1]
            exact ih (k + 1) (by omega) J151 _ _ (rT151.1 okT) (fun j hj => by
              by_cases e : j = k
              · subst e; rw [upd_at]
              · rw [upd_ne e]; exact htx j (by omega)) (fun c hc => (rF151 c (by omega)).trans (hJ c hc))
        · skip
          refine r_iload (pc := 96) hC dL_names_96 rfl ?_
          refine r_iload (pc := 98) hC dL_names_98 rfl ?_
          refine r_iload (pc := 100) hC dL_names_100 rfl ?_
          refine k_L_name (pc := 102) hC gL_names_L_name ⟨Nat.le_of_ble_eq_true rfl, Nat.le_of_ble_eq_true rfl⟩ hy (by omega) hz14 (Nat.le_of_ble_eq_true rfl) rfl ⟨Nat.zero_le _, Nat.zero_le _⟩ dL_names_102 ?_
          refine r_goto (pc := 105) (tgt := 136) hC dL_names_105 (by decide) ?_
          have hkd0 : nKd y = 0 := (nI_eq (b := 0) (by omega) (by decide)).mp bq93
          rw [show nI (nmL y k (nSz y)) = nmF y k from by unfold nmF; rw [if_pos hkd0]]
          refine r_istore (pc := 136) (L' := [_, _, _, _, _, _, _, _, _, _, _, _, _, _, _, _]) hC dL_names_136 rfl (Nat.le_of_ble_eq_true rfl) rfl ?_
          refine r_iload (pc := 138) hC dL_names_138 rfl ?_
          refine r_iload (pc := 140) hC dL_names_140 rfl ?_
          refine k_L_wide (pc := 142) hC gL_names_L_wide ⟨Nat.le_of_ble_eq_true rfl, Nat.le_of_ble_eq_true rfl⟩  (Nat.le_of_ble_eq_true rfl) rfl ⟨Nat.zero_le _, Nat.zero_le _⟩ dL_names_142 ?_
          refine r_iadd (pc := 145) hC dL_names_145 ?_
          refine r_istore (pc := 146) (L' := [_, _, _, _, _, _, _, _, _, _, _, _, _, _, _, _]) hC dL_names_146 rfl (Nat.le_of_ble_eq_true rfl) rfl ?_
          refine r_aload_n (pc := 148) hC dL_names_148 rfl ?_
          refine r_iload (pc := 149) hC dL_names_149 rfl ?_
          refine k_X4_type (pc := 151) hC gL_names_X4_type ⟨Nat.le_of_ble_eq_true rfl, Nat.le_of_ble_eq_true rfl⟩ ko hS hp hO' hi0 (Nat.le_of_ble_eq_true rfl) rfl ⟨Nat.zero_le _, Nat.zero_le _⟩ dL_names_151 ?_
          intro J151 rT151 rF151
          obtain ⟨okT, aT⟩ := okL_ty (t := k) (nmF_l (y := y) (k := k) (by omega)) (by omega)
          rw [aT]
          refine r_iload (pc := 154) hC dL_names_154 rfl ?_
          refine r_iconst (pc := 156) (v := 1) hC dL_names_156 (by decide) ?_
          refine r_iadd (pc := 157) hC dL_names_157 ?_
          refine r_icmp_ne (pc := 158) (tgt := 165) hC dL_names_158 (by decide) (fun bq => (by first | exact absurd ((nI_1 k).symm) bq | exact absurd bq ((nI_1 k).symm))) (fun bq158 => ?_)
          refine r_iconst (pc := 161) (v := 1) hC dL_names_161 (by decide) ?_
          refine r_goto (pc := 162) (tgt := 166) hC dL_names_162 (by decide) ?_
          refine r_istore (pc := 166) (L' := [_, _, _, _, _, _, _, _, _, _, _, _, _, _, _, _]) hC dL_names_166 rfl (Nat.le_of_ble_eq_true rfl) rfl ?_
          refine r_iinc (pc := 168) (v := 1) (L' := [_, _, _, _, _, _, _, _, _, _, _, _, _, _, _, _]) hC dL_names_168 rfl (by decide) rfl rfl ?_
          refine r_goto (pc := 171) (tgt := 79) hC dL_names_171 (by decide) ?_
          rw [nI_1]
          exact ih (k + 1) (by omega) J151 _ _ (rT151.1 okT) (fun j hj => by
            by_cases e : j = k
            · subst e; rw [upd_at]
            · rw [upd_ne e]; exact htx j (by omega)) (fun c hc => (rF151 c (by omega)).trans (hJ c hc))
  refine r_iconst (pc := 59) (v := 0) hC dL_names_59 (by decide) ?_
  refine r_istore (pc := 60) (L' := [_, _, _, _, _, _, _, _, _, _, _, _, _, _, _, _]) hC dL_names_60 rfl (Nat.le_of_ble_eq_true rfl) rfl ?_
  refine r_aload_n (pc := 62) hC dL_names_62 rfl ?_
  refine k_X4_clearText (pc := 63) hC gL_names_X4_clearText ⟨Nat.le_of_ble_eq_true rfl, Nat.le_of_ble_eq_true rfl⟩ ko hS hp hO hi0 (Nat.le_of_ble_eq_true rfl) rfl ⟨Nat.zero_le _, Nat.zero_le _⟩ dL_names_63 ?_
  intro J63 rT63 rF63
  refine r_if_lt (pc := 66) (tgt := 73) hC dL_names_66 (by decide) (fun bq => (by first | exact absurd (nI_pos (n := 0) (by decide)) bq | exact absurd bq (nI_pos (n := 0) (by decide)))) (fun bq66 => ?_)
  refine r_iconst (pc := 69) (v := 1) hC dL_names_69 (by decide) ?_
  refine r_goto (pc := 70) (tgt := 74) hC dL_names_70 (by decide) ?_
  refine r_istore (pc := 74) (L' := [_, _, _, _, _, _, _, _, _, _, _, _, _, _, _, _]) hC dL_names_74 rfl (Nat.le_of_ble_eq_true rfl) rfl ?_
  refine r_iconst (pc := 76) (v := 0) hC dL_names_76 (by decide) ?_
  refine r_istore (pc := 77) (L' := [_, _, _, _, _, _, _, _, _, _, _, _, _, _, _, _]) hC dL_names_77 rfl (Nat.le_of_ble_eq_true rfl) rfl ?_
  exact loop (nSz y) 0 (by omega) J63 tx none rT63 (fun j hj => absurd hj (by omega)) (fun c hc => rF63 c (by omega))
