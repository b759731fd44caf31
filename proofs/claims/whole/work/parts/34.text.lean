abbrev rm_X5_adds : Room := { frames := 3, cells := 0, slots := 0, locals := 65 }
theorem wl_X5_adds_52 : Cond.fieldLink RX5 52 "HandBlindsModel" "spot" "I" ∈ wsX5_adds := List.mem_of_getElem? (i := 1) (by decide +kernel)
theorem wi_X5_adds_5 : ∀ w ∈ wsX50, w ∈ wsX5_adds := fun _ h => List.mem_cons_of_mem _ (List.mem_append_right _ h)
theorem wl_X5_adds_19 : Cond.fieldLink RX5 19 "HandBlindsModel" "text" "[I" ∈ wsX5_adds := List.mem_of_getElem? (i := 3) (by decide +kernel)
theorem wl_X5_adds_7 : Cond.fieldLink RX5 7 "HandBlindsModel" "s" "[I" ∈ wsX5_adds := List.mem_of_getElem? (i := 4) (by decide +kernel)
theorem wl_X5_adds_58 : Cond.fieldLink RX5 58 "HandBlindsModel" "from" "I" ∈ wsX5_adds := List.mem_of_getElem? (i := 2) (by decide +kernel)
theorem hd_X5_adds : yX5_adds.cls = RX5 ∧ yX5_adds.cls ≠ "java/lang/invoke/MethodHandle" ∧ yX5_adds.cls ≠ "java/lang/invoke/VarHandle" ∧ (parseMethodDescriptor yX5_adds.desc).map (fun d => d.parameters.length) = some 0 := ⟨rfl, by decide +kernel, by decide +kernel, by decide +kernel⟩
set_option maxHeartbeats 4000000 in
set_option maxRecDepth 100000 in
theorem c_X5_adds (l : Launch) {G : xG} {μ : xM} {I : xI} {P : xP} {m t f n : Nat} (km : μ.2.1 m = 6) (kt : μ.2.1 (P m 4) = 7) (lt : μ.2.2 (P m 4) = 60) (hty : I m 5 = nI t) (ht60 : t ≤ 60) (ks : μ.2.1 (P m 0) = 7) (ls : μ.2.2 (P m 0) = 369) (hs : I m 6 = nI f) (hft : f ≤ t) (hxs : P m 4 ≠ P m 0) (hms : m ≠ P m 0) (hn : I (P m 0) 0 = nI n) (hn20 : n ≤ 20) (h8 : ¬ I (P m 0) 8 = 0) : Ct l yX5_adds wsX5_adds rm_X5_adds G μ I P [.ref (xZ G + m)] 0 0 (fun vv μ' I' P' => vv = some (.int (bI (decide ((nmR (I (P m 0)) n (I (P m 4)) t f) = 0)))) ∧ μ' = μ ∧ P' = P ∧ I' m 6 = nI (fmE (I (P m 4)) t f) ∧ I' m 7 = nI f ∧ I' m 10 = I m 10 ∧ I' (P m 0) = (if (nmR (I (P m 0)) n (I (P m 4)) t f) = 0 then addS (I (P m 0)) n (I (P m 4)) f (fmE (I (P m 4)) t f) else (I (P m 0))) ∧ (¬ (nmR (I (P m 0)) n (I (P m 4)) t f) = 0 → I' m 8 = (nmR (I (P m 0)) n (I (P m 4)) t f) ∧ I' m 9 = (nmC (I (P m 0)) n (I (P m 4)) t f)) ∧ xTx m (P m 0) I I') := by
  have hmx : m ≠ P m 4 := fun e => by rw [← e, km] at kt; cases kt
  refine Ct.of (cc := cX5_adds) (maxL := 5) (ret := (some .boolean)) [some (.ref (xZ G + m)), none, none, none, none] (by decide) rfl rfl rfl (Nat.le_of_ble_eq_true rfl) ?_
  intro X hC hD h0 _
  refine r_aload_n (pc := 0) hC dX5_adds_0 rfl ?_
  refine r_aload_n (pc := 1) hC dX5_adds_1 rfl ?_
  refine g_Model_spot (pc := 2) hC wi_X5_adds_5 wl_X5_adds_52 (by assumption) dX5_adds_2 ?_
  rw [hs]
  refine p_Model_from (pc := 5) hC wi_X5_adds_5 wl_X5_adds_58 (by assumption) dX5_adds_5 ?_
  refine r_aload_n (pc := 8) hC dX5_adds_8 rfl ?_
  refine k_X5_isFormed (pc := 9) hC gX5_adds_X5_isFormed ⟨Nat.le_of_ble_eq_true rfl, Nat.le_of_ble_eq_true rfl⟩ km kt lt (by rw [xu_ne (Or.inr (by decide))]; exact hty) ht60 (by rw [xu_ne (Or.inr (by decide))]; exact hs) xu_at hft hxs hms (Nat.le_of_ble_eq_true rfl) rfl ⟨Nat.zero_le _, Nat.zero_le _⟩ dX5_adds_9 ?_
  intro J g6 g7 g10 gS gF gT
  have eX1 : (xu I m 7 (nI f)) (P m 4) = (I (P m 4)) := xu_row (Ne.symm hmx)
  have eS1 : (xu I m 7 (nI f)) (P m 0) = (I (P m 0)) := xu_row (Ne.symm hms)
  rw [eX1] at g6 gF
  rw [eX1]
  have gS2 : J (P m 0) = (I (P m 0)) := gS.trans eS1
  have g102 : J m 10 = I m 10 := by rw [g10, xu_ne (Or.inr (by decide))]
  have gT2 : xTx m (P m 0) I J := xTx.tr (xTx.rf.u (by decide)) gT
  have gX : J (P m 4) = (I (P m 4)) := gT2.1 _ (Ne.symm hmx) hxs
  obtain ⟨hE1, hE2⟩ := fmE_le (tx := (I (P m 4))) hft
  refine r_if_ne (pc := 12) (tgt := 17) hC dX5_adds_12 (by decide) (fun bq12 => ?_) (fun bq12 => ?_)
  · skip
    have hok : fmOk (I (P m 4)) t f = true := by
      cases hd : fmOk (I (P m 4)) t f
      · rw [hd] at bq12; exact absurd rfl bq12
      · rfl
    obtain ⟨hE14, hEf⟩ := fmE_14 hft hok
    refine r_aload_n (pc := 17) hC dX5_adds_17 rfl ?_
    refine g_Model_spot (pc := 18) hC wi_X5_adds_5 wl_X5_adds_52 (by assumption) dX5_adds_18 ?_
    refine r_aload_n (pc := 21) hC dX5_adds_21 rfl ?_
    refine g_Model_from (pc := 22) hC wi_X5_adds_5 wl_X5_adds_58 (by assumption) dX5_adds_22 ?_
    refine r_isub (pc := 25) hC dX5_adds_25 ?_
    rw [g6, g7, pk_sub hE1]
    refine r_istore_n (pc := 26) (L' := [_, _, _, _, _]) hC dX5_adds_26 rfl (Nat.le_of_ble_eq_true rfl) rfl ?_
    have K60 : ∀ z : Int32, xg X G (0, 0) μ J P [some (.ref (xZ G + m)), some (.int (nI ((fmE (I (P m 4)) t f) - f))), some (.int (wsum (fun i => (I (P m 4)) (f + i)) ((fmE (I (P m 4)) t f) - f))), some (.int z), none] 60 [] := by
      intro z
      refine r_aload_n (pc := 60) hC dX5_adds_60 rfl ?_
      refine r_iload_n (pc := 61) hC dX5_adds_61 rfl ?_
      refine k_X5_squeezed (pc := 62) hC gX5_adds_X5_squeezed ⟨Nat.le_of_ble_eq_true rfl, Nat.le_of_ble_eq_true rfl⟩ km ks ls (by rw [gS2]; exact h8) (Nat.le_of_ble_eq_true rfl) rfl ⟨Nat.zero_le _, Nat.zero_le _⟩ dX5_adds_62 ?_
      rw [show sq (J (P m 0) 8) (wsum (fun i => (I (P m 4)) (f + i)) ((fmE (I (P m 4)) t f) - f)) = sq ((I (P m 0)) 8) (nmW (I (P m 4)) f (fmE (I (P m 4)) t f)) from by rw [gS2]; rfl]
      refine r_sipush (pc := 65) (v := 150) hC dX5_adds_65 (by decide) ?_
      refine r_icmp_le (pc := 68) (tgt := 82) hC dX5_adds_68 (by decide) (fun bq68 => ?_) (fun bq68 => ?_)
      · skip
        refine r_aload_n (pc := 82) hC dX5_adds_82 rfl ?_
        refine g_Model_s (pc := 83) hC wi_X5_adds_5 wl_X5_adds_7 (by assumption) (c2 := 7) (by assumption) (by decide) dX5_adds_83 ?_
        refine r_iconst (pc := 86) (v := 0) hC dX5_adds_86 (by decide) ?_
        refine r_iald (pc := 87) hC ks (xi_l (k := 0) ls (by decide) (by decide) (by decide)) dX5_adds_87 ?_
        rw [gS2, hn]
        refine r_istore_n (pc := 88) (L' := [_, _, _, _, _]) hC dX5_adds_88 rfl (Nat.le_of_ble_eq_true rfl) rfl ?_
        refine r_iload_n (pc := 89) hC dX5_adds_89 rfl ?_
        refine r_bipush (pc := 90) (v := 20) hC dX5_adds_90 (by decide) ?_
        refine r_icmp_ne (pc := 92) (tgt := 102) hC dX5_adds_92 (by decide) (fun bq92 => ?_) (fun bq92 => ?_)
        · skip
          have hn21 : n ≠ 20 := fun e => bq92 (by rw [e]; rfl)
          have jj7 : ∀ j, (xmp (P m 0) (rngB (14 + 17 * n) j) (fun i => (I (P m 4)) (f + (i - (14 + 17 * n)))) (xu (xu (xu J (P m 0) (11 + 17 * n) (nI ((fmE (I (P m 4)) t f) - f))) (P m 0) (12 + 17 * n) 0) (P m 0) (13 + 17 * n) 0)) m 7 = nI f := fun j => by rw [xmp_o hms, xu_row hms, xu_row hms, xu_row hms]; exact g7
          have jjX : ∀ j, (xmp (P m 0) (rngB (14 + 17 * n) j) (fun i => (I (P m 4)) (f + (i - (14 + 17 * n)))) (xu (xu (xu J (P m 0) (11 + 17 * n) (nI ((fmE (I (P m 4)) t f) - f))) (P m 0) (12 + 17 * n) 0) (P m 0) (13 + 17 * n) 0)) (P m 4) = (I (P m 4)) := fun j => by rw [xmp_o hxs, xu_row hxs, xu_row hxs, xu_row hxs]; exact gX
          have loopL : ∀ (p j : Nat), j + p = (fmE (I (P m 4)) t f) - f → xg X G (0, 0) μ (xmp (P m 0) (rngB (14 + 17 * n) j) (fun i => (I (P m 4)) (f + (i - (14 + 17 * n)))) (xu (xu (xu J (P m 0) (11 + 17 * n) (nI ((fmE (I (P m 4)) t f) - f))) (P m 0) (12 + 17 * n) 0) (P m 0) (13 + 17 * n) 0)) P [some (.ref (xZ G + m)), some (.int (nI ((fmE (I (P m 4)) t f) - f))), some (.int (nmW (I (P m 4)) f (fmE (I (P m 4)) t f))), some (.int (nI n)), some (.int (nI j))] 126 [] := by
            intro p
            induction p with
            | zero =>
              intro j hj
              have ej : j = (fmE (I (P m 4)) t f) - f := by omega
              refine r_iload (pc := 126) hC dX5_adds_126 rfl ?_
              refine r_iload_n (pc := 128) hC dX5_adds_128 rfl ?_
              refine r_icmp_ge (pc := 129) (tgt := 159) hC dX5_adds_129 (by decide) (fun bq129 => ?_) (fun bq129 => ?_)
              · skip
                rw [ej]
                refine r_aload_n (pc := 159) hC dX5_adds_159 rfl ?_
                refine g_Model_s (pc := 160) hC wi_X5_adds_5 wl_X5_adds_7 (by assumption) (c2 := 7) (by assumption) (by decide) dX5_adds_160 ?_
                refine r_iconst (pc := 163) (v := 0) hC dX5_adds_163 (by decide) ?_
                refine r_dup2 (pc := 164) hC dX5_adds_164 rfl rfl ?_
                refine r_iald (pc := 165) hC ks (xi_l (k := 0) ls (by decide) (by decide) (by decide)) dX5_adds_165 ?_
                refine r_iconst (pc := 166) (v := 1) hC dX5_adds_166 (by decide) ?_
                rw [show (xmp (P m 0) (rngB (14 + 17 * n) ((fmE (I (P m 4)) t f) - f)) (fun i => (I (P m 4)) (f + (i - (14 + 17 * n)))) (xu (xu (xu J (P m 0) (11 + 17 * n) (nI ((fmE (I (P m 4)) t f) - f))) (P m 0) (12 + 17 * n) 0) (P m 0) (13 + 17 * n) 0)) (P m 0) 0 = nI n from by rw [xmp_n (rngB_f (by omega)), xu_ne (Or.inr (by omega)), xu_ne (Or.inr (by omega)), xu_ne (Or.inr (by omega)), gS2, hn]]
                refine r_iadd (pc := 167) hC dX5_adds_167 ?_
                rw [nI_1]
                refine r_iast (pc := 168) hC ks (xi_l (k := 0) ls (by decide) (by decide) (by decide)) dX5_adds_168 ?_
                refine r_aload_n (pc := 169) hC dX5_adds_169 rfl ?_
                refine g_Model_s (pc := 170) hC wi_X5_adds_5 wl_X5_adds_7 (by assumption) (c2 := 7) (by assumption) (by decide) dX5_adds_170 ?_
                refine r_iconst (pc := 173) (v := 1) hC dX5_adds_173 (by decide) ?_
                refine r_aload_n (pc := 174) hC dX5_adds_174 rfl ?_
                refine g_Model_s (pc := 175) hC wi_X5_adds_5 wl_X5_adds_7 (by assumption) (c2 := 7) (by assumption) (by decide) dX5_adds_175 ?_
                refine r_iconst (pc := 178) (v := 1) hC dX5_adds_178 (by decide) ?_
                refine r_iald (pc := 179) hC ks (xi_l (k := 1) ls (by decide) (by decide) (by decide)) dX5_adds_179 ?_
                rw [xu_ne (Or.inr (by decide)), xmp_n (rngB_f (by omega)), xu_ne (Or.inr (by omega)), xu_ne (Or.inr (by omega)), xu_ne (Or.inr (by omega)), gS2]
                refine r_if_ge (pc := 180) (tgt := 187) hC dX5_adds_180 (by decide) (fun bq180 => ?_) (fun bq180 => ?_)
                · skip
                  refine r_aload_n (pc := 187) hC dX5_adds_187 rfl ?_
                  refine g_Model_s (pc := 188) hC wi_X5_adds_5 wl_X5_adds_7 (by assumption) (c2 := 7) (by assumption) (by decide) dX5_adds_188 ?_
                  refine r_iconst (pc := 191) (v := 1) hC dX5_adds_191 (by decide) ?_
                  refine r_iald (pc := 192) hC ks (xi_l (k := 1) ls (by decide) (by decide) (by decide)) dX5_adds_192 ?_
                  rw [xu_ne (Or.inr (by decide)), xmp_n (rngB_f (by omega)), xu_ne (Or.inr (by omega)), xu_ne (Or.inr (by omega)), xu_ne (Or.inr (by omega)), gS2]
                  refine r_iast (pc := 193) hC ks (xi_l (k := 1) ls (by decide) (by decide) (by decide)) dX5_adds_193 ?_
                  refine r_iconst (pc := 194) (v := 1) hC dX5_adds_194 (by decide) ?_
                  refine r_iret (pc := 195) hC hD rfl dX5_adds_195 rfl ?_
                  have hR : (nmR (I (P m 0)) n (I (P m 4)) t f) = 0 := by rw [nmR, if_neg (by rw [hok]; decide), if_pos bq68, if_neg hn21]
                  have ev : (I (P m 0)) 1 = (if 0 ≤ (I (P m 0)) 1 then (I (P m 0)) 1 else 0) := by rw [if_pos bq180]
                  refine ⟨by rw [hR]; rfl, rfl, rfl, ?_, ?_, ?_, ?_, fun w => absurd hR w, ?_⟩
                  · rw [xu_row hms, xu_row hms, xmp_o hms, xu_row hms, xu_row hms, xu_row hms]; exact g6
                  · rw [xu_row hms, xu_row hms, xmp_o hms, xu_row hms, xu_row hms, xu_row hms]; exact g7
                  · rw [xu_row hms, xu_row hms, xmp_o hms, xu_row hms, xu_row hms, xu_row hms]; exact g102
                  · rw [if_pos hR]
                    funext i
                    by_cases i1 : i = 1
                    · subst i1; rw [xu_at, addS, if_pos rfl]; exact ev
                    rw [xu_ne (Or.inr i1), addS, if_neg i1]
                    by_cases i0 : i = 0
                    · subst i0; rw [xu_at, if_pos rfl]
                    rw [xu_ne (Or.inr i0), if_neg i0]
                    simp only [xmp, true_and]
                    by_cases i2 : i = 11 + 17 * n
                    · subst i2
                      rw [if_neg (by rw [rngB_f (by omega)]; decide), xu_ne (Or.inr (by omega)), xu_ne (Or.inr (by omega)), xu_at, if_pos rfl]
                    rw [if_neg i2]
                    by_cases i3 : i = 12 + 17 * n
                    · subst i3
                      rw [if_neg (by rw [rngB_f (by omega)]; decide), xu_ne (Or.inr (by omega)), xu_at, if_pos rfl]
                    rw [if_neg i3]
                    by_cases i4 : i = 13 + 17 * n
                    · subst i4
                      rw [if_neg (by rw [rngB_f (by omega)]; decide), xu_at, if_pos rfl]
                    rw [if_neg i4, xu_ne (Or.inr i4), xu_ne (Or.inr i3), xu_ne (Or.inr i2), gS2]
                  · refine ⟨fun b b1 b2 => ?_, fun k hk => ?_⟩
                    · rw [xu_row b2, xu_row b2, xmp_o b2, xu_row b2, xu_row b2, xu_row b2]; exact gT2.1 b b1 b2
                    · rw [xu_row hms, xu_row hms, xmp_o hms, xu_row hms, xu_row hms, xu_row hms]; exact gT2.2 k hk
                · skip
                  refine r_iconst (pc := 183) (v := 0) hC dX5_adds_183 (by decide) ?_
                  refine r_goto (pc := 184) (tgt := 193) hC dX5_adds_184 (by decide) ?_
                  skip
                  refine r_iast (pc := 193) hC ks (xi_l (k := 1) ls (by decide) (by decide) (by decide)) dX5_adds_193 ?_
                  refine r_iconst (pc := 194) (v := 1) hC dX5_adds_194 (by decide) ?_
                  refine r_iret (pc := 195) hC hD rfl dX5_adds_195 rfl ?_
                  have hR : (nmR (I (P m 0)) n (I (P m 4)) t f) = 0 := by rw [nmR, if_neg (by rw [hok]; decide), if_pos bq68, if_neg hn21]
                  have ev : 0 = (if 0 ≤ (I (P m 0)) 1 then (I (P m 0)) 1 else 0) := by rw [if_neg bq180]
                  refine ⟨by rw [hR]; rfl, rfl, rfl, ?_, ?_, ?_, ?_, fun w => absurd hR w, ?_⟩
                  · rw [xu_row hms, xu_row hms, xmp_o hms, xu_row hms, xu_row hms, xu_row hms]; exact g6
                  · rw [xu_row hms, xu_row hms, xmp_o hms, xu_row hms, xu_row hms, xu_row hms]; exact g7
                  · rw [xu_row hms, xu_row hms, xmp_o hms, xu_row hms, xu_row hms, xu_row hms]; exact g102
                  · rw [if_pos hR]
                    funext i
                    by_cases i1 : i = 1
                    · subst i1; rw [xu_at, addS, if_pos rfl]; exact ev
                    rw [xu_ne (Or.inr i1), addS, if_neg i1]
                    by_cases i0 : i = 0
                    · subst i0; rw [xu_at, if_pos rfl]
                    rw [xu_ne (Or.inr i0), if_neg i0]
                    simp only [xmp, true_and]
                    by_cases i2 : i = 11 + 17 * n
                    · subst i2
                      rw [if_neg (by rw [rngB_f (by omega)]; decide), xu_ne (Or.inr (by omega)), xu_ne (Or.inr (by omega)), xu_at, if_pos rfl]
                    rw [if_neg i2]
                    by_cases i3 : i = 12 + 17 * n
                    · subst i3
                      rw [if_neg (by rw [rngB_f (by omega)]; decide), xu_ne (Or.inr (by omega)), xu_at, if_pos rfl]
                    rw [if_neg i3]
                    by_cases i4 : i = 13 + 17 * n
                    · subst i4
                      rw [if_neg (by rw [rngB_f (by omega)]; decide), xu_at, if_pos rfl]
                    rw [if_neg i4, xu_ne (Or.inr i4), xu_ne (Or.inr i3), xu_ne (Or.inr i2), gS2]
                  · refine ⟨fun b b1 b2 => ?_, fun k hk => ?_⟩
                    · rw [xu_row b2, xu_row b2, xmp_o b2, xu_row b2, xu_row b2, xu_row b2]; exact gT2.1 b b1 b2
                    · rw [xu_row hms, xu_row hms, xmp_o hms, xu_row hms, xu_row hms, xu_row hms]; exact gT2.2 k hk
              · skip
                exact absurd (nI_le (by omega) (by omega)) bq129
            | succ p ih =>
              intro j hj
              refine r_iload (pc := 126) hC dX5_adds_126 rfl ?_
              refine r_iload_n (pc := 128) hC dX5_adds_128 rfl ?_
              refine r_icmp_ge (pc := 129) (tgt := 159) hC dX5_adds_129 (by decide) (fun bq129 => ?_) (fun bq129 => ?_)
              · skip
                exact absurd bq129 (nI_ge (by omega) (by omega))
              · skip
                refine r_aload_n (pc := 132) hC dX5_adds_132 rfl ?_
                refine r_iload_n (pc := 133) hC dX5_adds_133 rfl ?_
                refine r_iconst (pc := 134) (v := 3) hC dX5_adds_134 (by decide) ?_
                refine r_iload (pc := 135) hC dX5_adds_135 rfl ?_
                refine r_iadd (pc := 137) hC dX5_adds_137 ?_
                refine r_aload_n (pc := 138) hC dX5_adds_138 rfl ?_
                refine g_Model_text (pc := 139) hC wi_X5_adds_5 wl_X5_adds_19 (by assumption) (c2 := 7) (by assumption) (by decide) dX5_adds_139 ?_
                refine r_aload_n (pc := 142) hC dX5_adds_142 rfl ?_
                refine g_Model_from (pc := 143) hC wi_X5_adds_5 wl_X5_adds_58 (by assumption) dX5_adds_143 ?_
                refine r_iload (pc := 146) hC dX5_adds_146 rfl ?_
                refine r_iadd (pc := 148) hC dX5_adds_148 ?_
                rw [jj7, nI_add]
                refine r_iald (pc := 149) hC kt (xi_e (k := f + j) rfl lt (by omega) (by decide)) dX5_adds_149 ?_
                rw [jjX]
                refine k_X5_sets (pc := 150) hC gX5_adds_X5_sets ⟨Nat.le_of_ble_eq_true rfl, Nat.le_of_ble_eq_true rfl⟩ (k := 14 + 17 * n + j) km ks ls (by simp only [xlit, nI_add, pk_mul] <;> exact congrArg nI (by omega)) (by omega) (Nat.le_of_ble_eq_true rfl) rfl ⟨Nat.zero_le _, Nat.zero_le _⟩ dX5_adds_150 ?_
                refine r_iinc (pc := 153) (v := 1) (L' := [_, _, _, _, _]) hC dX5_adds_153 rfl (by decide) rfl rfl ?_
                refine r_goto (pc := 156) (tgt := 126) hC dX5_adds_156 (by decide) ?_
                rw [xmp_step (k := 14 + 17 * n + j) (c' := rngB (14 + 17 * n) (j + 1)) (fun i => rngB_s) (by show (I (P m 4)) (f + (14 + 17 * n + j - (14 + 17 * n))) = _; rw [show 14 + 17 * n + j - (14 + 17 * n) = j by omega]), nI_1]
                exact ih (j + 1) (by omega)
          refine r_aload_n (pc := 102) hC dX5_adds_102 rfl ?_
          refine r_iload_n (pc := 103) hC dX5_adds_103 rfl ?_
          refine r_iconst (pc := 104) (v := 0) hC dX5_adds_104 (by decide) ?_
          refine r_iload_n (pc := 105) hC dX5_adds_105 rfl ?_
          refine k_X5_sets (pc := 106) hC gX5_adds_X5_sets ⟨Nat.le_of_ble_eq_true rfl, Nat.le_of_ble_eq_true rfl⟩ (k := 11 + 17 * n) km ks ls (by simp only [xlit, nI_add, pk_mul] <;> exact congrArg nI (by omega)) (by omega) (Nat.le_of_ble_eq_true rfl) rfl ⟨Nat.zero_le _, Nat.zero_le _⟩ dX5_adds_106 ?_
          refine r_aload_n (pc := 109) hC dX5_adds_109 rfl ?_
          refine r_iload_n (pc := 110) hC dX5_adds_110 rfl ?_
          refine r_iconst (pc := 111) (v := 1) hC dX5_adds_111 (by decide) ?_
          refine r_iconst (pc := 112) (v := 0) hC dX5_adds_112 (by decide) ?_
          refine k_X5_sets (pc := 113) hC gX5_adds_X5_sets ⟨Nat.le_of_ble_eq_true rfl, Nat.le_of_ble_eq_true rfl⟩ (k := 12 + 17 * n) km ks ls (by simp only [xlit, nI_add, pk_mul] <;> exact congrArg nI (by omega)) (by omega) (Nat.le_of_ble_eq_true rfl) rfl ⟨Nat.zero_le _, Nat.zero_le _⟩ dX5_adds_113 ?_
          refine r_aload_n (pc := 116) hC dX5_adds_116 rfl ?_
          refine r_iload_n (pc := 117) hC dX5_adds_117 rfl ?_
          refine r_iconst (pc := 118) (v := 2) hC dX5_adds_118 (by decide) ?_
          refine r_iconst (pc := 119) (v := 0) hC dX5_adds_119 (by decide) ?_
          refine k_X5_sets (pc := 120) hC gX5_adds_X5_sets ⟨Nat.le_of_ble_eq_true rfl, Nat.le_of_ble_eq_true rfl⟩ (k := 13 + 17 * n) km ks ls (by simp only [xlit, nI_add, pk_mul] <;> exact congrArg nI (by omega)) (by omega) (Nat.le_of_ble_eq_true rfl) rfl ⟨Nat.zero_le _, Nat.zero_le _⟩ dX5_adds_120 ?_
          refine r_iconst (pc := 123) (v := 0) hC dX5_adds_123 (by decide) ?_
          refine r_istore (pc := 124) (L' := [_, _, _, _, _]) hC dX5_adds_124 rfl (Nat.le_of_ble_eq_true rfl) rfl ?_
          have z := loopL ((fmE (I (P m 4)) t f) - f) 0 (by omega)
          rw [xmp_0 (fun i => rngB_0)] at z; exact z
        · skip
          refine r_aload_n (pc := 95) hC dX5_adds_95 rfl ?_
          refine r_iconst (pc := 96) (v := 3) hC dX5_adds_96 (by decide) ?_
          refine r_iload_n (pc := 97) hC dX5_adds_97 rfl ?_
          refine k_X5_fails (pc := 98) hC gX5_adds_X5_fails ⟨Nat.le_of_ble_eq_true rfl, Nat.le_of_ble_eq_true rfl⟩ km (Nat.le_of_ble_eq_true rfl) rfl ⟨Nat.zero_le _, Nat.zero_le _⟩ dX5_adds_98 ?_
          refine r_iret (pc := 101) hC hD rfl dX5_adds_101 rfl ?_
          have hR : (nmR (I (P m 0)) n (I (P m 4)) t f) = 3 := by rw [nmR, if_neg (by rw [hok]; decide), if_pos bq68, if_pos ((nI_eq (b := 20) (by omega) (by decide)).mp bq92)]
          have hC : (nmC (I (P m 0)) n (I (P m 4)) t f) = nI ((fmE (I (P m 4)) t f) - f) := by rw [nmC, if_neg (by rw [hok]; decide), if_pos bq68]
          exact ⟨by rw [hR]; rfl, rfl, rfl, by rw [xu_ne (Or.inr (by decide)), xu_ne (Or.inr (by decide))]; exact g6, by rw [xu_ne (Or.inr (by decide)), xu_ne (Or.inr (by decide))]; exact g7, by rw [xu_ne (Or.inr (by decide)), xu_ne (Or.inr (by decide))]; exact g102, by rw [xu_row (Ne.symm hms), xu_row (Ne.symm hms), if_neg (by rw [hR]; decide)]; exact gS2, fun _ => ⟨by rw [hR, xu_ne (Or.inr (by decide)), xu_at], by rw [hC, xu_at]⟩, (gT2.u (by decide)).u (by decide)⟩
      · skip
        refine r_aload_n (pc := 71) hC dX5_adds_71 rfl ?_
        refine r_iconst (pc := 72) (v := 2) hC dX5_adds_72 (by decide) ?_
        refine r_aload_n (pc := 73) hC dX5_adds_73 rfl ?_
        refine r_iload_n (pc := 74) hC dX5_adds_74 rfl ?_
        refine k_X5_squeezed (pc := 75) hC gX5_adds_X5_squeezed ⟨Nat.le_of_ble_eq_true rfl, Nat.le_of_ble_eq_true rfl⟩ km ks ls (by rw [gS2]; exact h8) (Nat.le_of_ble_eq_true rfl) rfl ⟨Nat.zero_le _, Nat.zero_le _⟩ dX5_adds_75 ?_
        rw [show sq (J (P m 0) 8) (wsum (fun i => (I (P m 4)) (f + i)) ((fmE (I (P m 4)) t f) - f)) = sq ((I (P m 0)) 8) (nmW (I (P m 4)) f (fmE (I (P m 4)) t f)) from by rw [gS2]; rfl]
        refine k_X5_fails (pc := 78) hC gX5_adds_X5_fails ⟨Nat.le_of_ble_eq_true rfl, Nat.le_of_ble_eq_true rfl⟩ km (Nat.le_of_ble_eq_true rfl) rfl ⟨Nat.zero_le _, Nat.zero_le _⟩ dX5_adds_78 ?_
        refine r_iret (pc := 81) hC hD rfl dX5_adds_81 rfl ?_
        have hR : (nmR (I (P m 0)) n (I (P m 4)) t f) = 2 := by rw [nmR, if_neg (by rw [hok]; decide), if_neg bq68]
        have hC : (nmC (I (P m 0)) n (I (P m 4)) t f) = sq ((I (P m 0)) 8) (nmW (I (P m 4)) f (fmE (I (P m 4)) t f)) := by rw [nmC, if_neg (by rw [hok]; decide), if_neg bq68]
        exact ⟨by rw [hR]; rfl, rfl, rfl, by rw [xu_ne (Or.inr (by decide)), xu_ne (Or.inr (by decide))]; exact g6, by rw [xu_ne (Or.inr (by decide)), xu_ne (Or.inr (by decide))]; exact g7, by rw [xu_ne (Or.inr (by decide)), xu_ne (Or.inr (by decide))]; exact g102, by rw [xu_row (Ne.symm hms), xu_row (Ne.symm hms), if_neg (by rw [hR]; decide)]; exact gS2, fun _ => ⟨by rw [hR, xu_ne (Or.inr (by decide)), xu_at], by rw [hC, xu_at]⟩, (gT2.u (by decide)).u (by decide)⟩
    have loopW : ∀ (p j : Nat), j + p = (fmE (I (P m 4)) t f) - f → xg X G (0, 0) μ J P [some (.ref (xZ G + m)), some (.int (nI ((fmE (I (P m 4)) t f) - f))), some (.int (wsum (fun i => (I (P m 4)) (f + i)) j)), some (.int (nI (f + j))), none] 34 [] := by
      intro p
      induction p with
      | zero =>
        intro j hj
        refine r_iload_n (pc := 34) hC dX5_adds_34 rfl ?_
        refine r_aload_n (pc := 35) hC dX5_adds_35 rfl ?_
        refine g_Model_spot (pc := 36) hC wi_X5_adds_5 wl_X5_adds_52 (by assumption) dX5_adds_36 ?_
        rw [g6]
        refine r_icmp_ge (pc := 39) (tgt := 60) hC dX5_adds_39 (by decide) (fun bq39 => ?_) (fun bq39 => ?_)
        · skip
          rw [show j = (fmE (I (P m 4)) t f) - f by omega]; exact K60 _
        · skip
          exact absurd (nI_le (by omega) (by omega)) bq39
      | succ p ih =>
        intro j hj
        refine r_iload_n (pc := 34) hC dX5_adds_34 rfl ?_
        refine r_aload_n (pc := 35) hC dX5_adds_35 rfl ?_
        refine g_Model_spot (pc := 36) hC wi_X5_adds_5 wl_X5_adds_52 (by assumption) dX5_adds_36 ?_
        rw [g6]
        refine r_icmp_ge (pc := 39) (tgt := 60) hC dX5_adds_39 (by decide) (fun bq39 => ?_) (fun bq39 => ?_)
        · skip
          exact absurd bq39 (nI_ge (by omega) (by omega))
        · skip
          refine r_iload_n (pc := 42) hC dX5_adds_42 rfl ?_
          refine r_aload_n (pc := 43) hC dX5_adds_43 rfl ?_
          refine g_Model_text (pc := 44) hC wi_X5_adds_5 wl_X5_adds_19 (by assumption) (c2 := 7) (by assumption) (by decide) dX5_adds_44 ?_
          refine r_iload_n (pc := 47) hC dX5_adds_47 rfl ?_
          refine r_iald (pc := 48) hC kt (xi_e (k := f + j) rfl lt (by omega) (by decide)) dX5_adds_48 ?_
          rw [gX]
          refine k_X5_wide (pc := 49) hC gX5_adds_X5_wide ⟨Nat.le_of_ble_eq_true rfl, Nat.le_of_ble_eq_true rfl⟩  (Nat.le_of_ble_eq_true rfl) rfl ⟨Nat.zero_le _, Nat.zero_le _⟩ dX5_adds_49 ?_
          refine r_iadd (pc := 52) hC dX5_adds_52 ?_
          refine r_istore_n (pc := 53) (L' := [_, _, _, _, _]) hC dX5_adds_53 rfl (Nat.le_of_ble_eq_true rfl) rfl ?_
          refine r_iinc (pc := 54) (v := 1) (L' := [_, _, _, _, _]) hC dX5_adds_54 rfl (by decide) rfl rfl ?_
          refine r_goto (pc := 57) (tgt := 34) hC dX5_adds_57 (by decide) ?_
          have z := ih (j + 1) (by omega)
          rw [wsum] at z
          rw [nI_1]; exact z
    refine r_iconst (pc := 27) (v := 0) hC dX5_adds_27 (by decide) ?_
    refine r_istore_n (pc := 28) (L' := [_, _, _, _, _]) hC dX5_adds_28 rfl (Nat.le_of_ble_eq_true rfl) rfl ?_
    refine r_aload_n (pc := 29) hC dX5_adds_29 rfl ?_
    refine g_Model_from (pc := 30) hC wi_X5_adds_5 wl_X5_adds_58 (by assumption) dX5_adds_30 ?_
    rw [g7]
    refine r_istore_n (pc := 33) (L' := [_, _, _, _, _]) hC dX5_adds_33 rfl (Nat.le_of_ble_eq_true rfl) rfl ?_
    exact loopW ((fmE (I (P m 4)) t f) - f) 0 (by omega)
  · skip
    refine r_iconst (pc := 15) (v := 0) hC dX5_adds_15 (by decide) ?_
    refine r_iret (pc := 16) hC hD rfl dX5_adds_16 rfl ?_
    have hok : fmOk (I (P m 4)) t f = false := bI_0.mp bq12
    have hR : (nmR (I (P m 0)) n (I (P m 4)) t f) = 1 := by rw [nmR, if_pos hok]
    have hC : (nmC (I (P m 0)) n (I (P m 4)) t f) = nI (fmC (I (P m 4)) t f) := by rw [nmC, if_pos hok]
    exact ⟨by rw [hR]; rfl, rfl, rfl, g6, g7, g102, by rw [if_neg (by rw [hR]; decide)]; exact gS2, fun _ => by rw [hR, hC]; exact gF hok, gT2⟩
theorem k_X5_adds {X : xF} {G : xG} {cs : Nat × Nat} {μ : xM} {I : xI} {P : xP} {L : List (Option Value)} {pc : Nat} {rest : List Value} {cc : ByteArray} {Ts : List Cond} {own : String} {nL : Nat} {R : Room} (hC : xC X G cc Ts own nL R) {index : Nat} (hG : GoodIn Ts (wsV own index RX5 yX5_adds wsX5_adds)) (hR : rm_X5_adds.frames + 1 ≤ R.frames ∧ 8 + (5 + 11) + rm_X5_adds.locals ≤ R.locals) {m t f n : Nat} (km : μ.2.1 m = 6) (kt : μ.2.1 (P m 4) = 7) (lt : μ.2.2 (P m 4) = 60) (hty : I m 5 = nI t) (ht60 : t ≤ 60) (ks : μ.2.1 (P m 0) = 7) (ls : μ.2.2 (P m 0) = 369) (hs : I m 6 = nI f) (hft : f ≤ t) (hxs : P m 4 ≠ P m 0) (hms : m ≠ P m 0) (hn : I (P m 0) 0 = nI n) (hn20 : n ≤ 20) (h8 : ¬ I (P m 0) 8 = 0) (hW : (rest.map fun v => v.category).sum ≤ 8) (hL : L.length = nL) (hcs : cs.1 ≤ R.cells ∧ cs.2 ≤ R.slots) (hdec : decode cc pc = .ok (.invokevirtual index, 3)) (kk : ∀ I' : xI, I' m 6 = nI (fmE (I (P m 4)) t f) → I' m 7 = nI f → I' m 10 = I m 10 → I' (P m 0) = (if (nmR (I (P m 0)) n (I (P m 4)) t f) = 0 then addS (I (P m 0)) n (I (P m 4)) f (fmE (I (P m 4)) t f) else (I (P m 0))) → (¬ (nmR (I (P m 0)) n (I (P m 4)) t f) = 0 → I' m 8 = (nmR (I (P m 0)) n (I (P m 4)) t f) ∧ I' m 9 = (nmC (I (P m 0)) n (I (P m 4)) t f)) → xTx m (P m 0) I I' → xg X G cs μ I' P L (pc + 3) (.int (bI (decide ((nmR (I (P m 0)) n (I (P m 4)) t f) = 0))) :: rest)) : xg X G cs μ I P L pc (.ref (xZ G + m) :: rest) :=
  r_callV hC (c_X5_adds X.2.1 km kt lt hty ht60 ks ls hs hft hxs hms hn hn20 h8) hG rfl rfl rfl hd_X5_adds hR (by rw [km]; decide) (xe_Model km) rfl rfl rfl hW hL hcs hdec (by rintro vv μ' I' P' ⟨rfl, rfl, rfl, h1, h2, h3, h4, h5, h6⟩; exact kk I' h1 h2 h3 h4 h5 h6)
