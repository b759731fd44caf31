abbrev rm_X5_cranks : Room := { frames := 3, cells := 0, slots := 0, locals := 66 }
theorem wl_X5_cranks_7 : Cond.fieldLink RX5 7 "HandBlindsModel" "s" "[I" ∈ wsX5_cranks := List.mem_of_getElem? (i := 3) (by decide +kernel)
theorem wi_X5_cranks_5 : ∀ w ∈ wsX50, w ∈ wsX5_cranks := fun _ h => List.mem_cons_of_mem _ (List.mem_append_right _ h)
theorem wl_X5_cranks_121 : Cond.fieldLink RX5 121 "HandBlindsModel" "torn" "I" ∈ wsX5_cranks := List.mem_of_getElem? (i := 2) (by decide +kernel)
theorem wl_X5_cranks_118 : Cond.fieldLink RX5 118 "HandBlindsModel" "gone" "I" ∈ wsX5_cranks := List.mem_of_getElem? (i := 1) (by decide +kernel)
theorem hd_X5_cranks : yX5_cranks.cls = RX5 ∧ yX5_cranks.cls ≠ "java/lang/invoke/MethodHandle" ∧ yX5_cranks.cls ≠ "java/lang/invoke/VarHandle" ∧ (parseMethodDescriptor yX5_cranks.desc).map (fun d => d.parameters.length) = some 2 := ⟨rfl, by decide +kernel, by decide +kernel, by decide +kernel⟩
set_option maxHeartbeats 4000000 in
set_option maxRecDepth 100000 in
theorem c_X5_cranks (l : Launch) {G : xG} {μ : xM} {I : xI} {P : xP} {m a w n : Nat} {up : Bool} {rows v : Int32} (km : μ.2.1 m = 6) (ks : μ.2.1 (P m 0) = 7) (ls : μ.2.2 (P m 0) = 369) (ha : I (P m 0) 1 = nI a) (hn : I (P m 0) 0 = nI n) (han : a < n) (hn20 : n ≤ 20) (hw : rows = if up then nI w else -nI w) (hw1 : 1 ≤ w) (hw20 : w ≤ 20) : Ct l yX5_cranks wsX5_cranks rm_X5_cranks G μ I P [.ref (xZ G + m), .int rows, .int v] 0 0 (fun vv μ' I' P' => vv = some (.int (whyS n a up w (stepsS (I (P m 0)) n a up w))) ∧ μ' = μ ∧ I' = (crF m (P m 0) a up v I (stepsS (I (P m 0)) n a up w)) ∧ P' = (P)) := by
  have hms : m ≠ P m 0 := fun e => by rw [← e, km] at ks; cases ks
  refine Ct.of (cc := cX5_cranks) (maxL := 5) (ret := (some .int)) [some (.ref (xZ G + m)), some (.int rows), some (.int v), none, none] (by decide) rfl rfl rfl (Nat.le_of_ble_eq_true rfl) ?_
  intro X hC hD h0 _
  have hrb : rows * xby up = nI w := by rw [hw]; exact xby_mul hw20
  have fin : ∀ (g : Nat) (z : Int32), rowAt a up g < n → g ≤ w → (∀ i, i < g → stopS (I (P m 0)) n a up i = false) → (g = w ∨ stopS (I (P m 0)) n a up g = true) → xg X G (0, 0) μ (crI m (P m 0) a up v I g) P [some (.ref (xZ G + m)), some (.int rows), some (.int v), some (.int (xby up)), some (.int z)] 99 [] := by
    intro g z hr hgw hno hyes
    have hst : stepsS (I (P m 0)) n a up w = g := by rw [stepsS]; exact srch_at w 0 g (by omega) (by omega) (fun i _ hi => hno i hi) (by rcases hyes with y | y; exact Or.inl (by omega); exact Or.inr y)
    have eS : (crI m (P m 0) a up v I g) (P m 0) = crS (I (P m 0)) a up v g := by funext k; simp [crI]
    have e0 : (crI m (P m 0) a up v I g) (P m 0) 0 = nI n := by rw [eS, crS_small (by decide) (by decide), hn]
    have e1 : (crI m (P m 0) a up v I g) (P m 0) 1 = nI (rowAt a up g) := by rw [eS, crS_1 ha]
    have e4 : (crI m (P m 0) a up v I g) (P m 0) 4 = I (P m 0) 4 := by rw [eS, crS_small (by decide) (by decide)]
    have e5 : (crI m (P m 0) a up v I g) (P m 0) 5 = I (P m 0) 5 := by rw [eS, crS_small (by decide) (by decide)]
    have e11 : (crI m (P m 0) a up v I g) m 11 = nI g := by simp [crI, hms]
    have e12 : (crI m (P m 0) a up v I g) m 12 = crT (I (P m 0)) a up v g := by simp [crI, hms]
    have hfin : xu (xu (crI m (P m 0) a up v I g) (P m 0) 4 ((crI m (P m 0) a up v I g) (P m 0) 4 + (crI m (P m 0) a up v I g) m 12)) (P m 0) 5 (xu (crI m (P m 0) a up v I g) (P m 0) 4 ((crI m (P m 0) a up v I g) (P m 0) 4 + (crI m (P m 0) a up v I g) m 12) (P m 0) 5 + xu (crI m (P m 0) a up v I g) (P m 0) 4 ((crI m (P m 0) a up v I g) (P m 0) 4 + (crI m (P m 0) a up v I g) m 12) m 11) = crF m (P m 0) a up v I g := by
      rw [xu_ne (j := 5) (Or.inr (by decide)), xu_row hms, e4, e5, e11, e12]; rfl
    generalize hJ : xu (xu (crI m (P m 0) a up v I g) (P m 0) 4 ((crI m (P m 0) a up v I g) (P m 0) 4 + (crI m (P m 0) a up v I g) m 12)) (P m 0) 5 (xu (crI m (P m 0) a up v I g) (P m 0) 4 ((crI m (P m 0) a up v I g) (P m 0) 4 + (crI m (P m 0) a up v I g) m 12) (P m 0) 5 + xu (crI m (P m 0) a up v I g) (P m 0) 4 ((crI m (P m 0) a up v I g) (P m 0) 4 + (crI m (P m 0) a up v I g) m 12) m 11) = J at hfin
    have e11x : J m 11 = nI g := by rw [← hJ, xu_row hms, xu_row hms, e11]
    have e1x : J (P m 0) 1 = nI (rowAt a up g) := by rw [← hJ, xu_ne (Or.inr (by decide)), xu_ne (Or.inr (by decide)), e1]
    have e0x : J (P m 0) 0 = nI n := by rw [← hJ, xu_ne (Or.inr (by decide)), xu_ne (Or.inr (by decide)), e0]
    refine r_aload_n (pc := 99) hC dX5_cranks_99 rfl ?_
    refine g_Model_s (pc := 100) hC wi_X5_cranks_5 wl_X5_cranks_7 (by assumption) (c2 := 7) (by assumption) (by decide) dX5_cranks_100 ?_
    refine r_iconst (pc := 103) (v := 4) hC dX5_cranks_103 (by decide) ?_
    refine r_dup2 (pc := 104) hC dX5_cranks_104 rfl rfl ?_
    refine r_iald (pc := 105) hC ks (xi_l (k := 4) ls (by decide) (by decide) (by decide)) dX5_cranks_105 ?_
    refine r_aload_n (pc := 106) hC dX5_cranks_106 rfl ?_
    refine g_Model_torn (pc := 107) hC wi_X5_cranks_5 wl_X5_cranks_121 (by assumption) dX5_cranks_107 ?_
    refine r_iadd (pc := 110) hC dX5_cranks_110 ?_
    refine r_iast (pc := 111) hC ks (xi_l (k := 4) ls (by decide) (by decide) (by decide)) dX5_cranks_111 ?_
    refine r_aload_n (pc := 112) hC dX5_cranks_112 rfl ?_
    refine g_Model_s (pc := 113) hC wi_X5_cranks_5 wl_X5_cranks_7 (by assumption) (c2 := 7) (by assumption) (by decide) dX5_cranks_113 ?_
    refine r_iconst (pc := 116) (v := 5) hC dX5_cranks_116 (by decide) ?_
    refine r_dup2 (pc := 117) hC dX5_cranks_117 rfl rfl ?_
    refine r_iald (pc := 118) hC ks (xi_l (k := 5) ls (by decide) (by decide) (by decide)) dX5_cranks_118 ?_
    refine r_aload_n (pc := 119) hC dX5_cranks_119 rfl ?_
    refine g_Model_gone (pc := 120) hC wi_X5_cranks_5 wl_X5_cranks_118 (by assumption) dX5_cranks_120 ?_
    refine r_iadd (pc := 123) hC dX5_cranks_123 ?_
    refine r_iast (pc := 124) hC ks (xi_l (k := 5) ls (by decide) (by decide) (by decide)) dX5_cranks_124 ?_
    rw [hJ]
    refine r_aload_n (pc := 125) hC dX5_cranks_125 rfl ?_
    refine g_Model_gone (pc := 126) hC wi_X5_cranks_5 wl_X5_cranks_118 (by assumption) dX5_cranks_126 ?_
    refine r_iload_n (pc := 129) hC dX5_cranks_129 rfl ?_
    refine r_iload_n (pc := 130) hC dX5_cranks_130 rfl ?_
    refine r_imul (pc := 131) hC dX5_cranks_131 ?_
    rw [hrb, e11x]
    refine r_icmp_ne (pc := 132) (tgt := 139) hC dX5_cranks_132 (by decide) (fun bq132 => ?_) (fun bq132 => ?_)
    · skip
      refine r_aload_n (pc := 139) hC dX5_cranks_139 rfl ?_
      refine r_aload_n (pc := 140) hC dX5_cranks_140 rfl ?_
      refine g_Model_s (pc := 141) hC wi_X5_cranks_5 wl_X5_cranks_7 (by assumption) (c2 := 7) (by assumption) (by decide) dX5_cranks_141 ?_
      refine r_iconst (pc := 144) (v := 1) hC dX5_cranks_144 (by decide) ?_
      refine r_iald (pc := 145) hC ks (xi_l (k := 1) ls (by decide) (by decide) (by decide)) dX5_cranks_145 ?_
      refine r_iload_n (pc := 146) hC dX5_cranks_146 rfl ?_
      refine r_iadd (pc := 147) hC dX5_cranks_147 ?_
      refine k_X5_isRow (pc := 148) hC gX5_cranks_X5_isRow ⟨Nat.le_of_ble_eq_true rfl, Nat.le_of_ble_eq_true rfl⟩ km (by assumption) (by assumption) (Nat.le_of_ble_eq_true rfl) rfl ⟨Nat.zero_le _, Nat.zero_le _⟩ dX5_cranks_148 ?_
      rw [e1x, e0x, xby_end hr hn20]
      refine r_if_eq (pc := 151) (tgt := 158) hC dX5_cranks_151 (by decide) (fun bq151 => ?_) (fun bq151 => ?_)
      · skip
        refine r_iconst (pc := 158) (v := 1) hC dX5_cranks_158 (by decide) ?_
        refine r_iret (pc := 159) hC hD rfl dX5_cranks_159 rfl ?_
        rw [hst]
        have hgw2 : g ≠ w := fun e => bq132 (by rw [e])
        have hen : isEndS n up (rowAt a up g) = true := by
          cases hE : isEndS n up (rowAt a up g)
          · rw [hE] at bq151; cases bq151
          · rfl
        exact ⟨by rw [whyS, if_neg hgw2, hen]; rfl, rfl, hfin, rfl⟩
      · skip
        refine r_iconst (pc := 154) (v := 2) hC dX5_cranks_154 (by decide) ?_
        refine r_goto (pc := 155) (tgt := 159) hC dX5_cranks_155 (by decide) ?_
        refine r_iret (pc := 159) hC hD rfl dX5_cranks_159 rfl ?_
        rw [hst]
        have hgw2 : g ≠ w := fun e => bq132 (by rw [e])
        have hen : isEndS n up (rowAt a up g) = false := by
          cases hE : isEndS n up (rowAt a up g)
          · rfl
          · rw [hE] at bq151; exact absurd rfl bq151
        exact ⟨by rw [whyS, if_neg hgw2, hen]; rfl, rfl, hfin, rfl⟩
    · skip
      refine r_iconst (pc := 135) (v := 0) hC dX5_cranks_135 (by decide) ?_
      refine r_goto (pc := 136) (tgt := 159) hC dX5_cranks_136 (by decide) ?_
      refine r_iret (pc := 159) hC hD rfl dX5_cranks_159 rfl ?_
      rw [hst]
      have hgw2 : g = w := (nI_eq (by omega) (by omega)).mp bq132
      exact ⟨by rw [whyS, if_pos hgw2], rfl, hfin, rfl⟩
  have loop : ∀ (q g : Nat), g + q = w → rowAt a up g < n → (up = true ∨ g ≤ a) → (∀ i, i < g → stopS (I (P m 0)) n a up i = false) → xg X G (0, 0) μ (crI m (P m 0) a up v I g) P [some (.ref (xZ G + m)), some (.int rows), some (.int v), some (.int (xby up)), some (.int (heldS (I (P m 0)) a up g))] 23 [] := by
    intro q
    induction q with
    | zero =>
      intro g hg hr hd hno
      have hgw : g = w := by omega
      have eS : (crI m (P m 0) a up v I g) (P m 0) = crS (I (P m 0)) a up v g := by funext k; simp [crI]
      have e0 : (crI m (P m 0) a up v I g) (P m 0) 0 = nI n := by rw [eS, crS_small (by decide) (by decide), hn]
      have e1 : (crI m (P m 0) a up v I g) (P m 0) 1 = nI (rowAt a up g) := by rw [eS, crS_1 ha]
      have e4 : (crI m (P m 0) a up v I g) (P m 0) 4 = I (P m 0) 4 := by rw [eS, crS_small (by decide) (by decide)]
      have e5 : (crI m (P m 0) a up v I g) (P m 0) 5 = I (P m 0) 5 := by rw [eS, crS_small (by decide) (by decide)]
      have e11 : (crI m (P m 0) a up v I g) m 11 = nI g := by simp [crI, hms]
      have e12 : (crI m (P m 0) a up v I g) m 12 = crT (I (P m 0)) a up v g := by simp [crI, hms]
      refine r_aload_n (pc := 23) hC dX5_cranks_23 rfl ?_
      refine g_Model_gone (pc := 24) hC wi_X5_cranks_5 wl_X5_cranks_118 (by assumption) dX5_cranks_24 ?_
      refine r_iload_n (pc := 27) hC dX5_cranks_27 rfl ?_
      refine r_iload_n (pc := 28) hC dX5_cranks_28 rfl ?_
      refine r_imul (pc := 29) hC dX5_cranks_29 ?_
      rw [e11, hrb]
      refine r_icmp_eq (pc := 30) (tgt := 99) hC dX5_cranks_30 (by decide) (fun bq30 => ?_) (fun bq30 => ?_)
      · skip
        exact fin g _ hr (by omega) hno (Or.inl hgw)
      · skip
        exact absurd (by rw [hgw]) bq30
    | succ q ih =>
      intro g hg hr hd hno
      have eS : (crI m (P m 0) a up v I g) (P m 0) = crS (I (P m 0)) a up v g := by funext k; simp [crI]
      have e0 : (crI m (P m 0) a up v I g) (P m 0) 0 = nI n := by rw [eS, crS_small (by decide) (by decide), hn]
      have e1 : (crI m (P m 0) a up v I g) (P m 0) 1 = nI (rowAt a up g) := by rw [eS, crS_1 ha]
      have e4 : (crI m (P m 0) a up v I g) (P m 0) 4 = I (P m 0) 4 := by rw [eS, crS_small (by decide) (by decide)]
      have e5 : (crI m (P m 0) a up v I g) (P m 0) 5 = I (P m 0) 5 := by rw [eS, crS_small (by decide) (by decide)]
      have e11 : (crI m (P m 0) a up v I g) m 11 = nI g := by simp [crI, hms]
      have e12 : (crI m (P m 0) a up v I g) m 12 = crT (I (P m 0)) a up v g := by simp [crI, hms]
      refine r_aload_n (pc := 23) hC dX5_cranks_23 rfl ?_
      refine g_Model_gone (pc := 24) hC wi_X5_cranks_5 wl_X5_cranks_118 (by assumption) dX5_cranks_24 ?_
      refine r_iload_n (pc := 27) hC dX5_cranks_27 rfl ?_
      refine r_iload_n (pc := 28) hC dX5_cranks_28 rfl ?_
      refine r_imul (pc := 29) hC dX5_cranks_29 ?_
      rw [e11, hrb]
      refine r_icmp_eq (pc := 30) (tgt := 99) hC dX5_cranks_30 (by decide) (fun bq30 => ?_) (fun bq30 => ?_)
      · skip
        exact absurd ((nI_eq (by omega) (by omega)).mp bq30) (by omega)
      · skip
        refine r_aload_n (pc := 33) hC dX5_cranks_33 rfl ?_
        refine r_aload_n (pc := 34) hC dX5_cranks_34 rfl ?_
        refine g_Model_s (pc := 35) hC wi_X5_cranks_5 wl_X5_cranks_7 (by assumption) (c2 := 7) (by assumption) (by decide) dX5_cranks_35 ?_
        refine r_iconst (pc := 38) (v := 1) hC dX5_cranks_38 (by decide) ?_
        refine r_iald (pc := 39) hC ks (xi_l (k := 1) ls (by decide) (by decide) (by decide)) dX5_cranks_39 ?_
        refine r_iload_n (pc := 40) hC dX5_cranks_40 rfl ?_
        refine r_iadd (pc := 41) hC dX5_cranks_41 ?_
        refine k_X5_isRow (pc := 42) hC gX5_cranks_X5_isRow ⟨Nat.le_of_ble_eq_true rfl, Nat.le_of_ble_eq_true rfl⟩ km ks ls (Nat.le_of_ble_eq_true rfl) rfl ⟨Nat.zero_le _, Nat.zero_le _⟩ dX5_cranks_42 ?_
        rw [e1, e0, xby_end hr hn20]
        refine r_if_eq (pc := 45) (tgt := 99) hC dX5_cranks_45 (by decide) (fun bq45 => ?_) (fun bq45 => ?_)
        · skip
          have hend : isEndS n up (rowAt a up g) = true := by
            cases hE : isEndS n up (rowAt a up g)
            · rw [hE] at bq45; cases bq45
            · rfl
          exact fin g _ hr (by omega) hno (Or.inr (by simp [stopS, hend]))
        · skip
          refine r_iload (pc := 48) hC dX5_cranks_48 rfl ?_
          refine r_if_ne (pc := 50) (tgt := 99) hC dX5_cranks_50 (by decide) (fun bq50 => ?_) (fun bq50 => ?_)
          · skip
            have hheld : 0 < g ∧ I (P m 0) (13 + 17 * rowAt a up g) = 1 := by
              refine Classical.byContradiction fun hE => bq50 ?_
              unfold heldS; rw [if_neg hE]
            exact fin g _ hr (by omega) hno (Or.inr (by simp [stopS, hheld]))
          · skip
            have hend : isEndS n up (rowAt a up g) = false := by
              cases hE : isEndS n up (rowAt a up g)
              · rfl
              · rw [hE] at bq45; exact absurd rfl bq45
            obtain ⟨f0, f2, f3⟩ := xby_next (a := a) hend hd hr
            have hnx : stopS (I (P m 0)) n a up g = false := by
              cases hE : stopS (I (P m 0)) n a up g
              · rfl
              · rw [stopS, hend] at hE; simp at hE; exact absurd (if_pos hE) (by rw [← heldS]; rw [bq50]; decide)
            refine r_aload_n (pc := 53) hC dX5_cranks_53 rfl ?_
            refine r_aload_n (pc := 54) hC dX5_cranks_54 rfl ?_
            refine g_Model_s (pc := 55) hC wi_X5_cranks_5 wl_X5_cranks_7 (by assumption) (c2 := 7) (by assumption) (by decide) dX5_cranks_55 ?_
            refine r_iconst (pc := 58) (v := 1) hC dX5_cranks_58 (by decide) ?_
            refine r_iald (pc := 59) hC ks (xi_l (k := 1) ls (by decide) (by decide) (by decide)) dX5_cranks_59 ?_
            refine r_iload_n (pc := 60) hC dX5_cranks_60 rfl ?_
            refine k_X5_leaves (pc := 61) hC gX5_cranks_X5_leaves ⟨Nat.le_of_ble_eq_true rfl, Nat.le_of_ble_eq_true rfl⟩ km ks ls e1 (by omega) e11 (by omega) (Nat.le_of_ble_eq_true rfl) rfl ⟨Nat.zero_le _, Nat.zero_le _⟩ dX5_cranks_61 ?_
            have g1 : (if v = 3 ∧ g % 2 = 1 then (crI m (P m 0) a up v I g) else xlv (P m 0) m (rowAt a up g) v (crI m (P m 0) a up v I g)) (P m 0) 1 = nI (rowAt a up g) := by
              split
              · exact e1
              · simp only [xlv]; rw [xu_row (fun e => hms e.symm), xu_ne (Or.inr (by omega)), xu_ne (Or.inr (by omega)), e1]
            have g11 : (if v = 3 ∧ g % 2 = 1 then (crI m (P m 0) a up v I g) else xlv (P m 0) m (rowAt a up g) v (crI m (P m 0) a up v I g)) m 11 = nI g := by
              split
              · exact e11
              · simp only [xlv]; rw [xu_ne (Or.inr (by decide)), xu_row hms, xu_row hms, e11]
            refine r_aload_n (pc := 64) hC dX5_cranks_64 rfl ?_
            refine g_Model_s (pc := 65) hC wi_X5_cranks_5 wl_X5_cranks_7 (by assumption) (c2 := 7) (by assumption) (by decide) dX5_cranks_65 ?_
            refine r_iconst (pc := 68) (v := 1) hC dX5_cranks_68 (by decide) ?_
            refine r_dup2 (pc := 69) hC dX5_cranks_69 rfl rfl ?_
            refine r_iald (pc := 70) hC ks (xi_l (k := 1) ls (by decide) (by decide) (by decide)) dX5_cranks_70 ?_
            refine r_iload_n (pc := 71) hC dX5_cranks_71 rfl ?_
            refine r_iadd (pc := 72) hC dX5_cranks_72 ?_
            rw [g1, f0]
            refine r_iast (pc := 73) hC ks (xi_l (k := 1) ls (by decide) (by decide) (by decide)) dX5_cranks_73 ?_
            have f1 : xu (if v = 3 ∧ g % 2 = 1 then (crI m (P m 0) a up v I g) else xlv (P m 0) m (rowAt a up g) v (crI m (P m 0) a up v I g)) (P m 0) 1 (nI (rowAt a up (g + 1))) (P m 0) 1 = nI (rowAt a up (g + 1)) := xu_at
            refine r_aload_n (pc := 74) hC dX5_cranks_74 rfl ?_
            refine r_aload_n (pc := 75) hC dX5_cranks_75 rfl ?_
            refine g_Model_s (pc := 76) hC wi_X5_cranks_5 wl_X5_cranks_7 (by assumption) (c2 := 7) (by assumption) (by decide) dX5_cranks_76 ?_
            refine r_iconst (pc := 79) (v := 1) hC dX5_cranks_79 (by decide) ?_
            refine r_iald (pc := 80) hC ks (xi_l (k := 1) ls (by decide) (by decide) (by decide)) dX5_cranks_80 ?_
            refine k_X5_isTorn (pc := 81) hC gX5_cranks_X5_isTorn ⟨Nat.le_of_ble_eq_true rfl, Nat.le_of_ble_eq_true rfl⟩ km ks ls f1 (by omega) (Nat.le_of_ble_eq_true rfl) rfl ⟨Nat.zero_le _, Nat.zero_le _⟩ dX5_cranks_81 ?_
            have hh : (if xu (if v = 3 ∧ g % 2 = 1 then (crI m (P m 0) a up v I g) else xlv (P m 0) m (rowAt a up g) v (crI m (P m 0) a up v I g)) (P m 0) 1 (nI (rowAt a up (g + 1))) (P m 0) (13 + 17 * rowAt a up (g + 1)) = 1 then (1 : Int32) else 0) = heldS (I (P m 0)) a up (g + 1) := by
              have e : xu (if v = 3 ∧ g % 2 = 1 then (crI m (P m 0) a up v I g) else xlv (P m 0) m (rowAt a up g) v (crI m (P m 0) a up v I g)) (P m 0) 1 (nI (rowAt a up (g + 1))) (P m 0) (13 + 17 * rowAt a up (g + 1)) = I (P m 0) (13 + 17 * rowAt a up (g + 1)) := by
                have c1 := congrFun (congrFun (crI_succ (a := a) (up := up) (v := v) (I := I) (g := g) hms) (P m 0)) (13 + 17 * rowAt a up (g + 1))
                rw [xu_row (fun e => hms e.symm)] at c1
                rw [c1]
                show (if P m 0 = P m 0 then _ else _) = _
                rw [if_pos rfl, crS_row f3 (by omega) (by omega)]
              rw [e]; simp [heldS]
            rw [hh]
            refine r_istore (pc := 84) (L' := [_, _, _, _, _]) hC dX5_cranks_84 rfl (Nat.le_of_ble_eq_true rfl) rfl ?_
            refine r_aload_n (pc := 86) hC dX5_cranks_86 rfl ?_
            refine r_dup (pc := 87) hC dX5_cranks_87 rfl ?_
            refine g_Model_gone (pc := 88) hC wi_X5_cranks_5 wl_X5_cranks_118 (by assumption) dX5_cranks_88 ?_
            refine r_iconst (pc := 91) (v := 1) hC dX5_cranks_91 (by decide) ?_
            refine r_iadd (pc := 92) hC dX5_cranks_92 ?_
            refine p_Model_gone (pc := 93) hC wi_X5_cranks_5 wl_X5_cranks_118 (by assumption) dX5_cranks_93 ?_
            refine r_goto (pc := 96) (tgt := 23) hC dX5_cranks_96 (by decide) ?_
            rw [show xu (if v = 3 ∧ g % 2 = 1 then (crI m (P m 0) a up v I g) else xlv (P m 0) m (rowAt a up g) v (crI m (P m 0) a up v I g)) (P m 0) 1 (nI (rowAt a up (g + 1))) m 11 = nI g from by rw [xu_row hms, g11], nI_1, crI_succ hms]
            exact ih (g + 1) (by omega) f2 f3 (fun i hi => by rcases Nat.lt_or_ge i g with y | y; exact hno i y; rw [show i = g by omega]; exact hnx)
  refine r_iload_n (pc := 0) hC dX5_cranks_0 rfl ?_
  refine r_if_le (pc := 1) (tgt := 8) hC dX5_cranks_1 (by decide) (fun bq1 => ?_) (fun bq1 => ?_)
  · skip
    refine r_iconst (pc := 8) (v := -1) hC dX5_cranks_8 (by decide) ?_
    refine r_istore_n (pc := 9) (L' := [_, _, _, _, _]) hC dX5_cranks_9 rfl (Nat.le_of_ble_eq_true rfl) rfl ?_
    refine r_aload_n (pc := 10) hC dX5_cranks_10 rfl ?_
    refine r_iconst (pc := 11) (v := 0) hC dX5_cranks_11 (by decide) ?_
    refine p_Model_gone (pc := 12) hC wi_X5_cranks_5 wl_X5_cranks_118 (by assumption) dX5_cranks_12 ?_
    refine r_aload_n (pc := 15) hC dX5_cranks_15 rfl ?_
    refine r_iconst (pc := 16) (v := 0) hC dX5_cranks_16 (by decide) ?_
    refine p_Model_torn (pc := 17) hC wi_X5_cranks_5 wl_X5_cranks_121 (by assumption) dX5_cranks_17 ?_
    refine r_iconst (pc := 20) (v := 0) hC dX5_cranks_20 (by decide) ?_
    refine r_istore (pc := 21) (L' := [_, _, _, _, _]) hC dX5_cranks_21 rfl (Nat.le_of_ble_eq_true rfl) rfl ?_
    have hu : up = false := by
      cases up
      · rfl
      · exfalso; rw [hw] at bq1; exact absurd bq1 (nI_nle (n := w) (by omega) (by omega))
    subst hu
    have z := loop w 0 (by omega) (by simpa [rowAt] using han) (Or.inr (by omega)) (fun i hi => absurd hi (by omega))
    rw [crI_0 hms] at z
    exact z
  · skip
    refine r_iconst (pc := 4) (v := 1) hC dX5_cranks_4 (by decide) ?_
    refine r_goto (pc := 5) (tgt := 9) hC dX5_cranks_5 (by decide) ?_
    refine r_istore_n (pc := 9) (L' := [_, _, _, _, _]) hC dX5_cranks_9 rfl (Nat.le_of_ble_eq_true rfl) rfl ?_
    refine r_aload_n (pc := 10) hC dX5_cranks_10 rfl ?_
    refine r_iconst (pc := 11) (v := 0) hC dX5_cranks_11 (by decide) ?_
    refine p_Model_gone (pc := 12) hC wi_X5_cranks_5 wl_X5_cranks_118 (by assumption) dX5_cranks_12 ?_
    refine r_aload_n (pc := 15) hC dX5_cranks_15 rfl ?_
    refine r_iconst (pc := 16) (v := 0) hC dX5_cranks_16 (by decide) ?_
    refine p_Model_torn (pc := 17) hC wi_X5_cranks_5 wl_X5_cranks_121 (by assumption) dX5_cranks_17 ?_
    refine r_iconst (pc := 20) (v := 0) hC dX5_cranks_20 (by decide) ?_
    refine r_istore (pc := 21) (L' := [_, _, _, _, _]) hC dX5_cranks_21 rfl (Nat.le_of_ble_eq_true rfl) rfl ?_
    have hu : up = true := by
      cases up
      · exfalso; rw [hw] at bq1; exact bq1 (xneg_le hw20)
      · rfl
    subst hu
    have z := loop w 0 (by omega) (by simpa [rowAt] using han) (Or.inr (by omega)) (fun i hi => absurd hi (by omega))
    rw [crI_0 hms] at z
    exact z
theorem k_X5_cranks {X : xF} {G : xG} {cs : Nat × Nat} {μ : xM} {I : xI} {P : xP} {L : List (Option Value)} {pc : Nat} {rest : List Value} {cc : ByteArray} {Ts : List Cond} {own : String} {nL : Nat} {R : Room} (hC : xC X G cc Ts own nL R) {index : Nat} (hG : GoodIn Ts (wsV own index RX5 yX5_cranks wsX5_cranks)) (hR : rm_X5_cranks.frames + 1 ≤ R.frames ∧ 8 + (5 + 11) + rm_X5_cranks.locals ≤ R.locals) {m a w n : Nat} {up : Bool} {rows v : Int32} (km : μ.2.1 m = 6) (ks : μ.2.1 (P m 0) = 7) (ls : μ.2.2 (P m 0) = 369) (ha : I (P m 0) 1 = nI a) (hn : I (P m 0) 0 = nI n) (han : a < n) (hn20 : n ≤ 20) (hw : rows = if up then nI w else -nI w) (hw1 : 1 ≤ w) (hw20 : w ≤ 20) (hW : (rest.map fun v => v.category).sum ≤ 8) (hL : L.length = nL) (hcs : cs.1 ≤ R.cells ∧ cs.2 ≤ R.slots) (hdec : decode cc pc = .ok (.invokevirtual index, 3)) (kk : xg X G cs μ (crF m (P m 0) a up v I (stepsS (I (P m 0)) n a up w)) P L (pc + 3) (.int (whyS n a up w (stepsS (I (P m 0)) n a up w)) :: rest)) : xg X G cs μ I P L pc (.int v :: .int rows :: .ref (xZ G + m) :: rest) :=
  r_callV hC (c_X5_cranks X.2.1 km ks ls ha hn han hn20 hw hw1 hw20) hG rfl rfl rfl hd_X5_cranks hR (by rw [km]; decide) (xe_Model km) rfl rfl rfl hW hL hcs hdec (by rintro v μ' I' P' ⟨rfl, rfl, rfl, rfl⟩; exact kk)
