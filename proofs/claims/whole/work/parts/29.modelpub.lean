abbrev rm_X5_cut : Room := { frames := 1, cells := 0, slots := 0, locals := 22 }
theorem wl_X5_cut_7 : Cond.fieldLink RX5 7 "HandBlindsModel" "s" "[I" ∈ wsX5_cut := List.mem_of_getElem? (i := 2) (by decide +kernel)
theorem wi_X5_cut_5 : ∀ w ∈ wsX50, w ∈ wsX5_cut := fun _ h => List.mem_cons_of_mem _ (List.mem_append_right _ h)
theorem wl_X5_cut_92 : Cond.constant RX5 92 (-1000001) ∈ wsX5_cut := List.mem_of_getElem? (i := 1) (by decide +kernel)
theorem hd_X5_cut : yX5_cut.cls = RX5 ∧ yX5_cut.cls ≠ "java/lang/invoke/MethodHandle" ∧ yX5_cut.cls ≠ "java/lang/invoke/VarHandle" ∧ (parseMethodDescriptor yX5_cut.desc).map (fun d => d.parameters.length) = some 1 := ⟨rfl, by decide +kernel, by decide +kernel, by decide +kernel⟩
set_option maxHeartbeats 4000000 in
set_option maxRecDepth 100000 in
theorem c_X5_cut (l : Launch) {G : xG} {μ : xM} {I : xI} {P : xP} {m h n q : Nat} {r : Int32} (km : μ.2.1 m = 6) (ks : μ.2.1 (P m 0) = 7) (ls : μ.2.2 (P m 0) = 369) (kp : μ.2.1 (P m 1) = 7) (lp : μ.2.2 (P m 1) = 1476) (hsp : P m 0 ≠ P m 1) (hh : I m 3 = nI h) (hh4 : h ≤ 4) (hinv : invN (I (P m 0)) n q) : Ct l yX5_cut wsX5_cut rm_X5_cut G μ I P [.ref (xZ G + m), .int r] 0 0 (fun vv μ' I' P' => vv = some (.int (aCut (I (P m 0)) r)) ∧ μ' = μ ∧ P' = P ∧ mQ m (P m 0) (P m 1) (P m 2) I (if okRow (I (P m 0)) r then (xchg m (P m 0) (P m 1) h I) else I) I' (sCut (I (P m 0)) r)) := by
  obtain ⟨hn20, hn, hq6, hq, hsh, hdr, h8r, h9r, h10r, hrows⟩ := id hinv
  have hmp : m ≠ P m 1 := fun e => by rw [← e, km] at kp; cases kp
  have hms : m ≠ P m 0 := fun e => by rw [← e, km] at ks; cases ks
  have cS : xchg m (P m 0) (P m 1) h I (P m 0) = I (P m 0) := xchg_s hsp (Ne.symm hms)
  have cQ := @mQ_chg m (P m 0) (P m 1) (P m 2) h I
  refine Ct.of (cc := cX5_cut) (maxL := 3) (ret := (some .int)) [some (.ref (xZ G + m)), some (.int r), none] (by decide) rfl rfl rfl (Nat.le_of_ble_eq_true rfl) ?_
  intro X hC hD h0 _
  refine r_aload_n (pc := 0) hC dX5_cut_0 rfl ?_
  refine r_iload_n (pc := 1) hC dX5_cut_1 rfl ?_
  refine k_X5_isRow (pc := 2) hC gX5_cut_X5_isRow ⟨Nat.le_of_ble_eq_true rfl, Nat.le_of_ble_eq_true rfl⟩ (by assumption) (by assumption) (by assumption) (Nat.le_of_ble_eq_true rfl) rfl ⟨Nat.zero_le _, Nat.zero_le _⟩ dX5_cut_2 ?_
  refine r_if_ne (pc := 5) (tgt := 11) hC dX5_cut_5 (by decide) (fun bq5 => ?_) (fun bq5 => ?_)
  · skip
    obtain ⟨k, hk, rfl⟩ := isR_of bq5 hn (by omega)
    have hkc : (nI k).toNatClampNeg = k := nI_clamp (by omega)
    have j10 : ∀ j, (xmp (P m 0) (rngB (11 + 17 * k) j) (fun i => (I (P m 0)) (i + 17)) (xu (xchg m (P m 0) (P m 1) h I) (P m 0) 0 (nI (n - 1)))) (P m 0) 0 = nI (n - 1) := fun j => by rw [xmp_n (rngB_f (by omega))]; exact xu_at
    have j11 : ∀ j, (xmp (P m 0) (rngB (11 + 17 * k) j) (fun i => (I (P m 0)) (i + 17)) (xu (xchg m (P m 0) (P m 1) h I) (P m 0) 0 (nI (n - 1)))) (P m 0) 1 = (I (P m 0)) 1 := fun j => by rw [xmp_n (rngB_f (by omega)), xu_ne (Or.inr (by decide)), cS]
    have j12 : ∀ j, (xmp (P m 0) (rngB (11 + 17 * k) j) (fun i => (I (P m 0)) (i + 17)) (xu (xchg m (P m 0) (P m 1) h I) (P m 0) 0 (nI (n - 1)))) (P m 0) 2 = nI q := fun j => by rw [xmp_n (rngB_f (by omega)), xu_ne (Or.inr (by decide)), cS, hq]
    have j13 : ∀ j i, 11 + 17 * k + j ≤ i → (xmp (P m 0) (rngB (11 + 17 * k) j) (fun i => (I (P m 0)) (i + 17)) (xu (xchg m (P m 0) (P m 1) h I) (P m 0) 0 (nI (n - 1)))) (P m 0) i = (I (P m 0)) i := fun j i hi => by rw [xmp_n (rngB_f (by omega)), xu_ne (Or.inr (by omega)), cS]
    have j20 : ∀ j, (xmp (P m 0) (rouB j) (fun i => woS ((I (P m 0)) i) (nI k)) (xmp (P m 0) (rngB (11 + 17 * k) (17 * (n - 1 - k))) (fun i => (I (P m 0)) (i + 17)) (xu (xchg m (P m 0) (P m 1) h I) (P m 0) 0 (nI (n - 1))))) (P m 0) 0 = nI (n - 1) := fun j => by rw [xmp_n (rouB_f (by omega)), j10]
    have j21 : ∀ j, (xmp (P m 0) (rouB j) (fun i => woS ((I (P m 0)) i) (nI k)) (xmp (P m 0) (rngB (11 + 17 * k) (17 * (n - 1 - k))) (fun i => (I (P m 0)) (i + 17)) (xu (xchg m (P m 0) (P m 1) h I) (P m 0) 0 (nI (n - 1))))) (P m 0) 1 = (I (P m 0)) 1 := fun j => by rw [xmp_n (rouB_f (by omega)), j11]
    have j22 : ∀ j, (xmp (P m 0) (rouB j) (fun i => woS ((I (P m 0)) i) (nI k)) (xmp (P m 0) (rngB (11 + 17 * k) (17 * (n - 1 - k))) (fun i => (I (P m 0)) (i + 17)) (xu (xchg m (P m 0) (P m 1) h I) (P m 0) 0 (nI (n - 1))))) (P m 0) 2 = nI q := fun j => by rw [xmp_n (rouB_f (by omega)), j12]
    have jo : ∀ b, b ≠ (P m 0) → (xmp (P m 0) (rouB q) (fun i => woS ((I (P m 0)) i) (nI k)) (xmp (P m 0) (rngB (11 + 17 * k) (17 * (n - 1 - k))) (fun i => (I (P m 0)) (i + 17)) (xu (xchg m (P m 0) (P m 1) h I) (P m 0) 0 (nI (n - 1))))) b = (xchg m (P m 0) (P m 1) h I) b := fun b hb => by rw [xmp_o hb, xmp_o hb, xu_row hb]
    have loop2 : ∀ (p j : Nat), j + p = q → xg X G (0, 0) μ (xmp (P m 0) (rouB j) (fun i => woS ((I (P m 0)) i) (nI k)) (xmp (P m 0) (rngB (11 + 17 * k) (17 * (n - 1 - k))) (fun i => (I (P m 0)) (i + 17)) (xu (xchg m (P m 0) (P m 1) h I) (P m 0) 0 (nI (n - 1))))) P [some (.ref (xZ G + m)), some (.int (nI k)), some (.int (nI j))] 72 [] := by
      intro p
      induction p with
      | zero =>
        intro j hj
        have ej : q = j := by omega
        subst ej
        refine r_iload_n (pc := 72) hC dX5_cut_72 rfl ?_
        refine r_aload_n (pc := 73) hC dX5_cut_73 rfl ?_
        refine g_Model_s (pc := 74) hC wi_X5_cut_5 wl_X5_cut_7 (by assumption) (c2 := 7) (by assumption) (by decide) dX5_cut_74 ?_
        refine r_iconst (pc := 77) (v := 2) hC dX5_cut_77 (by decide) ?_
        refine r_iald (pc := 78) hC ks (xi_l (k := 2) ls (by decide) (by decide) (by decide)) dX5_cut_78 ?_
        rw [j22]
        refine r_icmp_ge (pc := 79) (tgt := 112) hC dX5_cut_79 (by decide) (fun bq79 => ?_) (fun bq79 => ?_)
        · skip
          refine r_aload_n (pc := 112) hC dX5_cut_112 rfl ?_
          refine g_Model_s (pc := 113) hC wi_X5_cut_5 wl_X5_cut_7 (by assumption) (c2 := 7) (by assumption) (by decide) dX5_cut_113 ?_
          refine r_iconst (pc := 116) (v := 1) hC dX5_cut_116 (by decide) ?_
          refine r_dup2 (pc := 117) hC dX5_cut_117 rfl rfl ?_
          refine r_iald (pc := 118) hC ks (xi_l (k := 1) ls (by decide) (by decide) (by decide)) dX5_cut_118 ?_
          rw [j21]
          refine r_aload_n (pc := 119) hC dX5_cut_119 rfl ?_
          refine g_Model_s (pc := 120) hC wi_X5_cut_5 wl_X5_cut_7 (by assumption) (c2 := 7) (by assumption) (by decide) dX5_cut_120 ?_
          refine r_iconst (pc := 123) (v := 1) hC dX5_cut_123 (by decide) ?_
          refine r_iald (pc := 124) hC ks (xi_l (k := 1) ls (by decide) (by decide) (by decide)) dX5_cut_124 ?_
          refine r_iload_n (pc := 125) hC dX5_cut_125 rfl ?_
          rw [j21]
          refine r_icmp_gt (pc := 126) (tgt := 144) hC dX5_cut_126 (by decide) (fun bq126 => ?_) (fun bq126 => ?_)
          · skip
            refine r_iconst (pc := 144) (v := 1) hC dX5_cut_144 (by decide) ?_
            refine r_goto (pc := 145) (tgt := 149) hC dX5_cut_145 (by decide) ?_
            refine r_isub (pc := 149) hC dX5_cut_149 ?_
            refine r_iast (pc := 150) hC ks (xi_l (k := 1) ls (by decide) (by decide) (by decide)) dX5_cut_150 ?_
            refine r_aload_n (pc := 151) hC dX5_cut_151 rfl ?_
            refine g_Model_s (pc := 152) hC wi_X5_cut_5 wl_X5_cut_7 (by assumption) (c2 := 7) (by assumption) (by decide) dX5_cut_152 ?_
            refine r_iconst (pc := 155) (v := 1) hC dX5_cut_155 (by decide) ?_
            refine r_iald (pc := 156) hC ks (xi_l (k := 1) ls (by decide) (by decide) (by decide)) dX5_cut_156 ?_
            rw [xu_at]
            refine r_iret (pc := 157) hC hD rfl dX5_cut_157 rfl ?_
            have e0 : cutZ (I (P m 0)) k n = 1 := by rw [cutZ, if_pos bq126]
            have e1 : okRow (I (P m 0)) (nI k) = true := by simp [okRow, bq5]
            refine ⟨by rw [aCut, if_neg bq5, hkc, show cN (I (P m 0)) = n from by rw [cN, hn, nI_clamp (by omega)], e0], rfl, rfl, ?_⟩
            rw [e1, if_pos rfl, show sCut (I (P m 0)) (nI k) = cutS (I (P m 0)) k n q from by rw [sCut, e1, if_pos rfl, hkc, show cN (I (P m 0)) = n from by rw [cN, hn, nI_clamp (by omega)], show cQn (I (P m 0)) = q from by rw [cQn, hq, nI_clamp (by omega)]]]
            refine cQ hmp hms hsp ?_ (fun b hb => by rw [xu_row hb, jo b hb])
            funext i
            by_cases h1 : i = 1
            · subst h1; rw [xu_at, cutS, if_pos rfl, e0]
            · rw [xu_ne (Or.inr h1), cutS, if_neg h1]
              simp only [xmp, true_and]
              split
              · rfl
              · split
                · rfl
                · by_cases h0 : i = 0
                  · subst h0; rw [if_pos rfl]; exact xu_at
                  · rw [if_neg h0, xu_ne (Or.inr h0), cS]
          · skip
            refine r_aload_n (pc := 129) hC dX5_cut_129 rfl ?_
            refine g_Model_s (pc := 130) hC wi_X5_cut_5 wl_X5_cut_7 (by assumption) (c2 := 7) (by assumption) (by decide) dX5_cut_130 ?_
            refine r_iconst (pc := 133) (v := 1) hC dX5_cut_133 (by decide) ?_
            refine r_iald (pc := 134) hC ks (xi_l (k := 1) ls (by decide) (by decide) (by decide)) dX5_cut_134 ?_
            refine r_aload_n (pc := 135) hC dX5_cut_135 rfl ?_
            refine g_Model_s (pc := 136) hC wi_X5_cut_5 wl_X5_cut_7 (by assumption) (c2 := 7) (by assumption) (by decide) dX5_cut_136 ?_
            refine r_iconst (pc := 139) (v := 0) hC dX5_cut_139 (by decide) ?_
            refine r_iald (pc := 140) hC ks (xi_l (k := 0) ls (by decide) (by decide) (by decide)) dX5_cut_140 ?_
            rw [j21, j20]
            refine r_icmp_ne (pc := 141) (tgt := 148) hC dX5_cut_141 (by decide) (fun bq141 => ?_) (fun bq141 => ?_)
            · skip
              refine r_iconst (pc := 148) (v := 0) hC dX5_cut_148 (by decide) ?_
              refine r_isub (pc := 149) hC dX5_cut_149 ?_
              refine r_iast (pc := 150) hC ks (xi_l (k := 1) ls (by decide) (by decide) (by decide)) dX5_cut_150 ?_
              refine r_aload_n (pc := 151) hC dX5_cut_151 rfl ?_
              refine g_Model_s (pc := 152) hC wi_X5_cut_5 wl_X5_cut_7 (by assumption) (c2 := 7) (by assumption) (by decide) dX5_cut_152 ?_
              refine r_iconst (pc := 155) (v := 1) hC dX5_cut_155 (by decide) ?_
              refine r_iald (pc := 156) hC ks (xi_l (k := 1) ls (by decide) (by decide) (by decide)) dX5_cut_156 ?_
              rw [xu_at]
              refine r_iret (pc := 157) hC hD rfl dX5_cut_157 rfl ?_
              have e0 : cutZ (I (P m 0)) k n = 0 := by rw [cutZ, if_neg bq126, if_neg bq141]
              have e1 : okRow (I (P m 0)) (nI k) = true := by simp [okRow, bq5]
              refine ⟨by rw [aCut, if_neg bq5, hkc, show cN (I (P m 0)) = n from by rw [cN, hn, nI_clamp (by omega)], e0], rfl, rfl, ?_⟩
              rw [e1, if_pos rfl, show sCut (I (P m 0)) (nI k) = cutS (I (P m 0)) k n q from by rw [sCut, e1, if_pos rfl, hkc, show cN (I (P m 0)) = n from by rw [cN, hn, nI_clamp (by omega)], show cQn (I (P m 0)) = q from by rw [cQn, hq, nI_clamp (by omega)]]]
              refine cQ hmp hms hsp ?_ (fun b hb => by rw [xu_row hb, jo b hb])
              funext i
              by_cases h1 : i = 1
              · subst h1; rw [xu_at, cutS, if_pos rfl, e0]
              · rw [xu_ne (Or.inr h1), cutS, if_neg h1]
                simp only [xmp, true_and]
                split
                · rfl
                · split
                  · rfl
                  · by_cases h0 : i = 0
                    · subst h0; rw [if_pos rfl]; exact xu_at
                    · rw [if_neg h0, xu_ne (Or.inr h0), cS]
            · skip
              refine r_iconst (pc := 144) (v := 1) hC dX5_cut_144 (by decide) ?_
              refine r_goto (pc := 145) (tgt := 149) hC dX5_cut_145 (by decide) ?_
              refine r_isub (pc := 149) hC dX5_cut_149 ?_
              refine r_iast (pc := 150) hC ks (xi_l (k := 1) ls (by decide) (by decide) (by decide)) dX5_cut_150 ?_
              refine r_aload_n (pc := 151) hC dX5_cut_151 rfl ?_
              refine g_Model_s (pc := 152) hC wi_X5_cut_5 wl_X5_cut_7 (by assumption) (c2 := 7) (by assumption) (by decide) dX5_cut_152 ?_
              refine r_iconst (pc := 155) (v := 1) hC dX5_cut_155 (by decide) ?_
              refine r_iald (pc := 156) hC ks (xi_l (k := 1) ls (by decide) (by decide) (by decide)) dX5_cut_156 ?_
              rw [xu_at]
              refine r_iret (pc := 157) hC hD rfl dX5_cut_157 rfl ?_
              have e0 : cutZ (I (P m 0)) k n = 1 := by rw [cutZ, if_neg bq126, if_pos bq141]
              have e1 : okRow (I (P m 0)) (nI k) = true := by simp [okRow, bq5]
              refine ⟨by rw [aCut, if_neg bq5, hkc, show cN (I (P m 0)) = n from by rw [cN, hn, nI_clamp (by omega)], e0], rfl, rfl, ?_⟩
              rw [e1, if_pos rfl, show sCut (I (P m 0)) (nI k) = cutS (I (P m 0)) k n q from by rw [sCut, e1, if_pos rfl, hkc, show cN (I (P m 0)) = n from by rw [cN, hn, nI_clamp (by omega)], show cQn (I (P m 0)) = q from by rw [cQn, hq, nI_clamp (by omega)]]]
              refine cQ hmp hms hsp ?_ (fun b hb => by rw [xu_row hb, jo b hb])
              funext i
              by_cases h1 : i = 1
              · subst h1; rw [xu_at, cutS, if_pos rfl, e0]
              · rw [xu_ne (Or.inr h1), cutS, if_neg h1]
                simp only [xmp, true_and]
                split
                · rfl
                · split
                  · rfl
                  · by_cases h0 : i = 0
                    · subst h0; rw [if_pos rfl]; exact xu_at
                    · rw [if_neg h0, xu_ne (Or.inr h0), cS]
        · skip
          exact absurd (nI_le (by omega) (by omega)) bq79
      | succ p ih =>
        intro j hj
        refine r_iload_n (pc := 72) hC dX5_cut_72 rfl ?_
        refine r_aload_n (pc := 73) hC dX5_cut_73 rfl ?_
        refine g_Model_s (pc := 74) hC wi_X5_cut_5 wl_X5_cut_7 (by assumption) (c2 := 7) (by assumption) (by decide) dX5_cut_74 ?_
        refine r_iconst (pc := 77) (v := 2) hC dX5_cut_77 (by decide) ?_
        refine r_iald (pc := 78) hC ks (xi_l (k := 2) ls (by decide) (by decide) (by decide)) dX5_cut_78 ?_
        rw [j22]
        refine r_icmp_ge (pc := 79) (tgt := 112) hC dX5_cut_79 (by decide) (fun bq79 => ?_) (fun bq79 => ?_)
        · skip
          exact absurd bq79 (nI_ge (by omega) (by omega))
        · skip
          refine r_aload_n (pc := 82) hC dX5_cut_82 rfl ?_
          refine g_Model_s (pc := 83) hC wi_X5_cut_5 wl_X5_cut_7 (by assumption) (c2 := 7) (by assumption) (by decide) dX5_cut_83 ?_
          refine r_sipush (pc := 86) (v := 351) hC dX5_cut_86 (by decide) ?_
          refine r_iconst (pc := 89) (v := 3) hC dX5_cut_89 (by decide) ?_
          refine r_iload_n (pc := 90) hC dX5_cut_90 rfl ?_
          refine r_imul (pc := 91) hC dX5_cut_91 ?_
          refine r_iadd (pc := 92) hC dX5_cut_92 ?_
          refine r_iconst (pc := 93) (v := 0) hC dX5_cut_93 (by decide) ?_
          refine r_iadd (pc := 94) hC dX5_cut_94 ?_
          refine r_aload_n (pc := 95) hC dX5_cut_95 rfl ?_
          refine r_iload_n (pc := 96) hC dX5_cut_96 rfl ?_
          refine r_iconst (pc := 97) (v := 0) hC dX5_cut_97 (by decide) ?_
          refine k_X5_ofRoute (pc := 98) hC gX5_cut_X5_ofRoute ⟨Nat.le_of_ble_eq_true rfl, Nat.le_of_ble_eq_true rfl⟩ (k := 351 + 3 * j) km ks ls (by simp only [xlit, nI_add, pk_mul] <;> exact congrArg nI (by omega)) (by omega) (Nat.le_of_ble_eq_true rfl) rfl ⟨Nat.zero_le _, Nat.zero_le _⟩ dX5_cut_98 ?_
          rw [show (xmp (P m 0) (rouB j) (fun i => woS ((I (P m 0)) i) (nI k)) (xmp (P m 0) (rngB (11 + 17 * k) (17 * (n - 1 - k))) (fun i => (I (P m 0)) (i + 17)) (xu (xchg m (P m 0) (P m 1) h I) (P m 0) 0 (nI (n - 1))))) (P m 0) (351 + 3 * j) = (I (P m 0)) (351 + 3 * j) from by rw [xmp_n (rouB_f (by omega)), j13 _ _ (by omega)]]
          refine r_iload_n (pc := 101) hC dX5_cut_101 rfl ?_
          refine k_X5_without (pc := 102) hC gX5_cut_X5_without ⟨Nat.le_of_ble_eq_true rfl, Nat.le_of_ble_eq_true rfl⟩  (Nat.le_of_ble_eq_true rfl) rfl ⟨Nat.zero_le _, Nat.zero_le _⟩ dX5_cut_102 ?_
          refine r_iast (pc := 105) hC ks (xi_e (k := 351 + 3 * j) (by simp only [xlit, nI_add, pk_mul] <;> exact congrArg nI (by omega)) ls (by omega) (by decide)) dX5_cut_105 ?_
          refine r_iinc (pc := 106) (v := 1) (L' := [_, _, _]) hC dX5_cut_106 rfl (by decide) rfl rfl ?_
          refine r_goto (pc := 109) (tgt := 72) hC dX5_cut_109 (by decide) ?_
          rw [xmp_step (k := 351 + 3 * j) (c' := rouB (j + 1)) (fun i => rouB_s) rfl, nI_1]
          exact ih (j + 1) (by omega)
    have loop1 : ∀ (p j : Nat), j + p = (17 * (n - 1 - k)) → xg X G (0, 0) μ (xmp (P m 0) (rngB (11 + 17 * k) j) (fun i => (I (P m 0)) (i + 17)) (xu (xchg m (P m 0) (P m 1) h I) (P m 0) 0 (nI (n - 1)))) P [some (.ref (xZ G + m)), some (.int (nI k)), some (.int (nI (11 + 17 * k + j)))] 33 [] := by
      intro p
      induction p with
      | zero =>
        intro j hj
        have ej : j = (17 * (n - 1 - k)) := by omega
        refine r_iload_n (pc := 33) hC dX5_cut_33 rfl ?_
        refine r_bipush (pc := 34) (v := 11) hC dX5_cut_34 (by decide) ?_
        refine r_bipush (pc := 36) (v := 17) hC dX5_cut_36 (by decide) ?_
        refine r_aload_n (pc := 38) hC dX5_cut_38 rfl ?_
        refine g_Model_s (pc := 39) hC wi_X5_cut_5 wl_X5_cut_7 (by assumption) (c2 := 7) (by assumption) (by decide) dX5_cut_39 ?_
        refine r_iconst (pc := 42) (v := 0) hC dX5_cut_42 (by decide) ?_
        refine r_iald (pc := 43) hC ks (xi_l (k := 0) ls (by decide) (by decide) (by decide)) dX5_cut_43 ?_
        rw [j10]
        refine r_imul (pc := 44) hC dX5_cut_44 ?_
        refine r_iadd (pc := 45) hC dX5_cut_45 ?_
        rw [show (11 : Int32) + 17 * nI (n - 1) = nI (11 + 17 * (n - 1)) from by simp only [xlit, nI_add, pk_mul]]
        refine r_icmp_ge (pc := 46) (tgt := 70) hC dX5_cut_46 (by decide) (fun bq46 => ?_) (fun bq46 => ?_)
        · skip
          refine r_iconst (pc := 70) (v := 0) hC dX5_cut_70 (by decide) ?_
          refine r_istore_n (pc := 71) (L' := [_, _, _]) hC dX5_cut_71 rfl (Nat.le_of_ble_eq_true rfl) rfl ?_
          rw [ej]
          have z := loop2 q 0 (by omega)
          rw [xmp_0 (fun i => rouB_0)] at z; exact z
        · skip
          exact absurd (nI_le (by omega) (by omega)) bq46
      | succ p ih =>
        intro j hj
        refine r_iload_n (pc := 33) hC dX5_cut_33 rfl ?_
        refine r_bipush (pc := 34) (v := 11) hC dX5_cut_34 (by decide) ?_
        refine r_bipush (pc := 36) (v := 17) hC dX5_cut_36 (by decide) ?_
        refine r_aload_n (pc := 38) hC dX5_cut_38 rfl ?_
        refine g_Model_s (pc := 39) hC wi_X5_cut_5 wl_X5_cut_7 (by assumption) (c2 := 7) (by assumption) (by decide) dX5_cut_39 ?_
        refine r_iconst (pc := 42) (v := 0) hC dX5_cut_42 (by decide) ?_
        refine r_iald (pc := 43) hC ks (xi_l (k := 0) ls (by decide) (by decide) (by decide)) dX5_cut_43 ?_
        rw [j10]
        refine r_imul (pc := 44) hC dX5_cut_44 ?_
        refine r_iadd (pc := 45) hC dX5_cut_45 ?_
        rw [show (11 : Int32) + 17 * nI (n - 1) = nI (11 + 17 * (n - 1)) from by simp only [xlit, nI_add, pk_mul]]
        refine r_icmp_ge (pc := 46) (tgt := 70) hC dX5_cut_46 (by decide) (fun bq46 => ?_) (fun bq46 => ?_)
        · skip
          exact absurd bq46 (nI_ge (by omega) (by omega))
        · skip
          refine r_aload_n (pc := 49) hC dX5_cut_49 rfl ?_
          refine g_Model_s (pc := 50) hC wi_X5_cut_5 wl_X5_cut_7 (by assumption) (c2 := 7) (by assumption) (by decide) dX5_cut_50 ?_
          refine r_iload_n (pc := 53) hC dX5_cut_53 rfl ?_
          refine r_aload_n (pc := 54) hC dX5_cut_54 rfl ?_
          refine g_Model_s (pc := 55) hC wi_X5_cut_5 wl_X5_cut_7 (by assumption) (c2 := 7) (by assumption) (by decide) dX5_cut_55 ?_
          refine r_iload_n (pc := 58) hC dX5_cut_58 rfl ?_
          refine r_bipush (pc := 59) (v := 17) hC dX5_cut_59 (by decide) ?_
          refine r_iadd (pc := 61) hC dX5_cut_61 ?_
          refine r_iald (pc := 62) hC ks (xi_e (k := 11 + 17 * k + j + 17) (by simp only [xlit, nI_add]) ls (by omega) (by decide)) dX5_cut_62 ?_
          rw [j13 _ _ (by omega)]
          refine r_iast (pc := 63) hC ks (xi_n (by rw [ls]; omega) (by rw [ls]; decide)) dX5_cut_63 ?_
          refine r_iinc (pc := 64) (v := 1) (L' := [_, _, _]) hC dX5_cut_64 rfl (by decide) rfl rfl ?_
          refine r_goto (pc := 67) (tgt := 33) hC dX5_cut_67 (by decide) ?_
          rw [xmp_step (k := 11 + 17 * k + j) (c' := rngB (11 + 17 * k) (j + 1)) (fun i => rngB_s) rfl, nI_1]
          exact ih (j + 1) (by omega)
    refine r_aload_n (pc := 11) hC dX5_cut_11 rfl ?_
    refine k_X5_changes (pc := 12) hC gX5_cut_X5_changes ⟨Nat.le_of_ble_eq_true rfl, Nat.le_of_ble_eq_true rfl⟩ km ks ls kp lp hsp hh hh4 (Nat.le_of_ble_eq_true rfl) rfl ⟨Nat.zero_le _, Nat.zero_le _⟩ dX5_cut_12 ?_
    refine r_aload_n (pc := 15) hC dX5_cut_15 rfl ?_
    refine g_Model_s (pc := 16) hC wi_X5_cut_5 wl_X5_cut_7 (by assumption) (c2 := 7) (by assumption) (by decide) dX5_cut_16 ?_
    refine r_iconst (pc := 19) (v := 0) hC dX5_cut_19 (by decide) ?_
    refine r_dup2 (pc := 20) hC dX5_cut_20 rfl rfl ?_
    refine r_iald (pc := 21) hC ks (xi_l (k := 0) ls (by decide) (by decide) (by decide)) dX5_cut_21 ?_
    refine r_iconst (pc := 22) (v := 1) hC dX5_cut_22 (by decide) ?_
    refine r_isub (pc := 23) hC dX5_cut_23 ?_
    rw [show (xchg m (P m 0) (P m 1) h I) (P m 0) 0 - 1 = nI (n - 1) from by rw [cS, hn, show n = (n - 1) + 1 by omega]; exact nI_pred _]
    refine r_iast (pc := 24) hC ks (xi_l (k := 0) ls (by decide) (by decide) (by decide)) dX5_cut_24 ?_
    refine r_bipush (pc := 25) (v := 11) hC dX5_cut_25 (by decide) ?_
    refine r_bipush (pc := 27) (v := 17) hC dX5_cut_27 (by decide) ?_
    refine r_iload_n (pc := 29) hC dX5_cut_29 rfl ?_
    refine r_imul (pc := 30) hC dX5_cut_30 ?_
    refine r_iadd (pc := 31) hC dX5_cut_31 ?_
    rw [show (11 : Int32) + 17 * nI k = nI (11 + 17 * k) from by simp only [xlit, nI_add, pk_mul]]
    refine r_istore_n (pc := 32) (L' := [_, _, _]) hC dX5_cut_32 rfl (Nat.le_of_ble_eq_true rfl) rfl ?_
    have z := loop1 (17 * (n - 1 - k)) 0 (by omega)
    rw [xmp_0 (fun i => rngB_0)] at z; exact z
  · skip
    refine r_ldc (pc := 8) (v := -1000001) hC dX5_cut_8 wl_X5_cut_92 ?_
    refine r_iret (pc := 10) hC hD rfl dX5_cut_10 rfl ?_
    have e1 : okRow (I (P m 0)) r = false := by simp [okRow, bq5]
    refine ⟨by rw [aCut, if_pos bq5], rfl, rfl, ?_⟩
    rw [e1, if_neg (by decide), show sCut (I (P m 0)) r = (I (P m 0)) from by rw [sCut, e1, if_neg (by decide)]]
    exact mQ_id
theorem k_X5_cut {X : xF} {G : xG} {cs : Nat × Nat} {μ : xM} {I : xI} {P : xP} {L : List (Option Value)} {pc : Nat} {rest : List Value} {cc : ByteArray} {Ts : List Cond} {own : String} {nL : Nat} {R : Room} (hC : xC X G cc Ts own nL R) {index : Nat} (hG : GoodIn Ts (wsV own index RX5 yX5_cut wsX5_cut)) (hR : rm_X5_cut.frames + 1 ≤ R.frames ∧ 8 + (3 + 11) + rm_X5_cut.locals ≤ R.locals) {m h n q : Nat} {r : Int32} (km : μ.2.1 m = 6) (ks : μ.2.1 (P m 0) = 7) (ls : μ.2.2 (P m 0) = 369) (kp : μ.2.1 (P m 1) = 7) (lp : μ.2.2 (P m 1) = 1476) (hsp : P m 0 ≠ P m 1) (hh : I m 3 = nI h) (hh4 : h ≤ 4) (hinv : invN (I (P m 0)) n q) (hW : (rest.map fun v => v.category).sum ≤ 8) (hL : L.length = nL) (hcs : cs.1 ≤ R.cells ∧ cs.2 ≤ R.slots) (hdec : decode cc pc = .ok (.invokevirtual index, 3)) (kk : ∀ I' : xI, mQ m (P m 0) (P m 1) (P m 2) I (if okRow (I (P m 0)) r then (xchg m (P m 0) (P m 1) h I) else I) I' (sCut (I (P m 0)) r) → xg X G cs μ I' P L (pc + 3) (.int (aCut (I (P m 0)) r) :: rest)) : xg X G cs μ I P L pc (.int r :: .ref (xZ G + m) :: rest) :=
  r_callV hC (c_X5_cut X.2.1 km ks ls kp lp hsp hh hh4 hinv) hG rfl rfl rfl hd_X5_cut hR (by rw [km]; decide) (xe_Model km) rfl rfl rfl hW hL hcs hdec (by rintro vv μ' I' P' ⟨rfl, rfl, rfl, hQ⟩; exact kk I' hQ)
