abbrev rm_X5_swap : Room := { frames := 1, cells := 0, slots := 0, locals := 23 }
theorem wl_X5_swap_7 : Cond.fieldLink RX5 7 "HandBlindsModel" "s" "[I" ∈ wsX5_swap := List.mem_of_getElem? (i := 2) (by decide +kernel)
theorem wi_X5_swap_5 : ∀ w ∈ wsX50, w ∈ wsX5_swap := fun _ h => List.mem_cons_of_mem _ (List.mem_append_right _ h)
theorem wl_X5_swap_92 : Cond.constant RX5 92 (-1000001) ∈ wsX5_swap := List.mem_of_getElem? (i := 1) (by decide +kernel)
theorem hd_X5_swap : yX5_swap.cls = RX5 ∧ yX5_swap.cls ≠ "java/lang/invoke/MethodHandle" ∧ yX5_swap.cls ≠ "java/lang/invoke/VarHandle" ∧ (parseMethodDescriptor yX5_swap.desc).map (fun d => d.parameters.length) = some 2 := ⟨rfl, by decide +kernel, by decide +kernel, by decide +kernel⟩
set_option maxHeartbeats 4000000 in
set_option maxRecDepth 100000 in
theorem c_X5_swap (l : Launch) {G : xG} {μ : xM} {I : xI} {P : xP} {m h n q : Nat} {a b : Int32} (km : μ.2.1 m = 6) (ks : μ.2.1 (P m 0) = 7) (ls : μ.2.2 (P m 0) = 369) (kp : μ.2.1 (P m 1) = 7) (lp : μ.2.2 (P m 1) = 1476) (hsp : P m 0 ≠ P m 1) (hh : I m 3 = nI h) (hh4 : h ≤ 4) (hinv : invN (I (P m 0)) n q) : Ct l yX5_swap wsX5_swap rm_X5_swap G μ I P [.ref (xZ G + m), .int a, .int b] 0 0 (fun vv μ' I' P' => vv = some (.int (aSwap (I (P m 0)) a b)) ∧ μ' = μ ∧ P' = P ∧ mQ m (P m 0) (P m 1) (P m 2) I (if okSwap (I (P m 0)) a b then (xchg m (P m 0) (P m 1) h I) else I) I' (sSwap (I (P m 0)) a b)) := by
  obtain ⟨hn20, hn, hq6, hq, hsh, hdr, h8r, h9r, h10r, hrows⟩ := id hinv
  have hmp : m ≠ P m 1 := fun e => by rw [← e, km] at kp; cases kp
  have hms : m ≠ P m 0 := fun e => by rw [← e, km] at ks; cases ks
  have cS : xchg m (P m 0) (P m 1) h I (P m 0) = I (P m 0) := xchg_s hsp (Ne.symm hms)
  have cQ := @mQ_chg m (P m 0) (P m 1) (P m 2) h I
  refine Ct.of (cc := cX5_swap) (maxL := 6) (ret := (some .int)) [some (.ref (xZ G + m)), some (.int a), some (.int b), none, none, none] (by decide) rfl rfl rfl (Nat.le_of_ble_eq_true rfl) ?_
  intro X hC hD h0 _
  refine r_aload_n (pc := 0) hC dX5_swap_0 rfl ?_
  refine r_iload_n (pc := 1) hC dX5_swap_1 rfl ?_
  refine k_X5_isRow (pc := 2) hC gX5_swap_X5_isRow ⟨Nat.le_of_ble_eq_true rfl, Nat.le_of_ble_eq_true rfl⟩ (by assumption) (by assumption) (by assumption) (Nat.le_of_ble_eq_true rfl) rfl ⟨Nat.zero_le _, Nat.zero_le _⟩ dX5_swap_2 ?_
  refine r_if_eq (pc := 5) (tgt := 21) hC dX5_swap_5 (by decide) (fun bq5 => ?_) (fun bq5 => ?_)
  · skip
    refine r_ldc (pc := 21) (v := -1000001) hC dX5_swap_21 wl_X5_swap_92 ?_
    refine r_iret (pc := 23) hC hD rfl dX5_swap_23 rfl ?_
    have e1 : okSwap (I (P m 0)) a b = false := by rw [okSwap, if_pos bq5]
    refine ⟨by rw [aSwap, e1, if_neg (by decide)], rfl, rfl, ?_⟩
    rw [e1, if_neg (by decide), show sSwap (I (P m 0)) a b = (I (P m 0)) from by rw [sSwap, e1, if_neg (by decide)]]
    exact mQ_id
  · skip
    refine r_aload_n (pc := 8) hC dX5_swap_8 rfl ?_
    refine r_iload_n (pc := 9) hC dX5_swap_9 rfl ?_
    refine k_X5_isRow (pc := 10) hC gX5_swap_X5_isRow ⟨Nat.le_of_ble_eq_true rfl, Nat.le_of_ble_eq_true rfl⟩ (by assumption) (by assumption) (by assumption) (Nat.le_of_ble_eq_true rfl) rfl ⟨Nat.zero_le _, Nat.zero_le _⟩ dX5_swap_10 ?_
    refine r_if_eq (pc := 13) (tgt := 21) hC dX5_swap_13 (by decide) (fun bq13 => ?_) (fun bq13 => ?_)
    · skip
      refine r_ldc (pc := 21) (v := -1000001) hC dX5_swap_21 wl_X5_swap_92 ?_
      refine r_iret (pc := 23) hC hD rfl dX5_swap_23 rfl ?_
      have e1 : okSwap (I (P m 0)) a b = false := by rw [okSwap, if_neg bq5, if_pos bq13]
      refine ⟨by rw [aSwap, e1, if_neg (by decide)], rfl, rfl, ?_⟩
      rw [e1, if_neg (by decide), show sSwap (I (P m 0)) a b = (I (P m 0)) from by rw [sSwap, e1, if_neg (by decide)]]
      exact mQ_id
    · skip
      refine r_iload_n (pc := 16) hC dX5_swap_16 rfl ?_
      refine r_iload_n (pc := 17) hC dX5_swap_17 rfl ?_
      refine r_icmp_ne (pc := 18) (tgt := 24) hC dX5_swap_18 (by decide) (fun bq18 => ?_) (fun bq18 => ?_)
      · skip
        obtain ⟨ka, hka, rfl⟩ := isR_of bq5 hn (by omega)
        have hkac : (nI ka).toNatClampNeg = ka := nI_clamp (by omega)
        obtain ⟨Lka, hL1ka, hL14ka, hlka, hnmka, htnka⟩ := hrows ka hka
        have hlenka : sLen (I (P m 0)) ka = Lka := sLen_of hlka (by omega)
        obtain ⟨kb, hkb, rfl⟩ := isR_of bq13 hn (by omega)
        have hkbc : (nI kb).toNatClampNeg = kb := nI_clamp (by omega)
        obtain ⟨Lkb, hL1kb, hL14kb, hlkb, hnmkb, htnkb⟩ := hrows kb hkb
        have hlenkb : sLen (I (P m 0)) kb = Lkb := sLen_of hlkb (by omega)
        have hab : ka ≠ kb := fun e => bq18 (by rw [e])
        have ja : ∀ j, j < 17 → (xsw (P m 0) ka kb j (xchg m (P m 0) (P m 1) h I)) (P m 0) (11 + 17 * ka + j) = (xchg m (P m 0) (P m 1) h I) (P m 0) (11 + 17 * ka + j) := fun j hj => xsw_n (rngB_f (by omega)) (rngB_f (by omega))
        have jb : ∀ j, j < 17 → (xsw (P m 0) ka kb j (xchg m (P m 0) (P m 1) h I)) (P m 0) (11 + 17 * kb + j) = (xchg m (P m 0) (P m 1) h I) (P m 0) (11 + 17 * kb + j) := fun j hj => xsw_n (rngB_f (by omega)) (rngB_f (by omega))
        have jr : ∀ i, i < 11 ∨ 351 ≤ i → (xsw (P m 0) ka kb 17 (xchg m (P m 0) (P m 1) h I)) (P m 0) i = (I (P m 0)) i := fun i hi => by rw [xsw_n (rngB_f (by omega)) (rngB_f (by omega)), cS]
        have j2q : ∀ j, (xmp (P m 0) (rouB j) (fun i => swS ((I (P m 0)) i) (nI ka) (nI kb)) (xsw (P m 0) ka kb 17 (xchg m (P m 0) (P m 1) h I))) (P m 0) 2 = nI q := fun j => by rw [xmp_n (rouB_f (by omega)), jr _ (by omega), hq]
        have j21 : ∀ j, (xmp (P m 0) (rouB j) (fun i => swS ((I (P m 0)) i) (nI ka) (nI kb)) (xsw (P m 0) ka kb 17 (xchg m (P m 0) (P m 1) h I))) (P m 0) 1 = (I (P m 0)) 1 := fun j => by rw [xmp_n (rouB_f (by omega)), jr _ (by omega)]
        have jo : ∀ b, b ≠ (P m 0) → (xmp (P m 0) (rouB q) (fun i => swS ((I (P m 0)) i) (nI ka) (nI kb)) (xsw (P m 0) ka kb 17 (xchg m (P m 0) (P m 1) h I))) b = (xchg m (P m 0) (P m 1) h I) b := fun b hb => by rw [xmp_o hb, xsw_o hb]
        have loop2 : ∀ (p j : Nat), j + p = q → ∀ (z1 z2 : Option Value), xg X G (0, 0) μ (xmp (P m 0) (rouB j) (fun i => swS ((I (P m 0)) i) (nI ka) (nI kb)) (xsw (P m 0) ka kb 17 (xchg m (P m 0) (P m 1) h I))) P [some (.ref (xZ G + m)), some (.int (nI ka)), some (.int (nI kb)), some (.int (nI j)), z1, z2] 72 [] := by
          intro p
          induction p with
          | zero =>
            intro j hj z1 z2
            have ej : q = j := by omega
            subst ej
            refine r_iload_n (pc := 72) hC dX5_swap_72 rfl ?_
            refine r_aload_n (pc := 73) hC dX5_swap_73 rfl ?_
            refine g_Model_s (pc := 74) hC wi_X5_swap_5 wl_X5_swap_7 (by assumption) (c2 := 7) (by assumption) (by decide) dX5_swap_74 ?_
            refine r_iconst (pc := 77) (v := 2) hC dX5_swap_77 (by decide) ?_
            refine r_iald (pc := 78) hC ks (xi_l (k := 2) ls (by decide) (by decide) (by decide)) dX5_swap_78 ?_
            rw [j2q]
            refine r_icmp_ge (pc := 79) (tgt := 152) hC dX5_swap_79 (by decide) (fun bq79 => ?_) (fun bq79 => ?_)
            · skip
              refine r_aload_n (pc := 152) hC dX5_swap_152 rfl ?_
              refine g_Model_s (pc := 153) hC wi_X5_swap_5 wl_X5_swap_7 (by assumption) (c2 := 7) (by assumption) (by decide) dX5_swap_153 ?_
              refine r_iconst (pc := 156) (v := 1) hC dX5_swap_156 (by decide) ?_
              refine r_iald (pc := 157) hC ks (xi_l (k := 1) ls (by decide) (by decide) (by decide)) dX5_swap_157 ?_
              rw [j21]
              refine r_iret (pc := 158) hC hD rfl dX5_swap_158 rfl ?_
              have e1 : okSwap (I (P m 0)) (nI ka) (nI kb) = true := by rw [okSwap, if_neg bq5, if_neg bq13, if_neg bq18]
              refine ⟨by rw [aSwap, e1, if_pos rfl], rfl, rfl, ?_⟩
              rw [e1, if_pos rfl, show sSwap (I (P m 0)) (nI ka) (nI kb) = swapS (I (P m 0)) ka kb q from by rw [sSwap, e1, if_pos rfl, hkac, hkbc, show cQn (I (P m 0)) = q from by rw [cQn, hq, nI_clamp (by omega)]]]
              refine cQ hmp hms hsp ?_ jo
              funext i
              simp only [xmp, xsw, true_and, swapS, cS]
            · skip
              exact absurd (nI_le (by omega) (by omega)) bq79
          | succ p ih =>
            intro j hj z1 z2
            refine r_iload_n (pc := 72) hC dX5_swap_72 rfl ?_
            refine r_aload_n (pc := 73) hC dX5_swap_73 rfl ?_
            refine g_Model_s (pc := 74) hC wi_X5_swap_5 wl_X5_swap_7 (by assumption) (c2 := 7) (by assumption) (by decide) dX5_swap_74 ?_
            refine r_iconst (pc := 77) (v := 2) hC dX5_swap_77 (by decide) ?_
            refine r_iald (pc := 78) hC ks (xi_l (k := 2) ls (by decide) (by decide) (by decide)) dX5_swap_78 ?_
            rw [j2q]
            refine r_icmp_ge (pc := 79) (tgt := 152) hC dX5_swap_79 (by decide) (fun bq79 => ?_) (fun bq79 => ?_)
            · skip
              exact absurd bq79 (nI_ge (by omega) (by omega))
            · skip
              refine r_aload_n (pc := 82) hC dX5_swap_82 rfl ?_
              refine r_iload_n (pc := 83) hC dX5_swap_83 rfl ?_
              refine r_iconst (pc := 84) (v := 0) hC dX5_swap_84 (by decide) ?_
              refine k_X5_ofRoute (pc := 85) hC gX5_swap_X5_ofRoute ⟨Nat.le_of_ble_eq_true rfl, Nat.le_of_ble_eq_true rfl⟩ (k := 351 + 3 * j) km ks ls (by simp only [xlit, nI_add, pk_mul] <;> exact congrArg nI (by omega)) (by omega) (Nat.le_of_ble_eq_true rfl) rfl ⟨Nat.zero_le _, Nat.zero_le _⟩ dX5_swap_85 ?_
              rw [show (xmp (P m 0) (rouB j) (fun i => swS ((I (P m 0)) i) (nI ka) (nI kb)) (xsw (P m 0) ka kb 17 (xchg m (P m 0) (P m 1) h I))) (P m 0) (351 + 3 * j) = (I (P m 0)) (351 + 3 * j) from by rw [xmp_n (rouB_f (by omega)), jr _ (by omega)]]
              refine r_istore (pc := 88) (L' := [_, _, _, _, _, _]) hC dX5_swap_88 rfl (Nat.le_of_ble_eq_true rfl) rfl ?_
              refine r_iload (pc := 90) hC dX5_swap_90 rfl ?_
              refine r_iload_n (pc := 92) hC dX5_swap_92 rfl ?_
              refine r_ishr (pc := 93) hC dX5_swap_93 ?_
              refine r_iconst (pc := 94) (v := 1) hC dX5_swap_94 (by decide) ?_
              refine r_iand (pc := 95) hC dX5_swap_95 ?_
              refine r_iload (pc := 96) hC dX5_swap_96 rfl ?_
              refine r_iload_n (pc := 98) hC dX5_swap_98 rfl ?_
              refine r_ishr (pc := 99) hC dX5_swap_99 ?_
              refine r_iconst (pc := 100) (v := 1) hC dX5_swap_100 (by decide) ?_
              refine r_iand (pc := 101) hC dX5_swap_101 ?_
              refine r_icmp_eq (pc := 102) (tgt := 109) hC dX5_swap_102 (by decide) (fun bq102 => ?_) (fun bq102 => ?_)
              · skip
                refine r_iconst (pc := 109) (v := 0) hC dX5_swap_109 (by decide) ?_
                refine r_istore (pc := 110) (L' := [_, _, _, _, _, _]) hC dX5_swap_110 rfl (Nat.le_of_ble_eq_true rfl) rfl ?_
                refine r_aload_n (pc := 112) hC dX5_swap_112 rfl ?_
                refine g_Model_s (pc := 113) hC wi_X5_swap_5 wl_X5_swap_7 (by assumption) (c2 := 7) (by assumption) (by decide) dX5_swap_113 ?_
                refine r_sipush (pc := 116) (v := 351) hC dX5_swap_116 (by decide) ?_
                refine r_iconst (pc := 119) (v := 3) hC dX5_swap_119 (by decide) ?_
                refine r_iload_n (pc := 120) hC dX5_swap_120 rfl ?_
                refine r_imul (pc := 121) hC dX5_swap_121 ?_
                refine r_iadd (pc := 122) hC dX5_swap_122 ?_
                refine r_iconst (pc := 123) (v := 0) hC dX5_swap_123 (by decide) ?_
                refine r_iadd (pc := 124) hC dX5_swap_124 ?_
                refine r_iload (pc := 125) hC dX5_swap_125 rfl ?_
                refine r_if_eq (pc := 127) (tgt := 143) hC dX5_swap_127 (by decide) (fun bq127 => ?_) (fun bq127 => ?_)
                · skip
                  refine r_iload (pc := 143) hC dX5_swap_143 rfl ?_
                  refine r_iast (pc := 145) hC ks (xi_e (k := 351 + 3 * j) (by simp only [xlit, nI_add, pk_mul] <;> exact congrArg nI (by omega)) ls (by omega) (by decide)) dX5_swap_145 ?_
                  refine r_iinc (pc := 146) (v := 1) (L' := [_, _, _, _, _, _]) hC dX5_swap_146 rfl (by decide) rfl rfl ?_
                  refine r_goto (pc := 149) (tgt := 72) hC dX5_swap_149 (by decide) ?_
                  rw [xmp_step (k := 351 + 3 * j) (c' := rouB (j + 1)) (fun i => rouB_s) (by show swS _ _ _ = _; rw [swS, if_pos bq102]), nI_1]
                  exact ih (j + 1) (by omega) _ _
                · skip
                  exact absurd rfl bq127
              · skip
                refine r_iconst (pc := 105) (v := 1) hC dX5_swap_105 (by decide) ?_
                refine r_goto (pc := 106) (tgt := 110) hC dX5_swap_106 (by decide) ?_
                refine r_istore (pc := 110) (L' := [_, _, _, _, _, _]) hC dX5_swap_110 rfl (Nat.le_of_ble_eq_true rfl) rfl ?_
                refine r_aload_n (pc := 112) hC dX5_swap_112 rfl ?_
                refine g_Model_s (pc := 113) hC wi_X5_swap_5 wl_X5_swap_7 (by assumption) (c2 := 7) (by assumption) (by decide) dX5_swap_113 ?_
                refine r_sipush (pc := 116) (v := 351) hC dX5_swap_116 (by decide) ?_
                refine r_iconst (pc := 119) (v := 3) hC dX5_swap_119 (by decide) ?_
                refine r_iload_n (pc := 120) hC dX5_swap_120 rfl ?_
                refine r_imul (pc := 121) hC dX5_swap_121 ?_
                refine r_iadd (pc := 122) hC dX5_swap_122 ?_
                refine r_iconst (pc := 123) (v := 0) hC dX5_swap_123 (by decide) ?_
                refine r_iadd (pc := 124) hC dX5_swap_124 ?_
                refine r_iload (pc := 125) hC dX5_swap_125 rfl ?_
                refine r_if_eq (pc := 127) (tgt := 143) hC dX5_swap_127 (by decide) (fun bq127 => ?_) (fun bq127 => ?_)
                · skip
                  exact absurd bq127 (by decide)
                · skip
                  refine r_iload (pc := 130) hC dX5_swap_130 rfl ?_
                  refine r_iconst (pc := 132) (v := 1) hC dX5_swap_132 (by decide) ?_
                  refine r_iload_n (pc := 133) hC dX5_swap_133 rfl ?_
                  refine r_ishl (pc := 134) hC dX5_swap_134 ?_
                  refine r_iconst (pc := 135) (v := 1) hC dX5_swap_135 (by decide) ?_
                  refine r_iload_n (pc := 136) hC dX5_swap_136 rfl ?_
                  refine r_ishl (pc := 137) hC dX5_swap_137 ?_
                  refine r_ior (pc := 138) hC dX5_swap_138 ?_
                  refine r_ixor (pc := 139) hC dX5_swap_139 ?_
                  refine r_goto (pc := 140) (tgt := 145) hC dX5_swap_140 (by decide) ?_
                  refine r_iast (pc := 145) hC ks (xi_e (k := 351 + 3 * j) (by simp only [xlit, nI_add, pk_mul] <;> exact congrArg nI (by omega)) ls (by omega) (by decide)) dX5_swap_145 ?_
                  refine r_iinc (pc := 146) (v := 1) (L' := [_, _, _, _, _, _]) hC dX5_swap_146 rfl (by decide) rfl rfl ?_
                  refine r_goto (pc := 149) (tgt := 72) hC dX5_swap_149 (by decide) ?_
                  rw [xmp_step (k := 351 + 3 * j) (c' := rouB (j + 1)) (fun i => rouB_s) (by show swS _ _ _ = _; rw [swS, if_neg bq102]), nI_1]
                  exact ih (j + 1) (by omega) _ _
        have loop1 : ∀ (p j : Nat), j + p = 17 → ∀ (z1 z2 : Option Value), xg X G (0, 0) μ (xsw (P m 0) ka kb j (xchg m (P m 0) (P m 1) h I)) P [some (.ref (xZ G + m)), some (.int (nI ka)), some (.int (nI kb)), some (.int (nI j)), z1, z2] 30 [] := by
          intro p
          induction p with
          | zero =>
            intro j hj z1 z2
            have ej : j = 17 := by omega
            subst ej
            refine r_iload_n (pc := 30) hC dX5_swap_30 rfl ?_
            refine r_bipush (pc := 31) (v := 17) hC dX5_swap_31 (by decide) ?_
            refine r_icmp_ge (pc := 33) (tgt := 70) hC dX5_swap_33 (by decide) (fun bq33 => ?_) (fun bq33 => ?_)
            · skip
              refine r_iconst (pc := 70) (v := 0) hC dX5_swap_70 (by decide) ?_
              refine r_istore_n (pc := 71) (L' := [_, _, _, _, _, _]) hC dX5_swap_71 rfl (Nat.le_of_ble_eq_true rfl) rfl ?_
              have z := loop2 q 0 (by omega) z1 z2
              rw [xmp_0 (fun i => rouB_0)] at z; exact z
            · skip
              exact absurd (nI_le (a := 17) (b := 17) (by omega) (by decide)) bq33
          | succ p ih =>
            intro j hj z1 z2
            refine r_iload_n (pc := 30) hC dX5_swap_30 rfl ?_
            refine r_bipush (pc := 31) (v := 17) hC dX5_swap_31 (by decide) ?_
            refine r_icmp_ge (pc := 33) (tgt := 70) hC dX5_swap_33 (by decide) (fun bq33 => ?_) (fun bq33 => ?_)
            · skip
              exact absurd bq33 (nI_ge (b := 17) (by omega) (by decide))
            · skip
              refine r_aload_n (pc := 36) hC dX5_swap_36 rfl ?_
              refine r_iload_n (pc := 37) hC dX5_swap_37 rfl ?_
              refine r_iload_n (pc := 38) hC dX5_swap_38 rfl ?_
              refine k_X5_of (pc := 39) hC gX5_swap_X5_of ⟨Nat.le_of_ble_eq_true rfl, Nat.le_of_ble_eq_true rfl⟩ (k := 11 + 17 * ka + j) km ks ls (by simp only [xlit, nI_add, pk_mul] <;> exact congrArg nI (by omega)) (by omega) (Nat.le_of_ble_eq_true rfl) rfl ⟨Nat.zero_le _, Nat.zero_le _⟩ dX5_swap_39 ?_
              rw [ja j (by omega)]
              refine r_istore (pc := 42) (L' := [_, _, _, _, _, _]) hC dX5_swap_42 rfl (Nat.le_of_ble_eq_true rfl) rfl ?_
              refine r_aload_n (pc := 44) hC dX5_swap_44 rfl ?_
              refine r_iload_n (pc := 45) hC dX5_swap_45 rfl ?_
              refine r_iload_n (pc := 46) hC dX5_swap_46 rfl ?_
              refine r_aload_n (pc := 47) hC dX5_swap_47 rfl ?_
              refine r_iload_n (pc := 48) hC dX5_swap_48 rfl ?_
              refine r_iload_n (pc := 49) hC dX5_swap_49 rfl ?_
              refine k_X5_of (pc := 50) hC gX5_swap_X5_of ⟨Nat.le_of_ble_eq_true rfl, Nat.le_of_ble_eq_true rfl⟩ (k := 11 + 17 * kb + j) km ks ls (by simp only [xlit, nI_add, pk_mul] <;> exact congrArg nI (by omega)) (by omega) (Nat.le_of_ble_eq_true rfl) rfl ⟨Nat.zero_le _, Nat.zero_le _⟩ dX5_swap_50 ?_
              rw [jb j (by omega)]
              refine k_X5_sets (pc := 53) hC gX5_swap_X5_sets ⟨Nat.le_of_ble_eq_true rfl, Nat.le_of_ble_eq_true rfl⟩ (k := 11 + 17 * ka + j) km ks ls (by simp only [xlit, nI_add, pk_mul] <;> exact congrArg nI (by omega)) (by omega) (Nat.le_of_ble_eq_true rfl) rfl ⟨Nat.zero_le _, Nat.zero_le _⟩ dX5_swap_53 ?_
              refine r_aload_n (pc := 56) hC dX5_swap_56 rfl ?_
              refine r_iload_n (pc := 57) hC dX5_swap_57 rfl ?_
              refine r_iload_n (pc := 58) hC dX5_swap_58 rfl ?_
              refine r_iload (pc := 59) hC dX5_swap_59 rfl ?_
              refine k_X5_sets (pc := 61) hC gX5_swap_X5_sets ⟨Nat.le_of_ble_eq_true rfl, Nat.le_of_ble_eq_true rfl⟩ (k := 11 + 17 * kb + j) km ks ls (by simp only [xlit, nI_add, pk_mul] <;> exact congrArg nI (by omega)) (by omega) (Nat.le_of_ble_eq_true rfl) rfl ⟨Nat.zero_le _, Nat.zero_le _⟩ dX5_swap_61 ?_
              refine r_iinc (pc := 64) (v := 1) (L' := [_, _, _, _, _, _]) hC dX5_swap_64 rfl (by decide) rfl rfl ?_
              refine r_goto (pc := 67) (tgt := 30) hC dX5_swap_67 (by decide) ?_
              rw [xsw_succ hab (by omega), nI_1]
              exact ih (j + 1) (by omega) _ _
        refine r_aload_n (pc := 24) hC dX5_swap_24 rfl ?_
        refine k_X5_changes (pc := 25) hC gX5_swap_X5_changes ⟨Nat.le_of_ble_eq_true rfl, Nat.le_of_ble_eq_true rfl⟩ km ks ls kp lp hsp hh hh4 (Nat.le_of_ble_eq_true rfl) rfl ⟨Nat.zero_le _, Nat.zero_le _⟩ dX5_swap_25 ?_
        refine r_iconst (pc := 28) (v := 0) hC dX5_swap_28 (by decide) ?_
        refine r_istore_n (pc := 29) (L' := [_, _, _, _, _, _]) hC dX5_swap_29 rfl (Nat.le_of_ble_eq_true rfl) rfl ?_
        have z := loop1 17 0 rfl none none
        rw [xsw_0] at z; exact z
      · skip
        refine r_ldc (pc := 21) (v := -1000001) hC dX5_swap_21 wl_X5_swap_92 ?_
        refine r_iret (pc := 23) hC hD rfl dX5_swap_23 rfl ?_
        have e1 : okSwap (I (P m 0)) a b = false := by rw [okSwap, if_neg bq5, if_neg bq13, if_pos bq18]
        refine ⟨by rw [aSwap, e1, if_neg (by decide)], rfl, rfl, ?_⟩
        rw [e1, if_neg (by decide), show sSwap (I (P m 0)) a b = (I (P m 0)) from by rw [sSwap, e1, if_neg (by decide)]]
        exact mQ_id
theorem k_X5_swap {X : xF} {G : xG} {cs : Nat × Nat} {μ : xM} {I : xI} {P : xP} {L : List (Option Value)} {pc : Nat} {rest : List Value} {cc : ByteArray} {Ts : List Cond} {own : String} {nL : Nat} {R : Room} (hC : xC X G cc Ts own nL R) {index : Nat} (hG : GoodIn Ts (wsV own index RX5 yX5_swap wsX5_swap)) (hR : rm_X5_swap.frames + 1 ≤ R.frames ∧ 8 + (6 + 11) + rm_X5_swap.locals ≤ R.locals) {m h n q : Nat} {a b : Int32} (km : μ.2.1 m = 6) (ks : μ.2.1 (P m 0) = 7) (ls : μ.2.2 (P m 0) = 369) (kp : μ.2.1 (P m 1) = 7) (lp : μ.2.2 (P m 1) = 1476) (hsp : P m 0 ≠ P m 1) (hh : I m 3 = nI h) (hh4 : h ≤ 4) (hinv : invN (I (P m 0)) n q) (hW : (rest.map fun v => v.category).sum ≤ 8) (hL : L.length = nL) (hcs : cs.1 ≤ R.cells ∧ cs.2 ≤ R.slots) (hdec : decode cc pc = .ok (.invokevirtual index, 3)) (kk : ∀ I' : xI, mQ m (P m 0) (P m 1) (P m 2) I (if okSwap (I (P m 0)) a b then (xchg m (P m 0) (P m 1) h I) else I) I' (sSwap (I (P m 0)) a b) → xg X G cs μ I' P L (pc + 3) (.int (aSwap (I (P m 0)) a b) :: rest)) : xg X G cs μ I P L pc (.int b :: .int a :: .ref (xZ G + m) :: rest) :=
  r_callV hC (c_X5_swap X.2.1 km ks ls kp lp hsp hh hh4 hinv) hG rfl rfl rfl hd_X5_swap hR (by rw [km]; decide) (xe_Model km) rfl rfl rfl hW hL hcs hdec (by rintro vv μ' I' P' ⟨rfl, rfl, rfl, hQ⟩; exact kk I' hQ)
