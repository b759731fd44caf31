abbrev rm_X5_read : Room := { frames := 2, cells := 0, slots := 0, locals := 45 }
theorem wl_X5_read_7 : Cond.fieldLink RX5 7 "HandBlindsModel" "s" "[I" ∈ wsX5_read := List.mem_of_getElem? (i := 2) (by decide +kernel)
theorem wi_X5_read_5 : ∀ w ∈ wsX50, w ∈ wsX5_read := fun _ h => List.mem_cons_of_mem _ (List.mem_append_right _ h)
theorem wl_X5_read_100 : Cond.constant RX5 100 (-1000004) ∈ wsX5_read := List.mem_of_getElem? (i := 3) (by decide +kernel)
theorem wl_X5_read_92 : Cond.constant RX5 92 (-1000001) ∈ wsX5_read := List.mem_of_getElem? (i := 1) (by decide +kernel)
theorem hd_X5_read : yX5_read.cls = RX5 ∧ yX5_read.cls ≠ "java/lang/invoke/MethodHandle" ∧ yX5_read.cls ≠ "java/lang/invoke/VarHandle" ∧ (parseMethodDescriptor yX5_read.desc).map (fun d => d.parameters.length) = some 1 := ⟨rfl, by decide +kernel, by decide +kernel, by decide +kernel⟩
set_option maxHeartbeats 4000000 in
set_option maxRecDepth 100000 in
theorem c_X5_read (l : Launch) {G : xG} {μ : xM} {I : xI} {P : xP} {m n q : Nat} {d : Int32} (km : μ.2.1 m = 6) (ks : μ.2.1 (P m 0) = 7) (ls : μ.2.2 (P m 0) = 369) (hinv : invN (I (P m 0)) n q) : Ct l yX5_read wsX5_read rm_X5_read G μ I P [.ref (xZ G + m), .int d] 0 0 (fun vv μ' I' P' => vv = some (.int (aRead (I (P m 0)) d)) ∧ μ' = μ ∧ I' = (I) ∧ P' = (P)) := by
  obtain ⟨hn20, hn, hq6, hq, hsh, hdr, h8r, h9r, h10r, hrows⟩ := id hinv
  have h8 : ¬ I (P m 0) 8 = 0 := fun e => by have h81 := h8r.1; rw [e] at h81; exact absurd h81 (by decide)
  refine Ct.of (cc := cX5_read) (maxL := 7) (ret := (some .int)) [some (.ref (xZ G + m)), some (.int d), none, none, none, none, none] (by decide) rfl rfl rfl (Nat.le_of_ble_eq_true rfl) ?_
  intro X hC hD h0 _
  refine r_iload_n (pc := 0) hC dX5_read_0 rfl ?_
  refine r_iconst (pc := 1) (v := 1) hC dX5_read_1 (by decide) ?_
  refine r_sipush (pc := 2) (v := 999) hC dX5_read_2 (by decide) ?_
  refine k_X5_in (pc := 5) hC gX5_read_X5_in ⟨Nat.le_of_ble_eq_true rfl, Nat.le_of_ble_eq_true rfl⟩  (Nat.le_of_ble_eq_true rfl) rfl ⟨Nat.zero_le _, Nat.zero_le _⟩ dX5_read_5 ?_
  refine r_if_ne (pc := 8) (tgt := 14) hC dX5_read_8 (by decide) (fun bq8 => ?_) (fun bq8 => ?_)
  · skip
    refine r_aload_n (pc := 14) hC dX5_read_14 rfl ?_
    refine g_Model_s (pc := 15) hC wi_X5_read_5 wl_X5_read_7 (by assumption) (c2 := 7) (by assumption) (by decide) dX5_read_15 ?_
    refine r_iconst (pc := 18) (v := 0) hC dX5_read_18 (by decide) ?_
    refine r_iald (pc := 19) hC ks (xi_l (k := 0) ls (by decide) (by decide) (by decide)) dX5_read_19 ?_
    refine r_if_ne (pc := 20) (tgt := 26) hC dX5_read_20 (by decide) (fun bq20 => ?_) (fun bq20 => ?_)
    · skip
      obtain ⟨a, han, h1⟩ : ∃ a, a < n ∧ I (P m 0) 1 = nI a := by
        rcases hsh with ⟨e, _⟩ | e
        · exact absurd (by rw [hn, e]; rfl) bq20
        · exact e
      have hca : cA (I (P m 0)) = a := by rw [cA, h1, nI_clamp (by omega)]
      obtain ⟨L, hL1, hL14, hl, hnm, htn⟩ := hrows a han
      have hlen : sLen (I (P m 0)) a = L := sLen_of hl (by omega)
      have hsw : sWid (I (P m 0)) a = wsum (fun j => I (P m 0) (14 + 17 * a + j)) L := by rw [sWid, hlen]; rfl
      have hsqn : ¬ sq (I (P m 0) 8) (wsum (fun j => I (P m 0) (14 + 17 * a + j)) L) = 0 := by
        obtain ⟨B, hB1, hB2, hB⟩ := nI_btw (lo := 4) (hi := 60) h8r.1 h8r.2 (by decide) (by decide)
        obtain ⟨w, hw1, hw2, hw⟩ := wsum_cases (fun j => I (P m 0) (14 + 17 * a + j)) L
        obtain ⟨K, hK1, hK2, hK⟩ := sq_cases (B := B) (w := w) hB1 hB2 (by omega)
        rw [hB, hw, hK]; exact nI_ne0 (by omega) (by omega)
      refine r_aload_n (pc := 26) hC dX5_read_26 rfl ?_
      refine g_Model_s (pc := 27) hC wi_X5_read_5 wl_X5_read_7 (by assumption) (c2 := 7) (by assumption) (by decide) dX5_read_27 ?_
      refine r_iconst (pc := 30) (v := 1) hC dX5_read_30 (by decide) ?_
      refine r_iald (pc := 31) hC ks (xi_l (k := 1) ls (by decide) (by decide) (by decide)) dX5_read_31 ?_
      rw [h1]
      refine r_istore_n (pc := 32) (L' := [_, _, _, _, _, _, _]) hC dX5_read_32 rfl (Nat.le_of_ble_eq_true rfl) rfl ?_
      refine r_iconst (pc := 33) (v := 0) hC dX5_read_33 (by decide) ?_
      refine r_istore_n (pc := 34) (L' := [_, _, _, _, _, _, _]) hC dX5_read_34 rfl (Nat.le_of_ble_eq_true rfl) rfl ?_
      refine r_iconst (pc := 35) (v := 0) hC dX5_read_35 (by decide) ?_
      refine r_istore (pc := 36) (L' := [_, _, _, _, _, _, _]) hC dX5_read_36 rfl (Nat.le_of_ble_eq_true rfl) rfl ?_
      by_cases ht : I (P m 0) (13 + 17 * a) = 1
      · skip
        refine r_iload (pc := 38) hC dX5_read_38 rfl ?_
        refine r_aload_n (pc := 40) hC dX5_read_40 rfl ?_
        refine r_iload_n (pc := 41) hC dX5_read_41 rfl ?_
        refine r_iconst (pc := 42) (v := 0) hC dX5_read_42 (by decide) ?_
        refine k_X5_of (pc := 43) hC gX5_read_X5_of ⟨Nat.le_of_ble_eq_true rfl, Nat.le_of_ble_eq_true rfl⟩ (k := 11 + 17 * a) km ks ls (by simp only [xlit, nI_add, pk_mul] <;> exact congrArg nI (by omega)) (by omega) (Nat.le_of_ble_eq_true rfl) rfl ⟨Nat.zero_le _, Nat.zero_le _⟩ dX5_read_43 ?_
        refine r_icmp_ge (pc := 46) (tgt := 131) hC dX5_read_46 (by decide) (fun bq46 => ?_) (fun bq46 => ?_)
        · skip
          rw [hl] at bq46; exact absurd bq46 (nI_ge (a := 0) (by omega) (by omega))
        · skip
          refine r_aload_n (pc := 49) hC dX5_read_49 rfl ?_
          refine r_iload_n (pc := 50) hC dX5_read_50 rfl ?_
          refine k_X5_isTorn (pc := 51) hC gX5_read_X5_isTorn ⟨Nat.le_of_ble_eq_true rfl, Nat.le_of_ble_eq_true rfl⟩ km ks ls rfl (by omega) (Nat.le_of_ble_eq_true rfl) rfl ⟨Nat.zero_le _, Nat.zero_le _⟩ dX5_read_51 ?_
          refine r_if_ne (pc := 54) (tgt := 131) hC dX5_read_54 (by decide) (fun bq54 => ?_) (fun bq54 => ?_)
          · skip
            refine r_iload_n (pc := 131) hC dX5_read_131 rfl ?_
            refine r_iret (pc := 132) hC hD rfl dX5_read_132 rfl ?_
            exact ⟨by rw [aRead, if_neg bq8, if_neg bq20, hca, if_pos ht], rfl, rfl, rfl⟩
          · skip
            rw [if_pos ht] at bq54; exact absurd bq54 (by decide)
      · have loop : ∀ (q k : Nat), k + q = L → ∀ (z1 z2 : Option Value), xg X G (0, 0) μ I P [some (.ref (xZ G + m)), some (.int d), some (.int (nI a)), some (.int (rcount (seen (I (P m 0)) a d) (sLet (I (P m 0)) a) k)), some (.int (nI k)), z1, z2] 38 [] := by
          intro q
          induction q with
          | zero =>
            intro k hk z1 z2
            have ek : k = L := by omega
            subst ek
            refine r_iload (pc := 38) hC dX5_read_38 rfl ?_
            refine r_aload_n (pc := 40) hC dX5_read_40 rfl ?_
            refine r_iload_n (pc := 41) hC dX5_read_41 rfl ?_
            refine r_iconst (pc := 42) (v := 0) hC dX5_read_42 (by decide) ?_
            refine k_X5_of (pc := 43) hC gX5_read_X5_of ⟨Nat.le_of_ble_eq_true rfl, Nat.le_of_ble_eq_true rfl⟩ (k := 11 + 17 * a) km ks ls (by simp only [xlit, nI_add, pk_mul] <;> exact congrArg nI (by omega)) (by omega) (Nat.le_of_ble_eq_true rfl) rfl ⟨Nat.zero_le _, Nat.zero_le _⟩ dX5_read_43 ?_
            refine r_icmp_ge (pc := 46) (tgt := 131) hC dX5_read_46 (by decide) (fun bq46 => ?_) (fun bq46 => ?_)
            · skip
              refine r_iload_n (pc := 131) hC dX5_read_131 rfl ?_
              refine r_iret (pc := 132) hC hD rfl dX5_read_132 rfl ?_
              exact ⟨by rw [aRead, if_neg bq8, if_neg bq20, hca, if_neg ht, hlen], rfl, rfl, rfl⟩
            · skip
              rw [hl] at bq46; exact absurd (nI_le (by omega) (by omega)) bq46
          | succ q ih =>
            intro k hk z1 z2
            refine r_iload (pc := 38) hC dX5_read_38 rfl ?_
            refine r_aload_n (pc := 40) hC dX5_read_40 rfl ?_
            refine r_iload_n (pc := 41) hC dX5_read_41 rfl ?_
            refine r_iconst (pc := 42) (v := 0) hC dX5_read_42 (by decide) ?_
            refine k_X5_of (pc := 43) hC gX5_read_X5_of ⟨Nat.le_of_ble_eq_true rfl, Nat.le_of_ble_eq_true rfl⟩ (k := 11 + 17 * a) km ks ls (by simp only [xlit, nI_add, pk_mul] <;> exact congrArg nI (by omega)) (by omega) (Nat.le_of_ble_eq_true rfl) rfl ⟨Nat.zero_le _, Nat.zero_le _⟩ dX5_read_43 ?_
            refine r_icmp_ge (pc := 46) (tgt := 131) hC dX5_read_46 (by decide) (fun bq46 => ?_) (fun bq46 => ?_)
            · skip
              rw [hl] at bq46; exact absurd bq46 (nI_ge (by omega) (by omega))
            · skip
              refine r_aload_n (pc := 49) hC dX5_read_49 rfl ?_
              refine r_iload_n (pc := 50) hC dX5_read_50 rfl ?_
              refine k_X5_isTorn (pc := 51) hC gX5_read_X5_isTorn ⟨Nat.le_of_ble_eq_true rfl, Nat.le_of_ble_eq_true rfl⟩ km ks ls rfl (by omega) (Nat.le_of_ble_eq_true rfl) rfl ⟨Nat.zero_le _, Nat.zero_le _⟩ dX5_read_51 ?_
              refine r_if_ne (pc := 54) (tgt := 131) hC dX5_read_54 (by decide) (fun bq54 => ?_) (fun bq54 => ?_)
              · skip
                exact absurd (if_neg ht) bq54
              · skip
                refine r_aload_n (pc := 57) hC dX5_read_57 rfl ?_
                refine r_iload_n (pc := 58) hC dX5_read_58 rfl ?_
                refine r_iconst (pc := 59) (v := 3) hC dX5_read_59 (by decide) ?_
                refine r_iload (pc := 60) hC dX5_read_60 rfl ?_
                refine r_iadd (pc := 62) hC dX5_read_62 ?_
                refine k_X5_of (pc := 63) hC gX5_read_X5_of ⟨Nat.le_of_ble_eq_true rfl, Nat.le_of_ble_eq_true rfl⟩ (k := 14 + 17 * a + k) km ks ls (by simp only [xlit, nI_add, pk_mul] <;> exact congrArg nI (by omega)) (by omega) (Nat.le_of_ble_eq_true rfl) rfl ⟨Nat.zero_le _, Nat.zero_le _⟩ dX5_read_63 ?_
                refine r_istore (pc := 66) (L' := [_, _, _, _, _, _, _]) hC dX5_read_66 rfl (Nat.le_of_ble_eq_true rfl) rfl ?_
                refine r_iload (pc := 68) hC dX5_read_68 rfl ?_
                refine r_bipush (pc := 70) (v := 32) hC dX5_read_70 (by decide) ?_
                refine r_icmp_eq (pc := 72) (tgt := 105) hC dX5_read_72 (by decide) (fun bq72 => ?_) (fun bq72 => ?_)
                · skip
                  refine r_iconst (pc := 105) (v := 1) hC dX5_read_105 (by decide) ?_
                  refine r_goto (pc := 106) (tgt := 110) hC dX5_read_106 (by decide) ?_
                  refine r_istore (pc := 110) (L' := [_, _, _, _, _, _, _]) hC dX5_read_110 rfl (Nat.le_of_ble_eq_true rfl) rfl ?_
                  refine r_iload_n (pc := 112) hC dX5_read_112 rfl ?_
                  refine r_iload (pc := 113) hC dX5_read_113 rfl ?_
                  refine r_if_eq (pc := 115) (tgt := 122) hC dX5_read_115 (by decide) (fun bq115 => ?_) (fun bq115 => ?_)
                  · skip
                    exact absurd bq115 (by decide)
                  · skip
                    refine r_iconst (pc := 118) (v := 1) hC dX5_read_118 (by decide) ?_
                    refine r_goto (pc := 119) (tgt := 123) hC dX5_read_119 (by decide) ?_
                    refine r_iadd (pc := 123) hC dX5_read_123 ?_
                    refine r_istore_n (pc := 124) (L' := [_, _, _, _, _, _, _]) hC dX5_read_124 rfl (Nat.le_of_ble_eq_true rfl) rfl ?_
                    refine r_iinc (pc := 125) (v := 1) (L' := [_, _, _, _, _, _, _]) hC dX5_read_125 rfl (by decide) rfl rfl ?_
                    refine r_goto (pc := 128) (tgt := 38) hC dX5_read_128 (by decide) ?_
                    have hb : bI ((seen (I (P m 0)) a d) (sLet (I (P m 0)) a k)) = 1 := by
                      have hc : sLet (I (P m 0)) a k = 32 := bq72
                      simp [seen, hc, bI]
                    have z := ih (k + 1) (by omega) (some (.int (sLet (I (P m 0)) a k))) (some (.int 1))
                    rw [nI_succ, rcount, hb] at z; exact z
                · skip
                  refine r_iload (pc := 75) hC dX5_read_75 rfl ?_
                  refine k_X5_wide (pc := 77) hC gX5_read_X5_wide ⟨Nat.le_of_ble_eq_true rfl, Nat.le_of_ble_eq_true rfl⟩  (Nat.le_of_ble_eq_true rfl) rfl ⟨Nat.zero_le _, Nat.zero_le _⟩ dX5_read_77 ?_
                  refine r_aload_n (pc := 80) hC dX5_read_80 rfl ?_
                  refine g_Model_s (pc := 81) hC wi_X5_read_5 wl_X5_read_7 (by assumption) (c2 := 7) (by assumption) (by decide) dX5_read_81 ?_
                  refine r_bipush (pc := 84) (v := 10) hC dX5_read_84 (by decide) ?_
                  refine r_iald (pc := 86) hC ks (xi_l (k := 10) ls (by decide) (by decide) (by decide)) dX5_read_86 ?_
                  refine r_imul (pc := 87) hC dX5_read_87 ?_
                  refine r_bipush (pc := 88) (v := 100) hC dX5_read_88 (by decide) ?_
                  refine r_imul (pc := 90) hC dX5_read_90 ?_
                  refine r_aload_n (pc := 91) hC dX5_read_91 rfl ?_
                  refine r_aload_n (pc := 92) hC dX5_read_92 rfl ?_
                  refine r_iload_n (pc := 93) hC dX5_read_93 rfl ?_
                  refine k_X5_width (pc := 94) hC gX5_read_X5_width ⟨Nat.le_of_ble_eq_true rfl, Nat.le_of_ble_eq_true rfl⟩ km ks ls rfl (by omega) hl hL14 (Nat.le_of_ble_eq_true rfl) rfl ⟨Nat.zero_le _, Nat.zero_le _⟩ dX5_read_94 ?_
                  refine k_X5_squeezed (pc := 97) hC gX5_read_X5_squeezed ⟨Nat.le_of_ble_eq_true rfl, Nat.le_of_ble_eq_true rfl⟩ km ks ls h8 (Nat.le_of_ble_eq_true rfl) rfl ⟨Nat.zero_le _, Nat.zero_le _⟩ dX5_read_97 ?_
                  refine r_idiv (pc := 100) hC dX5_read_100 hsqn ?_
                  refine r_iload_n (pc := 101) hC dX5_read_101 rfl ?_
                  refine r_icmp_lt (pc := 102) (tgt := 109) hC dX5_read_102 (by decide) (fun bq102 => ?_) (fun bq102 => ?_)
                  · skip
                    refine r_iconst (pc := 109) (v := 0) hC dX5_read_109 (by decide) ?_
                    refine r_istore (pc := 110) (L' := [_, _, _, _, _, _, _]) hC dX5_read_110 rfl (Nat.le_of_ble_eq_true rfl) rfl ?_
                    refine r_iload_n (pc := 112) hC dX5_read_112 rfl ?_
                    refine r_iload (pc := 113) hC dX5_read_113 rfl ?_
                    refine r_if_eq (pc := 115) (tgt := 122) hC dX5_read_115 (by decide) (fun bq115 => ?_) (fun bq115 => ?_)
                    · skip
                      refine r_iconst (pc := 122) (v := 0) hC dX5_read_122 (by decide) ?_
                      refine r_iadd (pc := 123) hC dX5_read_123 ?_
                      refine r_istore_n (pc := 124) (L' := [_, _, _, _, _, _, _]) hC dX5_read_124 rfl (Nat.le_of_ble_eq_true rfl) rfl ?_
                      refine r_iinc (pc := 125) (v := 1) (L' := [_, _, _, _, _, _, _]) hC dX5_read_125 rfl (by decide) rfl rfl ?_
                      refine r_goto (pc := 128) (tgt := 38) hC dX5_read_128 (by decide) ?_
                      have hb : bI ((seen (I (P m 0)) a d) (sLet (I (P m 0)) a k)) = 0 := by
                        have hc : ¬ sLet (I (P m 0)) a k = 32 := bq72
                        have hd : ¬ d ≤ lw (sLet (I (P m 0)) a k) * I (P m 0) 10 * 100 / sq (I (P m 0) 8) (sWid (I (P m 0)) a) := by rw [hsw]; exact Int32.not_le.mpr bq102
                        rw [seen, decide_eq_false hc, decide_eq_false hd]; rfl
                      have z := ih (k + 1) (by omega) (some (.int (sLet (I (P m 0)) a k))) (some (.int 0))
                      rw [nI_succ, rcount, hb] at z; exact z
                    · skip
                      exact absurd rfl bq115
                  · skip
                    refine r_iconst (pc := 105) (v := 1) hC dX5_read_105 (by decide) ?_
                    refine r_goto (pc := 106) (tgt := 110) hC dX5_read_106 (by decide) ?_
                    refine r_istore (pc := 110) (L' := [_, _, _, _, _, _, _]) hC dX5_read_110 rfl (Nat.le_of_ble_eq_true rfl) rfl ?_
                    refine r_iload_n (pc := 112) hC dX5_read_112 rfl ?_
                    refine r_iload (pc := 113) hC dX5_read_113 rfl ?_
                    refine r_if_eq (pc := 115) (tgt := 122) hC dX5_read_115 (by decide) (fun bq115 => ?_) (fun bq115 => ?_)
                    · skip
                      exact absurd bq115 (by decide)
                    · skip
                      refine r_iconst (pc := 118) (v := 1) hC dX5_read_118 (by decide) ?_
                      refine r_goto (pc := 119) (tgt := 123) hC dX5_read_119 (by decide) ?_
                      refine r_iadd (pc := 123) hC dX5_read_123 ?_
                      refine r_istore_n (pc := 124) (L' := [_, _, _, _, _, _, _]) hC dX5_read_124 rfl (Nat.le_of_ble_eq_true rfl) rfl ?_
                      refine r_iinc (pc := 125) (v := 1) (L' := [_, _, _, _, _, _, _]) hC dX5_read_125 rfl (by decide) rfl rfl ?_
                      refine r_goto (pc := 128) (tgt := 38) hC dX5_read_128 (by decide) ?_
                      have hb : bI ((seen (I (P m 0)) a d) (sLet (I (P m 0)) a k)) = 1 := by
                        have hc : ¬ sLet (I (P m 0)) a k = 32 := bq72
                        have hd : d ≤ lw (sLet (I (P m 0)) a k) * I (P m 0) 10 * 100 / sq (I (P m 0) 8) (sWid (I (P m 0)) a) := by rw [hsw]; exact Int32.not_lt.mp bq102
                        rw [seen, decide_eq_false hc, decide_eq_true hd]; rfl
                      have z := ih (k + 1) (by omega) (some (.int (sLet (I (P m 0)) a k))) (some (.int 1))
                      rw [nI_succ, rcount, hb] at z; exact z
        exact loop L 0 (by omega) _ _
    · skip
      refine r_ldc (pc := 23) (v := -1000004) hC dX5_read_23 wl_X5_read_100 ?_
      refine r_iret (pc := 25) hC hD rfl dX5_read_25 rfl ?_
      exact ⟨by rw [aRead, if_neg bq8, if_pos bq20], rfl, rfl, rfl⟩
  · skip
    refine r_ldc (pc := 11) (v := -1000001) hC dX5_read_11 wl_X5_read_92 ?_
    refine r_iret (pc := 13) hC hD rfl dX5_read_13 rfl ?_
    exact ⟨by rw [aRead, if_pos bq8], rfl, rfl, rfl⟩
theorem k_X5_read {X : xF} {G : xG} {cs : Nat × Nat} {μ : xM} {I : xI} {P : xP} {L : List (Option Value)} {pc : Nat} {rest : List Value} {cc : ByteArray} {Ts : List Cond} {own : String} {nL : Nat} {R : Room} (hC : xC X G cc Ts own nL R) {index : Nat} (hG : GoodIn Ts (wsV own index RX5 yX5_read wsX5_read)) (hR : rm_X5_read.frames + 1 ≤ R.frames ∧ 8 + (7 + 11) + rm_X5_read.locals ≤ R.locals) {m n q : Nat} {d : Int32} (km : μ.2.1 m = 6) (ks : μ.2.1 (P m 0) = 7) (ls : μ.2.2 (P m 0) = 369) (hinv : invN (I (P m 0)) n q) (hW : (rest.map fun v => v.category).sum ≤ 8) (hL : L.length = nL) (hcs : cs.1 ≤ R.cells ∧ cs.2 ≤ R.slots) (hdec : decode cc pc = .ok (.invokevirtual index, 3)) (kk : xg X G cs μ I P L (pc + 3) (.int (aRead (I (P m 0)) d) :: rest)) : xg X G cs μ I P L pc (.int d :: .ref (xZ G + m) :: rest) :=
  r_callV hC (c_X5_read X.2.1 km ks ls hinv) hG rfl rfl rfl hd_X5_read hR (by rw [km]; decide) (xe_Model km) rfl rfl rfl hW hL hcs hdec (by rintro v μ' I' P' ⟨rfl, rfl, rfl, rfl⟩; exact kk)
abbrev rm_X5_nearest : Room := { frames := 4, cells := 0, slots := 0, locals := 90 }
theorem wl_X5_nearest_92 : Cond.constant RX5 92 (-1000001) ∈ wsX5_nearest := List.mem_of_getElem? (i := 1) (by decide +kernel)
theorem wl_X5_nearest_7 : Cond.fieldLink RX5 7 "HandBlindsModel" "s" "[I" ∈ wsX5_nearest := List.mem_of_getElem? (i := 2) (by decide +kernel)
theorem wi_X5_nearest_5 : ∀ w ∈ wsX50, w ∈ wsX5_nearest := fun _ h => List.mem_cons_of_mem _ (List.mem_append_right _ h)
theorem wl_X5_nearest_100 : Cond.constant RX5 100 (-1000004) ∈ wsX5_nearest := List.mem_of_getElem? (i := 3) (by decide +kernel)
theorem hd_X5_nearest : yX5_nearest.cls = RX5 ∧ yX5_nearest.cls ≠ "java/lang/invoke/MethodHandle" ∧ yX5_nearest.cls ≠ "java/lang/invoke/VarHandle" ∧ (parseMethodDescriptor yX5_nearest.desc).map (fun d => d.parameters.length) = some 1 := ⟨rfl, by decide +kernel, by decide +kernel, by decide +kernel⟩
set_option maxHeartbeats 4000000 in
set_option maxRecDepth 100000 in
theorem c_X5_nearest (l : Launch) {G : xG} {μ : xM} {I : xI} {P : xP} {m n q : Nat} {w : Int32} (km : μ.2.1 m = 6) (ks : μ.2.1 (P m 0) = 7) (ls : μ.2.2 (P m 0) = 369) (hinv : invN (I (P m 0)) n q) : Ct l yX5_nearest wsX5_nearest rm_X5_nearest G μ I P [.ref (xZ G + m), .int w] 0 0 (fun vv μ' I' P' => vv = some (.int (aNear (I (P m 0)) w)) ∧ μ' = μ ∧ I' = (I) ∧ P' = (P)) := by
  obtain ⟨hn20, hn, hq6, hq, hsh, hdr, h8r, h9r, h10r, hrows⟩ := id hinv
  have h8 : ¬ I (P m 0) 8 = 0 := fun e => by have h81 := h8r.1; rw [e] at h81; exact absurd h81 (by decide)
  have hdr2 : ¬ I (P m 0) 3 < 0 → ∃ d, d < 6 ∧ I (P m 0) 3 = nI d := fun w => by
    rcases hdr with e | ⟨d, hd, e⟩
    · rw [e] at w; exact absurd (by decide) w
    · exact ⟨d, by omega, e⟩
  refine Ct.of (cc := cX5_nearest) (maxL := 4) (ret := (some .int)) [some (.ref (xZ G + m)), some (.int w), none, none] (by decide) rfl rfl rfl (Nat.le_of_ble_eq_true rfl) ?_
  intro X hC hD h0 _
  have hcn : cN (I (P m 0)) = n := by rw [cN, hn, nI_clamp (by omega)]
  refine r_iload_n (pc := 0) hC dX5_nearest_0 rfl ?_
  refine r_iconst (pc := 1) (v := 0) hC dX5_nearest_1 (by decide) ?_
  refine r_iconst (pc := 2) (v := 1) hC dX5_nearest_2 (by decide) ?_
  refine k_X5_in (pc := 3) hC gX5_nearest_X5_in ⟨Nat.le_of_ble_eq_true rfl, Nat.le_of_ble_eq_true rfl⟩  (Nat.le_of_ble_eq_true rfl) rfl ⟨Nat.zero_le _, Nat.zero_le _⟩ dX5_nearest_3 ?_
  refine r_if_ne (pc := 6) (tgt := 12) hC dX5_nearest_6 (by decide) (fun bq6 => ?_) (fun bq6 => ?_)
  · skip
    have loop : ∀ (q b : Nat), b + q = n → (∀ i, i < b → sgnS (I (P m 0)) n (cA (I (P m 0))) i = 0) → ∀ (z1 : Option Value), xg X G (0, 0) μ I P [some (.ref (xZ G + m)), some (.int w), some (.int (nI b)), z1] 14 [] := by
      intro q
      induction q with
      | zero =>
        intro b hb hno z1
        have eb : b = n := by omega
        subst eb
        refine r_iload_n (pc := 14) hC dX5_nearest_14 rfl ?_
        refine r_aload_n (pc := 15) hC dX5_nearest_15 rfl ?_
        refine g_Model_s (pc := 16) hC wi_X5_nearest_5 wl_X5_nearest_7 (by assumption) (c2 := 7) (by assumption) (by decide) dX5_nearest_16 ?_
        refine r_iconst (pc := 19) (v := 0) hC dX5_nearest_19 (by decide) ?_
        refine r_iald (pc := 20) hC ks (xi_l (k := 0) ls (by decide) (by decide) (by decide)) dX5_nearest_20 ?_
        refine r_icmp_ge (pc := 21) (tgt := 125) hC dX5_nearest_21 (by decide) (fun bq21 => ?_) (fun bq21 => ?_)
        · skip
          refine r_ldc (pc := 125) (v := -1000004) hC dX5_nearest_125 wl_X5_nearest_100 ?_
          refine r_iret (pc := 127) hC hD rfl dX5_nearest_127 rfl ?_
          have hx : nearB (I (P m 0)) b (cA (I (P m 0))) = b := srch_at b 0 b (by omega) (by omega) (fun i _ hi => by simpa using hno i hi) (Or.inl (by omega))
          exact ⟨by rw [aNear, if_neg bq6, hcn, if_pos hx], rfl, rfl, rfl⟩
        · skip
          rw [hn] at bq21; exact absurd (nI_le (by omega) (by omega)) bq21
      | succ q ih =>
        intro b hb hno z1
        obtain ⟨a, han, h1⟩ : ∃ a, a < n ∧ I (P m 0) 1 = nI a := by
          rcases hsh with ⟨e, _⟩ | e
          · omega
          · exact e
        have hca : cA (I (P m 0)) = a := by rw [cA, h1, nI_clamp (by omega)]
        refine r_iload_n (pc := 14) hC dX5_nearest_14 rfl ?_
        refine r_aload_n (pc := 15) hC dX5_nearest_15 rfl ?_
        refine g_Model_s (pc := 16) hC wi_X5_nearest_5 wl_X5_nearest_7 (by assumption) (c2 := 7) (by assumption) (by decide) dX5_nearest_16 ?_
        refine r_iconst (pc := 19) (v := 0) hC dX5_nearest_19 (by decide) ?_
        refine r_iald (pc := 20) hC ks (xi_l (k := 0) ls (by decide) (by decide) (by decide)) dX5_nearest_20 ?_
        refine r_icmp_ge (pc := 21) (tgt := 125) hC dX5_nearest_21 (by decide) (fun bq21 => ?_) (fun bq21 => ?_)
        · skip
          rw [hn] at bq21; exact absurd bq21 (nI_ge (by omega) (by omega))
        · skip
          refine r_aload_n (pc := 24) hC dX5_nearest_24 rfl ?_
          refine r_aload_n (pc := 25) hC dX5_nearest_25 rfl ?_
          refine g_Model_s (pc := 26) hC wi_X5_nearest_5 wl_X5_nearest_7 (by assumption) (c2 := 7) (by assumption) (by decide) dX5_nearest_26 ?_
          refine r_iconst (pc := 29) (v := 1) hC dX5_nearest_29 (by decide) ?_
          refine r_iald (pc := 30) hC ks (xi_l (k := 1) ls (by decide) (by decide) (by decide)) dX5_nearest_30 ?_
          rw [h1]
          refine r_iload_n (pc := 31) hC dX5_nearest_31 rfl ?_
          refine r_iadd (pc := 32) hC dX5_nearest_32 ?_
          rw [nI_add]
          refine k_X5_isRow (pc := 33) hC gX5_nearest_X5_isRow ⟨Nat.le_of_ble_eq_true rfl, Nat.le_of_ble_eq_true rfl⟩ km ks ls (Nat.le_of_ble_eq_true rfl) rfl ⟨Nat.zero_le _, Nat.zero_le _⟩ dX5_nearest_33 ?_
          rw [hn]
          refine r_if_eq (pc := 36) (tgt := 58) hC dX5_nearest_36 (by decide) (fun bq36 => ?_) (fun bq36 => ?_)
          · skip
            have v1 : ¬ (a + b < n ∧ sWrong (I (P m 0)) (a + b) = 0) := fun w => by rw [isR_nI w.1 (by omega)] at bq36; exact absurd bq36 (by decide)
            refine r_aload_n (pc := 58) hC dX5_nearest_58 rfl ?_
            refine r_aload_n (pc := 59) hC dX5_nearest_59 rfl ?_
            refine g_Model_s (pc := 60) hC wi_X5_nearest_5 wl_X5_nearest_7 (by assumption) (c2 := 7) (by assumption) (by decide) dX5_nearest_60 ?_
            refine r_iconst (pc := 63) (v := 1) hC dX5_nearest_63 (by decide) ?_
            refine r_iald (pc := 64) hC ks (xi_l (k := 1) ls (by decide) (by decide) (by decide)) dX5_nearest_64 ?_
            rw [h1]
            refine r_iload_n (pc := 65) hC dX5_nearest_65 rfl ?_
            refine r_isub (pc := 66) hC dX5_nearest_66 ?_
            refine k_X5_isRow (pc := 67) hC gX5_nearest_X5_isRow ⟨Nat.le_of_ble_eq_true rfl, Nat.le_of_ble_eq_true rfl⟩ km ks ls (Nat.le_of_ble_eq_true rfl) rfl ⟨Nat.zero_le _, Nat.zero_le _⟩ dX5_nearest_67 ?_
            rw [hn]
            refine r_if_eq (pc := 70) (tgt := 92) hC dX5_nearest_70 (by decide) (fun bq70 => ?_) (fun bq70 => ?_)
            · skip
              have v2 : ¬ (b ≤ a ∧ sWrong (I (P m 0)) (a - b) = 0) := fun w => by rw [pk_sub w.1, isR_nI (by omega) (by omega)] at bq70; exact absurd bq70 (by decide)
              have hs : sgnS (I (P m 0)) n a b = 0 := by rw [sgnS, if_neg v1, if_neg v2]
              refine r_iconst (pc := 92) (v := 0) hC dX5_nearest_92 (by decide) ?_
              refine r_istore_n (pc := 93) (L' := [_, _, _, _]) hC dX5_nearest_93 rfl (Nat.le_of_ble_eq_true rfl) rfl ?_
              refine r_iload_n (pc := 94) hC dX5_nearest_94 rfl ?_
              refine r_if_eq (pc := 95) (tgt := 119) hC dX5_nearest_95 (by decide) (fun bq95 => ?_) (fun bq95 => ?_)
              · skip
                refine r_iinc (pc := 119) (v := 1) (L' := [_, _, _, _]) hC dX5_nearest_119 rfl (by decide) rfl rfl ?_
                refine r_goto (pc := 122) (tgt := 14) hC dX5_nearest_122 (by decide) ?_
                rw [nI_1]
                exact ih (b + 1) (by omega) (fun i hi => by rcases Nat.lt_or_ge i b with y | y; exact hno i y; rw [show i = b by omega, hca]; exact hs) _
              · skip
                exact absurd rfl bq95
            · skip
              have u2 : b ≤ a := Classical.byContradiction fun w => bq70 (isR_sub (by omega) (by omega))
              obtain ⟨Ld, hL1d, hL14d, hld, hnmd, htnd⟩ := hrows (a - b) (by omega)
              refine r_aload_n (pc := 73) hC dX5_nearest_73 rfl ?_
              refine r_aload_n (pc := 74) hC dX5_nearest_74 rfl ?_
              refine g_Model_s (pc := 75) hC wi_X5_nearest_5 wl_X5_nearest_7 (by assumption) (c2 := 7) (by assumption) (by decide) dX5_nearest_75 ?_
              refine r_iconst (pc := 78) (v := 1) hC dX5_nearest_78 (by decide) ?_
              refine r_iald (pc := 79) hC ks (xi_l (k := 1) ls (by decide) (by decide) (by decide)) dX5_nearest_79 ?_
              rw [h1]
              refine r_iload_n (pc := 80) hC dX5_nearest_80 rfl ?_
              refine r_isub (pc := 81) hC dX5_nearest_81 ?_
              rw [pk_sub u2]
              refine k_X5_wrongBy (pc := 82) hC gX5_nearest_X5_wrongBy ⟨Nat.le_of_ble_eq_true rfl, Nat.le_of_ble_eq_true rfl⟩ km ks ls rfl (by omega) hld hL14d h8 hdr2 (Nat.le_of_ble_eq_true rfl) rfl ⟨Nat.zero_le _, Nat.zero_le _⟩ dX5_nearest_82 ?_
              refine r_if_ne (pc := 85) (tgt := 92) hC dX5_nearest_85 (by decide) (fun bq85 => ?_) (fun bq85 => ?_)
              · skip
                have v2 : ¬ (b ≤ a ∧ sWrong (I (P m 0)) (a - b) = 0) := fun w => bq85 w.2
                have hs : sgnS (I (P m 0)) n a b = 0 := by rw [sgnS, if_neg v1, if_neg v2]
                refine r_iconst (pc := 92) (v := 0) hC dX5_nearest_92 (by decide) ?_
                refine r_istore_n (pc := 93) (L' := [_, _, _, _]) hC dX5_nearest_93 rfl (Nat.le_of_ble_eq_true rfl) rfl ?_
                refine r_iload_n (pc := 94) hC dX5_nearest_94 rfl ?_
                refine r_if_eq (pc := 95) (tgt := 119) hC dX5_nearest_95 (by decide) (fun bq95 => ?_) (fun bq95 => ?_)
                · skip
                  refine r_iinc (pc := 119) (v := 1) (L' := [_, _, _, _]) hC dX5_nearest_119 rfl (by decide) rfl rfl ?_
                  refine r_goto (pc := 122) (tgt := 14) hC dX5_nearest_122 (by decide) ?_
                  rw [nI_1]
                  exact ih (b + 1) (by omega) (fun i hi => by rcases Nat.lt_or_ge i b with y | y; exact hno i y; rw [show i = b by omega, hca]; exact hs) _
                · skip
                  exact absurd rfl bq95
              · skip
                have hs : sgnS (I (P m 0)) n a b = -1 := by rw [sgnS, if_neg v1, if_pos ⟨u2, bq85⟩]
                refine r_iconst (pc := 88) (v := -1) hC dX5_nearest_88 (by decide) ?_
                refine r_goto (pc := 89) (tgt := 93) hC dX5_nearest_89 (by decide) ?_
                refine r_istore_n (pc := 93) (L' := [_, _, _, _]) hC dX5_nearest_93 rfl (Nat.le_of_ble_eq_true rfl) rfl ?_
                refine r_iload_n (pc := 94) hC dX5_nearest_94 rfl ?_
                refine r_if_eq (pc := 95) (tgt := 119) hC dX5_nearest_95 (by decide) (fun bq95 => ?_) (fun bq95 => ?_)
                · skip
                  exact absurd bq95 (by decide)
                · skip
                  refine r_iload_n (pc := 98) hC dX5_nearest_98 rfl ?_
                  refine r_if_ne (pc := 99) (tgt := 115) hC dX5_nearest_99 (by decide) (fun bq99 => ?_) (fun bq99 => ?_)
                  · skip
                    refine r_iload_n (pc := 115) hC dX5_nearest_115 rfl ?_
                    refine r_iload_n (pc := 116) hC dX5_nearest_116 rfl ?_
                    refine r_imul (pc := 117) hC dX5_nearest_117 ?_
                    refine r_iret (pc := 118) hC hD rfl dX5_nearest_118 rfl ?_
                    have hx : nearB (I (P m 0)) n a = b := srch_at n 0 b (by omega) (by omega) (fun i _ hi => by rw [← hca]; simpa using hno i hi) (Or.inr (by rw [decide_eq_true_eq, hs]; decide))
                    exact ⟨by rw [aNear, if_neg bq6, hcn, hca, hx, if_neg (by omega), if_neg bq99, hs], rfl, rfl, rfl⟩
                  · skip
                    refine r_aload_n (pc := 102) hC dX5_nearest_102 rfl ?_
                    refine g_Model_s (pc := 103) hC wi_X5_nearest_5 wl_X5_nearest_7 (by assumption) (c2 := 7) (by assumption) (by decide) dX5_nearest_103 ?_
                    refine r_iconst (pc := 106) (v := 1) hC dX5_nearest_106 (by decide) ?_
                    refine r_iald (pc := 107) hC ks (xi_l (k := 1) ls (by decide) (by decide) (by decide)) dX5_nearest_107 ?_
                    refine r_iload_n (pc := 108) hC dX5_nearest_108 rfl ?_
                    refine r_iload_n (pc := 109) hC dX5_nearest_109 rfl ?_
                    refine r_imul (pc := 110) hC dX5_nearest_110 ?_
                    refine r_iadd (pc := 111) hC dX5_nearest_111 ?_
                    refine r_goto (pc := 112) (tgt := 118) hC dX5_nearest_112 (by decide) ?_
                    refine r_iret (pc := 118) hC hD rfl dX5_nearest_118 rfl ?_
                    have hx : nearB (I (P m 0)) n a = b := srch_at n 0 b (by omega) (by omega) (fun i _ hi => by rw [← hca]; simpa using hno i hi) (Or.inr (by rw [decide_eq_true_eq, hs]; decide))
                    exact ⟨by rw [aNear, if_neg bq6, hcn, hca, hx, if_neg (by omega), if_pos bq99, hs], rfl, rfl, rfl⟩
          · skip
            have u1 : a + b < n := Classical.byContradiction fun w => bq36 (isR_out (by omega) (by omega))
            obtain ⟨Lu, hL1u, hL14u, hlu, hnmu, htnu⟩ := hrows (a + b) u1
            refine r_aload_n (pc := 39) hC dX5_nearest_39 rfl ?_
            refine r_aload_n (pc := 40) hC dX5_nearest_40 rfl ?_
            refine g_Model_s (pc := 41) hC wi_X5_nearest_5 wl_X5_nearest_7 (by assumption) (c2 := 7) (by assumption) (by decide) dX5_nearest_41 ?_
            refine r_iconst (pc := 44) (v := 1) hC dX5_nearest_44 (by decide) ?_
            refine r_iald (pc := 45) hC ks (xi_l (k := 1) ls (by decide) (by decide) (by decide)) dX5_nearest_45 ?_
            rw [h1]
            refine r_iload_n (pc := 46) hC dX5_nearest_46 rfl ?_
            refine r_iadd (pc := 47) hC dX5_nearest_47 ?_
            rw [nI_add]
            refine k_X5_wrongBy (pc := 48) hC gX5_nearest_X5_wrongBy ⟨Nat.le_of_ble_eq_true rfl, Nat.le_of_ble_eq_true rfl⟩ km ks ls rfl (by omega) hlu hL14u h8 hdr2 (Nat.le_of_ble_eq_true rfl) rfl ⟨Nat.zero_le _, Nat.zero_le _⟩ dX5_nearest_48 ?_
            refine r_if_ne (pc := 51) (tgt := 58) hC dX5_nearest_51 (by decide) (fun bq51 => ?_) (fun bq51 => ?_)
            · skip
              have v1 : ¬ (a + b < n ∧ sWrong (I (P m 0)) (a + b) = 0) := fun w => bq51 w.2
              refine r_aload_n (pc := 58) hC dX5_nearest_58 rfl ?_
              refine r_aload_n (pc := 59) hC dX5_nearest_59 rfl ?_
              refine g_Model_s (pc := 60) hC wi_X5_nearest_5 wl_X5_nearest_7 (by assumption) (c2 := 7) (by assumption) (by decide) dX5_nearest_60 ?_
              refine r_iconst (pc := 63) (v := 1) hC dX5_nearest_63 (by decide) ?_
              refine r_iald (pc := 64) hC ks (xi_l (k := 1) ls (by decide) (by decide) (by decide)) dX5_nearest_64 ?_
              rw [h1]
              refine r_iload_n (pc := 65) hC dX5_nearest_65 rfl ?_
              refine r_isub (pc := 66) hC dX5_nearest_66 ?_
              refine k_X5_isRow (pc := 67) hC gX5_nearest_X5_isRow ⟨Nat.le_of_ble_eq_true rfl, Nat.le_of_ble_eq_true rfl⟩ km ks ls (Nat.le_of_ble_eq_true rfl) rfl ⟨Nat.zero_le _, Nat.zero_le _⟩ dX5_nearest_67 ?_
              rw [hn]
              refine r_if_eq (pc := 70) (tgt := 92) hC dX5_nearest_70 (by decide) (fun bq70 => ?_) (fun bq70 => ?_)
              · skip
                have v2 : ¬ (b ≤ a ∧ sWrong (I (P m 0)) (a - b) = 0) := fun w => by rw [pk_sub w.1, isR_nI (by omega) (by omega)] at bq70; exact absurd bq70 (by decide)
                have hs : sgnS (I (P m 0)) n a b = 0 := by rw [sgnS, if_neg v1, if_neg v2]
                refine r_iconst (pc := 92) (v := 0) hC dX5_nearest_92 (by decide) ?_
                refine r_istore_n (pc := 93) (L' := [_, _, _, _]) hC dX5_nearest_93 rfl (Nat.le_of_ble_eq_true rfl) rfl ?_
                refine r_iload_n (pc := 94) hC dX5_nearest_94 rfl ?_
                refine r_if_eq (pc := 95) (tgt := 119) hC dX5_nearest_95 (by decide) (fun bq95 => ?_) (fun bq95 => ?_)
                · skip
                  refine r_iinc (pc := 119) (v := 1) (L' := [_, _, _, _]) hC dX5_nearest_119 rfl (by decide) rfl rfl ?_
                  refine r_goto (pc := 122) (tgt := 14) hC dX5_nearest_122 (by decide) ?_
                  rw [nI_1]
                  exact ih (b + 1) (by omega) (fun i hi => by rcases Nat.lt_or_ge i b with y | y; exact hno i y; rw [show i = b by omega, hca]; exact hs) _
                · skip
                  exact absurd rfl bq95
              · skip
                have u2 : b ≤ a := Classical.byContradiction fun w => bq70 (isR_sub (by omega) (by omega))
                obtain ⟨Ld, hL1d, hL14d, hld, hnmd, htnd⟩ := hrows (a - b) (by omega)
                refine r_aload_n (pc := 73) hC dX5_nearest_73 rfl ?_
                refine r_aload_n (pc := 74) hC dX5_nearest_74 rfl ?_
                refine g_Model_s (pc := 75) hC wi_X5_nearest_5 wl_X5_nearest_7 (by assumption) (c2 := 7) (by assumption) (by decide) dX5_nearest_75 ?_
                refine r_iconst (pc := 78) (v := 1) hC dX5_nearest_78 (by decide) ?_
                refine r_iald (pc := 79) hC ks (xi_l (k := 1) ls (by decide) (by decide) (by decide)) dX5_nearest_79 ?_
                rw [h1]
                refine r_iload_n (pc := 80) hC dX5_nearest_80 rfl ?_
                refine r_isub (pc := 81) hC dX5_nearest_81 ?_
                rw [pk_sub u2]
                refine k_X5_wrongBy (pc := 82) hC gX5_nearest_X5_wrongBy ⟨Nat.le_of_ble_eq_true rfl, Nat.le_of_ble_eq_true rfl⟩ km ks ls rfl (by omega) hld hL14d h8 hdr2 (Nat.le_of_ble_eq_true rfl) rfl ⟨Nat.zero_le _, Nat.zero_le _⟩ dX5_nearest_82 ?_
                refine r_if_ne (pc := 85) (tgt := 92) hC dX5_nearest_85 (by decide) (fun bq85 => ?_) (fun bq85 => ?_)
                · skip
                  have v2 : ¬ (b ≤ a ∧ sWrong (I (P m 0)) (a - b) = 0) := fun w => bq85 w.2
                  have hs : sgnS (I (P m 0)) n a b = 0 := by rw [sgnS, if_neg v1, if_neg v2]
                  refine r_iconst (pc := 92) (v := 0) hC dX5_nearest_92 (by decide) ?_
                  refine r_istore_n (pc := 93) (L' := [_, _, _, _]) hC dX5_nearest_93 rfl (Nat.le_of_ble_eq_true rfl) rfl ?_
                  refine r_iload_n (pc := 94) hC dX5_nearest_94 rfl ?_
                  refine r_if_eq (pc := 95) (tgt := 119) hC dX5_nearest_95 (by decide) (fun bq95 => ?_) (fun bq95 => ?_)
                  · skip
                    refine r_iinc (pc := 119) (v := 1) (L' := [_, _, _, _]) hC dX5_nearest_119 rfl (by decide) rfl rfl ?_
                    refine r_goto (pc := 122) (tgt := 14) hC dX5_nearest_122 (by decide) ?_
                    rw [nI_1]
                    exact ih (b + 1) (by omega) (fun i hi => by rcases Nat.lt_or_ge i b with y | y; exact hno i y; rw [show i = b by omega, hca]; exact hs) _
                  · skip
                    exact absurd rfl bq95
                · skip
                  have hs : sgnS (I (P m 0)) n a b = -1 := by rw [sgnS, if_neg v1, if_pos ⟨u2, bq85⟩]
                  refine r_iconst (pc := 88) (v := -1) hC dX5_nearest_88 (by decide) ?_
                  refine r_goto (pc := 89) (tgt := 93) hC dX5_nearest_89 (by decide) ?_
                  refine r_istore_n (pc := 93) (L' := [_, _, _, _]) hC dX5_nearest_93 rfl (Nat.le_of_ble_eq_true rfl) rfl ?_
                  refine r_iload_n (pc := 94) hC dX5_nearest_94 rfl ?_
                  refine r_if_eq (pc := 95) (tgt := 119) hC dX5_nearest_95 (by decide) (fun bq95 => ?_) (fun bq95 => ?_)
                  · skip
                    exact absurd bq95 (by decide)
                  · skip
                    refine r_iload_n (pc := 98) hC dX5_nearest_98 rfl ?_
                    refine r_if_ne (pc := 99) (tgt := 115) hC dX5_nearest_99 (by decide) (fun bq99 => ?_) (fun bq99 => ?_)
                    · skip
                      refine r_iload_n (pc := 115) hC dX5_nearest_115 rfl ?_
                      refine r_iload_n (pc := 116) hC dX5_nearest_116 rfl ?_
                      refine r_imul (pc := 117) hC dX5_nearest_117 ?_
                      refine r_iret (pc := 118) hC hD rfl dX5_nearest_118 rfl ?_
                      have hx : nearB (I (P m 0)) n a = b := srch_at n 0 b (by omega) (by omega) (fun i _ hi => by rw [← hca]; simpa using hno i hi) (Or.inr (by rw [decide_eq_true_eq, hs]; decide))
                      exact ⟨by rw [aNear, if_neg bq6, hcn, hca, hx, if_neg (by omega), if_neg bq99, hs], rfl, rfl, rfl⟩
                    · skip
                      refine r_aload_n (pc := 102) hC dX5_nearest_102 rfl ?_
                      refine g_Model_s (pc := 103) hC wi_X5_nearest_5 wl_X5_nearest_7 (by assumption) (c2 := 7) (by assumption) (by decide) dX5_nearest_103 ?_
                      refine r_iconst (pc := 106) (v := 1) hC dX5_nearest_106 (by decide) ?_
                      refine r_iald (pc := 107) hC ks (xi_l (k := 1) ls (by decide) (by decide) (by decide)) dX5_nearest_107 ?_
                      refine r_iload_n (pc := 108) hC dX5_nearest_108 rfl ?_
                      refine r_iload_n (pc := 109) hC dX5_nearest_109 rfl ?_
                      refine r_imul (pc := 110) hC dX5_nearest_110 ?_
                      refine r_iadd (pc := 111) hC dX5_nearest_111 ?_
                      refine r_goto (pc := 112) (tgt := 118) hC dX5_nearest_112 (by decide) ?_
                      refine r_iret (pc := 118) hC hD rfl dX5_nearest_118 rfl ?_
                      have hx : nearB (I (P m 0)) n a = b := srch_at n 0 b (by omega) (by omega) (fun i _ hi => by rw [← hca]; simpa using hno i hi) (Or.inr (by rw [decide_eq_true_eq, hs]; decide))
                      exact ⟨by rw [aNear, if_neg bq6, hcn, hca, hx, if_neg (by omega), if_pos bq99, hs], rfl, rfl, rfl⟩
            · skip
              have hs : sgnS (I (P m 0)) n a b = 1 := if_pos ⟨u1, bq51⟩
              refine r_iconst (pc := 54) (v := 1) hC dX5_nearest_54 (by decide) ?_
              refine r_goto (pc := 55) (tgt := 93) hC dX5_nearest_55 (by decide) ?_
              refine r_istore_n (pc := 93) (L' := [_, _, _, _]) hC dX5_nearest_93 rfl (Nat.le_of_ble_eq_true rfl) rfl ?_
              refine r_iload_n (pc := 94) hC dX5_nearest_94 rfl ?_
              refine r_if_eq (pc := 95) (tgt := 119) hC dX5_nearest_95 (by decide) (fun bq95 => ?_) (fun bq95 => ?_)
              · skip
                exact absurd bq95 (by decide)
              · skip
                refine r_iload_n (pc := 98) hC dX5_nearest_98 rfl ?_
                refine r_if_ne (pc := 99) (tgt := 115) hC dX5_nearest_99 (by decide) (fun bq99 => ?_) (fun bq99 => ?_)
                · skip
                  refine r_iload_n (pc := 115) hC dX5_nearest_115 rfl ?_
                  refine r_iload_n (pc := 116) hC dX5_nearest_116 rfl ?_
                  refine r_imul (pc := 117) hC dX5_nearest_117 ?_
                  refine r_iret (pc := 118) hC hD rfl dX5_nearest_118 rfl ?_
                  have hx : nearB (I (P m 0)) n a = b := srch_at n 0 b (by omega) (by omega) (fun i _ hi => by rw [← hca]; simpa using hno i hi) (Or.inr (by rw [decide_eq_true_eq, hs]; decide))
                  exact ⟨by rw [aNear, if_neg bq6, hcn, hca, hx, if_neg (by omega), if_neg bq99, hs], rfl, rfl, rfl⟩
                · skip
                  refine r_aload_n (pc := 102) hC dX5_nearest_102 rfl ?_
                  refine g_Model_s (pc := 103) hC wi_X5_nearest_5 wl_X5_nearest_7 (by assumption) (c2 := 7) (by assumption) (by decide) dX5_nearest_103 ?_
                  refine r_iconst (pc := 106) (v := 1) hC dX5_nearest_106 (by decide) ?_
                  refine r_iald (pc := 107) hC ks (xi_l (k := 1) ls (by decide) (by decide) (by decide)) dX5_nearest_107 ?_
                  refine r_iload_n (pc := 108) hC dX5_nearest_108 rfl ?_
                  refine r_iload_n (pc := 109) hC dX5_nearest_109 rfl ?_
                  refine r_imul (pc := 110) hC dX5_nearest_110 ?_
                  refine r_iadd (pc := 111) hC dX5_nearest_111 ?_
                  refine r_goto (pc := 112) (tgt := 118) hC dX5_nearest_112 (by decide) ?_
                  refine r_iret (pc := 118) hC hD rfl dX5_nearest_118 rfl ?_
                  have hx : nearB (I (P m 0)) n a = b := srch_at n 0 b (by omega) (by omega) (fun i _ hi => by rw [← hca]; simpa using hno i hi) (Or.inr (by rw [decide_eq_true_eq, hs]; decide))
                  exact ⟨by rw [aNear, if_neg bq6, hcn, hca, hx, if_neg (by omega), if_pos bq99, hs], rfl, rfl, rfl⟩
    refine r_iconst (pc := 12) (v := 0) hC dX5_nearest_12 (by decide) ?_
    refine r_istore_n (pc := 13) (L' := [_, _, _, _]) hC dX5_nearest_13 rfl (Nat.le_of_ble_eq_true rfl) rfl ?_
    exact loop n 0 (by omega) (fun i hi => absurd hi (by omega)) _
  · skip
    refine r_ldc (pc := 9) (v := -1000001) hC dX5_nearest_9 wl_X5_nearest_92 ?_
    refine r_iret (pc := 11) hC hD rfl dX5_nearest_11 rfl ?_
    exact ⟨by rw [aNear, if_pos bq6], rfl, rfl, rfl⟩
theorem k_X5_nearest {X : xF} {G : xG} {cs : Nat × Nat} {μ : xM} {I : xI} {P : xP} {L : List (Option Value)} {pc : Nat} {rest : List Value} {cc : ByteArray} {Ts : List Cond} {own : String} {nL : Nat} {R : Room} (hC : xC X G cc Ts own nL R) {index : Nat} (hG : GoodIn Ts (wsV own index RX5 yX5_nearest wsX5_nearest)) (hR : rm_X5_nearest.frames + 1 ≤ R.frames ∧ 8 + (4 + 11) + rm_X5_nearest.locals ≤ R.locals) {m n q : Nat} {w : Int32} (km : μ.2.1 m = 6) (ks : μ.2.1 (P m 0) = 7) (ls : μ.2.2 (P m 0) = 369) (hinv : invN (I (P m 0)) n q) (hW : (rest.map fun v => v.category).sum ≤ 8) (hL : L.length = nL) (hcs : cs.1 ≤ R.cells ∧ cs.2 ≤ R.slots) (hdec : decode cc pc = .ok (.invokevirtual index, 3)) (kk : xg X G cs μ I P L (pc + 3) (.int (aNear (I (P m 0)) w) :: rest)) : xg X G cs μ I P L pc (.int w :: .ref (xZ G + m) :: rest) :=
  r_callV hC (c_X5_nearest X.2.1 km ks ls hinv) hG rfl rfl rfl hd_X5_nearest hR (by rw [km]; decide) (xe_Model km) rfl rfl rfl hW hL hcs hdec (by rintro v μ' I' P' ⟨rfl, rfl, rfl, rfl⟩; exact kk)
