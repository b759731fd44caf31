abbrev rm_X5_stop : Room := { frames := 4, cells := 0, slots := 0, locals := 90 }
theorem wl_X5_stop_7 : Cond.fieldLink RX5 7 "HandBlindsModel" "s" "[I" ∈ wsX5_stop := List.mem_of_getElem? (i := 1) (by decide +kernel)
theorem wi_X5_stop_5 : ∀ w ∈ wsX50, w ∈ wsX5_stop := fun _ h => List.mem_cons_of_mem _ (List.mem_append_right _ h)
theorem hd_X5_stop : yX5_stop.cls = RX5 ∧ yX5_stop.cls ≠ "java/lang/invoke/MethodHandle" ∧ yX5_stop.cls ≠ "java/lang/invoke/VarHandle" ∧ (parseMethodDescriptor yX5_stop.desc).map (fun d => d.parameters.length) = some 0 := ⟨rfl, by decide +kernel, by decide +kernel, by decide +kernel⟩
set_option maxHeartbeats 4000000 in
set_option maxRecDepth 100000 in
theorem c_X5_stop (l : Launch) {G : xG} {μ : xM} {I : xI} {P : xP} {m h n q : Nat} (km : μ.2.1 m = 6) (ks : μ.2.1 (P m 0) = 7) (ls : μ.2.2 (P m 0) = 369) (kp : μ.2.1 (P m 1) = 7) (lp : μ.2.2 (P m 1) = 1476) (hsp : P m 0 ≠ P m 1) (hh : I m 3 = nI h) (hh4 : h ≤ 4) (hinv : invN (I (P m 0)) n q) : Ct l yX5_stop wsX5_stop rm_X5_stop G μ I P [.ref (xZ G + m)] 0 0 (fun vv μ' I' P' => vv = some (.int (aWrong (I (P m 0)))) ∧ μ' = μ ∧ P' = P ∧ mQ m (P m 0) (P m 1) (P m 2) I (xchg m (P m 0) (P m 1) h I) I' (sStop (I (P m 0)))) := by
  obtain ⟨hn20, hn, hq6, hq, hsh, hdr, h8r, h9r, h10r, hrows⟩ := id hinv
  have hmp : m ≠ P m 1 := fun e => by rw [← e, km] at kp; cases kp
  have hms : m ≠ P m 0 := fun e => by rw [← e, km] at ks; cases ks
  have cS : xchg m (P m 0) (P m 1) h I (P m 0) = I (P m 0) := xchg_s hsp (Ne.symm hms)
  have cQ := @mQ_chg m (P m 0) (P m 1) (P m 2) h I
  have h8 : ¬ I (P m 0) 8 = 0 := fun e => by have h81 := h8r.1; rw [e] at h81; exact absurd h81 (by decide)
  have hdr2 : ¬ I (P m 0) 3 < 0 → ∃ d, d < 6 ∧ I (P m 0) 3 = nI d := fun w => by
    rcases hdr with e | ⟨d, hd, e⟩
    · rw [e] at w; exact absurd (by decide) w
    · exact ⟨d, by omega, e⟩
  refine Ct.of (cc := cX5_stop) (maxL := 3) (ret := (some .int)) [some (.ref (xZ G + m)), none, none] (by decide) rfl rfl rfl (Nat.le_of_ble_eq_true rfl) ?_
  intro X hC hD h0 _
  rcases hsh with ⟨hn0, h1⟩ | ⟨a, han, h1⟩
  · have hW : aWrong (I (P m 0)) = 1 := by rw [aWrong, if_pos (by rw [h1]; decide)]
    refine r_aload_n (pc := 0) hC dX5_stop_0 rfl ?_
    refine k_X5_changes (pc := 1) hC gX5_stop_X5_changes ⟨Nat.le_of_ble_eq_true rfl, Nat.le_of_ble_eq_true rfl⟩ km ks ls kp lp hsp hh hh4 (Nat.le_of_ble_eq_true rfl) rfl ⟨Nat.zero_le _, Nat.zero_le _⟩ dX5_stop_1 ?_
    refine r_aload_n (pc := 4) hC dX5_stop_4 rfl ?_
    refine r_aload_n (pc := 5) hC dX5_stop_5 rfl ?_
    refine g_Model_s (pc := 6) hC wi_X5_stop_5 wl_X5_stop_7 (by assumption) (c2 := 7) (by assumption) (by decide) dX5_stop_6 ?_
    refine r_iconst (pc := 9) (v := 1) hC dX5_stop_9 (by decide) ?_
    refine r_iald (pc := 10) hC ks (xi_l (k := 1) ls (by decide) (by decide) (by decide)) dX5_stop_10 ?_
    rw [cS, h1]
    refine k_X5_wrongBy_n (pc := 11) hC gX5_stop_X5_wrongBy ⟨Nat.le_of_ble_eq_true rfl, Nat.le_of_ble_eq_true rfl⟩ km ks ls (by decide) (Nat.le_of_ble_eq_true rfl) rfl ⟨Nat.zero_le _, Nat.zero_le _⟩ dX5_stop_11 ?_
    refine r_istore_n (pc := 14) (L' := [_, _, _]) hC dX5_stop_14 rfl (Nat.le_of_ble_eq_true rfl) rfl ?_
    refine r_iload_n (pc := 15) hC dX5_stop_15 rfl ?_
    refine r_if_ne (pc := 16) (tgt := 23) hC dX5_stop_16 (by decide) (fun bq16 => ?_) (fun bq16 => ?_)
    · skip
      refine r_iconst (pc := 23) (v := 0) hC dX5_stop_23 (by decide) ?_
      refine r_istore_n (pc := 24) (L' := [_, _, _]) hC dX5_stop_24 rfl (Nat.le_of_ble_eq_true rfl) rfl ?_
      obtain ⟨z, hz⟩ : ∃ z : Int32, z = 0 := ⟨_, rfl⟩
      have hzr : xright (aWrong (I (P m 0))) = z := by rw [hW, hz]; rw [xright, if_neg bq16]
      rw [← hz]
      refine r_aload_n (pc := 25) hC dX5_stop_25 rfl ?_
      refine g_Model_s (pc := 26) hC wi_X5_stop_5 wl_X5_stop_7 (by assumption) (c2 := 7) (by assumption) (by decide) dX5_stop_26 ?_
      refine r_bipush (pc := 29) (v := 6) hC dX5_stop_29 (by decide) ?_
      refine r_dup2 (pc := 31) hC dX5_stop_31 rfl rfl ?_
      refine r_iald (pc := 32) hC ks (xi_l (k := 6) ls (by decide) (by decide) (by decide)) dX5_stop_32 ?_
      refine r_iconst (pc := 33) (v := 1) hC dX5_stop_33 (by decide) ?_
      refine r_iadd (pc := 34) hC dX5_stop_34 ?_
      refine r_iast (pc := 35) hC ks (xi_l (k := 6) ls (by decide) (by decide) (by decide)) dX5_stop_35 ?_
      refine r_aload_n (pc := 36) hC dX5_stop_36 rfl ?_
      refine g_Model_s (pc := 37) hC wi_X5_stop_5 wl_X5_stop_7 (by assumption) (c2 := 7) (by assumption) (by decide) dX5_stop_37 ?_
      refine r_bipush (pc := 40) (v := 7) hC dX5_stop_40 (by decide) ?_
      refine r_dup2 (pc := 42) hC dX5_stop_42 rfl rfl ?_
      refine r_iald (pc := 43) hC ks (xi_l (k := 7) ls (by decide) (by decide) (by decide)) dX5_stop_43 ?_
      refine r_iload_n (pc := 44) hC dX5_stop_44 rfl ?_
      refine r_iadd (pc := 45) hC dX5_stop_45 ?_
      refine r_iast (pc := 46) hC ks (xi_l (k := 7) ls (by decide) (by decide) (by decide)) dX5_stop_46 ?_
      obtain ⟨J, hJ⟩ : ∃ J : xI, J = (xu (xu (xchg m (P m 0) (P m 1) h I) (P m 0) 6 ((xchg m (P m 0) (P m 1) h I) (P m 0) 6 + 1)) (P m 0) 7 (xu (xchg m (P m 0) (P m 1) h I) (P m 0) 6 ((xchg m (P m 0) (P m 1) h I) (P m 0) 6 + 1) (P m 0) 7 + z)) := ⟨_, rfl⟩
      rw [← hJ]
      have hJS : J (P m 0) = upd (upd (I (P m 0)) 6 ((I (P m 0)) 6 + 1)) 7 ((I (P m 0)) 7 + z) := by rw [hJ, xu_upd, xu_upd, cS]; simp [upd]
      have hJo : ∀ b, b ≠ P m 0 → J b = (xchg m (P m 0) (P m 1) h I) b := fun b hb => by rw [hJ, xu_row hb, xu_row hb]
      have f3 : J (P m 0) 3 = (I (P m 0)) 3 := by rw [hJS]; rfl
      refine r_aload_n (pc := 47) hC dX5_stop_47 rfl ?_
      refine g_Model_s (pc := 48) hC wi_X5_stop_5 wl_X5_stop_7 (by assumption) (c2 := 7) (by assumption) (by decide) dX5_stop_48 ?_
      refine r_iconst (pc := 51) (v := 3) hC dX5_stop_51 (by decide) ?_
      refine r_iald (pc := 52) hC ks (xi_l (k := 3) ls (by decide) (by decide) (by decide)) dX5_stop_52 ?_
      rw [f3]
      refine r_if_lt (pc := 53) (tgt := 102) hC dX5_stop_53 (by decide) (fun bq53 => ?_) (fun bq53 => ?_)
      · skip
        refine r_iload_n (pc := 102) hC dX5_stop_102 rfl ?_
        refine r_iret (pc := 103) hC hD rfl dX5_stop_103 rfl ?_
        refine ⟨by rw [hW], rfl, rfl, cQ hmp hms hsp ?_ hJo⟩
        rw [hJS, sStop, hzr, if_pos bq53]
      · skip
        obtain ⟨d, hd6, hd⟩ := hdr2 bq53
        have hsd : sDrv (I (P m 0)) = d := by rw [sDrv, hd, nI_clamp (by omega)]
        refine r_aload_n (pc := 56) hC dX5_stop_56 rfl ?_
        refine g_Model_s (pc := 57) hC wi_X5_stop_5 wl_X5_stop_7 (by assumption) (c2 := 7) (by assumption) (by decide) dX5_stop_57 ?_
        refine r_sipush (pc := 60) (v := 351) hC dX5_stop_60 (by decide) ?_
        refine r_iconst (pc := 63) (v := 3) hC dX5_stop_63 (by decide) ?_
        refine r_aload_n (pc := 64) hC dX5_stop_64 rfl ?_
        refine g_Model_s (pc := 65) hC wi_X5_stop_5 wl_X5_stop_7 (by assumption) (c2 := 7) (by assumption) (by decide) dX5_stop_65 ?_
        refine r_iconst (pc := 68) (v := 3) hC dX5_stop_68 (by decide) ?_
        refine r_iald (pc := 69) hC ks (xi_l (k := 3) ls (by decide) (by decide) (by decide)) dX5_stop_69 ?_
        rw [f3, hd]
        refine r_imul (pc := 70) hC dX5_stop_70 ?_
        refine r_iadd (pc := 71) hC dX5_stop_71 ?_
        refine r_iconst (pc := 72) (v := 1) hC dX5_stop_72 (by decide) ?_
        refine r_iadd (pc := 73) hC dX5_stop_73 ?_
        refine r_dup2 (pc := 74) hC dX5_stop_74 rfl rfl ?_
        refine r_iald (pc := 75) hC ks (xi_e (k := 352 + 3 * d) (by simp only [xlit, nI_add, pk_mul] <;> exact congrArg nI (by omega)) ls (by omega) (by decide)) dX5_stop_75 ?_
        refine r_iconst (pc := 76) (v := 1) hC dX5_stop_76 (by decide) ?_
        refine r_iadd (pc := 77) hC dX5_stop_77 ?_
        refine r_iast (pc := 78) hC ks (xi_e (k := 352 + 3 * d) (by simp only [xlit, nI_add, pk_mul] <;> exact congrArg nI (by omega)) ls (by omega) (by decide)) dX5_stop_78 ?_
        obtain ⟨K, hK⟩ : ∃ K : xI, K = xu J (P m 0) (352 + 3 * d) (J (P m 0) (352 + 3 * d) + 1) := ⟨_, rfl⟩
        rw [← hK]
        have k3 : K (P m 0) 3 = (I (P m 0)) 3 := by rw [hK, xu_ne (Or.inr (by omega)), f3]
        have hKo : ∀ b, b ≠ P m 0 → K b = (xchg m (P m 0) (P m 1) h I) b := fun b hb => by rw [hK, xu_row hb, hJo b hb]
        refine r_aload_n (pc := 79) hC dX5_stop_79 rfl ?_
        refine g_Model_s (pc := 80) hC wi_X5_stop_5 wl_X5_stop_7 (by assumption) (c2 := 7) (by assumption) (by decide) dX5_stop_80 ?_
        refine r_sipush (pc := 83) (v := 351) hC dX5_stop_83 (by decide) ?_
        refine r_iconst (pc := 86) (v := 3) hC dX5_stop_86 (by decide) ?_
        refine r_aload_n (pc := 87) hC dX5_stop_87 rfl ?_
        refine g_Model_s (pc := 88) hC wi_X5_stop_5 wl_X5_stop_7 (by assumption) (c2 := 7) (by assumption) (by decide) dX5_stop_88 ?_
        refine r_iconst (pc := 91) (v := 3) hC dX5_stop_91 (by decide) ?_
        refine r_iald (pc := 92) hC ks (xi_l (k := 3) ls (by decide) (by decide) (by decide)) dX5_stop_92 ?_
        rw [k3, hd]
        refine r_imul (pc := 93) hC dX5_stop_93 ?_
        refine r_iadd (pc := 94) hC dX5_stop_94 ?_
        refine r_iconst (pc := 95) (v := 2) hC dX5_stop_95 (by decide) ?_
        refine r_iadd (pc := 96) hC dX5_stop_96 ?_
        refine r_dup2 (pc := 97) hC dX5_stop_97 rfl rfl ?_
        refine r_iald (pc := 98) hC ks (xi_e (k := 353 + 3 * d) (by simp only [xlit, nI_add, pk_mul] <;> exact congrArg nI (by omega)) ls (by omega) (by decide)) dX5_stop_98 ?_
        refine r_iload_n (pc := 99) hC dX5_stop_99 rfl ?_
        refine r_iadd (pc := 100) hC dX5_stop_100 ?_
        refine r_iast (pc := 101) hC ks (xi_e (k := 353 + 3 * d) (by simp only [xlit, nI_add, pk_mul] <;> exact congrArg nI (by omega)) ls (by omega) (by decide)) dX5_stop_101 ?_
        refine r_iload_n (pc := 102) hC dX5_stop_102 rfl ?_
        refine r_iret (pc := 103) hC hD rfl dX5_stop_103 rfl ?_
        refine ⟨by rw [hW], rfl, rfl, cQ hmp hms hsp ?_ (fun b hb => by rw [xu_row hb, hKo b hb])⟩
        rw [xu_upd, hK, xu_upd, hJS, sStop, hzr, if_neg bq53, hsd]
        have q1 : ¬ 352 + 3 * d = 7 := by omega
        have q2 : ¬ 352 + 3 * d = 6 := by omega
        have q3 : ¬ 353 + 3 * d = 7 := by omega
        have q4 : ¬ 353 + 3 * d = 6 := by omega
        have q5 : ¬ 353 + 3 * d = 352 + 3 * d := by omega
        simp [upd, q1, q2, q3, q4, q5]
    · skip
      exact absurd bq16 (by decide)
  · have hW : aWrong (I (P m 0)) = sWrong (I (P m 0)) a := by rw [aWrong, if_neg (by rw [h1]; exact nI_pos (by omega)), h1, nI_clamp (by omega)]
    obtain ⟨L, hL1, hL14, hl, hnm, htn⟩ := hrows a han
    refine r_aload_n (pc := 0) hC dX5_stop_0 rfl ?_
    refine k_X5_changes (pc := 1) hC gX5_stop_X5_changes ⟨Nat.le_of_ble_eq_true rfl, Nat.le_of_ble_eq_true rfl⟩ km ks ls kp lp hsp hh hh4 (Nat.le_of_ble_eq_true rfl) rfl ⟨Nat.zero_le _, Nat.zero_le _⟩ dX5_stop_1 ?_
    refine r_aload_n (pc := 4) hC dX5_stop_4 rfl ?_
    refine r_aload_n (pc := 5) hC dX5_stop_5 rfl ?_
    refine g_Model_s (pc := 6) hC wi_X5_stop_5 wl_X5_stop_7 (by assumption) (c2 := 7) (by assumption) (by decide) dX5_stop_6 ?_
    refine r_iconst (pc := 9) (v := 1) hC dX5_stop_9 (by decide) ?_
    refine r_iald (pc := 10) hC ks (xi_l (k := 1) ls (by decide) (by decide) (by decide)) dX5_stop_10 ?_
    rw [cS, h1]
    refine k_X5_wrongBy (pc := 11) hC gX5_stop_X5_wrongBy ⟨Nat.le_of_ble_eq_true rfl, Nat.le_of_ble_eq_true rfl⟩ km ks ls rfl (by omega) (by rw [cS]; exact hl) hL14 (by rw [cS]; exact h8) (by rw [cS]; exact hdr2) (Nat.le_of_ble_eq_true rfl) rfl ⟨Nat.zero_le _, Nat.zero_le _⟩ dX5_stop_11 ?_
    rw [cS]
    refine r_istore_n (pc := 14) (L' := [_, _, _]) hC dX5_stop_14 rfl (Nat.le_of_ble_eq_true rfl) rfl ?_
    refine r_iload_n (pc := 15) hC dX5_stop_15 rfl ?_
    refine r_if_ne (pc := 16) (tgt := 23) hC dX5_stop_16 (by decide) (fun bq16 => ?_) (fun bq16 => ?_)
    · skip
      refine r_iconst (pc := 23) (v := 0) hC dX5_stop_23 (by decide) ?_
      refine r_istore_n (pc := 24) (L' := [_, _, _]) hC dX5_stop_24 rfl (Nat.le_of_ble_eq_true rfl) rfl ?_
      obtain ⟨z, hz⟩ : ∃ z : Int32, z = 0 := ⟨_, rfl⟩
      have hzr : xright (aWrong (I (P m 0))) = z := by rw [hW, hz]; rw [xright, if_neg bq16]
      rw [← hz]
      refine r_aload_n (pc := 25) hC dX5_stop_25 rfl ?_
      refine g_Model_s (pc := 26) hC wi_X5_stop_5 wl_X5_stop_7 (by assumption) (c2 := 7) (by assumption) (by decide) dX5_stop_26 ?_
      refine r_bipush (pc := 29) (v := 6) hC dX5_stop_29 (by decide) ?_
      refine r_dup2 (pc := 31) hC dX5_stop_31 rfl rfl ?_
      refine r_iald (pc := 32) hC ks (xi_l (k := 6) ls (by decide) (by decide) (by decide)) dX5_stop_32 ?_
      refine r_iconst (pc := 33) (v := 1) hC dX5_stop_33 (by decide) ?_
      refine r_iadd (pc := 34) hC dX5_stop_34 ?_
      refine r_iast (pc := 35) hC ks (xi_l (k := 6) ls (by decide) (by decide) (by decide)) dX5_stop_35 ?_
      refine r_aload_n (pc := 36) hC dX5_stop_36 rfl ?_
      refine g_Model_s (pc := 37) hC wi_X5_stop_5 wl_X5_stop_7 (by assumption) (c2 := 7) (by assumption) (by decide) dX5_stop_37 ?_
      refine r_bipush (pc := 40) (v := 7) hC dX5_stop_40 (by decide) ?_
      refine r_dup2 (pc := 42) hC dX5_stop_42 rfl rfl ?_
      refine r_iald (pc := 43) hC ks (xi_l (k := 7) ls (by decide) (by decide) (by decide)) dX5_stop_43 ?_
      refine r_iload_n (pc := 44) hC dX5_stop_44 rfl ?_
      refine r_iadd (pc := 45) hC dX5_stop_45 ?_
      refine r_iast (pc := 46) hC ks (xi_l (k := 7) ls (by decide) (by decide) (by decide)) dX5_stop_46 ?_
      obtain ⟨J, hJ⟩ : ∃ J : xI, J = (xu (xu (xchg m (P m 0) (P m 1) h I) (P m 0) 6 ((xchg m (P m 0) (P m 1) h I) (P m 0) 6 + 1)) (P m 0) 7 (xu (xchg m (P m 0) (P m 1) h I) (P m 0) 6 ((xchg m (P m 0) (P m 1) h I) (P m 0) 6 + 1) (P m 0) 7 + z)) := ⟨_, rfl⟩
      rw [← hJ]
      have hJS : J (P m 0) = upd (upd (I (P m 0)) 6 ((I (P m 0)) 6 + 1)) 7 ((I (P m 0)) 7 + z) := by rw [hJ, xu_upd, xu_upd, cS]; simp [upd]
      have hJo : ∀ b, b ≠ P m 0 → J b = (xchg m (P m 0) (P m 1) h I) b := fun b hb => by rw [hJ, xu_row hb, xu_row hb]
      have f3 : J (P m 0) 3 = (I (P m 0)) 3 := by rw [hJS]; rfl
      refine r_aload_n (pc := 47) hC dX5_stop_47 rfl ?_
      refine g_Model_s (pc := 48) hC wi_X5_stop_5 wl_X5_stop_7 (by assumption) (c2 := 7) (by assumption) (by decide) dX5_stop_48 ?_
      refine r_iconst (pc := 51) (v := 3) hC dX5_stop_51 (by decide) ?_
      refine r_iald (pc := 52) hC ks (xi_l (k := 3) ls (by decide) (by decide) (by decide)) dX5_stop_52 ?_
      rw [f3]
      refine r_if_lt (pc := 53) (tgt := 102) hC dX5_stop_53 (by decide) (fun bq53 => ?_) (fun bq53 => ?_)
      · skip
        refine r_iload_n (pc := 102) hC dX5_stop_102 rfl ?_
        refine r_iret (pc := 103) hC hD rfl dX5_stop_103 rfl ?_
        refine ⟨by rw [hW], rfl, rfl, cQ hmp hms hsp ?_ hJo⟩
        rw [hJS, sStop, hzr, if_pos bq53]
      · skip
        obtain ⟨d, hd6, hd⟩ := hdr2 bq53
        have hsd : sDrv (I (P m 0)) = d := by rw [sDrv, hd, nI_clamp (by omega)]
        refine r_aload_n (pc := 56) hC dX5_stop_56 rfl ?_
        refine g_Model_s (pc := 57) hC wi_X5_stop_5 wl_X5_stop_7 (by assumption) (c2 := 7) (by assumption) (by decide) dX5_stop_57 ?_
        refine r_sipush (pc := 60) (v := 351) hC dX5_stop_60 (by decide) ?_
        refine r_iconst (pc := 63) (v := 3) hC dX5_stop_63 (by decide) ?_
        refine r_aload_n (pc := 64) hC dX5_stop_64 rfl ?_
        refine g_Model_s (pc := 65) hC wi_X5_stop_5 wl_X5_stop_7 (by assumption) (c2 := 7) (by assumption) (by decide) dX5_stop_65 ?_
        refine r_iconst (pc := 68) (v := 3) hC dX5_stop_68 (by decide) ?_
        refine r_iald (pc := 69) hC ks (xi_l (k := 3) ls (by decide) (by decide) (by decide)) dX5_stop_69 ?_
        rw [f3, hd]
        refine r_imul (pc := 70) hC dX5_stop_70 ?_
        refine r_iadd (pc := 71) hC dX5_stop_71 ?_
        refine r_iconst (pc := 72) (v := 1) hC dX5_stop_72 (by decide) ?_
        refine r_iadd (pc := 73) hC dX5_stop_73 ?_
        refine r_dup2 (pc := 74) hC dX5_stop_74 rfl rfl ?_
        refine r_iald (pc := 75) hC ks (xi_e (k := 352 + 3 * d) (by simp only [xlit, nI_add, pk_mul] <;> exact congrArg nI (by omega)) ls (by omega) (by decide)) dX5_stop_75 ?_
        refine r_iconst (pc := 76) (v := 1) hC dX5_stop_76 (by decide) ?_
        refine r_iadd (pc := 77) hC dX5_stop_77 ?_
        refine r_iast (pc := 78) hC ks (xi_e (k := 352 + 3 * d) (by simp only [xlit, nI_add, pk_mul] <;> exact congrArg nI (by omega)) ls (by omega) (by decide)) dX5_stop_78 ?_
        obtain ⟨K, hK⟩ : ∃ K : xI, K = xu J (P m 0) (352 + 3 * d) (J (P m 0) (352 + 3 * d) + 1) := ⟨_, rfl⟩
        rw [← hK]
        have k3 : K (P m 0) 3 = (I (P m 0)) 3 := by rw [hK, xu_ne (Or.inr (by omega)), f3]
        have hKo : ∀ b, b ≠ P m 0 → K b = (xchg m (P m 0) (P m 1) h I) b := fun b hb => by rw [hK, xu_row hb, hJo b hb]
        refine r_aload_n (pc := 79) hC dX5_stop_79 rfl ?_
        refine g_Model_s (pc := 80) hC wi_X5_stop_5 wl_X5_stop_7 (by assumption) (c2 := 7) (by assumption) (by decide) dX5_stop_80 ?_
        refine r_sipush (pc := 83) (v := 351) hC dX5_stop_83 (by decide) ?_
        refine r_iconst (pc := 86) (v := 3) hC dX5_stop_86 (by decide) ?_
        refine r_aload_n (pc := 87) hC dX5_stop_87 rfl ?_
        refine g_Model_s (pc := 88) hC wi_X5_stop_5 wl_X5_stop_7 (by assumption) (c2 := 7) (by assumption) (by decide) dX5_stop_88 ?_
        refine r_iconst (pc := 91) (v := 3) hC dX5_stop_91 (by decide) ?_
        refine r_iald (pc := 92) hC ks (xi_l (k := 3) ls (by decide) (by decide) (by decide)) dX5_stop_92 ?_
        rw [k3, hd]
        refine r_imul (pc := 93) hC dX5_stop_93 ?_
        refine r_iadd (pc := 94) hC dX5_stop_94 ?_
        refine r_iconst (pc := 95) (v := 2) hC dX5_stop_95 (by decide) ?_
        refine r_iadd (pc := 96) hC dX5_stop_96 ?_
        refine r_dup2 (pc := 97) hC dX5_stop_97 rfl rfl ?_
        refine r_iald (pc := 98) hC ks (xi_e (k := 353 + 3 * d) (by simp only [xlit, nI_add, pk_mul] <;> exact congrArg nI (by omega)) ls (by omega) (by decide)) dX5_stop_98 ?_
        refine r_iload_n (pc := 99) hC dX5_stop_99 rfl ?_
        refine r_iadd (pc := 100) hC dX5_stop_100 ?_
        refine r_iast (pc := 101) hC ks (xi_e (k := 353 + 3 * d) (by simp only [xlit, nI_add, pk_mul] <;> exact congrArg nI (by omega)) ls (by omega) (by decide)) dX5_stop_101 ?_
        refine r_iload_n (pc := 102) hC dX5_stop_102 rfl ?_
        refine r_iret (pc := 103) hC hD rfl dX5_stop_103 rfl ?_
        refine ⟨by rw [hW], rfl, rfl, cQ hmp hms hsp ?_ (fun b hb => by rw [xu_row hb, hKo b hb])⟩
        rw [xu_upd, hK, xu_upd, hJS, sStop, hzr, if_neg bq53, hsd]
        have q1 : ¬ 352 + 3 * d = 7 := by omega
        have q2 : ¬ 352 + 3 * d = 6 := by omega
        have q3 : ¬ 353 + 3 * d = 7 := by omega
        have q4 : ¬ 353 + 3 * d = 6 := by omega
        have q5 : ¬ 353 + 3 * d = 352 + 3 * d := by omega
        simp [upd, q1, q2, q3, q4, q5]
    · skip
      refine r_iconst (pc := 19) (v := 1) hC dX5_stop_19 (by decide) ?_
      refine r_goto (pc := 20) (tgt := 24) hC dX5_stop_20 (by decide) ?_
      refine r_istore_n (pc := 24) (L' := [_, _, _]) hC dX5_stop_24 rfl (Nat.le_of_ble_eq_true rfl) rfl ?_
      obtain ⟨z, hz⟩ : ∃ z : Int32, z = 1 := ⟨_, rfl⟩
      have hzr : xright (aWrong (I (P m 0))) = z := by rw [hW, hz]; rw [xright, if_pos bq16]
      rw [← hz]
      refine r_aload_n (pc := 25) hC dX5_stop_25 rfl ?_
      refine g_Model_s (pc := 26) hC wi_X5_stop_5 wl_X5_stop_7 (by assumption) (c2 := 7) (by assumption) (by decide) dX5_stop_26 ?_
      refine r_bipush (pc := 29) (v := 6) hC dX5_stop_29 (by decide) ?_
      refine r_dup2 (pc := 31) hC dX5_stop_31 rfl rfl ?_
      refine r_iald (pc := 32) hC ks (xi_l (k := 6) ls (by decide) (by decide) (by decide)) dX5_stop_32 ?_
      refine r_iconst (pc := 33) (v := 1) hC dX5_stop_33 (by decide) ?_
      refine r_iadd (pc := 34) hC dX5_stop_34 ?_
      refine r_iast (pc := 35) hC ks (xi_l (k := 6) ls (by decide) (by decide) (by decide)) dX5_stop_35 ?_
      refine r_aload_n (pc := 36) hC dX5_stop_36 rfl ?_
      refine g_Model_s (pc := 37) hC wi_X5_stop_5 wl_X5_stop_7 (by assumption) (c2 := 7) (by assumption) (by decide) dX5_stop_37 ?_
      refine r_bipush (pc := 40) (v := 7) hC dX5_stop_40 (by decide) ?_
      refine r_dup2 (pc := 42) hC dX5_stop_42 rfl rfl ?_
      refine r_iald (pc := 43) hC ks (xi_l (k := 7) ls (by decide) (by decide) (by decide)) dX5_stop_43 ?_
      refine r_iload_n (pc := 44) hC dX5_stop_44 rfl ?_
      refine r_iadd (pc := 45) hC dX5_stop_45 ?_
      refine r_iast (pc := 46) hC ks (xi_l (k := 7) ls (by decide) (by decide) (by decide)) dX5_stop_46 ?_
      obtain ⟨J, hJ⟩ : ∃ J : xI, J = (xu (xu (xchg m (P m 0) (P m 1) h I) (P m 0) 6 ((xchg m (P m 0) (P m 1) h I) (P m 0) 6 + 1)) (P m 0) 7 (xu (xchg m (P m 0) (P m 1) h I) (P m 0) 6 ((xchg m (P m 0) (P m 1) h I) (P m 0) 6 + 1) (P m 0) 7 + z)) := ⟨_, rfl⟩
      rw [← hJ]
      have hJS : J (P m 0) = upd (upd (I (P m 0)) 6 ((I (P m 0)) 6 + 1)) 7 ((I (P m 0)) 7 + z) := by rw [hJ, xu_upd, xu_upd, cS]; simp [upd]
      have hJo : ∀ b, b ≠ P m 0 → J b = (xchg m (P m 0) (P m 1) h I) b := fun b hb => by rw [hJ, xu_row hb, xu_row hb]
      have f3 : J (P m 0) 3 = (I (P m 0)) 3 := by rw [hJS]; rfl
      refine r_aload_n (pc := 47) hC dX5_stop_47 rfl ?_
      refine g_Model_s (pc := 48) hC wi_X5_stop_5 wl_X5_stop_7 (by assumption) (c2 := 7) (by assumption) (by decide) dX5_stop_48 ?_
      refine r_iconst (pc := 51) (v := 3) hC dX5_stop_51 (by decide) ?_
      refine r_iald (pc := 52) hC ks (xi_l (k := 3) ls (by decide) (by decide) (by decide)) dX5_stop_52 ?_
      rw [f3]
      refine r_if_lt (pc := 53) (tgt := 102) hC dX5_stop_53 (by decide) (fun bq53 => ?_) (fun bq53 => ?_)
      · skip
        refine r_iload_n (pc := 102) hC dX5_stop_102 rfl ?_
        refine r_iret (pc := 103) hC hD rfl dX5_stop_103 rfl ?_
        refine ⟨by rw [hW], rfl, rfl, cQ hmp hms hsp ?_ hJo⟩
        rw [hJS, sStop, hzr, if_pos bq53]
      · skip
        obtain ⟨d, hd6, hd⟩ := hdr2 bq53
        have hsd : sDrv (I (P m 0)) = d := by rw [sDrv, hd, nI_clamp (by omega)]
        refine r_aload_n (pc := 56) hC dX5_stop_56 rfl ?_
        refine g_Model_s (pc := 57) hC wi_X5_stop_5 wl_X5_stop_7 (by assumption) (c2 := 7) (by assumption) (by decide) dX5_stop_57 ?_
        refine r_sipush (pc := 60) (v := 351) hC dX5_stop_60 (by decide) ?_
        refine r_iconst (pc := 63) (v := 3) hC dX5_stop_63 (by decide) ?_
        refine r_aload_n (pc := 64) hC dX5_stop_64 rfl ?_
        refine g_Model_s (pc := 65) hC wi_X5_stop_5 wl_X5_stop_7 (by assumption) (c2 := 7) (by assumption) (by decide) dX5_stop_65 ?_
        refine r_iconst (pc := 68) (v := 3) hC dX5_stop_68 (by decide) ?_
        refine r_iald (pc := 69) hC ks (xi_l (k := 3) ls (by decide) (by decide) (by decide)) dX5_stop_69 ?_
        rw [f3, hd]
        refine r_imul (pc := 70) hC dX5_stop_70 ?_
        refine r_iadd (pc := 71) hC dX5_stop_71 ?_
        refine r_iconst (pc := 72) (v := 1) hC dX5_stop_72 (by decide) ?_
        refine r_iadd (pc := 73) hC dX5_stop_73 ?_
        refine r_dup2 (pc := 74) hC dX5_stop_74 rfl rfl ?_
        refine r_iald (pc := 75) hC ks (xi_e (k := 352 + 3 * d) (by simp only [xlit, nI_add, pk_mul] <;> exact congrArg nI (by omega)) ls (by omega) (by decide)) dX5_stop_75 ?_
        refine r_iconst (pc := 76) (v := 1) hC dX5_stop_76 (by decide) ?_
        refine r_iadd (pc := 77) hC dX5_stop_77 ?_
        refine r_iast (pc := 78) hC ks (xi_e (k := 352 + 3 * d) (by simp only [xlit, nI_add, pk_mul] <;> exact congrArg nI (by omega)) ls (by omega) (by decide)) dX5_stop_78 ?_
        obtain ⟨K, hK⟩ : ∃ K : xI, K = xu J (P m 0) (352 + 3 * d) (J (P m 0) (352 + 3 * d) + 1) := ⟨_, rfl⟩
        rw [← hK]
        have k3 : K (P m 0) 3 = (I (P m 0)) 3 := by rw [hK, xu_ne (Or.inr (by omega)), f3]
        have hKo : ∀ b, b ≠ P m 0 → K b = (xchg m (P m 0) (P m 1) h I) b := fun b hb => by rw [hK, xu_row hb, hJo b hb]
        refine r_aload_n (pc := 79) hC dX5_stop_79 rfl ?_
        refine g_Model_s (pc := 80) hC wi_X5_stop_5 wl_X5_stop_7 (by assumption) (c2 := 7) (by assumption) (by decide) dX5_stop_80 ?_
        refine r_sipush (pc := 83) (v := 351) hC dX5_stop_83 (by decide) ?_
        refine r_iconst (pc := 86) (v := 3) hC dX5_stop_86 (by decide) ?_
        refine r_aload_n (pc := 87) hC dX5_stop_87 rfl ?_
        refine g_Model_s (pc := 88) hC wi_X5_stop_5 wl_X5_stop_7 (by assumption) (c2 := 7) (by assumption) (by decide) dX5_stop_88 ?_
        refine r_iconst (pc := 91) (v := 3) hC dX5_stop_91 (by decide) ?_
        refine r_iald (pc := 92) hC ks (xi_l (k := 3) ls (by decide) (by decide) (by decide)) dX5_stop_92 ?_
        rw [k3, hd]
        refine r_imul (pc := 93) hC dX5_stop_93 ?_
        refine r_iadd (pc := 94) hC dX5_stop_94 ?_
        refine r_iconst (pc := 95) (v := 2) hC dX5_stop_95 (by decide) ?_
        refine r_iadd (pc := 96) hC dX5_stop_96 ?_
        refine r_dup2 (pc := 97) hC dX5_stop_97 rfl rfl ?_
        refine r_iald (pc := 98) hC ks (xi_e (k := 353 + 3 * d) (by simp only [xlit, nI_add, pk_mul] <;> exact congrArg nI (by omega)) ls (by omega) (by decide)) dX5_stop_98 ?_
        refine r_iload_n (pc := 99) hC dX5_stop_99 rfl ?_
        refine r_iadd (pc := 100) hC dX5_stop_100 ?_
        refine r_iast (pc := 101) hC ks (xi_e (k := 353 + 3 * d) (by simp only [xlit, nI_add, pk_mul] <;> exact congrArg nI (by omega)) ls (by omega) (by decide)) dX5_stop_101 ?_
        refine r_iload_n (pc := 102) hC dX5_stop_102 rfl ?_
        refine r_iret (pc := 103) hC hD rfl dX5_stop_103 rfl ?_
        refine ⟨by rw [hW], rfl, rfl, cQ hmp hms hsp ?_ (fun b hb => by rw [xu_row hb, hKo b hb])⟩
        rw [xu_upd, hK, xu_upd, hJS, sStop, hzr, if_neg bq53, hsd]
        have q1 : ¬ 352 + 3 * d = 7 := by omega
        have q2 : ¬ 352 + 3 * d = 6 := by omega
        have q3 : ¬ 353 + 3 * d = 7 := by omega
        have q4 : ¬ 353 + 3 * d = 6 := by omega
        have q5 : ¬ 353 + 3 * d = 352 + 3 * d := by omega
        simp [upd, q1, q2, q3, q4, q5]
theorem k_X5_stop {X : xF} {G : xG} {cs : Nat × Nat} {μ : xM} {I : xI} {P : xP} {L : List (Option Value)} {pc : Nat} {rest : List Value} {cc : ByteArray} {Ts : List Cond} {own : String} {nL : Nat} {R : Room} (hC : xC X G cc Ts own nL R) {index : Nat} (hG : GoodIn Ts (wsV own index RX5 yX5_stop wsX5_stop)) (hR : rm_X5_stop.frames + 1 ≤ R.frames ∧ 8 + (3 + 11) + rm_X5_stop.locals ≤ R.locals) {m h n q : Nat} (km : μ.2.1 m = 6) (ks : μ.2.1 (P m 0) = 7) (ls : μ.2.2 (P m 0) = 369) (kp : μ.2.1 (P m 1) = 7) (lp : μ.2.2 (P m 1) = 1476) (hsp : P m 0 ≠ P m 1) (hh : I m 3 = nI h) (hh4 : h ≤ 4) (hinv : invN (I (P m 0)) n q) (hW : (rest.map fun v => v.category).sum ≤ 8) (hL : L.length = nL) (hcs : cs.1 ≤ R.cells ∧ cs.2 ≤ R.slots) (hdec : decode cc pc = .ok (.invokevirtual index, 3)) (kk : ∀ I' : xI, mQ m (P m 0) (P m 1) (P m 2) I (xchg m (P m 0) (P m 1) h I) I' (sStop (I (P m 0))) → xg X G cs μ I' P L (pc + 3) (.int (aWrong (I (P m 0))) :: rest)) : xg X G cs μ I P L pc (.ref (xZ G + m) :: rest) :=
  r_callV hC (c_X5_stop X.2.1 km ks ls kp lp hsp hh hh4 hinv) hG rfl rfl rfl hd_X5_stop hR (by rw [km]; decide) (xe_Model km) rfl rfl rfl hW hL hcs hdec (by rintro vv μ' I' P' ⟨rfl, rfl, rfl, hQ⟩; exact kk I' hQ)
abbrev rm_X5_would : Room := { frames := 4, cells := 0, slots := 0, locals := 90 }
theorem wl_X5_would_7 : Cond.fieldLink RX5 7 "HandBlindsModel" "s" "[I" ∈ wsX5_would := List.mem_of_getElem? (i := 2) (by decide +kernel)
theorem wi_X5_would_5 : ∀ w ∈ wsX50, w ∈ wsX5_would := fun _ h => List.mem_cons_of_mem _ (List.mem_append_right _ h)
theorem wl_X5_would_16 : Cond.fieldLink RX5 16 "HandBlindsModel" "tried" "[I" ∈ wsX5_would := List.mem_of_getElem? (i := 3) (by decide +kernel)
theorem wl_X5_would_118 : Cond.fieldLink RX5 118 "HandBlindsModel" "gone" "I" ∈ wsX5_would := List.mem_of_getElem? (i := 5) (by decide +kernel)
theorem wl_X5_would_121 : Cond.fieldLink RX5 121 "HandBlindsModel" "torn" "I" ∈ wsX5_would := List.mem_of_getElem? (i := 4) (by decide +kernel)
theorem wl_X5_would_92 : Cond.constant RX5 92 (-1000001) ∈ wsX5_would := List.mem_of_getElem? (i := 1) (by decide +kernel)
theorem hd_X5_would : yX5_would.cls = RX5 ∧ yX5_would.cls ≠ "java/lang/invoke/MethodHandle" ∧ yX5_would.cls ≠ "java/lang/invoke/VarHandle" ∧ (parseMethodDescriptor yX5_would.desc).map (fun d => d.parameters.length) = some 3 := ⟨rfl, by decide +kernel, by decide +kernel, by decide +kernel⟩
set_option maxHeartbeats 4000000 in
set_option maxRecDepth 100000 in
theorem c_X5_would (l : Launch) {G : xG} {μ : xM} {I : xI} {P : xP} {m h n q : Nat} {r v w : Int32} (km : μ.2.1 m = 6) (ks : μ.2.1 (P m 0) = 7) (ls : μ.2.2 (P m 0) = 369) (kp : μ.2.1 (P m 1) = 7) (lp : μ.2.2 (P m 1) = 1476) (hsp : P m 0 ≠ P m 1) (hh : I m 3 = nI h) (hh4 : h ≤ 4) (kta : μ.2.1 (P m 2) = 7) (lta : μ.2.2 (P m 2) = 369) (hst : P m 0 ≠ P m 2) (hpt : P m 1 ≠ P m 2) (hinv : invN (I (P m 0)) n q) : Ct l yX5_would wsX5_would rm_X5_would G μ I P [.ref (xZ G + m), .int r, .int v, .int w] 0 0 (fun vv μ' I' P' => vv = some (.int (aWould (I (P m 0)) r v w)) ∧ μ' = μ ∧ P' = P ∧ mQ m (P m 0) (P m 1) (P m 2) I I I' (I (P m 0))) := by
  obtain ⟨hn20, hn, hq6, hq, hsh, hdr, h8r, h9r, h10r, hrows⟩ := id hinv
  have hmt : m ≠ P m 2 := fun e => by rw [← e, km] at kta; cases kta
  have hmp : m ≠ P m 1 := fun e => by rw [← e, km] at kp; cases kp
  have hms : m ≠ P m 0 := fun e => by rw [← e, km] at ks; cases ks
  refine Ct.of (cc := cX5_would) (maxL := 7) (ret := (some .int)) [some (.ref (xZ G + m)), some (.int r), some (.int v), some (.int w), none, none, none] (by decide) rfl rfl rfl (Nat.le_of_ble_eq_true rfl) ?_
  intro X hC hD h0 _
  refine r_iload_n (pc := 0) hC dX5_would_0 rfl ?_
  refine r_iconst (pc := 1) (v := 0) hC dX5_would_1 (by decide) ?_
  refine r_iconst (pc := 2) (v := 3) hC dX5_would_2 (by decide) ?_
  refine k_X5_in (pc := 3) hC gX5_would_X5_in ⟨Nat.le_of_ble_eq_true rfl, Nat.le_of_ble_eq_true rfl⟩  (Nat.le_of_ble_eq_true rfl) rfl ⟨Nat.zero_le _, Nat.zero_le _⟩ dX5_would_3 ?_
  refine r_if_ne (pc := 6) (tgt := 12) hC dX5_would_6 (by decide) (fun bq6 => ?_) (fun bq6 => ?_)
  · skip
    refine r_aload_n (pc := 12) hC dX5_would_12 rfl ?_
    refine r_iload_n (pc := 13) hC dX5_would_13 rfl ?_
    refine r_iload_n (pc := 14) hC dX5_would_14 rfl ?_
    refine k_X5_mayCrank (pc := 15) hC gX5_would_X5_mayCrank ⟨Nat.le_of_ble_eq_true rfl, Nat.le_of_ble_eq_true rfl⟩ (by assumption) (by assumption) (by assumption) (Nat.le_of_ble_eq_true rfl) rfl ⟨Nat.zero_le _, Nat.zero_le _⟩ dX5_would_15 ?_
    refine r_istore (pc := 18) (L' := [_, _, _, _, _, _, _]) hC dX5_would_18 rfl (Nat.le_of_ble_eq_true rfl) rfl ?_
    refine r_iload (pc := 20) hC dX5_would_20 rfl ?_
    refine r_if_ge (pc := 22) (tgt := 28) hC dX5_would_22 (by decide) (fun bq22 => ?_) (fun bq22 => ?_)
    · skip
      have hm0 : mcr r v (I (P m 0) 0) = 0 := by
        refine Classical.byContradiction fun w => ?_
        rcases mcr_neg w with e | e
        · rw [e] at bq22; exact absurd bq22 (by decide)
        · rw [e] at bq22; exact absurd bq22 (by decide)
      obtain ⟨hi1, hi2, hi3, hi4⟩ := mcr_0 hm0
      obtain ⟨hw, hw1, hw20⟩ := crank_way hi1 hi2
      obtain ⟨a, han, h1⟩ : ∃ a, a < n ∧ I (P m 0) 1 = nI a := by
        rcases hsh with ⟨e, _⟩ | e
        · exact absurd (by rw [hn, e]; rfl) hi4
        · exact e
      have hca : cA (I (P m 0)) = a := by rw [cA, h1, nI_clamp (by omega)]
      have hcn : cN (I (P m 0)) = n := by rw [cN, hn, nI_clamp (by omega)]
      have j1s : (xcp I (P m 0) (P m 2) 369) (P m 0) = I (P m 0) := xcp_row hst
      have hfin : mQ m (P m 0) (P m 1) (P m 2) I I (xcp (crF m (P m 0) a (cUp r) v (xcp I (P m 0) (P m 2) 369) (stepsS (I (P m 0)) n a (cUp r) (cW r))) (P m 2) (P m 0) 369) (I (P m 0)) := by
        refine ⟨?_, ?_, ?_, ?_, fun b b1 b2 b3 b4 => ?_⟩
        · funext k
          by_cases hk : k < 369
          · simp only [xcp, hk, and_self, if_true]
            rw [crF_o (Ne.symm hst) (Ne.symm hmt)]
            simp [xcp, hk]
          · have e0 : xcp (crF m (P m 0) a (cUp r) v (xcp I (P m 0) (P m 2) 369) (stepsS (I (P m 0)) n a (cUp r) (cW r))) (P m 2) (P m 0) 369 (P m 0) k = (crF m (P m 0) a (cUp r) v (xcp I (P m 0) (P m 2) 369) (stepsS (I (P m 0)) n a (cUp r) (cW r))) (P m 0) k := by
              show (if P m 0 = P m 0 ∧ k < 369 then _ else _) = _
              rw [if_neg (fun w => hk w.2)]
            rw [e0, crF_s, j1s, crFS_far (n := n) (fun i hi => (steps_row (S := I (P m 0)) (w := cW r) (up := cUp r) han i hi).1) hn20 (by omega)]
        · rw [xcp_row (Ne.symm hsp), crF_o (Ne.symm hsp) (Ne.symm hmp), xcp_row hpt]
        · rw [xcp_row hms, crF_m hms (by decide) (by decide), xcp_row hmt]
        · rw [xcp_row hms, crF_m hms (by decide) (by decide), xcp_row hmt]
        · rw [xcp_row b2, crF_o b2 b1, xcp_row b4]
      refine r_aload_n (pc := 28) hC dX5_would_28 rfl ?_
      refine g_Model_s (pc := 29) hC wi_X5_would_5 wl_X5_would_7 (by assumption) (c2 := 7) (by assumption) (by decide) dX5_would_29 ?_
      refine r_aload_n (pc := 32) hC dX5_would_32 rfl ?_
      refine g_Model_tried (pc := 33) hC wi_X5_would_5 wl_X5_would_16 (by assumption) (c2 := 7) (by assumption) (by decide) dX5_would_33 ?_
      refine k_X5_copies (pc := 36) hC gX5_would_X5_copies ⟨Nat.le_of_ble_eq_true rfl, Nat.le_of_ble_eq_true rfl⟩ ks ls kta lta hst (Nat.le_of_ble_eq_true rfl) rfl ⟨Nat.zero_le _, Nat.zero_le _⟩ dX5_would_36 ?_
      refine r_aload_n (pc := 39) hC dX5_would_39 rfl ?_
      refine r_iload_n (pc := 40) hC dX5_would_40 rfl ?_
      refine r_iload_n (pc := 41) hC dX5_would_41 rfl ?_
      refine k_X5_cranks (pc := 42) hC gX5_would_X5_cranks ⟨Nat.le_of_ble_eq_true rfl, Nat.le_of_ble_eq_true rfl⟩ (a := a) (w := cW r) (n := n) (up := cUp r) km ks ls (by rw [j1s]; exact h1) (by rw [j1s]; exact hn) han hn20 hw hw1 hw20 (Nat.le_of_ble_eq_true rfl) rfl ⟨Nat.zero_le _, Nat.zero_le _⟩ dX5_would_42 ?_
      rw [j1s]
      refine r_istore (pc := 45) (L' := [_, _, _, _, _, _, _]) hC dX5_would_45 rfl (Nat.le_of_ble_eq_true rfl) rfl ?_
      refine r_iload_n (pc := 47) hC dX5_would_47 rfl ?_
      refine r_if_ne (pc := 48) (tgt := 60) hC dX5_would_48 (by decide) (fun bq48 => ?_) (fun bq48 => ?_)
      · skip
        refine r_iload_n (pc := 60) hC dX5_would_60 rfl ?_
        refine r_iconst (pc := 61) (v := 1) hC dX5_would_61 (by decide) ?_
        refine r_icmp_ne (pc := 62) (tgt := 72) hC dX5_would_62 (by decide) (fun bq62 => ?_) (fun bq62 => ?_)
        · skip
          refine r_iload_n (pc := 72) hC dX5_would_72 rfl ?_
          refine r_iconst (pc := 73) (v := 2) hC dX5_would_73 (by decide) ?_
          refine r_icmp_ne (pc := 74) (tgt := 84) hC dX5_would_74 (by decide) (fun bq74 => ?_) (fun bq74 => ?_)
          · skip
            refine r_iload (pc := 84) hC dX5_would_84 rfl ?_
            refine r_istore (pc := 86) (L' := [_, _, _, _, _, _, _]) hC dX5_would_86 rfl (Nat.le_of_ble_eq_true rfl) rfl ?_
            refine r_aload_n (pc := 88) hC dX5_would_88 rfl ?_
            refine g_Model_tried (pc := 89) hC wi_X5_would_5 wl_X5_would_16 (by assumption) (c2 := 7) (by assumption) (by decide) dX5_would_89 ?_
            refine r_aload_n (pc := 92) hC dX5_would_92 rfl ?_
            refine g_Model_s (pc := 93) hC wi_X5_would_5 wl_X5_would_7 (by assumption) (c2 := 7) (by assumption) (by decide) dX5_would_93 ?_
            refine k_X5_copies (pc := 96) hC gX5_would_X5_copies ⟨Nat.le_of_ble_eq_true rfl, Nat.le_of_ble_eq_true rfl⟩ kta lta ks ls (Ne.symm hst) (Nat.le_of_ble_eq_true rfl) rfl ⟨Nat.zero_le _, Nat.zero_le _⟩ dX5_would_96 ?_
            refine r_iload (pc := 99) hC dX5_would_99 rfl ?_
            refine r_iret (pc := 101) hC hD rfl dX5_would_101 rfl ?_
            exact ⟨by rw [aWould, if_neg bq6, if_pos hm0, cG, hca, hcn, if_neg bq48, if_neg bq62, if_neg bq74], rfl, rfl, hfin⟩
          · skip
            refine r_aload_n (pc := 77) hC dX5_would_77 rfl ?_
            refine g_Model_gone (pc := 78) hC wi_X5_would_5 wl_X5_would_118 (by assumption) dX5_would_78 ?_
            refine r_goto (pc := 81) (tgt := 86) hC dX5_would_81 (by decide) ?_
            refine r_istore (pc := 86) (L' := [_, _, _, _, _, _, _]) hC dX5_would_86 rfl (Nat.le_of_ble_eq_true rfl) rfl ?_
            refine r_aload_n (pc := 88) hC dX5_would_88 rfl ?_
            refine g_Model_tried (pc := 89) hC wi_X5_would_5 wl_X5_would_16 (by assumption) (c2 := 7) (by assumption) (by decide) dX5_would_89 ?_
            refine r_aload_n (pc := 92) hC dX5_would_92 rfl ?_
            refine g_Model_s (pc := 93) hC wi_X5_would_5 wl_X5_would_7 (by assumption) (c2 := 7) (by assumption) (by decide) dX5_would_93 ?_
            refine k_X5_copies (pc := 96) hC gX5_would_X5_copies ⟨Nat.le_of_ble_eq_true rfl, Nat.le_of_ble_eq_true rfl⟩ kta lta ks ls (Ne.symm hst) (Nat.le_of_ble_eq_true rfl) rfl ⟨Nat.zero_le _, Nat.zero_le _⟩ dX5_would_96 ?_
            refine r_iload (pc := 99) hC dX5_would_99 rfl ?_
            refine r_iret (pc := 101) hC hD rfl dX5_would_101 rfl ?_
            exact ⟨by rw [aWould, if_neg bq6, if_pos hm0, cG, hca, hcn, if_neg bq48, if_neg bq62, if_pos bq74, crF_11 hms], rfl, rfl, hfin⟩
        · skip
          refine r_aload_n (pc := 65) hC dX5_would_65 rfl ?_
          refine g_Model_torn (pc := 66) hC wi_X5_would_5 wl_X5_would_121 (by assumption) dX5_would_66 ?_
          refine r_goto (pc := 69) (tgt := 86) hC dX5_would_69 (by decide) ?_
          refine r_istore (pc := 86) (L' := [_, _, _, _, _, _, _]) hC dX5_would_86 rfl (Nat.le_of_ble_eq_true rfl) rfl ?_
          refine r_aload_n (pc := 88) hC dX5_would_88 rfl ?_
          refine g_Model_tried (pc := 89) hC wi_X5_would_5 wl_X5_would_16 (by assumption) (c2 := 7) (by assumption) (by decide) dX5_would_89 ?_
          refine r_aload_n (pc := 92) hC dX5_would_92 rfl ?_
          refine g_Model_s (pc := 93) hC wi_X5_would_5 wl_X5_would_7 (by assumption) (c2 := 7) (by assumption) (by decide) dX5_would_93 ?_
          refine k_X5_copies (pc := 96) hC gX5_would_X5_copies ⟨Nat.le_of_ble_eq_true rfl, Nat.le_of_ble_eq_true rfl⟩ kta lta ks ls (Ne.symm hst) (Nat.le_of_ble_eq_true rfl) rfl ⟨Nat.zero_le _, Nat.zero_le _⟩ dX5_would_96 ?_
          refine r_iload (pc := 99) hC dX5_would_99 rfl ?_
          refine r_iret (pc := 101) hC hD rfl dX5_would_101 rfl ?_
          exact ⟨by rw [aWould, if_neg bq6, if_pos hm0, cG, hca, hcn, if_neg bq48, if_pos bq62, crF_12 hms, j1s], rfl, rfl, hfin⟩
      · skip
        refine r_aload_n (pc := 51) hC dX5_would_51 rfl ?_
        refine g_Model_s (pc := 52) hC wi_X5_would_5 wl_X5_would_7 (by assumption) (c2 := 7) (by assumption) (by decide) dX5_would_52 ?_
        refine r_iconst (pc := 55) (v := 1) hC dX5_would_55 (by decide) ?_
        refine r_iald (pc := 56) hC ks (xi_l (k := 1) ls (by decide) (by decide) (by decide)) dX5_would_56 ?_
        refine r_goto (pc := 57) (tgt := 86) hC dX5_would_57 (by decide) ?_
        refine r_istore (pc := 86) (L' := [_, _, _, _, _, _, _]) hC dX5_would_86 rfl (Nat.le_of_ble_eq_true rfl) rfl ?_
        refine r_aload_n (pc := 88) hC dX5_would_88 rfl ?_
        refine g_Model_tried (pc := 89) hC wi_X5_would_5 wl_X5_would_16 (by assumption) (c2 := 7) (by assumption) (by decide) dX5_would_89 ?_
        refine r_aload_n (pc := 92) hC dX5_would_92 rfl ?_
        refine g_Model_s (pc := 93) hC wi_X5_would_5 wl_X5_would_7 (by assumption) (c2 := 7) (by assumption) (by decide) dX5_would_93 ?_
        refine k_X5_copies (pc := 96) hC gX5_would_X5_copies ⟨Nat.le_of_ble_eq_true rfl, Nat.le_of_ble_eq_true rfl⟩ kta lta ks ls (Ne.symm hst) (Nat.le_of_ble_eq_true rfl) rfl ⟨Nat.zero_le _, Nat.zero_le _⟩ dX5_would_96 ?_
        refine r_iload (pc := 99) hC dX5_would_99 rfl ?_
        refine r_iret (pc := 101) hC hD rfl dX5_would_101 rfl ?_
        exact ⟨by rw [aWould, if_neg bq6, if_pos hm0, cG, hca, hcn, if_pos bq48, crF_s, j1s, crFS_1 h1], rfl, rfl, hfin⟩
    · skip
      refine r_iload (pc := 25) hC dX5_would_25 rfl ?_
      refine r_iret (pc := 27) hC hD rfl dX5_would_27 rfl ?_
      have hne : ¬ mcr r v (I (P m 0) 0) = 0 := fun e => bq22 (by rw [e]; decide)
      exact ⟨by rw [aWould, if_neg bq6, if_neg hne], rfl, rfl, mQ_id⟩
  · skip
    refine r_ldc (pc := 9) (v := -1000001) hC dX5_would_9 wl_X5_would_92 ?_
    refine r_iret (pc := 11) hC hD rfl dX5_would_11 rfl ?_
    exact ⟨by rw [aWould, if_pos bq6], rfl, rfl, mQ_id⟩
theorem k_X5_would {X : xF} {G : xG} {cs : Nat × Nat} {μ : xM} {I : xI} {P : xP} {L : List (Option Value)} {pc : Nat} {rest : List Value} {cc : ByteArray} {Ts : List Cond} {own : String} {nL : Nat} {R : Room} (hC : xC X G cc Ts own nL R) {index : Nat} (hG : GoodIn Ts (wsV own index RX5 yX5_would wsX5_would)) (hR : rm_X5_would.frames + 1 ≤ R.frames ∧ 8 + (7 + 11) + rm_X5_would.locals ≤ R.locals) {m h n q : Nat} {r v w : Int32} (km : μ.2.1 m = 6) (ks : μ.2.1 (P m 0) = 7) (ls : μ.2.2 (P m 0) = 369) (kp : μ.2.1 (P m 1) = 7) (lp : μ.2.2 (P m 1) = 1476) (hsp : P m 0 ≠ P m 1) (hh : I m 3 = nI h) (hh4 : h ≤ 4) (kta : μ.2.1 (P m 2) = 7) (lta : μ.2.2 (P m 2) = 369) (hst : P m 0 ≠ P m 2) (hpt : P m 1 ≠ P m 2) (hinv : invN (I (P m 0)) n q) (hW : (rest.map fun v => v.category).sum ≤ 8) (hL : L.length = nL) (hcs : cs.1 ≤ R.cells ∧ cs.2 ≤ R.slots) (hdec : decode cc pc = .ok (.invokevirtual index, 3)) (kk : ∀ I' : xI, mQ m (P m 0) (P m 1) (P m 2) I I I' (I (P m 0)) → xg X G cs μ I' P L (pc + 3) (.int (aWould (I (P m 0)) r v w) :: rest)) : xg X G cs μ I P L pc (.int w :: .int v :: .int r :: .ref (xZ G + m) :: rest) :=
  r_callV hC (c_X5_would X.2.1 km ks ls kp lp hsp hh hh4 kta lta hst hpt hinv) hG rfl rfl rfl hd_X5_would hR (by rw [km]; decide) (xe_Model km) rfl rfl rfl hW hL hcs hdec (by rintro vv μ' I' P' ⟨rfl, rfl, rfl, hQ⟩; exact kk I' hQ)
