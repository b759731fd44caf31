abbrev rm_X5_wrongBy : Room := { frames := 3, cells := 0, slots := 0, locals := 69 }
theorem hd_X5_wrongBy : yX5_wrongBy.cls = RX5 ∧ yX5_wrongBy.cls ≠ "java/lang/invoke/MethodHandle" ∧ yX5_wrongBy.cls ≠ "java/lang/invoke/VarHandle" ∧ (parseMethodDescriptor yX5_wrongBy.desc).map (fun d => d.parameters.length) = some 1 := ⟨rfl, by decide +kernel, by decide +kernel, by decide +kernel⟩
set_option maxHeartbeats 4000000 in
set_option maxRecDepth 100000 in
theorem c_X5_wrongBy_n (l : Launch) {G : xG} {μ : xM} {I : xI} {P : xP} {m : Nat} {row : Int32} (km : μ.2.1 m = 6) (ks : μ.2.1 (P m 0) = 7) (ls : μ.2.2 (P m 0) = 369) (hneg : row < 0) : Ct l yX5_wrongBy wsX5_wrongBy rm_X5_wrongBy G μ I P [.ref (xZ G + m), .int row] 0 0 (fun vv μ' I' P' => vv = some (.int (1)) ∧ μ' = μ ∧ I' = (I) ∧ P' = (P)) := by
  refine Ct.of (cc := cX5_wrongBy) (maxL := 2) (ret := (some .int)) [some (.ref (xZ G + m)), some (.int row)] (by decide) rfl rfl rfl (Nat.le_of_ble_eq_true rfl) ?_
  intro X hC hD h0 _
  refine r_iload_n (pc := 0) hC dX5_wrongBy_0 rfl ?_
  refine r_if_ge (pc := 1) (tgt := 6) hC dX5_wrongBy_1 (by decide) (fun bq1 => ?_) (fun bq1 => ?_)
  · skip
    exact absurd hneg (Int32.not_lt.mpr bq1)
  · skip
    refine r_iconst (pc := 4) (v := 1) hC dX5_wrongBy_4 (by decide) ?_
    refine r_iret (pc := 5) hC hD rfl dX5_wrongBy_5 rfl ?_
    exact ⟨rfl, rfl, rfl, rfl⟩
theorem k_X5_wrongBy_n {X : xF} {G : xG} {cs : Nat × Nat} {μ : xM} {I : xI} {P : xP} {L : List (Option Value)} {pc : Nat} {rest : List Value} {cc : ByteArray} {Ts : List Cond} {own : String} {nL : Nat} {R : Room} (hC : xC X G cc Ts own nL R) {index : Nat} (hG : GoodIn Ts (wsV own index RX5 yX5_wrongBy wsX5_wrongBy)) (hR : rm_X5_wrongBy.frames + 1 ≤ R.frames ∧ 8 + (2 + 11) + rm_X5_wrongBy.locals ≤ R.locals) {m : Nat} {row : Int32} (km : μ.2.1 m = 6) (ks : μ.2.1 (P m 0) = 7) (ls : μ.2.2 (P m 0) = 369) (hneg : row < 0) (hW : (rest.map fun v => v.category).sum ≤ 8) (hL : L.length = nL) (hcs : cs.1 ≤ R.cells ∧ cs.2 ≤ R.slots) (hdec : decode cc pc = .ok (.invokevirtual index, 3)) (kk : xg X G cs μ I P L (pc + 3) (.int (1) :: rest)) : xg X G cs μ I P L pc (.int row :: .ref (xZ G + m) :: rest) :=
  r_callV hC (c_X5_wrongBy_n X.2.1 km ks ls hneg) hG rfl rfl rfl hd_X5_wrongBy hR (by rw [km]; decide) (xe_Model km) rfl rfl rfl hW hL hcs hdec (by rintro v μ' I' P' ⟨rfl, rfl, rfl, rfl⟩; exact kk)
theorem wl_X5_wrongBy_7 : Cond.fieldLink RX5 7 "HandBlindsModel" "s" "[I" ∈ wsX5_wrongBy := List.mem_of_getElem? (i := 1) (by decide +kernel)
theorem wi_X5_wrongBy_5 : ∀ w ∈ wsX50, w ∈ wsX5_wrongBy := fun _ h => List.mem_cons_of_mem _ (List.mem_append_right _ h)
set_option maxHeartbeats 4000000 in
set_option maxRecDepth 100000 in
theorem c_X5_wrongBy (l : Launch) {G : xG} {μ : xM} {I : xI} {P : xP} {m r n : Nat} {row : Int32} (km : μ.2.1 m = 6) (ks : μ.2.1 (P m 0) = 7) (ls : μ.2.2 (P m 0) = 369) (hr : row = nI r) (hr20 : r < 20) (hl : I (P m 0) (11 + 17 * r) = nI n) (hn14 : n ≤ 14) (h8 : ¬ I (P m 0) 8 = 0) (hdr : ¬ I (P m 0) 3 < 0 → ∃ d, d < 6 ∧ I (P m 0) 3 = nI d) : Ct l yX5_wrongBy wsX5_wrongBy rm_X5_wrongBy G μ I P [.ref (xZ G + m), .int row] 0 0 (fun vv μ' I' P' => vv = some (.int (sWrong (I (P m 0)) r)) ∧ μ' = μ ∧ I' = (I) ∧ P' = (P)) := by
  subst hr
  have hsk : sKind (I (P m 0)) r = kindL (fun j => I (P m 0) (14 + 17 * r + j)) n := by rw [sKind, sLen_of hl (by omega)]; rfl
  have hsw : sWid (I (P m 0)) r = wsum (fun j => I (P m 0) (14 + 17 * r + j)) n := by rw [sWid, sLen_of hl (by omega)]; rfl
  refine Ct.of (cc := cX5_wrongBy) (maxL := 2) (ret := (some .int)) [some (.ref (xZ G + m)), some (.int (nI r))] (by decide) rfl rfl rfl (Nat.le_of_ble_eq_true rfl) ?_
  intro X hC hD h0 _
  refine r_iload_n (pc := 0) hC dX5_wrongBy_0 rfl ?_
  refine r_if_ge (pc := 1) (tgt := 6) hC dX5_wrongBy_1 (by decide) (fun bq1 => ?_) (fun bq1 => ?_)
  · skip
    refine r_aload_n (pc := 6) hC dX5_wrongBy_6 rfl ?_
    refine r_iload_n (pc := 7) hC dX5_wrongBy_7 rfl ?_
    refine k_X5_isTorn (pc := 8) hC gX5_wrongBy_X5_isTorn ⟨Nat.le_of_ble_eq_true rfl, Nat.le_of_ble_eq_true rfl⟩ km ks ls rfl hr20 (Nat.le_of_ble_eq_true rfl) rfl ⟨Nat.zero_le _, Nat.zero_le _⟩ dX5_wrongBy_8 ?_
    refine r_if_eq (pc := 11) (tgt := 16) hC dX5_wrongBy_11 (by decide) (fun bq11 => ?_) (fun bq11 => ?_)
    · skip
      refine r_aload_n (pc := 16) hC dX5_wrongBy_16 rfl ?_
      refine g_Model_s (pc := 17) hC wi_X5_wrongBy_5 wl_X5_wrongBy_7 (by assumption) (c2 := 7) (by assumption) (by decide) dX5_wrongBy_17 ?_
      refine r_iconst (pc := 20) (v := 3) hC dX5_wrongBy_20 (by decide) ?_
      refine r_iald (pc := 21) hC ks (xi_l (k := 3) ls (by decide) (by decide) (by decide)) dX5_wrongBy_21 ?_
      refine r_if_ge (pc := 22) (tgt := 45) hC dX5_wrongBy_22 (by decide) (fun bq22 => ?_) (fun bq22 => ?_)
      · skip
        have son : sOn (I (P m 0)) = true := decide_eq_true bq22
        refine r_aload_n (pc := 45) hC dX5_wrongBy_45 rfl ?_
        refine g_Model_s (pc := 46) hC wi_X5_wrongBy_5 wl_X5_wrongBy_7 (by assumption) (c2 := 7) (by assumption) (by decide) dX5_wrongBy_46 ?_
        refine r_iconst (pc := 49) (v := 3) hC dX5_wrongBy_49 (by decide) ?_
        refine r_iald (pc := 50) hC ks (xi_l (k := 3) ls (by decide) (by decide) (by decide)) dX5_wrongBy_50 ?_
        refine r_if_lt (pc := 51) (tgt := 83) hC dX5_wrongBy_51 (by decide) (fun bq51 => ?_) (fun bq51 => ?_)
        · skip
          exact absurd bq51 (Int32.not_lt.mpr bq22)
        · skip
          obtain ⟨d, hd6, hd⟩ := hdr bq51
          have hsd : sDrv (I (P m 0)) = d := by rw [sDrv, hd, nI_clamp (by omega)]
          refine r_aload_n (pc := 54) hC dX5_wrongBy_54 rfl ?_
          refine r_aload_n (pc := 55) hC dX5_wrongBy_55 rfl ?_
          refine g_Model_s (pc := 56) hC wi_X5_wrongBy_5 wl_X5_wrongBy_7 (by assumption) (c2 := 7) (by assumption) (by decide) dX5_wrongBy_56 ?_
          refine r_iconst (pc := 59) (v := 3) hC dX5_wrongBy_59 (by decide) ?_
          refine r_iald (pc := 60) hC ks (xi_l (k := 3) ls (by decide) (by decide) (by decide)) dX5_wrongBy_60 ?_
          refine r_iconst (pc := 61) (v := 0) hC dX5_wrongBy_61 (by decide) ?_
          refine k_X5_ofRoute (pc := 62) hC gX5_wrongBy_X5_ofRoute ⟨Nat.le_of_ble_eq_true rfl, Nat.le_of_ble_eq_true rfl⟩ (k := 351 + 3 * d) km ks ls (by rw [hd]; simp only [xlit, nI_add, pk_mul] <;> exact congrArg nI (by omega)) (by omega) (Nat.le_of_ble_eq_true rfl) rfl ⟨Nat.zero_le _, Nat.zero_le _⟩ dX5_wrongBy_62 ?_
          refine r_iload_n (pc := 65) hC dX5_wrongBy_65 rfl ?_
          refine r_ishr (pc := 66) hC dX5_wrongBy_66 ?_
          refine r_iconst (pc := 67) (v := 1) hC dX5_wrongBy_67 (by decide) ?_
          refine r_iand (pc := 68) hC dX5_wrongBy_68 ?_
          refine r_if_ne (pc := 69) (tgt := 83) hC dX5_wrongBy_69 (by decide) (fun bq69 => ?_) (fun bq69 => ?_)
          · skip
            refine r_aload_n (pc := 83) hC dX5_wrongBy_83 rfl ?_
            refine r_aload_n (pc := 84) hC dX5_wrongBy_84 rfl ?_
            refine r_iload_n (pc := 85) hC dX5_wrongBy_85 rfl ?_
            refine k_X5_width (pc := 86) hC gX5_wrongBy_X5_width ⟨Nat.le_of_ble_eq_true rfl, Nat.le_of_ble_eq_true rfl⟩ km ks ls rfl hr20 hl hn14 (Nat.le_of_ble_eq_true rfl) rfl ⟨Nat.zero_le _, Nat.zero_le _⟩ dX5_wrongBy_86 ?_
            refine k_X5_squeezed (pc := 89) hC gX5_wrongBy_X5_squeezed ⟨Nat.le_of_ble_eq_true rfl, Nat.le_of_ble_eq_true rfl⟩ km ks ls h8 (Nat.le_of_ble_eq_true rfl) rfl ⟨Nat.zero_le _, Nat.zero_le _⟩ dX5_wrongBy_89 ?_
            refine r_bipush (pc := 92) (v := 120) hC dX5_wrongBy_92 (by decide) ?_
            refine r_icmp_le (pc := 94) (tgt := 101) hC dX5_wrongBy_94 (by decide) (fun bq94 => ?_) (fun bq94 => ?_)
            · skip
              refine r_iconst (pc := 101) (v := 0) hC dX5_wrongBy_101 (by decide) ?_
              refine r_iret (pc := 102) hC hD rfl dX5_wrongBy_102 rfl ?_
              exact ⟨by rw [sWrong, hsk, hsw]; simp_all, rfl, rfl, rfl⟩
            · skip
              refine r_iconst (pc := 97) (v := 5) hC dX5_wrongBy_97 (by decide) ?_
              refine r_goto (pc := 98) (tgt := 102) hC dX5_wrongBy_98 (by decide) ?_
              refine r_iret (pc := 102) hC hD rfl dX5_wrongBy_102 rfl ?_
              exact ⟨by rw [sWrong, hsk, hsw]; simp_all, rfl, rfl, rfl⟩
          · skip
            refine r_aload_n (pc := 72) hC dX5_wrongBy_72 rfl ?_
            refine r_iload_n (pc := 73) hC dX5_wrongBy_73 rfl ?_
            refine k_X5_kind (pc := 74) hC gX5_wrongBy_X5_kind ⟨Nat.le_of_ble_eq_true rfl, Nat.le_of_ble_eq_true rfl⟩ km ks ls rfl hr20 hl hn14 (Nat.le_of_ble_eq_true rfl) rfl ⟨Nat.zero_le _, Nat.zero_le _⟩ dX5_wrongBy_74 ?_
            refine r_iconst (pc := 77) (v := 2) hC dX5_wrongBy_77 (by decide) ?_
            refine r_icmp_eq (pc := 78) (tgt := 83) hC dX5_wrongBy_78 (by decide) (fun bq78 => ?_) (fun bq78 => ?_)
            · skip
              refine r_aload_n (pc := 83) hC dX5_wrongBy_83 rfl ?_
              refine r_aload_n (pc := 84) hC dX5_wrongBy_84 rfl ?_
              refine r_iload_n (pc := 85) hC dX5_wrongBy_85 rfl ?_
              refine k_X5_width (pc := 86) hC gX5_wrongBy_X5_width ⟨Nat.le_of_ble_eq_true rfl, Nat.le_of_ble_eq_true rfl⟩ km ks ls rfl hr20 hl hn14 (Nat.le_of_ble_eq_true rfl) rfl ⟨Nat.zero_le _, Nat.zero_le _⟩ dX5_wrongBy_86 ?_
              refine k_X5_squeezed (pc := 89) hC gX5_wrongBy_X5_squeezed ⟨Nat.le_of_ble_eq_true rfl, Nat.le_of_ble_eq_true rfl⟩ km ks ls h8 (Nat.le_of_ble_eq_true rfl) rfl ⟨Nat.zero_le _, Nat.zero_le _⟩ dX5_wrongBy_89 ?_
              refine r_bipush (pc := 92) (v := 120) hC dX5_wrongBy_92 (by decide) ?_
              refine r_icmp_le (pc := 94) (tgt := 101) hC dX5_wrongBy_94 (by decide) (fun bq94 => ?_) (fun bq94 => ?_)
              · skip
                refine r_iconst (pc := 101) (v := 0) hC dX5_wrongBy_101 (by decide) ?_
                refine r_iret (pc := 102) hC hD rfl dX5_wrongBy_102 rfl ?_
                exact ⟨by rw [sWrong, hsk, hsw]; simp_all, rfl, rfl, rfl⟩
              · skip
                refine r_iconst (pc := 97) (v := 5) hC dX5_wrongBy_97 (by decide) ?_
                refine r_goto (pc := 98) (tgt := 102) hC dX5_wrongBy_98 (by decide) ?_
                refine r_iret (pc := 102) hC hD rfl dX5_wrongBy_102 rfl ?_
                exact ⟨by rw [sWrong, hsk, hsw]; simp_all, rfl, rfl, rfl⟩
            · skip
              refine r_iconst (pc := 81) (v := 4) hC dX5_wrongBy_81 (by decide) ?_
              refine r_iret (pc := 82) hC hD rfl dX5_wrongBy_82 rfl ?_
              exact ⟨by rw [sWrong, hsk, hsw]; simp_all, rfl, rfl, rfl⟩
      · skip
        have son : sOn (I (P m 0)) = false := decide_eq_false bq22
        refine r_aload_n (pc := 25) hC dX5_wrongBy_25 rfl ?_
        refine r_iload_n (pc := 26) hC dX5_wrongBy_26 rfl ?_
        refine k_X5_kind (pc := 27) hC gX5_wrongBy_X5_kind ⟨Nat.le_of_ble_eq_true rfl, Nat.le_of_ble_eq_true rfl⟩ km ks ls rfl hr20 hl hn14 (Nat.le_of_ble_eq_true rfl) rfl ⟨Nat.zero_le _, Nat.zero_le _⟩ dX5_wrongBy_27 ?_
        refine r_iconst (pc := 30) (v := 1) hC dX5_wrongBy_30 (by decide) ?_
        refine r_icmp_eq (pc := 31) (tgt := 45) hC dX5_wrongBy_31 (by decide) (fun bq31 => ?_) (fun bq31 => ?_)
        · skip
          skip
          refine r_aload_n (pc := 45) hC dX5_wrongBy_45 rfl ?_
          refine g_Model_s (pc := 46) hC wi_X5_wrongBy_5 wl_X5_wrongBy_7 (by assumption) (c2 := 7) (by assumption) (by decide) dX5_wrongBy_46 ?_
          refine r_iconst (pc := 49) (v := 3) hC dX5_wrongBy_49 (by decide) ?_
          refine r_iald (pc := 50) hC ks (xi_l (k := 3) ls (by decide) (by decide) (by decide)) dX5_wrongBy_50 ?_
          refine r_if_lt (pc := 51) (tgt := 83) hC dX5_wrongBy_51 (by decide) (fun bq51 => ?_) (fun bq51 => ?_)
          · skip
            refine r_aload_n (pc := 83) hC dX5_wrongBy_83 rfl ?_
            refine r_aload_n (pc := 84) hC dX5_wrongBy_84 rfl ?_
            refine r_iload_n (pc := 85) hC dX5_wrongBy_85 rfl ?_
            refine k_X5_width (pc := 86) hC gX5_wrongBy_X5_width ⟨Nat.le_of_ble_eq_true rfl, Nat.le_of_ble_eq_true rfl⟩ km ks ls rfl hr20 hl hn14 (Nat.le_of_ble_eq_true rfl) rfl ⟨Nat.zero_le _, Nat.zero_le _⟩ dX5_wrongBy_86 ?_
            refine k_X5_squeezed (pc := 89) hC gX5_wrongBy_X5_squeezed ⟨Nat.le_of_ble_eq_true rfl, Nat.le_of_ble_eq_true rfl⟩ km ks ls h8 (Nat.le_of_ble_eq_true rfl) rfl ⟨Nat.zero_le _, Nat.zero_le _⟩ dX5_wrongBy_89 ?_
            refine r_bipush (pc := 92) (v := 120) hC dX5_wrongBy_92 (by decide) ?_
            refine r_icmp_le (pc := 94) (tgt := 101) hC dX5_wrongBy_94 (by decide) (fun bq94 => ?_) (fun bq94 => ?_)
            · skip
              refine r_iconst (pc := 101) (v := 0) hC dX5_wrongBy_101 (by decide) ?_
              refine r_iret (pc := 102) hC hD rfl dX5_wrongBy_102 rfl ?_
              exact ⟨by rw [sWrong, hsk, hsw]; simp_all, rfl, rfl, rfl⟩
            · skip
              refine r_iconst (pc := 97) (v := 5) hC dX5_wrongBy_97 (by decide) ?_
              refine r_goto (pc := 98) (tgt := 102) hC dX5_wrongBy_98 (by decide) ?_
              refine r_iret (pc := 102) hC hD rfl dX5_wrongBy_102 rfl ?_
              exact ⟨by rw [sWrong, hsk, hsw]; simp_all, rfl, rfl, rfl⟩
          · skip
            exact absurd (Int32.not_lt.mp bq51) bq22
        · skip
          refine r_aload_n (pc := 34) hC dX5_wrongBy_34 rfl ?_
          refine r_iload_n (pc := 35) hC dX5_wrongBy_35 rfl ?_
          refine k_X5_kind (pc := 36) hC gX5_wrongBy_X5_kind ⟨Nat.le_of_ble_eq_true rfl, Nat.le_of_ble_eq_true rfl⟩ km ks ls rfl hr20 hl hn14 (Nat.le_of_ble_eq_true rfl) rfl ⟨Nat.zero_le _, Nat.zero_le _⟩ dX5_wrongBy_36 ?_
          refine r_iconst (pc := 39) (v := 2) hC dX5_wrongBy_39 (by decide) ?_
          refine r_icmp_eq (pc := 40) (tgt := 45) hC dX5_wrongBy_40 (by decide) (fun bq40 => ?_) (fun bq40 => ?_)
          · skip
            skip
            refine r_aload_n (pc := 45) hC dX5_wrongBy_45 rfl ?_
            refine g_Model_s (pc := 46) hC wi_X5_wrongBy_5 wl_X5_wrongBy_7 (by assumption) (c2 := 7) (by assumption) (by decide) dX5_wrongBy_46 ?_
            refine r_iconst (pc := 49) (v := 3) hC dX5_wrongBy_49 (by decide) ?_
            refine r_iald (pc := 50) hC ks (xi_l (k := 3) ls (by decide) (by decide) (by decide)) dX5_wrongBy_50 ?_
            refine r_if_lt (pc := 51) (tgt := 83) hC dX5_wrongBy_51 (by decide) (fun bq51 => ?_) (fun bq51 => ?_)
            · skip
              refine r_aload_n (pc := 83) hC dX5_wrongBy_83 rfl ?_
              refine r_aload_n (pc := 84) hC dX5_wrongBy_84 rfl ?_
              refine r_iload_n (pc := 85) hC dX5_wrongBy_85 rfl ?_
              refine k_X5_width (pc := 86) hC gX5_wrongBy_X5_width ⟨Nat.le_of_ble_eq_true rfl, Nat.le_of_ble_eq_true rfl⟩ km ks ls rfl hr20 hl hn14 (Nat.le_of_ble_eq_true rfl) rfl ⟨Nat.zero_le _, Nat.zero_le _⟩ dX5_wrongBy_86 ?_
              refine k_X5_squeezed (pc := 89) hC gX5_wrongBy_X5_squeezed ⟨Nat.le_of_ble_eq_true rfl, Nat.le_of_ble_eq_true rfl⟩ km ks ls h8 (Nat.le_of_ble_eq_true rfl) rfl ⟨Nat.zero_le _, Nat.zero_le _⟩ dX5_wrongBy_89 ?_
              refine r_bipush (pc := 92) (v := 120) hC dX5_wrongBy_92 (by decide) ?_
              refine r_icmp_le (pc := 94) (tgt := 101) hC dX5_wrongBy_94 (by decide) (fun bq94 => ?_) (fun bq94 => ?_)
              · skip
                refine r_iconst (pc := 101) (v := 0) hC dX5_wrongBy_101 (by decide) ?_
                refine r_iret (pc := 102) hC hD rfl dX5_wrongBy_102 rfl ?_
                exact ⟨by rw [sWrong, hsk, hsw]; simp_all, rfl, rfl, rfl⟩
              · skip
                refine r_iconst (pc := 97) (v := 5) hC dX5_wrongBy_97 (by decide) ?_
                refine r_goto (pc := 98) (tgt := 102) hC dX5_wrongBy_98 (by decide) ?_
                refine r_iret (pc := 102) hC hD rfl dX5_wrongBy_102 rfl ?_
                exact ⟨by rw [sWrong, hsk, hsw]; simp_all, rfl, rfl, rfl⟩
            · skip
              exact absurd (Int32.not_lt.mp bq51) bq22
          · skip
            refine r_iconst (pc := 43) (v := 3) hC dX5_wrongBy_43 (by decide) ?_
            refine r_iret (pc := 44) hC hD rfl dX5_wrongBy_44 rfl ?_
            exact ⟨by rw [sWrong, hsk, hsw]; simp_all, rfl, rfl, rfl⟩
    · skip
      refine r_iconst (pc := 14) (v := 2) hC dX5_wrongBy_14 (by decide) ?_
      refine r_iret (pc := 15) hC hD rfl dX5_wrongBy_15 rfl ?_
      exact ⟨by rw [sWrong, hsk, hsw]; simp_all, rfl, rfl, rfl⟩
  · skip
    exact absurd (nI_pos' (n := r) (by omega)) bq1
theorem k_X5_wrongBy {X : xF} {G : xG} {cs : Nat × Nat} {μ : xM} {I : xI} {P : xP} {L : List (Option Value)} {pc : Nat} {rest : List Value} {cc : ByteArray} {Ts : List Cond} {own : String} {nL : Nat} {R : Room} (hC : xC X G cc Ts own nL R) {index : Nat} (hG : GoodIn Ts (wsV own index RX5 yX5_wrongBy wsX5_wrongBy)) (hR : rm_X5_wrongBy.frames + 1 ≤ R.frames ∧ 8 + (2 + 11) + rm_X5_wrongBy.locals ≤ R.locals) {m r n : Nat} {row : Int32} (km : μ.2.1 m = 6) (ks : μ.2.1 (P m 0) = 7) (ls : μ.2.2 (P m 0) = 369) (hr : row = nI r) (hr20 : r < 20) (hl : I (P m 0) (11 + 17 * r) = nI n) (hn14 : n ≤ 14) (h8 : ¬ I (P m 0) 8 = 0) (hdr : ¬ I (P m 0) 3 < 0 → ∃ d, d < 6 ∧ I (P m 0) 3 = nI d) (hW : (rest.map fun v => v.category).sum ≤ 8) (hL : L.length = nL) (hcs : cs.1 ≤ R.cells ∧ cs.2 ≤ R.slots) (hdec : decode cc pc = .ok (.invokevirtual index, 3)) (kk : xg X G cs μ I P L (pc + 3) (.int (sWrong (I (P m 0)) r) :: rest)) : xg X G cs μ I P L pc (.int row :: .ref (xZ G + m) :: rest) :=
  r_callV hC (c_X5_wrongBy X.2.1 km ks ls hr hr20 hl hn14 h8 hdr) hG rfl rfl rfl hd_X5_wrongBy hR (by rw [km]; decide) (xe_Model km) rfl rfl rfl hW hL hcs hdec (by rintro v μ' I' P' ⟨rfl, rfl, rfl, rfl⟩; exact kk)
abbrev rm_X5_leaves : Room := { frames := 2, cells := 0, slots := 0, locals := 43 }
theorem wl_X5_leaves_121 : Cond.fieldLink RX5 121 "HandBlindsModel" "torn" "I" ∈ wsX5_leaves := List.mem_of_getElem? (i := 3) (by decide +kernel)
theorem wi_X5_leaves_5 : ∀ w ∈ wsX50, w ∈ wsX5_leaves := fun _ h => List.mem_cons_of_mem _ (List.mem_append_right _ h)
theorem wl_X5_leaves_7 : Cond.fieldLink RX5 7 "HandBlindsModel" "s" "[I" ∈ wsX5_leaves := List.mem_of_getElem? (i := 2) (by decide +kernel)
theorem wl_X5_leaves_118 : Cond.fieldLink RX5 118 "HandBlindsModel" "gone" "I" ∈ wsX5_leaves := List.mem_of_getElem? (i := 1) (by decide +kernel)
theorem hd_X5_leaves : yX5_leaves.cls = RX5 ∧ yX5_leaves.cls ≠ "java/lang/invoke/MethodHandle" ∧ yX5_leaves.cls ≠ "java/lang/invoke/VarHandle" ∧ (parseMethodDescriptor yX5_leaves.desc).map (fun d => d.parameters.length) = some 2 := ⟨rfl, by decide +kernel, by decide +kernel, by decide +kernel⟩
set_option maxHeartbeats 4000000 in
set_option maxRecDepth 100000 in
theorem c_X5_leaves (l : Launch) {G : xG} {μ : xM} {I : xI} {P : xP} {m r g : Nat} {row v : Int32} (km : μ.2.1 m = 6) (ks : μ.2.1 (P m 0) = 7) (ls : μ.2.2 (P m 0) = 369) (hr : row = nI r) (hr20 : r < 20) (hg : I m 11 = nI g) (hg31 : g < 2 ^ 31) : Ct l yX5_leaves wsX5_leaves rm_X5_leaves G μ I P [.ref (xZ G + m), .int row, .int v] 0 0 (fun vv μ' I' P' => vv = none ∧ μ' = μ ∧ I' = (if v = 3 ∧ g % 2 = 1 then I else xlv (P m 0) m r v I) ∧ P' = (P)) := by
  subst hr
  have hms : m ≠ P m 0 := fun e => by rw [← e, km] at ks; cases ks
  have hq9 : ¬ 9 = 12 + 17 * r := by omega
  refine Ct.of (cc := cX5_leaves) (maxL := 4) (ret := none) [some (.ref (xZ G + m)), some (.int (nI r)), some (.int v), none] (by decide) rfl rfl rfl (Nat.le_of_ble_eq_true rfl) ?_
  intro X hC hD h0 _
  refine r_iload_n (pc := 0) hC dX5_leaves_0 rfl ?_
  refine r_iconst (pc := 1) (v := 3) hC dX5_leaves_1 (by decide) ?_
  refine r_icmp_ne (pc := 2) (tgt := 16) hC dX5_leaves_2 (by decide) (fun bq2 => ?_) (fun bq2 => ?_)
  · skip
    refine r_aload_n (pc := 16) hC dX5_leaves_16 rfl ?_
    refine r_iload_n (pc := 17) hC dX5_leaves_17 rfl ?_
    refine r_iconst (pc := 18) (v := 1) hC dX5_leaves_18 (by decide) ?_
    refine r_aload_n (pc := 19) hC dX5_leaves_19 rfl ?_
    refine r_iload_n (pc := 20) hC dX5_leaves_20 rfl ?_
    refine r_iconst (pc := 21) (v := 1) hC dX5_leaves_21 (by decide) ?_
    refine k_X5_of (pc := 22) hC gX5_leaves_X5_of ⟨Nat.le_of_ble_eq_true rfl, Nat.le_of_ble_eq_true rfl⟩ (k := 12 + 17 * r) km ks ls (by simp only [xlit, nI_add, pk_mul] <;> exact congrArg nI (by omega)) (by omega) (Nat.le_of_ble_eq_true rfl) rfl ⟨Nat.zero_le _, Nat.zero_le _⟩ dX5_leaves_22 ?_
    refine r_iload_n (pc := 25) hC dX5_leaves_25 rfl ?_
    refine r_iadd (pc := 26) hC dX5_leaves_26 ?_
    refine k_X5_sets (pc := 27) hC gX5_leaves_X5_sets ⟨Nat.le_of_ble_eq_true rfl, Nat.le_of_ble_eq_true rfl⟩ (k := 12 + 17 * r) km ks ls (by simp only [xlit, nI_add, pk_mul] <;> exact congrArg nI (by omega)) (by omega) (Nat.le_of_ble_eq_true rfl) rfl ⟨Nat.zero_le _, Nat.zero_le _⟩ dX5_leaves_27 ?_
    refine r_aload_n (pc := 30) hC dX5_leaves_30 rfl ?_
    refine r_iload_n (pc := 31) hC dX5_leaves_31 rfl ?_
    refine k_X5_isTorn (pc := 32) hC gX5_leaves_X5_isTorn ⟨Nat.le_of_ble_eq_true rfl, Nat.le_of_ble_eq_true rfl⟩ km ks ls rfl hr20 (Nat.le_of_ble_eq_true rfl) rfl ⟨Nat.zero_le _, Nat.zero_le _⟩ dX5_leaves_32 ?_
    refine r_if_ne (pc := 35) (tgt := 58) hC dX5_leaves_35 (by decide) (fun bq35 => ?_) (fun bq35 => ?_)
    · skip
      have et : I (P m 0) (13 + 17 * r) = 1 := by simp [xu] at bq35; exact bq35
      have e1 : tear1 (I (P m 0)) r v = 0 := by unfold tear1; rw [if_pos et]
      have e2 : torn1 (I (P m 0)) r v = 1 := by unfold torn1; rw [if_pos et]
      refine r_iconst (pc := 58) (v := 0) hC dX5_leaves_58 (by decide) ?_
      refine r_istore_n (pc := 59) (L' := [_, _, _, _]) hC dX5_leaves_59 rfl (Nat.le_of_ble_eq_true rfl) rfl ?_
      refine r_aload_n (pc := 60) hC dX5_leaves_60 rfl ?_
      refine r_iload_n (pc := 61) hC dX5_leaves_61 rfl ?_
      refine r_iconst (pc := 62) (v := 2) hC dX5_leaves_62 (by decide) ?_
      refine r_iload_n (pc := 63) hC dX5_leaves_63 rfl ?_
      refine r_if_ne (pc := 64) (tgt := 75) hC dX5_leaves_64 (by decide) (fun bq64 => ?_) (fun bq64 => ?_)
      · skip
        exact absurd rfl bq64
      · skip
        refine r_aload_n (pc := 67) hC dX5_leaves_67 rfl ?_
        refine r_iload_n (pc := 68) hC dX5_leaves_68 rfl ?_
        refine k_X5_isTorn (pc := 69) hC gX5_leaves_X5_isTorn ⟨Nat.le_of_ble_eq_true rfl, Nat.le_of_ble_eq_true rfl⟩ km ks ls rfl hr20 (Nat.le_of_ble_eq_true rfl) rfl ⟨Nat.zero_le _, Nat.zero_le _⟩ dX5_leaves_69 ?_
        refine r_if_eq (pc := 72) (tgt := 79) hC dX5_leaves_72 (by decide) (fun bq72 => ?_) (fun bq72 => ?_)
        · skip
          simp [xu, et] at bq72
        · skip
          refine r_iconst (pc := 75) (v := 1) hC dX5_leaves_75 (by decide) ?_
          refine r_goto (pc := 76) (tgt := 80) hC dX5_leaves_76 (by decide) ?_
          refine k_X5_sets (pc := 80) hC gX5_leaves_X5_sets ⟨Nat.le_of_ble_eq_true rfl, Nat.le_of_ble_eq_true rfl⟩ (k := 13 + 17 * r) km ks ls (by simp only [xlit, nI_add, pk_mul] <;> exact congrArg nI (by omega)) (by omega) (Nat.le_of_ble_eq_true rfl) rfl ⟨Nat.zero_le _, Nat.zero_le _⟩ dX5_leaves_80 ?_
          refine r_aload_n (pc := 83) hC dX5_leaves_83 rfl ?_
          refine r_dup (pc := 84) hC dX5_leaves_84 rfl ?_
          refine g_Model_torn (pc := 85) hC wi_X5_leaves_5 wl_X5_leaves_121 (by assumption) dX5_leaves_85 ?_
          refine r_iload_n (pc := 88) hC dX5_leaves_88 rfl ?_
          refine r_if_eq (pc := 89) (tgt := 96) hC dX5_leaves_89 (by decide) (fun bq89 => ?_) (fun bq89 => ?_)
          · skip
            refine r_iconst (pc := 96) (v := 0) hC dX5_leaves_96 (by decide) ?_
            refine r_iadd (pc := 97) hC dX5_leaves_97 ?_
            refine p_Model_torn (pc := 98) hC wi_X5_leaves_5 wl_X5_leaves_121 (by assumption) dX5_leaves_98 ?_
            refine r_vret (pc := 101) hC hD dX5_leaves_101 rfl ?_
            refine ⟨rfl, rfl, ?_, rfl⟩
            rw [if_neg (fun w => bq2 w.1)]
            simp [xlv, e1, e2, wear1, xu, hms]
          · skip
            exact absurd rfl bq89
    · skip
      have et : I (P m 0) (13 + 17 * r) ≠ 1 := fun e => by simp [xu, e] at bq35
      refine r_aload_n (pc := 38) hC dX5_leaves_38 rfl ?_
      refine r_iload_n (pc := 39) hC dX5_leaves_39 rfl ?_
      refine r_iconst (pc := 40) (v := 1) hC dX5_leaves_40 (by decide) ?_
      refine k_X5_of (pc := 41) hC gX5_leaves_X5_of ⟨Nat.le_of_ble_eq_true rfl, Nat.le_of_ble_eq_true rfl⟩ (k := 12 + 17 * r) km ks ls (by simp only [xlit, nI_add, pk_mul] <;> exact congrArg nI (by omega)) (by omega) (Nat.le_of_ble_eq_true rfl) rfl ⟨Nat.zero_le _, Nat.zero_le _⟩ dX5_leaves_41 ?_
      refine r_aload_n (pc := 44) hC dX5_leaves_44 rfl ?_
      refine g_Model_s (pc := 45) hC wi_X5_leaves_5 wl_X5_leaves_7 (by assumption) (c2 := 7) (by assumption) (by decide) dX5_leaves_45 ?_
      refine r_bipush (pc := 48) (v := 9) hC dX5_leaves_48 (by decide) ?_
      refine r_iald (pc := 50) hC ks (xi_l (k := 9) ls (by decide) (by decide) (by decide)) dX5_leaves_50 ?_
      refine r_icmp_le (pc := 51) (tgt := 58) hC dX5_leaves_51 (by decide) (fun bq51 => ?_) (fun bq51 => ?_)
      · skip
        have ew : wear1 (I (P m 0)) r v ≤ I (P m 0) 9 := by simp [xu, hq9] at bq51; exact bq51
        have e1 : tear1 (I (P m 0)) r v = 0 := by unfold tear1; rw [if_neg et, if_pos ew]
        have e2 : torn1 (I (P m 0)) r v = 0 := by unfold torn1; rw [if_neg et, e1]
        refine r_iconst (pc := 58) (v := 0) hC dX5_leaves_58 (by decide) ?_
        refine r_istore_n (pc := 59) (L' := [_, _, _, _]) hC dX5_leaves_59 rfl (Nat.le_of_ble_eq_true rfl) rfl ?_
        refine r_aload_n (pc := 60) hC dX5_leaves_60 rfl ?_
        refine r_iload_n (pc := 61) hC dX5_leaves_61 rfl ?_
        refine r_iconst (pc := 62) (v := 2) hC dX5_leaves_62 (by decide) ?_
        refine r_iload_n (pc := 63) hC dX5_leaves_63 rfl ?_
        refine r_if_ne (pc := 64) (tgt := 75) hC dX5_leaves_64 (by decide) (fun bq64 => ?_) (fun bq64 => ?_)
        · skip
          exact absurd rfl bq64
        · skip
          refine r_aload_n (pc := 67) hC dX5_leaves_67 rfl ?_
          refine r_iload_n (pc := 68) hC dX5_leaves_68 rfl ?_
          refine k_X5_isTorn (pc := 69) hC gX5_leaves_X5_isTorn ⟨Nat.le_of_ble_eq_true rfl, Nat.le_of_ble_eq_true rfl⟩ km ks ls rfl hr20 (Nat.le_of_ble_eq_true rfl) rfl ⟨Nat.zero_le _, Nat.zero_le _⟩ dX5_leaves_69 ?_
          refine r_if_eq (pc := 72) (tgt := 79) hC dX5_leaves_72 (by decide) (fun bq72 => ?_) (fun bq72 => ?_)
          · skip
            refine r_iconst (pc := 79) (v := 0) hC dX5_leaves_79 (by decide) ?_
            refine k_X5_sets (pc := 80) hC gX5_leaves_X5_sets ⟨Nat.le_of_ble_eq_true rfl, Nat.le_of_ble_eq_true rfl⟩ (k := 13 + 17 * r) km ks ls (by simp only [xlit, nI_add, pk_mul] <;> exact congrArg nI (by omega)) (by omega) (Nat.le_of_ble_eq_true rfl) rfl ⟨Nat.zero_le _, Nat.zero_le _⟩ dX5_leaves_80 ?_
            refine r_aload_n (pc := 83) hC dX5_leaves_83 rfl ?_
            refine r_dup (pc := 84) hC dX5_leaves_84 rfl ?_
            refine g_Model_torn (pc := 85) hC wi_X5_leaves_5 wl_X5_leaves_121 (by assumption) dX5_leaves_85 ?_
            refine r_iload_n (pc := 88) hC dX5_leaves_88 rfl ?_
            refine r_if_eq (pc := 89) (tgt := 96) hC dX5_leaves_89 (by decide) (fun bq89 => ?_) (fun bq89 => ?_)
            · skip
              refine r_iconst (pc := 96) (v := 0) hC dX5_leaves_96 (by decide) ?_
              refine r_iadd (pc := 97) hC dX5_leaves_97 ?_
              refine p_Model_torn (pc := 98) hC wi_X5_leaves_5 wl_X5_leaves_121 (by assumption) dX5_leaves_98 ?_
              refine r_vret (pc := 101) hC hD dX5_leaves_101 rfl ?_
              refine ⟨rfl, rfl, ?_, rfl⟩
              rw [if_neg (fun w => bq2 w.1)]
              simp [xlv, e1, e2, wear1, xu, hms]
            · skip
              exact absurd rfl bq89
          · skip
            simp [xu, et] at bq72
      · skip
        have ew : ¬ wear1 (I (P m 0)) r v ≤ I (P m 0) 9 := by simp [xu, hq9] at bq51; exact Int32.not_le.mpr bq51
        have e1 : tear1 (I (P m 0)) r v = 1 := by unfold tear1; rw [if_neg et, if_neg ew]
        have e2 : torn1 (I (P m 0)) r v = 1 := by unfold torn1; rw [if_neg et, e1]
        refine r_iconst (pc := 54) (v := 1) hC dX5_leaves_54 (by decide) ?_
        refine r_goto (pc := 55) (tgt := 59) hC dX5_leaves_55 (by decide) ?_
        refine r_istore_n (pc := 59) (L' := [_, _, _, _]) hC dX5_leaves_59 rfl (Nat.le_of_ble_eq_true rfl) rfl ?_
        refine r_aload_n (pc := 60) hC dX5_leaves_60 rfl ?_
        refine r_iload_n (pc := 61) hC dX5_leaves_61 rfl ?_
        refine r_iconst (pc := 62) (v := 2) hC dX5_leaves_62 (by decide) ?_
        refine r_iload_n (pc := 63) hC dX5_leaves_63 rfl ?_
        refine r_if_ne (pc := 64) (tgt := 75) hC dX5_leaves_64 (by decide) (fun bq64 => ?_) (fun bq64 => ?_)
        · skip
          refine r_iconst (pc := 75) (v := 1) hC dX5_leaves_75 (by decide) ?_
          refine r_goto (pc := 76) (tgt := 80) hC dX5_leaves_76 (by decide) ?_
          refine k_X5_sets (pc := 80) hC gX5_leaves_X5_sets ⟨Nat.le_of_ble_eq_true rfl, Nat.le_of_ble_eq_true rfl⟩ (k := 13 + 17 * r) km ks ls (by simp only [xlit, nI_add, pk_mul] <;> exact congrArg nI (by omega)) (by omega) (Nat.le_of_ble_eq_true rfl) rfl ⟨Nat.zero_le _, Nat.zero_le _⟩ dX5_leaves_80 ?_
          refine r_aload_n (pc := 83) hC dX5_leaves_83 rfl ?_
          refine r_dup (pc := 84) hC dX5_leaves_84 rfl ?_
          refine g_Model_torn (pc := 85) hC wi_X5_leaves_5 wl_X5_leaves_121 (by assumption) dX5_leaves_85 ?_
          refine r_iload_n (pc := 88) hC dX5_leaves_88 rfl ?_
          refine r_if_eq (pc := 89) (tgt := 96) hC dX5_leaves_89 (by decide) (fun bq89 => ?_) (fun bq89 => ?_)
          · skip
            exact absurd bq89 (by decide)
          · skip
            refine r_iconst (pc := 92) (v := 1) hC dX5_leaves_92 (by decide) ?_
            refine r_goto (pc := 93) (tgt := 97) hC dX5_leaves_93 (by decide) ?_
            refine r_iadd (pc := 97) hC dX5_leaves_97 ?_
            refine p_Model_torn (pc := 98) hC wi_X5_leaves_5 wl_X5_leaves_121 (by assumption) dX5_leaves_98 ?_
            refine r_vret (pc := 101) hC hD dX5_leaves_101 rfl ?_
            refine ⟨rfl, rfl, ?_, rfl⟩
            rw [if_neg (fun w => bq2 w.1)]
            simp [xlv, e1, e2, wear1, xu, hms]
        · skip
          exact absurd bq64 (by decide)
  · skip
    refine r_aload_n (pc := 5) hC dX5_leaves_5 rfl ?_
    refine g_Model_gone (pc := 6) hC wi_X5_leaves_5 wl_X5_leaves_118 (by assumption) dX5_leaves_6 ?_
    refine r_iconst (pc := 9) (v := 2) hC dX5_leaves_9 (by decide) ?_
    refine r_irem (pc := 10) hC dX5_leaves_10 (by decide) ?_
    rw [show I m 11 - I m 11 / 2 * 2 = nI (g % 2) from by rw [hg]; exact pk_rem hg31 (by decide) (by decide)]
    refine r_iconst (pc := 11) (v := 1) hC dX5_leaves_11 (by decide) ?_
    refine r_icmp_ne (pc := 12) (tgt := 16) hC dX5_leaves_12 (by decide) (fun bq12 => ?_) (fun bq12 => ?_)
    · skip
      refine r_aload_n (pc := 16) hC dX5_leaves_16 rfl ?_
      refine r_iload_n (pc := 17) hC dX5_leaves_17 rfl ?_
      refine r_iconst (pc := 18) (v := 1) hC dX5_leaves_18 (by decide) ?_
      refine r_aload_n (pc := 19) hC dX5_leaves_19 rfl ?_
      refine r_iload_n (pc := 20) hC dX5_leaves_20 rfl ?_
      refine r_iconst (pc := 21) (v := 1) hC dX5_leaves_21 (by decide) ?_
      refine k_X5_of (pc := 22) hC gX5_leaves_X5_of ⟨Nat.le_of_ble_eq_true rfl, Nat.le_of_ble_eq_true rfl⟩ (k := 12 + 17 * r) km ks ls (by simp only [xlit, nI_add, pk_mul] <;> exact congrArg nI (by omega)) (by omega) (Nat.le_of_ble_eq_true rfl) rfl ⟨Nat.zero_le _, Nat.zero_le _⟩ dX5_leaves_22 ?_
      refine r_iload_n (pc := 25) hC dX5_leaves_25 rfl ?_
      refine r_iadd (pc := 26) hC dX5_leaves_26 ?_
      refine k_X5_sets (pc := 27) hC gX5_leaves_X5_sets ⟨Nat.le_of_ble_eq_true rfl, Nat.le_of_ble_eq_true rfl⟩ (k := 12 + 17 * r) km ks ls (by simp only [xlit, nI_add, pk_mul] <;> exact congrArg nI (by omega)) (by omega) (Nat.le_of_ble_eq_true rfl) rfl ⟨Nat.zero_le _, Nat.zero_le _⟩ dX5_leaves_27 ?_
      refine r_aload_n (pc := 30) hC dX5_leaves_30 rfl ?_
      refine r_iload_n (pc := 31) hC dX5_leaves_31 rfl ?_
      refine k_X5_isTorn (pc := 32) hC gX5_leaves_X5_isTorn ⟨Nat.le_of_ble_eq_true rfl, Nat.le_of_ble_eq_true rfl⟩ km ks ls rfl hr20 (Nat.le_of_ble_eq_true rfl) rfl ⟨Nat.zero_le _, Nat.zero_le _⟩ dX5_leaves_32 ?_
      refine r_if_ne (pc := 35) (tgt := 58) hC dX5_leaves_35 (by decide) (fun bq35 => ?_) (fun bq35 => ?_)
      · skip
        have et : I (P m 0) (13 + 17 * r) = 1 := by simp [xu] at bq35; exact bq35
        have e1 : tear1 (I (P m 0)) r v = 0 := by unfold tear1; rw [if_pos et]
        have e2 : torn1 (I (P m 0)) r v = 1 := by unfold torn1; rw [if_pos et]
        refine r_iconst (pc := 58) (v := 0) hC dX5_leaves_58 (by decide) ?_
        refine r_istore_n (pc := 59) (L' := [_, _, _, _]) hC dX5_leaves_59 rfl (Nat.le_of_ble_eq_true rfl) rfl ?_
        refine r_aload_n (pc := 60) hC dX5_leaves_60 rfl ?_
        refine r_iload_n (pc := 61) hC dX5_leaves_61 rfl ?_
        refine r_iconst (pc := 62) (v := 2) hC dX5_leaves_62 (by decide) ?_
        refine r_iload_n (pc := 63) hC dX5_leaves_63 rfl ?_
        refine r_if_ne (pc := 64) (tgt := 75) hC dX5_leaves_64 (by decide) (fun bq64 => ?_) (fun bq64 => ?_)
        · skip
          exact absurd rfl bq64
        · skip
          refine r_aload_n (pc := 67) hC dX5_leaves_67 rfl ?_
          refine r_iload_n (pc := 68) hC dX5_leaves_68 rfl ?_
          refine k_X5_isTorn (pc := 69) hC gX5_leaves_X5_isTorn ⟨Nat.le_of_ble_eq_true rfl, Nat.le_of_ble_eq_true rfl⟩ km ks ls rfl hr20 (Nat.le_of_ble_eq_true rfl) rfl ⟨Nat.zero_le _, Nat.zero_le _⟩ dX5_leaves_69 ?_
          refine r_if_eq (pc := 72) (tgt := 79) hC dX5_leaves_72 (by decide) (fun bq72 => ?_) (fun bq72 => ?_)
          · skip
            simp [xu, et] at bq72
          · skip
            refine r_iconst (pc := 75) (v := 1) hC dX5_leaves_75 (by decide) ?_
            refine r_goto (pc := 76) (tgt := 80) hC dX5_leaves_76 (by decide) ?_
            refine k_X5_sets (pc := 80) hC gX5_leaves_X5_sets ⟨Nat.le_of_ble_eq_true rfl, Nat.le_of_ble_eq_true rfl⟩ (k := 13 + 17 * r) km ks ls (by simp only [xlit, nI_add, pk_mul] <;> exact congrArg nI (by omega)) (by omega) (Nat.le_of_ble_eq_true rfl) rfl ⟨Nat.zero_le _, Nat.zero_le _⟩ dX5_leaves_80 ?_
            refine r_aload_n (pc := 83) hC dX5_leaves_83 rfl ?_
            refine r_dup (pc := 84) hC dX5_leaves_84 rfl ?_
            refine g_Model_torn (pc := 85) hC wi_X5_leaves_5 wl_X5_leaves_121 (by assumption) dX5_leaves_85 ?_
            refine r_iload_n (pc := 88) hC dX5_leaves_88 rfl ?_
            refine r_if_eq (pc := 89) (tgt := 96) hC dX5_leaves_89 (by decide) (fun bq89 => ?_) (fun bq89 => ?_)
            · skip
              refine r_iconst (pc := 96) (v := 0) hC dX5_leaves_96 (by decide) ?_
              refine r_iadd (pc := 97) hC dX5_leaves_97 ?_
              refine p_Model_torn (pc := 98) hC wi_X5_leaves_5 wl_X5_leaves_121 (by assumption) dX5_leaves_98 ?_
              refine r_vret (pc := 101) hC hD dX5_leaves_101 rfl ?_
              refine ⟨rfl, rfl, ?_, rfl⟩
              rw [if_neg (fun w => bq12 (by rw [w.2]; rfl))]
              simp [xlv, e1, e2, wear1, xu, hms]
            · skip
              exact absurd rfl bq89
      · skip
        have et : I (P m 0) (13 + 17 * r) ≠ 1 := fun e => by simp [xu, e] at bq35
        refine r_aload_n (pc := 38) hC dX5_leaves_38 rfl ?_
        refine r_iload_n (pc := 39) hC dX5_leaves_39 rfl ?_
        refine r_iconst (pc := 40) (v := 1) hC dX5_leaves_40 (by decide) ?_
        refine k_X5_of (pc := 41) hC gX5_leaves_X5_of ⟨Nat.le_of_ble_eq_true rfl, Nat.le_of_ble_eq_true rfl⟩ (k := 12 + 17 * r) km ks ls (by simp only [xlit, nI_add, pk_mul] <;> exact congrArg nI (by omega)) (by omega) (Nat.le_of_ble_eq_true rfl) rfl ⟨Nat.zero_le _, Nat.zero_le _⟩ dX5_leaves_41 ?_
        refine r_aload_n (pc := 44) hC dX5_leaves_44 rfl ?_
        refine g_Model_s (pc := 45) hC wi_X5_leaves_5 wl_X5_leaves_7 (by assumption) (c2 := 7) (by assumption) (by decide) dX5_leaves_45 ?_
        refine r_bipush (pc := 48) (v := 9) hC dX5_leaves_48 (by decide) ?_
        refine r_iald (pc := 50) hC ks (xi_l (k := 9) ls (by decide) (by decide) (by decide)) dX5_leaves_50 ?_
        refine r_icmp_le (pc := 51) (tgt := 58) hC dX5_leaves_51 (by decide) (fun bq51 => ?_) (fun bq51 => ?_)
        · skip
          have ew : wear1 (I (P m 0)) r v ≤ I (P m 0) 9 := by simp [xu, hq9] at bq51; exact bq51
          have e1 : tear1 (I (P m 0)) r v = 0 := by unfold tear1; rw [if_neg et, if_pos ew]
          have e2 : torn1 (I (P m 0)) r v = 0 := by unfold torn1; rw [if_neg et, e1]
          refine r_iconst (pc := 58) (v := 0) hC dX5_leaves_58 (by decide) ?_
          refine r_istore_n (pc := 59) (L' := [_, _, _, _]) hC dX5_leaves_59 rfl (Nat.le_of_ble_eq_true rfl) rfl ?_
          refine r_aload_n (pc := 60) hC dX5_leaves_60 rfl ?_
          refine r_iload_n (pc := 61) hC dX5_leaves_61 rfl ?_
          refine r_iconst (pc := 62) (v := 2) hC dX5_leaves_62 (by decide) ?_
          refine r_iload_n (pc := 63) hC dX5_leaves_63 rfl ?_
          refine r_if_ne (pc := 64) (tgt := 75) hC dX5_leaves_64 (by decide) (fun bq64 => ?_) (fun bq64 => ?_)
          · skip
            exact absurd rfl bq64
          · skip
            refine r_aload_n (pc := 67) hC dX5_leaves_67 rfl ?_
            refine r_iload_n (pc := 68) hC dX5_leaves_68 rfl ?_
            refine k_X5_isTorn (pc := 69) hC gX5_leaves_X5_isTorn ⟨Nat.le_of_ble_eq_true rfl, Nat.le_of_ble_eq_true rfl⟩ km ks ls rfl hr20 (Nat.le_of_ble_eq_true rfl) rfl ⟨Nat.zero_le _, Nat.zero_le _⟩ dX5_leaves_69 ?_
            refine r_if_eq (pc := 72) (tgt := 79) hC dX5_leaves_72 (by decide) (fun bq72 => ?_) (fun bq72 => ?_)
            · skip
              refine r_iconst (pc := 79) (v := 0) hC dX5_leaves_79 (by decide) ?_
              refine k_X5_sets (pc := 80) hC gX5_leaves_X5_sets ⟨Nat.le_of_ble_eq_true rfl, Nat.le_of_ble_eq_true rfl⟩ (k := 13 + 17 * r) km ks ls (by simp only [xlit, nI_add, pk_mul] <;> exact congrArg nI (by omega)) (by omega) (Nat.le_of_ble_eq_true rfl) rfl ⟨Nat.zero_le _, Nat.zero_le _⟩ dX5_leaves_80 ?_
              refine r_aload_n (pc := 83) hC dX5_leaves_83 rfl ?_
              refine r_dup (pc := 84) hC dX5_leaves_84 rfl ?_
              refine g_Model_torn (pc := 85) hC wi_X5_leaves_5 wl_X5_leaves_121 (by assumption) dX5_leaves_85 ?_
              refine r_iload_n (pc := 88) hC dX5_leaves_88 rfl ?_
              refine r_if_eq (pc := 89) (tgt := 96) hC dX5_leaves_89 (by decide) (fun bq89 => ?_) (fun bq89 => ?_)
              · skip
                refine r_iconst (pc := 96) (v := 0) hC dX5_leaves_96 (by decide) ?_
                refine r_iadd (pc := 97) hC dX5_leaves_97 ?_
                refine p_Model_torn (pc := 98) hC wi_X5_leaves_5 wl_X5_leaves_121 (by assumption) dX5_leaves_98 ?_
                refine r_vret (pc := 101) hC hD dX5_leaves_101 rfl ?_
                refine ⟨rfl, rfl, ?_, rfl⟩
                rw [if_neg (fun w => bq12 (by rw [w.2]; rfl))]
                simp [xlv, e1, e2, wear1, xu, hms]
              · skip
                exact absurd rfl bq89
            · skip
              simp [xu, et] at bq72
        · skip
          have ew : ¬ wear1 (I (P m 0)) r v ≤ I (P m 0) 9 := by simp [xu, hq9] at bq51; exact Int32.not_le.mpr bq51
          have e1 : tear1 (I (P m 0)) r v = 1 := by unfold tear1; rw [if_neg et, if_neg ew]
          have e2 : torn1 (I (P m 0)) r v = 1 := by unfold torn1; rw [if_neg et, e1]
          refine r_iconst (pc := 54) (v := 1) hC dX5_leaves_54 (by decide) ?_
          refine r_goto (pc := 55) (tgt := 59) hC dX5_leaves_55 (by decide) ?_
          refine r_istore_n (pc := 59) (L' := [_, _, _, _]) hC dX5_leaves_59 rfl (Nat.le_of_ble_eq_true rfl) rfl ?_
          refine r_aload_n (pc := 60) hC dX5_leaves_60 rfl ?_
          refine r_iload_n (pc := 61) hC dX5_leaves_61 rfl ?_
          refine r_iconst (pc := 62) (v := 2) hC dX5_leaves_62 (by decide) ?_
          refine r_iload_n (pc := 63) hC dX5_leaves_63 rfl ?_
          refine r_if_ne (pc := 64) (tgt := 75) hC dX5_leaves_64 (by decide) (fun bq64 => ?_) (fun bq64 => ?_)
          · skip
            refine r_iconst (pc := 75) (v := 1) hC dX5_leaves_75 (by decide) ?_
            refine r_goto (pc := 76) (tgt := 80) hC dX5_leaves_76 (by decide) ?_
            refine k_X5_sets (pc := 80) hC gX5_leaves_X5_sets ⟨Nat.le_of_ble_eq_true rfl, Nat.le_of_ble_eq_true rfl⟩ (k := 13 + 17 * r) km ks ls (by simp only [xlit, nI_add, pk_mul] <;> exact congrArg nI (by omega)) (by omega) (Nat.le_of_ble_eq_true rfl) rfl ⟨Nat.zero_le _, Nat.zero_le _⟩ dX5_leaves_80 ?_
            refine r_aload_n (pc := 83) hC dX5_leaves_83 rfl ?_
            refine r_dup (pc := 84) hC dX5_leaves_84 rfl ?_
            refine g_Model_torn (pc := 85) hC wi_X5_leaves_5 wl_X5_leaves_121 (by assumption) dX5_leaves_85 ?_
            refine r_iload_n (pc := 88) hC dX5_leaves_88 rfl ?_
            refine r_if_eq (pc := 89) (tgt := 96) hC dX5_leaves_89 (by decide) (fun bq89 => ?_) (fun bq89 => ?_)
            · skip
              exact absurd bq89 (by decide)
            · skip
              refine r_iconst (pc := 92) (v := 1) hC dX5_leaves_92 (by decide) ?_
              refine r_goto (pc := 93) (tgt := 97) hC dX5_leaves_93 (by decide) ?_
              refine r_iadd (pc := 97) hC dX5_leaves_97 ?_
              refine p_Model_torn (pc := 98) hC wi_X5_leaves_5 wl_X5_leaves_121 (by assumption) dX5_leaves_98 ?_
              refine r_vret (pc := 101) hC hD dX5_leaves_101 rfl ?_
              refine ⟨rfl, rfl, ?_, rfl⟩
              rw [if_neg (fun w => bq12 (by rw [w.2]; rfl))]
              simp [xlv, e1, e2, wear1, xu, hms]
          · skip
            exact absurd bq64 (by decide)
    · skip
      refine r_vret (pc := 15) hC hD dX5_leaves_15 rfl ?_
      exact ⟨rfl, rfl, by rw [if_pos ⟨bq2, (nI_eq (b := 1) (by omega) (by decide)).mp bq12⟩], rfl⟩
theorem k_X5_leaves {X : xF} {G : xG} {cs : Nat × Nat} {μ : xM} {I : xI} {P : xP} {L : List (Option Value)} {pc : Nat} {rest : List Value} {cc : ByteArray} {Ts : List Cond} {own : String} {nL : Nat} {R : Room} (hC : xC X G cc Ts own nL R) {index : Nat} (hG : GoodIn Ts (wsV own index RX5 yX5_leaves wsX5_leaves)) (hR : rm_X5_leaves.frames + 1 ≤ R.frames ∧ 8 + (4 + 11) + rm_X5_leaves.locals ≤ R.locals) {m r g : Nat} {row v : Int32} (km : μ.2.1 m = 6) (ks : μ.2.1 (P m 0) = 7) (ls : μ.2.2 (P m 0) = 369) (hr : row = nI r) (hr20 : r < 20) (hg : I m 11 = nI g) (hg31 : g < 2 ^ 31) (hW : (rest.map fun v => v.category).sum ≤ 8) (hL : L.length = nL) (hcs : cs.1 ≤ R.cells ∧ cs.2 ≤ R.slots) (hdec : decode cc pc = .ok (.invokevirtual index, 3)) (kk : xg X G cs μ (if v = 3 ∧ g % 2 = 1 then I else xlv (P m 0) m r v I) P L (pc + 3) rest) : xg X G cs μ I P L pc (.int v :: .int row :: .ref (xZ G + m) :: rest) :=
  r_callV hC (c_X5_leaves X.2.1 km ks ls hr hr20 hg hg31) hG rfl rfl rfl hd_X5_leaves hR (by rw [km]; decide) (xe_Model km) rfl rfl rfl hW hL hcs hdec (by rintro v μ' I' P' ⟨rfl, rfl, rfl, rfl⟩; exact kk)
