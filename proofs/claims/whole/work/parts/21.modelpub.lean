abbrev rm_X5_rowOf : Room := { frames := 3, cells := 0, slots := 0, locals := 69 }
theorem wl_X5_rowOf_92 : Cond.constant RX5 92 (-1000001) ∈ wsX5_rowOf := List.mem_of_getElem? (i := 1) (by decide +kernel)
theorem wl_X5_rowOf_7 : Cond.fieldLink RX5 7 "HandBlindsModel" "s" "[I" ∈ wsX5_rowOf := List.mem_of_getElem? (i := 2) (by decide +kernel)
theorem wi_X5_rowOf_5 : ∀ w ∈ wsX50, w ∈ wsX5_rowOf := fun _ h => List.mem_cons_of_mem _ (List.mem_append_right _ h)
theorem hd_X5_rowOf : yX5_rowOf.cls = RX5 ∧ yX5_rowOf.cls ≠ "java/lang/invoke/MethodHandle" ∧ yX5_rowOf.cls ≠ "java/lang/invoke/VarHandle" ∧ (parseMethodDescriptor yX5_rowOf.desc).map (fun d => d.parameters.length) = some 2 := ⟨rfl, by decide +kernel, by decide +kernel, by decide +kernel⟩
set_option maxHeartbeats 4000000 in
set_option maxRecDepth 100000 in
theorem c_X5_rowOf (l : Launch) {G : xG} {μ : xM} {I : xI} {P : xP} {m n q : Nat} {r w : Int32} (km : μ.2.1 m = 6) (ks : μ.2.1 (P m 0) = 7) (ls : μ.2.2 (P m 0) = 369) (hinv : invN (I (P m 0)) n q) : Ct l yX5_rowOf wsX5_rowOf rm_X5_rowOf G μ I P [.ref (xZ G + m), .int r, .int w] 0 0 (fun vv μ' I' P' => vv = some (.int (aRowOf (I (P m 0)) r w)) ∧ μ' = μ ∧ I' = (I) ∧ P' = (P)) := by
  obtain ⟨hn20, hn, hq6, hq, hsh, hdr, h8r, h9r, h10r, hrows⟩ := id hinv
  have h8 : ¬ I (P m 0) 8 = 0 := fun e => by have h81 := h8r.1; rw [e] at h81; exact absurd h81 (by decide)
  refine Ct.of (cc := cX5_rowOf) (maxL := 3) (ret := (some .int)) [some (.ref (xZ G + m)), some (.int r), some (.int w)] (by decide) rfl rfl rfl (Nat.le_of_ble_eq_true rfl) ?_
  intro X hC hD h0 _
  refine r_aload_n (pc := 0) hC dX5_rowOf_0 rfl ?_
  refine r_iload_n (pc := 1) hC dX5_rowOf_1 rfl ?_
  refine k_X5_isRow (pc := 2) hC gX5_rowOf_X5_isRow ⟨Nat.le_of_ble_eq_true rfl, Nat.le_of_ble_eq_true rfl⟩ (by assumption) (by assumption) (by assumption) (Nat.le_of_ble_eq_true rfl) rfl ⟨Nat.zero_le _, Nat.zero_le _⟩ dX5_rowOf_2 ?_
  refine r_if_eq (pc := 5) (tgt := 18) hC dX5_rowOf_5 (by decide) (fun bq5 => ?_) (fun bq5 => ?_)
  · skip
    refine r_ldc (pc := 18) (v := -1000001) hC dX5_rowOf_18 wl_X5_rowOf_92 ?_
    refine r_iret (pc := 20) hC hD rfl dX5_rowOf_20 rfl ?_
    exact ⟨by simp [aRowOf, bq5], rfl, rfl, rfl⟩
  · skip
    refine r_iload_n (pc := 8) hC dX5_rowOf_8 rfl ?_
    refine r_iconst (pc := 9) (v := 0) hC dX5_rowOf_9 (by decide) ?_
    refine r_bipush (pc := 10) (v := 7) hC dX5_rowOf_10 (by decide) ?_
    refine k_X5_in (pc := 12) hC gX5_rowOf_X5_in ⟨Nat.le_of_ble_eq_true rfl, Nat.le_of_ble_eq_true rfl⟩  (Nat.le_of_ble_eq_true rfl) rfl ⟨Nat.zero_le _, Nat.zero_le _⟩ dX5_rowOf_12 ?_
    refine r_if_ne (pc := 15) (tgt := 21) hC dX5_rowOf_15 (by decide) (fun bq15 => ?_) (fun bq15 => ?_)
    · skip
      obtain ⟨k, hk, rfl⟩ := isR_of bq5 hn (by omega)
      have hkc : (nI k).toNatClampNeg = k := nI_clamp (by omega)
      obtain ⟨L, hL1, hL14, hl, hnm, htn⟩ := hrows k hk
      have hsk : sKind (I (P m 0)) k = kindL (fun j => I (P m 0) (14 + 17 * k + j)) L := by rw [sKind, sLen_of hl (by omega)]; rfl
      have hsw : sWid (I (P m 0)) k = wsum (fun j => I (P m 0) (14 + 17 * k + j)) L := by rw [sWid, sLen_of hl (by omega)]; rfl
      have hqc : (I (P m 0) 2).toNatClampNeg = q := by rw [hq, nI_clamp (by omega)]
      refine r_iload_n (pc := 21) hC dX5_rowOf_21 rfl ?_
      by_cases sw0 : w = 0
      · subst sw0
        refine r_tableIn (pc := 22) (off := 42) (tgt := 64) hC dX5_rowOf_22 (by decide) (by decide) rfl (by decide) ?_
        refine r_aload_n (pc := 64) hC dX5_rowOf_64 rfl ?_
        refine r_iload_n (pc := 65) hC dX5_rowOf_65 rfl ?_
        refine r_iconst (pc := 66) (v := 0) hC dX5_rowOf_66 (by decide) ?_
        refine k_X5_of (pc := 67) hC gX5_rowOf_X5_of ⟨Nat.le_of_ble_eq_true rfl, Nat.le_of_ble_eq_true rfl⟩ (k := 11 + 17 * k) km ks ls (by simp only [xlit, nI_add, pk_mul] <;> exact congrArg nI (by omega)) (by omega) (Nat.le_of_ble_eq_true rfl) rfl ⟨Nat.zero_le _, Nat.zero_le _⟩ dX5_rowOf_67 ?_
        refine r_iret (pc := 70) hC hD rfl dX5_rowOf_70 rfl ?_
        exact ⟨by simp [aRowOf, bq5, bq15, hkc, hsk, hsw, hqc], rfl, rfl, rfl⟩
      by_cases sw1 : w = 1
      · subst sw1
        refine r_tableIn (pc := 22) (off := 49) (tgt := 71) hC dX5_rowOf_22 (by decide) (by decide) rfl (by decide) ?_
        refine r_aload_n (pc := 71) hC dX5_rowOf_71 rfl ?_
        refine r_iload_n (pc := 72) hC dX5_rowOf_72 rfl ?_
        refine k_X5_width (pc := 73) hC gX5_rowOf_X5_width ⟨Nat.le_of_ble_eq_true rfl, Nat.le_of_ble_eq_true rfl⟩ km ks ls rfl (by omega) hl hL14 (Nat.le_of_ble_eq_true rfl) rfl ⟨Nat.zero_le _, Nat.zero_le _⟩ dX5_rowOf_73 ?_
        refine r_iret (pc := 76) hC hD rfl dX5_rowOf_76 rfl ?_
        exact ⟨by simp [aRowOf, bq5, bq15, hkc, hsk, hsw, hqc], rfl, rfl, rfl⟩
      by_cases sw2 : w = 2
      · subst sw2
        refine r_tableIn (pc := 22) (off := 55) (tgt := 77) hC dX5_rowOf_22 (by decide) (by decide) rfl (by decide) ?_
        refine r_aload_n (pc := 77) hC dX5_rowOf_77 rfl ?_
        refine r_aload_n (pc := 78) hC dX5_rowOf_78 rfl ?_
        refine r_iload_n (pc := 79) hC dX5_rowOf_79 rfl ?_
        refine k_X5_width (pc := 80) hC gX5_rowOf_X5_width ⟨Nat.le_of_ble_eq_true rfl, Nat.le_of_ble_eq_true rfl⟩ km ks ls rfl (by omega) hl hL14 (Nat.le_of_ble_eq_true rfl) rfl ⟨Nat.zero_le _, Nat.zero_le _⟩ dX5_rowOf_80 ?_
        refine k_X5_squeezed (pc := 83) hC gX5_rowOf_X5_squeezed ⟨Nat.le_of_ble_eq_true rfl, Nat.le_of_ble_eq_true rfl⟩ km ks ls h8 (Nat.le_of_ble_eq_true rfl) rfl ⟨Nat.zero_le _, Nat.zero_le _⟩ dX5_rowOf_83 ?_
        refine r_iret (pc := 86) hC hD rfl dX5_rowOf_86 rfl ?_
        exact ⟨by simp [aRowOf, bq5, bq15, hkc, hsk, hsw, hqc], rfl, rfl, rfl⟩
      by_cases sw3 : w = 3
      · subst sw3
        refine r_tableIn (pc := 22) (off := 65) (tgt := 87) hC dX5_rowOf_22 (by decide) (by decide) rfl (by decide) ?_
        refine r_aload_n (pc := 87) hC dX5_rowOf_87 rfl ?_
        refine r_iload_n (pc := 88) hC dX5_rowOf_88 rfl ?_
        refine k_X5_kind (pc := 89) hC gX5_rowOf_X5_kind ⟨Nat.le_of_ble_eq_true rfl, Nat.le_of_ble_eq_true rfl⟩ km ks ls rfl (by omega) hl hL14 (Nat.le_of_ble_eq_true rfl) rfl ⟨Nat.zero_le _, Nat.zero_le _⟩ dX5_rowOf_89 ?_
        refine r_iret (pc := 92) hC hD rfl dX5_rowOf_92 rfl ?_
        exact ⟨by simp [aRowOf, bq5, bq15, hkc, hsk, hsw, hqc], rfl, rfl, rfl⟩
      by_cases sw4 : w = 4
      · subst sw4
        refine r_tableIn (pc := 22) (off := 71) (tgt := 93) hC dX5_rowOf_22 (by decide) (by decide) rfl (by decide) ?_
        refine r_aload_n (pc := 93) hC dX5_rowOf_93 rfl ?_
        refine r_iload_n (pc := 94) hC dX5_rowOf_94 rfl ?_
        refine r_iconst (pc := 95) (v := 1) hC dX5_rowOf_95 (by decide) ?_
        refine k_X5_of (pc := 96) hC gX5_rowOf_X5_of ⟨Nat.le_of_ble_eq_true rfl, Nat.le_of_ble_eq_true rfl⟩ (k := 12 + 17 * k) km ks ls (by simp only [xlit, nI_add, pk_mul] <;> exact congrArg nI (by omega)) (by omega) (Nat.le_of_ble_eq_true rfl) rfl ⟨Nat.zero_le _, Nat.zero_le _⟩ dX5_rowOf_96 ?_
        refine r_iret (pc := 99) hC hD rfl dX5_rowOf_99 rfl ?_
        exact ⟨by simp [aRowOf, bq5, bq15, hkc, hsk, hsw, hqc], rfl, rfl, rfl⟩
      by_cases sw5 : w = 5
      · subst sw5
        refine r_tableIn (pc := 22) (off := 78) (tgt := 100) hC dX5_rowOf_22 (by decide) (by decide) rfl (by decide) ?_
        refine r_aload_n (pc := 100) hC dX5_rowOf_100 rfl ?_
        refine r_iload_n (pc := 101) hC dX5_rowOf_101 rfl ?_
        refine r_iconst (pc := 102) (v := 2) hC dX5_rowOf_102 (by decide) ?_
        refine k_X5_of (pc := 103) hC gX5_rowOf_X5_of ⟨Nat.le_of_ble_eq_true rfl, Nat.le_of_ble_eq_true rfl⟩ (k := 13 + 17 * k) km ks ls (by simp only [xlit, nI_add, pk_mul] <;> exact congrArg nI (by omega)) (by omega) (Nat.le_of_ble_eq_true rfl) rfl ⟨Nat.zero_le _, Nat.zero_le _⟩ dX5_rowOf_103 ?_
        refine r_iret (pc := 106) hC hD rfl dX5_rowOf_106 rfl ?_
        exact ⟨by simp [aRowOf, bq5, bq15, hkc, hsk, hsw, hqc], rfl, rfl, rfl⟩
      by_cases sw6 : w = 6
      · subst sw6
        refine r_tableIn (pc := 22) (off := 85) (tgt := 107) hC dX5_rowOf_22 (by decide) (by decide) rfl (by decide) ?_
        refine r_aload_n (pc := 107) hC dX5_rowOf_107 rfl ?_
        refine r_iload_n (pc := 108) hC dX5_rowOf_108 rfl ?_
        refine k_X5_routesOf (pc := 109) hC gX5_rowOf_X5_routesOf ⟨Nat.le_of_ble_eq_true rfl, Nat.le_of_ble_eq_true rfl⟩ km ks ls hq hq6 (Nat.le_of_ble_eq_true rfl) rfl ⟨Nat.zero_le _, Nat.zero_le _⟩ dX5_rowOf_109 ?_
        refine r_iret (pc := 112) hC hD rfl dX5_rowOf_112 rfl ?_
        exact ⟨by simp [aRowOf, bq5, bq15, hkc, hsk, hsw, hqc], rfl, rfl, rfl⟩
      refine r_tableOut (pc := 22) (tgt := 113) hC dX5_rowOf_22 (tab_out (hi := 6) (by decide) (fun j hj e => by
        have hc : j = 0 ∨ j = 1 ∨ j = 2 ∨ j = 3 ∨ j = 4 ∨ j = 5 ∨ j = 6 := by omega
        rcases hc with rfl | rfl | rfl | rfl | rfl | rfl | rfl
        · exact sw0 e
        · exact sw1 e
        · exact sw2 e
        · exact sw3 e
        · exact sw4 e
        · exact sw5 e
        · exact sw6 e)) (by decide) ?_
      have hw7 := inr_07 bq15 sw0 sw1 sw2 sw3 sw4 sw5 sw6
      subst hw7
      refine r_aload_n (pc := 113) hC dX5_rowOf_113 rfl ?_
      refine g_Model_s (pc := 114) hC wi_X5_rowOf_5 wl_X5_rowOf_7 (by assumption) (c2 := 7) (by assumption) (by decide) dX5_rowOf_114 ?_
      refine r_iconst (pc := 117) (v := 1) hC dX5_rowOf_117 (by decide) ?_
      refine r_iald (pc := 118) hC ks (xi_l (k := 1) ls (by decide) (by decide) (by decide)) dX5_rowOf_118 ?_
      refine r_iload_n (pc := 119) hC dX5_rowOf_119 rfl ?_
      refine r_icmp_ne (pc := 120) (tgt := 127) hC dX5_rowOf_120 (by decide) (fun bq120 => ?_) (fun bq120 => ?_)
      · skip
        refine r_iconst (pc := 127) (v := 0) hC dX5_rowOf_127 (by decide) ?_
        refine r_iret (pc := 128) hC hD rfl dX5_rowOf_128 rfl ?_
        exact ⟨by simp [aRowOf, bq5, bq15, bq120, hkc, hsk, hsw, hqc], rfl, rfl, rfl⟩
      · skip
        refine r_iconst (pc := 123) (v := 1) hC dX5_rowOf_123 (by decide) ?_
        refine r_goto (pc := 124) (tgt := 128) hC dX5_rowOf_124 (by decide) ?_
        refine r_iret (pc := 128) hC hD rfl dX5_rowOf_128 rfl ?_
        exact ⟨by simp [aRowOf, bq5, bq15, bq120, hkc, hsk, hsw, hqc], rfl, rfl, rfl⟩
    · skip
      refine r_ldc (pc := 18) (v := -1000001) hC dX5_rowOf_18 wl_X5_rowOf_92 ?_
      refine r_iret (pc := 20) hC hD rfl dX5_rowOf_20 rfl ?_
      exact ⟨by simp [aRowOf, bq5, bq15], rfl, rfl, rfl⟩
theorem k_X5_rowOf {X : xF} {G : xG} {cs : Nat × Nat} {μ : xM} {I : xI} {P : xP} {L : List (Option Value)} {pc : Nat} {rest : List Value} {cc : ByteArray} {Ts : List Cond} {own : String} {nL : Nat} {R : Room} (hC : xC X G cc Ts own nL R) {index : Nat} (hG : GoodIn Ts (wsV own index RX5 yX5_rowOf wsX5_rowOf)) (hR : rm_X5_rowOf.frames + 1 ≤ R.frames ∧ 8 + (3 + 11) + rm_X5_rowOf.locals ≤ R.locals) {m n q : Nat} {r w : Int32} (km : μ.2.1 m = 6) (ks : μ.2.1 (P m 0) = 7) (ls : μ.2.2 (P m 0) = 369) (hinv : invN (I (P m 0)) n q) (hW : (rest.map fun v => v.category).sum ≤ 8) (hL : L.length = nL) (hcs : cs.1 ≤ R.cells ∧ cs.2 ≤ R.slots) (hdec : decode cc pc = .ok (.invokevirtual index, 3)) (kk : xg X G cs μ I P L (pc + 3) (.int (aRowOf (I (P m 0)) r w) :: rest)) : xg X G cs μ I P L pc (.int w :: .int r :: .ref (xZ G + m) :: rest) :=
  r_callV hC (c_X5_rowOf X.2.1 km ks ls hinv) hG rfl rfl rfl hd_X5_rowOf hR (by rw [km]; decide) (xe_Model km) rfl rfl rfl hW hL hcs hdec (by rintro v μ' I' P' ⟨rfl, rfl, rfl, rfl⟩; exact kk)
abbrev rm_X5_letter : Room := { frames := 1, cells := 0, slots := 0, locals := 22 }
theorem wl_X5_letter_92 : Cond.constant RX5 92 (-1000001) ∈ wsX5_letter := List.mem_of_getElem? (i := 1) (by decide +kernel)
theorem wl_X5_letter_100 : Cond.constant RX5 100 (-1000004) ∈ wsX5_letter := List.mem_of_getElem? (i := 2) (by decide +kernel)
theorem hd_X5_letter : yX5_letter.cls = RX5 ∧ yX5_letter.cls ≠ "java/lang/invoke/MethodHandle" ∧ yX5_letter.cls ≠ "java/lang/invoke/VarHandle" ∧ (parseMethodDescriptor yX5_letter.desc).map (fun d => d.parameters.length) = some 2 := ⟨rfl, by decide +kernel, by decide +kernel, by decide +kernel⟩
set_option maxHeartbeats 4000000 in
set_option maxRecDepth 100000 in
theorem c_X5_letter (l : Launch) {G : xG} {μ : xM} {I : xI} {P : xP} {m n q : Nat} {r i : Int32} (km : μ.2.1 m = 6) (ks : μ.2.1 (P m 0) = 7) (ls : μ.2.2 (P m 0) = 369) (hinv : invN (I (P m 0)) n q) : Ct l yX5_letter wsX5_letter rm_X5_letter G μ I P [.ref (xZ G + m), .int r, .int i] 0 0 (fun vv μ' I' P' => vv = some (.int (aLetter (I (P m 0)) r i)) ∧ μ' = μ ∧ I' = (I) ∧ P' = (P)) := by
  obtain ⟨hn20, hn, hq6, hq, hsh, hdr, h8r, h9r, h10r, hrows⟩ := id hinv
  refine Ct.of (cc := cX5_letter) (maxL := 3) (ret := (some .int)) [some (.ref (xZ G + m)), some (.int r), some (.int i)] (by decide) rfl rfl rfl (Nat.le_of_ble_eq_true rfl) ?_
  intro X hC hD h0 _
  refine r_aload_n (pc := 0) hC dX5_letter_0 rfl ?_
  refine r_iload_n (pc := 1) hC dX5_letter_1 rfl ?_
  refine k_X5_isRow (pc := 2) hC gX5_letter_X5_isRow ⟨Nat.le_of_ble_eq_true rfl, Nat.le_of_ble_eq_true rfl⟩ (by assumption) (by assumption) (by assumption) (Nat.le_of_ble_eq_true rfl) rfl ⟨Nat.zero_le _, Nat.zero_le _⟩ dX5_letter_2 ?_
  refine r_if_eq (pc := 5) (tgt := 12) hC dX5_letter_5 (by decide) (fun bq5 => ?_) (fun bq5 => ?_)
  · skip
    refine r_ldc (pc := 12) (v := -1000001) hC dX5_letter_12 wl_X5_letter_92 ?_
    refine r_iret (pc := 14) hC hD rfl dX5_letter_14 rfl ?_
    exact ⟨by simp [aLetter, bq5], rfl, rfl, rfl⟩
  · skip
    refine r_iload_n (pc := 8) hC dX5_letter_8 rfl ?_
    refine r_if_ge (pc := 9) (tgt := 15) hC dX5_letter_9 (by decide) (fun bq9 => ?_) (fun bq9 => ?_)
    · skip
      obtain ⟨k, hk, rfl⟩ := isR_of bq5 hn (by omega)
      have hkc : (nI k).toNatClampNeg = k := nI_clamp (by omega)
      obtain ⟨L, hL1, hL14, hl, hnm, htn⟩ := hrows k hk
      have hsk : sKind (I (P m 0)) k = kindL (fun j => I (P m 0) (14 + 17 * k + j)) L := by rw [sKind, sLen_of hl (by omega)]; rfl
      have hsw : sWid (I (P m 0)) k = wsum (fun j => I (P m 0) (14 + 17 * k + j)) L := by rw [sWid, sLen_of hl (by omega)]; rfl
      refine r_iload_n (pc := 15) hC dX5_letter_15 rfl ?_
      refine r_aload_n (pc := 16) hC dX5_letter_16 rfl ?_
      refine r_iload_n (pc := 17) hC dX5_letter_17 rfl ?_
      refine r_iconst (pc := 18) (v := 0) hC dX5_letter_18 (by decide) ?_
      refine k_X5_of (pc := 19) hC gX5_letter_X5_of ⟨Nat.le_of_ble_eq_true rfl, Nat.le_of_ble_eq_true rfl⟩ (k := 11 + 17 * k) km ks ls (by simp only [xlit, nI_add, pk_mul] <;> exact congrArg nI (by omega)) (by omega) (Nat.le_of_ble_eq_true rfl) rfl ⟨Nat.zero_le _, Nat.zero_le _⟩ dX5_letter_19 ?_
      refine r_icmp_ge (pc := 22) (tgt := 36) hC dX5_letter_22 (by decide) (fun bq22 => ?_) (fun bq22 => ?_)
      · skip
        refine r_ldc (pc := 36) (v := -1000004) hC dX5_letter_36 wl_X5_letter_100 ?_
        refine r_iret (pc := 38) hC hD rfl dX5_letter_38 rfl ?_
        exact ⟨by rw [aLetter, if_neg bq5, if_pos bq9, hkc, if_pos bq22], rfl, rfl, rfl⟩
      · skip
        obtain ⟨ik, hik, rfl⟩ := xlt_of bq9 bq22 hl (by omega)
        have hic : (nI ik).toNatClampNeg = ik := nI_clamp (by omega)
        refine r_aload_n (pc := 25) hC dX5_letter_25 rfl ?_
        refine r_iload_n (pc := 26) hC dX5_letter_26 rfl ?_
        refine r_iconst (pc := 27) (v := 3) hC dX5_letter_27 (by decide) ?_
        refine r_iload_n (pc := 28) hC dX5_letter_28 rfl ?_
        refine r_iadd (pc := 29) hC dX5_letter_29 ?_
        refine k_X5_of (pc := 30) hC gX5_letter_X5_of ⟨Nat.le_of_ble_eq_true rfl, Nat.le_of_ble_eq_true rfl⟩ (k := 14 + 17 * k + ik) km ks ls (by simp only [xlit, nI_add, pk_mul] <;> exact congrArg nI (by omega)) (by omega) (Nat.le_of_ble_eq_true rfl) rfl ⟨Nat.zero_le _, Nat.zero_le _⟩ dX5_letter_30 ?_
        refine r_goto (pc := 33) (tgt := 38) hC dX5_letter_33 (by decide) ?_
        refine r_iret (pc := 38) hC hD rfl dX5_letter_38 rfl ?_
        exact ⟨by rw [aLetter, if_neg bq5, if_pos bq9, hkc, if_neg bq22, hic], rfl, rfl, rfl⟩
    · skip
      refine r_ldc (pc := 12) (v := -1000001) hC dX5_letter_12 wl_X5_letter_92 ?_
      refine r_iret (pc := 14) hC hD rfl dX5_letter_14 rfl ?_
      exact ⟨by simp [aLetter, bq5, bq9], rfl, rfl, rfl⟩
theorem k_X5_letter {X : xF} {G : xG} {cs : Nat × Nat} {μ : xM} {I : xI} {P : xP} {L : List (Option Value)} {pc : Nat} {rest : List Value} {cc : ByteArray} {Ts : List Cond} {own : String} {nL : Nat} {R : Room} (hC : xC X G cc Ts own nL R) {index : Nat} (hG : GoodIn Ts (wsV own index RX5 yX5_letter wsX5_letter)) (hR : rm_X5_letter.frames + 1 ≤ R.frames ∧ 8 + (3 + 11) + rm_X5_letter.locals ≤ R.locals) {m n q : Nat} {r i : Int32} (km : μ.2.1 m = 6) (ks : μ.2.1 (P m 0) = 7) (ls : μ.2.2 (P m 0) = 369) (hinv : invN (I (P m 0)) n q) (hW : (rest.map fun v => v.category).sum ≤ 8) (hL : L.length = nL) (hcs : cs.1 ≤ R.cells ∧ cs.2 ≤ R.slots) (hdec : decode cc pc = .ok (.invokevirtual index, 3)) (kk : xg X G cs μ I P L (pc + 3) (.int (aLetter (I (P m 0)) r i) :: rest)) : xg X G cs μ I P L pc (.int i :: .int r :: .ref (xZ G + m) :: rest) :=
  r_callV hC (c_X5_letter X.2.1 km ks ls hinv) hG rfl rfl rfl hd_X5_letter hR (by rw [km]; decide) (xe_Model km) rfl rfl rfl hW hL hcs hdec (by rintro v μ' I' P' ⟨rfl, rfl, rfl, rfl⟩; exact kk)
