theorem c_X5_wrongBy_s (l : Launch) {G : xG} {μ : xM} {I : xI} {P : xP} {m n q : Nat} {row : Int32} (km : μ.2.1 m = 6) (ks : μ.2.1 (P m 0) = 7) (ls : μ.2.2 (P m 0) = 369) (hinv : invN (I (P m 0)) n q) (hrow : row = I (P m 0) 1) : Ct l yX5_wrongBy wsX5_wrongBy rm_X5_wrongBy G μ I P [.ref (xZ G + m), .int row] 0 0 (fun vv μ' I' P' => vv = some (.int (aWrong (I (P m 0)))) ∧ μ' = μ ∧ I' = I ∧ P' = P) := by
  subst hrow
  obtain ⟨hn20, hn, hq6, hq, hsh, hdr, h8r, h9r, h10r, hrows⟩ := id hinv
  have h8 : ¬ I (P m 0) 8 = 0 := fun e => by have h81 := h8r.1; rw [e] at h81; exact absurd h81 (by decide)
  have hdr2 : ¬ I (P m 0) 3 < 0 → ∃ d, d < 6 ∧ I (P m 0) 3 = nI d := fun w => by
    rcases hdr with e | ⟨d, hd, e⟩
    · rw [e] at w; exact absurd (by decide) w
    · exact ⟨d, by omega, e⟩
  rcases hsh with ⟨hn0, h1⟩ | ⟨a, han, h1⟩
  · rw [show aWrong (I (P m 0)) = 1 from by rw [aWrong, if_pos (by rw [h1]; decide)]]
    exact c_X5_wrongBy_n l km ks ls (by rw [h1]; decide)
  · rw [show aWrong (I (P m 0)) = sWrong (I (P m 0)) a from by rw [aWrong, if_neg (by rw [h1]; exact nI_pos (by omega)), h1, nI_clamp (by omega)]]
    obtain ⟨L, hL1, hL14, hl, hnm, htn⟩ := hrows a han
    exact c_X5_wrongBy l km ks ls h1 (by omega) hl hL14 h8 hdr2
theorem k_X5_wrongBy_s {X : xF} {G : xG} {cs : Nat × Nat} {μ : xM} {I : xI} {P : xP} {L : List (Option Value)} {pc : Nat} {rest : List Value} {cc : ByteArray} {Ts : List Cond} {own : String} {nL : Nat} {R : Room} (hC : xC X G cc Ts own nL R) {index : Nat} (hG : GoodIn Ts (wsV own index RX5 yX5_wrongBy wsX5_wrongBy)) (hR : rm_X5_wrongBy.frames + 1 ≤ R.frames ∧ 8 + (2 + 11) + rm_X5_wrongBy.locals ≤ R.locals) {m n q : Nat} {row : Int32} (km : μ.2.1 m = 6) (ks : μ.2.1 (P m 0) = 7) (ls : μ.2.2 (P m 0) = 369) (hinv : invN (I (P m 0)) n q) (hrow : row = I (P m 0) 1) (hW : (rest.map fun v => v.category).sum ≤ 8) (hL : L.length = nL) (hcs : cs.1 ≤ R.cells ∧ cs.2 ≤ R.slots) (hdec : decode cc pc = .ok (.invokevirtual index, 3)) (kk : xg X G cs μ I P L (pc + 3) (.int (aWrong (I (P m 0))) :: rest)) : xg X G cs μ I P L pc (.int row :: .ref (xZ G + m) :: rest) :=
  r_callV hC (c_X5_wrongBy_s X.2.1 km ks ls hinv hrow) hG rfl rfl rfl hd_X5_wrongBy hR (by rw [km]; decide) (xe_Model km) rfl rfl rfl hW hL hcs hdec (by rintro v μ' I' P' ⟨rfl, rfl, rfl, rfl⟩; exact kk)
abbrev rm_X5_count : Room := { frames := 4, cells := 0, slots := 0, locals := 90 }
theorem wl_X5_count_7 : Cond.fieldLink RX5 7 "HandBlindsModel" "s" "[I" ∈ wsX5_count := List.mem_of_getElem? (i := 1) (by decide +kernel)
theorem wi_X5_count_5 : ∀ w ∈ wsX50, w ∈ wsX5_count := fun _ h => List.mem_cons_of_mem _ (List.mem_append_right _ h)
theorem wl_X5_count_22 : Cond.fieldLink RX5 22 "HandBlindsModel" "pasts" "I" ∈ wsX5_count := List.mem_of_getElem? (i := 2) (by decide +kernel)
theorem wl_X5_count_55 : Cond.fieldLink RX5 55 "HandBlindsModel" "typed" "I" ∈ wsX5_count := List.mem_of_getElem? (i := 3) (by decide +kernel)
theorem wl_X5_count_92 : Cond.constant RX5 92 (-1000001) ∈ wsX5_count := List.mem_of_getElem? (i := 4) (by decide +kernel)
theorem hd_X5_count : yX5_count.cls = RX5 ∧ yX5_count.cls ≠ "java/lang/invoke/MethodHandle" ∧ yX5_count.cls ≠ "java/lang/invoke/VarHandle" ∧ (parseMethodDescriptor yX5_count.desc).map (fun d => d.parameters.length) = some 1 := ⟨rfl, by decide +kernel, by decide +kernel, by decide +kernel⟩
set_option maxHeartbeats 4000000 in
set_option maxRecDepth 100000 in
theorem c_X5_count (l : Launch) {G : xG} {μ : xM} {I : xI} {P : xP} {m n q : Nat} {w : Int32} (km : μ.2.1 m = 6) (ks : μ.2.1 (P m 0) = 7) (ls : μ.2.2 (P m 0) = 369) (hinv : invN (I (P m 0)) n q) : Ct l yX5_count wsX5_count rm_X5_count G μ I P [.ref (xZ G + m), .int w] 0 0 (fun vv μ' I' P' => vv = some (.int (aCount (I (P m 0)) (I m 3) (I m 5) w)) ∧ μ' = μ ∧ I' = (I) ∧ P' = (P)) := by
  obtain ⟨hn20, hn, hq6, hq, hsh, hdr, h8r, h9r, h10r, hrows⟩ := id hinv
  have hnc : (I (P m 0) 0).toNatClampNeg = n := by rw [hn, nI_clamp (by omega)]
  refine Ct.of (cc := cX5_count) (maxL := 2) (ret := (some .int)) [some (.ref (xZ G + m)), some (.int w)] (by decide) rfl rfl rfl (Nat.le_of_ble_eq_true rfl) ?_
  intro X hC hD h0 _
  refine r_iload_n (pc := 0) hC dX5_count_0 rfl ?_
  by_cases sw0 : w = 0
  · subst sw0
    refine r_tableIn (pc := 1) (off := 67) (tgt := 68) hC dX5_count_1 (by decide) (by decide) rfl (by decide) ?_
    refine r_aload_n (pc := 68) hC dX5_count_68 rfl ?_
    refine g_Model_s (pc := 69) hC wi_X5_count_5 wl_X5_count_7 (by assumption) (c2 := 7) (by assumption) (by decide) dX5_count_69 ?_
    refine r_iload_n (pc := 72) hC dX5_count_72 rfl ?_
    refine r_iald (pc := 73) hC ks (by first | exact xi_l (k := 0) ls (by decide) (by decide) (by decide) | exact xi_l (k := 2) ls (by decide) (by decide) (by decide)) dX5_count_73 ?_
    refine r_iret (pc := 74) hC hD rfl dX5_count_74 rfl ?_
    exact ⟨by simp [aCount, hnc], rfl, rfl, rfl⟩
  by_cases sw1 : w = 1
  · subst sw1
    refine r_tableIn (pc := 1) (off := 74) (tgt := 75) hC dX5_count_1 (by decide) (by decide) rfl (by decide) ?_
    refine r_aload_n (pc := 75) hC dX5_count_75 rfl ?_
    refine g_Model_s (pc := 76) hC wi_X5_count_5 wl_X5_count_7 (by assumption) (c2 := 7) (by assumption) (by decide) dX5_count_76 ?_
    refine r_iload_n (pc := 79) hC dX5_count_79 rfl ?_
    refine r_iald (pc := 80) hC ks (by first | exact xi_l (k := 1) ls (by decide) (by decide) (by decide) | exact xi_l (k := 3) ls (by decide) (by decide) (by decide)) dX5_count_80 ?_
    refine k_X5_told (pc := 81) hC gX5_count_X5_told ⟨Nat.le_of_ble_eq_true rfl, Nat.le_of_ble_eq_true rfl⟩  (Nat.le_of_ble_eq_true rfl) rfl ⟨Nat.zero_le _, Nat.zero_le _⟩ dX5_count_81 ?_
    refine r_iret (pc := 84) hC hD rfl dX5_count_84 rfl ?_
    exact ⟨by simp [aCount, hnc], rfl, rfl, rfl⟩
  by_cases sw2 : w = 2
  · subst sw2
    refine r_tableIn (pc := 1) (off := 67) (tgt := 68) hC dX5_count_1 (by decide) (by decide) rfl (by decide) ?_
    refine r_aload_n (pc := 68) hC dX5_count_68 rfl ?_
    refine g_Model_s (pc := 69) hC wi_X5_count_5 wl_X5_count_7 (by assumption) (c2 := 7) (by assumption) (by decide) dX5_count_69 ?_
    refine r_iload_n (pc := 72) hC dX5_count_72 rfl ?_
    refine r_iald (pc := 73) hC ks (by first | exact xi_l (k := 0) ls (by decide) (by decide) (by decide) | exact xi_l (k := 2) ls (by decide) (by decide) (by decide)) dX5_count_73 ?_
    refine r_iret (pc := 74) hC hD rfl dX5_count_74 rfl ?_
    exact ⟨by simp [aCount, hnc], rfl, rfl, rfl⟩
  by_cases sw3 : w = 3
  · subst sw3
    refine r_tableIn (pc := 1) (off := 74) (tgt := 75) hC dX5_count_1 (by decide) (by decide) rfl (by decide) ?_
    refine r_aload_n (pc := 75) hC dX5_count_75 rfl ?_
    refine g_Model_s (pc := 76) hC wi_X5_count_5 wl_X5_count_7 (by assumption) (c2 := 7) (by assumption) (by decide) dX5_count_76 ?_
    refine r_iload_n (pc := 79) hC dX5_count_79 rfl ?_
    refine r_iald (pc := 80) hC ks (by first | exact xi_l (k := 1) ls (by decide) (by decide) (by decide) | exact xi_l (k := 3) ls (by decide) (by decide) (by decide)) dX5_count_80 ?_
    refine k_X5_told (pc := 81) hC gX5_count_X5_told ⟨Nat.le_of_ble_eq_true rfl, Nat.le_of_ble_eq_true rfl⟩  (Nat.le_of_ble_eq_true rfl) rfl ⟨Nat.zero_le _, Nat.zero_le _⟩ dX5_count_81 ?_
    refine r_iret (pc := 84) hC hD rfl dX5_count_84 rfl ?_
    exact ⟨by simp [aCount, hnc], rfl, rfl, rfl⟩
  by_cases sw4 : w = 4
  · subst sw4
    refine r_tableIn (pc := 1) (off := 84) (tgt := 85) hC dX5_count_1 (by decide) (by decide) rfl (by decide) ?_
    refine r_aload_n (pc := 85) hC dX5_count_85 rfl ?_
    refine k_X5_tornOnes (pc := 86) hC gX5_count_X5_tornOnes ⟨Nat.le_of_ble_eq_true rfl, Nat.le_of_ble_eq_true rfl⟩ km ks ls hn hn20 (Nat.le_of_ble_eq_true rfl) rfl ⟨Nat.zero_le _, Nat.zero_le _⟩ dX5_count_86 ?_
    refine r_iret (pc := 89) hC hD rfl dX5_count_89 rfl ?_
    exact ⟨by simp [aCount, hnc], rfl, rfl, rfl⟩
  by_cases sw5 : w = 5
  · subst sw5
    refine r_tableIn (pc := 1) (off := 89) (tgt := 90) hC dX5_count_1 (by decide) (by decide) rfl (by decide) ?_
    refine r_aload_n (pc := 90) hC dX5_count_90 rfl ?_
    refine g_Model_s (pc := 91) hC wi_X5_count_5 wl_X5_count_7 (by assumption) (c2 := 7) (by assumption) (by decide) dX5_count_91 ?_
    refine r_iload_n (pc := 94) hC dX5_count_94 rfl ?_
    refine r_iconst (pc := 95) (v := 1) hC dX5_count_95 (by decide) ?_
    refine r_isub (pc := 96) hC dX5_count_96 ?_
    refine r_iald (pc := 97) hC ks (by first | exact xi_l (k := 4) ls (by decide) (by decide) (by decide) | exact xi_l (k := 5) ls (by decide) (by decide) (by decide) | exact xi_l (k := 6) ls (by decide) (by decide) (by decide) | exact xi_l (k := 7) ls (by decide) (by decide) (by decide)) dX5_count_97 ?_
    refine r_iret (pc := 98) hC hD rfl dX5_count_98 rfl ?_
    exact ⟨by simp [aCount, hnc], rfl, rfl, rfl⟩
  by_cases sw6 : w = 6
  · subst sw6
    refine r_tableIn (pc := 1) (off := 89) (tgt := 90) hC dX5_count_1 (by decide) (by decide) rfl (by decide) ?_
    refine r_aload_n (pc := 90) hC dX5_count_90 rfl ?_
    refine g_Model_s (pc := 91) hC wi_X5_count_5 wl_X5_count_7 (by assumption) (c2 := 7) (by assumption) (by decide) dX5_count_91 ?_
    refine r_iload_n (pc := 94) hC dX5_count_94 rfl ?_
    refine r_iconst (pc := 95) (v := 1) hC dX5_count_95 (by decide) ?_
    refine r_isub (pc := 96) hC dX5_count_96 ?_
    refine r_iald (pc := 97) hC ks (by first | exact xi_l (k := 4) ls (by decide) (by decide) (by decide) | exact xi_l (k := 5) ls (by decide) (by decide) (by decide) | exact xi_l (k := 6) ls (by decide) (by decide) (by decide) | exact xi_l (k := 7) ls (by decide) (by decide) (by decide)) dX5_count_97 ?_
    refine r_iret (pc := 98) hC hD rfl dX5_count_98 rfl ?_
    exact ⟨by simp [aCount, hnc], rfl, rfl, rfl⟩
  by_cases sw7 : w = 7
  · subst sw7
    refine r_tableIn (pc := 1) (off := 89) (tgt := 90) hC dX5_count_1 (by decide) (by decide) rfl (by decide) ?_
    refine r_aload_n (pc := 90) hC dX5_count_90 rfl ?_
    refine g_Model_s (pc := 91) hC wi_X5_count_5 wl_X5_count_7 (by assumption) (c2 := 7) (by assumption) (by decide) dX5_count_91 ?_
    refine r_iload_n (pc := 94) hC dX5_count_94 rfl ?_
    refine r_iconst (pc := 95) (v := 1) hC dX5_count_95 (by decide) ?_
    refine r_isub (pc := 96) hC dX5_count_96 ?_
    refine r_iald (pc := 97) hC ks (by first | exact xi_l (k := 4) ls (by decide) (by decide) (by decide) | exact xi_l (k := 5) ls (by decide) (by decide) (by decide) | exact xi_l (k := 6) ls (by decide) (by decide) (by decide) | exact xi_l (k := 7) ls (by decide) (by decide) (by decide)) dX5_count_97 ?_
    refine r_iret (pc := 98) hC hD rfl dX5_count_98 rfl ?_
    exact ⟨by simp [aCount, hnc], rfl, rfl, rfl⟩
  by_cases sw8 : w = 8
  · subst sw8
    refine r_tableIn (pc := 1) (off := 89) (tgt := 90) hC dX5_count_1 (by decide) (by decide) rfl (by decide) ?_
    refine r_aload_n (pc := 90) hC dX5_count_90 rfl ?_
    refine g_Model_s (pc := 91) hC wi_X5_count_5 wl_X5_count_7 (by assumption) (c2 := 7) (by assumption) (by decide) dX5_count_91 ?_
    refine r_iload_n (pc := 94) hC dX5_count_94 rfl ?_
    refine r_iconst (pc := 95) (v := 1) hC dX5_count_95 (by decide) ?_
    refine r_isub (pc := 96) hC dX5_count_96 ?_
    refine r_iald (pc := 97) hC ks (by first | exact xi_l (k := 4) ls (by decide) (by decide) (by decide) | exact xi_l (k := 5) ls (by decide) (by decide) (by decide) | exact xi_l (k := 6) ls (by decide) (by decide) (by decide) | exact xi_l (k := 7) ls (by decide) (by decide) (by decide)) dX5_count_97 ?_
    refine r_iret (pc := 98) hC hD rfl dX5_count_98 rfl ?_
    exact ⟨by simp [aCount, hnc], rfl, rfl, rfl⟩
  by_cases sw9 : w = 9
  · subst sw9
    refine r_tableIn (pc := 1) (off := 98) (tgt := 99) hC dX5_count_1 (by decide) (by decide) rfl (by decide) ?_
    refine r_aload_n (pc := 99) hC dX5_count_99 rfl ?_
    refine r_aload_n (pc := 100) hC dX5_count_100 rfl ?_
    refine g_Model_s (pc := 101) hC wi_X5_count_5 wl_X5_count_7 (by assumption) (c2 := 7) (by assumption) (by decide) dX5_count_101 ?_
    refine r_iconst (pc := 104) (v := 1) hC dX5_count_104 (by decide) ?_
    refine r_iald (pc := 105) hC ks (xi_l (k := 1) ls (by decide) (by decide) (by decide)) dX5_count_105 ?_
    refine k_X5_wrongBy_s (pc := 106) hC gX5_count_X5_wrongBy ⟨Nat.le_of_ble_eq_true rfl, Nat.le_of_ble_eq_true rfl⟩ km ks ls hinv rfl (Nat.le_of_ble_eq_true rfl) rfl ⟨Nat.zero_le _, Nat.zero_le _⟩ dX5_count_106 ?_
    refine r_iret (pc := 109) hC hD rfl dX5_count_109 rfl ?_
    exact ⟨by simp [aCount, hnc], rfl, rfl, rfl⟩
  by_cases sw10 : w = 10
  · subst sw10
    refine r_tableIn (pc := 1) (off := 109) (tgt := 110) hC dX5_count_1 (by decide) (by decide) rfl (by decide) ?_
    refine r_aload_n (pc := 110) hC dX5_count_110 rfl ?_
    refine k_X5_widest (pc := 111) hC gX5_count_X5_widest ⟨Nat.le_of_ble_eq_true rfl, Nat.le_of_ble_eq_true rfl⟩ km ks ls hn hn20 (fun r hr => by obtain ⟨L, h1, h2, h3, h4, h5⟩ := hrows r hr; exact ⟨L, h3, h2⟩) (Nat.le_of_ble_eq_true rfl) rfl ⟨Nat.zero_le _, Nat.zero_le _⟩ dX5_count_111 ?_
    refine r_iret (pc := 114) hC hD rfl dX5_count_114 rfl ?_
    exact ⟨by simp [aCount, hnc], rfl, rfl, rfl⟩
  by_cases sw11 : w = 11
  · subst sw11
    refine r_tableIn (pc := 1) (off := 114) (tgt := 115) hC dX5_count_1 (by decide) (by decide) rfl (by decide) ?_
    refine r_aload_n (pc := 115) hC dX5_count_115 rfl ?_
    refine g_Model_pasts (pc := 116) hC wi_X5_count_5 wl_X5_count_22 (by assumption) dX5_count_116 ?_
    refine r_iret (pc := 119) hC hD rfl dX5_count_119 rfl ?_
    exact ⟨by simp [aCount, hnc], rfl, rfl, rfl⟩
  by_cases sw12 : w = 12
  · subst sw12
    refine r_tableIn (pc := 1) (off := 119) (tgt := 120) hC dX5_count_1 (by decide) (by decide) rfl (by decide) ?_
    refine r_aload_n (pc := 120) hC dX5_count_120 rfl ?_
    refine g_Model_typed (pc := 121) hC wi_X5_count_5 wl_X5_count_55 (by assumption) dX5_count_121 ?_
    refine r_iret (pc := 124) hC hD rfl dX5_count_124 rfl ?_
    exact ⟨by simp [aCount, hnc], rfl, rfl, rfl⟩
  refine r_tableOut (pc := 1) (tgt := 125) hC dX5_count_1 (tab_out (hi := 12) (by decide) (fun j hj e => by
    have hc : j = 0 ∨ j = 1 ∨ j = 2 ∨ j = 3 ∨ j = 4 ∨ j = 5 ∨ j = 6 ∨ j = 7 ∨ j = 8 ∨ j = 9 ∨ j = 10 ∨ j = 11 ∨ j = 12 := by omega
    rcases hc with rfl | rfl | rfl | rfl | rfl | rfl | rfl | rfl | rfl | rfl | rfl | rfl | rfl
    · exact sw0 e
    · exact sw1 e
    · exact sw2 e
    · exact sw3 e
    · exact sw4 e
    · exact sw5 e
    · exact sw6 e
    · exact sw7 e
    · exact sw8 e
    · exact sw9 e
    · exact sw10 e
    · exact sw11 e
    · exact sw12 e)) (by decide) ?_
  refine r_iload_n (pc := 125) hC dX5_count_125 rfl ?_
  refine r_bipush (pc := 126) (v := 20) hC dX5_count_126 (by decide) ?_
  refine r_bipush (pc := 128) (v := 22) hC dX5_count_128 (by decide) ?_
  refine k_X5_in (pc := 130) hC gX5_count_X5_in ⟨Nat.le_of_ble_eq_true rfl, Nat.le_of_ble_eq_true rfl⟩  (Nat.le_of_ble_eq_true rfl) rfl ⟨Nat.zero_le _, Nat.zero_le _⟩ dX5_count_130 ?_
  refine r_if_eq (pc := 133) (tgt := 151) hC dX5_count_133 (by decide) (fun bq133 => ?_) (fun bq133 => ?_)
  · skip
    refine r_ldc (pc := 151) (v := -1000001) hC dX5_count_151 wl_X5_count_92 ?_
    refine r_iret (pc := 153) hC hD rfl dX5_count_153 rfl ?_
    exact ⟨by simp [aCount, sw0, sw1, sw2, sw3, sw4, sw5, sw6, sw7, sw8, sw9, sw10, sw11, sw12, bq133], rfl, rfl, rfl⟩
  · skip
    refine r_aload_n (pc := 136) hC dX5_count_136 rfl ?_
    refine g_Model_s (pc := 137) hC wi_X5_count_5 wl_X5_count_7 (by assumption) (c2 := 7) (by assumption) (by decide) dX5_count_137 ?_
    refine r_bipush (pc := 140) (v := 8) hC dX5_count_140 (by decide) ?_
    refine r_iload_n (pc := 142) hC dX5_count_142 rfl ?_
    refine r_iadd (pc := 143) hC dX5_count_143 ?_
    refine r_bipush (pc := 144) (v := 20) hC dX5_count_144 (by decide) ?_
    refine r_isub (pc := 146) hC dX5_count_146 ?_
    refine r_iald (pc := 147) hC ks (xi_e (k := (8 + w - 20).toNatClampNeg) (by rcases inr_2022 bq133 with rfl | rfl | rfl <;> rfl) ls (by rcases inr_2022 bq133 with rfl | rfl | rfl <;> decide) (by decide)) dX5_count_147 ?_
    refine r_goto (pc := 148) (tgt := 153) hC dX5_count_148 (by decide) ?_
    refine r_iret (pc := 153) hC hD rfl dX5_count_153 rfl ?_
    exact ⟨by rcases inr_2022 bq133 with rfl | rfl | rfl <;> rfl, rfl, rfl, rfl⟩
theorem k_X5_count {X : xF} {G : xG} {cs : Nat × Nat} {μ : xM} {I : xI} {P : xP} {L : List (Option Value)} {pc : Nat} {rest : List Value} {cc : ByteArray} {Ts : List Cond} {own : String} {nL : Nat} {R : Room} (hC : xC X G cc Ts own nL R) {index : Nat} (hG : GoodIn Ts (wsV own index RX5 yX5_count wsX5_count)) (hR : rm_X5_count.frames + 1 ≤ R.frames ∧ 8 + (2 + 11) + rm_X5_count.locals ≤ R.locals) {m n q : Nat} {w : Int32} (km : μ.2.1 m = 6) (ks : μ.2.1 (P m 0) = 7) (ls : μ.2.2 (P m 0) = 369) (hinv : invN (I (P m 0)) n q) (hW : (rest.map fun v => v.category).sum ≤ 8) (hL : L.length = nL) (hcs : cs.1 ≤ R.cells ∧ cs.2 ≤ R.slots) (hdec : decode cc pc = .ok (.invokevirtual index, 3)) (kk : xg X G cs μ I P L (pc + 3) (.int (aCount (I (P m 0)) (I m 3) (I m 5) w) :: rest)) : xg X G cs μ I P L pc (.int w :: .ref (xZ G + m) :: rest) :=
  r_callV hC (c_X5_count X.2.1 km ks ls hinv) hG rfl rfl rfl hd_X5_count hR (by rw [km]; decide) (xe_Model km) rfl rfl rfl hW hL hcs hdec (by rintro v μ' I' P' ⟨rfl, rfl, rfl, rfl⟩; exact kk)
