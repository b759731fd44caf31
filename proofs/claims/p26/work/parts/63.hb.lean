abbrev rm_X4_rowOf : Room := { frames := 6, cells := 0, slots := 0, locals := 127 }
theorem wl_X4_rowOf_19 : Cond.fieldLink RX4 19 "HandBlinds" "now" "LHandBlinds$Blind;" ∈ wsX4_rowOf := List.mem_of_getElem? (i := 1) (by decide +kernel)
theorem wi_X4_rowOf_4 : ∀ w ∈ wsX40, w ∈ wsX4_rowOf := fun _ h => List.mem_cons_of_mem _ (List.mem_append_left _ (List.mem_append_left _ (List.mem_append_left _ (List.mem_append_right _ h))))
theorem wl_X4_rowOf_72 : Cond.fieldLink RX4 72 "HandBlinds$Blind" "rows" "[LHandBlinds$Row;" ∈ wsX4_rowOf := List.mem_of_getElem? (i := 3) (by decide +kernel)
theorem wi_X4_rowOf_0 : ∀ w ∈ wsX00, w ∈ wsX4_rowOf := fun _ h => List.mem_cons_of_mem _ (List.mem_append_left _ (List.mem_append_left _ (List.mem_append_right _ h)))
theorem wl_X4_rowOf_121 : Cond.fieldLink RX4 121 "HandBlinds$Row" "length" "I" ∈ wsX4_rowOf := List.mem_of_getElem? (i := 4) (by decide +kernel)
theorem wi_X4_rowOf_2 : ∀ w ∈ wsX20, w ∈ wsX4_rowOf := fun _ h => List.mem_cons_of_mem _ (List.mem_append_left _ (List.mem_append_right _ h))
theorem wl_X4_rowOf_85 : Cond.fieldLink RX4 85 "HandBlinds$Row" "wear" "I" ∈ wsX4_rowOf := List.mem_of_getElem? (i := 5) (by decide +kernel)
theorem wl_X4_rowOf_76 : Cond.fieldLink RX4 76 "HandBlinds$Row" "torn" "Z" ∈ wsX4_rowOf := List.mem_of_getElem? (i := 6) (by decide +kernel)
theorem wl_X4_rowOf_65 : Cond.fieldLink RX4 65 "HandBlinds$Blind" "shown" "I" ∈ wsX4_rowOf := List.mem_of_getElem? (i := 7) (by decide +kernel)
theorem wl_X4_rowOf_57 : Cond.constant RX4 57 (-1000001) ∈ wsX4_rowOf := List.mem_of_getElem? (i := 2) (by decide +kernel)
theorem hd_X4_rowOf : yX4_rowOf.cls = RX4 ∧ yX4_rowOf.cls ≠ "java/lang/invoke/MethodHandle" ∧ yX4_rowOf.cls ≠ "java/lang/invoke/VarHandle" ∧ (parseMethodDescriptor yX4_rowOf.desc).map (fun d => d.parameters.length) = some 2 := ⟨rfl, by decide +kernel, by decide +kernel, by decide +kernel⟩
set_option maxHeartbeats 4000000 in
set_option maxRecDepth 100000 in
theorem c_X4_rowOf (l : Launch) {G : xG} {μ : xM} {I : xI} {P : xP} {h n rq st t : Nat} {S tx : Nat → Int32} {H : Nat → Nat → Int32} {r w : Int32} (kh : μ.2.1 h = 5) (hs : oS μ h) (hp : oP P h) (hr : oR I P h S n rq st H t tx) (hinv : invN S n rq) : Ct l yX4_rowOf wsX4_rowOf rm_X4_rowOf G μ I P [.ref (xZ G + h), .int r, .int w] 0 0 (fun vv μ' I' P' => vv = some (.int (aRowOf S r w)) ∧ μ' = μ ∧ I' = (I) ∧ P' = (P)) := by
  obtain ⟨⟨u0, u1, u2, u3⟩, ⟨kx, ksg, lsg⟩, ⟨kb, hbS, hbP, hB⟩, ⟨kh2, lh2⟩, hist, ⟨hst, hst4⟩, ⟨ht, ht60⟩, htx⟩ := oF hs hp hr
  have hA := bA_of hbS hbP
  have hA0 := hA
  have hB0 := hB
  have hinv0 := hinv
  obtain ⟨⟨k0, l0⟩, ⟨k3, l3⟩, ⟨k6, l6⟩, hrw, hrt⟩ := hA
  have hrowf := fun {i : Nat} (hi : i < n) => bRow hB hinv hi
  obtain ⟨b1, b2, b4, b5, b7, b8, b9, b10, bst, brw, brt⟩ := hB
  obtain ⟨hn20, hn, hq6, hq, hcur, hdr, h8, h9, h10, hrows⟩ := hinv
  have b1n : I (P h 1) 1 = nI n := b1.trans hn
  have b4q : I (P h 1) 4 = nI rq := b4.trans hq
  have hro : ∀ r : Int32, (if r < 0 then (0 : Int32) else if I (P h 1) 1 ≤ r then 0 else 1) = isR r (S 0) := fun r => by rw [b1]; rfl
  have hrq : ∀ r : Int32, (if r < 0 then (0 : Int32) else if I (P h 1) 4 ≤ r then 0 else 1) = isR r (S 2) := fun r => by rw [b4]; rfl
  refine Ct.of (cc := cX4_rowOf) (maxL := 4) (ret := (some .int)) [some (.ref (xZ G + h)), some (.int r), some (.int w), none] (by decide) rfl rfl rfl (Nat.le_of_ble_eq_true rfl) ?_
  intro X hC hD h0 _
  refine r_aload_n (pc := 0) hC dX4_rowOf_0 rfl ?_
  refine g_HB_now (pc := 1) hC wi_X4_rowOf_4 wl_X4_rowOf_19 (by assumption) (c2 := 1) (by assumption) (by decide) dX4_rowOf_1 ?_
  refine r_iload_n (pc := 4) hC dX4_rowOf_4 rfl ?_
  refine k_X0_hasRow (pc := 5) hC gX4_rowOf_X0_hasRow ⟨Nat.le_of_ble_eq_true rfl, Nat.le_of_ble_eq_true rfl⟩ (by assumption) (Nat.le_of_ble_eq_true rfl) rfl ⟨Nat.zero_le _, Nat.zero_le _⟩ dX4_rowOf_5 ?_
  rw [hro]
  refine r_if_ne (pc := 8) (tgt := 14) hC dX4_rowOf_8 (by decide) (fun bq8 => ?_) (fun bq8 => ?_)
  · skip
    obtain ⟨c, hc, rfl⟩ := isR_of bq8 hn (by omega)
    have hcc : (nI c).toNatClampNeg = c := nI_clamp (by omega)
    obtain ⟨L, hL1, hL14, hLr, hLs, hLl, hLw, hLk, hLc, hL2, hL3, hL01⟩ := hrowf (i := c) (by omega)
    have hshn : nI c = I (P h 1) 2 ↔ S 1 = nI c := by
      rcases hcur with ⟨w1, w2⟩ | ⟨a, w1, w2⟩
      · omega
      · rw [b2, w2, if_neg (nI_pos (by omega))]; exact eq_comm
    refine r_aload_n (pc := 14) hC dX4_rowOf_14 rfl ?_
    refine g_HB_now (pc := 15) hC wi_X4_rowOf_4 wl_X4_rowOf_19 (by assumption) (c2 := 1) (by assumption) (by decide) dX4_rowOf_15 ?_
    refine g_Blind_rows (pc := 18) hC wi_X4_rowOf_0 wl_X4_rowOf_72 (by assumption) (c2 := 9) (by assumption) (by decide) dX4_rowOf_18 ?_
    refine r_iload_n (pc := 21) hC dX4_rowOf_21 rfl ?_
    refine r_aald_Row (pc := 22) hC k0 (xi_n (k := c) (by rw [l0]; omega) (by rw [l0]; decide)) (hrw c (by omega)).1 dX4_rowOf_22 ?_
    refine r_astore_n (pc := 23) (L' := [_, _, _, _]) hC dX4_rowOf_23 rfl (Nat.le_of_ble_eq_true rfl) rfl ?_
    refine r_iload_n (pc := 24) hC dX4_rowOf_24 rfl ?_
    by_cases sw0 : w = 0
    · subst sw0
      refine r_tableIn (pc := 25) (off := 47) (tgt := 72) hC dX4_rowOf_25 (by decide) (by decide) rfl (by decide) ?_
      refine r_aload_n (pc := 72) hC dX4_rowOf_72 rfl ?_
      refine g_Row_length (pc := 73) hC wi_X4_rowOf_2 wl_X4_rowOf_121 (hrw c (by omega)).1 dX4_rowOf_73 ?_
      refine r_iret (pc := 76) hC hD rfl dX4_rowOf_76 rfl ?_
      exact ⟨by rw [aRowOf, if_neg bq8, if_neg (by decide), if_pos rfl, hcc, (brw c hc).1], rfl, rfl, rfl⟩
    by_cases sw1 : w = 1
    · subst sw1
      refine r_tableIn (pc := 25) (off := 52) (tgt := 77) hC dX4_rowOf_25 (by decide) (by decide) rfl (by decide) ?_
      refine r_aload_n (pc := 77) hC dX4_rowOf_77 rfl ?_
      refine k_X2_width (pc := 78) hC gX4_rowOf_X2_width ⟨Nat.le_of_ble_eq_true rfl, Nat.le_of_ble_eq_true rfl⟩ (n := L) (hrw c (by omega)).1 (hrw c (by omega)).2.1 (hrw c (by omega)).2.2 hLr hL14 (Nat.le_of_ble_eq_true rfl) rfl ⟨Nat.zero_le _, Nat.zero_le _⟩ dX4_rowOf_78 ?_
      refine r_iret (pc := 81) hC hD rfl dX4_rowOf_81 rfl ?_
      exact ⟨by rw [aRowOf, if_neg bq8, if_neg (by decide), if_neg (by decide), if_pos rfl, hcc, hLw], rfl, rfl, rfl⟩
    by_cases sw2 : w = 2
    · subst sw2
      refine r_tableIn (pc := 25) (off := 57) (tgt := 82) hC dX4_rowOf_25 (by decide) (by decide) rfl (by decide) ?_
      refine r_aload_n (pc := 82) hC dX4_rowOf_82 rfl ?_
      refine g_HB_now (pc := 83) hC wi_X4_rowOf_4 wl_X4_rowOf_19 (by assumption) (c2 := 1) (by assumption) (by decide) dX4_rowOf_83 ?_
      refine r_aload_n (pc := 86) hC dX4_rowOf_86 rfl ?_
      refine k_X2_width (pc := 87) hC gX4_rowOf_X2_width ⟨Nat.le_of_ble_eq_true rfl, Nat.le_of_ble_eq_true rfl⟩ (n := L) (hrw c (by omega)).1 (hrw c (by omega)).2.1 (hrw c (by omega)).2.2 hLr hL14 (Nat.le_of_ble_eq_true rfl) rfl ⟨Nat.zero_le _, Nat.zero_le _⟩ dX4_rowOf_87 ?_
      refine k_X0_squeezed (pc := 90) hC gX4_rowOf_X0_squeezed ⟨Nat.le_of_ble_eq_true rfl, Nat.le_of_ble_eq_true rfl⟩ kb hA0 hB0 hinv0 (Nat.le_of_ble_eq_true rfl) rfl ⟨Nat.zero_le _, Nat.zero_le _⟩ dX4_rowOf_90 ?_
      refine r_iret (pc := 93) hC hD rfl dX4_rowOf_93 rfl ?_
      exact ⟨by rw [aRowOf, if_neg bq8, if_neg (by decide), if_neg (by decide), if_neg (by decide), if_pos rfl, hcc, hLw], rfl, rfl, rfl⟩
    by_cases sw3 : w = 3
    · subst sw3
      refine r_tableIn (pc := 25) (off := 69) (tgt := 94) hC dX4_rowOf_25 (by decide) (by decide) rfl (by decide) ?_
      refine r_aload_n (pc := 94) hC dX4_rowOf_94 rfl ?_
      refine k_X2_kind (pc := 95) hC gX4_rowOf_X2_kind ⟨Nat.le_of_ble_eq_true rfl, Nat.le_of_ble_eq_true rfl⟩ (hrw c (by omega)).1 (hrw c (by omega)).2.1 (hrw c (by omega)).2.2 hLr hL14 (Nat.le_of_ble_eq_true rfl) rfl ⟨Nat.zero_le _, Nat.zero_le _⟩ dX4_rowOf_95 ?_
      refine r_iret (pc := 98) hC hD rfl dX4_rowOf_98 rfl ?_
      exact ⟨by rw [aRowOf, if_neg bq8, if_neg (by decide), if_neg (by decide), if_neg (by decide), if_neg (by decide), if_pos rfl, hcc, hLk], rfl, rfl, rfl⟩
    by_cases sw4 : w = 4
    · subst sw4
      refine r_tableIn (pc := 25) (off := 74) (tgt := 99) hC dX4_rowOf_25 (by decide) (by decide) rfl (by decide) ?_
      refine r_aload_n (pc := 99) hC dX4_rowOf_99 rfl ?_
      refine g_Row_wear (pc := 100) hC wi_X4_rowOf_2 wl_X4_rowOf_85 (hrw c (by omega)).1 dX4_rowOf_100 ?_
      refine r_iret (pc := 103) hC hD rfl dX4_rowOf_103 rfl ?_
      exact ⟨by rw [aRowOf, if_neg bq8, if_neg (by decide), if_neg (by decide), if_neg (by decide), if_neg (by decide), if_neg (by decide), if_pos rfl, hcc, hL2], rfl, rfl, rfl⟩
    by_cases sw5 : w = 5
    · subst sw5
      refine r_tableIn (pc := 25) (off := 79) (tgt := 104) hC dX4_rowOf_25 (by decide) (by decide) rfl (by decide) ?_
      refine r_aload_n (pc := 104) hC dX4_rowOf_104 rfl ?_
      refine g_Row_torn (pc := 105) hC wi_X4_rowOf_2 wl_X4_rowOf_76 (hrw c (by omega)).1 dX4_rowOf_105 ?_
      refine r_if_eq (pc := 108) (tgt := 115) hC dX4_rowOf_108 (by decide) (fun bq108 => ?_) (fun bq108 => ?_)
      · skip
        refine r_iconst (pc := 115) (v := 0) hC dX4_rowOf_115 (by decide) ?_
        refine r_iret (pc := 116) hC hD rfl dX4_rowOf_116 rfl ?_
        exact ⟨by rw [aRowOf, if_neg bq8, if_neg (by decide), if_neg (by decide), if_neg (by decide), if_neg (by decide), if_neg (by decide), if_neg (by decide), if_pos rfl, hcc]; rw [hL3] at bq108; rw [bq108], rfl, rfl, rfl⟩
      · skip
        refine r_iconst (pc := 111) (v := 1) hC dX4_rowOf_111 (by decide) ?_
        refine r_goto (pc := 112) (tgt := 116) hC dX4_rowOf_112 (by decide) ?_
        refine r_iret (pc := 116) hC hD rfl dX4_rowOf_116 rfl ?_
        exact ⟨by rw [aRowOf, if_neg bq8, if_neg (by decide), if_neg (by decide), if_neg (by decide), if_neg (by decide), if_neg (by decide), if_neg (by decide), if_pos rfl, hcc]; rw [hL3] at bq108; rw [hL01.resolve_left bq108], rfl, rfl, rfl⟩
    by_cases sw6 : w = 6
    · subst sw6
      refine r_tableIn (pc := 25) (off := 92) (tgt := 117) hC dX4_rowOf_25 (by decide) (by decide) rfl (by decide) ?_
      refine r_aload_n (pc := 117) hC dX4_rowOf_117 rfl ?_
      refine g_HB_now (pc := 118) hC wi_X4_rowOf_4 wl_X4_rowOf_19 (by assumption) (c2 := 1) (by assumption) (by decide) dX4_rowOf_118 ?_
      refine r_iload_n (pc := 121) hC dX4_rowOf_121 rfl ?_
      refine k_X0_routesOf (pc := 122) hC gX4_rowOf_X0_routesOf ⟨Nat.le_of_ble_eq_true rfl, Nat.le_of_ble_eq_true rfl⟩ kb hA0 hB0 hinv0 (Nat.le_of_ble_eq_true rfl) rfl ⟨Nat.zero_le _, Nat.zero_le _⟩ dX4_rowOf_122 ?_
      refine r_iret (pc := 125) hC hD rfl dX4_rowOf_125 rfl ?_
      exact ⟨by rw [aRowOf, if_neg bq8, if_neg (by decide), if_neg (by decide), if_neg (by decide), if_neg (by decide), if_neg (by decide), if_neg (by decide), if_neg (by decide), if_pos rfl, show (S 2).toNatClampNeg = rq from by rw [hq, nI_clamp (by omega)]], rfl, rfl, rfl⟩
    by_cases sw7 : w = 7
    · subst sw7
      refine r_tableIn (pc := 25) (off := 101) (tgt := 126) hC dX4_rowOf_25 (by decide) (by decide) rfl (by decide) ?_
      refine r_iload_n (pc := 126) hC dX4_rowOf_126 rfl ?_
      refine r_aload_n (pc := 127) hC dX4_rowOf_127 rfl ?_
      refine g_HB_now (pc := 128) hC wi_X4_rowOf_4 wl_X4_rowOf_19 (by assumption) (c2 := 1) (by assumption) (by decide) dX4_rowOf_128 ?_
      refine g_Blind_shown (pc := 131) hC wi_X4_rowOf_0 wl_X4_rowOf_65 (by assumption) dX4_rowOf_131 ?_
      refine r_icmp_ne (pc := 134) (tgt := 141) hC dX4_rowOf_134 (by decide) (fun bq134 => ?_) (fun bq134 => ?_)
      · skip
        refine r_iconst (pc := 141) (v := 0) hC dX4_rowOf_141 (by decide) ?_
        refine r_iret (pc := 142) hC hD rfl dX4_rowOf_142 rfl ?_
        exact ⟨by rw [aRowOf, if_neg bq8, if_neg (by decide), if_neg (by decide), if_neg (by decide), if_neg (by decide), if_neg (by decide), if_neg (by decide), if_neg (by decide), if_neg (by decide), if_neg (fun e => bq134 (hshn.mpr e))], rfl, rfl, rfl⟩
      · skip
        refine r_iconst (pc := 137) (v := 1) hC dX4_rowOf_137 (by decide) ?_
        refine r_goto (pc := 138) (tgt := 142) hC dX4_rowOf_138 (by decide) ?_
        refine r_iret (pc := 142) hC hD rfl dX4_rowOf_142 rfl ?_
        exact ⟨by rw [aRowOf, if_neg bq8, if_neg (by decide), if_neg (by decide), if_neg (by decide), if_neg (by decide), if_neg (by decide), if_neg (by decide), if_neg (by decide), if_neg (by decide), if_pos (hshn.mp bq134)], rfl, rfl, rfl⟩
    refine r_tableOut (pc := 25) (tgt := 143) hC dX4_rowOf_25 (tab_out (hi := 7) (by decide) (fun j hj e => by
      have hc : j = 0 ∨ j = 1 ∨ j = 2 ∨ j = 3 ∨ j = 4 ∨ j = 5 ∨ j = 6 ∨ j = 7 := by omega
      rcases hc with rfl | rfl | rfl | rfl | rfl | rfl | rfl | rfl
      · exact sw0 e
      · exact sw1 e
      · exact sw2 e
      · exact sw3 e
      · exact sw4 e
      · exact sw5 e
      · exact sw6 e
      · exact sw7 e)) (by decide) ?_
    refine r_ldc (pc := 143) (v := -1000001) hC dX4_rowOf_143 wl_X4_rowOf_57 ?_
    refine r_iret (pc := 145) hC hD rfl dX4_rowOf_145 rfl ?_
    have hin : inr w 0 7 = 0 := Classical.byContradiction fun e => sw7 (inr_07 e sw0 sw1 sw2 sw3 sw4 sw5 sw6)
    exact ⟨by rw [aRowOf, if_neg bq8, if_pos hin], rfl, rfl, rfl⟩
  · skip
    refine r_ldc (pc := 11) (v := -1000001) hC dX4_rowOf_11 wl_X4_rowOf_57 ?_
    refine r_iret (pc := 13) hC hD rfl dX4_rowOf_13 rfl ?_
    exact ⟨by rw [aRowOf, if_pos bq8], rfl, rfl, rfl⟩
theorem k_X4_rowOf {X : xF} {G : xG} {cs : Nat × Nat} {μ : xM} {I : xI} {P : xP} {L : List (Option Value)} {pc : Nat} {rest : List Value} {cc : ByteArray} {Ts : List Cond} {own : String} {nL : Nat} {R : Room} (hC : xC X G cc Ts own nL R) {index : Nat} (hG : GoodIn Ts (wsV own index RX4 yX4_rowOf wsX4_rowOf)) (hR : rm_X4_rowOf.frames + 1 ≤ R.frames ∧ 8 + (4 + 11) + rm_X4_rowOf.locals ≤ R.locals) {h n rq st t : Nat} {S tx : Nat → Int32} {H : Nat → Nat → Int32} {r w : Int32} (kh : μ.2.1 h = 5) (hs : oS μ h) (hp : oP P h) (hr : oR I P h S n rq st H t tx) (hinv : invN S n rq) (hW : (rest.map fun v => v.category).sum ≤ 8) (hL : L.length = nL) (hcs : cs.1 ≤ R.cells ∧ cs.2 ≤ R.slots) (hdec : decode cc pc = .ok (.invokevirtual index, 3)) (kk : xg X G cs μ I P L (pc + 3) (.int (aRowOf S r w) :: rest)) : xg X G cs μ I P L pc (.int w :: .int r :: .ref (xZ G + h) :: rest) :=
  r_callV hC (c_X4_rowOf X.2.1 kh hs hp hr hinv) hG rfl rfl rfl hd_X4_rowOf hR (by rw [kh]; decide) (xe_HB kh) rfl rfl rfl hW hL hcs hdec (by rintro v μ' I' P' ⟨rfl, rfl, rfl, rfl⟩; exact kk)
abbrev rm_X4_letter : Room := { frames := 1, cells := 0, slots := 0, locals := 21 }
theorem wl_X4_letter_19 : Cond.fieldLink RX4 19 "HandBlinds" "now" "LHandBlinds$Blind;" ∈ wsX4_letter := List.mem_of_getElem? (i := 1) (by decide +kernel)
theorem wi_X4_letter_4 : ∀ w ∈ wsX40, w ∈ wsX4_letter := fun _ h => List.mem_cons_of_mem _ (List.mem_append_left _ (List.mem_append_left _ (List.mem_append_right _ h)))
theorem wl_X4_letter_57 : Cond.constant RX4 57 (-1000001) ∈ wsX4_letter := List.mem_of_getElem? (i := 2) (by decide +kernel)
theorem wl_X4_letter_72 : Cond.fieldLink RX4 72 "HandBlinds$Blind" "rows" "[LHandBlinds$Row;" ∈ wsX4_letter := List.mem_of_getElem? (i := 3) (by decide +kernel)
theorem wi_X4_letter_0 : ∀ w ∈ wsX00, w ∈ wsX4_letter := fun _ h => List.mem_cons_of_mem _ (List.mem_append_left _ (List.mem_append_right _ h))
theorem wl_X4_letter_121 : Cond.fieldLink RX4 121 "HandBlinds$Row" "length" "I" ∈ wsX4_letter := List.mem_of_getElem? (i := 4) (by decide +kernel)
theorem wi_X4_letter_2 : ∀ w ∈ wsX20, w ∈ wsX4_letter := fun _ h => List.mem_cons_of_mem _ (List.mem_append_right _ h)
theorem wl_X4_letter_138 : Cond.constant RX4 138 (-1000004) ∈ wsX4_letter := List.mem_of_getElem? (i := 6) (by decide +kernel)
theorem wl_X4_letter_134 : Cond.fieldLink RX4 134 "HandBlinds$Row" "letters" "[C" ∈ wsX4_letter := List.mem_of_getElem? (i := 5) (by decide +kernel)
theorem hd_X4_letter : yX4_letter.cls = RX4 ∧ yX4_letter.cls ≠ "java/lang/invoke/MethodHandle" ∧ yX4_letter.cls ≠ "java/lang/invoke/VarHandle" ∧ (parseMethodDescriptor yX4_letter.desc).map (fun d => d.parameters.length) = some 2 := ⟨rfl, by decide +kernel, by decide +kernel, by decide +kernel⟩
set_option maxHeartbeats 4000000 in
set_option maxRecDepth 100000 in
theorem c_X4_letter (l : Launch) {G : xG} {μ : xM} {I : xI} {P : xP} {h n rq st t : Nat} {S tx : Nat → Int32} {H : Nat → Nat → Int32} {r i : Int32} (kh : μ.2.1 h = 5) (hs : oS μ h) (hp : oP P h) (hr : oR I P h S n rq st H t tx) (hinv : invN S n rq) : Ct l yX4_letter wsX4_letter rm_X4_letter G μ I P [.ref (xZ G + h), .int r, .int i] 0 0 (fun vv μ' I' P' => vv = some (.int (aLetter S r i)) ∧ μ' = μ ∧ I' = (I) ∧ P' = (P)) := by
  obtain ⟨⟨u0, u1, u2, u3⟩, ⟨kx, ksg, lsg⟩, ⟨kb, hbS, hbP, hB⟩, ⟨kh2, lh2⟩, hist, ⟨hst, hst4⟩, ⟨ht, ht60⟩, htx⟩ := oF hs hp hr
  have hA := bA_of hbS hbP
  have hA0 := hA
  have hB0 := hB
  have hinv0 := hinv
  obtain ⟨⟨k0, l0⟩, ⟨k3, l3⟩, ⟨k6, l6⟩, hrw, hrt⟩ := hA
  have hrowf := fun {i : Nat} (hi : i < n) => bRow hB hinv hi
  obtain ⟨b1, b2, b4, b5, b7, b8, b9, b10, bst, brw, brt⟩ := hB
  obtain ⟨hn20, hn, hq6, hq, hcur, hdr, h8, h9, h10, hrows⟩ := hinv
  have b1n : I (P h 1) 1 = nI n := b1.trans hn
  have b4q : I (P h 1) 4 = nI rq := b4.trans hq
  have hro : ∀ r : Int32, (if r < 0 then (0 : Int32) else if I (P h 1) 1 ≤ r then 0 else 1) = isR r (S 0) := fun r => by rw [b1]; rfl
  have hrq : ∀ r : Int32, (if r < 0 then (0 : Int32) else if I (P h 1) 4 ≤ r then 0 else 1) = isR r (S 2) := fun r => by rw [b4]; rfl
  refine Ct.of (cc := cX4_letter) (maxL := 4) (ret := (some .int)) [some (.ref (xZ G + h)), some (.int r), some (.int i), none] (by decide) rfl rfl rfl (Nat.le_of_ble_eq_true rfl) ?_
  intro X hC hD h0 _
  refine r_aload_n (pc := 0) hC dX4_letter_0 rfl ?_
  refine g_HB_now (pc := 1) hC wi_X4_letter_4 wl_X4_letter_19 (by assumption) (c2 := 1) (by assumption) (by decide) dX4_letter_1 ?_
  refine r_iload_n (pc := 4) hC dX4_letter_4 rfl ?_
  refine k_X0_hasRow (pc := 5) hC gX4_letter_X0_hasRow ⟨Nat.le_of_ble_eq_true rfl, Nat.le_of_ble_eq_true rfl⟩ (by assumption) (Nat.le_of_ble_eq_true rfl) rfl ⟨Nat.zero_le _, Nat.zero_le _⟩ dX4_letter_5 ?_
  rw [hro]
  refine r_if_eq (pc := 8) (tgt := 15) hC dX4_letter_8 (by decide) (fun bq8 => ?_) (fun bq8 => ?_)
  · skip
    refine r_ldc (pc := 15) (v := -1000001) hC dX4_letter_15 wl_X4_letter_57 ?_
    refine r_iret (pc := 17) hC hD rfl dX4_letter_17 rfl ?_
    exact ⟨by rw [aLetter, if_pos bq8], rfl, rfl, rfl⟩
  · skip
    refine r_iload_n (pc := 11) hC dX4_letter_11 rfl ?_
    refine r_if_ge (pc := 12) (tgt := 18) hC dX4_letter_12 (by decide) (fun bq12 => ?_) (fun bq12 => ?_)
    · skip
      obtain ⟨c, hc, rfl⟩ := isR_of bq8 hn (by omega)
      have hcc : (nI c).toNatClampNeg = c := nI_clamp (by omega)
      obtain ⟨L, hL1, hL14, hLr, hLs, hLl, hLw, hLk, hLc, hL2, hL3, hL01⟩ := hrowf (i := c) (by omega)
      refine r_aload_n (pc := 18) hC dX4_letter_18 rfl ?_
      refine g_HB_now (pc := 19) hC wi_X4_letter_4 wl_X4_letter_19 (by assumption) (c2 := 1) (by assumption) (by decide) dX4_letter_19 ?_
      refine g_Blind_rows (pc := 22) hC wi_X4_letter_0 wl_X4_letter_72 (by assumption) (c2 := 9) (by assumption) (by decide) dX4_letter_22 ?_
      refine r_iload_n (pc := 25) hC dX4_letter_25 rfl ?_
      refine r_aald_Row (pc := 26) hC k0 (xi_n (k := c) (by rw [l0]; omega) (by rw [l0]; decide)) (hrw c (by omega)).1 dX4_letter_26 ?_
      refine r_astore_n (pc := 27) (L' := [_, _, _, _]) hC dX4_letter_27 rfl (Nat.le_of_ble_eq_true rfl) rfl ?_
      refine r_iload_n (pc := 28) hC dX4_letter_28 rfl ?_
      refine r_aload_n (pc := 29) hC dX4_letter_29 rfl ?_
      refine g_Row_length (pc := 30) hC wi_X4_letter_2 wl_X4_letter_121 (hrw c (by omega)).1 dX4_letter_30 ?_
      refine r_icmp_ge (pc := 33) (tgt := 45) hC dX4_letter_33 (by decide) (fun bq33 => ?_) (fun bq33 => ?_)
      · skip
        refine r_ldc (pc := 45) (v := -1000004) hC dX4_letter_45 wl_X4_letter_138 ?_
        refine r_iret (pc := 47) hC hD rfl dX4_letter_47 rfl ?_
        exact ⟨by rw [aLetter, if_neg bq8, if_pos bq12, hcc, hLs, if_pos (by rw [← hLr]; exact bq33)], rfl, rfl, rfl⟩
      · skip
        refine r_aload_n (pc := 36) hC dX4_letter_36 rfl ?_
        refine g_Row_letters (pc := 37) hC wi_X4_letter_2 wl_X4_letter_134 (hrw c (by omega)).1 (c2 := 8) (hrw c (by omega)).2.1 (by decide) dX4_letter_37 ?_
        obtain ⟨j, hj, rfl⟩ : ∃ j, j < L ∧ i = nI j := xlt_of bq12 bq33 hLr (by omega)
        have hjc : (nI j).toNatClampNeg = j := nI_clamp (by omega)
        refine r_iload_n (pc := 40) hC dX4_letter_40 rfl ?_
        refine r_cald (pc := 41) hC (hrw c (by omega)).2.1 (xi_n (k := j) (by rw [(hrw c (by omega)).2.2]; omega) (by rw [(hrw c (by omega)).2.2]; decide)) dX4_letter_41 ?_
        refine r_goto (pc := 42) (tgt := 47) hC dX4_letter_42 (by decide) ?_
        refine r_iret (pc := 47) hC hD rfl dX4_letter_47 rfl ?_
        exact ⟨by rw [aLetter, if_neg bq8, if_pos bq12, hcc, hLs, if_neg (by rw [← hLr]; exact bq33), hjc, hLc j hj]; rfl, rfl, rfl, rfl⟩
    · skip
      refine r_ldc (pc := 15) (v := -1000001) hC dX4_letter_15 wl_X4_letter_57 ?_
      refine r_iret (pc := 17) hC hD rfl dX4_letter_17 rfl ?_
      exact ⟨by rw [aLetter, if_neg bq8, if_neg bq12], rfl, rfl, rfl⟩
theorem k_X4_letter {X : xF} {G : xG} {cs : Nat × Nat} {μ : xM} {I : xI} {P : xP} {L : List (Option Value)} {pc : Nat} {rest : List Value} {cc : ByteArray} {Ts : List Cond} {own : String} {nL : Nat} {R : Room} (hC : xC X G cc Ts own nL R) {index : Nat} (hG : GoodIn Ts (wsV own index RX4 yX4_letter wsX4_letter)) (hR : rm_X4_letter.frames + 1 ≤ R.frames ∧ 8 + (4 + 11) + rm_X4_letter.locals ≤ R.locals) {h n rq st t : Nat} {S tx : Nat → Int32} {H : Nat → Nat → Int32} {r i : Int32} (kh : μ.2.1 h = 5) (hs : oS μ h) (hp : oP P h) (hr : oR I P h S n rq st H t tx) (hinv : invN S n rq) (hW : (rest.map fun v => v.category).sum ≤ 8) (hL : L.length = nL) (hcs : cs.1 ≤ R.cells ∧ cs.2 ≤ R.slots) (hdec : decode cc pc = .ok (.invokevirtual index, 3)) (kk : xg X G cs μ I P L (pc + 3) (.int (aLetter S r i) :: rest)) : xg X G cs μ I P L pc (.int i :: .int r :: .ref (xZ G + h) :: rest) :=
  r_callV hC (c_X4_letter X.2.1 kh hs hp hr hinv) hG rfl rfl rfl hd_X4_letter hR (by rw [kh]; decide) (xe_HB kh) rfl rfl rfl hW hL hcs hdec (by rintro v μ' I' P' ⟨rfl, rfl, rfl, rfl⟩; exact kk)
abbrev rm_X4_routeOf : Room := { frames := 1, cells := 0, slots := 0, locals := 22 }
theorem wl_X4_routeOf_19 : Cond.fieldLink RX4 19 "HandBlinds" "now" "LHandBlinds$Blind;" ∈ wsX4_routeOf := List.mem_of_getElem? (i := 1) (by decide +kernel)
theorem wi_X4_routeOf_4 : ∀ w ∈ wsX40, w ∈ wsX4_routeOf := fun _ h => List.mem_cons_of_mem _ (List.mem_append_left _ (List.mem_append_left _ (List.mem_append_left _ (List.mem_append_right _ h))))
theorem wl_X4_routeOf_139 : Cond.fieldLink RX4 139 "HandBlinds$Blind" "routes" "[LHandBlinds$Route;" ∈ wsX4_routeOf := List.mem_of_getElem? (i := 3) (by decide +kernel)
theorem wi_X4_routeOf_0 : ∀ w ∈ wsX00, w ∈ wsX4_routeOf := fun _ h => List.mem_cons_of_mem _ (List.mem_append_left _ (List.mem_append_left _ (List.mem_append_right _ h)))
theorem wl_X4_routeOf_143 : Cond.fieldLink RX4 143 "HandBlinds$Route" "rows" "I" ∈ wsX4_routeOf := List.mem_of_getElem? (i := 4) (by decide +kernel)
theorem wi_X4_routeOf_1 : ∀ w ∈ wsX10, w ∈ wsX4_routeOf := fun _ h => List.mem_cons_of_mem _ (List.mem_append_left _ (List.mem_append_right _ h))
theorem wl_X4_routeOf_155 : Cond.fieldLink RX4 155 "HandBlinds$Route" "stops" "I" ∈ wsX4_routeOf := List.mem_of_getElem? (i := 5) (by decide +kernel)
theorem wl_X4_routeOf_158 : Cond.fieldLink RX4 158 "HandBlinds$Route" "rightStops" "I" ∈ wsX4_routeOf := List.mem_of_getElem? (i := 6) (by decide +kernel)
theorem wl_X4_routeOf_57 : Cond.constant RX4 57 (-1000001) ∈ wsX4_routeOf := List.mem_of_getElem? (i := 2) (by decide +kernel)
theorem hd_X4_routeOf : yX4_routeOf.cls = RX4 ∧ yX4_routeOf.cls ≠ "java/lang/invoke/MethodHandle" ∧ yX4_routeOf.cls ≠ "java/lang/invoke/VarHandle" ∧ (parseMethodDescriptor yX4_routeOf.desc).map (fun d => d.parameters.length) = some 2 := ⟨rfl, by decide +kernel, by decide +kernel, by decide +kernel⟩
set_option maxHeartbeats 4000000 in
set_option maxRecDepth 100000 in
theorem c_X4_routeOf (l : Launch) {G : xG} {μ : xM} {I : xI} {P : xP} {h n rq st t : Nat} {S tx : Nat → Int32} {H : Nat → Nat → Int32} {r w : Int32} (kh : μ.2.1 h = 5) (hs : oS μ h) (hp : oP P h) (hr : oR I P h S n rq st H t tx) (hinv : invN S n rq) : Ct l yX4_routeOf wsX4_routeOf rm_X4_routeOf G μ I P [.ref (xZ G + h), .int r, .int w] 0 0 (fun vv μ' I' P' => vv = some (.int (aRouteOf S r w)) ∧ μ' = μ ∧ I' = (I) ∧ P' = (P)) := by
  obtain ⟨⟨u0, u1, u2, u3⟩, ⟨kx, ksg, lsg⟩, ⟨kb, hbS, hbP, hB⟩, ⟨kh2, lh2⟩, hist, ⟨hst, hst4⟩, ⟨ht, ht60⟩, htx⟩ := oF hs hp hr
  have hA := bA_of hbS hbP
  have hA0 := hA
  have hB0 := hB
  have hinv0 := hinv
  obtain ⟨⟨k0, l0⟩, ⟨k3, l3⟩, ⟨k6, l6⟩, hrw, hrt⟩ := hA
  have hrowf := fun {i : Nat} (hi : i < n) => bRow hB hinv hi
  obtain ⟨b1, b2, b4, b5, b7, b8, b9, b10, bst, brw, brt⟩ := hB
  obtain ⟨hn20, hn, hq6, hq, hcur, hdr, h8, h9, h10, hrows⟩ := hinv
  have b1n : I (P h 1) 1 = nI n := b1.trans hn
  have b4q : I (P h 1) 4 = nI rq := b4.trans hq
  have hro : ∀ r : Int32, (if r < 0 then (0 : Int32) else if I (P h 1) 1 ≤ r then 0 else 1) = isR r (S 0) := fun r => by rw [b1]; rfl
  have hrq : ∀ r : Int32, (if r < 0 then (0 : Int32) else if I (P h 1) 4 ≤ r then 0 else 1) = isR r (S 2) := fun r => by rw [b4]; rfl
  refine Ct.of (cc := cX4_routeOf) (maxL := 4) (ret := (some .int)) [some (.ref (xZ G + h)), some (.int r), some (.int w), none] (by decide) rfl rfl rfl (Nat.le_of_ble_eq_true rfl) ?_
  intro X hC hD h0 _
  refine r_aload_n (pc := 0) hC dX4_routeOf_0 rfl ?_
  refine g_HB_now (pc := 1) hC wi_X4_routeOf_4 wl_X4_routeOf_19 (by assumption) (c2 := 1) (by assumption) (by decide) dX4_routeOf_1 ?_
  refine r_iload_n (pc := 4) hC dX4_routeOf_4 rfl ?_
  refine k_X0_hasRoute (pc := 5) hC gX4_routeOf_X0_hasRoute ⟨Nat.le_of_ble_eq_true rfl, Nat.le_of_ble_eq_true rfl⟩ (by assumption) (Nat.le_of_ble_eq_true rfl) rfl ⟨Nat.zero_le _, Nat.zero_le _⟩ dX4_routeOf_5 ?_
  rw [hrq]
  refine r_if_ne (pc := 8) (tgt := 14) hC dX4_routeOf_8 (by decide) (fun bq8 => ?_) (fun bq8 => ?_)
  · skip
    obtain ⟨c, hc, rfl⟩ := isR_of bq8 hq (by omega)
    have hcc : (nI c).toNatClampNeg = c := nI_clamp (by omega)
    refine r_aload_n (pc := 14) hC dX4_routeOf_14 rfl ?_
    refine g_HB_now (pc := 15) hC wi_X4_routeOf_4 wl_X4_routeOf_19 (by assumption) (c2 := 1) (by assumption) (by decide) dX4_routeOf_15 ?_
    refine g_Blind_routes (pc := 18) hC wi_X4_routeOf_0 wl_X4_routeOf_139 (by assumption) (c2 := 10) (by assumption) (by decide) dX4_routeOf_18 ?_
    refine r_iload_n (pc := 21) hC dX4_routeOf_21 rfl ?_
    refine r_aald_Route (pc := 22) hC k3 (xi_n (k := c) (by rw [l3]; omega) (by rw [l3]; decide)) (hrt c (by omega)) dX4_routeOf_22 ?_
    refine r_astore_n (pc := 23) (L' := [_, _, _, _]) hC dX4_routeOf_23 rfl (Nat.le_of_ble_eq_true rfl) rfl ?_
    refine r_iload_n (pc := 24) hC dX4_routeOf_24 rfl ?_
    by_cases sw0 : w = 0
    · subst sw0
      refine r_tableIn (pc := 25) (off := 35) (tgt := 60) hC dX4_routeOf_25 (by decide) (by decide) rfl (by decide) ?_
      refine r_aload_n (pc := 60) hC dX4_routeOf_60 rfl ?_
      refine g_Route_rows (pc := 61) hC wi_X4_routeOf_1 wl_X4_routeOf_143 (hrt c (by omega)) dX4_routeOf_61 ?_
      refine r_iret (pc := 64) hC hD rfl dX4_routeOf_64 rfl ?_
      exact ⟨by rw [aRouteOf, if_neg bq8, if_neg (by decide), if_pos rfl, hcc, (brt c hc).1], rfl, rfl, rfl⟩
    by_cases sw1 : w = 1
    · subst sw1
      refine r_tableIn (pc := 25) (off := 40) (tgt := 65) hC dX4_routeOf_25 (by decide) (by decide) rfl (by decide) ?_
      refine r_aload_n (pc := 65) hC dX4_routeOf_65 rfl ?_
      refine g_Route_rows (pc := 66) hC wi_X4_routeOf_1 wl_X4_routeOf_143 (hrt c (by omega)) dX4_routeOf_66 ?_
      refine k_J6_bitCount_0f7a4 (pc := 69) hC gX4_routeOf_J6_bitCount_0f7a4 ⟨Nat.le_of_ble_eq_true rfl, Nat.le_of_ble_eq_true rfl⟩ (N := (I (P (P (P h 1) 3) c) 0).toBitVec.toNat) (nI_nat _).symm (BitVec.isLt _) (Nat.le_of_ble_eq_true rfl) rfl ⟨Nat.zero_le _, Nat.zero_le _⟩ dX4_routeOf_69 ?_
      refine r_iret (pc := 72) hC hD rfl dX4_routeOf_72 rfl ?_
      exact ⟨by rw [aRouteOf, if_neg bq8, if_neg (by decide), if_neg (by decide), if_pos rfl, hcc, (brt c hc).1]; rfl, rfl, rfl, rfl⟩
    by_cases sw2 : w = 2
    · subst sw2
      refine r_tableIn (pc := 25) (off := 48) (tgt := 73) hC dX4_routeOf_25 (by decide) (by decide) rfl (by decide) ?_
      refine r_aload_n (pc := 73) hC dX4_routeOf_73 rfl ?_
      refine g_Route_rows (pc := 74) hC wi_X4_routeOf_1 wl_X4_routeOf_143 (hrt c (by omega)) dX4_routeOf_74 ?_
      refine r_aload_n (pc := 77) hC dX4_routeOf_77 rfl ?_
      refine g_HB_now (pc := 78) hC wi_X4_routeOf_4 wl_X4_routeOf_19 (by assumption) (c2 := 1) (by assumption) (by decide) dX4_routeOf_78 ?_
      refine k_X0_tornRows (pc := 81) hC gX4_routeOf_X0_tornRows ⟨Nat.le_of_ble_eq_true rfl, Nat.le_of_ble_eq_true rfl⟩ kb hA0 hB0 hinv0 (Nat.le_of_ble_eq_true rfl) rfl ⟨Nat.zero_le _, Nat.zero_le _⟩ dX4_routeOf_81 ?_
      refine r_iand (pc := 84) hC dX4_routeOf_84 ?_
      refine r_iret (pc := 85) hC hD rfl dX4_routeOf_85 rfl ?_
      exact ⟨by rw [aRouteOf, if_neg bq8, if_neg (by decide), if_neg (by decide), if_neg (by decide), if_pos rfl, hcc, (brt c hc).1, show cN S = n from (by rw [cN, hn, nI_clamp (by omega)])], rfl, rfl, rfl⟩
    by_cases sw3 : w = 3
    · subst sw3
      refine r_tableIn (pc := 25) (off := 61) (tgt := 86) hC dX4_routeOf_25 (by decide) (by decide) rfl (by decide) ?_
      refine r_aload_n (pc := 86) hC dX4_routeOf_86 rfl ?_
      refine g_Route_stops (pc := 87) hC wi_X4_routeOf_1 wl_X4_routeOf_155 (hrt c (by omega)) dX4_routeOf_87 ?_
      refine r_iret (pc := 90) hC hD rfl dX4_routeOf_90 rfl ?_
      exact ⟨by rw [aRouteOf, if_neg bq8, if_neg (by decide), if_neg (by decide), if_neg (by decide), if_neg (by decide), hcc, (brt c hc).2.1, show (3 : Int32).toNatClampNeg = 3 from rfl]; congr 3; omega, rfl, rfl, rfl⟩
    by_cases sw4 : w = 4
    · subst sw4
      refine r_tableIn (pc := 25) (off := 66) (tgt := 91) hC dX4_routeOf_25 (by decide) (by decide) rfl (by decide) ?_
      refine r_aload_n (pc := 91) hC dX4_routeOf_91 rfl ?_
      refine g_Route_rightStops (pc := 92) hC wi_X4_routeOf_1 wl_X4_routeOf_158 (hrt c (by omega)) dX4_routeOf_92 ?_
      refine r_iret (pc := 95) hC hD rfl dX4_routeOf_95 rfl ?_
      exact ⟨by rw [aRouteOf, if_neg bq8, if_neg (by decide), if_neg (by decide), if_neg (by decide), if_neg (by decide), hcc, (brt c hc).2.2, show (4 : Int32).toNatClampNeg = 4 from rfl]; congr 3; omega, rfl, rfl, rfl⟩
    refine r_tableOut (pc := 25) (tgt := 96) hC dX4_routeOf_25 (tab_out (hi := 4) (by decide) (fun j hj e => by
      have hc : j = 0 ∨ j = 1 ∨ j = 2 ∨ j = 3 ∨ j = 4 := by omega
      rcases hc with rfl | rfl | rfl | rfl | rfl
      · exact sw0 e
      · exact sw1 e
      · exact sw2 e
      · exact sw3 e
      · exact sw4 e)) (by decide) ?_
    refine r_ldc (pc := 96) (v := -1000001) hC dX4_routeOf_96 wl_X4_routeOf_57 ?_
    refine r_iret (pc := 98) hC hD rfl dX4_routeOf_98 rfl ?_
    have hin : inr w 0 4 = 0 := Classical.byContradiction fun e => by rcases inr_04 e sw0 sw1 sw2 with e | e; exact sw3 e; exact sw4 e
    exact ⟨by rw [aRouteOf, if_neg bq8, if_pos hin], rfl, rfl, rfl⟩
  · skip
    refine r_ldc (pc := 11) (v := -1000001) hC dX4_routeOf_11 wl_X4_routeOf_57 ?_
    refine r_iret (pc := 13) hC hD rfl dX4_routeOf_13 rfl ?_
    exact ⟨by rw [aRouteOf, if_pos bq8], rfl, rfl, rfl⟩
theorem k_X4_routeOf {X : xF} {G : xG} {cs : Nat × Nat} {μ : xM} {I : xI} {P : xP} {L : List (Option Value)} {pc : Nat} {rest : List Value} {cc : ByteArray} {Ts : List Cond} {own : String} {nL : Nat} {R : Room} (hC : xC X G cc Ts own nL R) {index : Nat} (hG : GoodIn Ts (wsV own index RX4 yX4_routeOf wsX4_routeOf)) (hR : rm_X4_routeOf.frames + 1 ≤ R.frames ∧ 8 + (4 + 11) + rm_X4_routeOf.locals ≤ R.locals) {h n rq st t : Nat} {S tx : Nat → Int32} {H : Nat → Nat → Int32} {r w : Int32} (kh : μ.2.1 h = 5) (hs : oS μ h) (hp : oP P h) (hr : oR I P h S n rq st H t tx) (hinv : invN S n rq) (hW : (rest.map fun v => v.category).sum ≤ 8) (hL : L.length = nL) (hcs : cs.1 ≤ R.cells ∧ cs.2 ≤ R.slots) (hdec : decode cc pc = .ok (.invokevirtual index, 3)) (kk : xg X G cs μ I P L (pc + 3) (.int (aRouteOf S r w) :: rest)) : xg X G cs μ I P L pc (.int w :: .int r :: .ref (xZ G + h) :: rest) :=
  r_callV hC (c_X4_routeOf X.2.1 kh hs hp hr hinv) hG rfl rfl rfl hd_X4_routeOf hR (by rw [kh]; decide) (xe_HB kh) rfl rfl rfl hW hL hcs hdec (by rintro v μ' I' P' ⟨rfl, rfl, rfl, rfl⟩; exact kk)
abbrev rm_X4_find : Room := { frames := 1, cells := 0, slots := 0, locals := 22 }
theorem wl_X4_find_19 : Cond.fieldLink RX4 19 "HandBlinds" "now" "LHandBlinds$Blind;" ∈ wsX4_find := List.mem_of_getElem? (i := 1) (by decide +kernel)
theorem wi_X4_find_4 : ∀ w ∈ wsX40, w ∈ wsX4_find := fun _ h => List.mem_cons_of_mem _ (List.mem_append_left _ (List.mem_append_left _ (List.mem_append_left _ (List.mem_append_right _ h))))
theorem wl_X4_find_62 : Cond.fieldLink RX4 62 "HandBlinds$Blind" "rowCount" "I" ∈ wsX4_find := List.mem_of_getElem? (i := 2) (by decide +kernel)
theorem wi_X4_find_0 : ∀ w ∈ wsX00, w ∈ wsX4_find := fun _ h => List.mem_cons_of_mem _ (List.mem_append_left _ (List.mem_append_left _ (List.mem_append_right _ h)))
theorem wl_X4_find_138 : Cond.constant RX4 138 (-1000004) ∈ wsX4_find := List.mem_of_getElem? (i := 5) (by decide +kernel)
theorem wl_X4_find_10 : Cond.fieldLink RX4 10 "HandBlinds" "text" "LHandBlinds$Text;" ∈ wsX4_find := List.mem_of_getElem? (i := 3) (by decide +kernel)
theorem wl_X4_find_72 : Cond.fieldLink RX4 72 "HandBlinds$Blind" "rows" "[LHandBlinds$Row;" ∈ wsX4_find := List.mem_of_getElem? (i := 4) (by decide +kernel)
theorem hd_X4_find : yX4_find.cls = RX4 ∧ yX4_find.cls ≠ "java/lang/invoke/MethodHandle" ∧ yX4_find.cls ≠ "java/lang/invoke/VarHandle" ∧ (parseMethodDescriptor yX4_find.desc).map (fun d => d.parameters.length) = some 0 := ⟨rfl, by decide +kernel, by decide +kernel, by decide +kernel⟩
set_option maxHeartbeats 4000000 in
set_option maxRecDepth 100000 in
theorem c_X4_find (l : Launch) {G : xG} {μ : xM} {I : xI} {P : xP} {h n rq st t : Nat} {S tx : Nat → Int32} {H : Nat → Nat → Int32}  (kh : μ.2.1 h = 5) (hs : oS μ h) (hp : oP P h) (hr : oR I P h S n rq st H t tx) (hinv : invN S n rq) : Ct l yX4_find wsX4_find rm_X4_find G μ I P [.ref (xZ G + h)] 0 0 (fun vv μ' I' P' => vv = some (.int (aFind S tx t n)) ∧ μ' = μ ∧ I' = (I) ∧ P' = (P)) := by
  obtain ⟨⟨u0, u1, u2, u3⟩, ⟨kx, ksg, lsg⟩, ⟨kb, hbS, hbP, hB⟩, ⟨kh2, lh2⟩, hist, ⟨hst, hst4⟩, ⟨ht, ht60⟩, htx⟩ := oF hs hp hr
  have hA := bA_of hbS hbP
  have hA0 := hA
  have hB0 := hB
  have hinv0 := hinv
  obtain ⟨⟨k0, l0⟩, ⟨k3, l3⟩, ⟨k6, l6⟩, hrw, hrt⟩ := hA
  have hrowf := fun {i : Nat} (hi : i < n) => bRow hB hinv hi
  obtain ⟨b1, b2, b4, b5, b7, b8, b9, b10, bst, brw, brt⟩ := hB
  obtain ⟨hn20, hn, hq6, hq, hcur, hdr, h8, h9, h10, hrows⟩ := hinv
  have b1n : I (P h 1) 1 = nI n := b1.trans hn
  have b4q : I (P h 1) 4 = nI rq := b4.trans hq
  have hro : ∀ r : Int32, (if r < 0 then (0 : Int32) else if I (P h 1) 1 ≤ r then 0 else 1) = isR r (S 0) := fun r => by rw [b1]; rfl
  have hrq : ∀ r : Int32, (if r < 0 then (0 : Int32) else if I (P h 1) 4 ≤ r then 0 else 1) = isR r (S 2) := fun r => by rw [b4]; rfl
  subst htx
  refine Ct.of (cc := cX4_find) (maxL := 2) (ret := (some .int)) [some (.ref (xZ G + h)), none] (by decide) rfl rfl rfl (Nat.le_of_ble_eq_true rfl) ?_
  intro X hC hD h0 _
  have loop : ∀ (q k : Nat), k + q = n → (∀ i, i < k → isNm S (I (P (P h 0) 0)) t i = false) → xg X G (0, 0) μ I P [some (.ref (xZ G + h)), some (.int (nI k))] 2 [] := by
    intro q
    induction q with
    | zero =>
      intro k hk hno
      have ek : k = n := by omega
      subst ek
      refine r_iload_n (pc := 2) hC dX4_find_2 rfl ?_
      refine r_aload_n (pc := 3) hC dX4_find_3 rfl ?_
      refine g_HB_now (pc := 4) hC wi_X4_find_4 wl_X4_find_19 (by assumption) (c2 := 1) (by assumption) (by decide) dX4_find_4 ?_
      refine g_Blind_rowCount (pc := 7) hC wi_X4_find_0 wl_X4_find_62 (by assumption) dX4_find_7 ?_
      refine r_icmp_ge (pc := 10) (tgt := 40) hC dX4_find_10 (by decide) (fun bq10 => ?_) (fun bq10 => ?_)
      · skip
        refine r_ldc (pc := 40) (v := -1000004) hC dX4_find_40 wl_X4_find_138 ?_
        refine r_iret (pc := 42) hC hD rfl dX4_find_42 rfl ?_
        have hx : srch (isNm S (I (P (P h 0) 0)) t) k 0 = k := srch_at k 0 k (by omega) (by omega) (fun i _ hi => hno i hi) (Or.inl (by omega))
        exact ⟨by rw [aFind, if_pos hx], rfl, rfl, rfl⟩
      · skip
        exact absurd (by rw [b1n]; exact nI_le (by omega) (by omega)) bq10
    | succ q ih =>
      intro k hk hno
      refine r_iload_n (pc := 2) hC dX4_find_2 rfl ?_
      refine r_aload_n (pc := 3) hC dX4_find_3 rfl ?_
      refine g_HB_now (pc := 4) hC wi_X4_find_4 wl_X4_find_19 (by assumption) (c2 := 1) (by assumption) (by decide) dX4_find_4 ?_
      refine g_Blind_rowCount (pc := 7) hC wi_X4_find_0 wl_X4_find_62 (by assumption) dX4_find_7 ?_
      refine r_icmp_ge (pc := 10) (tgt := 40) hC dX4_find_10 (by decide) (fun bq10 => ?_) (fun bq10 => ?_)
      · skip
        exact absurd bq10 (by rw [b1n]; exact nI_ge (by omega) (by omega))
      · skip
        obtain ⟨L, hL1, hL14, hLr, hLs, hLl, hLw, hLk, hLc, hL2, hL3, hL01⟩ := hrowf (i := k) (by omega)
        have hnm : (decide (L = t) && eqN (I (P (P (P (P h 1) 0) k) 0)) (I (P (P h 0) 0)) L) = isNm S (I (P (P h 0) 0)) t k := isNm_C hLl hLc
        refine r_aload_n (pc := 13) hC dX4_find_13 rfl ?_
        refine g_HB_text (pc := 14) hC wi_X4_find_4 wl_X4_find_10 (by assumption) (c2 := 4) (by assumption) (by decide) dX4_find_14 ?_
        refine r_aload_n (pc := 17) hC dX4_find_17 rfl ?_
        refine g_HB_now (pc := 18) hC wi_X4_find_4 wl_X4_find_19 (by assumption) (c2 := 1) (by assumption) (by decide) dX4_find_18 ?_
        refine g_Blind_rows (pc := 21) hC wi_X4_find_0 wl_X4_find_72 (by assumption) (c2 := 9) (by assumption) (by decide) dX4_find_21 ?_
        refine r_iload_n (pc := 24) hC dX4_find_24 rfl ?_
        refine r_aald_Row (pc := 25) hC k0 (xi_n (k := k) (by rw [l0]; omega) (by rw [l0]; decide)) (hrw k (by omega)).1 dX4_find_25 ?_
        refine k_X3_isNameOf (pc := 26) hC gX4_find_X3_isNameOf ⟨Nat.le_of_ble_eq_true rfl, Nat.le_of_ble_eq_true rfl⟩ kx ksg lsg ht ht60 (hrw k (by omega)).1 (hrw k (by omega)).2.1 (hrw k (by omega)).2.2 hLr hL14 (Nat.le_of_ble_eq_true rfl) rfl ⟨Nat.zero_le _, Nat.zero_le _⟩ dX4_find_26 ?_
        refine r_if_eq (pc := 29) (tgt := 34) hC dX4_find_29 (by decide) (fun bq29 => ?_) (fun bq29 => ?_)
        · skip
          refine r_iinc (pc := 34) (v := 1) (L' := [_, _]) hC dX4_find_34 rfl (by decide) rfl rfl ?_
          refine r_goto (pc := 37) (tgt := 2) hC dX4_find_37 (by decide) ?_
          have hm : isNm S (I (P (P h 0) 0)) t k = false := by rw [← hnm]; exact bI_0.mp bq29
          rw [nI_1]; exact ih (k + 1) (by omega) (fun i hi => by rcases Nat.lt_or_ge i k with y | y; exact hno i y; rw [show i = k by omega]; exact hm)
        · skip
          refine r_iload_n (pc := 32) hC dX4_find_32 rfl ?_
          refine r_iret (pc := 33) hC hD rfl dX4_find_33 rfl ?_
          have hm : isNm S (I (P (P h 0) 0)) t k = true := by rw [← hnm]; exact bI_1 bq29
          have hx : srch (isNm S (I (P (P h 0) 0)) t) n 0 = k := srch_at n 0 k (by omega) (by omega) (fun i _ hi => hno i hi) (Or.inr hm)
          exact ⟨by rw [aFind, hx, if_neg (by omega)], rfl, rfl, rfl⟩
  refine r_iconst (pc := 0) (v := 0) hC dX4_find_0 (by decide) ?_
  refine r_istore_n (pc := 1) (L' := [_, _]) hC dX4_find_1 rfl (Nat.le_of_ble_eq_true rfl) rfl ?_
  exact loop n 0 (by omega) (fun i hi => absurd hi (by omega))
theorem k_X4_find {X : xF} {G : xG} {cs : Nat × Nat} {μ : xM} {I : xI} {P : xP} {L : List (Option Value)} {pc : Nat} {rest : List Value} {cc : ByteArray} {Ts : List Cond} {own : String} {nL : Nat} {R : Room} (hC : xC X G cc Ts own nL R) {index : Nat} (hG : GoodIn Ts (wsV own index RX4 yX4_find wsX4_find)) (hR : rm_X4_find.frames + 1 ≤ R.frames ∧ 8 + (2 + 11) + rm_X4_find.locals ≤ R.locals) {h n rq st t : Nat} {S tx : Nat → Int32} {H : Nat → Nat → Int32}  (kh : μ.2.1 h = 5) (hs : oS μ h) (hp : oP P h) (hr : oR I P h S n rq st H t tx) (hinv : invN S n rq) (hW : (rest.map fun v => v.category).sum ≤ 8) (hL : L.length = nL) (hcs : cs.1 ≤ R.cells ∧ cs.2 ≤ R.slots) (hdec : decode cc pc = .ok (.invokevirtual index, 3)) (kk : xg X G cs μ I P L (pc + 3) (.int (aFind S tx t n) :: rest)) : xg X G cs μ I P L pc (.ref (xZ G + h) :: rest) :=
  r_callV hC (c_X4_find X.2.1 kh hs hp hr hinv) hG rfl rfl rfl hd_X4_find hR (by rw [kh]; decide) (xe_HB kh) rfl rfl rfl hW hL hcs hdec (by rintro v μ' I' P' ⟨rfl, rfl, rfl, rfl⟩; exact kk)
