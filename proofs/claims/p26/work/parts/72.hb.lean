abbrev rm_X4_faultReason : Room := { frames := 2, cells := 0, slots := 0, locals := 46 }
theorem wl_X4_faultReason_10 : Cond.fieldLink RX4 10 "HandBlinds" "text" "LHandBlinds$Text;" ∈ wsX4_faultReason := List.mem_of_getElem? (i := 1) (by decide +kernel)
theorem wi_X4_faultReason_4 : ∀ w ∈ wsX40, w ∈ wsX4_faultReason := fun _ h => List.mem_cons_of_mem _ (List.mem_append_left _ (List.mem_append_left _ (List.mem_append_right _ h)))
theorem wl_X4_faultReason_19 : Cond.fieldLink RX4 19 "HandBlinds" "now" "LHandBlinds$Blind;" ∈ wsX4_faultReason := List.mem_of_getElem? (i := 2) (by decide +kernel)
theorem wl_X4_faultReason_62 : Cond.fieldLink RX4 62 "HandBlinds$Blind" "rowCount" "I" ∈ wsX4_faultReason := List.mem_of_getElem? (i := 3) (by decide +kernel)
theorem wi_X4_faultReason_0 : ∀ w ∈ wsX00, w ∈ wsX4_faultReason := fun _ h => List.mem_cons_of_mem _ (List.mem_append_left _ (List.mem_append_right _ h))
theorem hd_X4_faultReason : yX4_faultReason.cls = RX4 ∧ yX4_faultReason.cls ≠ "java/lang/invoke/MethodHandle" ∧ yX4_faultReason.cls ≠ "java/lang/invoke/VarHandle" ∧ (parseMethodDescriptor yX4_faultReason.desc).map (fun d => d.parameters.length) = some 1 := ⟨rfl, by decide +kernel, by decide +kernel, by decide +kernel⟩
set_option maxHeartbeats 4000000 in
set_option maxRecDepth 100000 in
theorem c_X4_faultReason (l : Launch) {G : xG} {μ : xM} {I : xI} {P : xP} {h n rq st t : Nat} {S tx : Nat → Int32} {H : Nat → Nat → Int32} {f : Nat} (kh : μ.2.1 h = 5) (hs : oS μ h) (hp : oP P h) (hr : oR I P h S n rq st H t tx) (hinv : invN S n rq) (hft : f ≤ t) : Ct l yX4_faultReason wsX4_faultReason rm_X4_faultReason G μ I P [.ref (xZ G + h), .int (nI f)] 0 0 (fun vv μ' I' P' => vv = some (.int (frC S n tx t f)) ∧ μ' = μ ∧ I' = (I) ∧ P' = (P)) := by
  obtain ⟨⟨u0, u1, u2, u3⟩, ⟨kx, ksg, lsg⟩, ⟨kb, hbS, hbP, hB⟩, ⟨kh2, lh2⟩, hist, ⟨hst, hst4⟩, ⟨ht, ht60⟩, htx⟩ := oF hs hp hr
  have hA := bA_of hbS hbP
  have hA0 := hA
  have hB0 := hB
  have hinv0 := hinv
  obtain ⟨⟨k0, l0⟩, ⟨k3, l3⟩, ⟨k6, l6⟩, hrw, hrt⟩ := hA
  have hrowf := fun {i : Nat} (hi : i < n) => bRow hB hinv hi
  obtain ⟨b1, b2, b4, b5, b7, b8, b9, b10, bst, brw, brt⟩ := hB
  obtain ⟨hn20, hn, hq6, hq, hcur, hdr, h8, h9, h10, hrows⟩ := hinv
  have b1n : I (P h 1) 1 = nI n := b1.trans hn
  have b4q : I (P h 1) 4 = nI rq := b4.trans hq
  have hro : ∀ r : Int32, (if r < 0 then (0 : Int32) else if I (P h 1) 1 ≤ r then 0 else 1) = isR r (S 0) := fun r => by rw [b1]; rfl
  have hrq : ∀ r : Int32, (if r < 0 then (0 : Int32) else if I (P h 1) 4 ≤ r then 0 else 1) = isR r (S 2) := fun r => by rw [b4]; rfl
  subst htx
  have hncf := ncnt_le (I (P (P h 0) 0)) f
  obtain ⟨he1, he2⟩ := eon_le (tx := (I (P (P h 0) 0))) hft
  refine Ct.of (cc := cX4_faultReason) (maxL := 3) (ret := (some .int)) [some (.ref (xZ G + h)), some (.int (nI f)), none] (by decide) rfl rfl rfl (Nat.le_of_ble_eq_true rfl) ?_
  intro X hC hD h0 _
  refine r_aload_n (pc := 0) hC dX4_faultReason_0 rfl ?_
  refine g_HB_text (pc := 1) hC wi_X4_faultReason_4 wl_X4_faultReason_10 (by assumption) (c2 := 4) (by assumption) (by decide) dX4_faultReason_1 ?_
  refine r_iload_n (pc := 4) hC dX4_faultReason_4 rfl ?_
  refine k_X3_endOfName (pc := 5) hC gX4_faultReason_X3_endOfName ⟨Nat.le_of_ble_eq_true rfl, Nat.le_of_ble_eq_true rfl⟩ kx ksg lsg ht ht60 hft (Nat.le_of_ble_eq_true rfl) rfl ⟨Nat.zero_le _, Nat.zero_le _⟩ dX4_faultReason_5 ?_
  refine r_istore_n (pc := 8) (L' := [_, _, _]) hC dX4_faultReason_8 rfl (Nat.le_of_ble_eq_true rfl) rfl ?_
  refine r_aload_n (pc := 9) hC dX4_faultReason_9 rfl ?_
  refine g_HB_text (pc := 10) hC wi_X4_faultReason_4 wl_X4_faultReason_10 (by assumption) (c2 := 4) (by assumption) (by decide) dX4_faultReason_10 ?_
  refine r_iload_n (pc := 13) hC dX4_faultReason_13 rfl ?_
  refine r_iload_n (pc := 14) hC dX4_faultReason_14 rfl ?_
  refine k_X3_breakOf (pc := 15) hC gX4_faultReason_X3_breakOf ⟨Nat.le_of_ble_eq_true rfl, Nat.le_of_ble_eq_true rfl⟩ kx ksg lsg ht ht60 he2 hft (Nat.le_of_ble_eq_true rfl) rfl ⟨Nat.zero_le _, Nat.zero_le _⟩ dX4_faultReason_15 ?_
  refine r_iconst (pc := 18) (v := -1) hC dX4_faultReason_18 (by decide) ?_
  refine r_icmp_eq (pc := 19) (tgt := 24) hC dX4_faultReason_19 (by decide) (fun bq19 => ?_) (fun bq19 => ?_)
  · skip
    refine r_aload_n (pc := 24) hC dX4_faultReason_24 rfl ?_
    refine g_HB_now (pc := 25) hC wi_X4_faultReason_4 wl_X4_faultReason_19 (by assumption) (c2 := 1) (by assumption) (by decide) dX4_faultReason_25 ?_
    refine r_aload_n (pc := 28) hC dX4_faultReason_28 rfl ?_
    refine g_HB_text (pc := 29) hC wi_X4_faultReason_4 wl_X4_faultReason_10 (by assumption) (c2 := 4) (by assumption) (by decide) dX4_faultReason_29 ?_
    refine r_iload_n (pc := 32) hC dX4_faultReason_32 rfl ?_
    refine r_iload_n (pc := 33) hC dX4_faultReason_33 rfl ?_
    refine k_X3_width (pc := 34) hC gX4_faultReason_X3_width ⟨Nat.le_of_ble_eq_true rfl, Nat.le_of_ble_eq_true rfl⟩ kx ksg lsg ht ht60 he2 he1 (Nat.le_of_ble_eq_true rfl) rfl ⟨Nat.zero_le _, Nat.zero_le _⟩ dX4_faultReason_34 ?_
    refine k_X0_squeezed (pc := 37) hC gX4_faultReason_X0_squeezed ⟨Nat.le_of_ble_eq_true rfl, Nat.le_of_ble_eq_true rfl⟩ kb hA0 hB0 hinv0 (Nat.le_of_ble_eq_true rfl) rfl ⟨Nat.zero_le _, Nat.zero_le _⟩ dX4_faultReason_37 ?_
    refine r_sipush (pc := 40) (v := 150) hC dX4_faultReason_40 (by decide) ?_
    refine r_icmp_le (pc := 43) (tgt := 48) hC dX4_faultReason_43 (by decide) (fun bq43 => ?_) (fun bq43 => ?_)
    · skip
      refine r_aload_n (pc := 48) hC dX4_faultReason_48 rfl ?_
      refine g_HB_now (pc := 49) hC wi_X4_faultReason_4 wl_X4_faultReason_19 (by assumption) (c2 := 1) (by assumption) (by decide) dX4_faultReason_49 ?_
      refine g_Blind_rowCount (pc := 52) hC wi_X4_faultReason_0 wl_X4_faultReason_62 (by assumption) dX4_faultReason_52 ?_
      refine r_aload_n (pc := 55) hC dX4_faultReason_55 rfl ?_
      refine g_HB_text (pc := 56) hC wi_X4_faultReason_4 wl_X4_faultReason_10 (by assumption) (c2 := 4) (by assumption) (by decide) dX4_faultReason_56 ?_
      refine r_iload_n (pc := 59) hC dX4_faultReason_59 rfl ?_
      refine k_X3_namesAhead (pc := 60) hC gX4_faultReason_X3_namesAhead ⟨Nat.le_of_ble_eq_true rfl, Nat.le_of_ble_eq_true rfl⟩ kx ksg lsg ht ht60 hft (Nat.le_of_ble_eq_true rfl) rfl ⟨Nat.zero_le _, Nat.zero_le _⟩ dX4_faultReason_60 ?_
      refine r_iadd (pc := 63) hC dX4_faultReason_63 ?_
      rw [b1n, nI_add]
      refine r_bipush (pc := 64) (v := 20) hC dX4_faultReason_64 (by decide) ?_
      refine r_icmp_lt (pc := 66) (tgt := 73) hC dX4_faultReason_66 (by decide) (fun bq66 => ?_) (fun bq66 => ?_)
      · skip
        refine r_iconst (pc := 73) (v := 0) hC dX4_faultReason_73 (by decide) ?_
        refine r_iret (pc := 74) hC hD rfl dX4_faultReason_74 rfl ?_
        have w := (nI_ltI (b := 20) (by omega) (by decide)).mp bq66
        exact ⟨by rw [frC, if_pos bq19, if_pos bq43, if_neg (by omega)], rfl, rfl, rfl⟩
      · skip
        refine r_iconst (pc := 69) (v := 3) hC dX4_faultReason_69 (by decide) ?_
        refine r_goto (pc := 70) (tgt := 74) hC dX4_faultReason_70 (by decide) ?_
        refine r_iret (pc := 74) hC hD rfl dX4_faultReason_74 rfl ?_
        have w : 20 ≤ n + ncnt (I (P (P h 0) 0)) f := by
          rcases Nat.lt_or_ge (n + ncnt (I (P (P h 0) 0)) f) 20 with w | w
          · exact absurd (nI_lt (b := 20) w (by decide)) bq66
          · exact w
        exact ⟨by rw [frC, if_pos bq19, if_pos bq43, if_pos w], rfl, rfl, rfl⟩
    · skip
      refine r_iconst (pc := 46) (v := 2) hC dX4_faultReason_46 (by decide) ?_
      refine r_iret (pc := 47) hC hD rfl dX4_faultReason_47 rfl ?_
      exact ⟨by rw [frC, if_pos bq19, if_neg bq43], rfl, rfl, rfl⟩
  · skip
    refine r_iconst (pc := 22) (v := 1) hC dX4_faultReason_22 (by decide) ?_
    refine r_iret (pc := 23) hC hD rfl dX4_faultReason_23 rfl ?_
    exact ⟨by rw [frC, if_neg bq19], rfl, rfl, rfl⟩
theorem k_X4_faultReason {X : xF} {G : xG} {cs : Nat × Nat} {μ : xM} {I : xI} {P : xP} {L : List (Option Value)} {pc : Nat} {rest : List Value} {cc : ByteArray} {Ts : List Cond} {own : String} {nL : Nat} {R : Room} (hC : xC X G cc Ts own nL R) {index : Nat} (hG : GoodIn Ts (wsV own index RX4 yX4_faultReason wsX4_faultReason)) (hR : rm_X4_faultReason.frames + 1 ≤ R.frames ∧ 8 + (3 + 11) + rm_X4_faultReason.locals ≤ R.locals) {h n rq st t : Nat} {S tx : Nat → Int32} {H : Nat → Nat → Int32} {f : Nat} (kh : μ.2.1 h = 5) (hs : oS μ h) (hp : oP P h) (hr : oR I P h S n rq st H t tx) (hinv : invN S n rq) (hft : f ≤ t) (hW : (rest.map fun v => v.category).sum ≤ 8) (hL : L.length = nL) (hcs : cs.1 ≤ R.cells ∧ cs.2 ≤ R.slots) (hdec : decode cc pc = .ok (.invokevirtual index, 3)) (kk : xg X G cs μ I P L (pc + 3) (.int (frC S n tx t f) :: rest)) : xg X G cs μ I P L pc (.int (nI f) :: .ref (xZ G + h) :: rest) :=
  r_callV hC (c_X4_faultReason X.2.1 kh hs hp hr hinv hft) hG rfl rfl rfl hd_X4_faultReason hR (by rw [kh]; decide) (xe_HB kh) rfl rfl rfl hW hL hcs hdec (by rintro v μ' I' P' ⟨rfl, rfl, rfl, rfl⟩; exact kk)
abbrev rm_X4_faultCause : Room := { frames := 3, cells := 0, slots := 0, locals := 68 }
theorem wl_X4_faultCause_10 : Cond.fieldLink RX4 10 "HandBlinds" "text" "LHandBlinds$Text;" ∈ wsX4_faultCause := List.mem_of_getElem? (i := 1) (by decide +kernel)
theorem wi_X4_faultCause_4 : ∀ w ∈ wsX40, w ∈ wsX4_faultCause := fun _ h => List.mem_cons_of_mem _ (List.mem_append_left _ (List.mem_append_left _ (List.mem_append_right _ h)))
theorem wl_X4_faultCause_19 : Cond.fieldLink RX4 19 "HandBlinds" "now" "LHandBlinds$Blind;" ∈ wsX4_faultCause := List.mem_of_getElem? (i := 2) (by decide +kernel)
theorem hd_X4_faultCause : yX4_faultCause.cls = RX4 ∧ yX4_faultCause.cls ≠ "java/lang/invoke/MethodHandle" ∧ yX4_faultCause.cls ≠ "java/lang/invoke/VarHandle" ∧ (parseMethodDescriptor yX4_faultCause.desc).map (fun d => d.parameters.length) = some 1 := ⟨rfl, by decide +kernel, by decide +kernel, by decide +kernel⟩
set_option maxHeartbeats 4000000 in
set_option maxRecDepth 100000 in
theorem c_X4_faultCause (l : Launch) {G : xG} {μ : xM} {I : xI} {P : xP} {h n rq st t : Nat} {S tx : Nat → Int32} {H : Nat → Nat → Int32} {f : Nat} (kh : μ.2.1 h = 5) (hs : oS μ h) (hp : oP P h) (hr : oR I P h S n rq st H t tx) (hinv : invN S n rq) (hft : f ≤ t) : Ct l yX4_faultCause wsX4_faultCause rm_X4_faultCause G μ I P [.ref (xZ G + h), .int (nI f)] 0 0 (fun vv μ' I' P' => vv = some (.int (fcC S n tx t f)) ∧ μ' = μ ∧ I' = (I) ∧ P' = (P)) := by
  obtain ⟨⟨u0, u1, u2, u3⟩, ⟨kx, ksg, lsg⟩, ⟨kb, hbS, hbP, hB⟩, ⟨kh2, lh2⟩, hist, ⟨hst, hst4⟩, ⟨ht, ht60⟩, htx⟩ := oF hs hp hr
  have hA := bA_of hbS hbP
  have hA0 := hA
  have hB0 := hB
  have hinv0 := hinv
  obtain ⟨⟨k0, l0⟩, ⟨k3, l3⟩, ⟨k6, l6⟩, hrw, hrt⟩ := hA
  have hrowf := fun {i : Nat} (hi : i < n) => bRow hB hinv hi
  obtain ⟨b1, b2, b4, b5, b7, b8, b9, b10, bst, brw, brt⟩ := hB
  obtain ⟨hn20, hn, hq6, hq, hcur, hdr, h8, h9, h10, hrows⟩ := hinv
  have b1n : I (P h 1) 1 = nI n := b1.trans hn
  have b4q : I (P h 1) 4 = nI rq := b4.trans hq
  have hro : ∀ r : Int32, (if r < 0 then (0 : Int32) else if I (P h 1) 1 ≤ r then 0 else 1) = isR r (S 0) := fun r => by rw [b1]; rfl
  have hrq : ∀ r : Int32, (if r < 0 then (0 : Int32) else if I (P h 1) 4 ≤ r then 0 else 1) = isR r (S 2) := fun r => by rw [b4]; rfl
  subst htx
  have hncf := ncnt_le (I (P (P h 0) 0)) f
  obtain ⟨he1, he2⟩ := eon_le (tx := (I (P (P h 0) 0))) hft
  refine Ct.of (cc := cX4_faultCause) (maxL := 3) (ret := (some .int)) [some (.ref (xZ G + h)), some (.int (nI f)), none] (by decide) rfl rfl rfl (Nat.le_of_ble_eq_true rfl) ?_
  intro X hC hD h0 _
  refine r_aload_n (pc := 0) hC dX4_faultCause_0 rfl ?_
  refine g_HB_text (pc := 1) hC wi_X4_faultCause_4 wl_X4_faultCause_10 (by assumption) (c2 := 4) (by assumption) (by decide) dX4_faultCause_1 ?_
  refine r_iload_n (pc := 4) hC dX4_faultCause_4 rfl ?_
  refine k_X3_endOfName (pc := 5) hC gX4_faultCause_X3_endOfName ⟨Nat.le_of_ble_eq_true rfl, Nat.le_of_ble_eq_true rfl⟩ kx ksg lsg ht ht60 hft (Nat.le_of_ble_eq_true rfl) rfl ⟨Nat.zero_le _, Nat.zero_le _⟩ dX4_faultCause_5 ?_
  refine r_istore_n (pc := 8) (L' := [_, _, _]) hC dX4_faultCause_8 rfl (Nat.le_of_ble_eq_true rfl) rfl ?_
  refine r_aload_n (pc := 9) hC dX4_faultCause_9 rfl ?_
  refine r_iload_n (pc := 10) hC dX4_faultCause_10 rfl ?_
  refine k_X4_faultReason (pc := 11) hC gX4_faultCause_X4_faultReason ⟨Nat.le_of_ble_eq_true rfl, Nat.le_of_ble_eq_true rfl⟩ kh hs hp hr hinv0 hft (Nat.le_of_ble_eq_true rfl) rfl ⟨Nat.zero_le _, Nat.zero_le _⟩ dX4_faultCause_11 ?_
  by_cases sw1 : frC S n (I (P (P h 0) 0)) t f = 1
  · rw [sw1]
    refine r_lookup (pc := 14) (off := 26) (tgt := 40) hC dX4_faultCause_14 (by decide) (by decide) (by decide) ?_
    refine r_aload_n (pc := 40) hC dX4_faultCause_40 rfl ?_
    refine g_HB_text (pc := 41) hC wi_X4_faultCause_4 wl_X4_faultCause_10 (by assumption) (c2 := 4) (by assumption) (by decide) dX4_faultCause_41 ?_
    refine r_iload_n (pc := 44) hC dX4_faultCause_44 rfl ?_
    refine r_iload_n (pc := 45) hC dX4_faultCause_45 rfl ?_
    refine k_X3_breakOf (pc := 46) hC gX4_faultCause_X3_breakOf ⟨Nat.le_of_ble_eq_true rfl, Nat.le_of_ble_eq_true rfl⟩ kx ksg lsg ht ht60 he2 hft (Nat.le_of_ble_eq_true rfl) rfl ⟨Nat.zero_le _, Nat.zero_le _⟩ dX4_faultCause_46 ?_
    refine r_iret (pc := 49) hC hD rfl dX4_faultCause_49 rfl ?_
    exact ⟨by rw [fcC, if_pos sw1], rfl, rfl, rfl⟩
  by_cases sw2 : frC S n (I (P (P h 0) 0)) t f = 2
  · rw [sw2]
    refine r_lookup (pc := 14) (off := 36) (tgt := 50) hC dX4_faultCause_14 (by decide) (by decide) (by decide) ?_
    refine r_aload_n (pc := 50) hC dX4_faultCause_50 rfl ?_
    refine g_HB_now (pc := 51) hC wi_X4_faultCause_4 wl_X4_faultCause_19 (by assumption) (c2 := 1) (by assumption) (by decide) dX4_faultCause_51 ?_
    refine r_aload_n (pc := 54) hC dX4_faultCause_54 rfl ?_
    refine g_HB_text (pc := 55) hC wi_X4_faultCause_4 wl_X4_faultCause_10 (by assumption) (c2 := 4) (by assumption) (by decide) dX4_faultCause_55 ?_
    refine r_iload_n (pc := 58) hC dX4_faultCause_58 rfl ?_
    refine r_iload_n (pc := 59) hC dX4_faultCause_59 rfl ?_
    refine k_X3_width (pc := 60) hC gX4_faultCause_X3_width ⟨Nat.le_of_ble_eq_true rfl, Nat.le_of_ble_eq_true rfl⟩ kx ksg lsg ht ht60 he2 he1 (Nat.le_of_ble_eq_true rfl) rfl ⟨Nat.zero_le _, Nat.zero_le _⟩ dX4_faultCause_60 ?_
    refine k_X0_squeezed (pc := 63) hC gX4_faultCause_X0_squeezed ⟨Nat.le_of_ble_eq_true rfl, Nat.le_of_ble_eq_true rfl⟩ kb hA0 hB0 hinv0 (Nat.le_of_ble_eq_true rfl) rfl ⟨Nat.zero_le _, Nat.zero_le _⟩ dX4_faultCause_63 ?_
    refine r_iret (pc := 66) hC hD rfl dX4_faultCause_66 rfl ?_
    exact ⟨by rw [fcC, if_neg (by rw [sw2]; decide), if_pos sw2], rfl, rfl, rfl⟩
  refine r_lookup (pc := 14) (off := 53) (tgt := 67) hC dX4_faultCause_14 (by decide) ((lv_osw (a := 1) (o := 26) (d := 53) (r := [(2, 36)]) sw1 rfl).trans ((lv_osw (a := 2) (o := 36) (d := 53) (r := []) sw2 rfl).trans (rfl))) (by decide) ?_
  refine r_iload_n (pc := 67) hC dX4_faultCause_67 rfl ?_
  refine r_iload_n (pc := 68) hC dX4_faultCause_68 rfl ?_
  refine r_isub (pc := 69) hC dX4_faultCause_69 ?_
  rw [pk_sub he1]
  refine r_iret (pc := 70) hC hD rfl dX4_faultCause_70 rfl ?_
  exact ⟨by rw [fcC, if_neg sw1, if_neg sw2], rfl, rfl, rfl⟩
theorem k_X4_faultCause {X : xF} {G : xG} {cs : Nat × Nat} {μ : xM} {I : xI} {P : xP} {L : List (Option Value)} {pc : Nat} {rest : List Value} {cc : ByteArray} {Ts : List Cond} {own : String} {nL : Nat} {R : Room} (hC : xC X G cc Ts own nL R) {index : Nat} (hG : GoodIn Ts (wsV own index RX4 yX4_faultCause wsX4_faultCause)) (hR : rm_X4_faultCause.frames + 1 ≤ R.frames ∧ 8 + (3 + 11) + rm_X4_faultCause.locals ≤ R.locals) {h n rq st t : Nat} {S tx : Nat → Int32} {H : Nat → Nat → Int32} {f : Nat} (kh : μ.2.1 h = 5) (hs : oS μ h) (hp : oP P h) (hr : oR I P h S n rq st H t tx) (hinv : invN S n rq) (hft : f ≤ t) (hW : (rest.map fun v => v.category).sum ≤ 8) (hL : L.length = nL) (hcs : cs.1 ≤ R.cells ∧ cs.2 ≤ R.slots) (hdec : decode cc pc = .ok (.invokevirtual index, 3)) (kk : xg X G cs μ I P L (pc + 3) (.int (fcC S n tx t f) :: rest)) : xg X G cs μ I P L pc (.int (nI f) :: .ref (xZ G + h) :: rest) :=
  r_callV hC (c_X4_faultCause X.2.1 kh hs hp hr hinv hft) hG rfl rfl rfl hd_X4_faultCause hR (by rw [kh]; decide) (xe_HB kh) rfl rfl rfl hW hL hcs hdec (by rintro v μ' I' P' ⟨rfl, rfl, rfl, rfl⟩; exact kk)
abbrev rm_X4_faultPlace : Room := { frames := 3, cells := 0, slots := 0, locals := 68 }
theorem wl_X4_faultPlace_10 : Cond.fieldLink RX4 10 "HandBlinds" "text" "LHandBlinds$Text;" ∈ wsX4_faultPlace := List.mem_of_getElem? (i := 1) (by decide +kernel)
theorem wi_X4_faultPlace_4 : ∀ w ∈ wsX40, w ∈ wsX4_faultPlace := fun _ h => List.mem_cons_of_mem _ (List.mem_append_left _ (List.mem_append_left _ (List.mem_append_right _ h)))
theorem wl_X4_faultPlace_39 : Cond.fieldLink RX4 39 "HandBlinds$Text" "length" "I" ∈ wsX4_faultPlace := List.mem_of_getElem? (i := 2) (by decide +kernel)
theorem wi_X4_faultPlace_3 : ∀ w ∈ wsX30, w ∈ wsX4_faultPlace := fun _ h => List.mem_cons_of_mem _ (List.mem_append_left _ (List.mem_append_right _ h))
theorem hd_X4_faultPlace : yX4_faultPlace.cls = RX4 ∧ yX4_faultPlace.cls ≠ "java/lang/invoke/MethodHandle" ∧ yX4_faultPlace.cls ≠ "java/lang/invoke/VarHandle" ∧ (parseMethodDescriptor yX4_faultPlace.desc).map (fun d => d.parameters.length) = some 0 := ⟨rfl, by decide +kernel, by decide +kernel, by decide +kernel⟩
set_option maxHeartbeats 4000000 in
set_option maxRecDepth 100000 in
theorem c_X4_faultPlace (l : Launch) {G : xG} {μ : xM} {I : xI} {P : xP} {h n rq st t : Nat} {S tx : Nat → Int32} {H : Nat → Nat → Int32}  (kh : μ.2.1 h = 5) (hs : oS μ h) (hp : oP P h) (hr : oR I P h S n rq st H t tx) (hinv : invN S n rq) : Ct l yX4_faultPlace wsX4_faultPlace rm_X4_faultPlace G μ I P [.ref (xZ G + h)] 0 0 (fun vv μ' I' P' => vv = some (.int (fpO S tx t)) ∧ μ' = μ ∧ I' = (I) ∧ P' = (P)) := by
  obtain ⟨⟨u0, u1, u2, u3⟩, ⟨kx, ksg, lsg⟩, ⟨kb, hbS, hbP, hB⟩, ⟨kh2, lh2⟩, hist, ⟨hst, hst4⟩, ⟨ht, ht60⟩, htx⟩ := oF hs hp hr
  have hA := bA_of hbS hbP
  have hA0 := hA
  have hB0 := hB
  have hinv0 := hinv
  obtain ⟨⟨k0, l0⟩, ⟨k3, l3⟩, ⟨k6, l6⟩, hrw, hrt⟩ := hA
  have hrowf := fun {i : Nat} (hi : i < n) => bRow hB hinv hi
  obtain ⟨b1, b2, b4, b5, b7, b8, b9, b10, bst, brw, brt⟩ := hB
  obtain ⟨hn20, hn, hq6, hq, hcur, hdr, h8, h9, h10, hrows⟩ := hinv
  have b1n : I (P h 1) 1 = nI n := b1.trans hn
  have b4q : I (P h 1) 4 = nI rq := b4.trans hq
  have hro : ∀ r : Int32, (if r < 0 then (0 : Int32) else if I (P h 1) 1 ≤ r then 0 else 1) = isR r (S 0) := fun r => by rw [b1]; rfl
  have hrq : ∀ r : Int32, (if r < 0 then (0 : Int32) else if I (P h 1) 4 ≤ r then 0 else 1) = isR r (S 2) := fun r => by rw [b4]; rfl
  subst htx
  have hcn : cN S = n := by rw [cN, hn, nI_clamp (by omega)]
  have hnct := ncnt_le (I (P (P h 0) 0)) t
  refine Ct.of (cc := cX4_faultPlace) (maxL := 4) (ret := (some .int)) [some (.ref (xZ G + h)), none, none, none] (by decide) rfl rfl rfl (Nat.le_of_ble_eq_true rfl) ?_
  intro X hC hD h0 _
  have loop : ∀ (q k : Nat), k + q = (ncnt (I (P (P h 0) 0)) t + 1) → ∀ f : Nat, fpI S (I (P (P h 0) 0)) t n k f → xg X G (0, 0) μ I P [some (.ref (xZ G + h)), some (.int (nI (ncnt (I (P (P h 0) 0)) t + 1))), some (.int (nI f)), some (.int (nI k))] 21 [] := by
    intro q
    induction q with
    | zero =>
      intro k hk f hI
      have ek : k = ncnt (I (P (P h 0) 0)) t + 1 := by omega
      subst ek
      refine r_iload_n (pc := 21) hC dX4_faultPlace_21 rfl ?_
      refine r_iload_n (pc := 22) hC dX4_faultPlace_22 rfl ?_
      refine r_icmp_ge (pc := 23) (tgt := 53) hC dX4_faultPlace_23 (by decide) (fun bq23 => ?_) (fun bq23 => ?_)
      · skip
        refine r_iconst (pc := 53) (v := -1) hC dX4_faultPlace_53 (by decide) ?_
        refine r_iret (pc := 54) hC hD rfl dX4_faultPlace_54 rfl ?_
        exact ⟨by rw [fpI_end hI], rfl, rfl, rfl⟩
      · skip
        exact absurd (nI_le (by omega) (by omega)) bq23
    | succ q ih =>
      intro k hk f hI
      obtain ⟨hft, hf1, hf2⟩ := fpI_at ht60 hI (by omega)
      refine r_iload_n (pc := 21) hC dX4_faultPlace_21 rfl ?_
      refine r_iload_n (pc := 22) hC dX4_faultPlace_22 rfl ?_
      refine r_icmp_ge (pc := 23) (tgt := 53) hC dX4_faultPlace_23 (by decide) (fun bq23 => ?_) (fun bq23 => ?_)
      · skip
        exact absurd bq23 (nI_ge (by omega) (by omega))
      · skip
        refine r_aload_n (pc := 26) hC dX4_faultPlace_26 rfl ?_
        refine r_iload_n (pc := 27) hC dX4_faultPlace_27 rfl ?_
        refine k_X4_faultReason (pc := 28) hC gX4_faultPlace_X4_faultReason ⟨Nat.le_of_ble_eq_true rfl, Nat.le_of_ble_eq_true rfl⟩ kh hs hp hr hinv0 hft (Nat.le_of_ble_eq_true rfl) rfl ⟨Nat.zero_le _, Nat.zero_le _⟩ dX4_faultPlace_28 ?_
        refine r_if_eq (pc := 31) (tgt := 36) hC dX4_faultPlace_31 (by decide) (fun bq31 => ?_) (fun bq31 => ?_)
        · skip
          refine r_aload_n (pc := 36) hC dX4_faultPlace_36 rfl ?_
          refine g_HB_text (pc := 37) hC wi_X4_faultPlace_4 wl_X4_faultPlace_10 (by assumption) (c2 := 4) (by assumption) (by decide) dX4_faultPlace_37 ?_
          refine r_iload_n (pc := 40) hC dX4_faultPlace_40 rfl ?_
          refine k_X3_endOfName (pc := 41) hC gX4_faultPlace_X3_endOfName ⟨Nat.le_of_ble_eq_true rfl, Nat.le_of_ble_eq_true rfl⟩ kx ksg lsg ht ht60 hft (Nat.le_of_ble_eq_true rfl) rfl ⟨Nat.zero_le _, Nat.zero_le _⟩ dX4_faultPlace_41 ?_
          refine r_iconst (pc := 44) (v := 1) hC dX4_faultPlace_44 (by decide) ?_
          refine r_iadd (pc := 45) hC dX4_faultPlace_45 ?_
          refine r_istore_n (pc := 46) (L' := [_, _, _, _]) hC dX4_faultPlace_46 rfl (Nat.le_of_ble_eq_true rfl) rfl ?_
          refine r_iinc (pc := 47) (v := 1) (L' := [_, _, _, _]) hC dX4_faultPlace_47 rfl (by decide) rfl rfl ?_
          refine r_goto (pc := 50) (tgt := 21) hC dX4_faultPlace_50 (by decide) ?_
          rw [nI_1, nI_1]; exact ih (k + 1) (by omega) _ (hf2 bq31)
        · skip
          refine r_iload_n (pc := 34) hC dX4_faultPlace_34 rfl ?_
          refine r_iret (pc := 35) hC hD rfl dX4_faultPlace_35 rfl ?_
          exact ⟨by rw [hf1 bq31], rfl, rfl, rfl⟩
  refine r_aload_n (pc := 0) hC dX4_faultPlace_0 rfl ?_
  refine g_HB_text (pc := 1) hC wi_X4_faultPlace_4 wl_X4_faultPlace_10 (by assumption) (c2 := 4) (by assumption) (by decide) dX4_faultPlace_1 ?_
  refine r_aload_n (pc := 4) hC dX4_faultPlace_4 rfl ?_
  refine g_HB_text (pc := 5) hC wi_X4_faultPlace_4 wl_X4_faultPlace_10 (by assumption) (c2 := 4) (by assumption) (by decide) dX4_faultPlace_5 ?_
  refine g_Text_length (pc := 8) hC wi_X4_faultPlace_3 wl_X4_faultPlace_39 (by assumption) dX4_faultPlace_8 ?_
  rw [ht]
  refine k_X3_namesAhead (pc := 11) hC gX4_faultPlace_X3_namesAhead ⟨Nat.le_of_ble_eq_true rfl, Nat.le_of_ble_eq_true rfl⟩ kx ksg lsg ht ht60 (Nat.le_refl t) (Nat.le_of_ble_eq_true rfl) rfl ⟨Nat.zero_le _, Nat.zero_le _⟩ dX4_faultPlace_11 ?_
  refine r_iconst (pc := 14) (v := 1) hC dX4_faultPlace_14 (by decide) ?_
  refine r_iadd (pc := 15) hC dX4_faultPlace_15 ?_
  rw [nI_1]
  refine r_istore_n (pc := 16) (L' := [_, _, _, _]) hC dX4_faultPlace_16 rfl (Nat.le_of_ble_eq_true rfl) rfl ?_
  refine r_iconst (pc := 17) (v := 0) hC dX4_faultPlace_17 (by decide) ?_
  refine r_istore_n (pc := 18) (L' := [_, _, _, _]) hC dX4_faultPlace_18 rfl (Nat.le_of_ble_eq_true rfl) rfl ?_
  refine r_iconst (pc := 19) (v := 0) hC dX4_faultPlace_19 (by decide) ?_
  refine r_istore_n (pc := 20) (L' := [_, _, _, _]) hC dX4_faultPlace_20 rfl (Nat.le_of_ble_eq_true rfl) rfl ?_
  exact loop (ncnt (I (P (P h 0) 0)) t + 1) 0 (by omega) 0 (fpI_0 hcn hn20)
theorem k_X4_faultPlace {X : xF} {G : xG} {cs : Nat × Nat} {μ : xM} {I : xI} {P : xP} {L : List (Option Value)} {pc : Nat} {rest : List Value} {cc : ByteArray} {Ts : List Cond} {own : String} {nL : Nat} {R : Room} (hC : xC X G cc Ts own nL R) {index : Nat} (hG : GoodIn Ts (wsV own index RX4 yX4_faultPlace wsX4_faultPlace)) (hR : rm_X4_faultPlace.frames + 1 ≤ R.frames ∧ 8 + (4 + 11) + rm_X4_faultPlace.locals ≤ R.locals) {h n rq st t : Nat} {S tx : Nat → Int32} {H : Nat → Nat → Int32}  (kh : μ.2.1 h = 5) (hs : oS μ h) (hp : oP P h) (hr : oR I P h S n rq st H t tx) (hinv : invN S n rq) (hW : (rest.map fun v => v.category).sum ≤ 8) (hL : L.length = nL) (hcs : cs.1 ≤ R.cells ∧ cs.2 ≤ R.slots) (hdec : decode cc pc = .ok (.invokevirtual index, 3)) (kk : xg X G cs μ I P L (pc + 3) (.int (fpO S tx t) :: rest)) : xg X G cs μ I P L pc (.ref (xZ G + h) :: rest) :=
  r_callV hC (c_X4_faultPlace X.2.1 kh hs hp hr hinv) hG rfl rfl rfl hd_X4_faultPlace hR (by rw [kh]; decide) (xe_HB kh) rfl rfl rfl hW hL hcs hdec (by rintro v μ' I' P' ⟨rfl, rfl, rfl, rfl⟩; exact kk)
abbrev rm_X4_fault : Room := { frames := 4, cells := 0, slots := 0, locals := 91 }
theorem wl_X4_fault_57 : Cond.constant RX4 57 (-1000001) ∈ wsX4_fault := List.mem_of_getElem? (i := 1) (by decide +kernel)
theorem wl_X4_fault_138 : Cond.constant RX4 138 (-1000004) ∈ wsX4_fault := List.mem_of_getElem? (i := 2) (by decide +kernel)
theorem hd_X4_fault : yX4_fault.cls = RX4 ∧ yX4_fault.cls ≠ "java/lang/invoke/MethodHandle" ∧ yX4_fault.cls ≠ "java/lang/invoke/VarHandle" ∧ (parseMethodDescriptor yX4_fault.desc).map (fun d => d.parameters.length) = some 1 := ⟨rfl, by decide +kernel, by decide +kernel, by decide +kernel⟩
set_option maxHeartbeats 4000000 in
set_option maxRecDepth 100000 in
theorem c_X4_fault (l : Launch) {G : xG} {μ : xM} {I : xI} {P : xP} {h n rq st t : Nat} {S tx : Nat → Int32} {H : Nat → Nat → Int32} {w : Int32} (kh : μ.2.1 h = 5) (hs : oS μ h) (hp : oP P h) (hr : oR I P h S n rq st H t tx) (hinv : invN S n rq) : Ct l yX4_fault wsX4_fault rm_X4_fault G μ I P [.ref (xZ G + h), .int w] 0 0 (fun vv μ' I' P' => vv = some (.int (aFault S tx t w)) ∧ μ' = μ ∧ I' = (I) ∧ P' = (P)) := by
  obtain ⟨⟨u0, u1, u2, u3⟩, ⟨kx, ksg, lsg⟩, ⟨kb, hbS, hbP, hB⟩, ⟨kh2, lh2⟩, hist, ⟨hst, hst4⟩, ⟨ht, ht60⟩, htx⟩ := oF hs hp hr
  have hA := bA_of hbS hbP
  have hA0 := hA
  have hB0 := hB
  have hinv0 := hinv
  obtain ⟨⟨k0, l0⟩, ⟨k3, l3⟩, ⟨k6, l6⟩, hrw, hrt⟩ := hA
  have hrowf := fun {i : Nat} (hi : i < n) => bRow hB hinv hi
  obtain ⟨b1, b2, b4, b5, b7, b8, b9, b10, bst, brw, brt⟩ := hB
  obtain ⟨hn20, hn, hq6, hq, hcur, hdr, h8, h9, h10, hrows⟩ := hinv
  have b1n : I (P h 1) 1 = nI n := b1.trans hn
  have b4q : I (P h 1) 4 = nI rq := b4.trans hq
  have hro : ∀ r : Int32, (if r < 0 then (0 : Int32) else if I (P h 1) 1 ≤ r then 0 else 1) = isR r (S 0) := fun r => by rw [b1]; rfl
  have hrq : ∀ r : Int32, (if r < 0 then (0 : Int32) else if I (P h 1) 4 ≤ r then 0 else 1) = isR r (S 2) := fun r => by rw [b4]; rfl
  subst htx
  have hcn : cN S = n := by rw [cN, hn, nI_clamp (by omega)]
  refine Ct.of (cc := cX4_fault) (maxL := 3) (ret := (some .int)) [some (.ref (xZ G + h)), some (.int w), none] (by decide) rfl rfl rfl (Nat.le_of_ble_eq_true rfl) ?_
  intro X hC hD h0 _
  refine r_iload_n (pc := 0) hC dX4_fault_0 rfl ?_
  refine r_if_lt (pc := 1) (tgt := 9) hC dX4_fault_1 (by decide) (fun bq1 => ?_) (fun bq1 => ?_)
  · skip
    refine r_ldc (pc := 9) (v := -1000001) hC dX4_fault_9 wl_X4_fault_57 ?_
    refine r_iret (pc := 11) hC hD rfl dX4_fault_11 rfl ?_
    exact ⟨by rw [aFault, if_pos (show inr w 0 2 = 0 by rw [inr, if_pos bq1])], rfl, rfl, rfl⟩
  · skip
    refine r_iload_n (pc := 4) hC dX4_fault_4 rfl ?_
    refine r_iconst (pc := 5) (v := 2) hC dX4_fault_5 (by decide) ?_
    refine r_icmp_le (pc := 6) (tgt := 12) hC dX4_fault_6 (by decide) (fun bq6 => ?_) (fun bq6 => ?_)
    · skip
      refine r_aload_n (pc := 12) hC dX4_fault_12 rfl ?_
      refine k_X4_faultPlace (pc := 13) hC gX4_fault_X4_faultPlace ⟨Nat.le_of_ble_eq_true rfl, Nat.le_of_ble_eq_true rfl⟩ kh hs hp hr hinv0 (Nat.le_of_ble_eq_true rfl) rfl ⟨Nat.zero_le _, Nat.zero_le _⟩ dX4_fault_13 ?_
      refine r_istore_n (pc := 16) (L' := [_, _, _]) hC dX4_fault_16 rfl (Nat.le_of_ble_eq_true rfl) rfl ?_
      refine r_iload_n (pc := 17) hC dX4_fault_17 rfl ?_
      refine r_iconst (pc := 18) (v := -1) hC dX4_fault_18 (by decide) ?_
      refine r_icmp_ne (pc := 19) (tgt := 25) hC dX4_fault_19 (by decide) (fun bq19 => ?_) (fun bq19 => ?_)
      · skip
        obtain ⟨a0, f, hf, a1, a2, a3, a4⟩ := (fpO_cases (tx := (I (P (P h 0) 0))) ht60 hcn hn20).resolve_left (fun w => bq19 w.2)
        rw [a2]
        refine r_iload_n (pc := 25) hC dX4_fault_25 rfl ?_
        by_cases sw0 : w = 0
        · subst sw0
          refine r_lookup (pc := 26) (off := 26) (tgt := 52) hC dX4_fault_26 (by decide) (by decide) (by decide) ?_
          refine r_iload_n (pc := 52) hC dX4_fault_52 rfl ?_
          refine r_iret (pc := 53) hC hD rfl dX4_fault_53 rfl ?_
          exact ⟨by rw [aFault, if_neg (by decide), if_neg a0, if_pos rfl, a1], rfl, rfl, rfl⟩
        by_cases sw1 : w = 1
        · subst sw1
          refine r_lookup (pc := 26) (off := 28) (tgt := 54) hC dX4_fault_26 (by decide) (by decide) (by decide) ?_
          refine r_aload_n (pc := 54) hC dX4_fault_54 rfl ?_
          refine r_iload_n (pc := 55) hC dX4_fault_55 rfl ?_
          refine k_X4_faultReason (pc := 56) hC gX4_fault_X4_faultReason ⟨Nat.le_of_ble_eq_true rfl, Nat.le_of_ble_eq_true rfl⟩ kh hs hp hr hinv0 hf (Nat.le_of_ble_eq_true rfl) rfl ⟨Nat.zero_le _, Nat.zero_le _⟩ dX4_fault_56 ?_
          refine r_iret (pc := 59) hC hD rfl dX4_fault_59 rfl ?_
          exact ⟨by rw [aFault, if_neg (by decide), if_neg a0, if_neg (by decide), if_pos rfl, a3], rfl, rfl, rfl⟩
        refine r_lookup (pc := 26) (off := 34) (tgt := 60) hC dX4_fault_26 (by decide) ((lv_osw (a := 0) (o := 26) (d := 34) (r := [(1, 28)]) sw0 rfl).trans ((lv_osw (a := 1) (o := 28) (d := 34) (r := []) sw1 rfl).trans (rfl))) (by decide) ?_
        refine r_aload_n (pc := 60) hC dX4_fault_60 rfl ?_
        refine r_iload_n (pc := 61) hC dX4_fault_61 rfl ?_
        refine k_X4_faultCause (pc := 62) hC gX4_fault_X4_faultCause ⟨Nat.le_of_ble_eq_true rfl, Nat.le_of_ble_eq_true rfl⟩ kh hs hp hr hinv0 hf (Nat.le_of_ble_eq_true rfl) rfl ⟨Nat.zero_le _, Nat.zero_le _⟩ dX4_fault_62 ?_
        refine r_iret (pc := 65) hC hD rfl dX4_fault_65 rfl ?_
        have hin : ¬ inr w 0 2 = 0 := by rw [inr, if_neg bq1, if_neg (Int32.not_lt.mpr bq6)]; decide
        exact ⟨by rw [aFault, if_neg hin, if_neg a0, if_neg sw0, if_neg sw1, a4], rfl, rfl, rfl⟩
      · skip
        refine r_ldc (pc := 22) (v := -1000004) hC dX4_fault_22 wl_X4_fault_138 ?_
        refine r_iret (pc := 24) hC hD rfl dX4_fault_24 rfl ?_
        have hin : ¬ inr w 0 2 = 0 := by rw [inr, if_neg bq1, if_neg (Int32.not_lt.mpr bq6)]; decide
        have h0 : (aaA S (I (P (P h 0) 0)) t).1 = 0 := by
          rcases fpO_cases (tx := (I (P (P h 0) 0))) ht60 hcn hn20 with w | ⟨-, f, hf, -, w, -⟩
          · exact w.1
          · rw [w] at bq19
            exact absurd bq19 (fun e => nI_pos (n := f) (by omega) (by rw [e]; decide))
        exact ⟨by rw [aFault, if_neg hin, if_pos h0], rfl, rfl, rfl⟩
    · skip
      refine r_ldc (pc := 9) (v := -1000001) hC dX4_fault_9 wl_X4_fault_57 ?_
      refine r_iret (pc := 11) hC hD rfl dX4_fault_11 rfl ?_
      exact ⟨by rw [aFault, if_pos (show inr w 0 2 = 0 by rw [inr, if_neg bq1, if_pos (Int32.not_le.mp bq6)])], rfl, rfl, rfl⟩
theorem k_X4_fault {X : xF} {G : xG} {cs : Nat × Nat} {μ : xM} {I : xI} {P : xP} {L : List (Option Value)} {pc : Nat} {rest : List Value} {cc : ByteArray} {Ts : List Cond} {own : String} {nL : Nat} {R : Room} (hC : xC X G cc Ts own nL R) {index : Nat} (hG : GoodIn Ts (wsV own index RX4 yX4_fault wsX4_fault)) (hR : rm_X4_fault.frames + 1 ≤ R.frames ∧ 8 + (3 + 11) + rm_X4_fault.locals ≤ R.locals) {h n rq st t : Nat} {S tx : Nat → Int32} {H : Nat → Nat → Int32} {w : Int32} (kh : μ.2.1 h = 5) (hs : oS μ h) (hp : oP P h) (hr : oR I P h S n rq st H t tx) (hinv : invN S n rq) (hW : (rest.map fun v => v.category).sum ≤ 8) (hL : L.length = nL) (hcs : cs.1 ≤ R.cells ∧ cs.2 ≤ R.slots) (hdec : decode cc pc = .ok (.invokevirtual index, 3)) (kk : xg X G cs μ I P L (pc + 3) (.int (aFault S tx t w) :: rest)) : xg X G cs μ I P L pc (.int w :: .ref (xZ G + h) :: rest) :=
  r_callV hC (c_X4_fault X.2.1 kh hs hp hr hinv) hG rfl rfl rfl hd_X4_fault hR (by rw [kh]; decide) (xe_HB kh) rfl rfl rfl hW hL hcs hdec (by rintro v μ' I' P' ⟨rfl, rfl, rfl, rfl⟩; exact kk)
abbrev rm_X4_add : Room := { frames := 4, cells := 0, slots := 0, locals := 91 }
theorem wl_X4_add_10 : Cond.fieldLink RX4 10 "HandBlinds" "text" "LHandBlinds$Text;" ∈ wsX4_add := List.mem_of_getElem? (i := 2) (by decide +kernel)
theorem wi_X4_add_4 : ∀ w ∈ wsX40, w ∈ wsX4_add := fun _ h => List.mem_cons_of_mem _ (List.mem_append_left _ (List.mem_append_left _ (List.mem_append_left _ (List.mem_append_left _ (List.mem_append_right _ h)))))
theorem wl_X4_add_19 : Cond.fieldLink RX4 19 "HandBlinds" "now" "LHandBlinds$Blind;" ∈ wsX4_add := List.mem_of_getElem? (i := 4) (by decide +kernel)
theorem wl_X4_add_39 : Cond.fieldLink RX4 39 "HandBlinds$Text" "length" "I" ∈ wsX4_add := List.mem_of_getElem? (i := 3) (by decide +kernel)
theorem wi_X4_add_3 : ∀ w ∈ wsX30, w ∈ wsX4_add := fun _ h => List.mem_cons_of_mem _ (List.mem_append_left _ (List.mem_append_left _ (List.mem_append_left _ (List.mem_append_right _ h))))
theorem wl_X4_add_35 : Cond.constant RX4 35 (-1000002) ∈ wsX4_add := List.mem_of_getElem? (i := 1) (by decide +kernel)
theorem hd_X4_add : yX4_add.cls = RX4 ∧ yX4_add.cls ≠ "java/lang/invoke/MethodHandle" ∧ yX4_add.cls ≠ "java/lang/invoke/VarHandle" ∧ (parseMethodDescriptor yX4_add.desc).map (fun d => d.parameters.length) = some 0 := ⟨rfl, by decide +kernel, by decide +kernel, by decide +kernel⟩
set_option maxHeartbeats 4000000 in
set_option maxRecDepth 100000 in
theorem c_X4_add (l : Launch) {G : xG} {μ : xM} {I : xI} {P : xP} {h n rq st t : Nat} {S tx : Nat → Int32} {H : Nat → Nat → Int32}  (kh : μ.2.1 h = 5) (hs : oS μ h) (hp : oP P h) (hr : oR I P h S n rq st H t tx) (hinv : invN S n rq) : Ct l yX4_add wsX4_add rm_X4_add G μ I P [.ref (xZ G + h)] 0 0 (fun vv μ' I' P' => vv = some (.int (aAdd S tx t)) ∧ μ' = μ ∧ oP P' h ∧ (okAdd S tx t = true → oR I' P' h (sAdd S tx t) (n + (ncnt tx t + 1)) rq (xph st + 1) (pushH S st H) t tx) ∧ (okAdd S tx t = false → oR I' P' h S n rq st H t tx) ∧ (∀ c, c < h ∨ h + 254 ≤ c → I' c = I c ∧ P' c = P c)) := by
  obtain ⟨⟨u0, u1, u2, u3⟩, ⟨kx, ksg, lsg⟩, ⟨kb, hbS, hbP, hB⟩, ⟨kh2, lh2⟩, hist, ⟨hst, hst4⟩, ⟨ht, ht60⟩, htx⟩ := oF hs hp hr
  have hA := bA_of hbS hbP
  have hA0 := hA
  have hB0 := hB
  have hinv0 := hinv
  obtain ⟨⟨k0, l0⟩, ⟨k3, l3⟩, ⟨k6, l6⟩, hrw, hrt⟩ := hA
  have hrowf := fun {i : Nat} (hi : i < n) => bRow hB hinv hi
  obtain ⟨b1, b2, b4, b5, b7, b8, b9, b10, bst, brw, brt⟩ := hB
  obtain ⟨hn20, hn, hq6, hq, hcur, hdr, h8, h9, h10, hrows⟩ := hinv
  have b1n : I (P h 1) 1 = nI n := b1.trans hn
  have b4q : I (P h 1) 4 = nI rq := b4.trans hq
  have hro : ∀ r : Int32, (if r < 0 then (0 : Int32) else if I (P h 1) 1 ≤ r then 0 else 1) = isR r (S 0) := fun r => by rw [b1]; rfl
  have hrq : ∀ r : Int32, (if r < 0 then (0 : Int32) else if I (P h 1) 4 ≤ r then 0 else 1) = isR r (S 2) := fun r => by rw [b4]; rfl
  have hcn : cN S = n := by rw [cN, hn, nI_clamp (by omega)]
  have hnct := ncnt_le tx t
  refine Ct.of (cc := cX4_add) (maxL := 5) (ret := (some .int)) [some (.ref (xZ G + h)), none, none, none, none] (by decide) rfl rfl rfl (Nat.le_of_ble_eq_true rfl) ?_
  intro X hC hD h0 _
  have loop : ∀ (q k : Nat), k + q = (ncnt tx t + 1) → ∀ (Q : xP) (J : xI) (f : Nat) (S' : Nat → Int32) (z : Option Value), oP Q h → oR J Q h S' (n + k) rq (xph st + 1) (pushH S st H) t tx → adI S tx t n k f S' → invN S' (n + k) rq → (aaA S tx t).1 = 0 → (∀ c, c < h ∨ h + 254 ≤ c → J c = I c ∧ Q c = P c) → xg X G (0, 0) μ J Q [some (.ref (xZ G + h)), some (.int (nI (ncnt tx t + 1))), some (.int (nI f)), some (.int (nI k)), z] 36 [] := by
    intro q
    induction q with
    | zero =>
      intro k hk Q J f S' z hpQ hO hA hiN ha0 hF
      have ek : k = ncnt tx t + 1 := by omega
      subst ek
      refine r_iload_n (pc := 36) hC dX4_add_36 rfl ?_
      refine r_iload_n (pc := 37) hC dX4_add_37 rfl ?_
      refine r_icmp_ge (pc := 38) (tgt := 76) hC dX4_add_38 (by decide) (fun bq38 => ?_) (fun bq38 => ?_)
      · skip
        refine r_iload_n (pc := 76) hC dX4_add_76 rfl ?_
        refine r_iret (pc := 77) hC hD rfl dX4_add_77 rfl ?_
        have hok : okAdd S tx t = true := decide_eq_true ha0
        obtain ⟨g1, g2⟩ := adI_end hA
        exact ⟨by rw [aAdd, if_pos hok, g2], rfl, hpQ, fun _ => by rw [sAdd, if_pos hok, g1]; exact hO, fun e => absurd (hok.symm.trans e) (by decide), hF⟩
      · skip
        exact absurd (nI_le (by omega) (by omega)) bq38
    | succ q ih =>
      intro k hk Q J f S' z hpQ hO hA hiN ha0 hF
      obtain ⟨⟨w0, w1, w2, w3⟩, ⟨kx_, ksg_, lsg_⟩, ⟨kb_, hbS_, hbP_, hBJ⟩, -, -, -, ⟨htJ, -⟩, htxJ⟩ := oF hs hpQ hO
      obtain ⟨e1, e2, e3, e4, e5, hAd, hIn⟩ := adI_at hA (by omega) ha0 hiN
      have hxo : Q (Q h 0) 0 < Q h 1 ∨ Q h 1 + 50 ≤ Q (Q h 0) 0 := by omega
      refine r_iload_n (pc := 36) hC dX4_add_36 rfl ?_
      refine r_iload_n (pc := 37) hC dX4_add_37 rfl ?_
      refine r_icmp_ge (pc := 38) (tgt := 76) hC dX4_add_38 (by decide) (fun bq38 => ?_) (fun bq38 => ?_)
      · skip
        exact absurd bq38 (nI_ge (by omega) (by omega))
      · skip
        refine r_aload_n (pc := 41) hC dX4_add_41 rfl ?_
        refine g_HB_text (pc := 42) hC wi_X4_add_4 wl_X4_add_10 kh (c2 := 4) kx_ (by decide) dX4_add_42 ?_
        refine r_iload_n (pc := 45) hC dX4_add_45 rfl ?_
        refine k_X3_endOfName (pc := 46) hC gX4_add_X3_endOfName ⟨Nat.le_of_ble_eq_true rfl, Nat.le_of_ble_eq_true rfl⟩ kx_ ksg_ lsg_ htJ ht60 e1 (Nat.le_of_ble_eq_true rfl) rfl ⟨Nat.zero_le _, Nat.zero_le _⟩ dX4_add_46 ?_
        rw [htxJ]
        refine r_istore (pc := 49) (L' := [_, _, _, _, _]) hC dX4_add_49 rfl (Nat.le_of_ble_eq_true rfl) rfl ?_
        refine r_aload_n (pc := 51) hC dX4_add_51 rfl ?_
        refine g_HB_now (pc := 52) hC wi_X4_add_4 wl_X4_add_19 kh (c2 := 1) kb_ (by decide) dX4_add_52 ?_
        refine r_aload_n (pc := 55) hC dX4_add_55 rfl ?_
        refine g_HB_text (pc := 56) hC wi_X4_add_4 wl_X4_add_10 kh (c2 := 4) kx_ (by decide) dX4_add_56 ?_
        refine r_iload_n (pc := 59) hC dX4_add_59 rfl ?_
        refine r_iload (pc := 60) hC dX4_add_60 rfl ?_
        refine k_X0_append (pc := 62) hC gX4_add_X0_append ⟨Nat.le_of_ble_eq_true rfl, Nat.le_of_ble_eq_true rfl⟩ kb_ hbS_ hbP_ hBJ hiN e5 kx_ ksg_ lsg_ htJ ht60 e3 e2 e4 hxo (Nat.le_of_ble_eq_true rfl) rfl ⟨Nat.zero_le _, Nat.zero_le _⟩ dX4_add_62 ?_
        intro J62 rR62 rF62
        rw [htxJ] at rR62
        refine r_iload (pc := 65) hC dX4_add_65 rfl ?_
        refine r_iconst (pc := 67) (v := 1) hC dX4_add_67 (by decide) ?_
        refine r_iadd (pc := 68) hC dX4_add_68 ?_
        refine r_istore_n (pc := 69) (L' := [_, _, _, _, _]) hC dX4_add_69 rfl (Nat.le_of_ble_eq_true rfl) rfl ?_
        refine r_iinc (pc := 70) (v := 1) (L' := [_, _, _, _, _]) hC dX4_add_70 rfl (by decide) rfl rfl ?_
        refine r_goto (pc := 73) (tgt := 36) hC dX4_add_73 (by decide) ?_
        obtain ⟨-, g2⟩ := oR_now (J := J62) (Q := Q) hpQ hO (by rw [← w2]; exact hbP_) (by rw [← w2]; exact rR62) (fun c hc => rF62 c (by omega)) (fun c _ => rfl)
        rw [nI_1, nI_1]; exact ih (k + 1) (by omega) Q J62 _ _ _ hpQ g2 hAd hIn ha0 (fun c hc => ⟨by rw [rF62 c (by omega)]; exact (hF c hc).1, (hF c hc).2⟩)
  refine r_aload_n (pc := 0) hC dX4_add_0 rfl ?_
  refine k_X4_faultPlace (pc := 1) hC gX4_add_X4_faultPlace ⟨Nat.le_of_ble_eq_true rfl, Nat.le_of_ble_eq_true rfl⟩ kh hs hp hr hinv0 (Nat.le_of_ble_eq_true rfl) rfl ⟨Nat.zero_le _, Nat.zero_le _⟩ dX4_add_1 ?_
  refine r_iconst (pc := 4) (v := -1) hC dX4_add_4 (by decide) ?_
  refine r_icmp_eq (pc := 5) (tgt := 11) hC dX4_add_5 (by decide) (fun bq5 => ?_) (fun bq5 => ?_)
  · skip
    have ha0 : (aaA S tx t).1 = 0 := by
      rcases fpO_cases (tx := tx) ht60 hcn hn20 with w | ⟨-, f, hf, -, w, -⟩
      · exact w.1
      · rw [w] at bq5
        exact absurd bq5 (fun e => nI_pos (n := f) (by omega) (by rw [e]; decide))
    refine r_aload_n (pc := 11) hC dX4_add_11 rfl ?_
    refine k_X4_remember (pc := 12) hC gX4_add_X4_remember ⟨Nat.le_of_ble_eq_true rfl, Nat.le_of_ble_eq_true rfl⟩ kh hs hp hr hinv0 (Nat.le_of_ble_eq_true rfl) rfl ⟨Nat.zero_le _, Nat.zero_le _⟩ dX4_add_12 ?_
    intro J12 Q12 rP12 rR12 rF12
    obtain ⟨⟨w0, w1, w2, w3⟩, ⟨kx_, ksg_, lsg_⟩, ⟨kb_, hbS_, hbP_, hB_⟩, -, -, -, ⟨ht_, -⟩, htx_⟩ := oF hs rP12 rR12
    have hA_ := bA_of hbS_ hbP_
    have hA0_ := hA_
    have hB0_ := hB_
    obtain ⟨⟨k0_, l0_⟩, ⟨k3_, l3_⟩, ⟨k6_, l6_⟩, hrw_, hrt_⟩ := hA_
    have hrowf_ := fun {i : Nat} (hi : i < n) => bRow hB_ hinv0 hi
    obtain ⟨b1_, b2_, b4_, b5_, b7_, b8_, b9_, b10_, bst_, brw_, brt_⟩ := hB_
    have b1n_ : J12 (Q12 h 1) 1 = nI n := b1_.trans hn
    have b4q_ : J12 (Q12 h 1) 4 = nI rq := b4_.trans hq
    refine r_aload_n (pc := 15) hC dX4_add_15 rfl ?_
    refine g_HB_text (pc := 16) hC wi_X4_add_4 wl_X4_add_10 kh (c2 := 4) kx_ (by decide) dX4_add_16 ?_
    refine r_aload_n (pc := 19) hC dX4_add_19 rfl ?_
    refine g_HB_text (pc := 20) hC wi_X4_add_4 wl_X4_add_10 kh (c2 := 4) kx_ (by decide) dX4_add_20 ?_
    refine g_Text_length (pc := 23) hC wi_X4_add_3 wl_X4_add_39 kx_ dX4_add_23 ?_
    rw [ht_]
    refine k_X3_namesAhead (pc := 26) hC gX4_add_X3_namesAhead ⟨Nat.le_of_ble_eq_true rfl, Nat.le_of_ble_eq_true rfl⟩ kx_ ksg_ lsg_ ht_ ht60 (Nat.le_refl t) (Nat.le_of_ble_eq_true rfl) rfl ⟨Nat.zero_le _, Nat.zero_le _⟩ dX4_add_26 ?_
    rw [htx_]
    refine r_iconst (pc := 29) (v := 1) hC dX4_add_29 (by decide) ?_
    refine r_iadd (pc := 30) hC dX4_add_30 ?_
    rw [nI_1]
    refine r_istore_n (pc := 31) (L' := [_, _, _, _, _]) hC dX4_add_31 rfl (Nat.le_of_ble_eq_true rfl) rfl ?_
    refine r_iconst (pc := 32) (v := 0) hC dX4_add_32 (by decide) ?_
    refine r_istore_n (pc := 33) (L' := [_, _, _, _, _]) hC dX4_add_33 rfl (Nat.le_of_ble_eq_true rfl) rfl ?_
    refine r_iconst (pc := 34) (v := 0) hC dX4_add_34 (by decide) ?_
    refine r_istore_n (pc := 35) (L' := [_, _, _, _, _]) hC dX4_add_35 rfl (Nat.le_of_ble_eq_true rfl) rfl ?_
    exact loop (ncnt tx t + 1) 0 (by omega) Q12 J12 0 S none rP12 rR12 (adI_0 hcn hn20) hinv0 ha0 rF12
  · skip
    refine r_ldc (pc := 8) (v := -1000002) hC dX4_add_8 wl_X4_add_35 ?_
    refine r_iret (pc := 10) hC hD rfl dX4_add_10 rfl ?_
    have hok : okAdd S tx t = false := by exact decide_eq_false (fun w => bq5 (by rw [fpO, if_pos w]))
    exact ⟨by rw [aAdd, if_neg (by rw [hok]; decide)], rfl, hp, fun e => absurd (hok.symm.trans e) (by decide), fun _ => hr, fun c _ => ⟨rfl, rfl⟩⟩
theorem k_X4_add {X : xF} {G : xG} {cs : Nat × Nat} {μ : xM} {I : xI} {P : xP} {L : List (Option Value)} {pc : Nat} {rest : List Value} {cc : ByteArray} {Ts : List Cond} {own : String} {nL : Nat} {R : Room} (hC : xC X G cc Ts own nL R) {index : Nat} (hG : GoodIn Ts (wsV own index RX4 yX4_add wsX4_add)) (hR : rm_X4_add.frames + 1 ≤ R.frames ∧ 8 + (5 + 11) + rm_X4_add.locals ≤ R.locals) {h n rq st t : Nat} {S tx : Nat → Int32} {H : Nat → Nat → Int32}  (kh : μ.2.1 h = 5) (hs : oS μ h) (hp : oP P h) (hr : oR I P h S n rq st H t tx) (hinv : invN S n rq) (hW : (rest.map fun v => v.category).sum ≤ 8) (hL : L.length = nL) (hcs : cs.1 ≤ R.cells ∧ cs.2 ≤ R.slots) (hdec : decode cc pc = .ok (.invokevirtual index, 3)) (kk : ∀ (I' : xI) (P' : xP), oP P' h → (okAdd S tx t = true → oR I' P' h (sAdd S tx t) (n + (ncnt tx t + 1)) rq (xph st + 1) (pushH S st H) t tx) → (okAdd S tx t = false → oR I' P' h S n rq st H t tx) → (∀ c, c < h ∨ h + 254 ≤ c → I' c = I c ∧ P' c = P c) → xg X G cs μ I' P' L (pc + 3) (.int (aAdd S tx t) :: rest)) : xg X G cs μ I P L pc (.ref (xZ G + h) :: rest) :=
  r_callV hC (c_X4_add X.2.1 kh hs hp hr hinv) hG rfl rfl rfl hd_X4_add hR (by rw [kh]; decide) (xe_HB kh) rfl rfl rfl hW hL hcs hdec (by rintro vv μ' I' P' ⟨rfl, rfl, h1, h2, h3, h4⟩; exact kk I' P' h1 h2 h3 h4)
