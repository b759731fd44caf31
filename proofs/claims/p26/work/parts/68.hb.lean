theorem ch_id {k : Nat} (h : k ≤ 126) : ((nI k).toUInt32 % 65536).toInt32 = nI k ∧ vp_nar .char (nI k) = nI k := by
  have key : ∀ k : Fin 127, ((nI k.1).toUInt32 % 65536).toInt32 = nI k.1 := by decide +kernel
  refine ⟨key ⟨k, by omega⟩, ?_⟩
  have e := (pk_charN (q := k) (by omega)).1
  unfold vp_nar
  rw [e]
theorem oR_undo {I J : xI} {P : xP} {h n q st t n' q' : Nat} {S tx : Nat → Int32} {H : Nat → Nat → Int32} (hp : oP P h) (hr : oR I P h S n q st H t tx) (h1 : 1 ≤ st) (hi : invN (H (st - 1)) n' q') (hbR : bR J P (h + 3) (H (st - 1)) n' q') (hJ : ∀ c, c < h + 3 ∨ h + 3 + 50 ≤ c → J c = xu I h 3 (nI (st - 1)) c) : oR J P h (H (st - 1)) n' q' (st - 1) H t tx ∧ ∀ c, c < h ∨ h + 254 ≤ c → J c = I c := by
  obtain ⟨p0, p1, p2, p3, p4, p5, p, hpp, hinj⟩ := hp
  obtain ⟨r1, r2, r3, r4, r5⟩ := hr
  have hX : ∀ c, c ≠ h → (c < h + 3 ∨ h + 3 + 50 ≤ c) → J c = I c := fun c hc h2 => by rw [hJ c h2, xu_row hc]
  refine ⟨⟨hbR, ⟨by rw [hJ h (by omega), xu_at], by omega⟩, fun k hk => ?_, by rw [hX _ (by omega) (by omega)]; exact r4, by rw [hX _ (by omega) (by omega)]; exact r5⟩, fun c hc => hX c (by omega) (by omega)⟩
  obtain ⟨n1, q1, h3, h4⟩ := r3 k (by omega)
  obtain ⟨g1, g2⟩ := hpp k (by omega)
  refine ⟨n1, q1, h3, ?_⟩
  rw [g2] at h4 ⊢
  exact bR_cong (p5 _ g1) h3.1 h3.2.2.1 h4 (fun c k1 k2 => hX c (by omega) (by omega)) (fun c _ _ => rfl)
theorem oR_txt {I J : xI} {P : xP} {h n q st t t' : Nat} {S tx tx' : Nat → Int32} {H : Nat → Nat → Int32} (hp : oP P h) (hr : oR I P h S n q st H t tx) (hJ : ∀ c, c ≠ h + 1 → c ≠ h + 2 → J c = I c) (h1 : J (h + 1) 1 = nI t') (h2 : t' ≤ 60) (h3 : J (h + 2) = tx') (hn : n ≤ 20 := by assumption) (hq : q ≤ 6 := by assumption) : oR J P h S n q st H t' tx' := by
  obtain ⟨p0, p1, p2, p3, p4, p5, p, hpp, hinj⟩ := hp
  obtain ⟨r1, r2, r3, r4, r5⟩ := hr
  refine ⟨bR_cong p4 hn hq r1 (fun c k1 k2 => hJ c (by omega) (by omega)) (fun c _ _ => rfl), by rw [hJ h (by omega) (by omega)]; exact r2, fun k hk => ?_, ⟨h1, h2⟩, h3⟩
  obtain ⟨n1, q1, h5, h4⟩ := r3 k hk
  obtain ⟨g1, g2⟩ := hpp k (by omega)
  refine ⟨n1, q1, h5, ?_⟩
  rw [g2] at h4 ⊢
  exact bR_cong (p5 _ g1) h5.1 h5.2.2.1 h4 (fun c k1 k2 => hJ c (by omega) (by omega)) (fun c _ _ => rfl)
abbrev rm_X4_type : Room := { frames := 1, cells := 0, slots := 0, locals := 21 }
theorem wl_X4_type_57 : Cond.constant RX4 57 (-1000001) ∈ wsX4_type := List.mem_of_getElem? (i := 1) (by decide +kernel)
theorem wl_X4_type_10 : Cond.fieldLink RX4 10 "HandBlinds" "text" "LHandBlinds$Text;" ∈ wsX4_type := List.mem_of_getElem? (i := 2) (by decide +kernel)
theorem wi_X4_type_4 : ∀ w ∈ wsX40, w ∈ wsX4_type := fun _ h => List.mem_cons_of_mem _ (List.mem_append_left _ (List.mem_append_right _ h))
theorem wl_X4_type_39 : Cond.fieldLink RX4 39 "HandBlinds$Text" "length" "I" ∈ wsX4_type := List.mem_of_getElem? (i := 3) (by decide +kernel)
theorem wi_X4_type_3 : ∀ w ∈ wsX30, w ∈ wsX4_type := fun _ h => List.mem_cons_of_mem _ (List.mem_append_right _ h)
theorem wl_X4_type_98 : Cond.constant RX4 98 (-1000003) ∈ wsX4_type := List.mem_of_getElem? (i := 4) (by decide +kernel)
theorem hd_X4_type : yX4_type.cls = RX4 ∧ yX4_type.cls ≠ "java/lang/invoke/MethodHandle" ∧ yX4_type.cls ≠ "java/lang/invoke/VarHandle" ∧ (parseMethodDescriptor yX4_type.desc).map (fun d => d.parameters.length) = some 1 := ⟨rfl, by decide +kernel, by decide +kernel, by decide +kernel⟩
set_option maxHeartbeats 4000000 in
set_option maxRecDepth 100000 in
theorem c_X4_type (l : Launch) {G : xG} {μ : xM} {I : xI} {P : xP} {h n rq st t : Nat} {S tx : Nat → Int32} {H : Nat → Nat → Int32} {c : Int32} (kh : μ.2.1 h = 5) (hs : oS μ h) (hp : oP P h) (hr : oR I P h S n rq st H t tx) (hinv : invN S n rq) : Ct l yX4_type wsX4_type rm_X4_type G μ I P [.ref (xZ G + h), .int c] 0 0 (fun vv μ' I' P' => vv = some (.int (aType (nI t) c)) ∧ μ' = μ ∧ P' = P ∧ ((okType (nI t) c = true → oR I' P h S n rq st H (t + 1) (upd tx t c)) ∧ (okType (nI t) c = false → oR I' P h S n rq st H t tx)) ∧ (∀ c, c < h ∨ h + 254 ≤ c → I' c = I c)) := by
  obtain ⟨⟨u0, u1, u2, u3⟩, ⟨kx, ksg, lsg⟩, ⟨kb, hbS, hbP, hB⟩, ⟨kh2, lh2⟩, hist, ⟨hst, hst4⟩, ⟨ht, ht60⟩, htx⟩ := oF hs hp hr
  have hA := bA_of hbS hbP
  have hA0 := hA
  have hB0 := hB
  have hinv0 := hinv
  obtain ⟨⟨k0, l0⟩, ⟨k3, l3⟩, ⟨k6, l6⟩, hrw, hrt⟩ := hA
  have hrowf := fun {i : Nat} (hi : i < n) => bRow hB hinv hi
  obtain ⟨b1, b2, b4, b5, b7, b8, b9, b10, bst, brw, brt⟩ := hB
  obtain ⟨hn20, hn, hq6, hq, hcur, hdr, h8, h9, h10, hrows⟩ := hinv
  have b1n : I (P h 1) 1 = nI n := b1.trans hn
  have b4q : I (P h 1) 4 = nI rq := b4.trans hq
  have hro : ∀ r : Int32, (if r < 0 then (0 : Int32) else if I (P h 1) 1 ≤ r then 0 else 1) = isR r (S 0) := fun r => by rw [b1]; rfl
  have hrq : ∀ r : Int32, (if r < 0 then (0 : Int32) else if I (P h 1) 4 ≤ r then 0 else 1) = isR r (S 2) := fun r => by rw [b4]; rfl
  refine Ct.of (cc := cX4_type) (maxL := 2) (ret := (some .int)) [some (.ref (xZ G + h)), some (.int c)] (by decide) rfl rfl rfl (Nat.le_of_ble_eq_true rfl) ?_
  intro X hC hD h0 _
  refine r_iload_n (pc := 0) hC dX4_type_0 rfl ?_
  refine r_bipush (pc := 1) (v := 32) hC dX4_type_1 (by decide) ?_
  refine r_icmp_lt (pc := 3) (tgt := 12) hC dX4_type_3 (by decide) (fun bq3 => ?_) (fun bq3 => ?_)
  · skip
    refine r_ldc (pc := 12) (v := -1000001) hC dX4_type_12 wl_X4_type_57 ?_
    refine r_iret (pc := 14) hC hD rfl dX4_type_14 rfl ?_
    have hi : inr c 32 126 = 0 := by rw [inr, if_pos bq3]
    have hok : okType (nI t) c = false := by rw [okType, if_pos hi]
    exact ⟨by rw [aType, if_pos hi], rfl, rfl, ⟨fun e => absurd (hok.symm.trans e) (by decide), fun _ => hr⟩, fun c _ => rfl⟩
  · skip
    refine r_iload_n (pc := 6) hC dX4_type_6 rfl ?_
    refine r_bipush (pc := 7) (v := 126) hC dX4_type_7 (by decide) ?_
    refine r_icmp_le (pc := 9) (tgt := 15) hC dX4_type_9 (by decide) (fun bq9 => ?_) (fun bq9 => ?_)
    · skip
      refine r_aload_n (pc := 15) hC dX4_type_15 rfl ?_
      refine g_HB_text (pc := 16) hC wi_X4_type_4 wl_X4_type_10 (by assumption) (c2 := 4) (by assumption) (by decide) dX4_type_16 ?_
      refine g_Text_length (pc := 19) hC wi_X4_type_3 wl_X4_type_39 (by assumption) dX4_type_19 ?_
      refine r_bipush (pc := 22) (v := 60) hC dX4_type_22 (by decide) ?_
      refine r_icmp_lt (pc := 24) (tgt := 30) hC dX4_type_24 (by decide) (fun bq24 => ?_) (fun bq24 => ?_)
      · skip
        have ht59 : t < 60 := (nI_ltI (b := 60) (by omega) (by decide)).mp (by rw [← ht]; exact bq24)
        have hin : ¬ inr c 32 126 = 0 := by rw [inr, if_neg bq3, if_neg (Int32.not_lt.mpr bq9)]; decide
        obtain ⟨k, hk1, hk2, rfl⟩ := nI_btw (lo := 32) (hi := 126) (Int32.not_lt.mp bq3) bq9 (by decide) (by decide)
        have hch := ch_id hk2
        refine r_aload_n (pc := 30) hC dX4_type_30 rfl ?_
        refine g_HB_text (pc := 31) hC wi_X4_type_4 wl_X4_type_10 (by assumption) (c2 := 4) (by assumption) (by decide) dX4_type_31 ?_
        refine r_iload_n (pc := 34) hC dX4_type_34 rfl ?_
        refine r_i2c (pc := 35) hC dX4_type_35 ?_
        rw [hch.1]
        refine k_X3_append (pc := 36) hC gX4_type_X3_append ⟨Nat.le_of_ble_eq_true rfl, Nat.le_of_ble_eq_true rfl⟩ kx ksg lsg ht ht60 ht59 hch.2 (Nat.le_of_ble_eq_true rfl) rfl ⟨Nat.zero_le _, Nat.zero_le _⟩ dX4_type_36 ?_
        refine r_aload_n (pc := 39) hC dX4_type_39 rfl ?_
        refine g_HB_text (pc := 40) hC wi_X4_type_4 wl_X4_type_10 (by assumption) (c2 := 4) (by assumption) (by decide) dX4_type_40 ?_
        refine g_Text_length (pc := 43) hC wi_X4_type_3 wl_X4_type_39 (by assumption) dX4_type_43 ?_
        rw [xu_at]
        refine r_iret (pc := 46) hC hD rfl dX4_type_46 rfl ?_
        have h6 : ¬ nI t = 60 := fun e => by have := (nI_eq (a := t) (b := 60) (by omega) (by decide)).mp e; omega
        have hok : okType (nI t) (nI k) = true := by rw [okType, if_neg hin, if_neg h6]
        have g := oR_txt (J := (xu (xu I (P (P h 0) 0) t (nI k)) (P h 0) 1 (nI (t + 1)))) (t' := t + 1) (tx' := upd tx t (nI k)) hp hr (fun z h1 h2 => by rw [xu_row (by omega), xu_row (by omega)]) (by rw [← u0, xu_at]) (by omega) (by rw [← u1, xu_row (by omega), xu_upd, htx])
        exact ⟨by rw [aType, if_neg hin, if_neg h6, nI_1], rfl, rfl, ⟨fun _ => g, fun e => absurd (hok.symm.trans e) (by decide)⟩, fun z hz => by rw [xu_row (by omega), xu_row (by omega)]⟩
      · skip
        refine r_ldc (pc := 27) (v := -1000003) hC dX4_type_27 wl_X4_type_98 ?_
        refine r_iret (pc := 29) hC hD rfl dX4_type_29 rfl ?_
        have hi : ¬ inr c 32 126 = 0 := by rw [inr, if_neg bq3, if_neg (Int32.not_lt.mpr bq9)]; decide
        have h6 : nI t = 60 := by
          have w : ¬ t < 60 := fun w => bq24 (by rw [ht]; exact nI_lt (b := 60) w (by decide))
          rw [show t = 60 by omega]; rfl
        have hok : okType (nI t) c = false := by rw [okType, if_neg hi, if_pos h6]
        exact ⟨by rw [aType, if_neg hi, if_pos h6], rfl, rfl, ⟨fun e => absurd (hok.symm.trans e) (by decide), fun _ => hr⟩, fun c _ => rfl⟩
    · skip
      refine r_ldc (pc := 12) (v := -1000001) hC dX4_type_12 wl_X4_type_57 ?_
      refine r_iret (pc := 14) hC hD rfl dX4_type_14 rfl ?_
      have hi : inr c 32 126 = 0 := by rw [inr, if_neg bq3, if_pos (Int32.not_le.mp bq9)]
      have hok : okType (nI t) c = false := by rw [okType, if_pos hi]
      exact ⟨by rw [aType, if_pos hi], rfl, rfl, ⟨fun e => absurd (hok.symm.trans e) (by decide), fun _ => hr⟩, fun c _ => rfl⟩
theorem k_X4_type {X : xF} {G : xG} {cs : Nat × Nat} {μ : xM} {I : xI} {P : xP} {L : List (Option Value)} {pc : Nat} {rest : List Value} {cc : ByteArray} {Ts : List Cond} {own : String} {nL : Nat} {R : Room} (hC : xC X G cc Ts own nL R) {index : Nat} (hG : GoodIn Ts (wsV own index RX4 yX4_type wsX4_type)) (hR : rm_X4_type.frames + 1 ≤ R.frames ∧ 8 + (2 + 11) + rm_X4_type.locals ≤ R.locals) {h n rq st t : Nat} {S tx : Nat → Int32} {H : Nat → Nat → Int32} {c : Int32} (kh : μ.2.1 h = 5) (hs : oS μ h) (hp : oP P h) (hr : oR I P h S n rq st H t tx) (hinv : invN S n rq) (hW : (rest.map fun v => v.category).sum ≤ 8) (hL : L.length = nL) (hcs : cs.1 ≤ R.cells ∧ cs.2 ≤ R.slots) (hdec : decode cc pc = .ok (.invokevirtual index, 3)) (kk : ∀ (I' : xI), ((okType (nI t) c = true → oR I' P h S n rq st H (t + 1) (upd tx t c)) ∧ (okType (nI t) c = false → oR I' P h S n rq st H t tx)) → (∀ c, c < h ∨ h + 254 ≤ c → I' c = I c) → xg X G cs μ I' P L (pc + 3) (.int (aType (nI t) c) :: rest)) : xg X G cs μ I P L pc (.int c :: .ref (xZ G + h) :: rest) :=
  r_callV hC (c_X4_type X.2.1 kh hs hp hr hinv) hG rfl rfl rfl hd_X4_type hR (by rw [kh]; decide) (xe_HB kh) rfl rfl rfl hW hL hcs hdec (by rintro vv μ' I' P' ⟨rfl, rfl, rfl, h2, h3⟩; exact kk I' h2 h3)
abbrev rm_X4_clearText : Room := { frames := 0, cells := 0, slots := 0, locals := 0 }
theorem wl_X4_clearText_10 : Cond.fieldLink RX4 10 "HandBlinds" "text" "LHandBlinds$Text;" ∈ wsX4_clearText := List.mem_of_getElem? (i := 1) (by decide +kernel)
theorem wi_X4_clearText_4 : ∀ w ∈ wsX40, w ∈ wsX4_clearText := fun _ h => List.mem_cons_of_mem _ (List.mem_append_left _ (List.mem_append_right _ h))
theorem wl_X4_clearText_39 : Cond.fieldLink RX4 39 "HandBlinds$Text" "length" "I" ∈ wsX4_clearText := List.mem_of_getElem? (i := 2) (by decide +kernel)
theorem wi_X4_clearText_3 : ∀ w ∈ wsX30, w ∈ wsX4_clearText := fun _ h => List.mem_cons_of_mem _ (List.mem_append_right _ h)
theorem hd_X4_clearText : yX4_clearText.cls = RX4 ∧ yX4_clearText.cls ≠ "java/lang/invoke/MethodHandle" ∧ yX4_clearText.cls ≠ "java/lang/invoke/VarHandle" ∧ (parseMethodDescriptor yX4_clearText.desc).map (fun d => d.parameters.length) = some 0 := ⟨rfl, by decide +kernel, by decide +kernel, by decide +kernel⟩
set_option maxHeartbeats 4000000 in
set_option maxRecDepth 100000 in
theorem c_X4_clearText (l : Launch) {G : xG} {μ : xM} {I : xI} {P : xP} {h n rq st t : Nat} {S tx : Nat → Int32} {H : Nat → Nat → Int32} (kh : μ.2.1 h = 5) (hs : oS μ h) (hp : oP P h) (hr : oR I P h S n rq st H t tx) (hinv : invN S n rq) : Ct l yX4_clearText wsX4_clearText rm_X4_clearText G μ I P [.ref (xZ G + h)] 0 0 (fun vv μ' I' P' => vv = some (.int (nI t)) ∧ μ' = μ ∧ P' = P ∧ oR I' P h S n rq st H 0 tx ∧ (∀ c, c < h ∨ h + 254 ≤ c → I' c = I c)) := by
  obtain ⟨⟨u0, u1, u2, u3⟩, ⟨kx, ksg, lsg⟩, ⟨kb, hbS, hbP, hB⟩, ⟨kh2, lh2⟩, hist, ⟨hst, hst4⟩, ⟨ht, ht60⟩, htx⟩ := oF hs hp hr
  have hA := bA_of hbS hbP
  have hA0 := hA
  have hB0 := hB
  have hinv0 := hinv
  obtain ⟨⟨k0, l0⟩, ⟨k3, l3⟩, ⟨k6, l6⟩, hrw, hrt⟩ := hA
  have hrowf := fun {i : Nat} (hi : i < n) => bRow hB hinv hi
  obtain ⟨b1, b2, b4, b5, b7, b8, b9, b10, bst, brw, brt⟩ := hB
  obtain ⟨hn20, hn, hq6, hq, hcur, hdr, h8, h9, h10, hrows⟩ := hinv
  have b1n : I (P h 1) 1 = nI n := b1.trans hn
  have b4q : I (P h 1) 4 = nI rq := b4.trans hq
  have hro : ∀ r : Int32, (if r < 0 then (0 : Int32) else if I (P h 1) 1 ≤ r then 0 else 1) = isR r (S 0) := fun r => by rw [b1]; rfl
  have hrq : ∀ r : Int32, (if r < 0 then (0 : Int32) else if I (P h 1) 4 ≤ r then 0 else 1) = isR r (S 2) := fun r => by rw [b4]; rfl
  refine Ct.of (cc := cX4_clearText) (maxL := 2) (ret := (some .int)) [some (.ref (xZ G + h)), none] (by decide) rfl rfl rfl (Nat.le_of_ble_eq_true rfl) ?_
  intro X hC hD h0 _
  refine r_aload_n (pc := 0) hC dX4_clearText_0 rfl ?_
  refine g_HB_text (pc := 1) hC wi_X4_clearText_4 wl_X4_clearText_10 (by assumption) (c2 := 4) (by assumption) (by decide) dX4_clearText_1 ?_
  refine g_Text_length (pc := 4) hC wi_X4_clearText_3 wl_X4_clearText_39 (by assumption) dX4_clearText_4 ?_
  rw [ht]
  refine r_istore_n (pc := 7) (L' := [_, _]) hC dX4_clearText_7 rfl (Nat.le_of_ble_eq_true rfl) rfl ?_
  refine r_aload_n (pc := 8) hC dX4_clearText_8 rfl ?_
  refine g_HB_text (pc := 9) hC wi_X4_clearText_4 wl_X4_clearText_10 (by assumption) (c2 := 4) (by assumption) (by decide) dX4_clearText_9 ?_
  refine r_iconst (pc := 12) (v := 0) hC dX4_clearText_12 (by decide) ?_
  refine p_Text_length (pc := 13) hC wi_X4_clearText_3 wl_X4_clearText_39 (by assumption) dX4_clearText_13 ?_
  refine r_iload_n (pc := 16) hC dX4_clearText_16 rfl ?_
  refine r_iret (pc := 17) hC hD rfl dX4_clearText_17 rfl ?_
  exact ⟨rfl, rfl, rfl, oR_txt (t' := 0) (tx' := tx) hp hr (fun z h1 h2 => xu_row (by omega)) (by rw [← u0, xu_at]; rfl) (by omega) (by rw [← u1, xu_row (by omega)]; exact htx), fun z hz => xu_row (by omega)⟩
theorem k_X4_clearText {X : xF} {G : xG} {cs : Nat × Nat} {μ : xM} {I : xI} {P : xP} {L : List (Option Value)} {pc : Nat} {rest : List Value} {cc : ByteArray} {Ts : List Cond} {own : String} {nL : Nat} {R : Room} (hC : xC X G cc Ts own nL R) {index : Nat} (hG : GoodIn Ts (wsV own index RX4 yX4_clearText wsX4_clearText)) (hR : rm_X4_clearText.frames + 1 ≤ R.frames ∧ 8 + (2 + 11) + rm_X4_clearText.locals ≤ R.locals) {h n rq st t : Nat} {S tx : Nat → Int32} {H : Nat → Nat → Int32} (kh : μ.2.1 h = 5) (hs : oS μ h) (hp : oP P h) (hr : oR I P h S n rq st H t tx) (hinv : invN S n rq) (hW : (rest.map fun v => v.category).sum ≤ 8) (hL : L.length = nL) (hcs : cs.1 ≤ R.cells ∧ cs.2 ≤ R.slots) (hdec : decode cc pc = .ok (.invokevirtual index, 3)) (kk : ∀ (I' : xI), oR I' P h S n rq st H 0 tx → (∀ c, c < h ∨ h + 254 ≤ c → I' c = I c) → xg X G cs μ I' P L (pc + 3) (.int (nI t) :: rest)) : xg X G cs μ I P L pc (.ref (xZ G + h) :: rest) :=
  r_callV hC (c_X4_clearText X.2.1 kh hs hp hr hinv) hG rfl rfl rfl hd_X4_clearText hR (by rw [kh]; decide) (xe_HB kh) rfl rfl rfl hW hL hcs hdec (by rintro vv μ' I' P' ⟨rfl, rfl, rfl, h2, h3⟩; exact kk I' h2 h3)
