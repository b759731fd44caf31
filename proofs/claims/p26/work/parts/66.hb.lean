theorem cutS_0 {S : Nat → Int32} {k n q : Nat} : cutS S k n q 0 = nI (n - 1) := by
  unfold cutS
  rw [if_neg (by decide), if_neg (by rw [rouB_m (Or.inl (by omega))]; decide), if_neg (by rw [rngB_f (Or.inl (by omega))]; decide), if_pos rfl]
theorem cut_end {S : Nat → Int32} {c n q : Nat} (hinv : invN S n q) (hc : c < n) (h : nI (n - 1) = 0) : cutS S c n q 1 = -1 := by
  obtain ⟨hn20, hn, hq6, hq, hcur, -⟩ := hinv
  have h1 : n = 1 := by have := (nI_eq (a := n - 1) (b := 0) (by omega) (by decide)).mp h; omega
  obtain ⟨a, ha, hs⟩ := hcur.resolve_left (fun w => by omega)
  have ha0 : a = 0 := by omega
  unfold cutS cutZ
  rw [if_pos rfl, hs, ha0, h1, show c = 0 by omega]
  decide
theorem cut_sh {S : Nat → Int32} {c n q : Nat} (hinv : invN S n q) (hc : c < n) (h : ¬ nI (n - 1) = 0) : (if cutS S c n q 1 < 0 then 0 else cutS S c n q 1) = cutS S c n q 1 := by
  obtain ⟨hn20, hn, hq6, hq, hcur, -⟩ := hinv
  obtain ⟨a, ha, hs⟩ := hcur.resolve_left (fun w => by omega)
  refine if_neg ?_
  unfold cutS cutZ
  rw [if_pos rfl, hs]
  have hn1 : n - 1 ≠ 0 := fun e => h (by rw [e]; rfl)
  by_cases h1 : nI c < nI a
  · have := (nI_ltI (by omega) (by omega)).mp h1
    rw [if_pos h1, show nI a - 1 = nI (a - 1) from by rw [show a = (a - 1) + 1 by omega]; exact nI_pred _]
    exact nI_pos (by omega)
  · rw [if_neg h1]
    by_cases h2 : nI a = nI (n - 1)
    · have := (nI_eq (by omega) (by omega)).mp h2
      rw [if_pos h2, show nI a - 1 = nI (a - 1) from by rw [show a = (a - 1) + 1 by omega]; exact nI_pred _]
      exact nI_pos (by omega)
    · rw [if_neg h2, Int32.sub_zero]; exact nI_pos (by omega)
abbrev rm_X4_drive : Room := { frames := 4, cells := 0, slots := 0, locals := 91 }
theorem wl_X4_drive_19 : Cond.fieldLink RX4 19 "HandBlinds" "now" "LHandBlinds$Blind;" ∈ wsX4_drive := List.mem_of_getElem? (i := 1) (by decide +kernel)
theorem wi_X4_drive_4 : ∀ w ∈ wsX40, w ∈ wsX4_drive := fun _ h => List.mem_cons_of_mem _ (List.mem_append_left _ (List.mem_append_left _ (List.mem_append_left _ (List.mem_append_right _ h))))
theorem wl_X4_drive_105 : Cond.fieldLink RX4 105 "HandBlinds$Blind" "driven" "I" ∈ wsX4_drive := List.mem_of_getElem? (i := 3) (by decide +kernel)
theorem wi_X4_drive_0 : ∀ w ∈ wsX00, w ∈ wsX4_drive := fun _ h => List.mem_cons_of_mem _ (List.mem_append_left _ (List.mem_append_left _ (List.mem_append_right _ h)))
theorem wl_X4_drive_57 : Cond.constant RX4 57 (-1000001) ∈ wsX4_drive := List.mem_of_getElem? (i := 2) (by decide +kernel)
theorem hd_X4_drive : yX4_drive.cls = RX4 ∧ yX4_drive.cls ≠ "java/lang/invoke/MethodHandle" ∧ yX4_drive.cls ≠ "java/lang/invoke/VarHandle" ∧ (parseMethodDescriptor yX4_drive.desc).map (fun d => d.parameters.length) = some 1 := ⟨rfl, by decide +kernel, by decide +kernel, by decide +kernel⟩
set_option maxHeartbeats 4000000 in
set_option maxRecDepth 100000 in
theorem c_X4_drive (l : Launch) {G : xG} {μ : xM} {I : xI} {P : xP} {h n rq st t : Nat} {S tx : Nat → Int32} {H : Nat → Nat → Int32} {r : Int32} (kh : μ.2.1 h = 5) (hs : oS μ h) (hp : oP P h) (hr : oR I P h S n rq st H t tx) (hinv : invN S n rq) : Ct l yX4_drive wsX4_drive rm_X4_drive G μ I P [.ref (xZ G + h), .int r] 0 0 (fun vv μ' I' P' => vv = some (.int (aDrive S r)) ∧ μ' = μ ∧ oP P' h ∧ (okDrive S r = true → oR I' P' h (sDrive S r) n rq (xph st + 1) (pushH S st H) t tx) ∧ (okDrive S r = false → oR I' P' h S n rq st H t tx) ∧ (∀ c, c < h ∨ h + 254 ≤ c → I' c = I c ∧ P' c = P c)) := by
  obtain ⟨⟨u0, u1, u2, u3⟩, ⟨kx, ksg, lsg⟩, ⟨kb, hbS, hbP, hB⟩, ⟨kh2, lh2⟩, hist, ⟨hst, hst4⟩, ⟨ht, ht60⟩, htx⟩ := oF hs hp hr
  have hA := bA_of hbS hbP
  have hA0 := hA
  have hB0 := hB
  have hinv0 := hinv
  obtain ⟨⟨k0, l0⟩, ⟨k3, l3⟩, ⟨k6, l6⟩, hrw, hrt⟩ := hA
  have hrowf := fun {i : Nat} (hi : i < n) => bRow hB hinv hi
  obtain ⟨b1, b2, b4, b5, b7, b8, b9, b10, bst, brw, brt⟩ := hB
  obtain ⟨hn20, hn, hq6, hq, hcur, hdr, h8, h9, h10, hrows⟩ := hinv
  have b1n : I (P h 1) 1 = nI n := b1.trans hn
  have b4q : I (P h 1) 4 = nI rq := b4.trans hq
  have hro : ∀ r : Int32, (if r < 0 then (0 : Int32) else if I (P h 1) 1 ≤ r then 0 else 1) = isR r (S 0) := fun r => by rw [b1]; rfl
  have hrq : ∀ r : Int32, (if r < 0 then (0 : Int32) else if I (P h 1) 4 ≤ r then 0 else 1) = isR r (S 2) := fun r => by rw [b4]; rfl
  refine Ct.of (cc := cX4_drive) (maxL := 3) (ret := (some .int)) [some (.ref (xZ G + h)), some (.int r), none] (by decide) rfl rfl rfl (Nat.le_of_ble_eq_true rfl) ?_
  intro X hC hD h0 _
  refine r_iload_n (pc := 0) hC dX4_drive_0 rfl ?_
  refine r_iconst (pc := 1) (v := -1) hC dX4_drive_1 (by decide) ?_
  refine r_icmp_eq (pc := 2) (tgt := 19) hC dX4_drive_2 (by decide) (fun bq2 => ?_) (fun bq2 => ?_)
  · skip
    refine r_aload_n (pc := 19) hC dX4_drive_19 rfl ?_
    refine k_X4_remember (pc := 20) hC gX4_drive_X4_remember ⟨Nat.le_of_ble_eq_true rfl, Nat.le_of_ble_eq_true rfl⟩ kh hs hp hr hinv0 (Nat.le_of_ble_eq_true rfl) rfl ⟨Nat.zero_le _, Nat.zero_le _⟩ dX4_drive_20 ?_
    intro J20 Q20 rP20 rR20 rF20
    obtain ⟨⟨w0, w1, w2, w3⟩, ⟨kx_, ksg_, lsg_⟩, ⟨kb_, hbS_, hbP_, hB_⟩, -, -, -, ⟨ht_, -⟩, htx_⟩ := oF hs rP20 rR20
    have hA_ := bA_of hbS_ hbP_
    have hA0_ := hA_
    have hB0_ := hB_
    obtain ⟨⟨k0_, l0_⟩, ⟨k3_, l3_⟩, ⟨k6_, l6_⟩, hrw_, hrt_⟩ := hA_
    have hrowf_ := fun {i : Nat} (hi : i < n) => bRow hB_ hinv0 hi
    obtain ⟨b1_, b2_, b4_, b5_, b7_, b8_, b9_, b10_, bst_, brw_, brt_⟩ := hB_
    have b1n_ : J20 (Q20 h 1) 1 = nI n := b1_.trans hn
    have b4q_ : J20 (Q20 h 1) 4 = nI rq := b4_.trans hq
    refine r_aload_n (pc := 23) hC dX4_drive_23 rfl ?_
    refine g_HB_now (pc := 24) hC wi_X4_drive_4 wl_X4_drive_19 kh (c2 := 1) kb_ (by decide) dX4_drive_24 ?_
    refine g_Blind_driven (pc := 27) hC wi_X4_drive_0 wl_X4_drive_105 kb_ dX4_drive_27 ?_
    rw [b5_]
    refine r_istore_n (pc := 30) (L' := [_, _, _]) hC dX4_drive_30 rfl (Nat.le_of_ble_eq_true rfl) rfl ?_
    refine r_aload_n (pc := 31) hC dX4_drive_31 rfl ?_
    refine g_HB_now (pc := 32) hC wi_X4_drive_4 wl_X4_drive_19 kh (c2 := 1) kb_ (by decide) dX4_drive_32 ?_
    refine r_iload_n (pc := 35) hC dX4_drive_35 rfl ?_
    refine p_Blind_driven (pc := 36) hC wi_X4_drive_0 wl_X4_drive_105 kb_ dX4_drive_36 ?_
    refine r_iload_n (pc := 39) hC dX4_drive_39 rfl ?_
    refine r_iret (pc := 40) hC hD rfl dX4_drive_40 rfl ?_
    obtain ⟨d1, d2⟩ := drive_ok (r := r) hbP_ hB0_ hinv0
    have hok : okDrive S r = true := by rw [okDrive, if_pos bq2]
    have eS : sDrive S r = (upd S 3 r) := by rw [sDrive, if_pos hok]
    have gP : bP Q20 (h + 3) := by rw [← w2]; exact hbP_
    have gR : bR (xu J20 (Q20 h 1) 5 r) Q20 (h + 3) (upd S 3 r) n rq := by rw [← w2]; exact d1
    have gF : ∀ z, z < h + 3 ∨ h + 3 + 50 ≤ z → (xu J20 (Q20 h 1) 5 r) z = J20 z := fun z hz => d2 z (by omega)
    have gG : ∀ z, z < h + 3 ∨ h + 3 + 50 ≤ z → Q20 z = Q20 z := fun z _ => rfl
    obtain ⟨g1, g2⟩ := oR_now rP20 rR20 gP gR gF gG
    exact ⟨by rw [aDrive, if_pos hok], rfl, g1, fun _ => by rw [eS]; exact g2, fun e => absurd (hok.symm.trans e) (by decide), fun c hc => ⟨by rw [gF c (by omega)]; exact (rF20 c hc).1, by rw [gG c (by omega)]; exact (rF20 c hc).2⟩⟩
  · skip
    refine r_aload_n (pc := 5) hC dX4_drive_5 rfl ?_
    refine g_HB_now (pc := 6) hC wi_X4_drive_4 wl_X4_drive_19 (by assumption) (c2 := 1) (by assumption) (by decide) dX4_drive_6 ?_
    refine r_iload_n (pc := 9) hC dX4_drive_9 rfl ?_
    refine k_X0_hasRoute (pc := 10) hC gX4_drive_X0_hasRoute ⟨Nat.le_of_ble_eq_true rfl, Nat.le_of_ble_eq_true rfl⟩ (by assumption) (Nat.le_of_ble_eq_true rfl) rfl ⟨Nat.zero_le _, Nat.zero_le _⟩ dX4_drive_10 ?_
    rw [hrq]
    refine r_if_ne (pc := 13) (tgt := 19) hC dX4_drive_13 (by decide) (fun bq13 => ?_) (fun bq13 => ?_)
    · skip
      refine r_aload_n (pc := 19) hC dX4_drive_19 rfl ?_
      refine k_X4_remember (pc := 20) hC gX4_drive_X4_remember ⟨Nat.le_of_ble_eq_true rfl, Nat.le_of_ble_eq_true rfl⟩ kh hs hp hr hinv0 (Nat.le_of_ble_eq_true rfl) rfl ⟨Nat.zero_le _, Nat.zero_le _⟩ dX4_drive_20 ?_
      intro J20 Q20 rP20 rR20 rF20
      obtain ⟨⟨w0, w1, w2, w3⟩, ⟨kx_, ksg_, lsg_⟩, ⟨kb_, hbS_, hbP_, hB_⟩, -, -, -, ⟨ht_, -⟩, htx_⟩ := oF hs rP20 rR20
      have hA_ := bA_of hbS_ hbP_
      have hA0_ := hA_
      have hB0_ := hB_
      obtain ⟨⟨k0_, l0_⟩, ⟨k3_, l3_⟩, ⟨k6_, l6_⟩, hrw_, hrt_⟩ := hA_
      have hrowf_ := fun {i : Nat} (hi : i < n) => bRow hB_ hinv0 hi
      obtain ⟨b1_, b2_, b4_, b5_, b7_, b8_, b9_, b10_, bst_, brw_, brt_⟩ := hB_
      have b1n_ : J20 (Q20 h 1) 1 = nI n := b1_.trans hn
      have b4q_ : J20 (Q20 h 1) 4 = nI rq := b4_.trans hq
      refine r_aload_n (pc := 23) hC dX4_drive_23 rfl ?_
      refine g_HB_now (pc := 24) hC wi_X4_drive_4 wl_X4_drive_19 kh (c2 := 1) kb_ (by decide) dX4_drive_24 ?_
      refine g_Blind_driven (pc := 27) hC wi_X4_drive_0 wl_X4_drive_105 kb_ dX4_drive_27 ?_
      rw [b5_]
      refine r_istore_n (pc := 30) (L' := [_, _, _]) hC dX4_drive_30 rfl (Nat.le_of_ble_eq_true rfl) rfl ?_
      refine r_aload_n (pc := 31) hC dX4_drive_31 rfl ?_
      refine g_HB_now (pc := 32) hC wi_X4_drive_4 wl_X4_drive_19 kh (c2 := 1) kb_ (by decide) dX4_drive_32 ?_
      refine r_iload_n (pc := 35) hC dX4_drive_35 rfl ?_
      refine p_Blind_driven (pc := 36) hC wi_X4_drive_0 wl_X4_drive_105 kb_ dX4_drive_36 ?_
      refine r_iload_n (pc := 39) hC dX4_drive_39 rfl ?_
      refine r_iret (pc := 40) hC hD rfl dX4_drive_40 rfl ?_
      obtain ⟨d1, d2⟩ := drive_ok (r := r) hbP_ hB0_ hinv0
      have hok : okDrive S r = true := by rw [okDrive, if_neg bq2, if_neg bq13]
      have eS : sDrive S r = (upd S 3 r) := by rw [sDrive, if_pos hok]
      have gP : bP Q20 (h + 3) := by rw [← w2]; exact hbP_
      have gR : bR (xu J20 (Q20 h 1) 5 r) Q20 (h + 3) (upd S 3 r) n rq := by rw [← w2]; exact d1
      have gF : ∀ z, z < h + 3 ∨ h + 3 + 50 ≤ z → (xu J20 (Q20 h 1) 5 r) z = J20 z := fun z hz => d2 z (by omega)
      have gG : ∀ z, z < h + 3 ∨ h + 3 + 50 ≤ z → Q20 z = Q20 z := fun z _ => rfl
      obtain ⟨g1, g2⟩ := oR_now rP20 rR20 gP gR gF gG
      exact ⟨by rw [aDrive, if_pos hok], rfl, g1, fun _ => by rw [eS]; exact g2, fun e => absurd (hok.symm.trans e) (by decide), fun c hc => ⟨by rw [gF c (by omega)]; exact (rF20 c hc).1, by rw [gG c (by omega)]; exact (rF20 c hc).2⟩⟩
    · skip
      refine r_ldc (pc := 16) (v := -1000001) hC dX4_drive_16 wl_X4_drive_57 ?_
      refine r_iret (pc := 18) hC hD rfl dX4_drive_18 rfl ?_
      have hok : okDrive S r = false := by rw [okDrive, if_neg bq2, if_pos bq13]
      exact ⟨by rw [aDrive, if_neg (by rw [hok]; decide)], rfl, hp, fun e => absurd (hok.symm.trans e) (by decide), fun _ => hr, fun c _ => ⟨rfl, rfl⟩⟩
theorem k_X4_drive {X : xF} {G : xG} {cs : Nat × Nat} {μ : xM} {I : xI} {P : xP} {L : List (Option Value)} {pc : Nat} {rest : List Value} {cc : ByteArray} {Ts : List Cond} {own : String} {nL : Nat} {R : Room} (hC : xC X G cc Ts own nL R) {index : Nat} (hG : GoodIn Ts (wsV own index RX4 yX4_drive wsX4_drive)) (hR : rm_X4_drive.frames + 1 ≤ R.frames ∧ 8 + (3 + 11) + rm_X4_drive.locals ≤ R.locals) {h n rq st t : Nat} {S tx : Nat → Int32} {H : Nat → Nat → Int32} {r : Int32} (kh : μ.2.1 h = 5) (hs : oS μ h) (hp : oP P h) (hr : oR I P h S n rq st H t tx) (hinv : invN S n rq) (hW : (rest.map fun v => v.category).sum ≤ 8) (hL : L.length = nL) (hcs : cs.1 ≤ R.cells ∧ cs.2 ≤ R.slots) (hdec : decode cc pc = .ok (.invokevirtual index, 3)) (kk : ∀ (I' : xI) (P' : xP), oP P' h → (okDrive S r = true → oR I' P' h (sDrive S r) n rq (xph st + 1) (pushH S st H) t tx) → (okDrive S r = false → oR I' P' h S n rq st H t tx) → (∀ c, c < h ∨ h + 254 ≤ c → I' c = I c ∧ P' c = P c) → xg X G cs μ I' P' L (pc + 3) (.int (aDrive S r) :: rest)) : xg X G cs μ I P L pc (.int r :: .ref (xZ G + h) :: rest) :=
  r_callV hC (c_X4_drive X.2.1 kh hs hp hr hinv) hG rfl rfl rfl hd_X4_drive hR (by rw [kh]; decide) (xe_HB kh) rfl rfl rfl hW hL hcs hdec (by rintro vv μ' I' P' ⟨rfl, rfl, h1, h2, h3, h4⟩; exact kk I' P' h1 h2 h3 h4)
abbrev rm_X4_stop : Room := { frames := 8, cells := 0, slots := 0, locals := 171 }
theorem wl_X4_stop_19 : Cond.fieldLink RX4 19 "HandBlinds" "now" "LHandBlinds$Blind;" ∈ wsX4_stop := List.mem_of_getElem? (i := 1) (by decide +kernel)
theorem wi_X4_stop_4 : ∀ w ∈ wsX40, w ∈ wsX4_stop := fun _ h => List.mem_cons_of_mem _ (List.mem_append_left _ (List.mem_append_left _ (List.mem_append_left _ (List.mem_append_right _ h))))
theorem hd_X4_stop : yX4_stop.cls = RX4 ∧ yX4_stop.cls ≠ "java/lang/invoke/MethodHandle" ∧ yX4_stop.cls ≠ "java/lang/invoke/VarHandle" ∧ (parseMethodDescriptor yX4_stop.desc).map (fun d => d.parameters.length) = some 0 := ⟨rfl, by decide +kernel, by decide +kernel, by decide +kernel⟩
set_option maxHeartbeats 4000000 in
set_option maxRecDepth 100000 in
theorem c_X4_stop (l : Launch) {G : xG} {μ : xM} {I : xI} {P : xP} {h n rq st t : Nat} {S tx : Nat → Int32} {H : Nat → Nat → Int32}  (kh : μ.2.1 h = 5) (hs : oS μ h) (hp : oP P h) (hr : oR I P h S n rq st H t tx) (hinv : invN S n rq) : Ct l yX4_stop wsX4_stop rm_X4_stop G μ I P [.ref (xZ G + h)] 0 0 (fun vv μ' I' P' => vv = some (.int (aWrong S)) ∧ μ' = μ ∧ oP P' h ∧ (true = true → oR I' P' h (sStop S) n rq (xph st + 1) (pushH S st H) t tx) ∧ (true = false → oR I' P' h S n rq st H t tx) ∧ (∀ c, c < h ∨ h + 254 ≤ c → I' c = I c ∧ P' c = P c)) := by
  obtain ⟨⟨u0, u1, u2, u3⟩, ⟨kx, ksg, lsg⟩, ⟨kb, hbS, hbP, hB⟩, ⟨kh2, lh2⟩, hist, ⟨hst, hst4⟩, ⟨ht, ht60⟩, htx⟩ := oF hs hp hr
  have hA := bA_of hbS hbP
  have hA0 := hA
  have hB0 := hB
  have hinv0 := hinv
  obtain ⟨⟨k0, l0⟩, ⟨k3, l3⟩, ⟨k6, l6⟩, hrw, hrt⟩ := hA
  have hrowf := fun {i : Nat} (hi : i < n) => bRow hB hinv hi
  obtain ⟨b1, b2, b4, b5, b7, b8, b9, b10, bst, brw, brt⟩ := hB
  obtain ⟨hn20, hn, hq6, hq, hcur, hdr, h8, h9, h10, hrows⟩ := hinv
  have b1n : I (P h 1) 1 = nI n := b1.trans hn
  have b4q : I (P h 1) 4 = nI rq := b4.trans hq
  have hro : ∀ r : Int32, (if r < 0 then (0 : Int32) else if I (P h 1) 1 ≤ r then 0 else 1) = isR r (S 0) := fun r => by rw [b1]; rfl
  have hrq : ∀ r : Int32, (if r < 0 then (0 : Int32) else if I (P h 1) 4 ≤ r then 0 else 1) = isR r (S 2) := fun r => by rw [b4]; rfl
  refine Ct.of (cc := cX4_stop) (maxL := 1) (ret := (some .int)) [some (.ref (xZ G + h))] (by decide) rfl rfl rfl (Nat.le_of_ble_eq_true rfl) ?_
  intro X hC hD h0 _
  refine r_aload_n (pc := 0) hC dX4_stop_0 rfl ?_
  refine k_X4_remember (pc := 1) hC gX4_stop_X4_remember ⟨Nat.le_of_ble_eq_true rfl, Nat.le_of_ble_eq_true rfl⟩ kh hs hp hr hinv0 (Nat.le_of_ble_eq_true rfl) rfl ⟨Nat.zero_le _, Nat.zero_le _⟩ dX4_stop_1 ?_
  intro J1 Q1 rP1 rR1 rF1
  obtain ⟨⟨w0, w1, w2, w3⟩, ⟨kx_, ksg_, lsg_⟩, ⟨kb_, hbS_, hbP_, hB_⟩, -, -, -, ⟨ht_, -⟩, htx_⟩ := oF hs rP1 rR1
  have hA_ := bA_of hbS_ hbP_
  have hA0_ := hA_
  have hB0_ := hB_
  obtain ⟨⟨k0_, l0_⟩, ⟨k3_, l3_⟩, ⟨k6_, l6_⟩, hrw_, hrt_⟩ := hA_
  have hrowf_ := fun {i : Nat} (hi : i < n) => bRow hB_ hinv0 hi
  obtain ⟨b1_, b2_, b4_, b5_, b7_, b8_, b9_, b10_, bst_, brw_, brt_⟩ := hB_
  have b1n_ : J1 (Q1 h 1) 1 = nI n := b1_.trans hn
  have b4q_ : J1 (Q1 h 1) 4 = nI rq := b4_.trans hq
  refine r_aload_n (pc := 4) hC dX4_stop_4 rfl ?_
  refine g_HB_now (pc := 5) hC wi_X4_stop_4 wl_X4_stop_19 kh (c2 := 1) kb_ (by decide) dX4_stop_5 ?_
  refine k_X0_halt (pc := 8) hC gX4_stop_X0_halt ⟨Nat.le_of_ble_eq_true rfl, Nat.le_of_ble_eq_true rfl⟩ kb_ hbS_ hbP_ hB0_ hinv0 (Nat.le_of_ble_eq_true rfl) rfl ⟨Nat.zero_le _, Nat.zero_le _⟩ dX4_stop_8 ?_
  intro J8 rR8 rF8
  refine r_iret (pc := 11) hC hD rfl dX4_stop_11 rfl ?_
  have hok : true = true := by rfl
  have eS : sStop S = (sStop S) := by rfl
  have gP : bP Q1 (h + 3) := by rw [← w2]; exact hbP_
  have gR : bR (J8) Q1 (h + 3) (sStop S) n rq := by rw [← w2]; exact rR8
  have gF : ∀ z, z < h + 3 ∨ h + 3 + 50 ≤ z → (J8) z = J1 z := fun z hz => rF8 z (by omega)
  have gG : ∀ z, z < h + 3 ∨ h + 3 + 50 ≤ z → Q1 z = Q1 z := fun z _ => rfl
  obtain ⟨g1, g2⟩ := oR_now rP1 rR1 gP gR gF gG
  exact ⟨by rfl, rfl, g1, fun _ => by rw [eS]; exact g2, fun e => absurd (hok.symm.trans e) (by decide), fun c hc => ⟨by rw [gF c (by omega)]; exact (rF1 c hc).1, by rw [gG c (by omega)]; exact (rF1 c hc).2⟩⟩
theorem k_X4_stop {X : xF} {G : xG} {cs : Nat × Nat} {μ : xM} {I : xI} {P : xP} {L : List (Option Value)} {pc : Nat} {rest : List Value} {cc : ByteArray} {Ts : List Cond} {own : String} {nL : Nat} {R : Room} (hC : xC X G cc Ts own nL R) {index : Nat} (hG : GoodIn Ts (wsV own index RX4 yX4_stop wsX4_stop)) (hR : rm_X4_stop.frames + 1 ≤ R.frames ∧ 8 + (1 + 11) + rm_X4_stop.locals ≤ R.locals) {h n rq st t : Nat} {S tx : Nat → Int32} {H : Nat → Nat → Int32}  (kh : μ.2.1 h = 5) (hs : oS μ h) (hp : oP P h) (hr : oR I P h S n rq st H t tx) (hinv : invN S n rq) (hW : (rest.map fun v => v.category).sum ≤ 8) (hL : L.length = nL) (hcs : cs.1 ≤ R.cells ∧ cs.2 ≤ R.slots) (hdec : decode cc pc = .ok (.invokevirtual index, 3)) (kk : ∀ (I' : xI) (P' : xP), oP P' h → (true = true → oR I' P' h (sStop S) n rq (xph st + 1) (pushH S st H) t tx) → (true = false → oR I' P' h S n rq st H t tx) → (∀ c, c < h ∨ h + 254 ≤ c → I' c = I c ∧ P' c = P c) → xg X G cs μ I' P' L (pc + 3) (.int (aWrong S) :: rest)) : xg X G cs μ I P L pc (.ref (xZ G + h) :: rest) :=
  r_callV hC (c_X4_stop X.2.1 kh hs hp hr hinv) hG rfl rfl rfl hd_X4_stop hR (by rw [kh]; decide) (xe_HB kh) rfl rfl rfl hW hL hcs hdec (by rintro vv μ' I' P' ⟨rfl, rfl, h1, h2, h3, h4⟩; exact kk I' P' h1 h2 h3 h4)
abbrev rm_X4_crank : Room := { frames := 4, cells := 0, slots := 0, locals := 92 }
theorem wl_X4_crank_19 : Cond.fieldLink RX4 19 "HandBlinds" "now" "LHandBlinds$Blind;" ∈ wsX4_crank := List.mem_of_getElem? (i := 2) (by decide +kernel)
theorem wi_X4_crank_4 : ∀ w ∈ wsX40, w ∈ wsX4_crank := fun _ h => List.mem_cons_of_mem _ (List.mem_append_left _ (List.mem_append_left _ (List.mem_append_left _ (List.mem_append_right _ h))))
theorem wl_X4_crank_62 : Cond.fieldLink RX4 62 "HandBlinds$Blind" "rowCount" "I" ∈ wsX4_crank := List.mem_of_getElem? (i := 3) (by decide +kernel)
theorem wi_X4_crank_0 : ∀ w ∈ wsX00, w ∈ wsX4_crank := fun _ h => List.mem_cons_of_mem _ (List.mem_append_left _ (List.mem_append_left _ (List.mem_append_right _ h)))
theorem wl_X4_crank_65 : Cond.fieldLink RX4 65 "HandBlinds$Blind" "shown" "I" ∈ wsX4_crank := List.mem_of_getElem? (i := 5) (by decide +kernel)
theorem wl_X4_crank_35 : Cond.constant RX4 35 (-1000002) ∈ wsX4_crank := List.mem_of_getElem? (i := 4) (by decide +kernel)
theorem wl_X4_crank_57 : Cond.constant RX4 57 (-1000001) ∈ wsX4_crank := List.mem_of_getElem? (i := 1) (by decide +kernel)
theorem hd_X4_crank : yX4_crank.cls = RX4 ∧ yX4_crank.cls ≠ "java/lang/invoke/MethodHandle" ∧ yX4_crank.cls ≠ "java/lang/invoke/VarHandle" ∧ (parseMethodDescriptor yX4_crank.desc).map (fun d => d.parameters.length) = some 2 := ⟨rfl, by decide +kernel, by decide +kernel, by decide +kernel⟩
set_option maxHeartbeats 4000000 in
set_option maxRecDepth 100000 in
theorem c_X4_crank (l : Launch) {G : xG} {μ : xM} {I : xI} {P : xP} {h n rq st t : Nat} {S tx : Nat → Int32} {H : Nat → Nat → Int32} {r v : Int32} (kh : μ.2.1 h = 5) (hs : oS μ h) (hp : oP P h) (hr : oR I P h S n rq st H t tx) (hinv : invN S n rq) : Ct l yX4_crank wsX4_crank rm_X4_crank G μ I P [.ref (xZ G + h), .int r, .int v] 0 0 (fun vv μ' I' P' => vv = some (.int (aCrank S r v)) ∧ μ' = μ ∧ oP P' h ∧ (okCrank S r v = true → oR I' P' h (sCrank S r v) n rq (xph st + 1) (pushH S st H) t tx) ∧ (okCrank S r v = false → oR I' P' h S n rq st H t tx) ∧ (∀ c, c < h ∨ h + 254 ≤ c → I' c = I c ∧ P' c = P c)) := by
  obtain ⟨⟨u0, u1, u2, u3⟩, ⟨kx, ksg, lsg⟩, ⟨kb, hbS, hbP, hB⟩, ⟨kh2, lh2⟩, hist, ⟨hst, hst4⟩, ⟨ht, ht60⟩, htx⟩ := oF hs hp hr
  have hA := bA_of hbS hbP
  have hA0 := hA
  have hB0 := hB
  have hinv0 := hinv
  obtain ⟨⟨k0, l0⟩, ⟨k3, l3⟩, ⟨k6, l6⟩, hrw, hrt⟩ := hA
  have hrowf := fun {i : Nat} (hi : i < n) => bRow hB hinv hi
  obtain ⟨b1, b2, b4, b5, b7, b8, b9, b10, bst, brw, brt⟩ := hB
  obtain ⟨hn20, hn, hq6, hq, hcur, hdr, h8, h9, h10, hrows⟩ := hinv
  have b1n : I (P h 1) 1 = nI n := b1.trans hn
  have b4q : I (P h 1) 4 = nI rq := b4.trans hq
  have hro : ∀ r : Int32, (if r < 0 then (0 : Int32) else if I (P h 1) 1 ≤ r then 0 else 1) = isR r (S 0) := fun r => by rw [b1]; rfl
  have hrq : ∀ r : Int32, (if r < 0 then (0 : Int32) else if I (P h 1) 4 ≤ r then 0 else 1) = isR r (S 2) := fun r => by rw [b4]; rfl
  refine Ct.of (cc := cX4_crank) (maxL := 3) (ret := (some .int)) [some (.ref (xZ G + h)), some (.int r), some (.int v)] (by decide) rfl rfl rfl (Nat.le_of_ble_eq_true rfl) ?_
  intro X hC hD h0 _
  refine r_iload_n (pc := 0) hC dX4_crank_0 rfl ?_
  refine r_iload_n (pc := 1) hC dX4_crank_1 rfl ?_
  refine k_X4_isCranking (pc := 2) hC gX4_crank_X4_isCranking ⟨Nat.le_of_ble_eq_true rfl, Nat.le_of_ble_eq_true rfl⟩  (Nat.le_of_ble_eq_true rfl) rfl ⟨Nat.zero_le _, Nat.zero_le _⟩ dX4_crank_2 ?_
  refine r_if_ne (pc := 5) (tgt := 11) hC dX4_crank_5 (by decide) (fun bq5 => ?_) (fun bq5 => ?_)
  · skip
    refine r_aload_n (pc := 11) hC dX4_crank_11 rfl ?_
    refine g_HB_now (pc := 12) hC wi_X4_crank_4 wl_X4_crank_19 (by assumption) (c2 := 1) (by assumption) (by decide) dX4_crank_12 ?_
    refine g_Blind_rowCount (pc := 15) hC wi_X4_crank_0 wl_X4_crank_62 (by assumption) dX4_crank_15 ?_
    refine r_if_ne (pc := 18) (tgt := 24) hC dX4_crank_18 (by decide) (fun bq18 => ?_) (fun bq18 => ?_)
    · skip
      have hmc : mcr r v (S 0) = 0 := by rw [icr_1 bq5, if_neg (by rw [← b1]; exact bq18)]
      obtain ⟨c1, c2, c3, c4⟩ := mcr_0 hmc
      obtain ⟨hwr, hw1, hw20⟩ := crank_way c1 c2
      obtain ⟨a, ha, hs1⟩ : ∃ a, a < n ∧ S 1 = nI a := hcur.resolve_left (fun w => c4 (by rw [hn, w.1]; rfl))
      have hca : cA S = a := by rw [cA, hs1, nI_clamp (by omega)]
      have hcn : cN S = n := by rw [cN, hn, nI_clamp (by omega)]
      have hcg : cG S r = stepsS S n a (cUp r) (cW r) := by rw [cG, hcn, hca]
      have hsh : (if crFS S a (cUp r) v (stepsS S n a (cUp r) (cW r)) 1 < 0 then 0 else crFS S a (cUp r) v (stepsS S n a (cUp r) (cW r)) 1) = nI (rowAt a (cUp r) (stepsS S n a (cUp r) (cW r))) := by
        have := (steps_row (S := S) (up := cUp r) (w := cW r) ha _ (Nat.le_refl _)).1
        rw [crFS_1 hs1, if_neg (nI_pos (by omega))]
      refine r_aload_n (pc := 24) hC dX4_crank_24 rfl ?_
      refine k_X4_remember (pc := 25) hC gX4_crank_X4_remember ⟨Nat.le_of_ble_eq_true rfl, Nat.le_of_ble_eq_true rfl⟩ kh hs hp hr hinv0 (Nat.le_of_ble_eq_true rfl) rfl ⟨Nat.zero_le _, Nat.zero_le _⟩ dX4_crank_25 ?_
      intro J25 Q25 rP25 rR25 rF25
      obtain ⟨⟨w0, w1, w2, w3⟩, ⟨kx_, ksg_, lsg_⟩, ⟨kb_, hbS_, hbP_, hB_⟩, -, -, -, ⟨ht_, -⟩, htx_⟩ := oF hs rP25 rR25
      have hA_ := bA_of hbS_ hbP_
      have hA0_ := hA_
      have hB0_ := hB_
      obtain ⟨⟨k0_, l0_⟩, ⟨k3_, l3_⟩, ⟨k6_, l6_⟩, hrw_, hrt_⟩ := hA_
      have hrowf_ := fun {i : Nat} (hi : i < n) => bRow hB_ hinv0 hi
      obtain ⟨b1_, b2_, b4_, b5_, b7_, b8_, b9_, b10_, bst_, brw_, brt_⟩ := hB_
      have b1n_ : J25 (Q25 h 1) 1 = nI n := b1_.trans hn
      have b4q_ : J25 (Q25 h 1) 4 = nI rq := b4_.trans hq
      refine r_aload_n (pc := 28) hC dX4_crank_28 rfl ?_
      refine g_HB_now (pc := 29) hC wi_X4_crank_4 wl_X4_crank_19 kh (c2 := 1) kb_ (by decide) dX4_crank_29 ?_
      refine r_iload_n (pc := 32) hC dX4_crank_32 rfl ?_
      refine r_iload_n (pc := 33) hC dX4_crank_33 rfl ?_
      refine k_X0_roll (pc := 34) hC gX4_crank_X0_roll ⟨Nat.le_of_ble_eq_true rfl, Nat.le_of_ble_eq_true rfl⟩ kb_ hbS_ hbP_ hB0_ hinv0 hs1 ha hwr hw1 hw20 (Nat.le_of_ble_eq_true rfl) rfl ⟨Nat.zero_le _, Nat.zero_le _⟩ dX4_crank_34 ?_
      intro J34 rR34 rF34
      refine r_aload_n (pc := 37) hC dX4_crank_37 rfl ?_
      refine g_HB_now (pc := 38) hC wi_X4_crank_4 wl_X4_crank_19 kh (c2 := 1) kb_ (by decide) dX4_crank_38 ?_
      refine g_Blind_shown (pc := 41) hC wi_X4_crank_0 wl_X4_crank_65 kb_ dX4_crank_41 ?_
      rw [rR34.2.1, hsh]
      refine r_iret (pc := 44) hC hD rfl dX4_crank_44 rfl ?_
      have hok : okCrank S r v = true := by rw [okCrank, if_pos hmc]
      have eS : sCrank S r v = (crFS S a (cUp r) v (stepsS S n a (cUp r) (cW r))) := by rw [sCrank, if_pos hok, hca, hcg]
      have gP : bP Q25 (h + 3) := by rw [← w2]; exact hbP_
      have gR : bR (J34) Q25 (h + 3) (crFS S a (cUp r) v (stepsS S n a (cUp r) (cW r))) n rq := by rw [← w2]; exact rR34
      have gF : ∀ z, z < h + 3 ∨ h + 3 + 50 ≤ z → (J34) z = J25 z := fun z hz => rF34 z (by omega)
      have gG : ∀ z, z < h + 3 ∨ h + 3 + 50 ≤ z → Q25 z = Q25 z := fun z _ => rfl
      obtain ⟨g1, g2⟩ := oR_now rP25 rR25 gP gR gF gG
      exact ⟨by rw [aCrank, if_pos hmc, hca, hcg], rfl, g1, fun _ => by rw [eS]; exact g2, fun e => absurd (hok.symm.trans e) (by decide), fun c hc => ⟨by rw [gF c (by omega)]; exact (rF25 c hc).1, by rw [gG c (by omega)]; exact (rF25 c hc).2⟩⟩
    · skip
      refine r_ldc (pc := 21) (v := -1000002) hC dX4_crank_21 wl_X4_crank_35 ?_
      refine r_iret (pc := 23) hC hD rfl dX4_crank_23 rfl ?_
      have hm : mcr r v (S 0) = -1000002 := by rw [icr_1 bq5, if_pos (by rw [← b1]; exact bq18)]
      have hok : okCrank S r v = false := by rw [okCrank, hm, if_neg (by decide)]
      exact ⟨by rw [aCrank, hm, if_neg (by decide)], rfl, hp, fun e => absurd (hok.symm.trans e) (by decide), fun _ => hr, fun c _ => ⟨rfl, rfl⟩⟩
  · skip
    refine r_ldc (pc := 8) (v := -1000001) hC dX4_crank_8 wl_X4_crank_57 ?_
    refine r_iret (pc := 10) hC hD rfl dX4_crank_10 rfl ?_
    have e1 := icr_0 (N := S 0) bq5
    have hok : okCrank S r v = false := by rw [okCrank, e1, if_neg (by decide)]
    exact ⟨by rw [aCrank, e1, if_neg (by decide)], rfl, hp, fun e => absurd (hok.symm.trans e) (by decide), fun _ => hr, fun c _ => ⟨rfl, rfl⟩⟩
theorem k_X4_crank {X : xF} {G : xG} {cs : Nat × Nat} {μ : xM} {I : xI} {P : xP} {L : List (Option Value)} {pc : Nat} {rest : List Value} {cc : ByteArray} {Ts : List Cond} {own : String} {nL : Nat} {R : Room} (hC : xC X G cc Ts own nL R) {index : Nat} (hG : GoodIn Ts (wsV own index RX4 yX4_crank wsX4_crank)) (hR : rm_X4_crank.frames + 1 ≤ R.frames ∧ 8 + (3 + 11) + rm_X4_crank.locals ≤ R.locals) {h n rq st t : Nat} {S tx : Nat → Int32} {H : Nat → Nat → Int32} {r v : Int32} (kh : μ.2.1 h = 5) (hs : oS μ h) (hp : oP P h) (hr : oR I P h S n rq st H t tx) (hinv : invN S n rq) (hW : (rest.map fun v => v.category).sum ≤ 8) (hL : L.length = nL) (hcs : cs.1 ≤ R.cells ∧ cs.2 ≤ R.slots) (hdec : decode cc pc = .ok (.invokevirtual index, 3)) (kk : ∀ (I' : xI) (P' : xP), oP P' h → (okCrank S r v = true → oR I' P' h (sCrank S r v) n rq (xph st + 1) (pushH S st H) t tx) → (okCrank S r v = false → oR I' P' h S n rq st H t tx) → (∀ c, c < h ∨ h + 254 ≤ c → I' c = I c ∧ P' c = P c) → xg X G cs μ I' P' L (pc + 3) (.int (aCrank S r v) :: rest)) : xg X G cs μ I P L pc (.int v :: .int r :: .ref (xZ G + h) :: rest) :=
  r_callV hC (c_X4_crank X.2.1 kh hs hp hr hinv) hG rfl rfl rfl hd_X4_crank hR (by rw [kh]; decide) (xe_HB kh) rfl rfl rfl hW hL hcs hdec (by rintro vv μ' I' P' ⟨rfl, rfl, h1, h2, h3, h4⟩; exact kk I' P' h1 h2 h3 h4)
abbrev rm_X4_cut : Room := { frames := 4, cells := 0, slots := 0, locals := 91 }
theorem wl_X4_cut_19 : Cond.fieldLink RX4 19 "HandBlinds" "now" "LHandBlinds$Blind;" ∈ wsX4_cut := List.mem_of_getElem? (i := 1) (by decide +kernel)
theorem wi_X4_cut_4 : ∀ w ∈ wsX40, w ∈ wsX4_cut := fun _ h => List.mem_cons_of_mem _ (List.mem_append_left _ (List.mem_append_left _ (List.mem_append_left _ (List.mem_append_right _ h))))
theorem wl_X4_cut_62 : Cond.fieldLink RX4 62 "HandBlinds$Blind" "rowCount" "I" ∈ wsX4_cut := List.mem_of_getElem? (i := 3) (by decide +kernel)
theorem wi_X4_cut_0 : ∀ w ∈ wsX00, w ∈ wsX4_cut := fun _ h => List.mem_cons_of_mem _ (List.mem_append_left _ (List.mem_append_left _ (List.mem_append_right _ h)))
theorem wl_X4_cut_65 : Cond.fieldLink RX4 65 "HandBlinds$Blind" "shown" "I" ∈ wsX4_cut := List.mem_of_getElem? (i := 4) (by decide +kernel)
theorem wl_X4_cut_57 : Cond.constant RX4 57 (-1000001) ∈ wsX4_cut := List.mem_of_getElem? (i := 2) (by decide +kernel)
theorem hd_X4_cut : yX4_cut.cls = RX4 ∧ yX4_cut.cls ≠ "java/lang/invoke/MethodHandle" ∧ yX4_cut.cls ≠ "java/lang/invoke/VarHandle" ∧ (parseMethodDescriptor yX4_cut.desc).map (fun d => d.parameters.length) = some 1 := ⟨rfl, by decide +kernel, by decide +kernel, by decide +kernel⟩
set_option maxHeartbeats 4000000 in
set_option maxRecDepth 100000 in
theorem c_X4_cut (l : Launch) {G : xG} {μ : xM} {I : xI} {P : xP} {h n rq st t : Nat} {S tx : Nat → Int32} {H : Nat → Nat → Int32} {r : Int32} (kh : μ.2.1 h = 5) (hs : oS μ h) (hp : oP P h) (hr : oR I P h S n rq st H t tx) (hinv : invN S n rq) : Ct l yX4_cut wsX4_cut rm_X4_cut G μ I P [.ref (xZ G + h), .int r] 0 0 (fun vv μ' I' P' => vv = some (.int (aCut S r)) ∧ μ' = μ ∧ oP P' h ∧ (okRow S r = true → oR I' P' h (sCut S r) (n - 1) rq (xph st + 1) (pushH S st H) t tx) ∧ (okRow S r = false → oR I' P' h S n rq st H t tx) ∧ (∀ c, c < h ∨ h + 254 ≤ c → I' c = I c ∧ P' c = P c)) := by
  obtain ⟨⟨u0, u1, u2, u3⟩, ⟨kx, ksg, lsg⟩, ⟨kb, hbS, hbP, hB⟩, ⟨kh2, lh2⟩, hist, ⟨hst, hst4⟩, ⟨ht, ht60⟩, htx⟩ := oF hs hp hr
  have hA := bA_of hbS hbP
  have hA0 := hA
  have hB0 := hB
  have hinv0 := hinv
  obtain ⟨⟨k0, l0⟩, ⟨k3, l3⟩, ⟨k6, l6⟩, hrw, hrt⟩ := hA
  have hrowf := fun {i : Nat} (hi : i < n) => bRow hB hinv hi
  obtain ⟨b1, b2, b4, b5, b7, b8, b9, b10, bst, brw, brt⟩ := hB
  obtain ⟨hn20, hn, hq6, hq, hcur, hdr, h8, h9, h10, hrows⟩ := hinv
  have b1n : I (P h 1) 1 = nI n := b1.trans hn
  have b4q : I (P h 1) 4 = nI rq := b4.trans hq
  have hro : ∀ r : Int32, (if r < 0 then (0 : Int32) else if I (P h 1) 1 ≤ r then 0 else 1) = isR r (S 0) := fun r => by rw [b1]; rfl
  have hrq : ∀ r : Int32, (if r < 0 then (0 : Int32) else if I (P h 1) 4 ≤ r then 0 else 1) = isR r (S 2) := fun r => by rw [b4]; rfl
  refine Ct.of (cc := cX4_cut) (maxL := 2) (ret := (some .int)) [some (.ref (xZ G + h)), some (.int r)] (by decide) rfl rfl rfl (Nat.le_of_ble_eq_true rfl) ?_
  intro X hC hD h0 _
  refine r_aload_n (pc := 0) hC dX4_cut_0 rfl ?_
  refine g_HB_now (pc := 1) hC wi_X4_cut_4 wl_X4_cut_19 (by assumption) (c2 := 1) (by assumption) (by decide) dX4_cut_1 ?_
  refine r_iload_n (pc := 4) hC dX4_cut_4 rfl ?_
  refine k_X0_hasRow (pc := 5) hC gX4_cut_X0_hasRow ⟨Nat.le_of_ble_eq_true rfl, Nat.le_of_ble_eq_true rfl⟩ (by assumption) (Nat.le_of_ble_eq_true rfl) rfl ⟨Nat.zero_le _, Nat.zero_le _⟩ dX4_cut_5 ?_
  rw [hro]
  refine r_if_ne (pc := 8) (tgt := 14) hC dX4_cut_8 (by decide) (fun bq8 => ?_) (fun bq8 => ?_)
  · skip
    obtain ⟨c, hc, rfl⟩ := isR_of bq8 hn (by omega)
    have hcc : (nI c).toNatClampNeg = c := nI_clamp (by omega)
    refine r_aload_n (pc := 14) hC dX4_cut_14 rfl ?_
    refine k_X4_remember (pc := 15) hC gX4_cut_X4_remember ⟨Nat.le_of_ble_eq_true rfl, Nat.le_of_ble_eq_true rfl⟩ kh hs hp hr hinv0 (Nat.le_of_ble_eq_true rfl) rfl ⟨Nat.zero_le _, Nat.zero_le _⟩ dX4_cut_15 ?_
    intro J15 Q15 rP15 rR15 rF15
    obtain ⟨⟨w0, w1, w2, w3⟩, ⟨kx_, ksg_, lsg_⟩, ⟨kb_, hbS_, hbP_, hB_⟩, -, -, -, ⟨ht_, -⟩, htx_⟩ := oF hs rP15 rR15
    have hA_ := bA_of hbS_ hbP_
    have hA0_ := hA_
    have hB0_ := hB_
    obtain ⟨⟨k0_, l0_⟩, ⟨k3_, l3_⟩, ⟨k6_, l6_⟩, hrw_, hrt_⟩ := hA_
    have hrowf_ := fun {i : Nat} (hi : i < n) => bRow hB_ hinv0 hi
    obtain ⟨b1_, b2_, b4_, b5_, b7_, b8_, b9_, b10_, bst_, brw_, brt_⟩ := hB_
    have b1n_ : J15 (Q15 h 1) 1 = nI n := b1_.trans hn
    have b4q_ : J15 (Q15 h 1) 4 = nI rq := b4_.trans hq
    refine r_aload_n (pc := 18) hC dX4_cut_18 rfl ?_
    refine g_HB_now (pc := 19) hC wi_X4_cut_4 wl_X4_cut_19 kh (c2 := 1) kb_ (by decide) dX4_cut_19 ?_
    refine r_iload_n (pc := 22) hC dX4_cut_22 rfl ?_
    refine k_X0_remove (pc := 23) hC gX4_cut_X0_remove ⟨Nat.le_of_ble_eq_true rfl, Nat.le_of_ble_eq_true rfl⟩ kb_ hbS_ hbP_ hB0_ hinv0 hc (Nat.le_of_ble_eq_true rfl) rfl ⟨Nat.zero_le _, Nat.zero_le _⟩ dX4_cut_23 ?_
    intro J23 Q23 rP23 rG23 rR23 rF23
    have kbn : μ.2.1 (Q23 h 1) = 1 := by rw [rG23 h (by omega)]; exact kb_
    have e1n : Q23 h 1 = Q15 h 1 := by rw [rG23 h (by omega)]
    refine r_aload_n (pc := 26) hC dX4_cut_26 rfl ?_
    refine g_HB_now (pc := 27) hC wi_X4_cut_4 wl_X4_cut_19 kh (c2 := 1) kbn (by decide) dX4_cut_27 ?_
    refine g_Blind_rowCount (pc := 30) hC wi_X4_cut_0 wl_X4_cut_62 kbn dX4_cut_30 ?_
    rw [e1n, rR23.1, show cutS S c n rq 0 = nI (n - 1) from cutS_0]
    refine r_if_ne (pc := 33) (tgt := 40) hC dX4_cut_33 (by decide) (fun bq33 => ?_) (fun bq33 => ?_)
    · skip
      refine r_aload_n (pc := 40) hC dX4_cut_40 rfl ?_
      refine g_HB_now (pc := 41) hC wi_X4_cut_4 wl_X4_cut_19 kh (c2 := 1) kbn (by decide) dX4_cut_41 ?_
      refine g_Blind_shown (pc := 44) hC wi_X4_cut_0 wl_X4_cut_65 kbn dX4_cut_44 ?_
      rw [e1n]
      refine r_iret (pc := 47) hC hD rfl dX4_cut_47 rfl ?_
      have hck : cN S = n := by rw [cN, hn, nI_clamp (by omega)]
      have hcq : cQn S = rq := by rw [cQn, hq, nI_clamp (by omega)]
      have hS1 : cutS S c n rq 1 = S 1 - cutZ S c n := by unfold cutS; rw [if_pos rfl]
      have hok : okRow S (nI c) = true := by rw [okRow, if_neg bq8]
      have eS : sCut S (nI c) = (cutS S c n rq) := by rw [sCut, if_pos hok, hcc, hck, hcq]
      have gP : bP Q23 (h + 3) := by rw [← w2]; exact rP23
      have gR : bR (J23) Q23 (h + 3) (cutS S c n rq) (n - 1) rq := by rw [← w2]; exact rR23
      have gF : ∀ z, z < h + 3 ∨ h + 3 + 50 ≤ z → (J23) z = J15 z := fun z hz => rF23 z (by omega)
      have gG : ∀ z, z < h + 3 ∨ h + 3 + 50 ≤ z → Q23 z = Q15 z := fun z hz => rG23 z (by omega)
      obtain ⟨g1, g2⟩ := oR_now rP15 rR15 gP gR gF gG
      exact ⟨by rw [aCut, if_neg bq8, hcc, hck, ← hS1]; exact congrArg _ (congrArg _ (by rw [rR23.2.1]; exact cut_sh hinv0 hc bq33)), rfl, g1, fun _ => by rw [eS]; exact g2, fun e => absurd (hok.symm.trans e) (by decide), fun c hc => ⟨by rw [gF c (by omega)]; exact (rF15 c hc).1, by rw [gG c (by omega)]; exact (rF15 c hc).2⟩⟩
    · skip
      refine r_iconst (pc := 36) (v := -1) hC dX4_cut_36 (by decide) ?_
      refine r_goto (pc := 37) (tgt := 47) hC dX4_cut_37 (by decide) ?_
      skip
      refine r_iret (pc := 47) hC hD rfl dX4_cut_47 rfl ?_
      have hck : cN S = n := by rw [cN, hn, nI_clamp (by omega)]
      have hcq : cQn S = rq := by rw [cQn, hq, nI_clamp (by omega)]
      have hS1 : cutS S c n rq 1 = S 1 - cutZ S c n := by unfold cutS; rw [if_pos rfl]
      have hok : okRow S (nI c) = true := by rw [okRow, if_neg bq8]
      have eS : sCut S (nI c) = (cutS S c n rq) := by rw [sCut, if_pos hok, hcc, hck, hcq]
      have gP : bP Q23 (h + 3) := by rw [← w2]; exact rP23
      have gR : bR (J23) Q23 (h + 3) (cutS S c n rq) (n - 1) rq := by rw [← w2]; exact rR23
      have gF : ∀ z, z < h + 3 ∨ h + 3 + 50 ≤ z → (J23) z = J15 z := fun z hz => rF23 z (by omega)
      have gG : ∀ z, z < h + 3 ∨ h + 3 + 50 ≤ z → Q23 z = Q15 z := fun z hz => rG23 z (by omega)
      obtain ⟨g1, g2⟩ := oR_now rP15 rR15 gP gR gF gG
      exact ⟨by rw [aCut, if_neg bq8, hcc, hck, ← hS1]; exact congrArg _ (congrArg _ (by rw [cut_end hinv0 hc bq33])), rfl, g1, fun _ => by rw [eS]; exact g2, fun e => absurd (hok.symm.trans e) (by decide), fun c hc => ⟨by rw [gF c (by omega)]; exact (rF15 c hc).1, by rw [gG c (by omega)]; exact (rF15 c hc).2⟩⟩
  · skip
    refine r_ldc (pc := 11) (v := -1000001) hC dX4_cut_11 wl_X4_cut_57 ?_
    refine r_iret (pc := 13) hC hD rfl dX4_cut_13 rfl ?_
    have hok : okRow S r = false := by rw [okRow, if_pos bq8]
    exact ⟨by rw [aCut, if_pos bq8], rfl, hp, fun e => absurd (hok.symm.trans e) (by decide), fun _ => hr, fun c _ => ⟨rfl, rfl⟩⟩
theorem k_X4_cut {X : xF} {G : xG} {cs : Nat × Nat} {μ : xM} {I : xI} {P : xP} {L : List (Option Value)} {pc : Nat} {rest : List Value} {cc : ByteArray} {Ts : List Cond} {own : String} {nL : Nat} {R : Room} (hC : xC X G cc Ts own nL R) {index : Nat} (hG : GoodIn Ts (wsV own index RX4 yX4_cut wsX4_cut)) (hR : rm_X4_cut.frames + 1 ≤ R.frames ∧ 8 + (2 + 11) + rm_X4_cut.locals ≤ R.locals) {h n rq st t : Nat} {S tx : Nat → Int32} {H : Nat → Nat → Int32} {r : Int32} (kh : μ.2.1 h = 5) (hs : oS μ h) (hp : oP P h) (hr : oR I P h S n rq st H t tx) (hinv : invN S n rq) (hW : (rest.map fun v => v.category).sum ≤ 8) (hL : L.length = nL) (hcs : cs.1 ≤ R.cells ∧ cs.2 ≤ R.slots) (hdec : decode cc pc = .ok (.invokevirtual index, 3)) (kk : ∀ (I' : xI) (P' : xP), oP P' h → (okRow S r = true → oR I' P' h (sCut S r) (n - 1) rq (xph st + 1) (pushH S st H) t tx) → (okRow S r = false → oR I' P' h S n rq st H t tx) → (∀ c, c < h ∨ h + 254 ≤ c → I' c = I c ∧ P' c = P c) → xg X G cs μ I' P' L (pc + 3) (.int (aCut S r) :: rest)) : xg X G cs μ I P L pc (.int r :: .ref (xZ G + h) :: rest) :=
  r_callV hC (c_X4_cut X.2.1 kh hs hp hr hinv) hG rfl rfl rfl hd_X4_cut hR (by rw [kh]; decide) (xe_HB kh) rfl rfl rfl hW hL hcs hdec (by rintro vv μ' I' P' ⟨rfl, rfl, h1, h2, h3, h4⟩; exact kk I' P' h1 h2 h3 h4)
