theorem xor_or {a c : Nat} (ha : a < 20) (hc : c < 20) (h : a ≠ c) : (1 <<< (nI a &&& 31)) ^^^ (1 <<< (nI c &&& 31)) = ((1 <<< (nI a &&& 31)) ||| (1 <<< (nI c &&& 31)) : Int32) := by
  have key : ∀ a c : Fin 20, a ≠ c → (1 <<< (nI a.1 &&& 31)) ^^^ (1 <<< (nI c.1 &&& 31)) = ((1 <<< (nI a.1 &&& 31)) ||| (1 <<< (nI c.1 &&& 31)) : Int32) := by decide +kernel
  exact key ⟨a, ha⟩ ⟨c, hc⟩ (fun e => h (congrArg Fin.val e))
abbrev rm_X0_appendRoute : Room := { frames := 0, cells := 0, slots := 0, locals := 0 }
theorem wl_X0_appendRoute_56 : Cond.fieldLink RX0 56 "HandBlinds$Blind" "routeCount" "I" ∈ wsX0_appendRoute := List.mem_of_getElem? (i := 1) (by decide +kernel)
theorem wi_X0_appendRoute_0 : ∀ w ∈ wsX00, w ∈ wsX0_appendRoute := fun _ h => List.mem_cons_of_mem _ (List.mem_append_left _ (List.mem_append_right _ h))
theorem wl_X0_appendRoute_20 : Cond.fieldLink RX0 20 "HandBlinds$Blind" "routes" "[LHandBlinds$Route;" ∈ wsX0_appendRoute := List.mem_of_getElem? (i := 3) (by decide +kernel)
theorem wl_X0_appendRoute_84 : Cond.fieldLink RX0 84 "HandBlinds$Route" "rows" "I" ∈ wsX0_appendRoute := List.mem_of_getElem? (i := 4) (by decide +kernel)
theorem wi_X0_appendRoute_1 : ∀ w ∈ wsX10, w ∈ wsX0_appendRoute := fun _ h => List.mem_cons_of_mem _ (List.mem_append_right _ h)
theorem wl_X0_appendRoute_86 : Cond.fieldLink RX0 86 "HandBlinds$Route" "stops" "I" ∈ wsX0_appendRoute := List.mem_of_getElem? (i := 5) (by decide +kernel)
theorem wl_X0_appendRoute_87 : Cond.fieldLink RX0 87 "HandBlinds$Route" "rightStops" "I" ∈ wsX0_appendRoute := List.mem_of_getElem? (i := 6) (by decide +kernel)
theorem hd_X0_appendRoute : yX0_appendRoute.cls = RX0 ∧ yX0_appendRoute.cls ≠ "java/lang/invoke/MethodHandle" ∧ yX0_appendRoute.cls ≠ "java/lang/invoke/VarHandle" ∧ (parseMethodDescriptor yX0_appendRoute.desc).map (fun d => d.parameters.length) = some 1 := ⟨rfl, by decide +kernel, by decide +kernel, by decide +kernel⟩
set_option maxHeartbeats 4000000 in
set_option maxRecDepth 100000 in
theorem c_X0_appendRoute (l : Launch) {G : xG} {μ : xM} {I : xI} {P : xP} {b n rq : Nat} {S : Nat → Int32} {x : Int32} (kb : μ.2.1 b = 1) (hS : bS μ b) (hP : bP P b) (hB : bR I P b S n rq) (hinv : invN S n rq) (hr6 : rq < 6) : Ct l yX0_appendRoute wsX0_appendRoute rm_X0_appendRoute G μ I P [.ref (xZ G + b), .int x] 0 0 (fun vv μ' I' P' => vv = some (.int (nI rq)) ∧ μ' = μ ∧ P' = P ∧ bR I' P b (rtS S rq x) n (rq + 1) ∧ (∀ c, c < b ∨ b + 50 ≤ c → I' c = I c)) := by
  have hA := bA_of hS hP
  have hP0 := hP
  have hB0 := hB
  have hinv0 := hinv
  obtain ⟨hX1, hX2, hX3⟩ := bX hP0
  obtain ⟨⟨k0, l0⟩, ⟨k3, l3⟩, ⟨k6, l6⟩, hrw, hrt⟩ := hA
  have hrowf := fun {i : Nat} (hi : i < n) => bRow hB hinv hi
  obtain ⟨b1, b2, b4, b5, b7, b8, b9, b10, bst, brw, brt⟩ := hB
  obtain ⟨hn20, hn, hq6, hq, hcur, hdr, h8, h9, h10, hrows⟩ := hinv
  have b1n : I b 1 = nI n := b1.trans hn
  have b4q : I b 4 = nI rq := b4.trans hq
  obtain ⟨p0, p3, p6, pj, -⟩ := hP
  have hpd : (P (P b 3) rq) = b + 43 + rq := by rw [p3]; exact pj rq (by omega)
  have hbr : b ≠ (P (P b 3) rq) := by omega
  refine Ct.of (cc := cX0_appendRoute) (maxL := 2) (ret := (some .int)) [some (.ref (xZ G + b)), some (.int x)] (by decide) rfl rfl rfl (Nat.le_of_ble_eq_true rfl) ?_
  intro X hC hD h0 _
  refine r_aload_n (pc := 0) hC dX0_appendRoute_0 rfl ?_
  refine g_Blind_routeCount (pc := 1) hC wi_X0_appendRoute_0 wl_X0_appendRoute_56 (by assumption) dX0_appendRoute_1 ?_
  refine r_bipush (pc := 4) (v := 6) hC dX0_appendRoute_4 (by decide) ?_
  refine r_icmp_lt (pc := 6) (tgt := 12) hC dX0_appendRoute_6 (by decide) (fun bq6 => ?_) (fun bq6 => ?_)
  · skip
    refine r_aload_n (pc := 12) hC dX0_appendRoute_12 rfl ?_
    refine g_Blind_routes (pc := 13) hC wi_X0_appendRoute_0 wl_X0_appendRoute_20 (by assumption) (c2 := 10) (by assumption) (by decide) dX0_appendRoute_13 ?_
    refine r_aload_n (pc := 16) hC dX0_appendRoute_16 rfl ?_
    refine g_Blind_routeCount (pc := 17) hC wi_X0_appendRoute_0 wl_X0_appendRoute_56 (by assumption) dX0_appendRoute_17 ?_
    refine r_aald_Route (pc := 20) hC k3 (xi_e (k := rq) b4q l3 (by omega) (by decide)) (hrt rq (by omega)) dX0_appendRoute_20 ?_
    refine r_iload_n (pc := 21) hC dX0_appendRoute_21 rfl ?_
    refine p_Route_rows (pc := 22) hC wi_X0_appendRoute_1 wl_X0_appendRoute_84 (hrt rq (by omega)) dX0_appendRoute_22 ?_
    refine r_aload_n (pc := 25) hC dX0_appendRoute_25 rfl ?_
    refine g_Blind_routes (pc := 26) hC wi_X0_appendRoute_0 wl_X0_appendRoute_20 (by assumption) (c2 := 10) (by assumption) (by decide) dX0_appendRoute_26 ?_
    refine r_aload_n (pc := 29) hC dX0_appendRoute_29 rfl ?_
    refine g_Blind_routeCount (pc := 30) hC wi_X0_appendRoute_0 wl_X0_appendRoute_56 (by assumption) dX0_appendRoute_30 ?_
    rw [xu_row hbr]
    refine r_aald_Route (pc := 33) hC k3 (xi_e (k := rq) b4q l3 (by omega) (by decide)) (hrt rq (by omega)) dX0_appendRoute_33 ?_
    refine r_iconst (pc := 34) (v := 0) hC dX0_appendRoute_34 (by decide) ?_
    refine p_Route_stops (pc := 35) hC wi_X0_appendRoute_1 wl_X0_appendRoute_86 (hrt rq (by omega)) dX0_appendRoute_35 ?_
    refine r_aload_n (pc := 38) hC dX0_appendRoute_38 rfl ?_
    refine g_Blind_routes (pc := 39) hC wi_X0_appendRoute_0 wl_X0_appendRoute_20 (by assumption) (c2 := 10) (by assumption) (by decide) dX0_appendRoute_39 ?_
    refine r_aload_n (pc := 42) hC dX0_appendRoute_42 rfl ?_
    refine g_Blind_routeCount (pc := 43) hC wi_X0_appendRoute_0 wl_X0_appendRoute_56 (by assumption) dX0_appendRoute_43 ?_
    rw [xu_row hbr, xu_row hbr]
    refine r_aald_Route (pc := 46) hC k3 (xi_e (k := rq) b4q l3 (by omega) (by decide)) (hrt rq (by omega)) dX0_appendRoute_46 ?_
    refine r_iconst (pc := 47) (v := 0) hC dX0_appendRoute_47 (by decide) ?_
    refine p_Route_rightStops (pc := 48) hC wi_X0_appendRoute_1 wl_X0_appendRoute_87 (hrt rq (by omega)) dX0_appendRoute_48 ?_
    refine r_aload_n (pc := 51) hC dX0_appendRoute_51 rfl ?_
    refine r_dup (pc := 52) hC dX0_appendRoute_52 rfl ?_
    refine g_Blind_routeCount (pc := 53) hC wi_X0_appendRoute_0 wl_X0_appendRoute_56 (by assumption) dX0_appendRoute_53 ?_
    rw [xu_row hbr, xu_row hbr, xu_row hbr, b4q]
    refine r_iconst (pc := 56) (v := 1) hC dX0_appendRoute_56 (by decide) ?_
    refine r_iadd (pc := 57) hC dX0_appendRoute_57 ?_
    rw [nI_1]
    refine p_Blind_routeCount (pc := 58) hC wi_X0_appendRoute_0 wl_X0_appendRoute_56 (by assumption) dX0_appendRoute_58 ?_
    refine r_aload_n (pc := 61) hC dX0_appendRoute_61 rfl ?_
    refine g_Blind_routeCount (pc := 62) hC wi_X0_appendRoute_0 wl_X0_appendRoute_56 (by assumption) dX0_appendRoute_62 ?_
    rw [xu_at]
    refine r_iconst (pc := 65) (v := 1) hC dX0_appendRoute_65 (by decide) ?_
    refine r_isub (pc := 66) hC dX0_appendRoute_66 ?_
    rw [show nI (rq + 1) - 1 = nI rq from nI_pred rq]
    refine r_iret (pc := 67) hC hD rfl dX0_appendRoute_67 rfl ?_
    obtain ⟨h1, h2⟩ := appRt_ok hP0 hB0 hinv0 hr6 rfl
    exact ⟨rfl, rfl, rfl, h1, h2⟩
  · skip
    exact absurd (by rw [b4q]; exact nI_lt (b := 6) (by omega) (by decide)) bq6
theorem k_X0_appendRoute {X : xF} {G : xG} {cs : Nat × Nat} {μ : xM} {I : xI} {P : xP} {L : List (Option Value)} {pc : Nat} {rest : List Value} {cc : ByteArray} {Ts : List Cond} {own : String} {nL : Nat} {R : Room} (hC : xC X G cc Ts own nL R) {index : Nat} (hG : GoodIn Ts (wsV own index RX0 yX0_appendRoute wsX0_appendRoute)) (hR : rm_X0_appendRoute.frames + 1 ≤ R.frames ∧ 8 + (2 + 11) + rm_X0_appendRoute.locals ≤ R.locals) {b n rq : Nat} {S : Nat → Int32} {x : Int32} (kb : μ.2.1 b = 1) (hS : bS μ b) (hP : bP P b) (hB : bR I P b S n rq) (hinv : invN S n rq) (hr6 : rq < 6) (hW : (rest.map fun v => v.category).sum ≤ 8) (hL : L.length = nL) (hcs : cs.1 ≤ R.cells ∧ cs.2 ≤ R.slots) (hdec : decode cc pc = .ok (.invokevirtual index, 3)) (kk : ∀ I' : xI, bR I' P b (rtS S rq x) n (rq + 1) → (∀ c, c < b ∨ b + 50 ≤ c → I' c = I c) → xg X G cs μ I' P L (pc + 3) (.int (nI rq) :: rest)) : xg X G cs μ I P L pc (.int x :: .ref (xZ G + b) :: rest) :=
  r_callV hC (c_X0_appendRoute X.2.1 kb hS hP hB hinv hr6) hG rfl rfl rfl hd_X0_appendRoute hR (by rw [kb]; decide) (xe_Blind kb) rfl rfl rfl hW hL hcs hdec (by rintro vv μ' I' P' ⟨rfl, rfl, rfl, h1, h2⟩; exact kk I' h1 h2)
abbrev rm_X0_append : Room := { frames := 1, cells := 0, slots := 0, locals := 24 }
theorem wl_X0_append_50 : Cond.fieldLink RX0 50 "HandBlinds$Blind" "rowCount" "I" ∈ wsX0_append := List.mem_of_getElem? (i := 1) (by decide +kernel)
theorem wi_X0_append_0 : ∀ w ∈ wsX00, w ∈ wsX0_append := fun _ h => List.mem_cons_of_mem _ (List.mem_append_left _ (List.mem_append_left _ (List.mem_append_right _ h)))
theorem wl_X0_append_11 : Cond.fieldLink RX0 11 "HandBlinds$Blind" "rows" "[LHandBlinds$Row;" ∈ wsX0_append := List.mem_of_getElem? (i := 2) (by decide +kernel)
theorem hd_X0_append : yX0_append.cls = RX0 ∧ yX0_append.cls ≠ "java/lang/invoke/MethodHandle" ∧ yX0_append.cls ≠ "java/lang/invoke/VarHandle" ∧ (parseMethodDescriptor yX0_append.desc).map (fun d => d.parameters.length) = some 3 := ⟨rfl, by decide +kernel, by decide +kernel, by decide +kernel⟩
set_option maxHeartbeats 4000000 in
set_option maxRecDepth 100000 in
theorem c_X0_append (l : Launch) {G : xG} {μ : xM} {I : xI} {P : xP} {b n rq : Nat} {S : Nat → Int32} {x t f e : Nat} (kb : μ.2.1 b = 1) (hS : bS μ b) (hP : bP P b) (hB : bR I P b S n rq) (hinv : invN S n rq) (h20 : n < 20) (kx : μ.2.1 x = 4) (ksg : μ.2.1 (P x 0) = 8) (lsg : μ.2.2 (P x 0) = 60) (ht : I x 1 = nI t) (ht60 : t ≤ 60) (het : e ≤ t) (hfe : f ≤ e) (he14 : e - f ≤ 14) (hxo : P x 0 < b ∨ b + 50 ≤ P x 0) : Ct l yX0_append wsX0_append rm_X0_append G μ I P [.ref (xZ G + b), .ref (xZ G + x), .int (nI f), .int (nI e)] 0 0 (fun vv μ' I' P' => vv = none ∧ μ' = μ ∧ P' = P ∧ bR I' P b (addS S n (I (P x 0)) f e) (n + 1) rq ∧ (∀ c, c < b ∨ b + 50 ≤ c → I' c = I c)) := by
  have hA := bA_of hS hP
  have hP0 := hP
  have hB0 := hB
  have hinv0 := hinv
  obtain ⟨hX1, hX2, hX3⟩ := bX hP0
  obtain ⟨⟨k0, l0⟩, ⟨k3, l3⟩, ⟨k6, l6⟩, hrw, hrt⟩ := hA
  have hrowf := fun {i : Nat} (hi : i < n) => bRow hB hinv hi
  obtain ⟨b1, b2, b4, b5, b7, b8, b9, b10, bst, brw, brt⟩ := hB
  obtain ⟨hn20, hn, hq6, hq, hcur, hdr, h8, h9, h10, hrows⟩ := hinv
  have b1n : I b 1 = nI n := b1.trans hn
  have b4q : I b 4 = nI rq := b4.trans hq
  obtain ⟨p0, p3, p6, pj, -⟩ := hP
  obtain ⟨x1, x2, x3⟩ := hX1 n h20
  have hbn : b ≠ (P (P b 0) n) := by omega
  have hbl : b ≠ P (P (P b 0) n) 0 := by omega
  have hls : P (P (P b 0) n) 0 ≠ P x 0 := by
    rw [x3]
    intro e9
    rcases hxo with h | h <;> omega
  refine Ct.of (cc := cX0_append) (maxL := 4) (ret := none) [some (.ref (xZ G + b)), some (.ref (xZ G + x)), some (.int (nI f)), some (.int (nI e))] (by decide) rfl rfl rfl (Nat.le_of_ble_eq_true rfl) ?_
  intro X hC hD h0 _
  refine r_aload_n (pc := 0) hC dX0_append_0 rfl ?_
  refine g_Blind_rowCount (pc := 1) hC wi_X0_append_0 wl_X0_append_50 (by assumption) dX0_append_1 ?_
  refine r_bipush (pc := 4) (v := 20) hC dX0_append_4 (by decide) ?_
  refine r_icmp_ge (pc := 6) (tgt := 34) hC dX0_append_6 (by decide) (fun bq6 => ?_) (fun bq6 => ?_)
  · skip
    exact absurd bq6 (by rw [b1n]; exact nI_ge (b := 20) (by omega) (by decide))
  · skip
    refine r_aload_n (pc := 9) hC dX0_append_9 rfl ?_
    refine g_Blind_rows (pc := 10) hC wi_X0_append_0 wl_X0_append_11 (by assumption) (c2 := 9) (by assumption) (by decide) dX0_append_10 ?_
    refine r_aload_n (pc := 13) hC dX0_append_13 rfl ?_
    refine g_Blind_rowCount (pc := 14) hC wi_X0_append_0 wl_X0_append_50 (by assumption) dX0_append_14 ?_
    refine r_aald_Row (pc := 17) hC k0 (xi_e (k := n) b1n l0 (by omega) (by decide)) (hrw n (by omega)).1 dX0_append_17 ?_
    refine r_aload_n (pc := 18) hC dX0_append_18 rfl ?_
    refine r_iload_n (pc := 19) hC dX0_append_19 rfl ?_
    refine r_iload_n (pc := 20) hC dX0_append_20 rfl ?_
    refine k_X2_begin (pc := 21) hC gX0_append_X2_begin ⟨Nat.le_of_ble_eq_true rfl, Nat.le_of_ble_eq_true rfl⟩ (hrw n (by omega)).1 (hrw n (by omega)).2.1 (hrw n (by omega)).2.2 kx ksg lsg ht ht60 het hfe he14 hls (Nat.le_of_ble_eq_true rfl) rfl ⟨Nat.zero_le _, Nat.zero_le _⟩ dX0_append_21 ?_
    refine r_aload_n (pc := 24) hC dX0_append_24 rfl ?_
    refine r_dup (pc := 25) hC dX0_append_25 rfl ?_
    refine g_Blind_rowCount (pc := 26) hC wi_X0_append_0 wl_X0_append_50 (by assumption) dX0_append_26 ?_
    rw [xu_row hbn, xu_row hbn, bgI, xu_row hbn, xmp_o hbl, b1n]
    refine r_iconst (pc := 29) (v := 1) hC dX0_append_29 (by decide) ?_
    refine r_iadd (pc := 30) hC dX0_append_30 ?_
    rw [nI_1]
    refine p_Blind_rowCount (pc := 31) hC wi_X0_append_0 wl_X0_append_50 (by assumption) dX0_append_31 ?_
    refine r_vret (pc := 34) hC hD dX0_append_34 rfl ?_
    obtain ⟨h1, h2⟩ := app_ok hP0 hB0 hinv0 h20 hfe he14 hxo rfl
    exact ⟨rfl, rfl, rfl, h1, h2⟩
theorem k_X0_append {X : xF} {G : xG} {cs : Nat × Nat} {μ : xM} {I : xI} {P : xP} {L : List (Option Value)} {pc : Nat} {rest : List Value} {cc : ByteArray} {Ts : List Cond} {own : String} {nL : Nat} {R : Room} (hC : xC X G cc Ts own nL R) {index : Nat} (hG : GoodIn Ts (wsV own index RX0 yX0_append wsX0_append)) (hR : rm_X0_append.frames + 1 ≤ R.frames ∧ 8 + (4 + 11) + rm_X0_append.locals ≤ R.locals) {b n rq : Nat} {S : Nat → Int32} {x t f e : Nat} (kb : μ.2.1 b = 1) (hS : bS μ b) (hP : bP P b) (hB : bR I P b S n rq) (hinv : invN S n rq) (h20 : n < 20) (kx : μ.2.1 x = 4) (ksg : μ.2.1 (P x 0) = 8) (lsg : μ.2.2 (P x 0) = 60) (ht : I x 1 = nI t) (ht60 : t ≤ 60) (het : e ≤ t) (hfe : f ≤ e) (he14 : e - f ≤ 14) (hxo : P x 0 < b ∨ b + 50 ≤ P x 0) (hW : (rest.map fun v => v.category).sum ≤ 8) (hL : L.length = nL) (hcs : cs.1 ≤ R.cells ∧ cs.2 ≤ R.slots) (hdec : decode cc pc = .ok (.invokevirtual index, 3)) (kk : ∀ I' : xI, bR I' P b (addS S n (I (P x 0)) f e) (n + 1) rq → (∀ c, c < b ∨ b + 50 ≤ c → I' c = I c) → xg X G cs μ I' P L (pc + 3) rest) : xg X G cs μ I P L pc (.int (nI e) :: .int (nI f) :: .ref (xZ G + x) :: .ref (xZ G + b) :: rest) :=
  r_callV hC (c_X0_append X.2.1 kb hS hP hB hinv h20 kx ksg lsg ht ht60 het hfe he14 hxo) hG rfl rfl rfl hd_X0_append hR (by rw [kb]; decide) (xe_Blind kb) rfl rfl rfl hW hL hcs hdec (by rintro vv μ' I' P' ⟨rfl, rfl, rfl, h1, h2⟩; exact kk I' h1 h2)
abbrev rm_X0_exchange : Room := { frames := 2, cells := 0, slots := 0, locals := 43 }
theorem wl_X0_exchange_56 : Cond.fieldLink RX0 56 "HandBlinds$Blind" "routeCount" "I" ∈ wsX0_exchange := List.mem_of_getElem? (i := 2) (by decide +kernel)
theorem wi_X0_exchange_0 : ∀ w ∈ wsX00, w ∈ wsX0_exchange := fun _ h => List.mem_cons_of_mem _ (List.mem_append_left _ (List.mem_append_right _ h))
theorem wl_X0_exchange_20 : Cond.fieldLink RX0 20 "HandBlinds$Blind" "routes" "[LHandBlinds$Route;" ∈ wsX0_exchange := List.mem_of_getElem? (i := 3) (by decide +kernel)
theorem wl_X0_exchange_11 : Cond.fieldLink RX0 11 "HandBlinds$Blind" "rows" "[LHandBlinds$Row;" ∈ wsX0_exchange := List.mem_of_getElem? (i := 1) (by decide +kernel)
theorem hd_X0_exchange : yX0_exchange.cls = RX0 ∧ yX0_exchange.cls ≠ "java/lang/invoke/MethodHandle" ∧ yX0_exchange.cls ≠ "java/lang/invoke/VarHandle" ∧ (parseMethodDescriptor yX0_exchange.desc).map (fun d => d.parameters.length) = some 2 := ⟨rfl, by decide +kernel, by decide +kernel, by decide +kernel⟩
set_option maxHeartbeats 4000000 in
set_option maxRecDepth 100000 in
theorem c_X0_exchange (l : Launch) {G : xG} {μ : xM} {I : xI} {P : xP} {b n rq : Nat} {S : Nat → Int32} {a c : Nat} (kb : μ.2.1 b = 1) (hS : bS μ b) (hP : bP P b) (hB : bR I P b S n rq) (hinv : invN S n rq) (ha : a < n) (hc : c < n) (hac : a ≠ c) : Ct l yX0_exchange wsX0_exchange rm_X0_exchange G μ I P [.ref (xZ G + b), .int (nI a), .int (nI c)] 0 0 (fun vv μ' I' P' => vv = none ∧ μ' = μ ∧ bP P' b ∧ (∀ c, c < b ∨ b + 50 ≤ c → P' c = P c) ∧ bR I' P' b (swapS S a c rq) n rq ∧ (∀ c, c < b ∨ b + 50 ≤ c → I' c = I c)) := by
  have hA := bA_of hS hP
  have hP0 := hP
  have hB0 := hB
  have hinv0 := hinv
  obtain ⟨hX1, hX2, hX3⟩ := bX hP0
  obtain ⟨⟨k0, l0⟩, ⟨k3, l3⟩, ⟨k6, l6⟩, hrw, hrt⟩ := hA
  have hrowf := fun {i : Nat} (hi : i < n) => bRow hB hinv hi
  obtain ⟨b1, b2, b4, b5, b7, b8, b9, b10, bst, brw, brt⟩ := hB
  obtain ⟨hn20, hn, hq6, hq, hcur, hdr, h8, h9, h10, hrows⟩ := hinv
  have b1n : I b 1 = nI n := b1.trans hn
  have b4q : I b 4 = nI rq := b4.trans hq
  obtain ⟨p0, p3, p6, pj, -⟩ := hP
  obtain ⟨⟨wP, wF⟩, wR, wG⟩ := swap_ok hP0 hB0 hinv0 ha hc hac (Q := (xu (xu P (P b 0) a (P (P b 0) c)) (P b 0) c (P (P b 0) a))) (J := mpI I (b + 43) (fun z => swS z (nI a) (nI c)) rq) rfl rfl
  have hb0 : b ≠ P b 0 := by omega
  have q0 : xu P (P b 0) a (P (P b 0) c) b 0 = P b 0 := by rw [xu_row hb0]
  have Q0 : (xu (xu P (P b 0) a (P (P b 0) c)) (P b 0) c (P (P b 0) a)) b 0 = P b 0 := by rw [xu_row hb0, xu_row hb0]
  have Q3 : (xu (xu P (P b 0) a (P (P b 0) c)) (P b 0) c (P (P b 0) a)) b 3 = P b 3 := by rw [xu_row hb0, xu_row hb0]
  have Q3j : ∀ j, j < 6 → (xu (xu P (P b 0) a (P (P b 0) c)) (P b 0) c (P (P b 0) a)) ((xu (xu P (P b 0) a (P (P b 0) c)) (P b 0) c (P (P b 0) a)) b 3) j = b + 43 + j := fun j hj => by rw [Q3, p3, xu_row (by omega), xu_row (by omega)]; exact pj j hj
  have hxy : (1 <<< (nI a &&& 31)) ^^^ (1 <<< (nI c &&& 31)) = ((1 <<< (nI a &&& 31)) ||| (1 <<< (nI c &&& 31)) : Int32) := xor_or (by omega) (by omega) hac
  refine Ct.of (cc := cX0_exchange) (maxL := 5) (ret := none) [some (.ref (xZ G + b)), some (.int (nI a)), some (.int (nI c)), none, none] (by decide) rfl rfl rfl (Nat.le_of_ble_eq_true rfl) ?_
  intro X hC hD h0 _
  have loop : ∀ (q k : Nat), k + q = rq → xg X G (0, 0) μ (mpI I (b + 43) (fun z => swS z (nI a) (nI c)) k) (xu (xu P (P b 0) a (P (P b 0) c)) (P b 0) c (P (P b 0) a)) [some (.ref (xZ G + b)), some (.int (nI a)), some (.int (nI c)), some (.ref (xZ G + P (P b 0) a)), some (.int (nI k))] 29 [] := by
    intro q
    induction q with
    | zero =>
      intro k hk
      have hmb : mpI I (b + 43) (fun z => swS z (nI a) (nI c)) k b 4 = nI rq := by rw [mpI_o (Or.inl (by omega)), b4q]
      have ek : k = rq := by omega
      subst ek
      refine r_iload (pc := 29) hC dX0_exchange_29 rfl ?_
      refine r_aload_n (pc := 31) hC dX0_exchange_31 rfl ?_
      refine g_Blind_routeCount (pc := 32) hC wi_X0_exchange_0 wl_X0_exchange_56 (by assumption) dX0_exchange_32 ?_
      refine r_icmp_ge (pc := 35) (tgt := 56) hC dX0_exchange_35 (by decide) (fun bq35 => ?_) (fun bq35 => ?_)
      · skip
        refine r_vret (pc := 56) hC hD dX0_exchange_56 rfl ?_
        exact ⟨rfl, rfl, wP, wF, wR, wG⟩
      · skip
        rw [hmb] at bq35; exact absurd (nI_le (by omega) (by omega)) bq35
    | succ q ih =>
      intro k hk
      have hmb : mpI I (b + 43) (fun z => swS z (nI a) (nI c)) k b 4 = nI rq := by rw [mpI_o (Or.inl (by omega)), b4q]
      refine r_iload (pc := 29) hC dX0_exchange_29 rfl ?_
      refine r_aload_n (pc := 31) hC dX0_exchange_31 rfl ?_
      refine g_Blind_routeCount (pc := 32) hC wi_X0_exchange_0 wl_X0_exchange_56 (by assumption) dX0_exchange_32 ?_
      refine r_icmp_ge (pc := 35) (tgt := 56) hC dX0_exchange_35 (by decide) (fun bq35 => ?_) (fun bq35 => ?_)
      · skip
        rw [hmb] at bq35; exact absurd bq35 (nI_ge (by omega) (by omega))
      · skip
        refine r_aload_n (pc := 38) hC dX0_exchange_38 rfl ?_
        refine g_Blind_routes (pc := 39) hC wi_X0_exchange_0 wl_X0_exchange_20 kb (c2 := 10) (by rw [Q3]; exact k3) (by decide) dX0_exchange_39 ?_
        rw [Q3]
        refine r_iload (pc := 42) hC dX0_exchange_42 rfl ?_
        refine r_aald_Route (pc := 44) hC k3 (xi_n (k := k) (by rw [l3]; omega) (by rw [l3]; decide)) (by rw [← Q3, Q3j k (by omega), ← pj k (by omega), ← p3]; exact hrt k (by omega)) dX0_exchange_44 ?_
        refine r_iload_n (pc := 45) hC dX0_exchange_45 rfl ?_
        refine r_iload_n (pc := 46) hC dX0_exchange_46 rfl ?_
        refine k_X1_changeAbout (pc := 47) hC gX0_exchange_X1_changeAbout ⟨Nat.le_of_ble_eq_true rfl, Nat.le_of_ble_eq_true rfl⟩ (by rw [← Q3, Q3j k (by omega), ← pj k (by omega), ← p3]; exact hrt k (by omega)) hxy (Nat.le_of_ble_eq_true rfl) rfl ⟨Nat.zero_le _, Nat.zero_le _⟩ dX0_exchange_47 ?_
        rw [← Q3, Q3j k (by omega), mpI_succ (F := (fun z => swS z (nI a) (nI c)))]
        refine r_iinc (pc := 50) (v := 1) (L' := [_, _, _, _, _]) hC dX0_exchange_50 rfl (by decide) rfl rfl ?_
        refine r_goto (pc := 53) (tgt := 29) hC dX0_exchange_53 (by decide) ?_
        rw [nI_1]; exact ih (k + 1) (by omega)
  refine r_aload_n (pc := 0) hC dX0_exchange_0 rfl ?_
  refine g_Blind_rows (pc := 1) hC wi_X0_exchange_0 wl_X0_exchange_11 (by assumption) (c2 := 9) (by assumption) (by decide) dX0_exchange_1 ?_
  refine r_iload_n (pc := 4) hC dX0_exchange_4 rfl ?_
  refine r_aald_Row (pc := 5) hC k0 (xi_n (k := a) (by rw [l0]; omega) (by rw [l0]; decide)) (hrw a (by omega)).1 dX0_exchange_5 ?_
  refine r_astore_n (pc := 6) (L' := [_, _, _, _, _]) hC dX0_exchange_6 rfl (Nat.le_of_ble_eq_true rfl) rfl ?_
  refine r_aload_n (pc := 7) hC dX0_exchange_7 rfl ?_
  refine g_Blind_rows (pc := 8) hC wi_X0_exchange_0 wl_X0_exchange_11 (by assumption) (c2 := 9) (by assumption) (by decide) dX0_exchange_8 ?_
  refine r_iload_n (pc := 11) hC dX0_exchange_11 rfl ?_
  refine r_aload_n (pc := 12) hC dX0_exchange_12 rfl ?_
  refine g_Blind_rows (pc := 13) hC wi_X0_exchange_0 wl_X0_exchange_11 (by assumption) (c2 := 9) (by assumption) (by decide) dX0_exchange_13 ?_
  refine r_iload_n (pc := 16) hC dX0_exchange_16 rfl ?_
  refine r_aald_Row (pc := 17) hC k0 (xi_n (k := c) (by rw [l0]; omega) (by rw [l0]; decide)) (hrw c (by omega)).1 dX0_exchange_17 ?_
  refine r_aast_Row (pc := 18) hC k0 (xi_n (k := a) (by rw [l0]; omega) (by rw [l0]; decide)) (hrw c (by omega)).1 dX0_exchange_18 ?_
  refine r_aload_n (pc := 19) hC dX0_exchange_19 rfl ?_
  refine g_Blind_rows (pc := 20) hC wi_X0_exchange_0 wl_X0_exchange_11 kb (c2 := 9) (by rw [q0]; exact k0) (by decide) dX0_exchange_20 ?_
  rw [q0]
  refine r_iload_n (pc := 23) hC dX0_exchange_23 rfl ?_
  refine r_aload_n (pc := 24) hC dX0_exchange_24 rfl ?_
  refine r_aast_Row (pc := 25) hC k0 (xi_n (k := c) (by rw [l0]; omega) (by rw [l0]; decide)) (hrw a (by omega)).1 dX0_exchange_25 ?_
  refine r_iconst (pc := 26) (v := 0) hC dX0_exchange_26 (by decide) ?_
  refine r_istore (pc := 27) (L' := [_, _, _, _, _]) hC dX0_exchange_27 rfl (Nat.le_of_ble_eq_true rfl) rfl ?_
  have z := loop rq 0 (by omega)
  rw [mpI_0] at z; exact z
theorem k_X0_exchange {X : xF} {G : xG} {cs : Nat × Nat} {μ : xM} {I : xI} {P : xP} {L : List (Option Value)} {pc : Nat} {rest : List Value} {cc : ByteArray} {Ts : List Cond} {own : String} {nL : Nat} {R : Room} (hC : xC X G cc Ts own nL R) {index : Nat} (hG : GoodIn Ts (wsV own index RX0 yX0_exchange wsX0_exchange)) (hR : rm_X0_exchange.frames + 1 ≤ R.frames ∧ 8 + (5 + 11) + rm_X0_exchange.locals ≤ R.locals) {b n rq : Nat} {S : Nat → Int32} {a c : Nat} (kb : μ.2.1 b = 1) (hS : bS μ b) (hP : bP P b) (hB : bR I P b S n rq) (hinv : invN S n rq) (ha : a < n) (hc : c < n) (hac : a ≠ c) (hW : (rest.map fun v => v.category).sum ≤ 8) (hL : L.length = nL) (hcs : cs.1 ≤ R.cells ∧ cs.2 ≤ R.slots) (hdec : decode cc pc = .ok (.invokevirtual index, 3)) (kk : ∀ (I' : xI) (P' : xP), bP P' b → (∀ c, c < b ∨ b + 50 ≤ c → P' c = P c) → bR I' P' b (swapS S a c rq) n rq → (∀ c, c < b ∨ b + 50 ≤ c → I' c = I c) → xg X G cs μ I' P' L (pc + 3) rest) : xg X G cs μ I P L pc (.int (nI c) :: .int (nI a) :: .ref (xZ G + b) :: rest) :=
  r_callV hC (c_X0_exchange X.2.1 kb hS hP hB hinv ha hc hac) hG rfl rfl rfl hd_X0_exchange hR (by rw [kb]; decide) (xe_Blind kb) rfl rfl rfl hW hL hcs hdec (by rintro vv μ' I' P' ⟨rfl, rfl, h1, h2, h3, h4⟩; exact kk I' P' h1 h2 h3 h4)
