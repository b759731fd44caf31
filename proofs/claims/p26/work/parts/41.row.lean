abbrev rm_X1_copyRoute : Room := { frames := 0, cells := 0, slots := 0, locals := 0 }
theorem wl_X1_copyRoute_7 : Cond.fieldLink RX1 7 "HandBlinds$Route" "rows" "I" ∈ wsX1_copyRoute := List.mem_of_getElem? (i := 1) (by decide +kernel)
theorem wi_X1_copyRoute_1 : ∀ w ∈ wsX10, w ∈ wsX1_copyRoute := fun _ h => List.mem_cons_of_mem _ (List.mem_append_right _ h)
theorem wl_X1_copyRoute_13 : Cond.fieldLink RX1 13 "HandBlinds$Route" "stops" "I" ∈ wsX1_copyRoute := List.mem_of_getElem? (i := 2) (by decide +kernel)
theorem wl_X1_copyRoute_16 : Cond.fieldLink RX1 16 "HandBlinds$Route" "rightStops" "I" ∈ wsX1_copyRoute := List.mem_of_getElem? (i := 3) (by decide +kernel)
theorem hd_X1_copyRoute : yX1_copyRoute.cls = RX1 ∧ yX1_copyRoute.cls ≠ "java/lang/invoke/MethodHandle" ∧ yX1_copyRoute.cls ≠ "java/lang/invoke/VarHandle" ∧ (parseMethodDescriptor yX1_copyRoute.desc).map (fun d => d.parameters.length) = some 1 := ⟨rfl, by decide +kernel, by decide +kernel, by decide +kernel⟩
set_option maxHeartbeats 4000000 in
set_option maxRecDepth 100000 in
theorem c_X1_copyRoute (l : Launch) {G : xG} {μ : xM} {I : xI} {P : xP} {a b : Nat} (ka : μ.2.1 a = 2) (kb : μ.2.1 b = 2) (hba : b ≠ a) : Ct l yX1_copyRoute wsX1_copyRoute rm_X1_copyRoute G μ I P [.ref (xZ G + a), .ref (xZ G + b)] 0 0 (fun vv μ' I' P' => vv = none ∧ μ' = μ ∧ I' = (xu (xu (xu I a 0 (I b 0)) a 1 (I b 1)) a 2 (I b 2)) ∧ P' = (P)) := by
  refine Ct.of (cc := cX1_copyRoute) (maxL := 2) (ret := none) [some (.ref (xZ G + a)), some (.ref (xZ G + b))] (by decide) rfl rfl rfl (Nat.le_of_ble_eq_true rfl) ?_
  intro X hC hD h0 _
  refine r_aload_n (pc := 0) hC dX1_copyRoute_0 rfl ?_
  refine r_aload_n (pc := 1) hC dX1_copyRoute_1 rfl ?_
  refine g_Route_rows (pc := 2) hC wi_X1_copyRoute_1 wl_X1_copyRoute_7 (by assumption) dX1_copyRoute_2 ?_
  refine p_Route_rows (pc := 5) hC wi_X1_copyRoute_1 wl_X1_copyRoute_7 (by assumption) dX1_copyRoute_5 ?_
  refine r_aload_n (pc := 8) hC dX1_copyRoute_8 rfl ?_
  refine r_aload_n (pc := 9) hC dX1_copyRoute_9 rfl ?_
  refine g_Route_stops (pc := 10) hC wi_X1_copyRoute_1 wl_X1_copyRoute_13 (by assumption) dX1_copyRoute_10 ?_
  rw [xu_row hba]
  refine p_Route_stops (pc := 13) hC wi_X1_copyRoute_1 wl_X1_copyRoute_13 (by assumption) dX1_copyRoute_13 ?_
  refine r_aload_n (pc := 16) hC dX1_copyRoute_16 rfl ?_
  refine r_aload_n (pc := 17) hC dX1_copyRoute_17 rfl ?_
  refine g_Route_rightStops (pc := 18) hC wi_X1_copyRoute_1 wl_X1_copyRoute_16 (by assumption) dX1_copyRoute_18 ?_
  rw [xu_row hba, xu_row hba]
  refine p_Route_rightStops (pc := 21) hC wi_X1_copyRoute_1 wl_X1_copyRoute_16 (by assumption) dX1_copyRoute_21 ?_
  refine r_vret (pc := 24) hC hD dX1_copyRoute_24 rfl ?_
  exact ⟨rfl, rfl, rfl, rfl⟩
theorem k_X1_copyRoute {X : xF} {G : xG} {cs : Nat × Nat} {μ : xM} {I : xI} {P : xP} {L : List (Option Value)} {pc : Nat} {rest : List Value} {cc : ByteArray} {Ts : List Cond} {own : String} {nL : Nat} {R : Room} (hC : xC X G cc Ts own nL R) {index : Nat} (hG : GoodIn Ts (wsV own index RX1 yX1_copyRoute wsX1_copyRoute)) (hR : rm_X1_copyRoute.frames + 1 ≤ R.frames ∧ 8 + (2 + 11) + rm_X1_copyRoute.locals ≤ R.locals) {a b : Nat} (ka : μ.2.1 a = 2) (kb : μ.2.1 b = 2) (hba : b ≠ a) (hW : (rest.map fun v => v.category).sum ≤ 8) (hL : L.length = nL) (hcs : cs.1 ≤ R.cells ∧ cs.2 ≤ R.slots) (hdec : decode cc pc = .ok (.invokevirtual index, 3)) (kk : xg X G cs μ (xu (xu (xu I a 0 (I b 0)) a 1 (I b 1)) a 2 (I b 2)) P L (pc + 3) rest) : xg X G cs μ I P L pc (.ref (xZ G + b) :: .ref (xZ G + a) :: rest) :=
  r_callV hC (c_X1_copyRoute X.2.1 ka kb hba) hG rfl rfl rfl hd_X1_copyRoute hR (by rw [ka]; decide) (xe_Route ka) rfl rfl rfl hW hL hcs hdec (by rintro v μ' I' P' ⟨rfl, rfl, rfl, rfl⟩; exact kk)
abbrev rm_X1_forget : Room := { frames := 0, cells := 0, slots := 0, locals := 0 }
theorem wl_X1_forget_7 : Cond.fieldLink RX1 7 "HandBlinds$Route" "rows" "I" ∈ wsX1_forget := List.mem_of_getElem? (i := 1) (by decide +kernel)
theorem wi_X1_forget_1 : ∀ w ∈ wsX10, w ∈ wsX1_forget := fun _ h => List.mem_cons_of_mem _ (List.mem_append_right _ h)
theorem hd_X1_forget : yX1_forget.cls = RX1 ∧ yX1_forget.cls ≠ "java/lang/invoke/MethodHandle" ∧ yX1_forget.cls ≠ "java/lang/invoke/VarHandle" ∧ (parseMethodDescriptor yX1_forget.desc).map (fun d => d.parameters.length) = some 1 := ⟨rfl, by decide +kernel, by decide +kernel, by decide +kernel⟩
set_option maxHeartbeats 4000000 in
set_option maxRecDepth 100000 in
theorem c_X1_forget (l : Launch) {G : xG} {μ : xM} {I : xI} {P : xP} {a : Nat} {r : Int32} (ka : μ.2.1 a = 2) : Ct l yX1_forget wsX1_forget rm_X1_forget G μ I P [.ref (xZ G + a), .int r] 0 0 (fun vv μ' I' P' => vv = none ∧ μ' = μ ∧ I' = (xu I a 0 (woS (I a 0) r)) ∧ P' = (P)) := by
  refine Ct.of (cc := cX1_forget) (maxL := 4) (ret := none) [some (.ref (xZ G + a)), some (.int r), none, none] (by decide) rfl rfl rfl (Nat.le_of_ble_eq_true rfl) ?_
  intro X hC hD h0 _
  refine r_aload_n (pc := 0) hC dX1_forget_0 rfl ?_
  refine g_Route_rows (pc := 1) hC wi_X1_forget_1 wl_X1_forget_7 (by assumption) dX1_forget_1 ?_
  refine r_iconst (pc := 4) (v := 1) hC dX1_forget_4 (by decide) ?_
  refine r_iload_n (pc := 5) hC dX1_forget_5 rfl ?_
  refine r_ishl (pc := 6) hC dX1_forget_6 ?_
  refine r_iconst (pc := 7) (v := 1) hC dX1_forget_7 (by decide) ?_
  refine r_isub (pc := 8) hC dX1_forget_8 ?_
  refine r_iand (pc := 9) hC dX1_forget_9 ?_
  refine r_istore_n (pc := 10) (L' := [_, _, _, _]) hC dX1_forget_10 rfl (Nat.le_of_ble_eq_true rfl) rfl ?_
  refine r_aload_n (pc := 11) hC dX1_forget_11 rfl ?_
  refine g_Route_rows (pc := 12) hC wi_X1_forget_1 wl_X1_forget_7 (by assumption) dX1_forget_12 ?_
  refine r_iload_n (pc := 15) hC dX1_forget_15 rfl ?_
  refine r_iconst (pc := 16) (v := 1) hC dX1_forget_16 (by decide) ?_
  refine r_iadd (pc := 17) hC dX1_forget_17 ?_
  refine r_ishr (pc := 18) hC dX1_forget_18 ?_
  refine r_iload_n (pc := 19) hC dX1_forget_19 rfl ?_
  refine r_ishl (pc := 20) hC dX1_forget_20 ?_
  refine r_istore_n (pc := 21) (L' := [_, _, _, _]) hC dX1_forget_21 rfl (Nat.le_of_ble_eq_true rfl) rfl ?_
  refine r_aload_n (pc := 22) hC dX1_forget_22 rfl ?_
  refine r_iload_n (pc := 23) hC dX1_forget_23 rfl ?_
  refine r_iload_n (pc := 24) hC dX1_forget_24 rfl ?_
  refine r_ior (pc := 25) hC dX1_forget_25 ?_
  refine p_Route_rows (pc := 26) hC wi_X1_forget_1 wl_X1_forget_7 (by assumption) dX1_forget_26 ?_
  refine r_vret (pc := 29) hC hD dX1_forget_29 rfl ?_
  exact ⟨rfl, rfl, rfl, rfl⟩
theorem k_X1_forget {X : xF} {G : xG} {cs : Nat × Nat} {μ : xM} {I : xI} {P : xP} {L : List (Option Value)} {pc : Nat} {rest : List Value} {cc : ByteArray} {Ts : List Cond} {own : String} {nL : Nat} {R : Room} (hC : xC X G cc Ts own nL R) {index : Nat} (hG : GoodIn Ts (wsV own index RX1 yX1_forget wsX1_forget)) (hR : rm_X1_forget.frames + 1 ≤ R.frames ∧ 8 + (4 + 11) + rm_X1_forget.locals ≤ R.locals) {a : Nat} {r : Int32} (ka : μ.2.1 a = 2) (hW : (rest.map fun v => v.category).sum ≤ 8) (hL : L.length = nL) (hcs : cs.1 ≤ R.cells ∧ cs.2 ≤ R.slots) (hdec : decode cc pc = .ok (.invokevirtual index, 3)) (kk : xg X G cs μ (xu I a 0 (woS (I a 0) r)) P L (pc + 3) rest) : xg X G cs μ I P L pc (.int r :: .ref (xZ G + a) :: rest) :=
  r_callV hC (c_X1_forget X.2.1 ka) hG rfl rfl rfl hd_X1_forget hR (by rw [ka]; decide) (xe_Route ka) rfl rfl rfl hW hL hcs hdec (by rintro v μ' I' P' ⟨rfl, rfl, rfl, rfl⟩; exact kk)
abbrev rm_X1_changeAbout : Room := { frames := 1, cells := 0, slots := 0, locals := 21 }
theorem wl_X1_changeAbout_7 : Cond.fieldLink RX1 7 "HandBlinds$Route" "rows" "I" ∈ wsX1_changeAbout := List.mem_of_getElem? (i := 1) (by decide +kernel)
theorem wi_X1_changeAbout_1 : ∀ w ∈ wsX10, w ∈ wsX1_changeAbout := fun _ h => List.mem_cons_of_mem _ (List.mem_append_right _ h)
theorem hd_X1_changeAbout : yX1_changeAbout.cls = RX1 ∧ yX1_changeAbout.cls ≠ "java/lang/invoke/MethodHandle" ∧ yX1_changeAbout.cls ≠ "java/lang/invoke/VarHandle" ∧ (parseMethodDescriptor yX1_changeAbout.desc).map (fun d => d.parameters.length) = some 2 := ⟨rfl, by decide +kernel, by decide +kernel, by decide +kernel⟩
set_option maxHeartbeats 4000000 in
set_option maxRecDepth 100000 in
theorem c_X1_changeAbout (l : Launch) {G : xG} {μ : xM} {I : xI} {P : xP} {a : Nat} {x y : Int32} (ka : μ.2.1 a = 2) (hxy : (1 <<< (x &&& 31)) ^^^ (1 <<< (y &&& 31)) = ((1 <<< (x &&& 31)) ||| (1 <<< (y &&& 31)) : Int32)) : Ct l yX1_changeAbout wsX1_changeAbout rm_X1_changeAbout G μ I P [.ref (xZ G + a), .int x, .int y] 0 0 (fun vv μ' I' P' => vv = none ∧ μ' = μ ∧ I' = (xu I a 0 (swS (I a 0) x y)) ∧ P' = (P)) := by
  refine Ct.of (cc := cX1_changeAbout) (maxL := 3) (ret := none) [some (.ref (xZ G + a)), some (.int x), some (.int y)] (by decide) rfl rfl rfl (Nat.le_of_ble_eq_true rfl) ?_
  intro X hC hD h0 _
  refine r_aload_n (pc := 0) hC dX1_changeAbout_0 rfl ?_
  refine r_iload_n (pc := 1) hC dX1_changeAbout_1 rfl ?_
  refine k_X1_owns (pc := 2) hC gX1_changeAbout_X1_owns ⟨Nat.le_of_ble_eq_true rfl, Nat.le_of_ble_eq_true rfl⟩ (by assumption) (Nat.le_of_ble_eq_true rfl) rfl ⟨Nat.zero_le _, Nat.zero_le _⟩ dX1_changeAbout_2 ?_
  refine r_aload_n (pc := 5) hC dX1_changeAbout_5 rfl ?_
  refine r_iload_n (pc := 6) hC dX1_changeAbout_6 rfl ?_
  refine k_X1_owns (pc := 7) hC gX1_changeAbout_X1_owns ⟨Nat.le_of_ble_eq_true rfl, Nat.le_of_ble_eq_true rfl⟩ (by assumption) (Nat.le_of_ble_eq_true rfl) rfl ⟨Nat.zero_le _, Nat.zero_le _⟩ dX1_changeAbout_7 ?_
  refine r_icmp_eq (pc := 10) (tgt := 29) hC dX1_changeAbout_10 (by decide) (fun bq10 => ?_) (fun bq10 => ?_)
  · skip
    refine r_vret (pc := 29) hC hD dX1_changeAbout_29 rfl ?_
    have e : I a 0 >>> (x &&& 31) &&& 1 = I a 0 >>> (y &&& 31) &&& 1 := by
      rcases bit01 (I a 0) (x &&& 31) with e1 | e1 <;> rcases bit01 (I a 0) (y &&& 31) with e2 | e2 <;> rw [e1, e2] at bq10 ⊢ <;> exact absurd bq10 (by decide)
    exact ⟨rfl, rfl, by rw [swS, if_pos e, xu_self], rfl⟩
  · skip
    refine r_aload_n (pc := 13) hC dX1_changeAbout_13 rfl ?_
    refine r_aload_n (pc := 14) hC dX1_changeAbout_14 rfl ?_
    refine g_Route_rows (pc := 15) hC wi_X1_changeAbout_1 wl_X1_changeAbout_7 (by assumption) dX1_changeAbout_15 ?_
    refine r_iconst (pc := 18) (v := 1) hC dX1_changeAbout_18 (by decide) ?_
    refine r_iload_n (pc := 19) hC dX1_changeAbout_19 rfl ?_
    refine r_ishl (pc := 20) hC dX1_changeAbout_20 ?_
    refine r_ixor (pc := 21) hC dX1_changeAbout_21 ?_
    refine r_iconst (pc := 22) (v := 1) hC dX1_changeAbout_22 (by decide) ?_
    refine r_iload_n (pc := 23) hC dX1_changeAbout_23 rfl ?_
    refine r_ishl (pc := 24) hC dX1_changeAbout_24 ?_
    refine r_ixor (pc := 25) hC dX1_changeAbout_25 ?_
    refine p_Route_rows (pc := 26) hC wi_X1_changeAbout_1 wl_X1_changeAbout_7 (by assumption) dX1_changeAbout_26 ?_
    refine r_vret (pc := 29) hC hD dX1_changeAbout_29 rfl ?_
    have e : ¬ I a 0 >>> (x &&& 31) &&& 1 = I a 0 >>> (y &&& 31) &&& 1 := fun w => bq10 (by rw [w])
    exact ⟨rfl, rfl, by rw [swS, if_neg e, ← hxy, Int32.xor_assoc], rfl⟩
theorem k_X1_changeAbout {X : xF} {G : xG} {cs : Nat × Nat} {μ : xM} {I : xI} {P : xP} {L : List (Option Value)} {pc : Nat} {rest : List Value} {cc : ByteArray} {Ts : List Cond} {own : String} {nL : Nat} {R : Room} (hC : xC X G cc Ts own nL R) {index : Nat} (hG : GoodIn Ts (wsV own index RX1 yX1_changeAbout wsX1_changeAbout)) (hR : rm_X1_changeAbout.frames + 1 ≤ R.frames ∧ 8 + (3 + 11) + rm_X1_changeAbout.locals ≤ R.locals) {a : Nat} {x y : Int32} (ka : μ.2.1 a = 2) (hxy : (1 <<< (x &&& 31)) ^^^ (1 <<< (y &&& 31)) = ((1 <<< (x &&& 31)) ||| (1 <<< (y &&& 31)) : Int32)) (hW : (rest.map fun v => v.category).sum ≤ 8) (hL : L.length = nL) (hcs : cs.1 ≤ R.cells ∧ cs.2 ≤ R.slots) (hdec : decode cc pc = .ok (.invokevirtual index, 3)) (kk : xg X G cs μ (xu I a 0 (swS (I a 0) x y)) P L (pc + 3) rest) : xg X G cs μ I P L pc (.int y :: .int x :: .ref (xZ G + a) :: rest) :=
  r_callV hC (c_X1_changeAbout X.2.1 ka hxy) hG rfl rfl rfl hd_X1_changeAbout hR (by rw [ka]; decide) (xe_Route ka) rfl rfl rfl hW hL hcs hdec (by rintro v μ' I' P' ⟨rfl, rfl, rfl, rfl⟩; exact kk)
abbrev rm_X2_width : Room := { frames := 1, cells := 0, slots := 0, locals := 20 }
theorem wl_X2_width_21 : Cond.fieldLink RX2 21 "HandBlinds$Row" "length" "I" ∈ wsX2_width := List.mem_of_getElem? (i := 1) (by decide +kernel)
theorem wi_X2_width_2 : ∀ w ∈ wsX20, w ∈ wsX2_width := fun _ h => List.mem_cons_of_mem _ (List.mem_append_right _ h)
theorem wl_X2_width_9 : Cond.fieldLink RX2 9 "HandBlinds$Row" "letters" "[C" ∈ wsX2_width := List.mem_of_getElem? (i := 2) (by decide +kernel)
theorem wn_X2_width_ini : Cond.initialized RX4 ∈ wsX2_width := List.mem_of_getElem? (i := 4) (by decide +kernel)
theorem wn_X2_width_sta : Cond.static yX4_letterWidth ∈ wsX2_width := List.mem_of_getElem? (i := 3) (by decide +kernel)
theorem hd_X2_width : yX2_width.cls = RX2 ∧ yX2_width.cls ≠ "java/lang/invoke/MethodHandle" ∧ yX2_width.cls ≠ "java/lang/invoke/VarHandle" ∧ (parseMethodDescriptor yX2_width.desc).map (fun d => d.parameters.length) = some 0 := ⟨rfl, by decide +kernel, by decide +kernel, by decide +kernel⟩
set_option maxHeartbeats 4000000 in
set_option maxRecDepth 100000 in
theorem c_X2_width (l : Launch) {G : xG} {μ : xM} {I : xI} {P : xP} {r n : Nat} (kr : μ.2.1 r = 3) (kl : μ.2.1 (P r 0) = 8) (ll : μ.2.2 (P r 0) = 14) (hn1 : I r 1 = nI n) (hn14 : n ≤ 14) : Ct l yX2_width wsX2_width rm_X2_width G μ I P [.ref (xZ G + r)] 0 0 (fun vv μ' I' P' => vv = some (.int (wsum (I (P r 0)) n)) ∧ μ' = μ ∧ I' = (I) ∧ P' = (P)) := by
  refine Ct.of (cc := cX2_width) (maxL := 3) (ret := (some .int)) [some (.ref (xZ G + r)), none, none] (by decide) rfl rfl rfl (Nat.le_of_ble_eq_true rfl) ?_
  intro X hC hD h0 _
  have loop : ∀ (q k : Nat), k + q = n → xg X G (0, 0) μ I P [some (.ref (xZ G + r)), some (.int (wsum (I (P r 0)) k)), some (.int (nI k))] 4 [] := by
    intro q
    induction q with
    | zero =>
      intro k hk
      have ek : k = n := by omega
      subst ek
      refine r_iload_n (pc := 4) hC dX2_width_4 rfl ?_
      refine r_aload_n (pc := 5) hC dX2_width_5 rfl ?_
      refine g_Row_length (pc := 6) hC wi_X2_width_2 wl_X2_width_21 (by assumption) dX2_width_6 ?_
      refine r_icmp_ge (pc := 9) (tgt := 30) hC dX2_width_9 (by decide) (fun bq9 => ?_) (fun bq9 => ?_)
      · skip
        refine r_iload_n (pc := 30) hC dX2_width_30 rfl ?_
        refine r_iret (pc := 31) hC hD rfl dX2_width_31 rfl ?_
        exact ⟨rfl, rfl, rfl, rfl⟩
      · skip
        rw [hn1] at bq9; exact absurd (nI_le (by omega) (by omega)) bq9
    | succ q ih =>
      intro k hk
      refine r_iload_n (pc := 4) hC dX2_width_4 rfl ?_
      refine r_aload_n (pc := 5) hC dX2_width_5 rfl ?_
      refine g_Row_length (pc := 6) hC wi_X2_width_2 wl_X2_width_21 (by assumption) dX2_width_6 ?_
      refine r_icmp_ge (pc := 9) (tgt := 30) hC dX2_width_9 (by decide) (fun bq9 => ?_) (fun bq9 => ?_)
      · skip
        rw [hn1] at bq9; exact absurd bq9 (nI_ge (by omega) (by omega))
      · skip
        refine r_iload_n (pc := 12) hC dX2_width_12 rfl ?_
        refine r_aload_n (pc := 13) hC dX2_width_13 rfl ?_
        refine g_Row_letters (pc := 14) hC wi_X2_width_2 wl_X2_width_9 (by assumption) (c2 := 8) (by assumption) (by decide) dX2_width_14 ?_
        refine r_iload_n (pc := 17) hC dX2_width_17 rfl ?_
        refine r_cald (pc := 18) hC (by assumption) (xi_n (by rw [ll]; omega) (by rw [ll]; decide)) dX2_width_18 ?_
        refine k_X4_letterWidth_n (pc := 19) hC (fun q => q.2.2.2.1) wn_X2_width_ini wn_X2_width_sta gX2_width_X4_letterWidth_n37 ⟨Nat.le_of_ble_eq_true rfl, Nat.le_of_ble_eq_true rfl⟩  (Nat.le_of_ble_eq_true rfl) rfl ⟨Nat.zero_le _, Nat.zero_le _⟩ dX2_width_19 ?_
        refine r_iadd (pc := 22) hC dX2_width_22 ?_
        refine r_istore_n (pc := 23) (L' := [_, _, _]) hC dX2_width_23 rfl (Nat.le_of_ble_eq_true rfl) rfl ?_
        refine r_iinc (pc := 24) (v := 1) (L' := [_, _, _]) hC dX2_width_24 rfl (by decide) rfl rfl ?_
        refine r_goto (pc := 27) (tgt := 4) hC dX2_width_27 (by decide) ?_
        rw [nI_1]; exact ih (k + 1) (by omega)
  refine r_iconst (pc := 0) (v := 0) hC dX2_width_0 (by decide) ?_
  refine r_istore_n (pc := 1) (L' := [_, _, _]) hC dX2_width_1 rfl (Nat.le_of_ble_eq_true rfl) rfl ?_
  refine r_iconst (pc := 2) (v := 0) hC dX2_width_2 (by decide) ?_
  refine r_istore_n (pc := 3) (L' := [_, _, _]) hC dX2_width_3 rfl (Nat.le_of_ble_eq_true rfl) rfl ?_
  exact loop n 0 (by omega)
theorem k_X2_width {X : xF} {G : xG} {cs : Nat × Nat} {μ : xM} {I : xI} {P : xP} {L : List (Option Value)} {pc : Nat} {rest : List Value} {cc : ByteArray} {Ts : List Cond} {own : String} {nL : Nat} {R : Room} (hC : xC X G cc Ts own nL R) {index : Nat} (hG : GoodIn Ts (wsV own index RX2 yX2_width wsX2_width)) (hR : rm_X2_width.frames + 1 ≤ R.frames ∧ 8 + (3 + 11) + rm_X2_width.locals ≤ R.locals) {r n : Nat} (kr : μ.2.1 r = 3) (kl : μ.2.1 (P r 0) = 8) (ll : μ.2.2 (P r 0) = 14) (hn1 : I r 1 = nI n) (hn14 : n ≤ 14) (hW : (rest.map fun v => v.category).sum ≤ 8) (hL : L.length = nL) (hcs : cs.1 ≤ R.cells ∧ cs.2 ≤ R.slots) (hdec : decode cc pc = .ok (.invokevirtual index, 3)) (kk : xg X G cs μ I P L (pc + 3) (.int (wsum (I (P r 0)) n) :: rest)) : xg X G cs μ I P L pc (.ref (xZ G + r) :: rest) :=
  r_callV hC (c_X2_width X.2.1 kr kl ll hn1 hn14) hG rfl rfl rfl hd_X2_width hR (by rw [kr]; decide) (xe_Row kr) rfl rfl rfl hW hL hcs hdec (by rintro v μ' I' P' ⟨rfl, rfl, rfl, rfl⟩; exact kk)
abbrev rm_X2_sharedStart : Room := { frames := 0, cells := 0, slots := 0, locals := 0 }
abbrev rm_X2_copyRow : Room := { frames := 1, cells := 0, slots := 0, locals := 26 }
theorem wl_X2_copyRow_9 : Cond.fieldLink RX2 9 "HandBlinds$Row" "letters" "[C" ∈ wsX2_copyRow := List.mem_of_getElem? (i := 1) (by decide +kernel)
theorem wi_X2_copyRow_2 : ∀ w ∈ wsX20, w ∈ wsX2_copyRow := fun _ h => List.mem_cons_of_mem _ (List.mem_append_right _ h)
theorem wl_X2_copyRow_15 : Cond.methodLink RX2 15 arraycopyName ∈ wsX2_copyRow := List.mem_of_getElem? (i := 2) (by decide +kernel)
theorem wa_X2_copyRow_1 : Cond.native arraycopyName ∈ wsX2_copyRow := List.mem_of_getElem? (i := 3) (by decide +kernel)
theorem wa_X2_copyRow_2 : Cond.static arraycopyName ∈ wsX2_copyRow := List.mem_of_getElem? (i := 4) (by decide +kernel)
theorem wa_X2_copyRow_3 : Cond.initialized "java/lang/System" ∈ wsX2_copyRow := List.mem_of_getElem? (i := 5) (by decide +kernel)
theorem wl_X2_copyRow_21 : Cond.fieldLink RX2 21 "HandBlinds$Row" "length" "I" ∈ wsX2_copyRow := List.mem_of_getElem? (i := 6) (by decide +kernel)
theorem wl_X2_copyRow_25 : Cond.fieldLink RX2 25 "HandBlinds$Row" "wear" "I" ∈ wsX2_copyRow := List.mem_of_getElem? (i := 7) (by decide +kernel)
theorem wl_X2_copyRow_28 : Cond.fieldLink RX2 28 "HandBlinds$Row" "torn" "Z" ∈ wsX2_copyRow := List.mem_of_getElem? (i := 8) (by decide +kernel)
theorem hd_X2_copyRow : yX2_copyRow.cls = RX2 ∧ yX2_copyRow.cls ≠ "java/lang/invoke/MethodHandle" ∧ yX2_copyRow.cls ≠ "java/lang/invoke/VarHandle" ∧ (parseMethodDescriptor yX2_copyRow.desc).map (fun d => d.parameters.length) = some 1 := ⟨rfl, by decide +kernel, by decide +kernel, by decide +kernel⟩
set_option maxHeartbeats 4000000 in
set_option maxRecDepth 100000 in
theorem c_X2_copyRow (l : Launch) {G : xG} {μ : xM} {I : xI} {P : xP} {r o : Nat} (kr : μ.2.1 r = 3) (kl : μ.2.1 (P r 0) = 8) (ll : μ.2.2 (P r 0) = 14) (kr2 : μ.2.1 o = 3) (kl2 : μ.2.1 (P o 0) = 8) (ll2 : μ.2.2 (P o 0) = 14) (hro : o ≠ r) : Ct l yX2_copyRow wsX2_copyRow rm_X2_copyRow G μ I P [.ref (xZ G + r), .ref (xZ G + o)] 0 0 (fun vv μ' I' P' => vv = none ∧ μ' = μ ∧ I' = (xu (xu (xu (xcp I (P o 0) (P r 0) 14) r 1 (I o 1)) r 2 (I o 2)) r 3 (I o 3)) ∧ P' = (P)) := by
  have hol : o ≠ P r 0 := fun e => by rw [← e, kr2] at kl; cases kl
  refine Ct.of (cc := cX2_copyRow) (maxL := 2) (ret := none) [some (.ref (xZ G + r)), some (.ref (xZ G + o))] (by decide) rfl rfl rfl (Nat.le_of_ble_eq_true rfl) ?_
  intro X hC hD h0 _
  refine r_aload_n (pc := 0) hC dX2_copyRow_0 rfl ?_
  refine g_Row_letters (pc := 1) hC wi_X2_copyRow_2 wl_X2_copyRow_9 (by assumption) (c2 := 8) (by assumption) (by decide) dX2_copyRow_1 ?_
  refine r_iconst (pc := 4) (v := 0) hC dX2_copyRow_4 (by decide) ?_
  refine r_aload_n (pc := 5) hC dX2_copyRow_5 rfl ?_
  refine g_Row_letters (pc := 6) hC wi_X2_copyRow_2 wl_X2_copyRow_9 (by assumption) (c2 := 8) (by assumption) (by decide) dX2_copyRow_6 ?_
  refine r_iconst (pc := 9) (v := 0) hC dX2_copyRow_9 (by decide) ?_
  refine r_bipush (pc := 10) (v := 14) hC dX2_copyRow_10 (by decide) ?_
  refine r_copyc (pc := 12) hC wl_X2_copyRow_15 wa_X2_copyRow_1 wa_X2_copyRow_2 wa_X2_copyRow_3 (N := 14) kl2 kl (xi_l rfl (by decide) (by decide) (by decide)) (by rw [ll2]; decide) (by rw [ll]; decide) ⟨Nat.le_of_ble_eq_true rfl, Nat.le_of_ble_eq_true rfl⟩ (Nat.le_of_ble_eq_true rfl) rfl dX2_copyRow_12 ?_
  refine r_aload_n (pc := 15) hC dX2_copyRow_15 rfl ?_
  refine r_aload_n (pc := 16) hC dX2_copyRow_16 rfl ?_
  refine g_Row_length (pc := 17) hC wi_X2_copyRow_2 wl_X2_copyRow_21 (by assumption) dX2_copyRow_17 ?_
  rw [xcp_row hol]
  refine p_Row_length (pc := 20) hC wi_X2_copyRow_2 wl_X2_copyRow_21 (by assumption) dX2_copyRow_20 ?_
  refine r_aload_n (pc := 23) hC dX2_copyRow_23 rfl ?_
  refine r_aload_n (pc := 24) hC dX2_copyRow_24 rfl ?_
  refine g_Row_wear (pc := 25) hC wi_X2_copyRow_2 wl_X2_copyRow_25 (by assumption) dX2_copyRow_25 ?_
  rw [xu_row hro, xcp_row hol]
  refine p_Row_wear (pc := 28) hC wi_X2_copyRow_2 wl_X2_copyRow_25 (by assumption) dX2_copyRow_28 ?_
  refine r_aload_n (pc := 31) hC dX2_copyRow_31 rfl ?_
  refine r_aload_n (pc := 32) hC dX2_copyRow_32 rfl ?_
  refine g_Row_torn (pc := 33) hC wi_X2_copyRow_2 wl_X2_copyRow_28 (by assumption) dX2_copyRow_33 ?_
  rw [xu_row hro, xu_row hro, xcp_row hol]
  refine p_Row_torn (pc := 36) hC (h0.2.2 o kr2) wi_X2_copyRow_2 wl_X2_copyRow_28 (by assumption) dX2_copyRow_36 ?_
  refine r_vret (pc := 39) hC hD dX2_copyRow_39 rfl ?_
  exact ⟨rfl, rfl, rfl, rfl⟩
theorem k_X2_copyRow {X : xF} {G : xG} {cs : Nat × Nat} {μ : xM} {I : xI} {P : xP} {L : List (Option Value)} {pc : Nat} {rest : List Value} {cc : ByteArray} {Ts : List Cond} {own : String} {nL : Nat} {R : Room} (hC : xC X G cc Ts own nL R) {index : Nat} (hG : GoodIn Ts (wsV own index RX2 yX2_copyRow wsX2_copyRow)) (hR : rm_X2_copyRow.frames + 1 ≤ R.frames ∧ 8 + (2 + 11) + rm_X2_copyRow.locals ≤ R.locals) {r o : Nat} (kr : μ.2.1 r = 3) (kl : μ.2.1 (P r 0) = 8) (ll : μ.2.2 (P r 0) = 14) (kr2 : μ.2.1 o = 3) (kl2 : μ.2.1 (P o 0) = 8) (ll2 : μ.2.2 (P o 0) = 14) (hro : o ≠ r) (hW : (rest.map fun v => v.category).sum ≤ 8) (hL : L.length = nL) (hcs : cs.1 ≤ R.cells ∧ cs.2 ≤ R.slots) (hdec : decode cc pc = .ok (.invokevirtual index, 3)) (kk : xg X G cs μ (xu (xu (xu (xcp I (P o 0) (P r 0) 14) r 1 (I o 1)) r 2 (I o 2)) r 3 (I o 3)) P L (pc + 3) rest) : xg X G cs μ I P L pc (.ref (xZ G + o) :: .ref (xZ G + r) :: rest) :=
  r_callV hC (c_X2_copyRow X.2.1 kr kl ll kr2 kl2 ll2 hro) hG rfl rfl rfl hd_X2_copyRow hR (by rw [kr]; decide) (xe_Row kr) rfl rfl rfl hW hL hcs hdec (by rintro v μ' I' P' ⟨rfl, rfl, rfl, rfl⟩; exact kk)
