abbrev rm_X5_of : Room := { frames := 0, cells := 0, slots := 0, locals := 0 }
theorem wl_X5_of_7 : Cond.fieldLink RX5 7 "HandBlindsModel" "s" "[I" ∈ wsX5_of := List.mem_of_getElem? (i := 1) (by decide +kernel)
theorem wi_X5_of_5 : ∀ w ∈ wsX50, w ∈ wsX5_of := fun _ h => List.mem_cons_of_mem _ (List.mem_append_right _ h)
theorem hd_X5_of : yX5_of.cls = RX5 ∧ yX5_of.cls ≠ "java/lang/invoke/MethodHandle" ∧ yX5_of.cls ≠ "java/lang/invoke/VarHandle" ∧ (parseMethodDescriptor yX5_of.desc).map (fun d => d.parameters.length) = some 2 := ⟨rfl, by decide +kernel, by decide +kernel, by decide +kernel⟩
set_option maxHeartbeats 4000000 in
set_option maxRecDepth 100000 in
theorem c_X5_of (l : Launch) {G : xG} {μ : xM} {I : xI} {P : xP} {m k : Nat} {row w : Int32} (km : μ.2.1 m = 6) (ks : μ.2.1 (P m 0) = 7) (ls : μ.2.2 (P m 0) = 369) (hi : 11 + 17 * row + w = nI k) (hk : k < 369) : Ct l yX5_of wsX5_of rm_X5_of G μ I P [.ref (xZ G + m), .int row, .int w] 0 0 (fun vv μ' I' P' => vv = some (.int (I (P m 0) k)) ∧ μ' = μ ∧ I' = (I) ∧ P' = (P)) := by
  refine Ct.of (cc := cX5_of) (maxL := 3) (ret := (some .int)) [some (.ref (xZ G + m)), some (.int row), some (.int w)] (by decide) rfl rfl rfl (Nat.le_of_ble_eq_true rfl) ?_
  intro X hC hD h0 _
  refine r_aload_n (pc := 0) hC dX5_of_0 rfl ?_
  refine g_Model_s (pc := 1) hC wi_X5_of_5 wl_X5_of_7 (by assumption) (c2 := 7) (by assumption) (by decide) dX5_of_1 ?_
  refine r_bipush (pc := 4) (v := 11) hC dX5_of_4 (by decide) ?_
  refine r_bipush (pc := 6) (v := 17) hC dX5_of_6 (by decide) ?_
  refine r_iload_n (pc := 8) hC dX5_of_8 rfl ?_
  refine r_imul (pc := 9) hC dX5_of_9 ?_
  refine r_iadd (pc := 10) hC dX5_of_10 ?_
  refine r_iload_n (pc := 11) hC dX5_of_11 rfl ?_
  refine r_iadd (pc := 12) hC dX5_of_12 ?_
  refine r_iald (pc := 13) hC ks (xi_e (k := k) hi ls hk (by decide)) dX5_of_13 ?_
  refine r_iret (pc := 14) hC hD rfl dX5_of_14 rfl ?_
  exact ⟨rfl, rfl, rfl, rfl⟩
theorem k_X5_of {X : xF} {G : xG} {cs : Nat × Nat} {μ : xM} {I : xI} {P : xP} {L : List (Option Value)} {pc : Nat} {rest : List Value} {cc : ByteArray} {Ts : List Cond} {own : String} {nL : Nat} {R : Room} (hC : xC X G cc Ts own nL R) {index : Nat} (hG : GoodIn Ts (wsV own index RX5 yX5_of wsX5_of)) (hR : rm_X5_of.frames + 1 ≤ R.frames ∧ 8 + (3 + 11) + rm_X5_of.locals ≤ R.locals) {m k : Nat} {row w : Int32} (km : μ.2.1 m = 6) (ks : μ.2.1 (P m 0) = 7) (ls : μ.2.2 (P m 0) = 369) (hi : 11 + 17 * row + w = nI k) (hk : k < 369) (hW : (rest.map fun v => v.category).sum ≤ 8) (hL : L.length = nL) (hcs : cs.1 ≤ R.cells ∧ cs.2 ≤ R.slots) (hdec : decode cc pc = .ok (.invokevirtual index, 3)) (kk : xg X G cs μ I P L (pc + 3) (.int (I (P m 0) k) :: rest)) : xg X G cs μ I P L pc (.int w :: .int row :: .ref (xZ G + m) :: rest) :=
  r_callV hC (c_X5_of X.2.1 km ks ls hi hk) hG rfl rfl rfl hd_X5_of hR (by rw [km]; decide) (xe_Model km) rfl rfl rfl hW hL hcs hdec (by rintro v μ' I' P' ⟨rfl, rfl, rfl, rfl⟩; exact kk)
abbrev rm_X5_sets : Room := { frames := 0, cells := 0, slots := 0, locals := 0 }
theorem wl_X5_sets_7 : Cond.fieldLink RX5 7 "HandBlindsModel" "s" "[I" ∈ wsX5_sets := List.mem_of_getElem? (i := 1) (by decide +kernel)
theorem wi_X5_sets_5 : ∀ w ∈ wsX50, w ∈ wsX5_sets := fun _ h => List.mem_cons_of_mem _ (List.mem_append_right _ h)
theorem hd_X5_sets : yX5_sets.cls = RX5 ∧ yX5_sets.cls ≠ "java/lang/invoke/MethodHandle" ∧ yX5_sets.cls ≠ "java/lang/invoke/VarHandle" ∧ (parseMethodDescriptor yX5_sets.desc).map (fun d => d.parameters.length) = some 3 := ⟨rfl, by decide +kernel, by decide +kernel, by decide +kernel⟩
set_option maxHeartbeats 4000000 in
set_option maxRecDepth 100000 in
theorem c_X5_sets (l : Launch) {G : xG} {μ : xM} {I : xI} {P : xP} {m k : Nat} {row w v : Int32} (km : μ.2.1 m = 6) (ks : μ.2.1 (P m 0) = 7) (ls : μ.2.2 (P m 0) = 369) (hi : 11 + 17 * row + w = nI k) (hk : k < 369) : Ct l yX5_sets wsX5_sets rm_X5_sets G μ I P [.ref (xZ G + m), .int row, .int w, .int v] 0 0 (fun vv μ' I' P' => vv = none ∧ μ' = μ ∧ I' = (xu I (P m 0) k v) ∧ P' = (P)) := by
  refine Ct.of (cc := cX5_sets) (maxL := 4) (ret := none) [some (.ref (xZ G + m)), some (.int row), some (.int w), some (.int v)] (by decide) rfl rfl rfl (Nat.le_of_ble_eq_true rfl) ?_
  intro X hC hD h0 _
  refine r_aload_n (pc := 0) hC dX5_sets_0 rfl ?_
  refine g_Model_s (pc := 1) hC wi_X5_sets_5 wl_X5_sets_7 (by assumption) (c2 := 7) (by assumption) (by decide) dX5_sets_1 ?_
  refine r_bipush (pc := 4) (v := 11) hC dX5_sets_4 (by decide) ?_
  refine r_bipush (pc := 6) (v := 17) hC dX5_sets_6 (by decide) ?_
  refine r_iload_n (pc := 8) hC dX5_sets_8 rfl ?_
  refine r_imul (pc := 9) hC dX5_sets_9 ?_
  refine r_iadd (pc := 10) hC dX5_sets_10 ?_
  refine r_iload_n (pc := 11) hC dX5_sets_11 rfl ?_
  refine r_iadd (pc := 12) hC dX5_sets_12 ?_
  refine r_iload_n (pc := 13) hC dX5_sets_13 rfl ?_
  refine r_iast (pc := 14) hC ks (xi_e (k := k) hi ls hk (by decide)) dX5_sets_14 ?_
  refine r_vret (pc := 15) hC hD dX5_sets_15 rfl ?_
  exact ⟨rfl, rfl, rfl, rfl⟩
theorem k_X5_sets {X : xF} {G : xG} {cs : Nat × Nat} {μ : xM} {I : xI} {P : xP} {L : List (Option Value)} {pc : Nat} {rest : List Value} {cc : ByteArray} {Ts : List Cond} {own : String} {nL : Nat} {R : Room} (hC : xC X G cc Ts own nL R) {index : Nat} (hG : GoodIn Ts (wsV own index RX5 yX5_sets wsX5_sets)) (hR : rm_X5_sets.frames + 1 ≤ R.frames ∧ 8 + (4 + 11) + rm_X5_sets.locals ≤ R.locals) {m k : Nat} {row w v : Int32} (km : μ.2.1 m = 6) (ks : μ.2.1 (P m 0) = 7) (ls : μ.2.2 (P m 0) = 369) (hi : 11 + 17 * row + w = nI k) (hk : k < 369) (hW : (rest.map fun v => v.category).sum ≤ 8) (hL : L.length = nL) (hcs : cs.1 ≤ R.cells ∧ cs.2 ≤ R.slots) (hdec : decode cc pc = .ok (.invokevirtual index, 3)) (kk : xg X G cs μ (xu I (P m 0) k v) P L (pc + 3) rest) : xg X G cs μ I P L pc (.int v :: .int w :: .int row :: .ref (xZ G + m) :: rest) :=
  r_callV hC (c_X5_sets X.2.1 km ks ls hi hk) hG rfl rfl rfl hd_X5_sets hR (by rw [km]; decide) (xe_Model km) rfl rfl rfl hW hL hcs hdec (by rintro v μ' I' P' ⟨rfl, rfl, rfl, rfl⟩; exact kk)
abbrev rm_X5_ofRoute : Room := { frames := 0, cells := 0, slots := 0, locals := 0 }
theorem wl_X5_ofRoute_7 : Cond.fieldLink RX5 7 "HandBlindsModel" "s" "[I" ∈ wsX5_ofRoute := List.mem_of_getElem? (i := 1) (by decide +kernel)
theorem wi_X5_ofRoute_5 : ∀ w ∈ wsX50, w ∈ wsX5_ofRoute := fun _ h => List.mem_cons_of_mem _ (List.mem_append_right _ h)
theorem hd_X5_ofRoute : yX5_ofRoute.cls = RX5 ∧ yX5_ofRoute.cls ≠ "java/lang/invoke/MethodHandle" ∧ yX5_ofRoute.cls ≠ "java/lang/invoke/VarHandle" ∧ (parseMethodDescriptor yX5_ofRoute.desc).map (fun d => d.parameters.length) = some 2 := ⟨rfl, by decide +kernel, by decide +kernel, by decide +kernel⟩
set_option maxHeartbeats 4000000 in
set_option maxRecDepth 100000 in
theorem c_X5_ofRoute (l : Launch) {G : xG} {μ : xM} {I : xI} {P : xP} {m k : Nat} {row w : Int32} (km : μ.2.1 m = 6) (ks : μ.2.1 (P m 0) = 7) (ls : μ.2.2 (P m 0) = 369) (hi : 351 + 3 * row + w = nI k) (hk : k < 369) : Ct l yX5_ofRoute wsX5_ofRoute rm_X5_ofRoute G μ I P [.ref (xZ G + m), .int row, .int w] 0 0 (fun vv μ' I' P' => vv = some (.int (I (P m 0) k)) ∧ μ' = μ ∧ I' = (I) ∧ P' = (P)) := by
  refine Ct.of (cc := cX5_ofRoute) (maxL := 3) (ret := (some .int)) [some (.ref (xZ G + m)), some (.int row), some (.int w)] (by decide) rfl rfl rfl (Nat.le_of_ble_eq_true rfl) ?_
  intro X hC hD h0 _
  refine r_aload_n (pc := 0) hC dX5_ofRoute_0 rfl ?_
  refine g_Model_s (pc := 1) hC wi_X5_ofRoute_5 wl_X5_ofRoute_7 (by assumption) (c2 := 7) (by assumption) (by decide) dX5_ofRoute_1 ?_
  refine r_sipush (pc := 4) (v := 351) hC dX5_ofRoute_4 (by decide) ?_
  refine r_iconst (pc := 7) (v := 3) hC dX5_ofRoute_7 (by decide) ?_
  refine r_iload_n (pc := 8) hC dX5_ofRoute_8 rfl ?_
  refine r_imul (pc := 9) hC dX5_ofRoute_9 ?_
  refine r_iadd (pc := 10) hC dX5_ofRoute_10 ?_
  refine r_iload_n (pc := 11) hC dX5_ofRoute_11 rfl ?_
  refine r_iadd (pc := 12) hC dX5_ofRoute_12 ?_
  refine r_iald (pc := 13) hC ks (xi_e (k := k) hi ls hk (by decide)) dX5_ofRoute_13 ?_
  refine r_iret (pc := 14) hC hD rfl dX5_ofRoute_14 rfl ?_
  exact ⟨rfl, rfl, rfl, rfl⟩
theorem k_X5_ofRoute {X : xF} {G : xG} {cs : Nat × Nat} {μ : xM} {I : xI} {P : xP} {L : List (Option Value)} {pc : Nat} {rest : List Value} {cc : ByteArray} {Ts : List Cond} {own : String} {nL : Nat} {R : Room} (hC : xC X G cc Ts own nL R) {index : Nat} (hG : GoodIn Ts (wsV own index RX5 yX5_ofRoute wsX5_ofRoute)) (hR : rm_X5_ofRoute.frames + 1 ≤ R.frames ∧ 8 + (3 + 11) + rm_X5_ofRoute.locals ≤ R.locals) {m k : Nat} {row w : Int32} (km : μ.2.1 m = 6) (ks : μ.2.1 (P m 0) = 7) (ls : μ.2.2 (P m 0) = 369) (hi : 351 + 3 * row + w = nI k) (hk : k < 369) (hW : (rest.map fun v => v.category).sum ≤ 8) (hL : L.length = nL) (hcs : cs.1 ≤ R.cells ∧ cs.2 ≤ R.slots) (hdec : decode cc pc = .ok (.invokevirtual index, 3)) (kk : xg X G cs μ I P L (pc + 3) (.int (I (P m 0) k) :: rest)) : xg X G cs μ I P L pc (.int w :: .int row :: .ref (xZ G + m) :: rest) :=
  r_callV hC (c_X5_ofRoute X.2.1 km ks ls hi hk) hG rfl rfl rfl hd_X5_ofRoute hR (by rw [km]; decide) (xe_Model km) rfl rfl rfl hW hL hcs hdec (by rintro v μ' I' P' ⟨rfl, rfl, rfl, rfl⟩; exact kk)
abbrev rm_X5_isRow : Room := { frames := 0, cells := 0, slots := 0, locals := 0 }
theorem wl_X5_isRow_7 : Cond.fieldLink RX5 7 "HandBlindsModel" "s" "[I" ∈ wsX5_isRow := List.mem_of_getElem? (i := 1) (by decide +kernel)
theorem wi_X5_isRow_5 : ∀ w ∈ wsX50, w ∈ wsX5_isRow := fun _ h => List.mem_cons_of_mem _ (List.mem_append_right _ h)
theorem hd_X5_isRow : yX5_isRow.cls = RX5 ∧ yX5_isRow.cls ≠ "java/lang/invoke/MethodHandle" ∧ yX5_isRow.cls ≠ "java/lang/invoke/VarHandle" ∧ (parseMethodDescriptor yX5_isRow.desc).map (fun d => d.parameters.length) = some 1 := ⟨rfl, by decide +kernel, by decide +kernel, by decide +kernel⟩
set_option maxHeartbeats 4000000 in
set_option maxRecDepth 100000 in
theorem c_X5_isRow (l : Launch) {G : xG} {μ : xM} {I : xI} {P : xP} {m : Nat} {r : Int32} (km : μ.2.1 m = 6) (ks : μ.2.1 (P m 0) = 7) (ls : μ.2.2 (P m 0) = 369) : Ct l yX5_isRow wsX5_isRow rm_X5_isRow G μ I P [.ref (xZ G + m), .int r] 0 0 (fun vv μ' I' P' => vv = some (.int (isR r (I (P m 0) 0))) ∧ μ' = μ ∧ I' = (I) ∧ P' = (P)) := by
  refine Ct.of (cc := cX5_isRow) (maxL := 2) (ret := (some .boolean)) [some (.ref (xZ G + m)), some (.int r)] (by decide) rfl rfl rfl (Nat.le_of_ble_eq_true rfl) ?_
  intro X hC hD h0 _
  refine r_iload_n (pc := 0) hC dX5_isRow_0 rfl ?_
  refine r_if_lt (pc := 1) (tgt := 18) hC dX5_isRow_1 (by decide) (fun bq1 => ?_) (fun bq1 => ?_)
  · skip
    refine r_iconst (pc := 18) (v := 0) hC dX5_isRow_18 (by decide) ?_
    refine r_iret (pc := 19) hC hD rfl dX5_isRow_19 rfl ?_
    exact ⟨by simp [isR, bq1], rfl, rfl, rfl⟩
  · skip
    refine r_iload_n (pc := 4) hC dX5_isRow_4 rfl ?_
    refine r_aload_n (pc := 5) hC dX5_isRow_5 rfl ?_
    refine g_Model_s (pc := 6) hC wi_X5_isRow_5 wl_X5_isRow_7 (by assumption) (c2 := 7) (by assumption) (by decide) dX5_isRow_6 ?_
    refine r_iconst (pc := 9) (v := 0) hC dX5_isRow_9 (by decide) ?_
    refine r_iald (pc := 10) hC ks (xi_l (k := 0) ls (by decide) (by decide) (by decide)) dX5_isRow_10 ?_
    refine r_icmp_ge (pc := 11) (tgt := 18) hC dX5_isRow_11 (by decide) (fun bq11 => ?_) (fun bq11 => ?_)
    · skip
      refine r_iconst (pc := 18) (v := 0) hC dX5_isRow_18 (by decide) ?_
      refine r_iret (pc := 19) hC hD rfl dX5_isRow_19 rfl ?_
      exact ⟨by simp [isR, bq1, bq11], rfl, rfl, rfl⟩
    · skip
      refine r_iconst (pc := 14) (v := 1) hC dX5_isRow_14 (by decide) ?_
      refine r_goto (pc := 15) (tgt := 19) hC dX5_isRow_15 (by decide) ?_
      refine r_iret (pc := 19) hC hD rfl dX5_isRow_19 rfl ?_
      exact ⟨by simp [isR, bq1, bq11], rfl, rfl, rfl⟩
theorem k_X5_isRow {X : xF} {G : xG} {cs : Nat × Nat} {μ : xM} {I : xI} {P : xP} {L : List (Option Value)} {pc : Nat} {rest : List Value} {cc : ByteArray} {Ts : List Cond} {own : String} {nL : Nat} {R : Room} (hC : xC X G cc Ts own nL R) {index : Nat} (hG : GoodIn Ts (wsV own index RX5 yX5_isRow wsX5_isRow)) (hR : rm_X5_isRow.frames + 1 ≤ R.frames ∧ 8 + (2 + 11) + rm_X5_isRow.locals ≤ R.locals) {m : Nat} {r : Int32} (km : μ.2.1 m = 6) (ks : μ.2.1 (P m 0) = 7) (ls : μ.2.2 (P m 0) = 369) (hW : (rest.map fun v => v.category).sum ≤ 8) (hL : L.length = nL) (hcs : cs.1 ≤ R.cells ∧ cs.2 ≤ R.slots) (hdec : decode cc pc = .ok (.invokevirtual index, 3)) (kk : xg X G cs μ I P L (pc + 3) (.int (isR r (I (P m 0) 0)) :: rest)) : xg X G cs μ I P L pc (.int r :: .ref (xZ G + m) :: rest) :=
  r_callV hC (c_X5_isRow X.2.1 km ks ls) hG rfl rfl rfl hd_X5_isRow hR (by rw [km]; decide) (xe_Model km) rfl rfl rfl hW hL hcs hdec (by rintro v μ' I' P' ⟨rfl, rfl, rfl, rfl⟩; exact kk)
abbrev rm_X5_isRoute : Room := { frames := 0, cells := 0, slots := 0, locals := 0 }
theorem wl_X5_isRoute_7 : Cond.fieldLink RX5 7 "HandBlindsModel" "s" "[I" ∈ wsX5_isRoute := List.mem_of_getElem? (i := 1) (by decide +kernel)
theorem wi_X5_isRoute_5 : ∀ w ∈ wsX50, w ∈ wsX5_isRoute := fun _ h => List.mem_cons_of_mem _ (List.mem_append_right _ h)
theorem hd_X5_isRoute : yX5_isRoute.cls = RX5 ∧ yX5_isRoute.cls ≠ "java/lang/invoke/MethodHandle" ∧ yX5_isRoute.cls ≠ "java/lang/invoke/VarHandle" ∧ (parseMethodDescriptor yX5_isRoute.desc).map (fun d => d.parameters.length) = some 1 := ⟨rfl, by decide +kernel, by decide +kernel, by decide +kernel⟩
set_option maxHeartbeats 4000000 in
set_option maxRecDepth 100000 in
theorem c_X5_isRoute (l : Launch) {G : xG} {μ : xM} {I : xI} {P : xP} {m : Nat} {r : Int32} (km : μ.2.1 m = 6) (ks : μ.2.1 (P m 0) = 7) (ls : μ.2.2 (P m 0) = 369) : Ct l yX5_isRoute wsX5_isRoute rm_X5_isRoute G μ I P [.ref (xZ G + m), .int r] 0 0 (fun vv μ' I' P' => vv = some (.int (isR r (I (P m 0) 2))) ∧ μ' = μ ∧ I' = (I) ∧ P' = (P)) := by
  refine Ct.of (cc := cX5_isRoute) (maxL := 2) (ret := (some .boolean)) [some (.ref (xZ G + m)), some (.int r)] (by decide) rfl rfl rfl (Nat.le_of_ble_eq_true rfl) ?_
  intro X hC hD h0 _
  refine r_iload_n (pc := 0) hC dX5_isRoute_0 rfl ?_
  refine r_if_lt (pc := 1) (tgt := 18) hC dX5_isRoute_1 (by decide) (fun bq1 => ?_) (fun bq1 => ?_)
  · skip
    refine r_iconst (pc := 18) (v := 0) hC dX5_isRoute_18 (by decide) ?_
    refine r_iret (pc := 19) hC hD rfl dX5_isRoute_19 rfl ?_
    exact ⟨by simp [isR, bq1], rfl, rfl, rfl⟩
  · skip
    refine r_iload_n (pc := 4) hC dX5_isRoute_4 rfl ?_
    refine r_aload_n (pc := 5) hC dX5_isRoute_5 rfl ?_
    refine g_Model_s (pc := 6) hC wi_X5_isRoute_5 wl_X5_isRoute_7 (by assumption) (c2 := 7) (by assumption) (by decide) dX5_isRoute_6 ?_
    refine r_iconst (pc := 9) (v := 2) hC dX5_isRoute_9 (by decide) ?_
    refine r_iald (pc := 10) hC ks (xi_l (k := 2) ls (by decide) (by decide) (by decide)) dX5_isRoute_10 ?_
    refine r_icmp_ge (pc := 11) (tgt := 18) hC dX5_isRoute_11 (by decide) (fun bq11 => ?_) (fun bq11 => ?_)
    · skip
      refine r_iconst (pc := 18) (v := 0) hC dX5_isRoute_18 (by decide) ?_
      refine r_iret (pc := 19) hC hD rfl dX5_isRoute_19 rfl ?_
      exact ⟨by simp [isR, bq1, bq11], rfl, rfl, rfl⟩
    · skip
      refine r_iconst (pc := 14) (v := 1) hC dX5_isRoute_14 (by decide) ?_
      refine r_goto (pc := 15) (tgt := 19) hC dX5_isRoute_15 (by decide) ?_
      refine r_iret (pc := 19) hC hD rfl dX5_isRoute_19 rfl ?_
      exact ⟨by simp [isR, bq1, bq11], rfl, rfl, rfl⟩
theorem k_X5_isRoute {X : xF} {G : xG} {cs : Nat × Nat} {μ : xM} {I : xI} {P : xP} {L : List (Option Value)} {pc : Nat} {rest : List Value} {cc : ByteArray} {Ts : List Cond} {own : String} {nL : Nat} {R : Room} (hC : xC X G cc Ts own nL R) {index : Nat} (hG : GoodIn Ts (wsV own index RX5 yX5_isRoute wsX5_isRoute)) (hR : rm_X5_isRoute.frames + 1 ≤ R.frames ∧ 8 + (2 + 11) + rm_X5_isRoute.locals ≤ R.locals) {m : Nat} {r : Int32} (km : μ.2.1 m = 6) (ks : μ.2.1 (P m 0) = 7) (ls : μ.2.2 (P m 0) = 369) (hW : (rest.map fun v => v.category).sum ≤ 8) (hL : L.length = nL) (hcs : cs.1 ≤ R.cells ∧ cs.2 ≤ R.slots) (hdec : decode cc pc = .ok (.invokevirtual index, 3)) (kk : xg X G cs μ I P L (pc + 3) (.int (isR r (I (P m 0) 2)) :: rest)) : xg X G cs μ I P L pc (.int r :: .ref (xZ G + m) :: rest) :=
  r_callV hC (c_X5_isRoute X.2.1 km ks ls) hG rfl rfl rfl hd_X5_isRoute hR (by rw [km]; decide) (xe_Model km) rfl rfl rfl hW hL hcs hdec (by rintro v μ' I' P' ⟨rfl, rfl, rfl, rfl⟩; exact kk)
abbrev rm_X5_squeezed : Room := { frames := 0, cells := 0, slots := 0, locals := 0 }
theorem wl_X5_squeezed_7 : Cond.fieldLink RX5 7 "HandBlindsModel" "s" "[I" ∈ wsX5_squeezed := List.mem_of_getElem? (i := 1) (by decide +kernel)
theorem wi_X5_squeezed_5 : ∀ w ∈ wsX50, w ∈ wsX5_squeezed := fun _ h => List.mem_cons_of_mem _ (List.mem_append_right _ h)
theorem hd_X5_squeezed : yX5_squeezed.cls = RX5 ∧ yX5_squeezed.cls ≠ "java/lang/invoke/MethodHandle" ∧ yX5_squeezed.cls ≠ "java/lang/invoke/VarHandle" ∧ (parseMethodDescriptor yX5_squeezed.desc).map (fun d => d.parameters.length) = some 1 := ⟨rfl, by decide +kernel, by decide +kernel, by decide +kernel⟩
set_option maxHeartbeats 4000000 in
set_option maxRecDepth 100000 in
theorem c_X5_squeezed (l : Launch) {G : xG} {μ : xM} {I : xI} {P : xP} {m : Nat} {w : Int32} (km : μ.2.1 m = 6) (ks : μ.2.1 (P m 0) = 7) (ls : μ.2.2 (P m 0) = 369) (h8 : ¬ I (P m 0) 8 = 0) : Ct l yX5_squeezed wsX5_squeezed rm_X5_squeezed G μ I P [.ref (xZ G + m), .int w] 0 0 (fun vv μ' I' P' => vv = some (.int (sq (I (P m 0) 8) w)) ∧ μ' = μ ∧ I' = (I) ∧ P' = (P)) := by
  refine Ct.of (cc := cX5_squeezed) (maxL := 2) (ret := (some .int)) [some (.ref (xZ G + m)), some (.int w)] (by decide) rfl rfl rfl (Nat.le_of_ble_eq_true rfl) ?_
  intro X hC hD h0 _
  refine r_iload_n (pc := 0) hC dX5_squeezed_0 rfl ?_
  refine r_aload_n (pc := 1) hC dX5_squeezed_1 rfl ?_
  refine g_Model_s (pc := 2) hC wi_X5_squeezed_5 wl_X5_squeezed_7 (by assumption) (c2 := 7) (by assumption) (by decide) dX5_squeezed_2 ?_
  refine r_bipush (pc := 5) (v := 8) hC dX5_squeezed_5 (by decide) ?_
  refine r_iald (pc := 7) hC ks (xi_l (k := 8) ls (by decide) (by decide) (by decide)) dX5_squeezed_7 ?_
  refine r_icmp_le (pc := 8) (tgt := 26) hC dX5_squeezed_8 (by decide) (fun bq8 => ?_) (fun bq8 => ?_)
  · skip
    refine r_bipush (pc := 26) (v := 100) hC dX5_squeezed_26 (by decide) ?_
    refine r_iret (pc := 28) hC hD rfl dX5_squeezed_28 rfl ?_
    exact ⟨by simp [sq, bq8], rfl, rfl, rfl⟩
  · skip
    refine r_iload_n (pc := 11) hC dX5_squeezed_11 rfl ?_
    refine r_bipush (pc := 12) (v := 100) hC dX5_squeezed_12 (by decide) ?_
    refine r_imul (pc := 14) hC dX5_squeezed_14 ?_
    refine r_aload_n (pc := 15) hC dX5_squeezed_15 rfl ?_
    refine g_Model_s (pc := 16) hC wi_X5_squeezed_5 wl_X5_squeezed_7 (by assumption) (c2 := 7) (by assumption) (by decide) dX5_squeezed_16 ?_
    refine r_bipush (pc := 19) (v := 8) hC dX5_squeezed_19 (by decide) ?_
    refine r_iald (pc := 21) hC ks (xi_l (k := 8) ls (by decide) (by decide) (by decide)) dX5_squeezed_21 ?_
    refine r_idiv (pc := 22) hC dX5_squeezed_22 h8 ?_
    refine r_goto (pc := 23) (tgt := 28) hC dX5_squeezed_23 (by decide) ?_
    refine r_iret (pc := 28) hC hD rfl dX5_squeezed_28 rfl ?_
    exact ⟨by simp [sq, bq8], rfl, rfl, rfl⟩
theorem k_X5_squeezed {X : xF} {G : xG} {cs : Nat × Nat} {μ : xM} {I : xI} {P : xP} {L : List (Option Value)} {pc : Nat} {rest : List Value} {cc : ByteArray} {Ts : List Cond} {own : String} {nL : Nat} {R : Room} (hC : xC X G cc Ts own nL R) {index : Nat} (hG : GoodIn Ts (wsV own index RX5 yX5_squeezed wsX5_squeezed)) (hR : rm_X5_squeezed.frames + 1 ≤ R.frames ∧ 8 + (2 + 11) + rm_X5_squeezed.locals ≤ R.locals) {m : Nat} {w : Int32} (km : μ.2.1 m = 6) (ks : μ.2.1 (P m 0) = 7) (ls : μ.2.2 (P m 0) = 369) (h8 : ¬ I (P m 0) 8 = 0) (hW : (rest.map fun v => v.category).sum ≤ 8) (hL : L.length = nL) (hcs : cs.1 ≤ R.cells ∧ cs.2 ≤ R.slots) (hdec : decode cc pc = .ok (.invokevirtual index, 3)) (kk : xg X G cs μ I P L (pc + 3) (.int (sq (I (P m 0) 8) w) :: rest)) : xg X G cs μ I P L pc (.int w :: .ref (xZ G + m) :: rest) :=
  r_callV hC (c_X5_squeezed X.2.1 km ks ls h8) hG rfl rfl rfl hd_X5_squeezed hR (by rw [km]; decide) (xe_Model km) rfl rfl rfl hW hL hcs hdec (by rintro v μ' I' P' ⟨rfl, rfl, rfl, rfl⟩; exact kk)
abbrev rm_X5_isTorn : Room := { frames := 1, cells := 0, slots := 0, locals := 22 }
theorem hd_X5_isTorn : yX5_isTorn.cls = RX5 ∧ yX5_isTorn.cls ≠ "java/lang/invoke/MethodHandle" ∧ yX5_isTorn.cls ≠ "java/lang/invoke/VarHandle" ∧ (parseMethodDescriptor yX5_isTorn.desc).map (fun d => d.parameters.length) = some 1 := ⟨rfl, by decide +kernel, by decide +kernel, by decide +kernel⟩
set_option maxHeartbeats 4000000 in
set_option maxRecDepth 100000 in
theorem c_X5_isTorn (l : Launch) {G : xG} {μ : xM} {I : xI} {P : xP} {m r : Nat} {row : Int32} (km : μ.2.1 m = 6) (ks : μ.2.1 (P m 0) = 7) (ls : μ.2.2 (P m 0) = 369) (hr : row = nI r) (hr20 : r < 20) : Ct l yX5_isTorn wsX5_isTorn rm_X5_isTorn G μ I P [.ref (xZ G + m), .int row] 0 0 (fun vv μ' I' P' => vv = some (.int (if I (P m 0) (13 + 17 * r) = 1 then 1 else 0)) ∧ μ' = μ ∧ I' = (I) ∧ P' = (P)) := by
  subst hr
  refine Ct.of (cc := cX5_isTorn) (maxL := 2) (ret := (some .boolean)) [some (.ref (xZ G + m)), some (.int (nI r))] (by decide) rfl rfl rfl (Nat.le_of_ble_eq_true rfl) ?_
  intro X hC hD h0 _
  refine r_aload_n (pc := 0) hC dX5_isTorn_0 rfl ?_
  refine r_iload_n (pc := 1) hC dX5_isTorn_1 rfl ?_
  refine r_iconst (pc := 2) (v := 2) hC dX5_isTorn_2 (by decide) ?_
  refine k_X5_of (pc := 3) hC gX5_isTorn_X5_of ⟨Nat.le_of_ble_eq_true rfl, Nat.le_of_ble_eq_true rfl⟩ (k := 13 + 17 * r) km ks ls (by simp only [xlit, nI_add, pk_mul] <;> exact congrArg nI (by omega)) (by omega) (Nat.le_of_ble_eq_true rfl) rfl ⟨Nat.zero_le _, Nat.zero_le _⟩ dX5_isTorn_3 ?_
  refine r_iconst (pc := 6) (v := 1) hC dX5_isTorn_6 (by decide) ?_
  refine r_icmp_ne (pc := 7) (tgt := 14) hC dX5_isTorn_7 (by decide) (fun bq7 => ?_) (fun bq7 => ?_)
  · skip
    refine r_iconst (pc := 14) (v := 0) hC dX5_isTorn_14 (by decide) ?_
    refine r_iret (pc := 15) hC hD rfl dX5_isTorn_15 rfl ?_
    exact ⟨by simp [bq7], rfl, rfl, rfl⟩
  · skip
    refine r_iconst (pc := 10) (v := 1) hC dX5_isTorn_10 (by decide) ?_
    refine r_goto (pc := 11) (tgt := 15) hC dX5_isTorn_11 (by decide) ?_
    refine r_iret (pc := 15) hC hD rfl dX5_isTorn_15 rfl ?_
    exact ⟨by simp [bq7], rfl, rfl, rfl⟩
theorem k_X5_isTorn {X : xF} {G : xG} {cs : Nat × Nat} {μ : xM} {I : xI} {P : xP} {L : List (Option Value)} {pc : Nat} {rest : List Value} {cc : ByteArray} {Ts : List Cond} {own : String} {nL : Nat} {R : Room} (hC : xC X G cc Ts own nL R) {index : Nat} (hG : GoodIn Ts (wsV own index RX5 yX5_isTorn wsX5_isTorn)) (hR : rm_X5_isTorn.frames + 1 ≤ R.frames ∧ 8 + (2 + 11) + rm_X5_isTorn.locals ≤ R.locals) {m r : Nat} {row : Int32} (km : μ.2.1 m = 6) (ks : μ.2.1 (P m 0) = 7) (ls : μ.2.2 (P m 0) = 369) (hr : row = nI r) (hr20 : r < 20) (hW : (rest.map fun v => v.category).sum ≤ 8) (hL : L.length = nL) (hcs : cs.1 ≤ R.cells ∧ cs.2 ≤ R.slots) (hdec : decode cc pc = .ok (.invokevirtual index, 3)) (kk : xg X G cs μ I P L (pc + 3) (.int (if I (P m 0) (13 + 17 * r) = 1 then 1 else 0) :: rest)) : xg X G cs μ I P L pc (.int row :: .ref (xZ G + m) :: rest) :=
  r_callV hC (c_X5_isTorn X.2.1 km ks ls hr hr20) hG rfl rfl rfl hd_X5_isTorn hR (by rw [km]; decide) (xe_Model km) rfl rfl rfl hW hL hcs hdec (by rintro v μ' I' P' ⟨rfl, rfl, rfl, rfl⟩; exact kk)
abbrev rm_X5_width : Room := { frames := 1, cells := 0, slots := 0, locals := 22 }
theorem hd_X5_width : yX5_width.cls = RX5 ∧ yX5_width.cls ≠ "java/lang/invoke/MethodHandle" ∧ yX5_width.cls ≠ "java/lang/invoke/VarHandle" ∧ (parseMethodDescriptor yX5_width.desc).map (fun d => d.parameters.length) = some 1 := ⟨rfl, by decide +kernel, by decide +kernel, by decide +kernel⟩
set_option maxHeartbeats 4000000 in
set_option maxRecDepth 100000 in
theorem c_X5_width (l : Launch) {G : xG} {μ : xM} {I : xI} {P : xP} {m r n : Nat} {row : Int32} (km : μ.2.1 m = 6) (ks : μ.2.1 (P m 0) = 7) (ls : μ.2.2 (P m 0) = 369) (hr : row = nI r) (hr20 : r < 20) (hn : I (P m 0) (11 + 17 * r) = nI n) (hn14 : n ≤ 14) : Ct l yX5_width wsX5_width rm_X5_width G μ I P [.ref (xZ G + m), .int row] 0 0 (fun vv μ' I' P' => vv = some (.int (wsum (fun j => I (P m 0) (14 + 17 * r + j)) n)) ∧ μ' = μ ∧ I' = (I) ∧ P' = (P)) := by
  subst hr
  refine Ct.of (cc := cX5_width) (maxL := 4) (ret := (some .int)) [some (.ref (xZ G + m)), some (.int (nI r)), none, none] (by decide) rfl rfl rfl (Nat.le_of_ble_eq_true rfl) ?_
  intro X hC hD h0 _
  have loop : ∀ (q k : Nat), k + q = n → xg X G (0, 0) μ I P [some (.ref (xZ G + m)), some (.int (nI r)), some (.int (wsum (fun j => I (P m 0) (14 + 17 * r + j)) k)), some (.int (nI k))] 4 [] := by
    intro q
    induction q with
    | zero =>
      intro k hk
      have ek : k = n := by omega
      subst ek
      refine r_iload_n (pc := 4) hC dX5_width_4 rfl ?_
      refine r_aload_n (pc := 5) hC dX5_width_5 rfl ?_
      refine r_iload_n (pc := 6) hC dX5_width_6 rfl ?_
      refine r_iconst (pc := 7) (v := 0) hC dX5_width_7 (by decide) ?_
      refine k_X5_of (pc := 8) hC gX5_width_X5_of ⟨Nat.le_of_ble_eq_true rfl, Nat.le_of_ble_eq_true rfl⟩ (k := 11 + 17 * r) km ks ls (by simp only [xlit, nI_add, pk_mul] <;> exact congrArg nI (by omega)) (by omega) (Nat.le_of_ble_eq_true rfl) rfl ⟨Nat.zero_le _, Nat.zero_le _⟩ dX5_width_8 ?_
      refine r_icmp_ge (pc := 11) (tgt := 34) hC dX5_width_11 (by decide) (fun bq11 => ?_) (fun bq11 => ?_)
      · skip
        refine r_iload_n (pc := 34) hC dX5_width_34 rfl ?_
        refine r_iret (pc := 35) hC hD rfl dX5_width_35 rfl ?_
        exact ⟨rfl, rfl, rfl, rfl⟩
      · skip
        rw [hn] at bq11; exact absurd (nI_le (by omega) (by omega)) bq11
    | succ q ih =>
      intro k hk
      refine r_iload_n (pc := 4) hC dX5_width_4 rfl ?_
      refine r_aload_n (pc := 5) hC dX5_width_5 rfl ?_
      refine r_iload_n (pc := 6) hC dX5_width_6 rfl ?_
      refine r_iconst (pc := 7) (v := 0) hC dX5_width_7 (by decide) ?_
      refine k_X5_of (pc := 8) hC gX5_width_X5_of ⟨Nat.le_of_ble_eq_true rfl, Nat.le_of_ble_eq_true rfl⟩ (k := 11 + 17 * r) km ks ls (by simp only [xlit, nI_add, pk_mul] <;> exact congrArg nI (by omega)) (by omega) (Nat.le_of_ble_eq_true rfl) rfl ⟨Nat.zero_le _, Nat.zero_le _⟩ dX5_width_8 ?_
      refine r_icmp_ge (pc := 11) (tgt := 34) hC dX5_width_11 (by decide) (fun bq11 => ?_) (fun bq11 => ?_)
      · skip
        rw [hn] at bq11; exact absurd bq11 (nI_ge (by omega) (by omega))
      · skip
        refine r_iload_n (pc := 14) hC dX5_width_14 rfl ?_
        refine r_aload_n (pc := 15) hC dX5_width_15 rfl ?_
        refine r_iload_n (pc := 16) hC dX5_width_16 rfl ?_
        refine r_iconst (pc := 17) (v := 3) hC dX5_width_17 (by decide) ?_
        refine r_iload_n (pc := 18) hC dX5_width_18 rfl ?_
        refine r_iadd (pc := 19) hC dX5_width_19 ?_
        refine k_X5_of (pc := 20) hC gX5_width_X5_of ⟨Nat.le_of_ble_eq_true rfl, Nat.le_of_ble_eq_true rfl⟩ (k := 14 + 17 * r + k) km ks ls (by simp only [xlit, nI_add, pk_mul] <;> exact congrArg nI (by omega)) (by omega) (Nat.le_of_ble_eq_true rfl) rfl ⟨Nat.zero_le _, Nat.zero_le _⟩ dX5_width_20 ?_
        refine k_X5_wide (pc := 23) hC gX5_width_X5_wide ⟨Nat.le_of_ble_eq_true rfl, Nat.le_of_ble_eq_true rfl⟩  (Nat.le_of_ble_eq_true rfl) rfl ⟨Nat.zero_le _, Nat.zero_le _⟩ dX5_width_23 ?_
        refine r_iadd (pc := 26) hC dX5_width_26 ?_
        refine r_istore_n (pc := 27) (L' := [_, _, _, _]) hC dX5_width_27 rfl (Nat.le_of_ble_eq_true rfl) rfl ?_
        refine r_iinc (pc := 28) (v := 1) (L' := [_, _, _, _]) hC dX5_width_28 rfl (by decide) rfl rfl ?_
        refine r_goto (pc := 31) (tgt := 4) hC dX5_width_31 (by decide) ?_
        have z := ih (k + 1) (by omega); rw [nI_succ] at z; exact z
  refine r_iconst (pc := 0) (v := 0) hC dX5_width_0 (by decide) ?_
  refine r_istore_n (pc := 1) (L' := [_, _, _, _]) hC dX5_width_1 rfl (Nat.le_of_ble_eq_true rfl) rfl ?_
  refine r_iconst (pc := 2) (v := 0) hC dX5_width_2 (by decide) ?_
  refine r_istore_n (pc := 3) (L' := [_, _, _, _]) hC dX5_width_3 rfl (Nat.le_of_ble_eq_true rfl) rfl ?_
  exact loop n 0 (by omega)
theorem k_X5_width {X : xF} {G : xG} {cs : Nat × Nat} {μ : xM} {I : xI} {P : xP} {L : List (Option Value)} {pc : Nat} {rest : List Value} {cc : ByteArray} {Ts : List Cond} {own : String} {nL : Nat} {R : Room} (hC : xC X G cc Ts own nL R) {index : Nat} (hG : GoodIn Ts (wsV own index RX5 yX5_width wsX5_width)) (hR : rm_X5_width.frames + 1 ≤ R.frames ∧ 8 + (4 + 11) + rm_X5_width.locals ≤ R.locals) {m r n : Nat} {row : Int32} (km : μ.2.1 m = 6) (ks : μ.2.1 (P m 0) = 7) (ls : μ.2.2 (P m 0) = 369) (hr : row = nI r) (hr20 : r < 20) (hn : I (P m 0) (11 + 17 * r) = nI n) (hn14 : n ≤ 14) (hW : (rest.map fun v => v.category).sum ≤ 8) (hL : L.length = nL) (hcs : cs.1 ≤ R.cells ∧ cs.2 ≤ R.slots) (hdec : decode cc pc = .ok (.invokevirtual index, 3)) (kk : xg X G cs μ I P L (pc + 3) (.int (wsum (fun j => I (P m 0) (14 + 17 * r + j)) n) :: rest)) : xg X G cs μ I P L pc (.int row :: .ref (xZ G + m) :: rest) :=
  r_callV hC (c_X5_width X.2.1 km ks ls hr hr20 hn hn14) hG rfl rfl rfl hd_X5_width hR (by rw [km]; decide) (xe_Model km) rfl rfl rfl hW hL hcs hdec (by rintro v μ' I' P' ⟨rfl, rfl, rfl, rfl⟩; exact kk)
