abbrev rm_X0_hasRow : Room := { frames := 0, cells := 0, slots := 0, locals := 0 }
theorem wl_X0_hasRow_50 : Cond.fieldLink RX0 50 "HandBlinds$Blind" "rowCount" "I" ∈ wsX0_hasRow := List.mem_of_getElem? (i := 1) (by decide +kernel)
theorem wi_X0_hasRow_0 : ∀ w ∈ wsX00, w ∈ wsX0_hasRow := fun _ h => List.mem_cons_of_mem _ (List.mem_append_right _ h)
theorem hd_X0_hasRow : yX0_hasRow.cls = RX0 ∧ yX0_hasRow.cls ≠ "java/lang/invoke/MethodHandle" ∧ yX0_hasRow.cls ≠ "java/lang/invoke/VarHandle" ∧ (parseMethodDescriptor yX0_hasRow.desc).map (fun d => d.parameters.length) = some 1 := ⟨rfl, by decide +kernel, by decide +kernel, by decide +kernel⟩
set_option maxHeartbeats 4000000 in
set_option maxRecDepth 100000 in
theorem c_X0_hasRow (l : Launch) {G : xG} {μ : xM} {I : xI} {P : xP} {b : Nat} {r : Int32} (kb : μ.2.1 b = 1) : Ct l yX0_hasRow wsX0_hasRow rm_X0_hasRow G μ I P [.ref (xZ G + b), .int r] 0 0 (fun vv μ' I' P' => vv = some (.int (if r < 0 then 0 else if I b 1 ≤ r then 0 else 1)) ∧ μ' = μ ∧ I' = (I) ∧ P' = (P)) := by
  refine Ct.of (cc := cX0_hasRow) (maxL := 2) (ret := (some .boolean)) [some (.ref (xZ G + b)), some (.int r)] (by decide) rfl rfl rfl (Nat.le_of_ble_eq_true rfl) ?_
  intro X hC hD h0 _
  refine r_iload_n (pc := 0) hC dX0_hasRow_0 rfl ?_
  refine r_if_lt (pc := 1) (tgt := 16) hC dX0_hasRow_1 (by decide) (fun bq1 => ?_) (fun bq1 => ?_)
  · skip
    refine r_iconst (pc := 16) (v := 0) hC dX0_hasRow_16 (by decide) ?_
    refine r_iret (pc := 17) hC hD rfl dX0_hasRow_17 rfl ?_
    exact ⟨by simp [bq1], rfl, rfl, rfl⟩
  · skip
    refine r_iload_n (pc := 4) hC dX0_hasRow_4 rfl ?_
    refine r_aload_n (pc := 5) hC dX0_hasRow_5 rfl ?_
    refine g_Blind_rowCount (pc := 6) hC wi_X0_hasRow_0 wl_X0_hasRow_50 (by assumption) dX0_hasRow_6 ?_
    refine r_icmp_ge (pc := 9) (tgt := 16) hC dX0_hasRow_9 (by decide) (fun bq9 => ?_) (fun bq9 => ?_)
    · skip
      refine r_iconst (pc := 16) (v := 0) hC dX0_hasRow_16 (by decide) ?_
      refine r_iret (pc := 17) hC hD rfl dX0_hasRow_17 rfl ?_
      exact ⟨by simp [bq1, bq9], rfl, rfl, rfl⟩
    · skip
      refine r_iconst (pc := 12) (v := 1) hC dX0_hasRow_12 (by decide) ?_
      refine r_goto (pc := 13) (tgt := 17) hC dX0_hasRow_13 (by decide) ?_
      refine r_iret (pc := 17) hC hD rfl dX0_hasRow_17 rfl ?_
      exact ⟨by simp [bq1, bq9], rfl, rfl, rfl⟩
theorem k_X0_hasRow {X : xF} {G : xG} {cs : Nat × Nat} {μ : xM} {I : xI} {P : xP} {L : List (Option Value)} {pc : Nat} {rest : List Value} {cc : ByteArray} {Ts : List Cond} {own : String} {nL : Nat} {R : Room} (hC : xC X G cc Ts own nL R) {index : Nat} (hG : GoodIn Ts (wsV own index RX0 yX0_hasRow wsX0_hasRow)) (hR : rm_X0_hasRow.frames + 1 ≤ R.frames ∧ 8 + (2 + 11) + rm_X0_hasRow.locals ≤ R.locals) {b : Nat} {r : Int32} (kb : μ.2.1 b = 1) (hW : (rest.map fun v => v.category).sum ≤ 8) (hL : L.length = nL) (hcs : cs.1 ≤ R.cells ∧ cs.2 ≤ R.slots) (hdec : decode cc pc = .ok (.invokevirtual index, 3)) (kk : xg X G cs μ I P L (pc + 3) (.int (if r < 0 then 0 else if I b 1 ≤ r then 0 else 1) :: rest)) : xg X G cs μ I P L pc (.int r :: .ref (xZ G + b) :: rest) :=
  r_callV hC (c_X0_hasRow X.2.1 kb) hG rfl rfl rfl hd_X0_hasRow hR (by rw [kb]; decide) (xe_Blind kb) rfl rfl rfl hW hL hcs hdec (by rintro v μ' I' P' ⟨rfl, rfl, rfl, rfl⟩; exact kk)
abbrev rm_X0_hasRoute : Room := { frames := 0, cells := 0, slots := 0, locals := 0 }
theorem wl_X0_hasRoute_56 : Cond.fieldLink RX0 56 "HandBlinds$Blind" "routeCount" "I" ∈ wsX0_hasRoute := List.mem_of_getElem? (i := 1) (by decide +kernel)
theorem wi_X0_hasRoute_0 : ∀ w ∈ wsX00, w ∈ wsX0_hasRoute := fun _ h => List.mem_cons_of_mem _ (List.mem_append_right _ h)
theorem hd_X0_hasRoute : yX0_hasRoute.cls = RX0 ∧ yX0_hasRoute.cls ≠ "java/lang/invoke/MethodHandle" ∧ yX0_hasRoute.cls ≠ "java/lang/invoke/VarHandle" ∧ (parseMethodDescriptor yX0_hasRoute.desc).map (fun d => d.parameters.length) = some 1 := ⟨rfl, by decide +kernel, by decide +kernel, by decide +kernel⟩
set_option maxHeartbeats 4000000 in
set_option maxRecDepth 100000 in
theorem c_X0_hasRoute (l : Launch) {G : xG} {μ : xM} {I : xI} {P : xP} {b : Nat} {r : Int32} (kb : μ.2.1 b = 1) : Ct l yX0_hasRoute wsX0_hasRoute rm_X0_hasRoute G μ I P [.ref (xZ G + b), .int r] 0 0 (fun vv μ' I' P' => vv = some (.int (if r < 0 then 0 else if I b 4 ≤ r then 0 else 1)) ∧ μ' = μ ∧ I' = (I) ∧ P' = (P)) := by
  refine Ct.of (cc := cX0_hasRoute) (maxL := 2) (ret := (some .boolean)) [some (.ref (xZ G + b)), some (.int r)] (by decide) rfl rfl rfl (Nat.le_of_ble_eq_true rfl) ?_
  intro X hC hD h0 _
  refine r_iload_n (pc := 0) hC dX0_hasRoute_0 rfl ?_
  refine r_if_lt (pc := 1) (tgt := 16) hC dX0_hasRoute_1 (by decide) (fun bq1 => ?_) (fun bq1 => ?_)
  · skip
    refine r_iconst (pc := 16) (v := 0) hC dX0_hasRoute_16 (by decide) ?_
    refine r_iret (pc := 17) hC hD rfl dX0_hasRoute_17 rfl ?_
    exact ⟨by simp [bq1], rfl, rfl, rfl⟩
  · skip
    refine r_iload_n (pc := 4) hC dX0_hasRoute_4 rfl ?_
    refine r_aload_n (pc := 5) hC dX0_hasRoute_5 rfl ?_
    refine g_Blind_routeCount (pc := 6) hC wi_X0_hasRoute_0 wl_X0_hasRoute_56 (by assumption) dX0_hasRoute_6 ?_
    refine r_icmp_ge (pc := 9) (tgt := 16) hC dX0_hasRoute_9 (by decide) (fun bq9 => ?_) (fun bq9 => ?_)
    · skip
      refine r_iconst (pc := 16) (v := 0) hC dX0_hasRoute_16 (by decide) ?_
      refine r_iret (pc := 17) hC hD rfl dX0_hasRoute_17 rfl ?_
      exact ⟨by simp [bq1, bq9], rfl, rfl, rfl⟩
    · skip
      refine r_iconst (pc := 12) (v := 1) hC dX0_hasRoute_12 (by decide) ?_
      refine r_goto (pc := 13) (tgt := 17) hC dX0_hasRoute_13 (by decide) ?_
      refine r_iret (pc := 17) hC hD rfl dX0_hasRoute_17 rfl ?_
      exact ⟨by simp [bq1, bq9], rfl, rfl, rfl⟩
theorem k_X0_hasRoute {X : xF} {G : xG} {cs : Nat × Nat} {μ : xM} {I : xI} {P : xP} {L : List (Option Value)} {pc : Nat} {rest : List Value} {cc : ByteArray} {Ts : List Cond} {own : String} {nL : Nat} {R : Room} (hC : xC X G cc Ts own nL R) {index : Nat} (hG : GoodIn Ts (wsV own index RX0 yX0_hasRoute wsX0_hasRoute)) (hR : rm_X0_hasRoute.frames + 1 ≤ R.frames ∧ 8 + (2 + 11) + rm_X0_hasRoute.locals ≤ R.locals) {b : Nat} {r : Int32} (kb : μ.2.1 b = 1) (hW : (rest.map fun v => v.category).sum ≤ 8) (hL : L.length = nL) (hcs : cs.1 ≤ R.cells ∧ cs.2 ≤ R.slots) (hdec : decode cc pc = .ok (.invokevirtual index, 3)) (kk : xg X G cs μ I P L (pc + 3) (.int (if r < 0 then 0 else if I b 4 ≤ r then 0 else 1) :: rest)) : xg X G cs μ I P L pc (.int r :: .ref (xZ G + b) :: rest) :=
  r_callV hC (c_X0_hasRoute X.2.1 kb) hG rfl rfl rfl hd_X0_hasRoute hR (by rw [kb]; decide) (xe_Blind kb) rfl rfl rfl hW hL hcs hdec (by rintro v μ' I' P' ⟨rfl, rfl, rfl, rfl⟩; exact kk)
abbrev rm_X0_rowAfter : Room := { frames := 0, cells := 0, slots := 0, locals := 0 }
theorem wl_X0_rowAfter_53 : Cond.fieldLink RX0 53 "HandBlinds$Blind" "shown" "I" ∈ wsX0_rowAfter := List.mem_of_getElem? (i := 1) (by decide +kernel)
theorem wi_X0_rowAfter_0 : ∀ w ∈ wsX00, w ∈ wsX0_rowAfter := fun _ h => List.mem_cons_of_mem _ (List.mem_append_right _ h)
theorem hd_X0_rowAfter : yX0_rowAfter.cls = RX0 ∧ yX0_rowAfter.cls ≠ "java/lang/invoke/MethodHandle" ∧ yX0_rowAfter.cls ≠ "java/lang/invoke/VarHandle" ∧ (parseMethodDescriptor yX0_rowAfter.desc).map (fun d => d.parameters.length) = some 2 := ⟨rfl, by decide +kernel, by decide +kernel, by decide +kernel⟩
set_option maxHeartbeats 4000000 in
set_option maxRecDepth 100000 in
theorem c_X0_rowAfter (l : Launch) {G : xG} {μ : xM} {I : xI} {P : xP} {b : Nat} {w n : Int32} (kb : μ.2.1 b = 1) : Ct l yX0_rowAfter wsX0_rowAfter rm_X0_rowAfter G μ I P [.ref (xZ G + b), .int w, .int n] 0 0 (fun vv μ' I' P' => vv = some (.int (if w ≤ 0 then I b 2 - n else I b 2 + n)) ∧ μ' = μ ∧ I' = (I) ∧ P' = (P)) := by
  refine Ct.of (cc := cX0_rowAfter) (maxL := 3) (ret := (some .int)) [some (.ref (xZ G + b)), some (.int w), some (.int n)] (by decide) rfl rfl rfl (Nat.le_of_ble_eq_true rfl) ?_
  intro X hC hD h0 _
  refine r_iload_n (pc := 0) hC dX0_rowAfter_0 rfl ?_
  refine r_if_le (pc := 1) (tgt := 13) hC dX0_rowAfter_1 (by decide) (fun bq1 => ?_) (fun bq1 => ?_)
  · skip
    refine r_aload_n (pc := 13) hC dX0_rowAfter_13 rfl ?_
    refine g_Blind_shown (pc := 14) hC wi_X0_rowAfter_0 wl_X0_rowAfter_53 (by assumption) dX0_rowAfter_14 ?_
    refine r_iload_n (pc := 17) hC dX0_rowAfter_17 rfl ?_
    refine r_isub (pc := 18) hC dX0_rowAfter_18 ?_
    refine r_iret (pc := 19) hC hD rfl dX0_rowAfter_19 rfl ?_
    exact ⟨by simp [bq1], rfl, rfl, rfl⟩
  · skip
    refine r_aload_n (pc := 4) hC dX0_rowAfter_4 rfl ?_
    refine g_Blind_shown (pc := 5) hC wi_X0_rowAfter_0 wl_X0_rowAfter_53 (by assumption) dX0_rowAfter_5 ?_
    refine r_iload_n (pc := 8) hC dX0_rowAfter_8 rfl ?_
    refine r_iadd (pc := 9) hC dX0_rowAfter_9 ?_
    refine r_goto (pc := 10) (tgt := 19) hC dX0_rowAfter_10 (by decide) ?_
    refine r_iret (pc := 19) hC hD rfl dX0_rowAfter_19 rfl ?_
    exact ⟨by simp [bq1], rfl, rfl, rfl⟩
theorem k_X0_rowAfter {X : xF} {G : xG} {cs : Nat × Nat} {μ : xM} {I : xI} {P : xP} {L : List (Option Value)} {pc : Nat} {rest : List Value} {cc : ByteArray} {Ts : List Cond} {own : String} {nL : Nat} {R : Room} (hC : xC X G cc Ts own nL R) {index : Nat} (hG : GoodIn Ts (wsV own index RX0 yX0_rowAfter wsX0_rowAfter)) (hR : rm_X0_rowAfter.frames + 1 ≤ R.frames ∧ 8 + (3 + 11) + rm_X0_rowAfter.locals ≤ R.locals) {b : Nat} {w n : Int32} (kb : μ.2.1 b = 1) (hW : (rest.map fun v => v.category).sum ≤ 8) (hL : L.length = nL) (hcs : cs.1 ≤ R.cells ∧ cs.2 ≤ R.slots) (hdec : decode cc pc = .ok (.invokevirtual index, 3)) (kk : xg X G cs μ I P L (pc + 3) (.int (if w ≤ 0 then I b 2 - n else I b 2 + n) :: rest)) : xg X G cs μ I P L pc (.int n :: .int w :: .ref (xZ G + b) :: rest) :=
  r_callV hC (c_X0_rowAfter X.2.1 kb) hG rfl rfl rfl hd_X0_rowAfter hR (by rw [kb]; decide) (xe_Blind kb) rfl rfl rfl hW hL hcs hdec (by rintro v μ' I' P' ⟨rfl, rfl, rfl, rfl⟩; exact kk)
abbrev rm_X0_isEnd : Room := { frames := 0, cells := 0, slots := 0, locals := 0 }
theorem wl_X0_isEnd_50 : Cond.fieldLink RX0 50 "HandBlinds$Blind" "rowCount" "I" ∈ wsX0_isEnd := List.mem_of_getElem? (i := 1) (by decide +kernel)
theorem wi_X0_isEnd_0 : ∀ w ∈ wsX00, w ∈ wsX0_isEnd := fun _ h => List.mem_cons_of_mem _ (List.mem_append_right _ h)
theorem hd_X0_isEnd : yX0_isEnd.cls = RX0 ∧ yX0_isEnd.cls ≠ "java/lang/invoke/MethodHandle" ∧ yX0_isEnd.cls ≠ "java/lang/invoke/VarHandle" ∧ (parseMethodDescriptor yX0_isEnd.desc).map (fun d => d.parameters.length) = some 2 := ⟨rfl, by decide +kernel, by decide +kernel, by decide +kernel⟩
set_option maxHeartbeats 4000000 in
set_option maxRecDepth 100000 in
theorem c_X0_isEnd (l : Launch) {G : xG} {μ : xM} {I : xI} {P : xP} {b : Nat} {w r : Int32} (kb : μ.2.1 b = 1) : Ct l yX0_isEnd wsX0_isEnd rm_X0_isEnd G μ I P [.ref (xZ G + b), .int w, .int r] 0 0 (fun vv μ' I' P' => vv = some (.int (if w ≤ 0 then (if 0 < r then 0 else 1) else if r < I b 1 - 1 then 0 else 1)) ∧ μ' = μ ∧ I' = (I) ∧ P' = (P)) := by
  refine Ct.of (cc := cX0_isEnd) (maxL := 3) (ret := (some .boolean)) [some (.ref (xZ G + b)), some (.int w), some (.int r)] (by decide) rfl rfl rfl (Nat.le_of_ble_eq_true rfl) ?_
  intro X hC hD h0 _
  refine r_iload_n (pc := 0) hC dX0_isEnd_0 rfl ?_
  refine r_if_le (pc := 1) (tgt := 22) hC dX0_isEnd_1 (by decide) (fun bq1 => ?_) (fun bq1 => ?_)
  · skip
    refine r_iload_n (pc := 22) hC dX0_isEnd_22 rfl ?_
    refine r_if_gt (pc := 23) (tgt := 30) hC dX0_isEnd_23 (by decide) (fun bq23 => ?_) (fun bq23 => ?_)
    · skip
      refine r_iconst (pc := 30) (v := 0) hC dX0_isEnd_30 (by decide) ?_
      refine r_iret (pc := 31) hC hD rfl dX0_isEnd_31 rfl ?_
      exact ⟨by simp [bq1, bq23], rfl, rfl, rfl⟩
    · skip
      refine r_iconst (pc := 26) (v := 1) hC dX0_isEnd_26 (by decide) ?_
      refine r_goto (pc := 27) (tgt := 31) hC dX0_isEnd_27 (by decide) ?_
      refine r_iret (pc := 31) hC hD rfl dX0_isEnd_31 rfl ?_
      exact ⟨by simp [bq1, bq23], rfl, rfl, rfl⟩
  · skip
    refine r_iload_n (pc := 4) hC dX0_isEnd_4 rfl ?_
    refine r_aload_n (pc := 5) hC dX0_isEnd_5 rfl ?_
    refine g_Blind_rowCount (pc := 6) hC wi_X0_isEnd_0 wl_X0_isEnd_50 (by assumption) dX0_isEnd_6 ?_
    refine r_iconst (pc := 9) (v := 1) hC dX0_isEnd_9 (by decide) ?_
    refine r_isub (pc := 10) hC dX0_isEnd_10 ?_
    refine r_icmp_lt (pc := 11) (tgt := 18) hC dX0_isEnd_11 (by decide) (fun bq11 => ?_) (fun bq11 => ?_)
    · skip
      refine r_iconst (pc := 18) (v := 0) hC dX0_isEnd_18 (by decide) ?_
      refine r_goto (pc := 19) (tgt := 31) hC dX0_isEnd_19 (by decide) ?_
      refine r_iret (pc := 31) hC hD rfl dX0_isEnd_31 rfl ?_
      exact ⟨by simp [bq1, bq11], rfl, rfl, rfl⟩
    · skip
      refine r_iconst (pc := 14) (v := 1) hC dX0_isEnd_14 (by decide) ?_
      refine r_goto (pc := 15) (tgt := 31) hC dX0_isEnd_15 (by decide) ?_
      refine r_iret (pc := 31) hC hD rfl dX0_isEnd_31 rfl ?_
      exact ⟨by simp [bq1, bq11], rfl, rfl, rfl⟩
theorem k_X0_isEnd {X : xF} {G : xG} {cs : Nat × Nat} {μ : xM} {I : xI} {P : xP} {L : List (Option Value)} {pc : Nat} {rest : List Value} {cc : ByteArray} {Ts : List Cond} {own : String} {nL : Nat} {R : Room} (hC : xC X G cc Ts own nL R) {index : Nat} (hG : GoodIn Ts (wsV own index RX0 yX0_isEnd wsX0_isEnd)) (hR : rm_X0_isEnd.frames + 1 ≤ R.frames ∧ 8 + (3 + 11) + rm_X0_isEnd.locals ≤ R.locals) {b : Nat} {w r : Int32} (kb : μ.2.1 b = 1) (hW : (rest.map fun v => v.category).sum ≤ 8) (hL : L.length = nL) (hcs : cs.1 ≤ R.cells ∧ cs.2 ≤ R.slots) (hdec : decode cc pc = .ok (.invokevirtual index, 3)) (kk : xg X G cs μ I P L (pc + 3) (.int (if w ≤ 0 then (if 0 < r then 0 else 1) else if r < I b 1 - 1 then 0 else 1) :: rest)) : xg X G cs μ I P L pc (.int r :: .int w :: .ref (xZ G + b) :: rest) :=
  r_callV hC (c_X0_isEnd X.2.1 kb) hG rfl rfl rfl hd_X0_isEnd hR (by rw [kb]; decide) (xe_Blind kb) rfl rfl rfl hW hL hcs hdec (by rintro v μ' I' P' ⟨rfl, rfl, rfl, rfl⟩; exact kk)
abbrev rm_X0_isSkipped : Room := { frames := 0, cells := 0, slots := 0, locals := 0 }
theorem hd_X0_isSkipped : yX0_isSkipped.cls = RX0 ∧ yX0_isSkipped.cls ≠ "java/lang/invoke/MethodHandle" ∧ yX0_isSkipped.cls ≠ "java/lang/invoke/VarHandle" ∧ (parseMethodDescriptor yX0_isSkipped.desc).map (fun d => d.parameters.length) = some 2 := ⟨rfl, by decide +kernel, by decide +kernel, by decide +kernel⟩
set_option maxHeartbeats 4000000 in
set_option maxRecDepth 100000 in
theorem c_X0_isSkipped (l : Launch) {G : xG} {μ : xM} {I : xI} {P : xP} {b : Nat} {i v : Int32} (kb : μ.2.1 b = 1) : Ct l yX0_isSkipped wsX0_isSkipped rm_X0_isSkipped G μ I P [.ref (xZ G + b), .int i, .int v] 0 0 (fun vv μ' I' P' => vv = some (.int (if v = 3 then (if i - i / 2 * 2 = 1 then 1 else 0) else 0)) ∧ μ' = μ ∧ I' = (I) ∧ P' = (P)) := by
  refine Ct.of (cc := cX0_isSkipped) (maxL := 3) (ret := (some .boolean)) [some (.ref (xZ G + b)), some (.int i), some (.int v)] (by decide) rfl rfl rfl (Nat.le_of_ble_eq_true rfl) ?_
  intro X hC hD h0 _
  refine r_iload_n (pc := 0) hC dX0_isSkipped_0 rfl ?_
  refine r_iconst (pc := 1) (v := 3) hC dX0_isSkipped_1 (by decide) ?_
  refine r_icmp_ne (pc := 2) (tgt := 16) hC dX0_isSkipped_2 (by decide) (fun bq2 => ?_) (fun bq2 => ?_)
  · skip
    refine r_iconst (pc := 16) (v := 0) hC dX0_isSkipped_16 (by decide) ?_
    refine r_iret (pc := 17) hC hD rfl dX0_isSkipped_17 rfl ?_
    exact ⟨by simp [bq2], rfl, rfl, rfl⟩
  · skip
    refine r_iload_n (pc := 5) hC dX0_isSkipped_5 rfl ?_
    refine r_iconst (pc := 6) (v := 2) hC dX0_isSkipped_6 (by decide) ?_
    refine r_irem (pc := 7) hC dX0_isSkipped_7 (by decide) ?_
    refine r_iconst (pc := 8) (v := 1) hC dX0_isSkipped_8 (by decide) ?_
    refine r_icmp_ne (pc := 9) (tgt := 16) hC dX0_isSkipped_9 (by decide) (fun bq9 => ?_) (fun bq9 => ?_)
    · skip
      refine r_iconst (pc := 16) (v := 0) hC dX0_isSkipped_16 (by decide) ?_
      refine r_iret (pc := 17) hC hD rfl dX0_isSkipped_17 rfl ?_
      exact ⟨by simp [bq2, bq9], rfl, rfl, rfl⟩
    · skip
      refine r_iconst (pc := 12) (v := 1) hC dX0_isSkipped_12 (by decide) ?_
      refine r_goto (pc := 13) (tgt := 17) hC dX0_isSkipped_13 (by decide) ?_
      refine r_iret (pc := 17) hC hD rfl dX0_isSkipped_17 rfl ?_
      exact ⟨by simp [bq2, bq9], rfl, rfl, rfl⟩
theorem k_X0_isSkipped {X : xF} {G : xG} {cs : Nat × Nat} {μ : xM} {I : xI} {P : xP} {L : List (Option Value)} {pc : Nat} {rest : List Value} {cc : ByteArray} {Ts : List Cond} {own : String} {nL : Nat} {R : Room} (hC : xC X G cc Ts own nL R) {index : Nat} (hG : GoodIn Ts (wsV own index RX0 yX0_isSkipped wsX0_isSkipped)) (hR : rm_X0_isSkipped.frames + 1 ≤ R.frames ∧ 8 + (3 + 11) + rm_X0_isSkipped.locals ≤ R.locals) {b : Nat} {i v : Int32} (kb : μ.2.1 b = 1) (hW : (rest.map fun v => v.category).sum ≤ 8) (hL : L.length = nL) (hcs : cs.1 ≤ R.cells ∧ cs.2 ≤ R.slots) (hdec : decode cc pc = .ok (.invokevirtual index, 3)) (kk : xg X G cs μ I P L (pc + 3) (.int (if v = 3 then (if i - i / 2 * 2 = 1 then 1 else 0) else 0) :: rest)) : xg X G cs μ I P L pc (.int v :: .int i :: .ref (xZ G + b) :: rest) :=
  r_callV hC (c_X0_isSkipped X.2.1 kb) hG rfl rfl rfl hd_X0_isSkipped hR (by rw [kb]; decide) (xe_Blind kb) rfl rfl rfl hW hL hcs hdec (by rintro v μ' I' P' ⟨rfl, rfl, rfl, rfl⟩; exact kk)
abbrev rm_X1_owns : Room := { frames := 0, cells := 0, slots := 0, locals := 0 }
theorem wl_X1_owns_7 : Cond.fieldLink RX1 7 "HandBlinds$Route" "rows" "I" ∈ wsX1_owns := List.mem_of_getElem? (i := 1) (by decide +kernel)
theorem wi_X1_owns_1 : ∀ w ∈ wsX10, w ∈ wsX1_owns := fun _ h => List.mem_cons_of_mem _ (List.mem_append_right _ h)
theorem hd_X1_owns : yX1_owns.cls = RX1 ∧ yX1_owns.cls ≠ "java/lang/invoke/MethodHandle" ∧ yX1_owns.cls ≠ "java/lang/invoke/VarHandle" ∧ (parseMethodDescriptor yX1_owns.desc).map (fun d => d.parameters.length) = some 1 := ⟨rfl, by decide +kernel, by decide +kernel, by decide +kernel⟩
set_option maxHeartbeats 4000000 in
set_option maxRecDepth 100000 in
theorem c_X1_owns (l : Launch) {G : xG} {μ : xM} {I : xI} {P : xP} {a : Nat} {r : Int32} (ka : μ.2.1 a = 2) : Ct l yX1_owns wsX1_owns rm_X1_owns G μ I P [.ref (xZ G + a), .int r] 0 0 (fun vv μ' I' P' => vv = some (.int (if I a 0 >>> (r &&& 31) &&& 1 = 1 then 1 else 0)) ∧ μ' = μ ∧ I' = (I) ∧ P' = (P)) := by
  refine Ct.of (cc := cX1_owns) (maxL := 2) (ret := (some .boolean)) [some (.ref (xZ G + a)), some (.int r)] (by decide) rfl rfl rfl (Nat.le_of_ble_eq_true rfl) ?_
  intro X hC hD h0 _
  refine r_aload_n (pc := 0) hC dX1_owns_0 rfl ?_
  refine g_Route_rows (pc := 1) hC wi_X1_owns_1 wl_X1_owns_7 (by assumption) dX1_owns_1 ?_
  refine r_iload_n (pc := 4) hC dX1_owns_4 rfl ?_
  refine r_ishr (pc := 5) hC dX1_owns_5 ?_
  refine r_iconst (pc := 6) (v := 1) hC dX1_owns_6 (by decide) ?_
  refine r_iand (pc := 7) hC dX1_owns_7 ?_
  refine r_iconst (pc := 8) (v := 1) hC dX1_owns_8 (by decide) ?_
  refine r_icmp_ne (pc := 9) (tgt := 16) hC dX1_owns_9 (by decide) (fun bq9 => ?_) (fun bq9 => ?_)
  · skip
    refine r_iconst (pc := 16) (v := 0) hC dX1_owns_16 (by decide) ?_
    refine r_iret (pc := 17) hC hD rfl dX1_owns_17 rfl ?_
    exact ⟨by simp [bq9], rfl, rfl, rfl⟩
  · skip
    refine r_iconst (pc := 12) (v := 1) hC dX1_owns_12 (by decide) ?_
    refine r_goto (pc := 13) (tgt := 17) hC dX1_owns_13 (by decide) ?_
    refine r_iret (pc := 17) hC hD rfl dX1_owns_17 rfl ?_
    exact ⟨by simp [bq9], rfl, rfl, rfl⟩
theorem k_X1_owns {X : xF} {G : xG} {cs : Nat × Nat} {μ : xM} {I : xI} {P : xP} {L : List (Option Value)} {pc : Nat} {rest : List Value} {cc : ByteArray} {Ts : List Cond} {own : String} {nL : Nat} {R : Room} (hC : xC X G cc Ts own nL R) {index : Nat} (hG : GoodIn Ts (wsV own index RX1 yX1_owns wsX1_owns)) (hR : rm_X1_owns.frames + 1 ≤ R.frames ∧ 8 + (2 + 11) + rm_X1_owns.locals ≤ R.locals) {a : Nat} {r : Int32} (ka : μ.2.1 a = 2) (hW : (rest.map fun v => v.category).sum ≤ 8) (hL : L.length = nL) (hcs : cs.1 ≤ R.cells ∧ cs.2 ≤ R.slots) (hdec : decode cc pc = .ok (.invokevirtual index, 3)) (kk : xg X G cs μ I P L (pc + 3) (.int (if I a 0 >>> (r &&& 31) &&& 1 = 1 then 1 else 0) :: rest)) : xg X G cs μ I P L pc (.int r :: .ref (xZ G + a) :: rest) :=
  r_callV hC (c_X1_owns X.2.1 ka) hG rfl rfl rfl hd_X1_owns hR (by rw [ka]; decide) (xe_Route ka) rfl rfl rfl hW hL hcs hdec (by rintro v μ' I' P' ⟨rfl, rfl, rfl, rfl⟩; exact kk)
abbrev rm_X2_patch : Room := { frames := 0, cells := 0, slots := 0, locals := 0 }
theorem wl_X2_patch_25 : Cond.fieldLink RX2 25 "HandBlinds$Row" "wear" "I" ∈ wsX2_patch := List.mem_of_getElem? (i := 1) (by decide +kernel)
theorem wi_X2_patch_2 : ∀ w ∈ wsX20, w ∈ wsX2_patch := fun _ h => List.mem_cons_of_mem _ (List.mem_append_right _ h)
theorem wl_X2_patch_28 : Cond.fieldLink RX2 28 "HandBlinds$Row" "torn" "Z" ∈ wsX2_patch := List.mem_of_getElem? (i := 2) (by decide +kernel)
theorem hd_X2_patch : yX2_patch.cls = RX2 ∧ yX2_patch.cls ≠ "java/lang/invoke/MethodHandle" ∧ yX2_patch.cls ≠ "java/lang/invoke/VarHandle" ∧ (parseMethodDescriptor yX2_patch.desc).map (fun d => d.parameters.length) = some 0 := ⟨rfl, by decide +kernel, by decide +kernel, by decide +kernel⟩
set_option maxHeartbeats 4000000 in
set_option maxRecDepth 100000 in
theorem c_X2_patch (l : Launch) {G : xG} {μ : xM} {I : xI} {P : xP} {a : Nat} (ka : μ.2.1 a = 3) : Ct l yX2_patch wsX2_patch rm_X2_patch G μ I P [.ref (xZ G + a)] 0 0 (fun vv μ' I' P' => vv = none ∧ μ' = μ ∧ I' = (xu (xu I a 2 (I a 2 / 2)) a 3 0) ∧ P' = (P)) := by
  refine Ct.of (cc := cX2_patch) (maxL := 1) (ret := none) [some (.ref (xZ G + a))] (by decide) rfl rfl rfl (Nat.le_of_ble_eq_true rfl) ?_
  intro X hC hD h0 _
  refine r_aload_n (pc := 0) hC dX2_patch_0 rfl ?_
  refine r_aload_n (pc := 1) hC dX2_patch_1 rfl ?_
  refine g_Row_wear (pc := 2) hC wi_X2_patch_2 wl_X2_patch_25 (by assumption) dX2_patch_2 ?_
  refine r_iconst (pc := 5) (v := 2) hC dX2_patch_5 (by decide) ?_
  refine r_idiv (pc := 6) hC dX2_patch_6 (by decide) ?_
  refine p_Row_wear (pc := 7) hC wi_X2_patch_2 wl_X2_patch_25 (by assumption) dX2_patch_7 ?_
  refine r_aload_n (pc := 10) hC dX2_patch_10 rfl ?_
  refine r_iconst (pc := 11) (v := 0) hC dX2_patch_11 (by decide) ?_
  refine p_Row_torn (pc := 12) hC (by first | exact Or.inl rfl | exact Or.inr rfl | assumption) wi_X2_patch_2 wl_X2_patch_28 (by assumption) dX2_patch_12 ?_
  refine r_vret (pc := 15) hC hD dX2_patch_15 rfl ?_
  exact ⟨rfl, rfl, rfl, rfl⟩
theorem k_X2_patch {X : xF} {G : xG} {cs : Nat × Nat} {μ : xM} {I : xI} {P : xP} {L : List (Option Value)} {pc : Nat} {rest : List Value} {cc : ByteArray} {Ts : List Cond} {own : String} {nL : Nat} {R : Room} (hC : xC X G cc Ts own nL R) {index : Nat} (hG : GoodIn Ts (wsV own index RX2 yX2_patch wsX2_patch)) (hR : rm_X2_patch.frames + 1 ≤ R.frames ∧ 8 + (1 + 11) + rm_X2_patch.locals ≤ R.locals) {a : Nat} (ka : μ.2.1 a = 3) (hW : (rest.map fun v => v.category).sum ≤ 8) (hL : L.length = nL) (hcs : cs.1 ≤ R.cells ∧ cs.2 ≤ R.slots) (hdec : decode cc pc = .ok (.invokevirtual index, 3)) (kk : xg X G cs μ (xu (xu I a 2 (I a 2 / 2)) a 3 0) P L (pc + 3) rest) : xg X G cs μ I P L pc (.ref (xZ G + a) :: rest) :=
  r_callV hC (c_X2_patch X.2.1 ka) hG rfl rfl rfl hd_X2_patch hR (by rw [ka]; decide) (xe_Row ka) rfl rfl rfl hW hL hcs hdec (by rintro v μ' I' P' ⟨rfl, rfl, rfl, rfl⟩; exact kk)
abbrev rm_X4_letterWidth : Room := { frames := 0, cells := 0, slots := 0, locals := 0 }
theorem hd_X4_letterWidth : yX4_letterWidth.cls = RX4 ∧ yX4_letterWidth.cls ≠ "java/lang/invoke/MethodHandle" ∧ yX4_letterWidth.cls ≠ "java/lang/invoke/VarHandle" ∧ (parseMethodDescriptor yX4_letterWidth.desc).map (fun d => d.parameters.length) = some 1 := ⟨rfl, by decide +kernel, by decide +kernel, by decide +kernel⟩
set_option maxHeartbeats 4000000 in
set_option maxRecDepth 100000 in
theorem c_X4_letterWidth (l : Launch) {G : xG} {μ : xM} {I : xI} {P : xP} {c : Int32}  : Ct l yX4_letterWidth wsX4_letterWidth rm_X4_letterWidth G μ I P [.int c] 0 0 (fun vv μ' I' P' => vv = some (.int (lw c)) ∧ μ' = μ ∧ I' = (I) ∧ P' = (P)) := by
  refine Ct.of (cc := cX4_letterWidth) (maxL := 1) (ret := (some .int)) [some (.int c)] (by decide) rfl rfl rfl (Nat.le_of_ble_eq_true rfl) ?_
  intro X hC hD h0 _
  refine r_iload_n (pc := 0) hC dX4_letterWidth_0 rfl ?_
  refine r_bipush (pc := 1) (v := 73) hC dX4_letterWidth_1 (by decide) ?_
  refine r_icmp_eq (pc := 3) (tgt := 12) hC dX4_letterWidth_3 (by decide) (fun bq3 => ?_) (fun bq3 => ?_)
  · skip
    refine r_iconst (pc := 12) (v := 1) hC dX4_letterWidth_12 (by decide) ?_
    refine r_iret (pc := 13) hC hD rfl dX4_letterWidth_13 rfl ?_
    exact ⟨by simp [lw, bq3], rfl, rfl, rfl⟩
  · skip
    refine r_iload_n (pc := 6) hC dX4_letterWidth_6 rfl ?_
    refine r_bipush (pc := 7) (v := 32) hC dX4_letterWidth_7 (by decide) ?_
    refine r_icmp_ne (pc := 9) (tgt := 14) hC dX4_letterWidth_9 (by decide) (fun bq9 => ?_) (fun bq9 => ?_)
    · skip
      refine r_iload_n (pc := 14) hC dX4_letterWidth_14 rfl ?_
      refine r_bipush (pc := 15) (v := 77) hC dX4_letterWidth_15 (by decide) ?_
      refine r_icmp_eq (pc := 17) (tgt := 26) hC dX4_letterWidth_17 (by decide) (fun bq17 => ?_) (fun bq17 => ?_)
      · skip
        refine r_iconst (pc := 26) (v := 3) hC dX4_letterWidth_26 (by decide) ?_
        refine r_goto (pc := 27) (tgt := 31) hC dX4_letterWidth_27 (by decide) ?_
        refine r_iret (pc := 31) hC hD rfl dX4_letterWidth_31 rfl ?_
        exact ⟨by simp [lw, bq3, bq9, bq17], rfl, rfl, rfl⟩
      · skip
        refine r_iload_n (pc := 20) hC dX4_letterWidth_20 rfl ?_
        refine r_bipush (pc := 21) (v := 87) hC dX4_letterWidth_21 (by decide) ?_
        refine r_icmp_ne (pc := 23) (tgt := 30) hC dX4_letterWidth_23 (by decide) (fun bq23 => ?_) (fun bq23 => ?_)
        · skip
          refine r_iconst (pc := 30) (v := 2) hC dX4_letterWidth_30 (by decide) ?_
          refine r_iret (pc := 31) hC hD rfl dX4_letterWidth_31 rfl ?_
          exact ⟨by simp [lw, bq3, bq9, bq17, bq23], rfl, rfl, rfl⟩
        · skip
          refine r_iconst (pc := 26) (v := 3) hC dX4_letterWidth_26 (by decide) ?_
          refine r_goto (pc := 27) (tgt := 31) hC dX4_letterWidth_27 (by decide) ?_
          refine r_iret (pc := 31) hC hD rfl dX4_letterWidth_31 rfl ?_
          exact ⟨by simp [lw, bq3, bq9, bq17, bq23], rfl, rfl, rfl⟩
    · skip
      refine r_iconst (pc := 12) (v := 1) hC dX4_letterWidth_12 (by decide) ?_
      refine r_iret (pc := 13) hC hD rfl dX4_letterWidth_13 rfl ?_
      exact ⟨by simp [lw, bq3, bq9], rfl, rfl, rfl⟩
theorem k_X4_letterWidth {X : xF} {G : xG} {cs : Nat × Nat} {μ : xM} {I : xI} {P : xP} {L : List (Option Value)} {pc : Nat} {rest : List Value} {cc : ByteArray} {Ts : List Cond} {own : String} {nL : Nat} {R : Room} (hC : xC X G cc Ts own nL R) {index : Nat} (hG : GoodIn Ts (va_wsS own index yX4_letterWidth wsX4_letterWidth)) (hR : rm_X4_letterWidth.frames + 1 ≤ R.frames ∧ 8 + (1 + 11) + rm_X4_letterWidth.locals ≤ R.locals) {c : Int32}  (hW : (rest.map fun v => v.category).sum ≤ 8) (hL : L.length = nL) (hcs : cs.1 ≤ R.cells ∧ cs.2 ≤ R.slots) (hdec : decode cc pc = .ok (.invokestatic index, 3)) (kk : xg X G cs μ I P L (pc + 3) (.int (lw c) :: rest)) : xg X G cs μ I P L pc (.int c :: rest) :=
  r_callS hC (c_X4_letterWidth X.2.1 ) hG rfl rfl rfl hd_X4_letterWidth.2 hR rfl rfl hW hL hcs hdec (by rintro v μ' I' P' ⟨rfl, rfl, rfl, rfl⟩; exact kk)
theorem k_X4_letterWidth_n {X : xF} {G : xG} {cs : Nat × Nat} {μ : xM} {I : xI} {P : xP} {L : List (Option Value)} {pc : Nat} {rest : List Value} {cc : ByteArray} {Ts : List Cond} {own : String} {nL : Nat} {R : Room} (hC : xC X G cc Ts own nL R) {index : Nat} (hN : xN G X.2.2.2.2.1 → va_Nw (.methodLinkNest own index yX4_letterWidth "HandBlinds") X.2.2.2.2.1) (hini : Cond.initialized RX4 ∈ Ts) (hsta : Cond.static yX4_letterWidth ∈ Ts) (hG : GoodIn Ts wsX4_letterWidth) (hR : rm_X4_letterWidth.frames + 1 ≤ R.frames ∧ 8 + (1 + 11) + rm_X4_letterWidth.locals ≤ R.locals) {c : Int32}  (hW : (rest.map fun v => v.category).sum ≤ 8) (hL : L.length = nL) (hcs : cs.1 ≤ R.cells ∧ cs.2 ≤ R.slots) (hdec : decode cc pc = .ok (.invokestatic index, 3)) (kk : xg X G cs μ I P L (pc + 3) (.int (lw c) :: rest)) : xg X G cs μ I P L pc (.int c :: rest) :=
  r_callSN hC hN hini hsta (c_X4_letterWidth X.2.1 ) hG rfl rfl rfl hd_X4_letterWidth.2 hR rfl rfl hW hL hcs hdec (by rintro v μ' I' P' ⟨rfl, rfl, rfl, rfl⟩; exact kk)
abbrev rm_X4_isCranking : Room := { frames := 0, cells := 0, slots := 0, locals := 0 }
theorem hd_X4_isCranking : yX4_isCranking.cls = RX4 ∧ yX4_isCranking.cls ≠ "java/lang/invoke/MethodHandle" ∧ yX4_isCranking.cls ≠ "java/lang/invoke/VarHandle" ∧ (parseMethodDescriptor yX4_isCranking.desc).map (fun d => d.parameters.length) = some 2 := ⟨rfl, by decide +kernel, by decide +kernel, by decide +kernel⟩
set_option maxHeartbeats 4000000 in
set_option maxRecDepth 100000 in
theorem c_X4_isCranking (l : Launch) {G : xG} {μ : xM} {I : xI} {P : xP} {r v : Int32}  : Ct l yX4_isCranking wsX4_isCranking rm_X4_isCranking G μ I P [.int r, .int v] 0 0 (fun vv μ' I' P' => vv = some (.int (if r < -20 then 0 else if 20 < r then 0 else if r = 0 then 0 else if v < 1 then 0 else if 3 < v then 0 else 1)) ∧ μ' = μ ∧ I' = (I) ∧ P' = (P)) := by
  refine Ct.of (cc := cX4_isCranking) (maxL := 2) (ret := (some .boolean)) [some (.int r), some (.int v)] (by decide) rfl rfl rfl (Nat.le_of_ble_eq_true rfl) ?_
  intro X hC hD h0 _
  refine r_iload_n (pc := 0) hC dX4_isCranking_0 rfl ?_
  refine r_bipush (pc := 1) (v := -20) hC dX4_isCranking_1 (by decide) ?_
  refine r_icmp_lt (pc := 3) (tgt := 30) hC dX4_isCranking_3 (by decide) (fun bq3 => ?_) (fun bq3 => ?_)
  · skip
    refine r_iconst (pc := 30) (v := 0) hC dX4_isCranking_30 (by decide) ?_
    refine r_iret (pc := 31) hC hD rfl dX4_isCranking_31 rfl ?_
    exact ⟨by simp [bq3], rfl, rfl, rfl⟩
  · skip
    refine r_iload_n (pc := 6) hC dX4_isCranking_6 rfl ?_
    refine r_bipush (pc := 7) (v := 20) hC dX4_isCranking_7 (by decide) ?_
    refine r_icmp_gt (pc := 9) (tgt := 30) hC dX4_isCranking_9 (by decide) (fun bq9 => ?_) (fun bq9 => ?_)
    · skip
      refine r_iconst (pc := 30) (v := 0) hC dX4_isCranking_30 (by decide) ?_
      refine r_iret (pc := 31) hC hD rfl dX4_isCranking_31 rfl ?_
      exact ⟨by simp [bq3, bq9], rfl, rfl, rfl⟩
    · skip
      refine r_iload_n (pc := 12) hC dX4_isCranking_12 rfl ?_
      refine r_if_eq (pc := 13) (tgt := 30) hC dX4_isCranking_13 (by decide) (fun bq13 => ?_) (fun bq13 => ?_)
      · skip
        refine r_iconst (pc := 30) (v := 0) hC dX4_isCranking_30 (by decide) ?_
        refine r_iret (pc := 31) hC hD rfl dX4_isCranking_31 rfl ?_
        exact ⟨by simp [bq3, bq9, bq13], rfl, rfl, rfl⟩
      · skip
        refine r_iload_n (pc := 16) hC dX4_isCranking_16 rfl ?_
        refine r_iconst (pc := 17) (v := 1) hC dX4_isCranking_17 (by decide) ?_
        refine r_icmp_lt (pc := 18) (tgt := 30) hC dX4_isCranking_18 (by decide) (fun bq18 => ?_) (fun bq18 => ?_)
        · skip
          refine r_iconst (pc := 30) (v := 0) hC dX4_isCranking_30 (by decide) ?_
          refine r_iret (pc := 31) hC hD rfl dX4_isCranking_31 rfl ?_
          exact ⟨by simp [bq3, bq9, bq13, bq18], rfl, rfl, rfl⟩
        · skip
          refine r_iload_n (pc := 21) hC dX4_isCranking_21 rfl ?_
          refine r_iconst (pc := 22) (v := 3) hC dX4_isCranking_22 (by decide) ?_
          refine r_icmp_gt (pc := 23) (tgt := 30) hC dX4_isCranking_23 (by decide) (fun bq23 => ?_) (fun bq23 => ?_)
          · skip
            refine r_iconst (pc := 30) (v := 0) hC dX4_isCranking_30 (by decide) ?_
            refine r_iret (pc := 31) hC hD rfl dX4_isCranking_31 rfl ?_
            exact ⟨by simp [bq3, bq9, bq13, bq18, bq23], rfl, rfl, rfl⟩
          · skip
            refine r_iconst (pc := 26) (v := 1) hC dX4_isCranking_26 (by decide) ?_
            refine r_goto (pc := 27) (tgt := 31) hC dX4_isCranking_27 (by decide) ?_
            refine r_iret (pc := 31) hC hD rfl dX4_isCranking_31 rfl ?_
            exact ⟨by simp [bq3, bq9, bq13, bq18, bq23], rfl, rfl, rfl⟩
theorem k_X4_isCranking {X : xF} {G : xG} {cs : Nat × Nat} {μ : xM} {I : xI} {P : xP} {L : List (Option Value)} {pc : Nat} {rest : List Value} {cc : ByteArray} {Ts : List Cond} {own : String} {nL : Nat} {R : Room} (hC : xC X G cc Ts own nL R) {index : Nat} (hG : GoodIn Ts (va_wsS own index yX4_isCranking wsX4_isCranking)) (hR : rm_X4_isCranking.frames + 1 ≤ R.frames ∧ 8 + (2 + 11) + rm_X4_isCranking.locals ≤ R.locals) {r v : Int32}  (hW : (rest.map fun v => v.category).sum ≤ 8) (hL : L.length = nL) (hcs : cs.1 ≤ R.cells ∧ cs.2 ≤ R.slots) (hdec : decode cc pc = .ok (.invokestatic index, 3)) (kk : xg X G cs μ I P L (pc + 3) (.int (if r < -20 then 0 else if 20 < r then 0 else if r = 0 then 0 else if v < 1 then 0 else if 3 < v then 0 else 1) :: rest)) : xg X G cs μ I P L pc (.int v :: .int r :: rest) :=
  r_callS hC (c_X4_isCranking X.2.1 ) hG rfl rfl rfl hd_X4_isCranking.2 hR rfl rfl hW hL hcs hdec (by rintro v μ' I' P' ⟨rfl, rfl, rfl, rfl⟩; exact kk)
