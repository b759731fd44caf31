abbrev rm_X3_append : Room := { frames := 0, cells := 0, slots := 0, locals := 0 }
theorem wl_X3_append_15 : Cond.fieldLink RX3 15 "HandBlinds$Text" "length" "I" ∈ wsX3_append := List.mem_of_getElem? (i := 1) (by decide +kernel)
theorem wi_X3_append_3 : ∀ w ∈ wsX30, w ∈ wsX3_append := fun _ h => List.mem_cons_of_mem _ (List.mem_append_right _ h)
theorem wl_X3_append_9 : Cond.fieldLink RX3 9 "HandBlinds$Text" "signs" "[C" ∈ wsX3_append := List.mem_of_getElem? (i := 2) (by decide +kernel)
theorem hd_X3_append : yX3_append.cls = RX3 ∧ yX3_append.cls ≠ "java/lang/invoke/MethodHandle" ∧ yX3_append.cls ≠ "java/lang/invoke/VarHandle" ∧ (parseMethodDescriptor yX3_append.desc).map (fun d => d.parameters.length) = some 1 := ⟨rfl, by decide +kernel, by decide +kernel, by decide +kernel⟩
set_option maxHeartbeats 4000000 in
set_option maxRecDepth 100000 in
theorem c_X3_append (l : Launch) {G : xG} {μ : xM} {I : xI} {P : xP} {x t : Nat} {c : Int32} (kx : μ.2.1 x = 4) (ksg : μ.2.1 (P x 0) = 8) (lsg : μ.2.2 (P x 0) = 60) (ht : I x 1 = nI t) (ht60 : t ≤ 60) (ht59 : t < 60) (hc : vp_nar .char c = c) : Ct l yX3_append wsX3_append rm_X3_append G μ I P [.ref (xZ G + x), .int c] 0 0 (fun vv μ' I' P' => vv = none ∧ μ' = μ ∧ I' = (xu (xu I (P x 0) t c) x 1 (nI (t + 1))) ∧ P' = (P)) := by
  have hxs : x ≠ P x 0 := fun e => by rw [← e, kx] at ksg; cases ksg
  refine Ct.of (cc := cX3_append) (maxL := 2) (ret := none) [some (.ref (xZ G + x)), some (.int c)] (by decide) rfl rfl rfl (Nat.le_of_ble_eq_true rfl) ?_
  intro X hC hD h0 _
  refine r_aload_n (pc := 0) hC dX3_append_0 rfl ?_
  refine g_Text_length (pc := 1) hC wi_X3_append_3 wl_X3_append_15 (by assumption) dX3_append_1 ?_
  refine r_bipush (pc := 4) (v := 60) hC dX3_append_4 (by decide) ?_
  refine r_icmp_ge (pc := 6) (tgt := 29) hC dX3_append_6 (by decide) (fun bq6 => ?_) (fun bq6 => ?_)
  · skip
    exact absurd bq6 (by rw [ht]; exact nI_ge (b := 60) (by omega) (by decide))
  · skip
    refine r_aload_n (pc := 9) hC dX3_append_9 rfl ?_
    refine g_Text_signs (pc := 10) hC wi_X3_append_3 wl_X3_append_9 (by assumption) (c2 := 8) (by assumption) (by decide) dX3_append_10 ?_
    refine r_aload_n (pc := 13) hC dX3_append_13 rfl ?_
    refine g_Text_length (pc := 14) hC wi_X3_append_3 wl_X3_append_15 (by assumption) dX3_append_14 ?_
    refine r_iload_n (pc := 17) hC dX3_append_17 rfl ?_
    refine r_cast (pc := 18) hC ksg (xi_e ht lsg (by omega) (by decide)) dX3_append_18 ?_
    refine r_aload_n (pc := 19) hC dX3_append_19 rfl ?_
    refine r_dup (pc := 20) hC dX3_append_20 rfl ?_
    refine g_Text_length (pc := 21) hC wi_X3_append_3 wl_X3_append_15 (by assumption) dX3_append_21 ?_
    refine r_iconst (pc := 24) (v := 1) hC dX3_append_24 (by decide) ?_
    refine r_iadd (pc := 25) hC dX3_append_25 ?_
    rw [hc, xu_row hxs, ht, nI_1]
    refine p_Text_length (pc := 26) hC wi_X3_append_3 wl_X3_append_15 (by assumption) dX3_append_26 ?_
    refine r_vret (pc := 29) hC hD dX3_append_29 rfl ?_
    exact ⟨rfl, rfl, rfl, rfl⟩
theorem k_X3_append {X : xF} {G : xG} {cs : Nat × Nat} {μ : xM} {I : xI} {P : xP} {L : List (Option Value)} {pc : Nat} {rest : List Value} {cc : ByteArray} {Ts : List Cond} {own : String} {nL : Nat} {R : Room} (hC : xC X G cc Ts own nL R) {index : Nat} (hG : GoodIn Ts (wsV own index RX3 yX3_append wsX3_append)) (hR : rm_X3_append.frames + 1 ≤ R.frames ∧ 8 + (2 + 11) + rm_X3_append.locals ≤ R.locals) {x t : Nat} {c : Int32} (kx : μ.2.1 x = 4) (ksg : μ.2.1 (P x 0) = 8) (lsg : μ.2.2 (P x 0) = 60) (ht : I x 1 = nI t) (ht60 : t ≤ 60) (ht59 : t < 60) (hc : vp_nar .char c = c) (hW : (rest.map fun v => v.category).sum ≤ 8) (hL : L.length = nL) (hcs : cs.1 ≤ R.cells ∧ cs.2 ≤ R.slots) (hdec : decode cc pc = .ok (.invokevirtual index, 3)) (kk : xg X G cs μ (xu (xu I (P x 0) t c) x 1 (nI (t + 1))) P L (pc + 3) rest) : xg X G cs μ I P L pc (.int c :: .ref (xZ G + x) :: rest) :=
  r_callV hC (c_X3_append X.2.1 kx ksg lsg ht ht60 ht59 hc) hG rfl rfl rfl hd_X3_append hR (by rw [kx]; decide) (xe_Text kx) rfl rfl rfl hW hL hcs hdec (by rintro v μ' I' P' ⟨rfl, rfl, rfl, rfl⟩; exact kk)
abbrev rm_X3_namesAhead : Room := { frames := 0, cells := 0, slots := 0, locals := 0 }
theorem wl_X3_namesAhead_15 : Cond.fieldLink RX3 15 "HandBlinds$Text" "length" "I" ∈ wsX3_namesAhead := List.mem_of_getElem? (i := 1) (by decide +kernel)
theorem wi_X3_namesAhead_3 : ∀ w ∈ wsX30, w ∈ wsX3_namesAhead := fun _ h => List.mem_cons_of_mem _ (List.mem_append_right _ h)
theorem wl_X3_namesAhead_9 : Cond.fieldLink RX3 9 "HandBlinds$Text" "signs" "[C" ∈ wsX3_namesAhead := List.mem_of_getElem? (i := 2) (by decide +kernel)
theorem hd_X3_namesAhead : yX3_namesAhead.cls = RX3 ∧ yX3_namesAhead.cls ≠ "java/lang/invoke/MethodHandle" ∧ yX3_namesAhead.cls ≠ "java/lang/invoke/VarHandle" ∧ (parseMethodDescriptor yX3_namesAhead.desc).map (fun d => d.parameters.length) = some 1 := ⟨rfl, by decide +kernel, by decide +kernel, by decide +kernel⟩
set_option maxHeartbeats 4000000 in
set_option maxRecDepth 100000 in
theorem c_X3_namesAhead (l : Launch) {G : xG} {μ : xM} {I : xI} {P : xP} {x t p : Nat} (kx : μ.2.1 x = 4) (ksg : μ.2.1 (P x 0) = 8) (lsg : μ.2.2 (P x 0) = 60) (ht : I x 1 = nI t) (ht60 : t ≤ 60) (hpt : p ≤ t) : Ct l yX3_namesAhead wsX3_namesAhead rm_X3_namesAhead G μ I P [.ref (xZ G + x), .int (nI p)] 0 0 (fun vv μ' I' P' => vv = some (.int (nI (ncnt (I (P x 0)) p))) ∧ μ' = μ ∧ I' = (I) ∧ P' = (P)) := by
  refine Ct.of (cc := cX3_namesAhead) (maxL := 4) (ret := (some .int)) [some (.ref (xZ G + x)), some (.int (nI p)), none, none] (by decide) rfl rfl rfl (Nat.le_of_ble_eq_true rfl) ?_
  intro X hC hD h0 _
  have loop : ∀ (q k : Nat), k + q = p → xg X G (0, 0) μ I P [some (.ref (xZ G + x)), some (.int (nI p)), some (.int (nI (ncnt (I (P x 0)) k))), some (.int (nI k))] 4 [] := by
    intro q
    induction q with
    | zero =>
      intro k hk
      have ek : k = p := by omega
      subst ek
      refine r_iload_n (pc := 4) hC dX3_namesAhead_4 rfl ?_
      refine r_iload_n (pc := 5) hC dX3_namesAhead_5 rfl ?_
      refine r_icmp_ge (pc := 6) (tgt := 37) hC dX3_namesAhead_6 (by decide) (fun bq6 => ?_) (fun bq6 => ?_)
      · skip
        refine r_iload_n (pc := 37) hC dX3_namesAhead_37 rfl ?_
        refine r_iret (pc := 38) hC hD rfl dX3_namesAhead_38 rfl ?_
        exact ⟨rfl, rfl, rfl, rfl⟩
      · skip
        exact absurd (nI_le (by omega) (by omega)) bq6
    | succ q ih =>
      intro k hk
      refine r_iload_n (pc := 4) hC dX3_namesAhead_4 rfl ?_
      refine r_iload_n (pc := 5) hC dX3_namesAhead_5 rfl ?_
      refine r_icmp_ge (pc := 6) (tgt := 37) hC dX3_namesAhead_6 (by decide) (fun bq6 => ?_) (fun bq6 => ?_)
      · skip
        exact absurd bq6 (nI_ge (by omega) (by omega))
      · skip
        refine r_iload_n (pc := 9) hC dX3_namesAhead_9 rfl ?_
        refine r_aload_n (pc := 10) hC dX3_namesAhead_10 rfl ?_
        refine g_Text_length (pc := 11) hC wi_X3_namesAhead_3 wl_X3_namesAhead_15 (by assumption) dX3_namesAhead_11 ?_
        refine r_icmp_ge (pc := 14) (tgt := 37) hC dX3_namesAhead_14 (by decide) (fun bq14 => ?_) (fun bq14 => ?_)
        · skip
          exact absurd bq14 (by rw [ht]; exact nI_ge (by omega) (by omega))
        · skip
          refine r_aload_n (pc := 17) hC dX3_namesAhead_17 rfl ?_
          refine g_Text_signs (pc := 18) hC wi_X3_namesAhead_3 wl_X3_namesAhead_9 (by assumption) (c2 := 8) (by assumption) (by decide) dX3_namesAhead_18 ?_
          refine r_iload_n (pc := 21) hC dX3_namesAhead_21 rfl ?_
          refine r_cald (pc := 22) hC (k := k) ksg (xi_n (by rw [lsg]; omega) (by rw [lsg]; decide)) dX3_namesAhead_22 ?_
          refine r_bipush (pc := 23) (v := 47) hC dX3_namesAhead_23 (by decide) ?_
          refine r_icmp_ne (pc := 25) (tgt := 31) hC dX3_namesAhead_25 (by decide) (fun bq25 => ?_) (fun bq25 => ?_)
          · skip
            refine r_iinc (pc := 31) (v := 1) (L' := [_, _, _, _]) hC dX3_namesAhead_31 rfl (by decide) rfl rfl ?_
            refine r_goto (pc := 34) (tgt := 4) hC dX3_namesAhead_34 (by decide) ?_
            have e : ncnt (I (P x 0)) (k + 1) = ncnt (I (P x 0)) k := by rw [ncnt, if_neg bq25, Nat.add_zero]
            have z := ih (k + 1) (by omega)
            rw [e] at z
            rw [nI_1]; exact z
          · skip
            refine r_iinc (pc := 28) (v := 1) (L' := [_, _, _, _]) hC dX3_namesAhead_28 rfl (by decide) rfl rfl ?_
            refine r_iinc (pc := 31) (v := 1) (L' := [_, _, _, _]) hC dX3_namesAhead_31 rfl (by decide) rfl rfl ?_
            refine r_goto (pc := 34) (tgt := 4) hC dX3_namesAhead_34 (by decide) ?_
            have e : ncnt (I (P x 0)) (k + 1) = ncnt (I (P x 0)) k + 1 := by rw [ncnt, if_pos bq25]
            have z := ih (k + 1) (by omega)
            rw [e] at z
            rw [nI_1, nI_1]; exact z
  refine r_iconst (pc := 0) (v := 0) hC dX3_namesAhead_0 (by decide) ?_
  refine r_istore_n (pc := 1) (L' := [_, _, _, _]) hC dX3_namesAhead_1 rfl (Nat.le_of_ble_eq_true rfl) rfl ?_
  refine r_iconst (pc := 2) (v := 0) hC dX3_namesAhead_2 (by decide) ?_
  refine r_istore_n (pc := 3) (L' := [_, _, _, _]) hC dX3_namesAhead_3 rfl (Nat.le_of_ble_eq_true rfl) rfl ?_
  exact loop p 0 (by omega)
theorem k_X3_namesAhead {X : xF} {G : xG} {cs : Nat × Nat} {μ : xM} {I : xI} {P : xP} {L : List (Option Value)} {pc : Nat} {rest : List Value} {cc : ByteArray} {Ts : List Cond} {own : String} {nL : Nat} {R : Room} (hC : xC X G cc Ts own nL R) {index : Nat} (hG : GoodIn Ts (wsV own index RX3 yX3_namesAhead wsX3_namesAhead)) (hR : rm_X3_namesAhead.frames + 1 ≤ R.frames ∧ 8 + (4 + 11) + rm_X3_namesAhead.locals ≤ R.locals) {x t p : Nat} (kx : μ.2.1 x = 4) (ksg : μ.2.1 (P x 0) = 8) (lsg : μ.2.2 (P x 0) = 60) (ht : I x 1 = nI t) (ht60 : t ≤ 60) (hpt : p ≤ t) (hW : (rest.map fun v => v.category).sum ≤ 8) (hL : L.length = nL) (hcs : cs.1 ≤ R.cells ∧ cs.2 ≤ R.slots) (hdec : decode cc pc = .ok (.invokevirtual index, 3)) (kk : xg X G cs μ I P L (pc + 3) (.int (nI (ncnt (I (P x 0)) p)) :: rest)) : xg X G cs μ I P L pc (.int (nI p) :: .ref (xZ G + x) :: rest) :=
  r_callV hC (c_X3_namesAhead X.2.1 kx ksg lsg ht ht60 hpt) hG rfl rfl rfl hd_X3_namesAhead hR (by rw [kx]; decide) (xe_Text kx) rfl rfl rfl hW hL hcs hdec (by rintro v μ' I' P' ⟨rfl, rfl, rfl, rfl⟩; exact kk)
abbrev rm_X3_endOfName : Room := { frames := 0, cells := 0, slots := 0, locals := 0 }
theorem wl_X3_endOfName_15 : Cond.fieldLink RX3 15 "HandBlinds$Text" "length" "I" ∈ wsX3_endOfName := List.mem_of_getElem? (i := 1) (by decide +kernel)
theorem wi_X3_endOfName_3 : ∀ w ∈ wsX30, w ∈ wsX3_endOfName := fun _ h => List.mem_cons_of_mem _ (List.mem_append_right _ h)
theorem wl_X3_endOfName_9 : Cond.fieldLink RX3 9 "HandBlinds$Text" "signs" "[C" ∈ wsX3_endOfName := List.mem_of_getElem? (i := 2) (by decide +kernel)
theorem hd_X3_endOfName : yX3_endOfName.cls = RX3 ∧ yX3_endOfName.cls ≠ "java/lang/invoke/MethodHandle" ∧ yX3_endOfName.cls ≠ "java/lang/invoke/VarHandle" ∧ (parseMethodDescriptor yX3_endOfName.desc).map (fun d => d.parameters.length) = some 1 := ⟨rfl, by decide +kernel, by decide +kernel, by decide +kernel⟩
set_option maxHeartbeats 4000000 in
set_option maxRecDepth 100000 in
theorem c_X3_endOfName (l : Launch) {G : xG} {μ : xM} {I : xI} {P : xP} {x t f : Nat} (kx : μ.2.1 x = 4) (ksg : μ.2.1 (P x 0) = 8) (lsg : μ.2.2 (P x 0) = 60) (ht : I x 1 = nI t) (ht60 : t ≤ 60) (hft : f ≤ t) : Ct l yX3_endOfName wsX3_endOfName rm_X3_endOfName G μ I P [.ref (xZ G + x), .int (nI f)] 0 0 (fun vv μ' I' P' => vv = some (.int (nI (eon (I (P x 0)) t f))) ∧ μ' = μ ∧ I' = (I) ∧ P' = (P)) := by
  refine Ct.of (cc := cX3_endOfName) (maxL := 3) (ret := (some .int)) [some (.ref (xZ G + x)), some (.int (nI f)), none] (by decide) rfl rfl rfl (Nat.le_of_ble_eq_true rfl) ?_
  intro X hC hD h0 _
  have loop : ∀ (q k : Nat), k + q = t → f ≤ k → (∀ i, f ≤ i → i < k → isEndT (I (P x 0)) t i = false) → xg X G (0, 0) μ I P [some (.ref (xZ G + x)), some (.int (nI f)), some (.int (nI k))] 2 [] := by
    intro q
    induction q with
    | zero =>
      intro k hk hfk hno
      have ek : k = t := by omega
      subst ek
      refine r_iload_n (pc := 2) hC dX3_endOfName_2 rfl ?_
      refine r_aload_n (pc := 3) hC dX3_endOfName_3 rfl ?_
      refine g_Text_length (pc := 4) hC wi_X3_endOfName_3 wl_X3_endOfName_15 (by assumption) dX3_endOfName_4 ?_
      refine r_icmp_ge (pc := 7) (tgt := 29) hC dX3_endOfName_7 (by decide) (fun bq7 => ?_) (fun bq7 => ?_)
      · skip
        refine r_aload_n (pc := 29) hC dX3_endOfName_29 rfl ?_
        refine g_Text_length (pc := 30) hC wi_X3_endOfName_3 wl_X3_endOfName_15 (by assumption) dX3_endOfName_30 ?_
        refine r_iret (pc := 33) hC hD rfl dX3_endOfName_33 rfl ?_
        have hx : eon (I (P x 0)) k f = k := srch_at (k - f) f k hfk (by omega) hno (Or.inl (by omega))
        exact ⟨by rw [hx, ht], rfl, rfl, rfl⟩
      · skip
        exact absurd (by rw [ht]; exact nI_le (by omega) (by omega)) bq7
    | succ q ih =>
      intro k hk hfk hno
      refine r_iload_n (pc := 2) hC dX3_endOfName_2 rfl ?_
      refine r_aload_n (pc := 3) hC dX3_endOfName_3 rfl ?_
      refine g_Text_length (pc := 4) hC wi_X3_endOfName_3 wl_X3_endOfName_15 (by assumption) dX3_endOfName_4 ?_
      refine r_icmp_ge (pc := 7) (tgt := 29) hC dX3_endOfName_7 (by decide) (fun bq7 => ?_) (fun bq7 => ?_)
      · skip
        exact absurd bq7 (by rw [ht]; exact nI_ge (by omega) (by omega))
      · skip
        refine r_aload_n (pc := 10) hC dX3_endOfName_10 rfl ?_
        refine g_Text_signs (pc := 11) hC wi_X3_endOfName_3 wl_X3_endOfName_9 (by assumption) (c2 := 8) (by assumption) (by decide) dX3_endOfName_11 ?_
        refine r_iload_n (pc := 14) hC dX3_endOfName_14 rfl ?_
        refine r_cald (pc := 15) hC (k := k) ksg (xi_n (by rw [lsg]; omega) (by rw [lsg]; decide)) dX3_endOfName_15 ?_
        refine r_bipush (pc := 16) (v := 47) hC dX3_endOfName_16 (by decide) ?_
        refine r_icmp_ne (pc := 18) (tgt := 23) hC dX3_endOfName_18 (by decide) (fun bq18 => ?_) (fun bq18 => ?_)
        · skip
          refine r_iinc (pc := 23) (v := 1) (L' := [_, _, _]) hC dX3_endOfName_23 rfl (by decide) rfl rfl ?_
          refine r_goto (pc := 26) (tgt := 2) hC dX3_endOfName_26 (by decide) ?_
          have hp : isEndT (I (P x 0)) t k = false := by simp [isEndT, bq18]; omega
          rw [nI_1]; exact ih (k + 1) (by omega) (by omega) (fun i h1 hi => by rcases Nat.lt_or_ge i k with y | y; exact hno i h1 y; rw [show i = k by omega]; exact hp)
        · skip
          refine r_iload_n (pc := 21) hC dX3_endOfName_21 rfl ?_
          refine r_iret (pc := 22) hC hD rfl dX3_endOfName_22 rfl ?_
          have hx : eon (I (P x 0)) t f = k := srch_at (t - f) f k hfk (by omega) hno (Or.inr (by simp [isEndT, bq18]))
          exact ⟨by rw [hx], rfl, rfl, rfl⟩
  refine r_iload_n (pc := 0) hC dX3_endOfName_0 rfl ?_
  refine r_istore_n (pc := 1) (L' := [_, _, _]) hC dX3_endOfName_1 rfl (Nat.le_of_ble_eq_true rfl) rfl ?_
  exact loop (t - f) f (by omega) (Nat.le_refl f) (fun i h1 hi => absurd hi (by omega))
theorem k_X3_endOfName {X : xF} {G : xG} {cs : Nat × Nat} {μ : xM} {I : xI} {P : xP} {L : List (Option Value)} {pc : Nat} {rest : List Value} {cc : ByteArray} {Ts : List Cond} {own : String} {nL : Nat} {R : Room} (hC : xC X G cc Ts own nL R) {index : Nat} (hG : GoodIn Ts (wsV own index RX3 yX3_endOfName wsX3_endOfName)) (hR : rm_X3_endOfName.frames + 1 ≤ R.frames ∧ 8 + (3 + 11) + rm_X3_endOfName.locals ≤ R.locals) {x t f : Nat} (kx : μ.2.1 x = 4) (ksg : μ.2.1 (P x 0) = 8) (lsg : μ.2.2 (P x 0) = 60) (ht : I x 1 = nI t) (ht60 : t ≤ 60) (hft : f ≤ t) (hW : (rest.map fun v => v.category).sum ≤ 8) (hL : L.length = nL) (hcs : cs.1 ≤ R.cells ∧ cs.2 ≤ R.slots) (hdec : decode cc pc = .ok (.invokevirtual index, 3)) (kk : xg X G cs μ I P L (pc + 3) (.int (nI (eon (I (P x 0)) t f)) :: rest)) : xg X G cs μ I P L pc (.int (nI f) :: .ref (xZ G + x) :: rest) :=
  r_callV hC (c_X3_endOfName X.2.1 kx ksg lsg ht ht60 hft) hG rfl rfl rfl hd_X3_endOfName hR (by rw [kx]; decide) (xe_Text kx) rfl rfl rfl hW hL hcs hdec (by rintro v μ' I' P' ⟨rfl, rfl, rfl, rfl⟩; exact kk)
abbrev rm_X3_fits : Room := { frames := 0, cells := 0, slots := 0, locals := 0 }
theorem wl_X3_fits_9 : Cond.fieldLink RX3 9 "HandBlinds$Text" "signs" "[C" ∈ wsX3_fits := List.mem_of_getElem? (i := 1) (by decide +kernel)
theorem wi_X3_fits_3 : ∀ w ∈ wsX30, w ∈ wsX3_fits := fun _ h => List.mem_cons_of_mem _ (List.mem_append_right _ h)
theorem hd_X3_fits : yX3_fits.cls = RX3 ∧ yX3_fits.cls ≠ "java/lang/invoke/MethodHandle" ∧ yX3_fits.cls ≠ "java/lang/invoke/VarHandle" ∧ (parseMethodDescriptor yX3_fits.desc).map (fun d => d.parameters.length) = some 3 := ⟨rfl, by decide +kernel, by decide +kernel, by decide +kernel⟩
set_option maxHeartbeats 4000000 in
set_option maxRecDepth 100000 in
theorem c_X3_fits (l : Launch) {G : xG} {μ : xM} {I : xI} {P : xP} {x t s f e : Nat} (kx : μ.2.1 x = 4) (ksg : μ.2.1 (P x 0) = 8) (lsg : μ.2.2 (P x 0) = 60) (ht : I x 1 = nI t) (ht60 : t ≤ 60) (hfs0 : f ≤ s) (hse : s < e) (het : e ≤ t) : Ct l yX3_fits wsX3_fits rm_X3_fits G μ I P [.ref (xZ G + x), .int (nI s), .int (nI f), .int (nI e)] 0 0 (fun vv μ' I' P' => vv = some (.int (bI (fitT (I (P x 0)) f e s))) ∧ μ' = μ ∧ I' = (I) ∧ P' = (P)) := by
  refine Ct.of (cc := cX3_fits) (maxL := 4) (ret := (some .boolean)) [some (.ref (xZ G + x)), some (.int (nI s)), some (.int (nI f)), some (.int (nI e))] (by decide) rfl rfl rfl (Nat.le_of_ble_eq_true rfl) ?_
  intro X hC hD h0 _
  refine r_aload_n (pc := 0) hC dX3_fits_0 rfl ?_
  refine g_Text_signs (pc := 1) hC wi_X3_fits_3 wl_X3_fits_9 (by assumption) (c2 := 8) (by assumption) (by decide) dX3_fits_1 ?_
  refine r_iload_n (pc := 4) hC dX3_fits_4 rfl ?_
  refine r_cald (pc := 5) hC (k := s) ksg (xi_n (by rw [lsg]; omega) (by rw [lsg]; decide)) dX3_fits_5 ?_
  refine r_bipush (pc := 6) (v := 32) hC dX3_fits_6 (by decide) ?_
  refine r_icmp_ne (pc := 8) (tgt := 42) hC dX3_fits_8 (by decide) (fun bq8 => ?_) (fun bq8 => ?_)
  · skip
    refine r_aload_n (pc := 42) hC dX3_fits_42 rfl ?_
    refine g_Text_signs (pc := 43) hC wi_X3_fits_3 wl_X3_fits_9 (by assumption) (c2 := 8) (by assumption) (by decide) dX3_fits_43 ?_
    refine r_iload_n (pc := 46) hC dX3_fits_46 rfl ?_
    refine r_cald (pc := 47) hC (k := s) ksg (xi_n (by rw [lsg]; omega) (by rw [lsg]; decide)) dX3_fits_47 ?_
    refine r_bipush (pc := 48) (v := 65) hC dX3_fits_48 (by decide) ?_
    refine r_icmp_lt (pc := 50) (tgt := 68) hC dX3_fits_50 (by decide) (fun bq50 => ?_) (fun bq50 => ?_)
    · skip
      refine r_iconst (pc := 68) (v := 0) hC dX3_fits_68 (by decide) ?_
      refine r_iret (pc := 69) hC hD rfl dX3_fits_69 rfl ?_
      have e : fitT (I (P x 0)) f e s = false := by
        rw [fitT, if_neg bq8]
        simp [Int32.not_le.mpr bq50]
      exact ⟨by rw [e]; rfl, rfl, rfl, rfl⟩
    · skip
      refine r_aload_n (pc := 53) hC dX3_fits_53 rfl ?_
      refine g_Text_signs (pc := 54) hC wi_X3_fits_3 wl_X3_fits_9 (by assumption) (c2 := 8) (by assumption) (by decide) dX3_fits_54 ?_
      refine r_iload_n (pc := 57) hC dX3_fits_57 rfl ?_
      refine r_cald (pc := 58) hC (k := s) ksg (xi_n (by rw [lsg]; omega) (by rw [lsg]; decide)) dX3_fits_58 ?_
      refine r_bipush (pc := 59) (v := 90) hC dX3_fits_59 (by decide) ?_
      refine r_icmp_gt (pc := 61) (tgt := 68) hC dX3_fits_61 (by decide) (fun bq61 => ?_) (fun bq61 => ?_)
      · skip
        refine r_iconst (pc := 68) (v := 0) hC dX3_fits_68 (by decide) ?_
        refine r_iret (pc := 69) hC hD rfl dX3_fits_69 rfl ?_
        have e : fitT (I (P x 0)) f e s = false := by
          rw [fitT, if_neg bq8]
          simp [Int32.not_le.mpr bq61]
        exact ⟨by rw [e]; rfl, rfl, rfl, rfl⟩
      · skip
        refine r_iconst (pc := 64) (v := 1) hC dX3_fits_64 (by decide) ?_
        refine r_goto (pc := 65) (tgt := 69) hC dX3_fits_65 (by decide) ?_
        refine r_iret (pc := 69) hC hD rfl dX3_fits_69 rfl ?_
        have e : fitT (I (P x 0)) f e s = true := by
          rw [fitT, if_neg bq8]
          simp [Int32.not_lt.mp bq50, Int32.not_lt.mp bq61]
        exact ⟨by rw [e]; rfl, rfl, rfl, rfl⟩
  · skip
    refine r_iload_n (pc := 11) hC dX3_fits_11 rfl ?_
    refine r_iload_n (pc := 12) hC dX3_fits_12 rfl ?_
    refine r_icmp_le (pc := 13) (tgt := 40) hC dX3_fits_13 (by decide) (fun bq13 => ?_) (fun bq13 => ?_)
    · skip
      refine r_iconst (pc := 40) (v := 0) hC dX3_fits_40 (by decide) ?_
      refine r_iret (pc := 41) hC hD rfl dX3_fits_41 rfl ?_
      have e : fitT (I (P x 0)) f e s = false := by
        rw [fitT, if_pos bq8]
        have q := (nI_leI (by omega) (by omega)).mp bq13
        simp; intro w; omega
      exact ⟨by rw [e]; rfl, rfl, rfl, rfl⟩
    · skip
      refine r_iload_n (pc := 16) hC dX3_fits_16 rfl ?_
      refine r_iload_n (pc := 17) hC dX3_fits_17 rfl ?_
      refine r_iconst (pc := 18) (v := 1) hC dX3_fits_18 (by decide) ?_
      refine r_isub (pc := 19) hC dX3_fits_19 ?_
      rw [show nI e - 1 = nI (e - 1) from by rw [show e = (e - 1) + 1 by omega]; exact nI_pred _]
      refine r_icmp_ge (pc := 20) (tgt := 40) hC dX3_fits_20 (by decide) (fun bq20 => ?_) (fun bq20 => ?_)
      · skip
        refine r_iconst (pc := 40) (v := 0) hC dX3_fits_40 (by decide) ?_
        refine r_iret (pc := 41) hC hD rfl dX3_fits_41 rfl ?_
        have e : fitT (I (P x 0)) f e s = false := by
          rw [fitT, if_pos bq8]
          have q := (nI_leI (by omega) (by omega)).mp bq20
          simp; intro _ w; omega
        exact ⟨by rw [e]; rfl, rfl, rfl, rfl⟩
      · skip
        refine r_aload_n (pc := 23) hC dX3_fits_23 rfl ?_
        refine g_Text_signs (pc := 24) hC wi_X3_fits_3 wl_X3_fits_9 (by assumption) (c2 := 8) (by assumption) (by decide) dX3_fits_24 ?_
        refine r_iload_n (pc := 27) hC dX3_fits_27 rfl ?_
        refine r_iconst (pc := 28) (v := 1) hC dX3_fits_28 (by decide) ?_
        refine r_isub (pc := 29) hC dX3_fits_29 ?_
        have hfs : f < s := by
          rcases Nat.lt_or_ge f s with w | w
          · exact w
          · exact absurd (nI_le (by omega) (by omega)) bq13
        rw [show nI s - 1 = nI (s - 1) from by rw [show s = (s - 1) + 1 by omega]; exact nI_pred _]
        refine r_cald (pc := 30) hC (k := s - 1) ksg (xi_n (by rw [lsg]; omega) (by rw [lsg]; decide)) dX3_fits_30 ?_
        refine r_bipush (pc := 31) (v := 32) hC dX3_fits_31 (by decide) ?_
        refine r_icmp_eq (pc := 33) (tgt := 40) hC dX3_fits_33 (by decide) (fun bq33 => ?_) (fun bq33 => ?_)
        · skip
          refine r_iconst (pc := 40) (v := 0) hC dX3_fits_40 (by decide) ?_
          refine r_iret (pc := 41) hC hD rfl dX3_fits_41 rfl ?_
          have e : fitT (I (P x 0)) f e s = false := by
            rw [fitT, if_pos bq8]
            simp [bq33]
          exact ⟨by rw [e]; rfl, rfl, rfl, rfl⟩
        · skip
          refine r_iconst (pc := 36) (v := 1) hC dX3_fits_36 (by decide) ?_
          refine r_goto (pc := 37) (tgt := 41) hC dX3_fits_37 (by decide) ?_
          refine r_iret (pc := 41) hC hD rfl dX3_fits_41 rfl ?_
          have e : fitT (I (P x 0)) f e s = true := by
            rw [fitT, if_pos bq8]
            have q2 : s + 1 < e := by
              rcases Nat.lt_or_ge (s + 1) e with w | w
              · exact w
              · exact absurd (nI_le (by omega) (by omega)) bq20
            simp [bq33, hfs, q2]
          exact ⟨by rw [e]; rfl, rfl, rfl, rfl⟩
theorem k_X3_fits {X : xF} {G : xG} {cs : Nat × Nat} {μ : xM} {I : xI} {P : xP} {L : List (Option Value)} {pc : Nat} {rest : List Value} {cc : ByteArray} {Ts : List Cond} {own : String} {nL : Nat} {R : Room} (hC : xC X G cc Ts own nL R) {index : Nat} (hG : GoodIn Ts (wsV own index RX3 yX3_fits wsX3_fits)) (hR : rm_X3_fits.frames + 1 ≤ R.frames ∧ 8 + (4 + 11) + rm_X3_fits.locals ≤ R.locals) {x t s f e : Nat} (kx : μ.2.1 x = 4) (ksg : μ.2.1 (P x 0) = 8) (lsg : μ.2.2 (P x 0) = 60) (ht : I x 1 = nI t) (ht60 : t ≤ 60) (hfs0 : f ≤ s) (hse : s < e) (het : e ≤ t) (hW : (rest.map fun v => v.category).sum ≤ 8) (hL : L.length = nL) (hcs : cs.1 ≤ R.cells ∧ cs.2 ≤ R.slots) (hdec : decode cc pc = .ok (.invokevirtual index, 3)) (kk : xg X G cs μ I P L (pc + 3) (.int (bI (fitT (I (P x 0)) f e s)) :: rest)) : xg X G cs μ I P L pc (.int (nI e) :: .int (nI f) :: .int (nI s) :: .ref (xZ G + x) :: rest) :=
  r_callV hC (c_X3_fits X.2.1 kx ksg lsg ht ht60 hfs0 hse het) hG rfl rfl rfl hd_X3_fits hR (by rw [kx]; decide) (xe_Text kx) rfl rfl rfl hW hL hcs hdec (by rintro v μ' I' P' ⟨rfl, rfl, rfl, rfl⟩; exact kk)
abbrev rm_X3_breakOf : Room := { frames := 1, cells := 0, slots := 0, locals := 23 }
theorem hd_X3_breakOf : yX3_breakOf.cls = RX3 ∧ yX3_breakOf.cls ≠ "java/lang/invoke/MethodHandle" ∧ yX3_breakOf.cls ≠ "java/lang/invoke/VarHandle" ∧ (parseMethodDescriptor yX3_breakOf.desc).map (fun d => d.parameters.length) = some 2 := ⟨rfl, by decide +kernel, by decide +kernel, by decide +kernel⟩
set_option maxHeartbeats 4000000 in
set_option maxRecDepth 100000 in
theorem c_X3_breakOf (l : Launch) {G : xG} {μ : xM} {I : xI} {P : xP} {x t f e : Nat} (kx : μ.2.1 x = 4) (ksg : μ.2.1 (P x 0) = 8) (lsg : μ.2.2 (P x 0) = 60) (ht : I x 1 = nI t) (ht60 : t ≤ 60) (het : e ≤ t) (hft : f ≤ t) : Ct l yX3_breakOf wsX3_breakOf rm_X3_breakOf G μ I P [.ref (xZ G + x), .int (nI f), .int (nI e)] 0 0 (fun vv μ' I' P' => vv = some (.int (bkO (I (P x 0)) f e)) ∧ μ' = μ ∧ I' = (I) ∧ P' = (P)) := by
  refine Ct.of (cc := cX3_breakOf) (maxL := 4) (ret := (some .int)) [some (.ref (xZ G + x)), some (.int (nI f)), some (.int (nI e)), none] (by decide) rfl rfl rfl (Nat.le_of_ble_eq_true rfl) ?_
  intro X hC hD h0 _
  have loop : ∀ (q k : Nat), k + q = e → f ≤ k → ¬ e ≤ f → (∀ i, f ≤ i → i < k → bkP (I (P x 0)) f e i = false) → xg X G (0, 0) μ I P [some (.ref (xZ G + x)), some (.int (nI f)), some (.int (nI e)), some (.int (nI k))] 9 [] := by
    intro q
    induction q with
    | zero =>
      intro k hk hfk hfe' hno
      have ek : k = e := by omega
      subst ek
      refine r_iload_n (pc := 9) hC dX3_breakOf_9 rfl ?_
      refine r_iload_n (pc := 10) hC dX3_breakOf_10 rfl ?_
      refine r_icmp_ge (pc := 11) (tgt := 42) hC dX3_breakOf_11 (by decide) (fun bq11 => ?_) (fun bq11 => ?_)
      · skip
        refine r_iconst (pc := 42) (v := -1) hC dX3_breakOf_42 (by decide) ?_
        refine r_iret (pc := 43) hC hD rfl dX3_breakOf_43 rfl ?_
        have hx : srch (bkP (I (P x 0)) f k) (k - f) f = k := srch_at (k - f) f k hfk (by omega) hno (Or.inl (by omega))
        exact ⟨by rw [bkO, if_neg hfe', if_pos hx], rfl, rfl, rfl⟩
      · skip
        exact absurd (nI_le (by omega) (by omega)) bq11
    | succ q ih =>
      intro k hk hfk hfe' hno
      refine r_iload_n (pc := 9) hC dX3_breakOf_9 rfl ?_
      refine r_iload_n (pc := 10) hC dX3_breakOf_10 rfl ?_
      refine r_icmp_ge (pc := 11) (tgt := 42) hC dX3_breakOf_11 (by decide) (fun bq11 => ?_) (fun bq11 => ?_)
      · skip
        exact absurd bq11 (nI_ge (by omega) (by omega))
      · skip
        refine r_iload_n (pc := 14) hC dX3_breakOf_14 rfl ?_
        refine r_iload_n (pc := 15) hC dX3_breakOf_15 rfl ?_
        refine r_isub (pc := 16) hC dX3_breakOf_16 ?_
        rw [pk_sub hfk]
        refine r_bipush (pc := 17) (v := 14) hC dX3_breakOf_17 (by decide) ?_
        refine r_icmp_ge (pc := 19) (tgt := 32) hC dX3_breakOf_19 (by decide) (fun bq19 => ?_) (fun bq19 => ?_)
        · skip
          refine r_iload_n (pc := 32) hC dX3_breakOf_32 rfl ?_
          refine r_iload_n (pc := 33) hC dX3_breakOf_33 rfl ?_
          refine r_isub (pc := 34) hC dX3_breakOf_34 ?_
          rw [pk_sub hfk]
          refine r_iret (pc := 35) hC hD rfl dX3_breakOf_35 rfl ?_
          have hp : bkP (I (P x 0)) f e k = true := by simp [bkP, (nI_leI (a := 14) (b := k - f) (by omega) (by omega)).mp bq19]
          have hx : srch (bkP (I (P x 0)) f e) (e - f) f = k := srch_at (e - f) f k hfk (by omega) hno (Or.inr hp)
          exact ⟨by rw [bkO, if_neg hfe', if_neg (by rw [hx]; omega), hx], rfl, rfl, rfl⟩
        · skip
          refine r_aload_n (pc := 22) hC dX3_breakOf_22 rfl ?_
          refine r_iload_n (pc := 23) hC dX3_breakOf_23 rfl ?_
          refine r_iload_n (pc := 24) hC dX3_breakOf_24 rfl ?_
          refine r_iload_n (pc := 25) hC dX3_breakOf_25 rfl ?_
          refine k_X3_fits (pc := 26) hC gX3_breakOf_X3_fits ⟨Nat.le_of_ble_eq_true rfl, Nat.le_of_ble_eq_true rfl⟩ kx ksg lsg ht ht60 hfk (by omega) het (Nat.le_of_ble_eq_true rfl) rfl ⟨Nat.zero_le _, Nat.zero_le _⟩ dX3_breakOf_26 ?_
          refine r_if_ne (pc := 29) (tgt := 36) hC dX3_breakOf_29 (by decide) (fun bq29 => ?_) (fun bq29 => ?_)
          · skip
            refine r_iinc (pc := 36) (v := 1) (L' := [_, _, _, _]) hC dX3_breakOf_36 rfl (by decide) rfl rfl ?_
            refine r_goto (pc := 39) (tgt := 9) hC dX3_breakOf_39 (by decide) ?_
            have a1 : ¬ 14 ≤ k - f := fun w => bq19 (nI_le (a := 14) w (by omega))
            have a2 : fitT (I (P x 0)) f e k = true := by
              cases hd : fitT (I (P x 0)) f e k
              · exact absurd (bI_0.mpr hd) bq29
              · rfl
            have hp : bkP (I (P x 0)) f e k = false := by simp [bkP, a1, a2]
            rw [nI_1]; exact ih (k + 1) (by omega) (by omega) hfe' (fun i h1 hi => by rcases Nat.lt_or_ge i k with y | y; exact hno i h1 y; rw [show i = k by omega]; exact hp)
          · skip
            refine r_iload_n (pc := 32) hC dX3_breakOf_32 rfl ?_
            refine r_iload_n (pc := 33) hC dX3_breakOf_33 rfl ?_
            refine r_isub (pc := 34) hC dX3_breakOf_34 ?_
            rw [pk_sub hfk]
            refine r_iret (pc := 35) hC hD rfl dX3_breakOf_35 rfl ?_
            have hp : bkP (I (P x 0)) f e k = true := by simp [bkP, bI_0.mp bq29]
            have hx : srch (bkP (I (P x 0)) f e) (e - f) f = k := srch_at (e - f) f k hfk (by omega) hno (Or.inr hp)
            exact ⟨by rw [bkO, if_neg hfe', if_neg (by rw [hx]; omega), hx], rfl, rfl, rfl⟩
  refine r_iload_n (pc := 0) hC dX3_breakOf_0 rfl ?_
  refine r_iload_n (pc := 1) hC dX3_breakOf_1 rfl ?_
  refine r_icmp_lt (pc := 2) (tgt := 7) hC dX3_breakOf_2 (by decide) (fun bq2 => ?_) (fun bq2 => ?_)
  · skip
    refine r_iload_n (pc := 7) hC dX3_breakOf_7 rfl ?_
    refine r_istore_n (pc := 8) (L' := [_, _, _, _]) hC dX3_breakOf_8 rfl (Nat.le_of_ble_eq_true rfl) rfl ?_
    have hfe : f < e := by
      rcases Nat.lt_or_ge f e with w | w
      · exact w
      · exact absurd bq2 (nI_nlt w (by omega))
    exact loop (e - f) f (by omega) (Nat.le_refl f) (by omega) (fun i h1 hi => absurd hi (by omega))
  · skip
    refine r_iconst (pc := 5) (v := 0) hC dX3_breakOf_5 (by decide) ?_
    refine r_iret (pc := 6) hC hD rfl dX3_breakOf_6 rfl ?_
    exact ⟨by rw [bkO, if_pos (by rcases Nat.lt_or_ge f e with w | w; exact absurd (nI_lt w (by omega)) bq2; exact w)], rfl, rfl, rfl⟩
theorem k_X3_breakOf {X : xF} {G : xG} {cs : Nat × Nat} {μ : xM} {I : xI} {P : xP} {L : List (Option Value)} {pc : Nat} {rest : List Value} {cc : ByteArray} {Ts : List Cond} {own : String} {nL : Nat} {R : Room} (hC : xC X G cc Ts own nL R) {index : Nat} (hG : GoodIn Ts (wsV own index RX3 yX3_breakOf wsX3_breakOf)) (hR : rm_X3_breakOf.frames + 1 ≤ R.frames ∧ 8 + (4 + 11) + rm_X3_breakOf.locals ≤ R.locals) {x t f e : Nat} (kx : μ.2.1 x = 4) (ksg : μ.2.1 (P x 0) = 8) (lsg : μ.2.2 (P x 0) = 60) (ht : I x 1 = nI t) (ht60 : t ≤ 60) (het : e ≤ t) (hft : f ≤ t) (hW : (rest.map fun v => v.category).sum ≤ 8) (hL : L.length = nL) (hcs : cs.1 ≤ R.cells ∧ cs.2 ≤ R.slots) (hdec : decode cc pc = .ok (.invokevirtual index, 3)) (kk : xg X G cs μ I P L (pc + 3) (.int (bkO (I (P x 0)) f e) :: rest)) : xg X G cs μ I P L pc (.int (nI e) :: .int (nI f) :: .ref (xZ G + x) :: rest) :=
  r_callV hC (c_X3_breakOf X.2.1 kx ksg lsg ht ht60 het hft) hG rfl rfl rfl hd_X3_breakOf hR (by rw [kx]; decide) (xe_Text kx) rfl rfl rfl hW hL hcs hdec (by rintro v μ' I' P' ⟨rfl, rfl, rfl, rfl⟩; exact kk)
abbrev rm_X3_width : Room := { frames := 1, cells := 0, slots := 0, locals := 20 }
theorem wl_X3_width_9 : Cond.fieldLink RX3 9 "HandBlinds$Text" "signs" "[C" ∈ wsX3_width := List.mem_of_getElem? (i := 1) (by decide +kernel)
theorem wi_X3_width_3 : ∀ w ∈ wsX30, w ∈ wsX3_width := fun _ h => List.mem_cons_of_mem _ (List.mem_append_right _ h)
theorem wn_X3_width_ini : Cond.initialized RX4 ∈ wsX3_width := List.mem_of_getElem? (i := 3) (by decide +kernel)
theorem wn_X3_width_sta : Cond.static yX4_letterWidth ∈ wsX3_width := List.mem_of_getElem? (i := 2) (by decide +kernel)
theorem hd_X3_width : yX3_width.cls = RX3 ∧ yX3_width.cls ≠ "java/lang/invoke/MethodHandle" ∧ yX3_width.cls ≠ "java/lang/invoke/VarHandle" ∧ (parseMethodDescriptor yX3_width.desc).map (fun d => d.parameters.length) = some 2 := ⟨rfl, by decide +kernel, by decide +kernel, by decide +kernel⟩
set_option maxHeartbeats 4000000 in
set_option maxRecDepth 100000 in
theorem c_X3_width (l : Launch) {G : xG} {μ : xM} {I : xI} {P : xP} {x t f e : Nat} (kx : μ.2.1 x = 4) (ksg : μ.2.1 (P x 0) = 8) (lsg : μ.2.2 (P x 0) = 60) (ht : I x 1 = nI t) (ht60 : t ≤ 60) (het : e ≤ t) (hfe : f ≤ e) : Ct l yX3_width wsX3_width rm_X3_width G μ I P [.ref (xZ G + x), .int (nI f), .int (nI e)] 0 0 (fun vv μ' I' P' => vv = some (.int (nmW (I (P x 0)) f e)) ∧ μ' = μ ∧ I' = (I) ∧ P' = (P)) := by
  refine Ct.of (cc := cX3_width) (maxL := 5) (ret := (some .int)) [some (.ref (xZ G + x)), some (.int (nI f)), some (.int (nI e)), none, none] (by decide) rfl rfl rfl (Nat.le_of_ble_eq_true rfl) ?_
  intro X hC hD h0 _
  have loop : ∀ (q k : Nat), k + q = (e - f) → xg X G (0, 0) μ I P [some (.ref (xZ G + x)), some (.int (nI f)), some (.int (nI e)), some (.int (wsum (fun j => (I (P x 0)) (f + j)) k)), some (.int (nI (f + k)))] 5 [] := by
    intro q
    induction q with
    | zero =>
      intro k hk
      have ek : k = e - f := by omega
      subst ek
      refine r_iload (pc := 5) hC dX3_width_5 rfl ?_
      refine r_iload_n (pc := 7) hC dX3_width_7 rfl ?_
      refine r_icmp_ge (pc := 8) (tgt := 30) hC dX3_width_8 (by decide) (fun bq8 => ?_) (fun bq8 => ?_)
      · skip
        refine r_iload_n (pc := 30) hC dX3_width_30 rfl ?_
        refine r_iret (pc := 31) hC hD rfl dX3_width_31 rfl ?_
        exact ⟨rfl, rfl, rfl, rfl⟩
      · skip
        exact absurd (nI_le (by omega) (by omega)) bq8
    | succ q ih =>
      intro k hk
      refine r_iload (pc := 5) hC dX3_width_5 rfl ?_
      refine r_iload_n (pc := 7) hC dX3_width_7 rfl ?_
      refine r_icmp_ge (pc := 8) (tgt := 30) hC dX3_width_8 (by decide) (fun bq8 => ?_) (fun bq8 => ?_)
      · skip
        exact absurd bq8 (nI_ge (by omega) (by omega))
      · skip
        refine r_iload_n (pc := 11) hC dX3_width_11 rfl ?_
        refine r_aload_n (pc := 12) hC dX3_width_12 rfl ?_
        refine g_Text_signs (pc := 13) hC wi_X3_width_3 wl_X3_width_9 (by assumption) (c2 := 8) (by assumption) (by decide) dX3_width_13 ?_
        refine r_iload (pc := 16) hC dX3_width_16 rfl ?_
        refine r_cald (pc := 18) hC (k := f + k) ksg (xi_n (by rw [lsg]; omega) (by rw [lsg]; decide)) dX3_width_18 ?_
        refine k_X4_letterWidth_n (pc := 19) hC (fun q => q.2.2.1) wn_X3_width_ini wn_X3_width_sta gX3_width_X4_letterWidth_n23 ⟨Nat.le_of_ble_eq_true rfl, Nat.le_of_ble_eq_true rfl⟩  (Nat.le_of_ble_eq_true rfl) rfl ⟨Nat.zero_le _, Nat.zero_le _⟩ dX3_width_19 ?_
        refine r_iadd (pc := 22) hC dX3_width_22 ?_
        refine r_istore_n (pc := 23) (L' := [_, _, _, _, _]) hC dX3_width_23 rfl (Nat.le_of_ble_eq_true rfl) rfl ?_
        refine r_iinc (pc := 24) (v := 1) (L' := [_, _, _, _, _]) hC dX3_width_24 rfl (by decide) rfl rfl ?_
        refine r_goto (pc := 27) (tgt := 5) hC dX3_width_27 (by decide) ?_
        rw [nI_1]; exact ih (k + 1) (by omega)
  refine r_iconst (pc := 0) (v := 0) hC dX3_width_0 (by decide) ?_
  refine r_istore_n (pc := 1) (L' := [_, _, _, _, _]) hC dX3_width_1 rfl (Nat.le_of_ble_eq_true rfl) rfl ?_
  refine r_iload_n (pc := 2) hC dX3_width_2 rfl ?_
  refine r_istore (pc := 3) (L' := [_, _, _, _, _]) hC dX3_width_3 rfl (Nat.le_of_ble_eq_true rfl) rfl ?_
  exact loop (e - f) 0 (by omega)
theorem k_X3_width {X : xF} {G : xG} {cs : Nat × Nat} {μ : xM} {I : xI} {P : xP} {L : List (Option Value)} {pc : Nat} {rest : List Value} {cc : ByteArray} {Ts : List Cond} {own : String} {nL : Nat} {R : Room} (hC : xC X G cc Ts own nL R) {index : Nat} (hG : GoodIn Ts (wsV own index RX3 yX3_width wsX3_width)) (hR : rm_X3_width.frames + 1 ≤ R.frames ∧ 8 + (5 + 11) + rm_X3_width.locals ≤ R.locals) {x t f e : Nat} (kx : μ.2.1 x = 4) (ksg : μ.2.1 (P x 0) = 8) (lsg : μ.2.2 (P x 0) = 60) (ht : I x 1 = nI t) (ht60 : t ≤ 60) (het : e ≤ t) (hfe : f ≤ e) (hW : (rest.map fun v => v.category).sum ≤ 8) (hL : L.length = nL) (hcs : cs.1 ≤ R.cells ∧ cs.2 ≤ R.slots) (hdec : decode cc pc = .ok (.invokevirtual index, 3)) (kk : xg X G cs μ I P L (pc + 3) (.int (nmW (I (P x 0)) f e) :: rest)) : xg X G cs μ I P L pc (.int (nI e) :: .int (nI f) :: .ref (xZ G + x) :: rest) :=
  r_callV hC (c_X3_width X.2.1 kx ksg lsg ht ht60 het hfe) hG rfl rfl rfl hd_X3_width hR (by rw [kx]; decide) (xe_Text kx) rfl rfl rfl hW hL hcs hdec (by rintro v μ' I' P' ⟨rfl, rfl, rfl, rfl⟩; exact kk)
abbrev rm_X3_isNameOf : Room := { frames := 0, cells := 0, slots := 0, locals := 0 }
theorem wl_X3_isNameOf_27 : Cond.fieldLink RX3 27 "HandBlinds$Row" "length" "I" ∈ wsX3_isNameOf := List.mem_of_getElem? (i := 1) (by decide +kernel)
theorem wi_X3_isNameOf_2 : ∀ w ∈ wsX20, w ∈ wsX3_isNameOf := fun _ h => List.mem_cons_of_mem _ (List.mem_append_left _ (List.mem_append_right _ h))
theorem wl_X3_isNameOf_30 : Cond.fieldLink RX3 30 "HandBlinds$Row" "letters" "[C" ∈ wsX3_isNameOf := List.mem_of_getElem? (i := 3) (by decide +kernel)
theorem wl_X3_isNameOf_9 : Cond.fieldLink RX3 9 "HandBlinds$Text" "signs" "[C" ∈ wsX3_isNameOf := List.mem_of_getElem? (i := 4) (by decide +kernel)
theorem wi_X3_isNameOf_3 : ∀ w ∈ wsX30, w ∈ wsX3_isNameOf := fun _ h => List.mem_cons_of_mem _ (List.mem_append_right _ h)
theorem wl_X3_isNameOf_15 : Cond.fieldLink RX3 15 "HandBlinds$Text" "length" "I" ∈ wsX3_isNameOf := List.mem_of_getElem? (i := 2) (by decide +kernel)
theorem hd_X3_isNameOf : yX3_isNameOf.cls = RX3 ∧ yX3_isNameOf.cls ≠ "java/lang/invoke/MethodHandle" ∧ yX3_isNameOf.cls ≠ "java/lang/invoke/VarHandle" ∧ (parseMethodDescriptor yX3_isNameOf.desc).map (fun d => d.parameters.length) = some 1 := ⟨rfl, by decide +kernel, by decide +kernel, by decide +kernel⟩
set_option maxHeartbeats 4000000 in
set_option maxRecDepth 100000 in
theorem c_X3_isNameOf (l : Launch) {G : xG} {μ : xM} {I : xI} {P : xP} {x t r n : Nat} (kx : μ.2.1 x = 4) (ksg : μ.2.1 (P x 0) = 8) (lsg : μ.2.2 (P x 0) = 60) (ht : I x 1 = nI t) (ht60 : t ≤ 60) (kr : μ.2.1 r = 3) (kl : μ.2.1 (P r 0) = 8) (ll : μ.2.2 (P r 0) = 14) (hn1 : I r 1 = nI n) (hn14 : n ≤ 14) : Ct l yX3_isNameOf wsX3_isNameOf rm_X3_isNameOf G μ I P [.ref (xZ G + x), .ref (xZ G + r)] 0 0 (fun vv μ' I' P' => vv = some (.int (bI (decide (n = t) && eqN (I (P r 0)) (I (P x 0)) n))) ∧ μ' = μ ∧ I' = (I) ∧ P' = (P)) := by
  refine Ct.of (cc := cX3_isNameOf) (maxL := 3) (ret := (some .boolean)) [some (.ref (xZ G + x)), some (.ref (xZ G + r)), none] (by decide) rfl rfl rfl (Nat.le_of_ble_eq_true rfl) ?_
  intro X hC hD h0 _
  have loop : ∀ (q k : Nat), k + q = n → n = t → eqN (I (P r 0)) (I (P x 0)) k = true → xg X G (0, 0) μ I P [some (.ref (xZ G + x)), some (.ref (xZ G + r)), some (.int (nI k))] 15 [] := by
    intro q
    induction q with
    | zero =>
      intro k hk hnt hno
      have ek : k = n := by omega
      subst ek
      refine r_iload_n (pc := 15) hC dX3_isNameOf_15 rfl ?_
      refine r_aload_n (pc := 16) hC dX3_isNameOf_16 rfl ?_
      refine g_Row_length (pc := 17) hC wi_X3_isNameOf_2 wl_X3_isNameOf_27 (by assumption) dX3_isNameOf_17 ?_
      refine r_icmp_ge (pc := 20) (tgt := 46) hC dX3_isNameOf_20 (by decide) (fun bq20 => ?_) (fun bq20 => ?_)
      · skip
        refine r_iconst (pc := 46) (v := 1) hC dX3_isNameOf_46 (by decide) ?_
        refine r_iret (pc := 47) hC hD rfl dX3_isNameOf_47 rfl ?_
        exact ⟨by rw [hno]; simp [hnt, bI], rfl, rfl, rfl⟩
      · skip
        exact absurd (by rw [hn1]; exact nI_le (by omega) (by omega)) bq20
    | succ q ih =>
      intro k hk hnt hno
      refine r_iload_n (pc := 15) hC dX3_isNameOf_15 rfl ?_
      refine r_aload_n (pc := 16) hC dX3_isNameOf_16 rfl ?_
      refine g_Row_length (pc := 17) hC wi_X3_isNameOf_2 wl_X3_isNameOf_27 (by assumption) dX3_isNameOf_17 ?_
      refine r_icmp_ge (pc := 20) (tgt := 46) hC dX3_isNameOf_20 (by decide) (fun bq20 => ?_) (fun bq20 => ?_)
      · skip
        exact absurd bq20 (by rw [hn1]; exact nI_ge (by omega) (by omega))
      · skip
        refine r_aload_n (pc := 23) hC dX3_isNameOf_23 rfl ?_
        refine g_Row_letters (pc := 24) hC wi_X3_isNameOf_2 wl_X3_isNameOf_30 (by assumption) (c2 := 8) (by assumption) (by decide) dX3_isNameOf_24 ?_
        refine r_iload_n (pc := 27) hC dX3_isNameOf_27 rfl ?_
        refine r_cald (pc := 28) hC kl (xi_n (by rw [ll]; omega) (by rw [ll]; decide)) dX3_isNameOf_28 ?_
        refine r_aload_n (pc := 29) hC dX3_isNameOf_29 rfl ?_
        refine g_Text_signs (pc := 30) hC wi_X3_isNameOf_3 wl_X3_isNameOf_9 (by assumption) (c2 := 8) (by assumption) (by decide) dX3_isNameOf_30 ?_
        refine r_iload_n (pc := 33) hC dX3_isNameOf_33 rfl ?_
        refine r_cald (pc := 34) hC (k := k) ksg (xi_n (by rw [lsg]; omega) (by rw [lsg]; decide)) dX3_isNameOf_34 ?_
        refine r_icmp_eq (pc := 35) (tgt := 40) hC dX3_isNameOf_35 (by decide) (fun bq35 => ?_) (fun bq35 => ?_)
        · skip
          refine r_iinc (pc := 40) (v := 1) (L' := [_, _, _]) hC dX3_isNameOf_40 rfl (by decide) rfl rfl ?_
          refine r_goto (pc := 43) (tgt := 15) hC dX3_isNameOf_43 (by decide) ?_
          rw [nI_1]; exact ih (k + 1) (by omega) hnt (by rw [eqN, hno, bq35]; simp)
        · skip
          refine r_iconst (pc := 38) (v := 0) hC dX3_isNameOf_38 (by decide) ?_
          refine r_iret (pc := 39) hC hD rfl dX3_isNameOf_39 rfl ?_
          have e : eqN (I (P r 0)) (I (P x 0)) (k + 1) = false := by simp [eqN, bq35]
          exact ⟨by rw [eqN_mono e (by omega)]; simp [bI], rfl, rfl, rfl⟩
  refine r_aload_n (pc := 0) hC dX3_isNameOf_0 rfl ?_
  refine g_Row_length (pc := 1) hC wi_X3_isNameOf_2 wl_X3_isNameOf_27 (by assumption) dX3_isNameOf_1 ?_
  refine r_aload_n (pc := 4) hC dX3_isNameOf_4 rfl ?_
  refine g_Text_length (pc := 5) hC wi_X3_isNameOf_3 wl_X3_isNameOf_15 (by assumption) dX3_isNameOf_5 ?_
  refine r_icmp_eq (pc := 8) (tgt := 13) hC dX3_isNameOf_8 (by decide) (fun bq8 => ?_) (fun bq8 => ?_)
  · skip
    refine r_iconst (pc := 13) (v := 0) hC dX3_isNameOf_13 (by decide) ?_
    refine r_istore_n (pc := 14) (L' := [_, _, _]) hC dX3_isNameOf_14 rfl (Nat.le_of_ble_eq_true rfl) rfl ?_
    exact loop n 0 (by omega) ((nI_eq (by omega) (by omega)).mp (by rw [← hn1, ← ht]; exact bq8)) rfl
  · skip
    refine r_iconst (pc := 11) (v := 0) hC dX3_isNameOf_11 (by decide) ?_
    refine r_iret (pc := 12) hC hD rfl dX3_isNameOf_12 rfl ?_
    have e : ¬ n = t := fun w => bq8 (by rw [hn1, ht, w])
    exact ⟨by simp [e, bI], rfl, rfl, rfl⟩
theorem k_X3_isNameOf {X : xF} {G : xG} {cs : Nat × Nat} {μ : xM} {I : xI} {P : xP} {L : List (Option Value)} {pc : Nat} {rest : List Value} {cc : ByteArray} {Ts : List Cond} {own : String} {nL : Nat} {R : Room} (hC : xC X G cc Ts own nL R) {index : Nat} (hG : GoodIn Ts (wsV own index RX3 yX3_isNameOf wsX3_isNameOf)) (hR : rm_X3_isNameOf.frames + 1 ≤ R.frames ∧ 8 + (3 + 11) + rm_X3_isNameOf.locals ≤ R.locals) {x t r n : Nat} (kx : μ.2.1 x = 4) (ksg : μ.2.1 (P x 0) = 8) (lsg : μ.2.2 (P x 0) = 60) (ht : I x 1 = nI t) (ht60 : t ≤ 60) (kr : μ.2.1 r = 3) (kl : μ.2.1 (P r 0) = 8) (ll : μ.2.2 (P r 0) = 14) (hn1 : I r 1 = nI n) (hn14 : n ≤ 14) (hW : (rest.map fun v => v.category).sum ≤ 8) (hL : L.length = nL) (hcs : cs.1 ≤ R.cells ∧ cs.2 ≤ R.slots) (hdec : decode cc pc = .ok (.invokevirtual index, 3)) (kk : xg X G cs μ I P L (pc + 3) (.int (bI (decide (n = t) && eqN (I (P r 0)) (I (P x 0)) n)) :: rest)) : xg X G cs μ I P L pc (.ref (xZ G + r) :: .ref (xZ G + x) :: rest) :=
  r_callV hC (c_X3_isNameOf X.2.1 kx ksg lsg ht ht60 kr kl ll hn1 hn14) hG rfl rfl rfl hd_X3_isNameOf hR (by rw [kx]; decide) (xe_Text kx) rfl rfl rfl hW hL hcs hdec (by rintro v μ' I' P' ⟨rfl, rfl, rfl, rfl⟩; exact kk)
abbrev rm_X2_begin : Room := { frames := 0, cells := 0, slots := 0, locals := 0 }
theorem wl_X2_begin_25 : Cond.fieldLink RX2 25 "HandBlinds$Row" "wear" "I" ∈ wsX2_begin := List.mem_of_getElem? (i := 4) (by decide +kernel)
theorem wi_X2_begin_2 : ∀ w ∈ wsX20, w ∈ wsX2_begin := fun _ h => List.mem_cons_of_mem _ (List.mem_append_left _ (List.mem_append_right _ h))
theorem wl_X2_begin_28 : Cond.fieldLink RX2 28 "HandBlinds$Row" "torn" "Z" ∈ wsX2_begin := List.mem_of_getElem? (i := 5) (by decide +kernel)
theorem wl_X2_begin_21 : Cond.fieldLink RX2 21 "HandBlinds$Row" "length" "I" ∈ wsX2_begin := List.mem_of_getElem? (i := 1) (by decide +kernel)
theorem wl_X2_begin_9 : Cond.fieldLink RX2 9 "HandBlinds$Row" "letters" "[C" ∈ wsX2_begin := List.mem_of_getElem? (i := 2) (by decide +kernel)
theorem wl_X2_begin_32 : Cond.fieldLink RX2 32 "HandBlinds$Text" "signs" "[C" ∈ wsX2_begin := List.mem_of_getElem? (i := 3) (by decide +kernel)
theorem wi_X2_begin_3 : ∀ w ∈ wsX30, w ∈ wsX2_begin := fun _ h => List.mem_cons_of_mem _ (List.mem_append_right _ h)
theorem hd_X2_begin : yX2_begin.cls = RX2 ∧ yX2_begin.cls ≠ "java/lang/invoke/MethodHandle" ∧ yX2_begin.cls ≠ "java/lang/invoke/VarHandle" ∧ (parseMethodDescriptor yX2_begin.desc).map (fun d => d.parameters.length) = some 3 := ⟨rfl, by decide +kernel, by decide +kernel, by decide +kernel⟩
set_option maxHeartbeats 4000000 in
set_option maxRecDepth 100000 in
theorem c_X2_begin (l : Launch) {G : xG} {μ : xM} {I : xI} {P : xP} {r x t f e : Nat} (kr : μ.2.1 r = 3) (kl : μ.2.1 (P r 0) = 8) (ll : μ.2.2 (P r 0) = 14) (kx : μ.2.1 x = 4) (ksg : μ.2.1 (P x 0) = 8) (lsg : μ.2.2 (P x 0) = 60) (ht : I x 1 = nI t) (ht60 : t ≤ 60) (het : e ≤ t) (hfe : f ≤ e) (he14 : e - f ≤ 14) (hls : P r 0 ≠ P x 0) : Ct l yX2_begin wsX2_begin rm_X2_begin G μ I P [.ref (xZ G + r), .ref (xZ G + x), .int (nI f), .int (nI e)] 0 0 (fun vv μ' I' P' => vv = none ∧ μ' = μ ∧ I' = (xu (xu (bgI I r (P r 0) (P x 0) f (e - f)) r 2 0) r 3 0) ∧ P' = (P)) := by
  have hlr : P r 0 ≠ r := fun e => by rw [e, kr] at kl; cases kl
  have hsr : P x 0 ≠ r := fun e => by rw [e, kr] at ksg; cases ksg
  refine Ct.of (cc := cX2_begin) (maxL := 5) (ret := none) [some (.ref (xZ G + r)), some (.ref (xZ G + x)), some (.int (nI f)), some (.int (nI e)), none] (by decide) rfl rfl rfl (Nat.le_of_ble_eq_true rfl) ?_
  intro X hC hD h0 _
  have loop : ∀ (q k : Nat), k + q = (e - f) → xg X G (0, 0) μ (bgI I r (P r 0) (P x 0) f k) P [some (.ref (xZ G + r)), some (.ref (xZ G + x)), some (.int (nI f)), some (.int (nI e)), some (.int (nI (f + k)))] 8 [] := by
    intro q
    induction q with
    | zero =>
      intro k hk
      have ek : k = e - f := by omega
      subst ek
      refine r_iload (pc := 8) hC dX2_begin_8 rfl ?_
      refine r_iload_n (pc := 10) hC dX2_begin_10 rfl ?_
      refine r_icmp_ge (pc := 11) (tgt := 55) hC dX2_begin_11 (by decide) (fun bq11 => ?_) (fun bq11 => ?_)
      · skip
        refine r_aload_n (pc := 55) hC dX2_begin_55 rfl ?_
        refine r_iconst (pc := 56) (v := 0) hC dX2_begin_56 (by decide) ?_
        refine p_Row_wear (pc := 57) hC wi_X2_begin_2 wl_X2_begin_25 (by assumption) dX2_begin_57 ?_
        refine r_aload_n (pc := 60) hC dX2_begin_60 rfl ?_
        refine r_iconst (pc := 61) (v := 0) hC dX2_begin_61 (by decide) ?_
        refine p_Row_torn (pc := 62) hC (by first | exact Or.inl rfl | exact Or.inr rfl | assumption) wi_X2_begin_2 wl_X2_begin_28 (by assumption) dX2_begin_62 ?_
        refine r_vret (pc := 65) hC hD dX2_begin_65 rfl ?_
        exact ⟨rfl, rfl, rfl, rfl⟩
      · skip
        exact absurd (nI_le (by omega) (by omega)) bq11
    | succ q ih =>
      intro k hk
      refine r_iload (pc := 8) hC dX2_begin_8 rfl ?_
      refine r_iload_n (pc := 10) hC dX2_begin_10 rfl ?_
      refine r_icmp_ge (pc := 11) (tgt := 55) hC dX2_begin_11 (by decide) (fun bq11 => ?_) (fun bq11 => ?_)
      · skip
        exact absurd bq11 (nI_ge (by omega) (by omega))
      · skip
        refine r_aload_n (pc := 14) hC dX2_begin_14 rfl ?_
        refine g_Row_length (pc := 15) hC wi_X2_begin_2 wl_X2_begin_21 (by assumption) dX2_begin_15 ?_
        rw [show (bgI I r (P r 0) (P x 0) f k) r 1 = nI k from xu_at]
        refine r_bipush (pc := 18) (v := 14) hC dX2_begin_18 (by decide) ?_
        refine r_icmp_ge (pc := 20) (tgt := 55) hC dX2_begin_20 (by decide) (fun bq20 => ?_) (fun bq20 => ?_)
        · skip
          exact absurd bq20 (nI_ge (b := 14) (by omega) (by decide))
        · skip
          refine r_aload_n (pc := 23) hC dX2_begin_23 rfl ?_
          refine g_Row_letters (pc := 24) hC wi_X2_begin_2 wl_X2_begin_9 (by assumption) (c2 := 8) (by assumption) (by decide) dX2_begin_24 ?_
          refine r_aload_n (pc := 27) hC dX2_begin_27 rfl ?_
          refine g_Row_length (pc := 28) hC wi_X2_begin_2 wl_X2_begin_21 (by assumption) dX2_begin_28 ?_
          rw [show (bgI I r (P r 0) (P x 0) f k) r 1 = nI k from xu_at]
          refine r_aload_n (pc := 31) hC dX2_begin_31 rfl ?_
          refine g_Text_signs (pc := 32) hC wi_X2_begin_3 wl_X2_begin_32 (by assumption) (c2 := 8) (by assumption) (by decide) dX2_begin_32 ?_
          refine r_iload (pc := 35) hC dX2_begin_35 rfl ?_
          refine r_cald (pc := 37) hC (k := f + k) ksg (xi_n (by rw [lsg]; omega) (by rw [lsg]; decide)) dX2_begin_37 ?_
          rw [show (bgI I r (P r 0) (P x 0) f k) (P x 0) (f + k) = I (P x 0) (f + k) from by rw [bgI, xu_row hsr, xmp_o (Ne.symm hls)]]
          refine r_cast (pc := 38) hC (k := k) kl (xi_n (by rw [ll]; omega) (by rw [ll]; decide)) dX2_begin_38 ?_
          rw [ch_nar (h0.2.1 _ _ ksg)]
          refine r_aload_n (pc := 39) hC dX2_begin_39 rfl ?_
          refine r_dup (pc := 40) hC dX2_begin_40 rfl ?_
          refine g_Row_length (pc := 41) hC wi_X2_begin_2 wl_X2_begin_21 (by assumption) dX2_begin_41 ?_
          rw [xu_row (Ne.symm hlr), show (bgI I r (P r 0) (P x 0) f k) r 1 = nI k from xu_at]
          refine r_iconst (pc := 44) (v := 1) hC dX2_begin_44 (by decide) ?_
          refine r_iadd (pc := 45) hC dX2_begin_45 ?_
          rw [nI_1]
          refine p_Row_length (pc := 46) hC wi_X2_begin_2 wl_X2_begin_21 (by assumption) dX2_begin_46 ?_
          rw [bgI_succ hlr]
          refine r_iinc (pc := 49) (v := 1) (L' := [_, _, _, _, _]) hC dX2_begin_49 rfl (by decide) rfl rfl ?_
          refine r_goto (pc := 52) (tgt := 8) hC dX2_begin_52 (by decide) ?_
          rw [nI_1]; exact ih (k + 1) (by omega)
  refine r_aload_n (pc := 0) hC dX2_begin_0 rfl ?_
  refine r_iconst (pc := 1) (v := 0) hC dX2_begin_1 (by decide) ?_
  refine p_Row_length (pc := 2) hC wi_X2_begin_2 wl_X2_begin_21 (by assumption) dX2_begin_2 ?_
  refine r_iload_n (pc := 5) hC dX2_begin_5 rfl ?_
  refine r_istore (pc := 6) (L' := [_, _, _, _, _]) hC dX2_begin_6 rfl (Nat.le_of_ble_eq_true rfl) rfl ?_
  have z := loop (e - f) 0 (by omega)
  rw [bgI_0] at z; exact z
theorem k_X2_begin {X : xF} {G : xG} {cs : Nat × Nat} {μ : xM} {I : xI} {P : xP} {L : List (Option Value)} {pc : Nat} {rest : List Value} {cc : ByteArray} {Ts : List Cond} {own : String} {nL : Nat} {R : Room} (hC : xC X G cc Ts own nL R) {index : Nat} (hG : GoodIn Ts (wsV own index RX2 yX2_begin wsX2_begin)) (hR : rm_X2_begin.frames + 1 ≤ R.frames ∧ 8 + (5 + 11) + rm_X2_begin.locals ≤ R.locals) {r x t f e : Nat} (kr : μ.2.1 r = 3) (kl : μ.2.1 (P r 0) = 8) (ll : μ.2.2 (P r 0) = 14) (kx : μ.2.1 x = 4) (ksg : μ.2.1 (P x 0) = 8) (lsg : μ.2.2 (P x 0) = 60) (ht : I x 1 = nI t) (ht60 : t ≤ 60) (het : e ≤ t) (hfe : f ≤ e) (he14 : e - f ≤ 14) (hls : P r 0 ≠ P x 0) (hW : (rest.map fun v => v.category).sum ≤ 8) (hL : L.length = nL) (hcs : cs.1 ≤ R.cells ∧ cs.2 ≤ R.slots) (hdec : decode cc pc = .ok (.invokevirtual index, 3)) (kk : xg X G cs μ (xu (xu (bgI I r (P r 0) (P x 0) f (e - f)) r 2 0) r 3 0) P L (pc + 3) rest) : xg X G cs μ I P L pc (.int (nI e) :: .int (nI f) :: .ref (xZ G + x) :: .ref (xZ G + r) :: rest) :=
  r_callV hC (c_X2_begin X.2.1 kr kl ll kx ksg lsg ht ht60 het hfe he14 hls) hG rfl rfl rfl hd_X2_begin hR (by rw [kr]; decide) (xe_Row kr) rfl rfl rfl hW hL hcs hdec (by rintro v μ' I' P' ⟨rfl, rfl, rfl, rfl⟩; exact kk)
