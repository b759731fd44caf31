abbrev rm_X5_fails : Room := { frames := 0, cells := 0, slots := 0, locals := 0 }
theorem wl_X5_fails_46 : Cond.fieldLink RX5 46 "HandBlindsModel" "reason" "I" ∈ wsX5_fails := List.mem_of_getElem? (i := 1) (by decide +kernel)
theorem wi_X5_fails_5 : ∀ w ∈ wsX50, w ∈ wsX5_fails := fun _ h => List.mem_cons_of_mem _ (List.mem_append_right _ h)
theorem wl_X5_fails_49 : Cond.fieldLink RX5 49 "HandBlindsModel" "cause" "I" ∈ wsX5_fails := List.mem_of_getElem? (i := 2) (by decide +kernel)
theorem hd_X5_fails : yX5_fails.cls = RX5 ∧ yX5_fails.cls ≠ "java/lang/invoke/MethodHandle" ∧ yX5_fails.cls ≠ "java/lang/invoke/VarHandle" ∧ (parseMethodDescriptor yX5_fails.desc).map (fun d => d.parameters.length) = some 2 := ⟨rfl, by decide +kernel, by decide +kernel, by decide +kernel⟩
set_option maxHeartbeats 4000000 in
set_option maxRecDepth 100000 in
theorem c_X5_fails (l : Launch) {G : xG} {μ : xM} {I : xI} {P : xP} {m : Nat} {a b : Int32} (km : μ.2.1 m = 6) : Ct l yX5_fails wsX5_fails rm_X5_fails G μ I P [.ref (xZ G + m), .int a, .int b] 0 0 (fun vv μ' I' P' => vv = some (.int (0)) ∧ μ' = μ ∧ I' = (xu (xu I m 8 a) m 9 b) ∧ P' = (P)) := by
  refine Ct.of (cc := cX5_fails) (maxL := 3) (ret := (some .boolean)) [some (.ref (xZ G + m)), some (.int a), some (.int b)] (by decide) rfl rfl rfl (Nat.le_of_ble_eq_true rfl) ?_
  intro X hC hD h0 _
  refine r_aload_n (pc := 0) hC dX5_fails_0 rfl ?_
  refine r_iload_n (pc := 1) hC dX5_fails_1 rfl ?_
  refine p_Model_reason (pc := 2) hC wi_X5_fails_5 wl_X5_fails_46 (by assumption) dX5_fails_2 ?_
  refine r_aload_n (pc := 5) hC dX5_fails_5 rfl ?_
  refine r_iload_n (pc := 6) hC dX5_fails_6 rfl ?_
  refine p_Model_cause (pc := 7) hC wi_X5_fails_5 wl_X5_fails_49 (by assumption) dX5_fails_7 ?_
  refine r_iconst (pc := 10) (v := 0) hC dX5_fails_10 (by decide) ?_
  refine r_iret (pc := 11) hC hD rfl dX5_fails_11 rfl ?_
  exact ⟨rfl, rfl, rfl, rfl⟩
theorem k_X5_fails {X : xF} {G : xG} {cs : Nat × Nat} {μ : xM} {I : xI} {P : xP} {L : List (Option Value)} {pc : Nat} {rest : List Value} {cc : ByteArray} {Ts : List Cond} {own : String} {nL : Nat} {R : Room} (hC : xC X G cc Ts own nL R) {index : Nat} (hG : GoodIn Ts (wsV own index RX5 yX5_fails wsX5_fails)) (hR : rm_X5_fails.frames + 1 ≤ R.frames ∧ 8 + (3 + 11) + rm_X5_fails.locals ≤ R.locals) {m : Nat} {a b : Int32} (km : μ.2.1 m = 6) (hW : (rest.map fun v => v.category).sum ≤ 8) (hL : L.length = nL) (hcs : cs.1 ≤ R.cells ∧ cs.2 ≤ R.slots) (hdec : decode cc pc = .ok (.invokevirtual index, 3)) (kk : xg X G cs μ (xu (xu I m 8 a) m 9 b) P L (pc + 3) (.int (0) :: rest)) : xg X G cs μ I P L pc (.int b :: .int a :: .ref (xZ G + m) :: rest) :=
  r_callV hC (c_X5_fails X.2.1 km) hG rfl rfl rfl hd_X5_fails hR (by rw [km]; decide) (xe_Model km) rfl rfl rfl hW hL hcs hdec (by rintro v μ' I' P' ⟨rfl, rfl, rfl, rfl⟩; exact kk)
abbrev rm_X5_isEnd : Room := { frames := 0, cells := 0, slots := 0, locals := 0 }
theorem wl_X5_isEnd_52 : Cond.fieldLink RX5 52 "HandBlindsModel" "spot" "I" ∈ wsX5_isEnd := List.mem_of_getElem? (i := 1) (by decide +kernel)
theorem wi_X5_isEnd_5 : ∀ w ∈ wsX50, w ∈ wsX5_isEnd := fun _ h => List.mem_cons_of_mem _ (List.mem_append_right _ h)
theorem wl_X5_isEnd_55 : Cond.fieldLink RX5 55 "HandBlindsModel" "typed" "I" ∈ wsX5_isEnd := List.mem_of_getElem? (i := 2) (by decide +kernel)
theorem wl_X5_isEnd_19 : Cond.fieldLink RX5 19 "HandBlindsModel" "text" "[I" ∈ wsX5_isEnd := List.mem_of_getElem? (i := 3) (by decide +kernel)
theorem hd_X5_isEnd : yX5_isEnd.cls = RX5 ∧ yX5_isEnd.cls ≠ "java/lang/invoke/MethodHandle" ∧ yX5_isEnd.cls ≠ "java/lang/invoke/VarHandle" ∧ (parseMethodDescriptor yX5_isEnd.desc).map (fun d => d.parameters.length) = some 0 := ⟨rfl, by decide +kernel, by decide +kernel, by decide +kernel⟩
set_option maxHeartbeats 4000000 in
set_option maxRecDepth 100000 in
theorem c_X5_isEnd (l : Launch) {G : xG} {μ : xM} {I : xI} {P : xP} {m t s : Nat} (km : μ.2.1 m = 6) (kt : μ.2.1 (P m 4) = 7) (lt : μ.2.2 (P m 4) = 60) (hty : I m 5 = nI t) (ht60 : t ≤ 60) (hs : I m 6 = nI s) (hst : s ≤ t) : Ct l yX5_isEnd wsX5_isEnd rm_X5_isEnd G μ I P [.ref (xZ G + m)] 0 0 (fun vv μ' I' P' => vv = some (.int (bI (isEndT (I (P m 4)) t s))) ∧ μ' = μ ∧ I' = (I) ∧ P' = (P)) := by
  refine Ct.of (cc := cX5_isEnd) (maxL := 1) (ret := (some .boolean)) [some (.ref (xZ G + m))] (by decide) rfl rfl rfl (Nat.le_of_ble_eq_true rfl) ?_
  intro X hC hD h0 _
  refine r_aload_n (pc := 0) hC dX5_isEnd_0 rfl ?_
  refine g_Model_spot (pc := 1) hC wi_X5_isEnd_5 wl_X5_isEnd_52 (by assumption) dX5_isEnd_1 ?_
  refine r_aload_n (pc := 4) hC dX5_isEnd_4 rfl ?_
  refine g_Model_typed (pc := 5) hC wi_X5_isEnd_5 wl_X5_isEnd_55 (by assumption) dX5_isEnd_5 ?_
  refine r_icmp_eq (pc := 8) (tgt := 25) hC dX5_isEnd_8 (by decide) (fun bq8 => ?_) (fun bq8 => ?_)
  · skip
    refine r_iconst (pc := 25) (v := 1) hC dX5_isEnd_25 (by decide) ?_
    refine r_goto (pc := 26) (tgt := 30) hC dX5_isEnd_26 (by decide) ?_
    refine r_iret (pc := 30) hC hD rfl dX5_isEnd_30 rfl ?_
    exact ⟨by rw [isEndT, decide_eq_true ((nI_eq (by omega) (by omega)).mp (hs.symm.trans (bq8.trans hty)))]; rfl, rfl, rfl, rfl⟩
  · skip
    have hne : s ≠ t := fun e => bq8 (by rw [hs, hty, e])
    have hs60 : s < 60 := by omega
    refine r_aload_n (pc := 11) hC dX5_isEnd_11 rfl ?_
    refine g_Model_text (pc := 12) hC wi_X5_isEnd_5 wl_X5_isEnd_19 (by assumption) (c2 := 7) (by assumption) (by decide) dX5_isEnd_12 ?_
    refine r_aload_n (pc := 15) hC dX5_isEnd_15 rfl ?_
    refine g_Model_spot (pc := 16) hC wi_X5_isEnd_5 wl_X5_isEnd_52 (by assumption) dX5_isEnd_16 ?_
    refine r_iald (pc := 19) hC kt (xi_e (k := s) hs lt hs60 (by decide)) dX5_isEnd_19 ?_
    refine r_bipush (pc := 20) (v := 47) hC dX5_isEnd_20 (by decide) ?_
    refine r_icmp_ne (pc := 22) (tgt := 29) hC dX5_isEnd_22 (by decide) (fun bq22 => ?_) (fun bq22 => ?_)
    · skip
      refine r_iconst (pc := 29) (v := 0) hC dX5_isEnd_29 (by decide) ?_
      refine r_iret (pc := 30) hC hD rfl dX5_isEnd_30 rfl ?_
      exact ⟨by rw [isEndT, decide_eq_false hne, decide_eq_false bq22]; rfl, rfl, rfl, rfl⟩
    · skip
      refine r_iconst (pc := 25) (v := 1) hC dX5_isEnd_25 (by decide) ?_
      refine r_goto (pc := 26) (tgt := 30) hC dX5_isEnd_26 (by decide) ?_
      refine r_iret (pc := 30) hC hD rfl dX5_isEnd_30 rfl ?_
      exact ⟨by rw [isEndT, decide_eq_false hne, decide_eq_true bq22]; rfl, rfl, rfl, rfl⟩
theorem k_X5_isEnd {X : xF} {G : xG} {cs : Nat × Nat} {μ : xM} {I : xI} {P : xP} {L : List (Option Value)} {pc : Nat} {rest : List Value} {cc : ByteArray} {Ts : List Cond} {own : String} {nL : Nat} {R : Room} (hC : xC X G cc Ts own nL R) {index : Nat} (hG : GoodIn Ts (wsV own index RX5 yX5_isEnd wsX5_isEnd)) (hR : rm_X5_isEnd.frames + 1 ≤ R.frames ∧ 8 + (1 + 11) + rm_X5_isEnd.locals ≤ R.locals) {m t s : Nat} (km : μ.2.1 m = 6) (kt : μ.2.1 (P m 4) = 7) (lt : μ.2.2 (P m 4) = 60) (hty : I m 5 = nI t) (ht60 : t ≤ 60) (hs : I m 6 = nI s) (hst : s ≤ t) (hW : (rest.map fun v => v.category).sum ≤ 8) (hL : L.length = nL) (hcs : cs.1 ≤ R.cells ∧ cs.2 ≤ R.slots) (hdec : decode cc pc = .ok (.invokevirtual index, 3)) (kk : xg X G cs μ I P L (pc + 3) (.int (bI (isEndT (I (P m 4)) t s)) :: rest)) : xg X G cs μ I P L pc (.ref (xZ G + m) :: rest) :=
  r_callV hC (c_X5_isEnd X.2.1 km kt lt hty ht60 hs hst) hG rfl rfl rfl hd_X5_isEnd hR (by rw [km]; decide) (xe_Model km) rfl rfl rfl hW hL hcs hdec (by rintro v μ' I' P' ⟨rfl, rfl, rfl, rfl⟩; exact kk)
abbrev rm_X5_mayStand : Room := { frames := 1, cells := 0, slots := 0, locals := 22 }
theorem wl_X5_mayStand_52 : Cond.fieldLink RX5 52 "HandBlindsModel" "spot" "I" ∈ wsX5_mayStand := List.mem_of_getElem? (i := 1) (by decide +kernel)
theorem wi_X5_mayStand_5 : ∀ w ∈ wsX50, w ∈ wsX5_mayStand := fun _ h => List.mem_cons_of_mem _ (List.mem_append_right _ h)
theorem wl_X5_mayStand_58 : Cond.fieldLink RX5 58 "HandBlindsModel" "from" "I" ∈ wsX5_mayStand := List.mem_of_getElem? (i := 2) (by decide +kernel)
theorem wl_X5_mayStand_19 : Cond.fieldLink RX5 19 "HandBlindsModel" "text" "[I" ∈ wsX5_mayStand := List.mem_of_getElem? (i := 3) (by decide +kernel)
theorem hd_X5_mayStand : yX5_mayStand.cls = RX5 ∧ yX5_mayStand.cls ≠ "java/lang/invoke/MethodHandle" ∧ yX5_mayStand.cls ≠ "java/lang/invoke/VarHandle" ∧ (parseMethodDescriptor yX5_mayStand.desc).map (fun d => d.parameters.length) = some 0 := ⟨rfl, by decide +kernel, by decide +kernel, by decide +kernel⟩
set_option maxHeartbeats 4000000 in
set_option maxRecDepth 100000 in
theorem c_X5_mayStand (l : Launch) {G : xG} {μ : xM} {I : xI} {P : xP} {m t s f : Nat} (km : μ.2.1 m = 6) (kt : μ.2.1 (P m 4) = 7) (lt : μ.2.2 (P m 4) = 60) (hty : I m 5 = nI t) (ht60 : t ≤ 60) (hs : I m 6 = nI s) (hf : I m 7 = nI f) (hfs : f ≤ s) (hst : s < t) : Ct l yX5_mayStand wsX5_mayStand rm_X5_mayStand G μ I P [.ref (xZ G + m)] 0 0 (fun vv μ' I' P' => vv = some (.int (bI (mayT (I (P m 4)) f s))) ∧ μ' = μ ∧ I' = (I) ∧ P' = (P)) := by
  refine Ct.of (cc := cX5_mayStand) (maxL := 3) (ret := (some .boolean)) [some (.ref (xZ G + m)), none, none] (by decide) rfl rfl rfl (Nat.le_of_ble_eq_true rfl) ?_
  intro X hC hD h0 _
  refine r_aload_n (pc := 0) hC dX5_mayStand_0 rfl ?_
  refine g_Model_spot (pc := 1) hC wi_X5_mayStand_5 wl_X5_mayStand_52 (by assumption) dX5_mayStand_1 ?_
  refine r_aload_n (pc := 4) hC dX5_mayStand_4 rfl ?_
  refine g_Model_from (pc := 5) hC wi_X5_mayStand_5 wl_X5_mayStand_58 (by assumption) dX5_mayStand_5 ?_
  refine r_isub (pc := 8) hC dX5_mayStand_8 ?_
  have e33 : I m 6 - I m 7 = nI (s - f) := by rw [hs, hf, pk_sub hfs]
  rw [e33]
  refine r_istore_n (pc := 9) (L' := [_, _, _]) hC dX5_mayStand_9 rfl (Nat.le_of_ble_eq_true rfl) rfl ?_
  refine r_aload_n (pc := 10) hC dX5_mayStand_10 rfl ?_
  refine g_Model_text (pc := 11) hC wi_X5_mayStand_5 wl_X5_mayStand_19 (by assumption) (c2 := 7) (by assumption) (by decide) dX5_mayStand_11 ?_
  refine r_aload_n (pc := 14) hC dX5_mayStand_14 rfl ?_
  refine g_Model_spot (pc := 15) hC wi_X5_mayStand_5 wl_X5_mayStand_52 (by assumption) dX5_mayStand_15 ?_
  refine r_iald (pc := 18) hC kt (xi_e (k := s) hs lt (by omega) (by decide)) dX5_mayStand_18 ?_
  refine r_bipush (pc := 19) (v := 32) hC dX5_mayStand_19 (by decide) ?_
  refine r_icmp_ne (pc := 21) (tgt := 28) hC dX5_mayStand_21 (by decide) (fun bq21 => ?_) (fun bq21 => ?_)
  · skip
    refine r_iconst (pc := 28) (v := 0) hC dX5_mayStand_28 (by decide) ?_
    refine r_istore_n (pc := 29) (L' := [_, _, _]) hC dX5_mayStand_29 rfl (Nat.le_of_ble_eq_true rfl) rfl ?_
    refine r_iload_n (pc := 30) hC dX5_mayStand_30 rfl ?_
    refine r_bipush (pc := 31) (v := 14) hC dX5_mayStand_31 (by decide) ?_
    refine r_icmp_ge (pc := 33) (tgt := 83) hC dX5_mayStand_33 (by decide) (fun bq33 => ?_) (fun bq33 => ?_)
    · skip
      refine r_iconst (pc := 83) (v := 0) hC dX5_mayStand_83 (by decide) ?_
      refine r_iret (pc := 84) hC hD rfl dX5_mayStand_84 rfl ?_
      have hres : bI (mayT (I (P m 4)) f s) = 0 := by
        have h1 : ¬ s - f < 14 := fun w => nI_ge (b := 14) w (by decide) bq33
        rw [mayT, decide_eq_false h1]; rfl
      exact ⟨by rw [hres], rfl, rfl, rfl⟩
    · skip
      refine r_aload_n (pc := 36) hC dX5_mayStand_36 rfl ?_
      refine g_Model_text (pc := 37) hC wi_X5_mayStand_5 wl_X5_mayStand_19 (by assumption) (c2 := 7) (by assumption) (by decide) dX5_mayStand_37 ?_
      refine r_aload_n (pc := 40) hC dX5_mayStand_40 rfl ?_
      refine g_Model_spot (pc := 41) hC wi_X5_mayStand_5 wl_X5_mayStand_52 (by assumption) dX5_mayStand_41 ?_
      refine r_iald (pc := 44) hC kt (xi_e (k := s) hs lt (by omega) (by decide)) dX5_mayStand_44 ?_
      refine r_bipush (pc := 45) (v := 65) hC dX5_mayStand_45 (by decide) ?_
      refine r_bipush (pc := 47) (v := 90) hC dX5_mayStand_47 (by decide) ?_
      refine k_X5_in (pc := 49) hC gX5_mayStand_X5_in ⟨Nat.le_of_ble_eq_true rfl, Nat.le_of_ble_eq_true rfl⟩  (Nat.le_of_ble_eq_true rfl) rfl ⟨Nat.zero_le _, Nat.zero_le _⟩ dX5_mayStand_49 ?_
      refine r_if_ne (pc := 52) (tgt := 79) hC dX5_mayStand_52 (by decide) (fun bq52 => ?_) (fun bq52 => ?_)
      · skip
        refine r_iconst (pc := 79) (v := 1) hC dX5_mayStand_79 (by decide) ?_
        refine r_goto (pc := 80) (tgt := 84) hC dX5_mayStand_80 (by decide) ?_
        refine r_iret (pc := 84) hC hD rfl dX5_mayStand_84 rfl ?_
        have hres : bI (mayT (I (P m 4)) f s) = 1 := by
          have h1 : s - f < 14 := Classical.byContradiction fun w => bq33 (nI_le (a := 14) (by omega) (by omega))
          rw [mayT, decide_eq_true h1, show isLetT ((I (P m 4)) s) = true from decide_eq_true bq52]; rfl
        exact ⟨by rw [hres], rfl, rfl, rfl⟩
      · skip
        refine r_iload_n (pc := 55) hC dX5_mayStand_55 rfl ?_
        refine r_if_eq (pc := 56) (tgt := 83) hC dX5_mayStand_56 (by decide) (fun bq56 => ?_) (fun bq56 => ?_)
        · skip
          refine r_iconst (pc := 83) (v := 0) hC dX5_mayStand_83 (by decide) ?_
          refine r_iret (pc := 84) hC hD rfl dX5_mayStand_84 rfl ?_
          have hres : bI (mayT (I (P m 4)) f s) = 0 := by
            have h1 : s - f < 14 := Classical.byContradiction fun w => bq33 (nI_le (a := 14) (by omega) (by omega))
            rw [mayT, decide_eq_true h1, show isLetT ((I (P m 4)) s) = false from decide_eq_false (fun w => w bq52), decide_eq_false bq21]; rfl
          exact ⟨by rw [hres], rfl, rfl, rfl⟩
        · skip
          exact absurd rfl bq56
  · skip
    refine r_iconst (pc := 24) (v := 1) hC dX5_mayStand_24 (by decide) ?_
    refine r_goto (pc := 25) (tgt := 29) hC dX5_mayStand_25 (by decide) ?_
    refine r_istore_n (pc := 29) (L' := [_, _, _]) hC dX5_mayStand_29 rfl (Nat.le_of_ble_eq_true rfl) rfl ?_
    refine r_iload_n (pc := 30) hC dX5_mayStand_30 rfl ?_
    refine r_bipush (pc := 31) (v := 14) hC dX5_mayStand_31 (by decide) ?_
    refine r_icmp_ge (pc := 33) (tgt := 83) hC dX5_mayStand_33 (by decide) (fun bq33 => ?_) (fun bq33 => ?_)
    · skip
      refine r_iconst (pc := 83) (v := 0) hC dX5_mayStand_83 (by decide) ?_
      refine r_iret (pc := 84) hC hD rfl dX5_mayStand_84 rfl ?_
      have hres : bI (mayT (I (P m 4)) f s) = 0 := by
        have h1 : ¬ s - f < 14 := fun w => nI_ge (b := 14) w (by decide) bq33
        rw [mayT, decide_eq_false h1]; rfl
      exact ⟨by rw [hres], rfl, rfl, rfl⟩
    · skip
      refine r_aload_n (pc := 36) hC dX5_mayStand_36 rfl ?_
      refine g_Model_text (pc := 37) hC wi_X5_mayStand_5 wl_X5_mayStand_19 (by assumption) (c2 := 7) (by assumption) (by decide) dX5_mayStand_37 ?_
      refine r_aload_n (pc := 40) hC dX5_mayStand_40 rfl ?_
      refine g_Model_spot (pc := 41) hC wi_X5_mayStand_5 wl_X5_mayStand_52 (by assumption) dX5_mayStand_41 ?_
      refine r_iald (pc := 44) hC kt (xi_e (k := s) hs lt (by omega) (by decide)) dX5_mayStand_44 ?_
      refine r_bipush (pc := 45) (v := 65) hC dX5_mayStand_45 (by decide) ?_
      refine r_bipush (pc := 47) (v := 90) hC dX5_mayStand_47 (by decide) ?_
      refine k_X5_in (pc := 49) hC gX5_mayStand_X5_in ⟨Nat.le_of_ble_eq_true rfl, Nat.le_of_ble_eq_true rfl⟩  (Nat.le_of_ble_eq_true rfl) rfl ⟨Nat.zero_le _, Nat.zero_le _⟩ dX5_mayStand_49 ?_
      refine r_if_ne (pc := 52) (tgt := 79) hC dX5_mayStand_52 (by decide) (fun bq52 => ?_) (fun bq52 => ?_)
      · skip
        refine r_iconst (pc := 79) (v := 1) hC dX5_mayStand_79 (by decide) ?_
        refine r_goto (pc := 80) (tgt := 84) hC dX5_mayStand_80 (by decide) ?_
        refine r_iret (pc := 84) hC hD rfl dX5_mayStand_84 rfl ?_
        have hres : bI (mayT (I (P m 4)) f s) = 1 := by
          have h1 : s - f < 14 := Classical.byContradiction fun w => bq33 (nI_le (a := 14) (by omega) (by omega))
          rw [mayT, decide_eq_true h1, show isLetT ((I (P m 4)) s) = true from decide_eq_true bq52]; rfl
        exact ⟨by rw [hres], rfl, rfl, rfl⟩
      · skip
        refine r_iload_n (pc := 55) hC dX5_mayStand_55 rfl ?_
        refine r_if_eq (pc := 56) (tgt := 83) hC dX5_mayStand_56 (by decide) (fun bq56 => ?_) (fun bq56 => ?_)
        · skip
          exact absurd bq56 (by decide)
        · skip
          refine r_iload_n (pc := 59) hC dX5_mayStand_59 rfl ?_
          refine r_if_le (pc := 60) (tgt := 83) hC dX5_mayStand_60 (by decide) (fun bq60 => ?_) (fun bq60 => ?_)
          · skip
            refine r_iconst (pc := 83) (v := 0) hC dX5_mayStand_83 (by decide) ?_
            refine r_iret (pc := 84) hC hD rfl dX5_mayStand_84 rfl ?_
            have hres : bI (mayT (I (P m 4)) f s) = 0 := by
              have h1 : s - f < 14 := Classical.byContradiction fun w => bq33 (nI_le (a := 14) (by omega) (by omega))
              have h2 : ¬ f < s := fun w => nI_nle (n := s - f) (by omega) (by omega) bq60
              rw [mayT, decide_eq_true h1, show isLetT ((I (P m 4)) s) = false from decide_eq_false (fun w => w bq52), decide_eq_true bq21, decide_eq_false h2]; rfl
            exact ⟨by rw [hres], rfl, rfl, rfl⟩
          · skip
            have hfs2 : f < s := Classical.byContradiction fun w => bq60 (by rw [show s - f = 0 by omega]; decide)
            refine r_aload_n (pc := 63) hC dX5_mayStand_63 rfl ?_
            refine g_Model_text (pc := 64) hC wi_X5_mayStand_5 wl_X5_mayStand_19 (by assumption) (c2 := 7) (by assumption) (by decide) dX5_mayStand_64 ?_
            refine r_aload_n (pc := 67) hC dX5_mayStand_67 rfl ?_
            refine g_Model_spot (pc := 68) hC wi_X5_mayStand_5 wl_X5_mayStand_52 (by assumption) dX5_mayStand_68 ?_
            refine r_iconst (pc := 71) (v := 1) hC dX5_mayStand_71 (by decide) ?_
            refine r_isub (pc := 72) hC dX5_mayStand_72 ?_
            refine r_iald (pc := 73) hC kt (xi_e (k := s - 1) (by rw [hs, show s = (s - 1) + 1 by omega]; exact nI_pred _) lt (by omega) (by decide)) dX5_mayStand_73 ?_
            refine r_bipush (pc := 74) (v := 32) hC dX5_mayStand_74 (by decide) ?_
            refine r_icmp_eq (pc := 76) (tgt := 83) hC dX5_mayStand_76 (by decide) (fun bq76 => ?_) (fun bq76 => ?_)
            · skip
              refine r_iconst (pc := 83) (v := 0) hC dX5_mayStand_83 (by decide) ?_
              refine r_iret (pc := 84) hC hD rfl dX5_mayStand_84 rfl ?_
              have hres : bI (mayT (I (P m 4)) f s) = 0 := by
                have h1 : s - f < 14 := Classical.byContradiction fun w => bq33 (nI_le (a := 14) (by omega) (by omega))
                have h2 : f < s := Classical.byContradiction fun w => bq60 (by rw [show s - f = 0 by omega]; decide)
                rw [mayT, decide_eq_true h1, show isLetT ((I (P m 4)) s) = false from decide_eq_false (fun w => w bq52), decide_eq_true bq21, decide_eq_true h2, decide_eq_false (fun w => w bq76)]; rfl
              exact ⟨by rw [hres], rfl, rfl, rfl⟩
            · skip
              refine r_iconst (pc := 79) (v := 1) hC dX5_mayStand_79 (by decide) ?_
              refine r_goto (pc := 80) (tgt := 84) hC dX5_mayStand_80 (by decide) ?_
              refine r_iret (pc := 84) hC hD rfl dX5_mayStand_84 rfl ?_
              have hres : bI (mayT (I (P m 4)) f s) = 1 := by
                have h1 : s - f < 14 := Classical.byContradiction fun w => bq33 (nI_le (a := 14) (by omega) (by omega))
                have h2 : f < s := Classical.byContradiction fun w => bq60 (by rw [show s - f = 0 by omega]; decide)
                rw [mayT, decide_eq_true h1, show isLetT ((I (P m 4)) s) = false from decide_eq_false (fun w => w bq52), decide_eq_true bq21, decide_eq_true h2, decide_eq_true bq76]; rfl
              exact ⟨by rw [hres], rfl, rfl, rfl⟩
theorem k_X5_mayStand {X : xF} {G : xG} {cs : Nat × Nat} {μ : xM} {I : xI} {P : xP} {L : List (Option Value)} {pc : Nat} {rest : List Value} {cc : ByteArray} {Ts : List Cond} {own : String} {nL : Nat} {R : Room} (hC : xC X G cc Ts own nL R) {index : Nat} (hG : GoodIn Ts (wsV own index RX5 yX5_mayStand wsX5_mayStand)) (hR : rm_X5_mayStand.frames + 1 ≤ R.frames ∧ 8 + (3 + 11) + rm_X5_mayStand.locals ≤ R.locals) {m t s f : Nat} (km : μ.2.1 m = 6) (kt : μ.2.1 (P m 4) = 7) (lt : μ.2.2 (P m 4) = 60) (hty : I m 5 = nI t) (ht60 : t ≤ 60) (hs : I m 6 = nI s) (hf : I m 7 = nI f) (hfs : f ≤ s) (hst : s < t) (hW : (rest.map fun v => v.category).sum ≤ 8) (hL : L.length = nL) (hcs : cs.1 ≤ R.cells ∧ cs.2 ≤ R.slots) (hdec : decode cc pc = .ok (.invokevirtual index, 3)) (kk : xg X G cs μ I P L (pc + 3) (.int (bI (mayT (I (P m 4)) f s)) :: rest)) : xg X G cs μ I P L pc (.ref (xZ G + m) :: rest) :=
  r_callV hC (c_X5_mayStand X.2.1 km kt lt hty ht60 hs hf hfs hst) hG rfl rfl rfl hd_X5_mayStand hR (by rw [km]; decide) (xe_Model km) rfl rfl rfl hW hL hcs hdec (by rintro v μ' I' P' ⟨rfl, rfl, rfl, rfl⟩; exact kk)
abbrev rm_X5_isFormed : Room := { frames := 2, cells := 0, slots := 0, locals := 44 }
theorem wl_X5_isFormed_52 : Cond.fieldLink RX5 52 "HandBlindsModel" "spot" "I" ∈ wsX5_isFormed := List.mem_of_getElem? (i := 1) (by decide +kernel)
theorem wi_X5_isFormed_5 : ∀ w ∈ wsX50, w ∈ wsX5_isFormed := fun _ h => List.mem_cons_of_mem _ (List.mem_append_right _ h)
theorem wl_X5_isFormed_58 : Cond.fieldLink RX5 58 "HandBlindsModel" "from" "I" ∈ wsX5_isFormed := List.mem_of_getElem? (i := 2) (by decide +kernel)
theorem wl_X5_isFormed_19 : Cond.fieldLink RX5 19 "HandBlindsModel" "text" "[I" ∈ wsX5_isFormed := List.mem_of_getElem? (i := 3) (by decide +kernel)
theorem hd_X5_isFormed : yX5_isFormed.cls = RX5 ∧ yX5_isFormed.cls ≠ "java/lang/invoke/MethodHandle" ∧ yX5_isFormed.cls ≠ "java/lang/invoke/VarHandle" ∧ (parseMethodDescriptor yX5_isFormed.desc).map (fun d => d.parameters.length) = some 0 := ⟨rfl, by decide +kernel, by decide +kernel, by decide +kernel⟩
set_option maxHeartbeats 4000000 in
set_option maxRecDepth 100000 in
theorem c_X5_isFormed (l : Launch) {G : xG} {μ : xM} {I : xI} {P : xP} {m t f : Nat} (km : μ.2.1 m = 6) (kt : μ.2.1 (P m 4) = 7) (lt : μ.2.2 (P m 4) = 60) (hty : I m 5 = nI t) (ht60 : t ≤ 60) (hs : I m 6 = nI f) (hf : I m 7 = nI f) (hft : f ≤ t) (hxs : P m 4 ≠ P m 0) (hms : m ≠ P m 0) : Ct l yX5_isFormed wsX5_isFormed rm_X5_isFormed G μ I P [.ref (xZ G + m)] 0 0 (fun vv μ' I' P' => vv = some (.int (bI (fmOk (I (P m 4)) t f))) ∧ μ' = μ ∧ P' = P ∧ I' m 6 = nI (fmE (I (P m 4)) t f) ∧ I' m 7 = nI f ∧ I' m 10 = I m 10 ∧ I' (P m 0) = I (P m 0) ∧ (fmOk (I (P m 4)) t f = false → I' m 8 = 1 ∧ I' m 9 = nI (fmC (I (P m 4)) t f)) ∧ xTx m (P m 0) I I') := by
  have hmx : m ≠ P m 4 := fun e => by rw [← e, km] at kt; cases kt
  refine Ct.of (cc := cX5_isFormed) (maxL := 2) (ret := (some .boolean)) [some (.ref (xZ G + m)), none] (by decide) rfl rfl rfl (Nat.le_of_ble_eq_true rfl) ?_
  intro X hC hD h0 _
  have loop : ∀ (p s : Nat), s + p = t → f ≤ s → s ≤ t → (∀ i, f ≤ i → i < s → fmP (I (P m 4)) t f i = false) → ∀ J : xI, J m 6 = nI s → J m 7 = nI f → J m 10 = I m 10 → J (P m 0) = I (P m 0) → xTx m (P m 0) I J → ∀ z1 : Option Value, xg X G (0, 0) μ J P [some (.ref (xZ G + m)), z1] 0 [] := by
    intro p
    induction p with
    | zero =>
      intro s hsq hfs hst hno J j6 j7 j10 jS jT z1
      have jX : J (P m 4) = I (P m 4) := jT.1 _ (Ne.symm hmx) hxs
      have hts : s = t := by omega
      refine r_aload_n (pc := 0) hC dX5_isFormed_0 rfl ?_
      refine k_X5_isEnd (pc := 1) hC gX5_isFormed_X5_isEnd ⟨Nat.le_of_ble_eq_true rfl, Nat.le_of_ble_eq_true rfl⟩ km kt lt (by rw [jT.2 5 (by decide)]; exact hty) ht60 j6 hst (Nat.le_of_ble_eq_true rfl) rfl ⟨Nat.zero_le _, Nat.zero_le _⟩ dX5_isFormed_1 ?_
      rw [jX]
      refine r_if_ne (pc := 4) (tgt := 42) hC dX5_isFormed_4 (by decide) (fun bq4 => ?_) (fun bq4 => ?_)
      · skip
        refine r_aload_n (pc := 42) hC dX5_isFormed_42 rfl ?_
        refine g_Model_spot (pc := 43) hC wi_X5_isFormed_5 wl_X5_isFormed_52 (by assumption) dX5_isFormed_43 ?_
        refine r_aload_n (pc := 46) hC dX5_isFormed_46 rfl ?_
        refine g_Model_from (pc := 47) hC wi_X5_isFormed_5 wl_X5_isFormed_58 (by assumption) dX5_isFormed_47 ?_
        refine r_isub (pc := 50) hC dX5_isFormed_50 ?_
        rw [j6, j7, pk_sub hfs]
        refine r_istore_n (pc := 51) (L' := [_, _]) hC dX5_isFormed_51 rfl (Nat.le_of_ble_eq_true rfl) rfl ?_
        refine r_iload_n (pc := 52) hC dX5_isFormed_52 rfl ?_
        refine r_if_ne (pc := 53) (tgt := 63) hC dX5_isFormed_53 (by decide) (fun bq53 => ?_) (fun bq53 => ?_)
        · skip
          have hsf : f < s := Classical.byContradiction fun w => bq53 (by rw [show s - f = 0 by omega]; rfl)
          refine r_aload_n (pc := 63) hC dX5_isFormed_63 rfl ?_
          refine g_Model_text (pc := 64) hC wi_X5_isFormed_5 wl_X5_isFormed_19 (by assumption) (c2 := 7) (by assumption) (by decide) dX5_isFormed_64 ?_
          refine r_aload_n (pc := 67) hC dX5_isFormed_67 rfl ?_
          refine g_Model_spot (pc := 68) hC wi_X5_isFormed_5 wl_X5_isFormed_52 (by assumption) dX5_isFormed_68 ?_
          refine r_iconst (pc := 71) (v := 1) hC dX5_isFormed_71 (by decide) ?_
          refine r_isub (pc := 72) hC dX5_isFormed_72 ?_
          refine r_iald (pc := 73) hC kt (xi_e (k := s - 1) (by rw [j6, show s = (s - 1) + 1 by omega]; exact nI_pred _) lt (by omega) (by decide)) dX5_isFormed_73 ?_
          refine r_bipush (pc := 74) (v := 32) hC dX5_isFormed_74 (by decide) ?_
          rw [jX]
          refine r_icmp_ne (pc := 76) (tgt := 90) hC dX5_isFormed_76 (by decide) (fun bq76 => ?_) (fun bq76 => ?_)
          · skip
            refine r_iconst (pc := 90) (v := 1) hC dX5_isFormed_90 (by decide) ?_
            refine r_goto (pc := 91) (tgt := 95) hC dX5_isFormed_91 (by decide) ?_
            refine r_iret (pc := 95) hC hD rfl dX5_isFormed_95 rfl ?_
            have hE : isEndT (I (P m 4)) t s = true := by
              cases hd : isEndT (I (P m 4)) t s
              · rw [hd] at bq4; exact absurd rfl bq4
              · rfl
            have hx : fmE (I (P m 4)) t f = s := fmE_at hfs hst hno (by rw [fmP, hE]; rfl)
            have hok : fmOk (I (P m 4)) t f = true := by rw [fmOk, hx, hE, decide_eq_true (show f < s by omega), decide_eq_true bq76]; rfl
            exact ⟨by rw [hok]; rfl, rfl, rfl, by rw [hx]; exact j6, j7, j10, jS, (fun w => by rw [hok] at w; cases w), jT⟩
          · skip
            refine r_aload_n (pc := 79) hC dX5_isFormed_79 rfl ?_
            refine r_iconst (pc := 80) (v := 1) hC dX5_isFormed_80 (by decide) ?_
            refine r_iload_n (pc := 81) hC dX5_isFormed_81 rfl ?_
            refine r_iconst (pc := 82) (v := 1) hC dX5_isFormed_82 (by decide) ?_
            refine r_isub (pc := 83) hC dX5_isFormed_83 ?_
            rw [show nI (s - f) - 1 = nI (s - f - 1) from by rw [show s - f = (s - f - 1) + 1 by omega]; exact nI_pred _]
            refine k_X5_fails (pc := 84) hC gX5_isFormed_X5_fails ⟨Nat.le_of_ble_eq_true rfl, Nat.le_of_ble_eq_true rfl⟩ (by assumption) (Nat.le_of_ble_eq_true rfl) rfl ⟨Nat.zero_le _, Nat.zero_le _⟩ dX5_isFormed_84 ?_
            refine r_if_eq (pc := 87) (tgt := 94) hC dX5_isFormed_87 (by decide) (fun bq87 => ?_) (fun bq87 => ?_)
            · skip
              refine r_iconst (pc := 94) (v := 0) hC dX5_isFormed_94 (by decide) ?_
              refine r_iret (pc := 95) hC hD rfl dX5_isFormed_95 rfl ?_
              have hE : isEndT (I (P m 4)) t s = true := by
                cases hd : isEndT (I (P m 4)) t s
                · rw [hd] at bq4; exact absurd rfl bq4
                · rfl
              have hx : fmE (I (P m 4)) t f = s := fmE_at hfs hst hno (by rw [fmP, hE]; rfl)
              have hok : fmOk (I (P m 4)) t f = false := by rw [fmOk, hx, hE, decide_eq_true (show f < s by omega), decide_eq_false (fun w => w bq76)]; rfl
              have hc : fmC (I (P m 4)) t f = s - f - 1 := by rw [fmC, hx, if_pos hE, if_neg (by omega)]
              exact ⟨by rw [hok]; rfl, rfl, rfl, by rw [hx, xu_ne (Or.inr (by decide)), xu_ne (Or.inr (by decide))]; exact j6, by rw [xu_ne (Or.inr (by decide)), xu_ne (Or.inr (by decide))]; exact j7, by rw [xu_ne (Or.inr (by decide)), xu_ne (Or.inr (by decide))]; exact j10, by rw [xu_row (Ne.symm hms), xu_row (Ne.symm hms)]; exact jS, fun _ => ⟨by rw [xu_ne (Or.inr (by decide)), xu_at], by rw [xu_at, hc] <;> rfl⟩, (jT.u (by decide)).u (by decide)⟩
            · skip
              exact absurd rfl bq87
        · skip
          have hsf : s = f := by
            have z := (nI_eq (a := s - f) (b := 0) (by omega) (by decide)).mp bq53
            omega
          refine r_aload_n (pc := 56) hC dX5_isFormed_56 rfl ?_
          refine r_iconst (pc := 57) (v := 1) hC dX5_isFormed_57 (by decide) ?_
          refine r_iconst (pc := 58) (v := 0) hC dX5_isFormed_58 (by decide) ?_
          refine k_X5_fails (pc := 59) hC gX5_isFormed_X5_fails ⟨Nat.le_of_ble_eq_true rfl, Nat.le_of_ble_eq_true rfl⟩ (by assumption) (Nat.le_of_ble_eq_true rfl) rfl ⟨Nat.zero_le _, Nat.zero_le _⟩ dX5_isFormed_59 ?_
          refine r_iret (pc := 62) hC hD rfl dX5_isFormed_62 rfl ?_
          have hE : isEndT (I (P m 4)) t s = true := by
            cases hd : isEndT (I (P m 4)) t s
            · rw [hd] at bq4; exact absurd rfl bq4
            · rfl
          have hx : fmE (I (P m 4)) t f = s := fmE_at hfs hst hno (by rw [fmP, hE]; rfl)
          have hok : fmOk (I (P m 4)) t f = false := by rw [fmOk, hx, hE, decide_eq_false (show ¬ f < s by omega)]; rfl
          have hc : fmC (I (P m 4)) t f = 0 := by rw [fmC, hx, if_pos hE, if_pos (by omega)]
          exact ⟨by rw [hok]; rfl, rfl, rfl, by rw [hx, xu_ne (Or.inr (by decide)), xu_ne (Or.inr (by decide))]; exact j6, by rw [xu_ne (Or.inr (by decide)), xu_ne (Or.inr (by decide))]; exact j7, by rw [xu_ne (Or.inr (by decide)), xu_ne (Or.inr (by decide))]; exact j10, by rw [xu_row (Ne.symm hms), xu_row (Ne.symm hms)]; exact jS, fun _ => ⟨by rw [xu_ne (Or.inr (by decide)), xu_at], by rw [xu_at, hc] <;> rfl⟩, (jT.u (by decide)).u (by decide)⟩
      · skip
        rw [isEndT, decide_eq_true hts] at bq4; exact absurd bq4 (by rw [Bool.true_or]; decide)
    | succ p ih =>
      intro s hsq hfs hst hno J j6 j7 j10 jS jT z1
      have jX : J (P m 4) = I (P m 4) := jT.1 _ (Ne.symm hmx) hxs
      refine r_aload_n (pc := 0) hC dX5_isFormed_0 rfl ?_
      refine k_X5_isEnd (pc := 1) hC gX5_isFormed_X5_isEnd ⟨Nat.le_of_ble_eq_true rfl, Nat.le_of_ble_eq_true rfl⟩ km kt lt (by rw [jT.2 5 (by decide)]; exact hty) ht60 j6 hst (Nat.le_of_ble_eq_true rfl) rfl ⟨Nat.zero_le _, Nat.zero_le _⟩ dX5_isFormed_1 ?_
      rw [jX]
      refine r_if_ne (pc := 4) (tgt := 42) hC dX5_isFormed_4 (by decide) (fun bq4 => ?_) (fun bq4 => ?_)
      · skip
        refine r_aload_n (pc := 42) hC dX5_isFormed_42 rfl ?_
        refine g_Model_spot (pc := 43) hC wi_X5_isFormed_5 wl_X5_isFormed_52 (by assumption) dX5_isFormed_43 ?_
        refine r_aload_n (pc := 46) hC dX5_isFormed_46 rfl ?_
        refine g_Model_from (pc := 47) hC wi_X5_isFormed_5 wl_X5_isFormed_58 (by assumption) dX5_isFormed_47 ?_
        refine r_isub (pc := 50) hC dX5_isFormed_50 ?_
        rw [j6, j7, pk_sub hfs]
        refine r_istore_n (pc := 51) (L' := [_, _]) hC dX5_isFormed_51 rfl (Nat.le_of_ble_eq_true rfl) rfl ?_
        refine r_iload_n (pc := 52) hC dX5_isFormed_52 rfl ?_
        refine r_if_ne (pc := 53) (tgt := 63) hC dX5_isFormed_53 (by decide) (fun bq53 => ?_) (fun bq53 => ?_)
        · skip
          have hsf : f < s := Classical.byContradiction fun w => bq53 (by rw [show s - f = 0 by omega]; rfl)
          refine r_aload_n (pc := 63) hC dX5_isFormed_63 rfl ?_
          refine g_Model_text (pc := 64) hC wi_X5_isFormed_5 wl_X5_isFormed_19 (by assumption) (c2 := 7) (by assumption) (by decide) dX5_isFormed_64 ?_
          refine r_aload_n (pc := 67) hC dX5_isFormed_67 rfl ?_
          refine g_Model_spot (pc := 68) hC wi_X5_isFormed_5 wl_X5_isFormed_52 (by assumption) dX5_isFormed_68 ?_
          refine r_iconst (pc := 71) (v := 1) hC dX5_isFormed_71 (by decide) ?_
          refine r_isub (pc := 72) hC dX5_isFormed_72 ?_
          refine r_iald (pc := 73) hC kt (xi_e (k := s - 1) (by rw [j6, show s = (s - 1) + 1 by omega]; exact nI_pred _) lt (by omega) (by decide)) dX5_isFormed_73 ?_
          refine r_bipush (pc := 74) (v := 32) hC dX5_isFormed_74 (by decide) ?_
          rw [jX]
          refine r_icmp_ne (pc := 76) (tgt := 90) hC dX5_isFormed_76 (by decide) (fun bq76 => ?_) (fun bq76 => ?_)
          · skip
            refine r_iconst (pc := 90) (v := 1) hC dX5_isFormed_90 (by decide) ?_
            refine r_goto (pc := 91) (tgt := 95) hC dX5_isFormed_91 (by decide) ?_
            refine r_iret (pc := 95) hC hD rfl dX5_isFormed_95 rfl ?_
            have hE : isEndT (I (P m 4)) t s = true := by
              cases hd : isEndT (I (P m 4)) t s
              · rw [hd] at bq4; exact absurd rfl bq4
              · rfl
            have hx : fmE (I (P m 4)) t f = s := fmE_at hfs hst hno (by rw [fmP, hE]; rfl)
            have hok : fmOk (I (P m 4)) t f = true := by rw [fmOk, hx, hE, decide_eq_true (show f < s by omega), decide_eq_true bq76]; rfl
            exact ⟨by rw [hok]; rfl, rfl, rfl, by rw [hx]; exact j6, j7, j10, jS, (fun w => by rw [hok] at w; cases w), jT⟩
          · skip
            refine r_aload_n (pc := 79) hC dX5_isFormed_79 rfl ?_
            refine r_iconst (pc := 80) (v := 1) hC dX5_isFormed_80 (by decide) ?_
            refine r_iload_n (pc := 81) hC dX5_isFormed_81 rfl ?_
            refine r_iconst (pc := 82) (v := 1) hC dX5_isFormed_82 (by decide) ?_
            refine r_isub (pc := 83) hC dX5_isFormed_83 ?_
            rw [show nI (s - f) - 1 = nI (s - f - 1) from by rw [show s - f = (s - f - 1) + 1 by omega]; exact nI_pred _]
            refine k_X5_fails (pc := 84) hC gX5_isFormed_X5_fails ⟨Nat.le_of_ble_eq_true rfl, Nat.le_of_ble_eq_true rfl⟩ (by assumption) (Nat.le_of_ble_eq_true rfl) rfl ⟨Nat.zero_le _, Nat.zero_le _⟩ dX5_isFormed_84 ?_
            refine r_if_eq (pc := 87) (tgt := 94) hC dX5_isFormed_87 (by decide) (fun bq87 => ?_) (fun bq87 => ?_)
            · skip
              refine r_iconst (pc := 94) (v := 0) hC dX5_isFormed_94 (by decide) ?_
              refine r_iret (pc := 95) hC hD rfl dX5_isFormed_95 rfl ?_
              have hE : isEndT (I (P m 4)) t s = true := by
                cases hd : isEndT (I (P m 4)) t s
                · rw [hd] at bq4; exact absurd rfl bq4
                · rfl
              have hx : fmE (I (P m 4)) t f = s := fmE_at hfs hst hno (by rw [fmP, hE]; rfl)
              have hok : fmOk (I (P m 4)) t f = false := by rw [fmOk, hx, hE, decide_eq_true (show f < s by omega), decide_eq_false (fun w => w bq76)]; rfl
              have hc : fmC (I (P m 4)) t f = s - f - 1 := by rw [fmC, hx, if_pos hE, if_neg (by omega)]
              exact ⟨by rw [hok]; rfl, rfl, rfl, by rw [hx, xu_ne (Or.inr (by decide)), xu_ne (Or.inr (by decide))]; exact j6, by rw [xu_ne (Or.inr (by decide)), xu_ne (Or.inr (by decide))]; exact j7, by rw [xu_ne (Or.inr (by decide)), xu_ne (Or.inr (by decide))]; exact j10, by rw [xu_row (Ne.symm hms), xu_row (Ne.symm hms)]; exact jS, fun _ => ⟨by rw [xu_ne (Or.inr (by decide)), xu_at], by rw [xu_at, hc] <;> rfl⟩, (jT.u (by decide)).u (by decide)⟩
            · skip
              exact absurd rfl bq87
        · skip
          have hsf : s = f := by
            have z := (nI_eq (a := s - f) (b := 0) (by omega) (by decide)).mp bq53
            omega
          refine r_aload_n (pc := 56) hC dX5_isFormed_56 rfl ?_
          refine r_iconst (pc := 57) (v := 1) hC dX5_isFormed_57 (by decide) ?_
          refine r_iconst (pc := 58) (v := 0) hC dX5_isFormed_58 (by decide) ?_
          refine k_X5_fails (pc := 59) hC gX5_isFormed_X5_fails ⟨Nat.le_of_ble_eq_true rfl, Nat.le_of_ble_eq_true rfl⟩ (by assumption) (Nat.le_of_ble_eq_true rfl) rfl ⟨Nat.zero_le _, Nat.zero_le _⟩ dX5_isFormed_59 ?_
          refine r_iret (pc := 62) hC hD rfl dX5_isFormed_62 rfl ?_
          have hE : isEndT (I (P m 4)) t s = true := by
            cases hd : isEndT (I (P m 4)) t s
            · rw [hd] at bq4; exact absurd rfl bq4
            · rfl
          have hx : fmE (I (P m 4)) t f = s := fmE_at hfs hst hno (by rw [fmP, hE]; rfl)
          have hok : fmOk (I (P m 4)) t f = false := by rw [fmOk, hx, hE, decide_eq_false (show ¬ f < s by omega)]; rfl
          have hc : fmC (I (P m 4)) t f = 0 := by rw [fmC, hx, if_pos hE, if_pos (by omega)]
          exact ⟨by rw [hok]; rfl, rfl, rfl, by rw [hx, xu_ne (Or.inr (by decide)), xu_ne (Or.inr (by decide))]; exact j6, by rw [xu_ne (Or.inr (by decide)), xu_ne (Or.inr (by decide))]; exact j7, by rw [xu_ne (Or.inr (by decide)), xu_ne (Or.inr (by decide))]; exact j10, by rw [xu_row (Ne.symm hms), xu_row (Ne.symm hms)]; exact jS, fun _ => ⟨by rw [xu_ne (Or.inr (by decide)), xu_at], by rw [xu_at, hc] <;> rfl⟩, (jT.u (by decide)).u (by decide)⟩
      · skip
        have hne : s ≠ t := fun e => by rw [isEndT, decide_eq_true e] at bq4; exact absurd bq4 (by rw [Bool.true_or]; decide)
        refine r_aload_n (pc := 7) hC dX5_isFormed_7 rfl ?_
        refine k_X5_mayStand (pc := 8) hC gX5_isFormed_X5_mayStand ⟨Nat.le_of_ble_eq_true rfl, Nat.le_of_ble_eq_true rfl⟩ km kt lt (by rw [jT.2 5 (by decide)]; exact hty) ht60 j6 j7 hfs (by omega) (Nat.le_of_ble_eq_true rfl) rfl ⟨Nat.zero_le _, Nat.zero_le _⟩ dX5_isFormed_8 ?_
        rw [jX]
        refine r_if_ne (pc := 11) (tgt := 29) hC dX5_isFormed_11 (by decide) (fun bq11 => ?_) (fun bq11 => ?_)
        · skip
          refine r_aload_n (pc := 29) hC dX5_isFormed_29 rfl ?_
          refine r_dup (pc := 30) hC dX5_isFormed_30 rfl ?_
          refine g_Model_spot (pc := 31) hC wi_X5_isFormed_5 wl_X5_isFormed_52 (by assumption) dX5_isFormed_31 ?_
          refine r_iconst (pc := 34) (v := 1) hC dX5_isFormed_34 (by decide) ?_
          refine r_iadd (pc := 35) hC dX5_isFormed_35 ?_
          refine p_Model_spot (pc := 36) hC wi_X5_isFormed_5 wl_X5_isFormed_52 (by assumption) dX5_isFormed_36 ?_
          refine r_goto (pc := 39) (tgt := 0) hC dX5_isFormed_39 (by decide) ?_
          have hp : fmP (I (P m 4)) t f s = false := by
            have e1 : isEndT (I (P m 4)) t s = false := bI_0.mp bq4
            have e2 : mayT (I (P m 4)) f s = true := by
              cases hd : mayT (I (P m 4)) f s
              · rw [hd] at bq11; exact absurd rfl bq11
              · rfl
            rw [fmP, e1, e2]; rfl
          rw [j6, nI_1]
          exact ih (s + 1) (by omega) (by omega) (by omega) (fun i h1 h2 => by rcases Nat.lt_or_ge i s with y | y; exact hno i h1 y; rw [show i = s by omega]; exact hp) (xu J m 6 (nI (s + 1))) xu_at (by rw [xu_ne (Or.inr (by decide))]; exact j7) (by rw [xu_ne (Or.inr (by decide))]; exact j10) (by rw [xu_row (Ne.symm hms)]; exact jS) (jT.u (by decide)) _
        · skip
          refine r_aload_n (pc := 14) hC dX5_isFormed_14 rfl ?_
          refine r_iconst (pc := 15) (v := 1) hC dX5_isFormed_15 (by decide) ?_
          refine r_aload_n (pc := 16) hC dX5_isFormed_16 rfl ?_
          refine g_Model_spot (pc := 17) hC wi_X5_isFormed_5 wl_X5_isFormed_52 (by assumption) dX5_isFormed_17 ?_
          refine r_aload_n (pc := 20) hC dX5_isFormed_20 rfl ?_
          refine g_Model_from (pc := 21) hC wi_X5_isFormed_5 wl_X5_isFormed_58 (by assumption) dX5_isFormed_21 ?_
          refine r_isub (pc := 24) hC dX5_isFormed_24 ?_
          rw [j6, j7, pk_sub hfs]
          refine k_X5_fails (pc := 25) hC gX5_isFormed_X5_fails ⟨Nat.le_of_ble_eq_true rfl, Nat.le_of_ble_eq_true rfl⟩ (by assumption) (Nat.le_of_ble_eq_true rfl) rfl ⟨Nat.zero_le _, Nat.zero_le _⟩ dX5_isFormed_25 ?_
          refine r_iret (pc := 28) hC hD rfl dX5_isFormed_28 rfl ?_
          have hE : isEndT (I (P m 4)) t s = false := bI_0.mp bq4
          have hM : mayT (I (P m 4)) f s = false := bI_0.mp bq11
          have hx : fmE (I (P m 4)) t f = s := fmE_at hfs hst hno (by rw [fmP, hE, hM]; rfl)
          have hok : fmOk (I (P m 4)) t f = false := by rw [fmOk, hx, hE]; rfl
          have hc : fmC (I (P m 4)) t f = s - f := by rw [fmC, hx, hE, if_neg (by decide)]
          exact ⟨by rw [hok]; rfl, rfl, rfl, by rw [hx, xu_ne (Or.inr (by decide)), xu_ne (Or.inr (by decide))]; exact j6, by rw [xu_ne (Or.inr (by decide)), xu_ne (Or.inr (by decide))]; exact j7, by rw [xu_ne (Or.inr (by decide)), xu_ne (Or.inr (by decide))]; exact j10, by rw [xu_row (Ne.symm hms), xu_row (Ne.symm hms)]; exact jS, fun _ => ⟨by rw [xu_ne (Or.inr (by decide)), xu_at], by rw [xu_at, hc] <;> rfl⟩, (jT.u (by decide)).u (by decide)⟩
  exact loop (t - f) f (by omega) (Nat.le_refl f) hft (fun i h1 h2 => absurd h2 (by omega)) I hs hf rfl rfl xTx.rf _
theorem k_X5_isFormed {X : xF} {G : xG} {cs : Nat × Nat} {μ : xM} {I : xI} {P : xP} {L : List (Option Value)} {pc : Nat} {rest : List Value} {cc : ByteArray} {Ts : List Cond} {own : String} {nL : Nat} {R : Room} (hC : xC X G cc Ts own nL R) {index : Nat} (hG : GoodIn Ts (wsV own index RX5 yX5_isFormed wsX5_isFormed)) (hR : rm_X5_isFormed.frames + 1 ≤ R.frames ∧ 8 + (2 + 11) + rm_X5_isFormed.locals ≤ R.locals) {m t f : Nat} (km : μ.2.1 m = 6) (kt : μ.2.1 (P m 4) = 7) (lt : μ.2.2 (P m 4) = 60) (hty : I m 5 = nI t) (ht60 : t ≤ 60) (hs : I m 6 = nI f) (hf : I m 7 = nI f) (hft : f ≤ t) (hxs : P m 4 ≠ P m 0) (hms : m ≠ P m 0) (hW : (rest.map fun v => v.category).sum ≤ 8) (hL : L.length = nL) (hcs : cs.1 ≤ R.cells ∧ cs.2 ≤ R.slots) (hdec : decode cc pc = .ok (.invokevirtual index, 3)) (kk : ∀ I' : xI, I' m 6 = nI (fmE (I (P m 4)) t f) → I' m 7 = nI f → I' m 10 = I m 10 → I' (P m 0) = I (P m 0) → (fmOk (I (P m 4)) t f = false → I' m 8 = 1 ∧ I' m 9 = nI (fmC (I (P m 4)) t f)) → xTx m (P m 0) I I' → xg X G cs μ I' P L (pc + 3) (.int (bI (fmOk (I (P m 4)) t f)) :: rest)) : xg X G cs μ I P L pc (.ref (xZ G + m) :: rest) :=
  r_callV hC (c_X5_isFormed X.2.1 km kt lt hty ht60 hs hf hft hxs hms) hG rfl rfl rfl hd_X5_isFormed hR (by rw [km]; decide) (xe_Model km) rfl rfl rfl hW hL hcs hdec (by rintro vv μ' I' P' ⟨rfl, rfl, rfl, h1, h2, h3, h4, h5, h6⟩; exact kk I' h1 h2 h3 h4 h5 h6)
