abbrev rm_X5_crank : Room := { frames := 4, cells := 0, slots := 0, locals := 90 }
theorem wl_X5_crank_7 : Cond.fieldLink RX5 7 "HandBlindsModel" "s" "[I" ∈ wsX5_crank := List.mem_of_getElem? (i := 2) (by decide +kernel)
theorem wi_X5_crank_5 : ∀ w ∈ wsX50, w ∈ wsX5_crank := fun _ h => List.mem_cons_of_mem _ (List.mem_append_right _ h)
theorem hd_X5_crank : yX5_crank.cls = RX5 ∧ yX5_crank.cls ≠ "java/lang/invoke/MethodHandle" ∧ yX5_crank.cls ≠ "java/lang/invoke/VarHandle" ∧ (parseMethodDescriptor yX5_crank.desc).map (fun d => d.parameters.length) = some 2 := ⟨rfl, by decide +kernel, by decide +kernel, by decide +kernel⟩
set_option maxHeartbeats 4000000 in
set_option maxRecDepth 100000 in
theorem c_X5_crank (l : Launch) {G : xG} {μ : xM} {I : xI} {P : xP} {m h n q : Nat} {r v : Int32} (km : μ.2.1 m = 6) (ks : μ.2.1 (P m 0) = 7) (ls : μ.2.2 (P m 0) = 369) (kp : μ.2.1 (P m 1) = 7) (lp : μ.2.2 (P m 1) = 1476) (hsp : P m 0 ≠ P m 1) (hh : I m 3 = nI h) (hh4 : h ≤ 4) (hinv : invN (I (P m 0)) n q) : Ct l yX5_crank wsX5_crank rm_X5_crank G μ I P [.ref (xZ G + m), .int r, .int v] 0 0 (fun vv μ' I' P' => vv = some (.int (aCrank (I (P m 0)) r v)) ∧ μ' = μ ∧ P' = P ∧ mQ m (P m 0) (P m 1) (P m 2) I (if okCrank (I (P m 0)) r v then (xchg m (P m 0) (P m 1) h I) else I) I' (sCrank (I (P m 0)) r v)) := by
  obtain ⟨hn20, hn, hq6, hq, hsh, hdr, h8r, h9r, h10r, hrows⟩ := id hinv
  have hmp : m ≠ P m 1 := fun e => by rw [← e, km] at kp; cases kp
  have hms : m ≠ P m 0 := fun e => by rw [← e, km] at ks; cases ks
  have cS : xchg m (P m 0) (P m 1) h I (P m 0) = I (P m 0) := xchg_s hsp (Ne.symm hms)
  have cQ := @mQ_chg m (P m 0) (P m 1) (P m 2) h I
  refine Ct.of (cc := cX5_crank) (maxL := 5) (ret := (some .int)) [some (.ref (xZ G + m)), some (.int r), some (.int v), none, none] (by decide) rfl rfl rfl (Nat.le_of_ble_eq_true rfl) ?_
  intro X hC hD h0 _
  refine r_aload_n (pc := 0) hC dX5_crank_0 rfl ?_
  refine r_iload_n (pc := 1) hC dX5_crank_1 rfl ?_
  refine r_iload_n (pc := 2) hC dX5_crank_2 rfl ?_
  refine k_X5_mayCrank (pc := 3) hC gX5_crank_X5_mayCrank ⟨Nat.le_of_ble_eq_true rfl, Nat.le_of_ble_eq_true rfl⟩ (by assumption) (by assumption) (by assumption) (Nat.le_of_ble_eq_true rfl) rfl ⟨Nat.zero_le _, Nat.zero_le _⟩ dX5_crank_3 ?_
  refine r_istore_n (pc := 6) (L' := [_, _, _, _, _]) hC dX5_crank_6 rfl (Nat.le_of_ble_eq_true rfl) rfl ?_
  refine r_iload_n (pc := 7) hC dX5_crank_7 rfl ?_
  refine r_if_ge (pc := 8) (tgt := 13) hC dX5_crank_8 (by decide) (fun bq8 => ?_) (fun bq8 => ?_)
  · skip
    have hm0 : mcr r v (I (P m 0) 0) = 0 := by
      refine Classical.byContradiction fun w => ?_
      rcases mcr_neg w with e | e
      · rw [e] at bq8; exact absurd bq8 (by decide)
      · rw [e] at bq8; exact absurd bq8 (by decide)
    obtain ⟨hi1, hi2, hi3, hi4⟩ := mcr_0 hm0
    obtain ⟨hw, hw1, hw20⟩ := crank_way hi1 hi2
    obtain ⟨a, han, h1⟩ : ∃ a, a < n ∧ I (P m 0) 1 = nI a := by
      rcases hsh with ⟨e, _⟩ | e
      · exact absurd (by rw [hn, e]; rfl) hi4
      · exact e
    have hca : cA (I (P m 0)) = a := by rw [cA, h1, nI_clamp (by omega)]
    have hcn : cN (I (P m 0)) = n := by rw [cN, hn, nI_clamp (by omega)]
    refine r_aload_n (pc := 13) hC dX5_crank_13 rfl ?_
    refine k_X5_changes (pc := 14) hC gX5_crank_X5_changes ⟨Nat.le_of_ble_eq_true rfl, Nat.le_of_ble_eq_true rfl⟩ km ks ls kp lp hsp hh hh4 (Nat.le_of_ble_eq_true rfl) rfl ⟨Nat.zero_le _, Nat.zero_le _⟩ dX5_crank_14 ?_
    refine r_aload_n (pc := 17) hC dX5_crank_17 rfl ?_
    refine r_iload_n (pc := 18) hC dX5_crank_18 rfl ?_
    refine r_iload_n (pc := 19) hC dX5_crank_19 rfl ?_
    refine k_X5_cranks (pc := 20) hC gX5_crank_X5_cranks ⟨Nat.le_of_ble_eq_true rfl, Nat.le_of_ble_eq_true rfl⟩ (a := a) (w := cW r) (n := n) (up := cUp r) km ks ls (by rw [cS]; exact h1) (by rw [cS]; exact hn) han hn20 hw hw1 hw20 (Nat.le_of_ble_eq_true rfl) rfl ⟨Nat.zero_le _, Nat.zero_le _⟩ dX5_crank_20 ?_
    refine r_istore (pc := 23) (L' := [_, _, _, _, _]) hC dX5_crank_23 rfl (Nat.le_of_ble_eq_true rfl) rfl ?_
    refine r_iload (pc := 25) hC dX5_crank_25 rfl ?_
    refine r_if_ge (pc := 27) (tgt := 35) hC dX5_crank_27 (by decide) (fun bq27 => ?_) (fun bq27 => ?_)
    · skip
      refine r_aload_n (pc := 35) hC dX5_crank_35 rfl ?_
      refine g_Model_s (pc := 36) hC wi_X5_crank_5 wl_X5_crank_7 (by assumption) (c2 := 7) (by assumption) (by decide) dX5_crank_36 ?_
      refine r_iconst (pc := 39) (v := 1) hC dX5_crank_39 (by decide) ?_
      refine r_iald (pc := 40) hC ks (xi_l (k := 1) ls (by decide) (by decide) (by decide)) dX5_crank_40 ?_
      refine r_iret (pc := 41) hC hD rfl dX5_crank_41 rfl ?_
      have e1 : okCrank (I (P m 0)) r v = true := by rw [okCrank, if_pos hm0]
      have e2 : sCrank (I (P m 0)) r v = crFS (I (P m 0)) a (cUp r) v (stepsS (I (P m 0)) n a (cUp r) (cW r)) := by rw [sCrank, e1, if_pos rfl, cG, hca, hcn]
      refine ⟨by rw [aCrank, if_pos hm0, cG, hca, hcn, crF_s, cS, crFS_1 h1], rfl, rfl, ?_⟩
      rw [e1, if_pos rfl, e2]
      exact ⟨by rw [crF_s, cS], crF_o (Ne.symm hsp) (Ne.symm hmp), crF_m hms (by decide) (by decide), crF_m hms (by decide) (by decide), fun b b1 b2 b3 _ => by rw [crF_o b2 b1, xchg_o b3 b1]⟩
    · skip
      rcases whyS_cases n a (cUp r) (cW r) (stepsS ((xchg m (P m 0) (P m 1) h I) (P m 0)) n a (cUp r) (cW r)) with e | e | e
      · rw [e] at bq27; exact absurd (by decide) bq27
      · rw [e] at bq27; exact absurd (by decide) bq27
      · rw [e] at bq27; exact absurd (by decide) bq27
  · skip
    refine r_iload_n (pc := 11) hC dX5_crank_11 rfl ?_
    refine r_iret (pc := 12) hC hD rfl dX5_crank_12 rfl ?_
    have hne : ¬ mcr r v (I (P m 0) 0) = 0 := fun e => bq8 (by rw [e]; decide)
    have e1 : okCrank (I (P m 0)) r v = false := by rw [okCrank, if_neg hne]
    refine ⟨by rw [aCrank, if_neg hne], rfl, rfl, ?_⟩
    rw [e1, if_neg (by decide), show sCrank (I (P m 0)) r v = I (P m 0) from by rw [sCrank, e1, if_neg (by decide)]]
    exact mQ_id
theorem k_X5_crank {X : xF} {G : xG} {cs : Nat × Nat} {μ : xM} {I : xI} {P : xP} {L : List (Option Value)} {pc : Nat} {rest : List Value} {cc : ByteArray} {Ts : List Cond} {own : String} {nL : Nat} {R : Room} (hC : xC X G cc Ts own nL R) {index : Nat} (hG : GoodIn Ts (wsV own index RX5 yX5_crank wsX5_crank)) (hR : rm_X5_crank.frames + 1 ≤ R.frames ∧ 8 + (5 + 11) + rm_X5_crank.locals ≤ R.locals) {m h n q : Nat} {r v : Int32} (km : μ.2.1 m = 6) (ks : μ.2.1 (P m 0) = 7) (ls : μ.2.2 (P m 0) = 369) (kp : μ.2.1 (P m 1) = 7) (lp : μ.2.2 (P m 1) = 1476) (hsp : P m 0 ≠ P m 1) (hh : I m 3 = nI h) (hh4 : h ≤ 4) (hinv : invN (I (P m 0)) n q) (hW : (rest.map fun v => v.category).sum ≤ 8) (hL : L.length = nL) (hcs : cs.1 ≤ R.cells ∧ cs.2 ≤ R.slots) (hdec : decode cc pc = .ok (.invokevirtual index, 3)) (kk : ∀ I' : xI, mQ m (P m 0) (P m 1) (P m 2) I (if okCrank (I (P m 0)) r v then (xchg m (P m 0) (P m 1) h I) else I) I' (sCrank (I (P m 0)) r v) → xg X G cs μ I' P L (pc + 3) (.int (aCrank (I (P m 0)) r v) :: rest)) : xg X G cs μ I P L pc (.int v :: .int r :: .ref (xZ G + m) :: rest) :=
  r_callV hC (c_X5_crank X.2.1 km ks ls kp lp hsp hh hh4 hinv) hG rfl rfl rfl hd_X5_crank hR (by rw [km]; decide) (xe_Model km) rfl rfl rfl hW hL hcs hdec (by rintro vv μ' I' P' ⟨rfl, rfl, rfl, hQ⟩; exact kk I' hQ)
abbrev rm_X5_type : Room := { frames := 1, cells := 0, slots := 0, locals := 22 }
theorem wl_X5_type_55 : Cond.fieldLink RX5 55 "HandBlindsModel" "typed" "I" ∈ wsX5_type := List.mem_of_getElem? (i := 2) (by decide +kernel)
theorem wi_X5_type_5 : ∀ w ∈ wsX50, w ∈ wsX5_type := fun _ h => List.mem_cons_of_mem _ (List.mem_append_right _ h)
theorem wl_X5_type_19 : Cond.fieldLink RX5 19 "HandBlindsModel" "text" "[I" ∈ wsX5_type := List.mem_of_getElem? (i := 4) (by decide +kernel)
theorem wl_X5_type_134 : Cond.constant RX5 134 (-1000003) ∈ wsX5_type := List.mem_of_getElem? (i := 3) (by decide +kernel)
theorem wl_X5_type_92 : Cond.constant RX5 92 (-1000001) ∈ wsX5_type := List.mem_of_getElem? (i := 1) (by decide +kernel)
theorem hd_X5_type : yX5_type.cls = RX5 ∧ yX5_type.cls ≠ "java/lang/invoke/MethodHandle" ∧ yX5_type.cls ≠ "java/lang/invoke/VarHandle" ∧ (parseMethodDescriptor yX5_type.desc).map (fun d => d.parameters.length) = some 1 := ⟨rfl, by decide +kernel, by decide +kernel, by decide +kernel⟩
set_option maxHeartbeats 4000000 in
set_option maxRecDepth 100000 in
theorem c_X5_type (l : Launch) {G : xG} {μ : xM} {I : xI} {P : xP} {m t : Nat} {c : Int32} (km : μ.2.1 m = 6) (kt : μ.2.1 (P m 4) = 7) (lt : μ.2.2 (P m 4) = 60) (hty : I m 5 = nI t) (ht60 : t ≤ 60) : Ct l yX5_type wsX5_type rm_X5_type G μ I P [.ref (xZ G + m), .int c] 0 0 (fun vv μ' I' P' => vv = some (.int (aType (nI t) c)) ∧ μ' = μ ∧ I' = (if okType (nI t) c = true then xu (xu I (P m 4) t c) m 5 (nI (t + 1)) else I) ∧ P' = (P)) := by
  have hmx : m ≠ P m 4 := fun e => by rw [← e, km] at kt; cases kt
  refine Ct.of (cc := cX5_type) (maxL := 2) (ret := (some .int)) [some (.ref (xZ G + m)), some (.int c)] (by decide) rfl rfl rfl (Nat.le_of_ble_eq_true rfl) ?_
  intro X hC hD h0 _
  refine r_iload_n (pc := 0) hC dX5_type_0 rfl ?_
  refine r_bipush (pc := 1) (v := 32) hC dX5_type_1 (by decide) ?_
  refine r_bipush (pc := 3) (v := 126) hC dX5_type_3 (by decide) ?_
  refine k_X5_in (pc := 5) hC gX5_type_X5_in ⟨Nat.le_of_ble_eq_true rfl, Nat.le_of_ble_eq_true rfl⟩  (Nat.le_of_ble_eq_true rfl) rfl ⟨Nat.zero_le _, Nat.zero_le _⟩ dX5_type_5 ?_
  refine r_if_ne (pc := 8) (tgt := 14) hC dX5_type_8 (by decide) (fun bq8 => ?_) (fun bq8 => ?_)
  · skip
    refine r_aload_n (pc := 14) hC dX5_type_14 rfl ?_
    refine g_Model_typed (pc := 15) hC wi_X5_type_5 wl_X5_type_55 (by assumption) dX5_type_15 ?_
    refine r_bipush (pc := 18) (v := 60) hC dX5_type_18 (by decide) ?_
    refine r_icmp_ne (pc := 20) (tgt := 26) hC dX5_type_20 (by decide) (fun bq20 => ?_) (fun bq20 => ?_)
    · skip
      have ht59 : t < 60 := by
        have z : t ≠ 60 := fun e => bq20 (by rw [hty, e]; rfl)
        omega
      refine r_aload_n (pc := 26) hC dX5_type_26 rfl ?_
      refine g_Model_text (pc := 27) hC wi_X5_type_5 wl_X5_type_19 (by assumption) (c2 := 7) (by assumption) (by decide) dX5_type_27 ?_
      refine r_aload_n (pc := 30) hC dX5_type_30 rfl ?_
      refine g_Model_typed (pc := 31) hC wi_X5_type_5 wl_X5_type_55 (by assumption) dX5_type_31 ?_
      refine r_iload_n (pc := 34) hC dX5_type_34 rfl ?_
      refine r_iast (pc := 35) hC kt (xi_e (k := t) hty lt ht59 (by decide)) dX5_type_35 ?_
      refine r_aload_n (pc := 36) hC dX5_type_36 rfl ?_
      refine r_dup (pc := 37) hC dX5_type_37 rfl ?_
      refine g_Model_typed (pc := 38) hC wi_X5_type_5 wl_X5_type_55 (by assumption) dX5_type_38 ?_
      refine r_iconst (pc := 41) (v := 1) hC dX5_type_41 (by decide) ?_
      refine r_iadd (pc := 42) hC dX5_type_42 ?_
      refine p_Model_typed (pc := 43) hC wi_X5_type_5 wl_X5_type_55 (by assumption) dX5_type_43 ?_
      rw [show xu I (P m 4) t c m 5 + 1 = nI (t + 1) from by rw [xu_row hmx, hty, nI_1]]
      refine r_aload_n (pc := 46) hC dX5_type_46 rfl ?_
      refine g_Model_typed (pc := 47) hC wi_X5_type_5 wl_X5_type_55 (by assumption) dX5_type_47 ?_
      refine r_iret (pc := 50) hC hD rfl dX5_type_50 rfl ?_
      rw [hty] at bq20
      refine ⟨by rw [xu_at]; simp [aType, bq8, bq20]; exact (nI_1 t).symm, rfl, by simp [okType, bq8, bq20], rfl⟩
    · skip
      refine r_ldc (pc := 23) (v := -1000003) hC dX5_type_23 wl_X5_type_134 ?_
      refine r_iret (pc := 25) hC hD rfl dX5_type_25 rfl ?_
      rw [hty] at bq20
      exact ⟨by simp [aType, bq8, bq20], rfl, by simp [okType, bq8, bq20], rfl⟩
  · skip
    refine r_ldc (pc := 11) (v := -1000001) hC dX5_type_11 wl_X5_type_92 ?_
    refine r_iret (pc := 13) hC hD rfl dX5_type_13 rfl ?_
    exact ⟨by simp [aType, bq8], rfl, by simp [okType, bq8], rfl⟩
theorem k_X5_type {X : xF} {G : xG} {cs : Nat × Nat} {μ : xM} {I : xI} {P : xP} {L : List (Option Value)} {pc : Nat} {rest : List Value} {cc : ByteArray} {Ts : List Cond} {own : String} {nL : Nat} {R : Room} (hC : xC X G cc Ts own nL R) {index : Nat} (hG : GoodIn Ts (wsV own index RX5 yX5_type wsX5_type)) (hR : rm_X5_type.frames + 1 ≤ R.frames ∧ 8 + (2 + 11) + rm_X5_type.locals ≤ R.locals) {m t : Nat} {c : Int32} (km : μ.2.1 m = 6) (kt : μ.2.1 (P m 4) = 7) (lt : μ.2.2 (P m 4) = 60) (hty : I m 5 = nI t) (ht60 : t ≤ 60) (hW : (rest.map fun v => v.category).sum ≤ 8) (hL : L.length = nL) (hcs : cs.1 ≤ R.cells ∧ cs.2 ≤ R.slots) (hdec : decode cc pc = .ok (.invokevirtual index, 3)) (kk : xg X G cs μ (if okType (nI t) c = true then xu (xu I (P m 4) t c) m 5 (nI (t + 1)) else I) P L (pc + 3) (.int (aType (nI t) c) :: rest)) : xg X G cs μ I P L pc (.int c :: .ref (xZ G + m) :: rest) :=
  r_callV hC (c_X5_type X.2.1 km kt lt hty ht60) hG rfl rfl rfl hd_X5_type hR (by rw [km]; decide) (xe_Model km) rfl rfl rfl hW hL hcs hdec (by rintro v μ' I' P' ⟨rfl, rfl, rfl, rfl⟩; exact kk)
abbrev rm_X5_clearText : Room := { frames := 0, cells := 0, slots := 0, locals := 0 }
theorem wl_X5_clearText_55 : Cond.fieldLink RX5 55 "HandBlindsModel" "typed" "I" ∈ wsX5_clearText := List.mem_of_getElem? (i := 1) (by decide +kernel)
theorem wi_X5_clearText_5 : ∀ w ∈ wsX50, w ∈ wsX5_clearText := fun _ h => List.mem_cons_of_mem _ (List.mem_append_right _ h)
theorem hd_X5_clearText : yX5_clearText.cls = RX5 ∧ yX5_clearText.cls ≠ "java/lang/invoke/MethodHandle" ∧ yX5_clearText.cls ≠ "java/lang/invoke/VarHandle" ∧ (parseMethodDescriptor yX5_clearText.desc).map (fun d => d.parameters.length) = some 0 := ⟨rfl, by decide +kernel, by decide +kernel, by decide +kernel⟩
set_option maxHeartbeats 4000000 in
set_option maxRecDepth 100000 in
theorem c_X5_clearText (l : Launch) {G : xG} {μ : xM} {I : xI} {P : xP} {m : Nat} (km : μ.2.1 m = 6) : Ct l yX5_clearText wsX5_clearText rm_X5_clearText G μ I P [.ref (xZ G + m)] 0 0 (fun vv μ' I' P' => vv = some (.int (I m 5)) ∧ μ' = μ ∧ I' = (xu I m 5 0) ∧ P' = (P)) := by
  refine Ct.of (cc := cX5_clearText) (maxL := 2) (ret := (some .int)) [some (.ref (xZ G + m)), none] (by decide) rfl rfl rfl (Nat.le_of_ble_eq_true rfl) ?_
  intro X hC hD h0 _
  refine r_aload_n (pc := 0) hC dX5_clearText_0 rfl ?_
  refine g_Model_typed (pc := 1) hC wi_X5_clearText_5 wl_X5_clearText_55 (by assumption) dX5_clearText_1 ?_
  refine r_istore_n (pc := 4) (L' := [_, _]) hC dX5_clearText_4 rfl (Nat.le_of_ble_eq_true rfl) rfl ?_
  refine r_aload_n (pc := 5) hC dX5_clearText_5 rfl ?_
  refine r_iconst (pc := 6) (v := 0) hC dX5_clearText_6 (by decide) ?_
  refine p_Model_typed (pc := 7) hC wi_X5_clearText_5 wl_X5_clearText_55 (by assumption) dX5_clearText_7 ?_
  refine r_iload_n (pc := 10) hC dX5_clearText_10 rfl ?_
  refine r_iret (pc := 11) hC hD rfl dX5_clearText_11 rfl ?_
  exact ⟨rfl, rfl, rfl, rfl⟩
theorem k_X5_clearText {X : xF} {G : xG} {cs : Nat × Nat} {μ : xM} {I : xI} {P : xP} {L : List (Option Value)} {pc : Nat} {rest : List Value} {cc : ByteArray} {Ts : List Cond} {own : String} {nL : Nat} {R : Room} (hC : xC X G cc Ts own nL R) {index : Nat} (hG : GoodIn Ts (wsV own index RX5 yX5_clearText wsX5_clearText)) (hR : rm_X5_clearText.frames + 1 ≤ R.frames ∧ 8 + (2 + 11) + rm_X5_clearText.locals ≤ R.locals) {m : Nat} (km : μ.2.1 m = 6) (hW : (rest.map fun v => v.category).sum ≤ 8) (hL : L.length = nL) (hcs : cs.1 ≤ R.cells ∧ cs.2 ≤ R.slots) (hdec : decode cc pc = .ok (.invokevirtual index, 3)) (kk : xg X G cs μ (xu I m 5 0) P L (pc + 3) (.int (I m 5) :: rest)) : xg X G cs μ I P L pc (.ref (xZ G + m) :: rest) :=
  r_callV hC (c_X5_clearText X.2.1 km) hG rfl rfl rfl hd_X5_clearText hR (by rw [km]; decide) (xe_Model km) rfl rfl rfl hW hL hcs hdec (by rintro v μ' I' P' ⟨rfl, rfl, rfl, rfl⟩; exact kk)
abbrev rm_X5_undo : Room := { frames := 0, cells := 0, slots := 0, locals := 0 }
theorem wl_X5_undo_22 : Cond.fieldLink RX5 22 "HandBlindsModel" "pasts" "I" ∈ wsX5_undo := List.mem_of_getElem? (i := 1) (by decide +kernel)
theorem wi_X5_undo_5 : ∀ w ∈ wsX50, w ∈ wsX5_undo := fun _ h => List.mem_cons_of_mem _ (List.mem_append_right _ h)
theorem wl_X5_undo_7 : Cond.fieldLink RX5 7 "HandBlindsModel" "s" "[I" ∈ wsX5_undo := List.mem_of_getElem? (i := 3) (by decide +kernel)
theorem wl_X5_undo_13 : Cond.fieldLink RX5 13 "HandBlindsModel" "past" "[I" ∈ wsX5_undo := List.mem_of_getElem? (i := 4) (by decide +kernel)
theorem wl_X5_undo_101 : Cond.constant RX5 101 (-1000002) ∈ wsX5_undo := List.mem_of_getElem? (i := 2) (by decide +kernel)
theorem hd_X5_undo : yX5_undo.cls = RX5 ∧ yX5_undo.cls ≠ "java/lang/invoke/MethodHandle" ∧ yX5_undo.cls ≠ "java/lang/invoke/VarHandle" ∧ (parseMethodDescriptor yX5_undo.desc).map (fun d => d.parameters.length) = some 0 := ⟨rfl, by decide +kernel, by decide +kernel, by decide +kernel⟩
set_option maxHeartbeats 4000000 in
set_option maxRecDepth 100000 in
theorem c_X5_undo (l : Launch) {G : xG} {μ : xM} {I : xI} {P : xP} {m h : Nat} (km : μ.2.1 m = 6) (ks : μ.2.1 (P m 0) = 7) (ls : μ.2.2 (P m 0) = 369) (kp : μ.2.1 (P m 1) = 7) (lp : μ.2.2 (P m 1) = 1476) (hsp : P m 0 ≠ P m 1) (hh : I m 3 = nI h) (hh4 : h ≤ 4) : Ct l yX5_undo wsX5_undo rm_X5_undo G μ I P [.ref (xZ G + m)] 0 0 (fun vv μ' I' P' => vv = some (.int (if h = 0 then -1000002 else nI (h - 1))) ∧ μ' = μ ∧ I' = (if h = 0 then I else xres (P m 0) (P m 1) (369 * (h - 1)) 369 (xu I m 3 (nI (h - 1)))) ∧ P' = (P)) := by
  have hmp : m ≠ P m 1 := fun e => by rw [← e, km] at kp; cases kp
  have hms : m ≠ P m 0 := fun e => by rw [← e, km] at ks; cases ks
  refine Ct.of (cc := cX5_undo) (maxL := 2) (ret := (some .int)) [some (.ref (xZ G + m)), none] (by decide) rfl rfl rfl (Nat.le_of_ble_eq_true rfl) ?_
  intro X hC hD h0 _
  have loop : ∀ (h00 : h ≠ 0), ∀ (q k : Nat), k + q = 369 → xg X G (0, 0) μ (xres (P m 0) (P m 1) (369 * (h - 1)) k (xu I m 3 (nI (h - 1)))) P [some (.ref (xZ G + m)), some (.int (nI k))] 22 [] := by
    intro h00
    intro q
    induction q with
    | zero =>
      intro k hk
      have e3 : ∀ j, xres (P m 0) (P m 1) (369 * (h - 1)) j (xu I m 3 (nI (h - 1))) m 3 = nI (h - 1) := fun j => by rw [xres_o hms]; exact xu_at
      have ek : k = 369 := by omega
      subst ek
      refine r_iload_n (pc := 22) hC dX5_undo_22 rfl ?_
      refine r_sipush (pc := 23) (v := 369) hC dX5_undo_23 (by decide) ?_
      refine r_icmp_ge (pc := 26) (tgt := 56) hC dX5_undo_26 (by decide) (fun bq26 => ?_) (fun bq26 => ?_)
      · skip
        refine r_aload_n (pc := 56) hC dX5_undo_56 rfl ?_
        refine g_Model_pasts (pc := 57) hC wi_X5_undo_5 wl_X5_undo_22 (by assumption) dX5_undo_57 ?_
        refine r_iret (pc := 60) hC hD rfl dX5_undo_60 rfl ?_
        exact ⟨by rw [e3, if_neg h00], rfl, by rw [if_neg h00], rfl⟩
      · skip
        exact absurd (nI_le (a := 369) (b := 369) (by omega) (by decide)) bq26
    | succ q ih =>
      intro k hk
      have e3 : ∀ j, xres (P m 0) (P m 1) (369 * (h - 1)) j (xu I m 3 (nI (h - 1))) m 3 = nI (h - 1) := fun j => by rw [xres_o hms]; exact xu_at
      refine r_iload_n (pc := 22) hC dX5_undo_22 rfl ?_
      refine r_sipush (pc := 23) (v := 369) hC dX5_undo_23 (by decide) ?_
      refine r_icmp_ge (pc := 26) (tgt := 56) hC dX5_undo_26 (by decide) (fun bq26 => ?_) (fun bq26 => ?_)
      · skip
        exact absurd bq26 (nI_ge (b := 369) (by omega) (by decide))
      · skip
        refine r_aload_n (pc := 29) hC dX5_undo_29 rfl ?_
        refine g_Model_s (pc := 30) hC wi_X5_undo_5 wl_X5_undo_7 (by assumption) (c2 := 7) (by assumption) (by decide) dX5_undo_30 ?_
        refine r_iload_n (pc := 33) hC dX5_undo_33 rfl ?_
        refine r_aload_n (pc := 34) hC dX5_undo_34 rfl ?_
        refine g_Model_past (pc := 35) hC wi_X5_undo_5 wl_X5_undo_13 (by assumption) (c2 := 7) (by assumption) (by decide) dX5_undo_35 ?_
        refine r_sipush (pc := 38) (v := 369) hC dX5_undo_38 (by decide) ?_
        refine r_aload_n (pc := 41) hC dX5_undo_41 rfl ?_
        refine g_Model_pasts (pc := 42) hC wi_X5_undo_5 wl_X5_undo_22 (by assumption) dX5_undo_42 ?_
        refine r_imul (pc := 45) hC dX5_undo_45 ?_
        refine r_iload_n (pc := 46) hC dX5_undo_46 rfl ?_
        refine r_iadd (pc := 47) hC dX5_undo_47 ?_
        refine r_iald (pc := 48) hC kp (xi_e (k := 369 * (h - 1) + k) (by rw [e3]; simp only [xlit, nI_add, pk_mul]) lp (by omega) (by decide)) dX5_undo_48 ?_
        refine r_iast (pc := 49) hC ks (xi_n (by rw [ls]; omega) (by rw [ls]; decide)) dX5_undo_49 ?_
        refine r_iinc (pc := 50) (v := 1) (L' := [_, _]) hC dX5_undo_50 rfl (by decide) rfl rfl ?_
        refine r_goto (pc := 53) (tgt := 22) hC dX5_undo_53 (by decide) ?_
        rw [xres_succ (Ne.symm hsp)]; have z := ih (k + 1) (by omega); rw [nI_succ] at z; exact z
  refine r_aload_n (pc := 0) hC dX5_undo_0 rfl ?_
  refine g_Model_pasts (pc := 1) hC wi_X5_undo_5 wl_X5_undo_22 (by assumption) dX5_undo_1 ?_
  refine r_if_ne (pc := 4) (tgt := 10) hC dX5_undo_4 (by decide) (fun bq4 => ?_) (fun bq4 => ?_)
  · skip
    refine r_aload_n (pc := 10) hC dX5_undo_10 rfl ?_
    refine r_dup (pc := 11) hC dX5_undo_11 rfl ?_
    refine g_Model_pasts (pc := 12) hC wi_X5_undo_5 wl_X5_undo_22 (by assumption) dX5_undo_12 ?_
    refine r_iconst (pc := 15) (v := 1) hC dX5_undo_15 (by decide) ?_
    refine r_isub (pc := 16) hC dX5_undo_16 ?_
    refine p_Model_pasts (pc := 17) hC wi_X5_undo_5 wl_X5_undo_22 (by assumption) dX5_undo_17 ?_
    refine r_iconst (pc := 20) (v := 0) hC dX5_undo_20 (by decide) ?_
    refine r_istore_n (pc := 21) (L' := [_, _]) hC dX5_undo_21 rfl (Nat.le_of_ble_eq_true rfl) rfl ?_
    have h00 : h ≠ 0 := fun e => bq4 (by rw [hh, e]; rfl)
    rw [show I m 3 - 1 = nI (h - 1) from by rw [hh, show h = (h - 1) + 1 by omega]; exact nI_pred _]
    have z := loop h00 369 0 rfl; rw [xres_0] at z; exact z
  · skip
    refine r_ldc (pc := 7) (v := -1000002) hC dX5_undo_7 wl_X5_undo_101 ?_
    refine r_iret (pc := 9) hC hD rfl dX5_undo_9 rfl ?_
    have h00 : h = 0 := (nI_eq (b := 0) (by omega) (by decide)).mp (hh.symm.trans bq4)
    exact ⟨by rw [if_pos h00], rfl, by rw [if_pos h00], rfl⟩
theorem k_X5_undo {X : xF} {G : xG} {cs : Nat × Nat} {μ : xM} {I : xI} {P : xP} {L : List (Option Value)} {pc : Nat} {rest : List Value} {cc : ByteArray} {Ts : List Cond} {own : String} {nL : Nat} {R : Room} (hC : xC X G cc Ts own nL R) {index : Nat} (hG : GoodIn Ts (wsV own index RX5 yX5_undo wsX5_undo)) (hR : rm_X5_undo.frames + 1 ≤ R.frames ∧ 8 + (2 + 11) + rm_X5_undo.locals ≤ R.locals) {m h : Nat} (km : μ.2.1 m = 6) (ks : μ.2.1 (P m 0) = 7) (ls : μ.2.2 (P m 0) = 369) (kp : μ.2.1 (P m 1) = 7) (lp : μ.2.2 (P m 1) = 1476) (hsp : P m 0 ≠ P m 1) (hh : I m 3 = nI h) (hh4 : h ≤ 4) (hW : (rest.map fun v => v.category).sum ≤ 8) (hL : L.length = nL) (hcs : cs.1 ≤ R.cells ∧ cs.2 ≤ R.slots) (hdec : decode cc pc = .ok (.invokevirtual index, 3)) (kk : xg X G cs μ (if h = 0 then I else xres (P m 0) (P m 1) (369 * (h - 1)) 369 (xu I m 3 (nI (h - 1)))) P L (pc + 3) (.int (if h = 0 then -1000002 else nI (h - 1)) :: rest)) : xg X G cs μ I P L pc (.ref (xZ G + m) :: rest) :=
  r_callV hC (c_X5_undo X.2.1 km ks ls kp lp hsp hh hh4) hG rfl rfl rfl hd_X5_undo hR (by rw [km]; decide) (xe_Model km) rfl rfl rfl hW hL hcs hdec (by rintro v μ' I' P' ⟨rfl, rfl, rfl, rfl⟩; exact kk)
