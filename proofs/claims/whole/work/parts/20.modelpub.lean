abbrev rm_X5_drive : Room := { frames := 1, cells := 0, slots := 0, locals := 21 }
theorem wl_X5_drive_7 : Cond.fieldLink RX5 7 "HandBlindsModel" "s" "[I" ∈ wsX5_drive := List.mem_of_getElem? (i := 2) (by decide +kernel)
theorem wi_X5_drive_5 : ∀ w ∈ wsX50, w ∈ wsX5_drive := fun _ h => List.mem_cons_of_mem _ (List.mem_append_right _ h)
theorem wl_X5_drive_92 : Cond.constant RX5 92 (-1000001) ∈ wsX5_drive := List.mem_of_getElem? (i := 1) (by decide +kernel)
theorem hd_X5_drive : yX5_drive.cls = RX5 ∧ yX5_drive.cls ≠ "java/lang/invoke/MethodHandle" ∧ yX5_drive.cls ≠ "java/lang/invoke/VarHandle" ∧ (parseMethodDescriptor yX5_drive.desc).map (fun d => d.parameters.length) = some 1 := ⟨rfl, by decide +kernel, by decide +kernel, by decide +kernel⟩
set_option maxHeartbeats 4000000 in
set_option maxRecDepth 100000 in
theorem c_X5_drive (l : Launch) {G : xG} {μ : xM} {I : xI} {P : xP} {m h n q : Nat} {r : Int32} (km : μ.2.1 m = 6) (ks : μ.2.1 (P m 0) = 7) (ls : μ.2.2 (P m 0) = 369) (kp : μ.2.1 (P m 1) = 7) (lp : μ.2.2 (P m 1) = 1476) (hsp : P m 0 ≠ P m 1) (hh : I m 3 = nI h) (hh4 : h ≤ 4) (hinv : invN (I (P m 0)) n q) : Ct l yX5_drive wsX5_drive rm_X5_drive G μ I P [.ref (xZ G + m), .int r] 0 0 (fun vv μ' I' P' => vv = some (.int (aDrive (I (P m 0)) r)) ∧ μ' = μ ∧ P' = P ∧ mQ m (P m 0) (P m 1) (P m 2) I (if okDrive (I (P m 0)) r then (xchg m (P m 0) (P m 1) h I) else I) I' (sDrive (I (P m 0)) r)) := by
  obtain ⟨hn20, hn, hq6, hq, hsh, hdr, h8r, h9r, h10r, hrows⟩ := id hinv
  have hmp : m ≠ P m 1 := fun e => by rw [← e, km] at kp; cases kp
  have hms : m ≠ P m 0 := fun e => by rw [← e, km] at ks; cases ks
  have cS : xchg m (P m 0) (P m 1) h I (P m 0) = I (P m 0) := xchg_s hsp (Ne.symm hms)
  have cQ := @mQ_chg m (P m 0) (P m 1) (P m 2) h I
  refine Ct.of (cc := cX5_drive) (maxL := 3) (ret := (some .int)) [some (.ref (xZ G + m)), some (.int r), none] (by decide) rfl rfl rfl (Nat.le_of_ble_eq_true rfl) ?_
  intro X hC hD h0 _
  refine r_iload_n (pc := 0) hC dX5_drive_0 rfl ?_
  refine r_iconst (pc := 1) (v := -1) hC dX5_drive_1 (by decide) ?_
  refine r_icmp_eq (pc := 2) (tgt := 16) hC dX5_drive_2 (by decide) (fun bq2 => ?_) (fun bq2 => ?_)
  · skip
    refine r_aload_n (pc := 16) hC dX5_drive_16 rfl ?_
    refine k_X5_changes (pc := 17) hC gX5_drive_X5_changes ⟨Nat.le_of_ble_eq_true rfl, Nat.le_of_ble_eq_true rfl⟩ km ks ls kp lp hsp hh hh4 (Nat.le_of_ble_eq_true rfl) rfl ⟨Nat.zero_le _, Nat.zero_le _⟩ dX5_drive_17 ?_
    refine r_aload_n (pc := 20) hC dX5_drive_20 rfl ?_
    refine g_Model_s (pc := 21) hC wi_X5_drive_5 wl_X5_drive_7 (by assumption) (c2 := 7) (by assumption) (by decide) dX5_drive_21 ?_
    refine r_iconst (pc := 24) (v := 3) hC dX5_drive_24 (by decide) ?_
    refine r_iald (pc := 25) hC ks (xi_l (k := 3) ls (by decide) (by decide) (by decide)) dX5_drive_25 ?_
    refine r_istore_n (pc := 26) (L' := [_, _, _]) hC dX5_drive_26 rfl (Nat.le_of_ble_eq_true rfl) rfl ?_
    refine r_aload_n (pc := 27) hC dX5_drive_27 rfl ?_
    refine g_Model_s (pc := 28) hC wi_X5_drive_5 wl_X5_drive_7 (by assumption) (c2 := 7) (by assumption) (by decide) dX5_drive_28 ?_
    refine r_iconst (pc := 31) (v := 3) hC dX5_drive_31 (by decide) ?_
    refine r_iload_n (pc := 32) hC dX5_drive_32 rfl ?_
    refine r_iast (pc := 33) hC ks (xi_l (k := 3) ls (by decide) (by decide) (by decide)) dX5_drive_33 ?_
    refine r_iload_n (pc := 34) hC dX5_drive_34 rfl ?_
    refine r_iret (pc := 35) hC hD rfl dX5_drive_35 rfl ?_
    have e1 : okDrive (I (P m 0)) r = true := by simp [okDrive, bq2]
    have e2 : sDrive (I (P m 0)) r = upd (I (P m 0)) 3 r := by simp [sDrive, e1]
    refine ⟨by simp [aDrive, e1, cS], rfl, rfl, ?_⟩
    rw [e1, if_pos rfl, e2]
    exact cQ hmp hms hsp (by rw [xu_upd, cS]) (fun a ha => xu_row ha)
  · skip
    refine r_aload_n (pc := 5) hC dX5_drive_5 rfl ?_
    refine r_iload_n (pc := 6) hC dX5_drive_6 rfl ?_
    refine k_X5_isRoute (pc := 7) hC gX5_drive_X5_isRoute ⟨Nat.le_of_ble_eq_true rfl, Nat.le_of_ble_eq_true rfl⟩ (by assumption) (by assumption) (by assumption) (Nat.le_of_ble_eq_true rfl) rfl ⟨Nat.zero_le _, Nat.zero_le _⟩ dX5_drive_7 ?_
    refine r_if_ne (pc := 10) (tgt := 16) hC dX5_drive_10 (by decide) (fun bq10 => ?_) (fun bq10 => ?_)
    · skip
      refine r_aload_n (pc := 16) hC dX5_drive_16 rfl ?_
      refine k_X5_changes (pc := 17) hC gX5_drive_X5_changes ⟨Nat.le_of_ble_eq_true rfl, Nat.le_of_ble_eq_true rfl⟩ km ks ls kp lp hsp hh hh4 (Nat.le_of_ble_eq_true rfl) rfl ⟨Nat.zero_le _, Nat.zero_le _⟩ dX5_drive_17 ?_
      refine r_aload_n (pc := 20) hC dX5_drive_20 rfl ?_
      refine g_Model_s (pc := 21) hC wi_X5_drive_5 wl_X5_drive_7 (by assumption) (c2 := 7) (by assumption) (by decide) dX5_drive_21 ?_
      refine r_iconst (pc := 24) (v := 3) hC dX5_drive_24 (by decide) ?_
      refine r_iald (pc := 25) hC ks (xi_l (k := 3) ls (by decide) (by decide) (by decide)) dX5_drive_25 ?_
      refine r_istore_n (pc := 26) (L' := [_, _, _]) hC dX5_drive_26 rfl (Nat.le_of_ble_eq_true rfl) rfl ?_
      refine r_aload_n (pc := 27) hC dX5_drive_27 rfl ?_
      refine g_Model_s (pc := 28) hC wi_X5_drive_5 wl_X5_drive_7 (by assumption) (c2 := 7) (by assumption) (by decide) dX5_drive_28 ?_
      refine r_iconst (pc := 31) (v := 3) hC dX5_drive_31 (by decide) ?_
      refine r_iload_n (pc := 32) hC dX5_drive_32 rfl ?_
      refine r_iast (pc := 33) hC ks (xi_l (k := 3) ls (by decide) (by decide) (by decide)) dX5_drive_33 ?_
      refine r_iload_n (pc := 34) hC dX5_drive_34 rfl ?_
      refine r_iret (pc := 35) hC hD rfl dX5_drive_35 rfl ?_
      have e1 : okDrive (I (P m 0)) r = true := by simp [okDrive, bq2, bq10]
      have e2 : sDrive (I (P m 0)) r = upd (I (P m 0)) 3 r := by simp [sDrive, e1]
      refine ⟨by simp [aDrive, e1, cS], rfl, rfl, ?_⟩
      rw [e1, if_pos rfl, e2]
      exact cQ hmp hms hsp (by rw [xu_upd, cS]) (fun a ha => xu_row ha)
    · skip
      refine r_ldc (pc := 13) (v := -1000001) hC dX5_drive_13 wl_X5_drive_92 ?_
      refine r_iret (pc := 15) hC hD rfl dX5_drive_15 rfl ?_
      have e1 : okDrive (I (P m 0)) r = false := by simp [okDrive, bq2, bq10]
      refine ⟨by simp [aDrive, e1, bq2, bq10], rfl, rfl, ?_⟩
      rw [e1, if_neg (by decide)]
      rw [show sDrive (I (P m 0)) r = I (P m 0) from by simp [sDrive, e1]]
      exact mQ_id
theorem k_X5_drive {X : xF} {G : xG} {cs : Nat × Nat} {μ : xM} {I : xI} {P : xP} {L : List (Option Value)} {pc : Nat} {rest : List Value} {cc : ByteArray} {Ts : List Cond} {own : String} {nL : Nat} {R : Room} (hC : xC X G cc Ts own nL R) {index : Nat} (hG : GoodIn Ts (wsV own index RX5 yX5_drive wsX5_drive)) (hR : rm_X5_drive.frames + 1 ≤ R.frames ∧ 8 + (3 + 11) + rm_X5_drive.locals ≤ R.locals) {m h n q : Nat} {r : Int32} (km : μ.2.1 m = 6) (ks : μ.2.1 (P m 0) = 7) (ls : μ.2.2 (P m 0) = 369) (kp : μ.2.1 (P m 1) = 7) (lp : μ.2.2 (P m 1) = 1476) (hsp : P m 0 ≠ P m 1) (hh : I m 3 = nI h) (hh4 : h ≤ 4) (hinv : invN (I (P m 0)) n q) (hW : (rest.map fun v => v.category).sum ≤ 8) (hL : L.length = nL) (hcs : cs.1 ≤ R.cells ∧ cs.2 ≤ R.slots) (hdec : decode cc pc = .ok (.invokevirtual index, 3)) (kk : ∀ I' : xI, mQ m (P m 0) (P m 1) (P m 2) I (if okDrive (I (P m 0)) r then (xchg m (P m 0) (P m 1) h I) else I) I' (sDrive (I (P m 0)) r) → xg X G cs μ I' P L (pc + 3) (.int (aDrive (I (P m 0)) r) :: rest)) : xg X G cs μ I P L pc (.int r :: .ref (xZ G + m) :: rest) :=
  r_callV hC (c_X5_drive X.2.1 km ks ls kp lp hsp hh hh4 hinv) hG rfl rfl rfl hd_X5_drive hR (by rw [km]; decide) (xe_Model km) rfl rfl rfl hW hL hcs hdec (by rintro vv μ' I' P' ⟨rfl, rfl, rfl, hQ⟩; exact kk I' hQ)
abbrev rm_X5_set : Room := { frames := 1, cells := 0, slots := 0, locals := 22 }
theorem wl_X5_set_92 : Cond.constant RX5 92 (-1000001) ∈ wsX5_set := List.mem_of_getElem? (i := 1) (by decide +kernel)
theorem wl_X5_set_7 : Cond.fieldLink RX5 7 "HandBlindsModel" "s" "[I" ∈ wsX5_set := List.mem_of_getElem? (i := 2) (by decide +kernel)
theorem wi_X5_set_5 : ∀ w ∈ wsX50, w ∈ wsX5_set := fun _ h => List.mem_cons_of_mem _ (List.mem_append_right _ h)
theorem hd_X5_set : yX5_set.cls = RX5 ∧ yX5_set.cls ≠ "java/lang/invoke/MethodHandle" ∧ yX5_set.cls ≠ "java/lang/invoke/VarHandle" ∧ (parseMethodDescriptor yX5_set.desc).map (fun d => d.parameters.length) = some 2 := ⟨rfl, by decide +kernel, by decide +kernel, by decide +kernel⟩
set_option maxHeartbeats 4000000 in
set_option maxRecDepth 100000 in
theorem c_X5_set (l : Launch) {G : xG} {μ : xM} {I : xI} {P : xP} {m h n q : Nat} {w v : Int32} (km : μ.2.1 m = 6) (ks : μ.2.1 (P m 0) = 7) (ls : μ.2.2 (P m 0) = 369) (kp : μ.2.1 (P m 1) = 7) (lp : μ.2.2 (P m 1) = 1476) (hsp : P m 0 ≠ P m 1) (hh : I m 3 = nI h) (hh4 : h ≤ 4) (hinv : invN (I (P m 0)) n q) : Ct l yX5_set wsX5_set rm_X5_set G μ I P [.ref (xZ G + m), .int w, .int v] 0 0 (fun vv μ' I' P' => vv = some (.int (aSet (I (P m 0)) w v)) ∧ μ' = μ ∧ P' = P ∧ mQ m (P m 0) (P m 1) (P m 2) I (if okSet w v then (xchg m (P m 0) (P m 1) h I) else I) I' (sSet (I (P m 0)) w v)) := by
  obtain ⟨hn20, hn, hq6, hq, hsh, hdr, h8r, h9r, h10r, hrows⟩ := id hinv
  have hmp : m ≠ P m 1 := fun e => by rw [← e, km] at kp; cases kp
  have hms : m ≠ P m 0 := fun e => by rw [← e, km] at ks; cases ks
  have cS : xchg m (P m 0) (P m 1) h I (P m 0) = I (P m 0) := xchg_s hsp (Ne.symm hms)
  have cQ := @mQ_chg m (P m 0) (P m 1) (P m 2) h I
  refine Ct.of (cc := cX5_set) (maxL := 4) (ret := (some .int)) [some (.ref (xZ G + m)), some (.int w), some (.int v), none] (by decide) rfl rfl rfl (Nat.le_of_ble_eq_true rfl) ?_
  intro X hC hD h0 _
  refine r_iload_n (pc := 0) hC dX5_set_0 rfl ?_
  refine r_iconst (pc := 1) (v := 0) hC dX5_set_1 (by decide) ?_
  refine r_iconst (pc := 2) (v := 2) hC dX5_set_2 (by decide) ?_
  refine k_X5_in (pc := 3) hC gX5_set_X5_in ⟨Nat.le_of_ble_eq_true rfl, Nat.le_of_ble_eq_true rfl⟩  (Nat.le_of_ble_eq_true rfl) rfl ⟨Nat.zero_le _, Nat.zero_le _⟩ dX5_set_3 ?_
  refine r_if_eq (pc := 6) (tgt := 29) hC dX5_set_6 (by decide) (fun bq6 => ?_) (fun bq6 => ?_)
  · skip
    refine r_ldc (pc := 29) (v := -1000001) hC dX5_set_29 wl_X5_set_92 ?_
    refine r_iret (pc := 31) hC hD rfl dX5_set_31 rfl ?_
    have e1 : okSet w v = false := by simp [okSet, bq6]
    refine ⟨by simp [aSet, e1, bq6], rfl, rfl, ?_⟩
    rw [e1, if_neg (by decide)]
    rw [show sSet (I (P m 0)) w v = I (P m 0) from by simp [sSet, e1]]
    exact mQ_id
  · skip
    refine r_iload_n (pc := 9) hC dX5_set_9 rfl ?_
    refine r_iload_n (pc := 10) hC dX5_set_10 rfl ?_
    refine r_if_ne (pc := 11) (tgt := 18) hC dX5_set_11 (by decide) (fun bq11 => ?_) (fun bq11 => ?_)
    · skip
      have elo : setLo w = 1 := if_neg bq11
      refine r_iconst (pc := 18) (v := 1) hC dX5_set_18 (by decide) ?_
      refine r_iload_n (pc := 19) hC dX5_set_19 rfl ?_
      refine k_X5_mostOf (pc := 20) hC gX5_set_X5_mostOf ⟨Nat.le_of_ble_eq_true rfl, Nat.le_of_ble_eq_true rfl⟩  (Nat.le_of_ble_eq_true rfl) rfl ⟨Nat.zero_le _, Nat.zero_le _⟩ dX5_set_20 ?_
      refine k_X5_in (pc := 23) hC gX5_set_X5_in ⟨Nat.le_of_ble_eq_true rfl, Nat.le_of_ble_eq_true rfl⟩  (Nat.le_of_ble_eq_true rfl) rfl ⟨Nat.zero_le _, Nat.zero_le _⟩ dX5_set_23 ?_
      refine r_if_ne (pc := 26) (tgt := 32) hC dX5_set_26 (by decide) (fun bq26 => ?_) (fun bq26 => ?_)
      · skip
        obtain ⟨hw3, hix⟩ := inr_02 bq6
        refine r_aload_n (pc := 32) hC dX5_set_32 rfl ?_
        refine k_X5_changes (pc := 33) hC gX5_set_X5_changes ⟨Nat.le_of_ble_eq_true rfl, Nat.le_of_ble_eq_true rfl⟩ km ks ls kp lp hsp hh hh4 (Nat.le_of_ble_eq_true rfl) rfl ⟨Nat.zero_le _, Nat.zero_le _⟩ dX5_set_33 ?_
        refine r_aload_n (pc := 36) hC dX5_set_36 rfl ?_
        refine g_Model_s (pc := 37) hC wi_X5_set_5 wl_X5_set_7 (by assumption) (c2 := 7) (by assumption) (by decide) dX5_set_37 ?_
        refine r_bipush (pc := 40) (v := 8) hC dX5_set_40 (by decide) ?_
        refine r_iload_n (pc := 42) hC dX5_set_42 rfl ?_
        refine r_iadd (pc := 43) hC dX5_set_43 ?_
        refine r_iald (pc := 44) hC ks (xi_e (k := 8 + w.toNatClampNeg) hix ls (by omega) (by decide)) dX5_set_44 ?_
        refine r_istore_n (pc := 45) (L' := [_, _, _, _]) hC dX5_set_45 rfl (Nat.le_of_ble_eq_true rfl) rfl ?_
        refine r_aload_n (pc := 46) hC dX5_set_46 rfl ?_
        refine g_Model_s (pc := 47) hC wi_X5_set_5 wl_X5_set_7 (by assumption) (c2 := 7) (by assumption) (by decide) dX5_set_47 ?_
        refine r_bipush (pc := 50) (v := 8) hC dX5_set_50 (by decide) ?_
        refine r_iload_n (pc := 52) hC dX5_set_52 rfl ?_
        refine r_iadd (pc := 53) hC dX5_set_53 ?_
        refine r_iload_n (pc := 54) hC dX5_set_54 rfl ?_
        refine r_iast (pc := 55) hC ks (xi_e (k := 8 + w.toNatClampNeg) hix ls (by omega) (by decide)) dX5_set_55 ?_
        refine r_iload_n (pc := 56) hC dX5_set_56 rfl ?_
        refine r_iret (pc := 57) hC hD rfl dX5_set_57 rfl ?_
        have e1 : okSet w v = true := by simp [okSet, bq6, elo, bq26]
        have e2 : sSet (I (P m 0)) w v = upd (I (P m 0)) (8 + w.toNatClampNeg) v := by simp [sSet, e1]
        refine ⟨by simp [aSet, e1, cS], rfl, rfl, ?_⟩
        rw [e1, if_pos rfl, e2]
        exact cQ hmp hms hsp (by rw [xu_upd, cS]) (fun a ha => xu_row ha)
      · skip
        refine r_ldc (pc := 29) (v := -1000001) hC dX5_set_29 wl_X5_set_92 ?_
        refine r_iret (pc := 31) hC hD rfl dX5_set_31 rfl ?_
        have e1 : okSet w v = false := by simp [okSet, bq6, elo, bq26]
        refine ⟨by simp [aSet, e1, bq6, elo, bq26], rfl, rfl, ?_⟩
        rw [e1, if_neg (by decide)]
        rw [show sSet (I (P m 0)) w v = I (P m 0) from by simp [sSet, e1]]
        exact mQ_id
    · skip
      have elo : setLo w = 4 := by rw [bq11]; rfl
      refine r_iconst (pc := 14) (v := 4) hC dX5_set_14 (by decide) ?_
      refine r_goto (pc := 15) (tgt := 19) hC dX5_set_15 (by decide) ?_
      refine r_iload_n (pc := 19) hC dX5_set_19 rfl ?_
      refine k_X5_mostOf (pc := 20) hC gX5_set_X5_mostOf ⟨Nat.le_of_ble_eq_true rfl, Nat.le_of_ble_eq_true rfl⟩  (Nat.le_of_ble_eq_true rfl) rfl ⟨Nat.zero_le _, Nat.zero_le _⟩ dX5_set_20 ?_
      refine k_X5_in (pc := 23) hC gX5_set_X5_in ⟨Nat.le_of_ble_eq_true rfl, Nat.le_of_ble_eq_true rfl⟩  (Nat.le_of_ble_eq_true rfl) rfl ⟨Nat.zero_le _, Nat.zero_le _⟩ dX5_set_23 ?_
      refine r_if_ne (pc := 26) (tgt := 32) hC dX5_set_26 (by decide) (fun bq26 => ?_) (fun bq26 => ?_)
      · skip
        obtain ⟨hw3, hix⟩ := inr_02 bq6
        refine r_aload_n (pc := 32) hC dX5_set_32 rfl ?_
        refine k_X5_changes (pc := 33) hC gX5_set_X5_changes ⟨Nat.le_of_ble_eq_true rfl, Nat.le_of_ble_eq_true rfl⟩ km ks ls kp lp hsp hh hh4 (Nat.le_of_ble_eq_true rfl) rfl ⟨Nat.zero_le _, Nat.zero_le _⟩ dX5_set_33 ?_
        refine r_aload_n (pc := 36) hC dX5_set_36 rfl ?_
        refine g_Model_s (pc := 37) hC wi_X5_set_5 wl_X5_set_7 (by assumption) (c2 := 7) (by assumption) (by decide) dX5_set_37 ?_
        refine r_bipush (pc := 40) (v := 8) hC dX5_set_40 (by decide) ?_
        refine r_iload_n (pc := 42) hC dX5_set_42 rfl ?_
        refine r_iadd (pc := 43) hC dX5_set_43 ?_
        refine r_iald (pc := 44) hC ks (xi_e (k := 8 + w.toNatClampNeg) hix ls (by omega) (by decide)) dX5_set_44 ?_
        refine r_istore_n (pc := 45) (L' := [_, _, _, _]) hC dX5_set_45 rfl (Nat.le_of_ble_eq_true rfl) rfl ?_
        refine r_aload_n (pc := 46) hC dX5_set_46 rfl ?_
        refine g_Model_s (pc := 47) hC wi_X5_set_5 wl_X5_set_7 (by assumption) (c2 := 7) (by assumption) (by decide) dX5_set_47 ?_
        refine r_bipush (pc := 50) (v := 8) hC dX5_set_50 (by decide) ?_
        refine r_iload_n (pc := 52) hC dX5_set_52 rfl ?_
        refine r_iadd (pc := 53) hC dX5_set_53 ?_
        refine r_iload_n (pc := 54) hC dX5_set_54 rfl ?_
        refine r_iast (pc := 55) hC ks (xi_e (k := 8 + w.toNatClampNeg) hix ls (by omega) (by decide)) dX5_set_55 ?_
        refine r_iload_n (pc := 56) hC dX5_set_56 rfl ?_
        refine r_iret (pc := 57) hC hD rfl dX5_set_57 rfl ?_
        have e1 : okSet w v = true := by simp [okSet, bq6, elo, bq26]
        have e2 : sSet (I (P m 0)) w v = upd (I (P m 0)) (8 + w.toNatClampNeg) v := by simp [sSet, e1]
        refine ⟨by simp [aSet, e1, cS], rfl, rfl, ?_⟩
        rw [e1, if_pos rfl, e2]
        exact cQ hmp hms hsp (by rw [xu_upd, cS]) (fun a ha => xu_row ha)
      · skip
        refine r_ldc (pc := 29) (v := -1000001) hC dX5_set_29 wl_X5_set_92 ?_
        refine r_iret (pc := 31) hC hD rfl dX5_set_31 rfl ?_
        have e1 : okSet w v = false := by simp [okSet, bq6, elo, bq26]
        refine ⟨by simp [aSet, e1, bq6, elo, bq26], rfl, rfl, ?_⟩
        rw [e1, if_neg (by decide)]
        rw [show sSet (I (P m 0)) w v = I (P m 0) from by simp [sSet, e1]]
        exact mQ_id
theorem k_X5_set {X : xF} {G : xG} {cs : Nat × Nat} {μ : xM} {I : xI} {P : xP} {L : List (Option Value)} {pc : Nat} {rest : List Value} {cc : ByteArray} {Ts : List Cond} {own : String} {nL : Nat} {R : Room} (hC : xC X G cc Ts own nL R) {index : Nat} (hG : GoodIn Ts (wsV own index RX5 yX5_set wsX5_set)) (hR : rm_X5_set.frames + 1 ≤ R.frames ∧ 8 + (4 + 11) + rm_X5_set.locals ≤ R.locals) {m h n q : Nat} {w v : Int32} (km : μ.2.1 m = 6) (ks : μ.2.1 (P m 0) = 7) (ls : μ.2.2 (P m 0) = 369) (kp : μ.2.1 (P m 1) = 7) (lp : μ.2.2 (P m 1) = 1476) (hsp : P m 0 ≠ P m 1) (hh : I m 3 = nI h) (hh4 : h ≤ 4) (hinv : invN (I (P m 0)) n q) (hW : (rest.map fun v => v.category).sum ≤ 8) (hL : L.length = nL) (hcs : cs.1 ≤ R.cells ∧ cs.2 ≤ R.slots) (hdec : decode cc pc = .ok (.invokevirtual index, 3)) (kk : ∀ I' : xI, mQ m (P m 0) (P m 1) (P m 2) I (if okSet w v then (xchg m (P m 0) (P m 1) h I) else I) I' (sSet (I (P m 0)) w v) → xg X G cs μ I' P L (pc + 3) (.int (aSet (I (P m 0)) w v) :: rest)) : xg X G cs μ I P L pc (.int v :: .int w :: .ref (xZ G + m) :: rest) :=
  r_callV hC (c_X5_set X.2.1 km ks ls kp lp hsp hh hh4 hinv) hG rfl rfl rfl hd_X5_set hR (by rw [km]; decide) (xe_Model km) rfl rfl rfl hW hL hcs hdec (by rintro vv μ' I' P' ⟨rfl, rfl, rfl, hQ⟩; exact kk I' hQ)
abbrev rm_X5_mend : Room := { frames := 2, cells := 0, slots := 0, locals := 43 }
theorem wl_X5_mend_101 : Cond.constant RX5 101 (-1000002) ∈ wsX5_mend := List.mem_of_getElem? (i := 2) (by decide +kernel)
theorem wl_X5_mend_92 : Cond.constant RX5 92 (-1000001) ∈ wsX5_mend := List.mem_of_getElem? (i := 1) (by decide +kernel)
theorem hd_X5_mend : yX5_mend.cls = RX5 ∧ yX5_mend.cls ≠ "java/lang/invoke/MethodHandle" ∧ yX5_mend.cls ≠ "java/lang/invoke/VarHandle" ∧ (parseMethodDescriptor yX5_mend.desc).map (fun d => d.parameters.length) = some 1 := ⟨rfl, by decide +kernel, by decide +kernel, by decide +kernel⟩
set_option maxHeartbeats 4000000 in
set_option maxRecDepth 100000 in
theorem c_X5_mend (l : Launch) {G : xG} {μ : xM} {I : xI} {P : xP} {m h n q : Nat} {r : Int32} (km : μ.2.1 m = 6) (ks : μ.2.1 (P m 0) = 7) (ls : μ.2.2 (P m 0) = 369) (kp : μ.2.1 (P m 1) = 7) (lp : μ.2.2 (P m 1) = 1476) (hsp : P m 0 ≠ P m 1) (hh : I m 3 = nI h) (hh4 : h ≤ 4) (hinv : invN (I (P m 0)) n q) : Ct l yX5_mend wsX5_mend rm_X5_mend G μ I P [.ref (xZ G + m), .int r] 0 0 (fun vv μ' I' P' => vv = some (.int (aMend (I (P m 0)) r)) ∧ μ' = μ ∧ P' = P ∧ mQ m (P m 0) (P m 1) (P m 2) I (if okMend (I (P m 0)) r then (xchg m (P m 0) (P m 1) h I) else I) I' (sMend (I (P m 0)) r)) := by
  obtain ⟨hn20, hn, hq6, hq, hsh, hdr, h8r, h9r, h10r, hrows⟩ := id hinv
  have hmp : m ≠ P m 1 := fun e => by rw [← e, km] at kp; cases kp
  have hms : m ≠ P m 0 := fun e => by rw [← e, km] at ks; cases ks
  have cS : xchg m (P m 0) (P m 1) h I (P m 0) = I (P m 0) := xchg_s hsp (Ne.symm hms)
  have cQ := @mQ_chg m (P m 0) (P m 1) (P m 2) h I
  refine Ct.of (cc := cX5_mend) (maxL := 2) (ret := (some .int)) [some (.ref (xZ G + m)), some (.int r)] (by decide) rfl rfl rfl (Nat.le_of_ble_eq_true rfl) ?_
  intro X hC hD h0 _
  refine r_aload_n (pc := 0) hC dX5_mend_0 rfl ?_
  refine r_iload_n (pc := 1) hC dX5_mend_1 rfl ?_
  refine k_X5_isRow (pc := 2) hC gX5_mend_X5_isRow ⟨Nat.le_of_ble_eq_true rfl, Nat.le_of_ble_eq_true rfl⟩ (by assumption) (by assumption) (by assumption) (Nat.le_of_ble_eq_true rfl) rfl ⟨Nat.zero_le _, Nat.zero_le _⟩ dX5_mend_2 ?_
  refine r_if_ne (pc := 5) (tgt := 11) hC dX5_mend_5 (by decide) (fun bq5 => ?_) (fun bq5 => ?_)
  · skip
    obtain ⟨k, hk, rfl⟩ := isR_of bq5 hn (by omega)
    have hkc : (nI k).toNatClampNeg = k := nI_clamp (by omega)
    refine r_aload_n (pc := 11) hC dX5_mend_11 rfl ?_
    refine r_iload_n (pc := 12) hC dX5_mend_12 rfl ?_
    refine k_X5_isTorn (pc := 13) hC gX5_mend_X5_isTorn ⟨Nat.le_of_ble_eq_true rfl, Nat.le_of_ble_eq_true rfl⟩ km ks ls rfl (by omega) (Nat.le_of_ble_eq_true rfl) rfl ⟨Nat.zero_le _, Nat.zero_le _⟩ dX5_mend_13 ?_
    refine r_if_ne (pc := 16) (tgt := 22) hC dX5_mend_16 (by decide) (fun bq16 => ?_) (fun bq16 => ?_)
    · skip
      have het : I (P m 0) (13 + 17 * k) = 1 := by
        refine Classical.byContradiction fun w => bq16 ?_
        rw [if_neg w]
      refine r_aload_n (pc := 22) hC dX5_mend_22 rfl ?_
      refine k_X5_changes (pc := 23) hC gX5_mend_X5_changes ⟨Nat.le_of_ble_eq_true rfl, Nat.le_of_ble_eq_true rfl⟩ km ks ls kp lp hsp hh hh4 (Nat.le_of_ble_eq_true rfl) rfl ⟨Nat.zero_le _, Nat.zero_le _⟩ dX5_mend_23 ?_
      refine r_aload_n (pc := 26) hC dX5_mend_26 rfl ?_
      refine r_iload_n (pc := 27) hC dX5_mend_27 rfl ?_
      refine r_iconst (pc := 28) (v := 1) hC dX5_mend_28 (by decide) ?_
      refine r_aload_n (pc := 29) hC dX5_mend_29 rfl ?_
      refine r_iload_n (pc := 30) hC dX5_mend_30 rfl ?_
      refine r_iconst (pc := 31) (v := 1) hC dX5_mend_31 (by decide) ?_
      refine k_X5_of (pc := 32) hC gX5_mend_X5_of ⟨Nat.le_of_ble_eq_true rfl, Nat.le_of_ble_eq_true rfl⟩ (k := 12 + 17 * k) km ks ls (by simp only [xlit, nI_add, pk_mul] <;> exact congrArg nI (by omega)) (by omega) (Nat.le_of_ble_eq_true rfl) rfl ⟨Nat.zero_le _, Nat.zero_le _⟩ dX5_mend_32 ?_
      refine r_iconst (pc := 35) (v := 2) hC dX5_mend_35 (by decide) ?_
      refine r_idiv (pc := 36) hC dX5_mend_36 (by decide) ?_
      refine k_X5_sets (pc := 37) hC gX5_mend_X5_sets ⟨Nat.le_of_ble_eq_true rfl, Nat.le_of_ble_eq_true rfl⟩ (k := 12 + 17 * k) km ks ls (by simp only [xlit, nI_add, pk_mul] <;> exact congrArg nI (by omega)) (by omega) (Nat.le_of_ble_eq_true rfl) rfl ⟨Nat.zero_le _, Nat.zero_le _⟩ dX5_mend_37 ?_
      refine r_aload_n (pc := 40) hC dX5_mend_40 rfl ?_
      refine r_iload_n (pc := 41) hC dX5_mend_41 rfl ?_
      refine r_iconst (pc := 42) (v := 2) hC dX5_mend_42 (by decide) ?_
      refine r_iconst (pc := 43) (v := 0) hC dX5_mend_43 (by decide) ?_
      refine k_X5_sets (pc := 44) hC gX5_mend_X5_sets ⟨Nat.le_of_ble_eq_true rfl, Nat.le_of_ble_eq_true rfl⟩ (k := 13 + 17 * k) km ks ls (by simp only [xlit, nI_add, pk_mul] <;> exact congrArg nI (by omega)) (by omega) (Nat.le_of_ble_eq_true rfl) rfl ⟨Nat.zero_le _, Nat.zero_le _⟩ dX5_mend_44 ?_
      refine r_aload_n (pc := 47) hC dX5_mend_47 rfl ?_
      refine r_iload_n (pc := 48) hC dX5_mend_48 rfl ?_
      refine r_iconst (pc := 49) (v := 1) hC dX5_mend_49 (by decide) ?_
      refine k_X5_of (pc := 50) hC gX5_mend_X5_of ⟨Nat.le_of_ble_eq_true rfl, Nat.le_of_ble_eq_true rfl⟩ (k := 12 + 17 * k) km ks ls (by simp only [xlit, nI_add, pk_mul] <;> exact congrArg nI (by omega)) (by omega) (Nat.le_of_ble_eq_true rfl) rfl ⟨Nat.zero_le _, Nat.zero_le _⟩ dX5_mend_50 ?_
      rw [cS]
      refine r_iret (pc := 53) hC hD rfl dX5_mend_53 rfl ?_
      have e1 : okMend (I (P m 0)) (nI k) = true := by simp [okMend, bq5, bq16, hkc, het]
      have e2 : sMend (I (P m 0)) (nI k) = upd (upd (I (P m 0)) (12 + 17 * k) (I (P m 0) (12 + 17 * k) / 2)) (13 + 17 * k) 0 := by simp [sMend, e1, hkc]
      refine ⟨by simp [aMend, bq5, hkc, het, xu], rfl, rfl, ?_⟩
      rw [e1, if_pos rfl, e2]
      exact cQ hmp hms hsp (by rw [xu_upd, xu_upd, cS]) (fun a ha => by rw [xu_row ha, xu_row ha])
    · skip
      have het : ¬ I (P m 0) (13 + 17 * k) = 1 := fun w => by rw [if_pos w] at bq16; cases bq16
      refine r_ldc (pc := 19) (v := -1000002) hC dX5_mend_19 wl_X5_mend_101 ?_
      refine r_iret (pc := 21) hC hD rfl dX5_mend_21 rfl ?_
      have e1 : okMend (I (P m 0)) (nI k) = false := by simp [okMend, bq5, bq16, hkc, het]
      refine ⟨by simp [aMend, e1, bq5, bq16, hkc, het], rfl, rfl, ?_⟩
      rw [e1, if_neg (by decide)]
      rw [show sMend (I (P m 0)) (nI k) = I (P m 0) from by simp [sMend, e1, hkc]]
      exact mQ_id
  · skip
    refine r_ldc (pc := 8) (v := -1000001) hC dX5_mend_8 wl_X5_mend_92 ?_
    refine r_iret (pc := 10) hC hD rfl dX5_mend_10 rfl ?_
    have e1 : okMend (I (P m 0)) r = false := by simp [okMend, bq5]
    refine ⟨by simp [aMend, e1, bq5], rfl, rfl, ?_⟩
    rw [e1, if_neg (by decide)]
    rw [show sMend (I (P m 0)) r = I (P m 0) from by simp [sMend, e1]]
    exact mQ_id
theorem k_X5_mend {X : xF} {G : xG} {cs : Nat × Nat} {μ : xM} {I : xI} {P : xP} {L : List (Option Value)} {pc : Nat} {rest : List Value} {cc : ByteArray} {Ts : List Cond} {own : String} {nL : Nat} {R : Room} (hC : xC X G cc Ts own nL R) {index : Nat} (hG : GoodIn Ts (wsV own index RX5 yX5_mend wsX5_mend)) (hR : rm_X5_mend.frames + 1 ≤ R.frames ∧ 8 + (2 + 11) + rm_X5_mend.locals ≤ R.locals) {m h n q : Nat} {r : Int32} (km : μ.2.1 m = 6) (ks : μ.2.1 (P m 0) = 7) (ls : μ.2.2 (P m 0) = 369) (kp : μ.2.1 (P m 1) = 7) (lp : μ.2.2 (P m 1) = 1476) (hsp : P m 0 ≠ P m 1) (hh : I m 3 = nI h) (hh4 : h ≤ 4) (hinv : invN (I (P m 0)) n q) (hW : (rest.map fun v => v.category).sum ≤ 8) (hL : L.length = nL) (hcs : cs.1 ≤ R.cells ∧ cs.2 ≤ R.slots) (hdec : decode cc pc = .ok (.invokevirtual index, 3)) (kk : ∀ I' : xI, mQ m (P m 0) (P m 1) (P m 2) I (if okMend (I (P m 0)) r then (xchg m (P m 0) (P m 1) h I) else I) I' (sMend (I (P m 0)) r) → xg X G cs μ I' P L (pc + 3) (.int (aMend (I (P m 0)) r) :: rest)) : xg X G cs μ I P L pc (.int r :: .ref (xZ G + m) :: rest) :=
  r_callV hC (c_X5_mend X.2.1 km ks ls kp lp hsp hh hh4 hinv) hG rfl rfl rfl hd_X5_mend hR (by rw [km]; decide) (xe_Model km) rfl rfl rfl hW hL hcs hdec (by rintro vv μ' I' P' ⟨rfl, rfl, rfl, hQ⟩; exact kk I' hQ)
abbrev rm_X5_route : Room := { frames := 1, cells := 0, slots := 0, locals := 22 }
theorem wl_X5_route_7 : Cond.fieldLink RX5 7 "HandBlindsModel" "s" "[I" ∈ wsX5_route := List.mem_of_getElem? (i := 1) (by decide +kernel)
theorem wi_X5_route_5 : ∀ w ∈ wsX50, w ∈ wsX5_route := fun _ h => List.mem_cons_of_mem _ (List.mem_append_right _ h)
theorem wl_X5_route_134 : Cond.constant RX5 134 (-1000003) ∈ wsX5_route := List.mem_of_getElem? (i := 3) (by decide +kernel)
theorem wl_X5_route_92 : Cond.constant RX5 92 (-1000001) ∈ wsX5_route := List.mem_of_getElem? (i := 2) (by decide +kernel)
theorem hd_X5_route : yX5_route.cls = RX5 ∧ yX5_route.cls ≠ "java/lang/invoke/MethodHandle" ∧ yX5_route.cls ≠ "java/lang/invoke/VarHandle" ∧ (parseMethodDescriptor yX5_route.desc).map (fun d => d.parameters.length) = some 1 := ⟨rfl, by decide +kernel, by decide +kernel, by decide +kernel⟩
set_option maxHeartbeats 4000000 in
set_option maxRecDepth 100000 in
theorem c_X5_route (l : Launch) {G : xG} {μ : xM} {I : xI} {P : xP} {m h n q : Nat} {r : Int32} (km : μ.2.1 m = 6) (ks : μ.2.1 (P m 0) = 7) (ls : μ.2.2 (P m 0) = 369) (kp : μ.2.1 (P m 1) = 7) (lp : μ.2.2 (P m 1) = 1476) (hsp : P m 0 ≠ P m 1) (hh : I m 3 = nI h) (hh4 : h ≤ 4) (hinv : invN (I (P m 0)) n q) : Ct l yX5_route wsX5_route rm_X5_route G μ I P [.ref (xZ G + m), .int r] 0 0 (fun vv μ' I' P' => vv = some (.int (aRoute (I (P m 0)) r)) ∧ μ' = μ ∧ P' = P ∧ mQ m (P m 0) (P m 1) (P m 2) I (if okRoute (I (P m 0)) r then (xchg m (P m 0) (P m 1) h I) else I) I' (sRoute (I (P m 0)) r)) := by
  obtain ⟨hn20, hn, hq6, hq, hsh, hdr, h8r, h9r, h10r, hrows⟩ := id hinv
  have hmp : m ≠ P m 1 := fun e => by rw [← e, km] at kp; cases kp
  have hms : m ≠ P m 0 := fun e => by rw [← e, km] at ks; cases ks
  have cS : xchg m (P m 0) (P m 1) h I (P m 0) = I (P m 0) := xchg_s hsp (Ne.symm hms)
  have cQ := @mQ_chg m (P m 0) (P m 1) (P m 2) h I
  refine Ct.of (cc := cX5_route) (maxL := 3) (ret := (some .int)) [some (.ref (xZ G + m)), some (.int r), none] (by decide) rfl rfl rfl (Nat.le_of_ble_eq_true rfl) ?_
  intro X hC hD h0 _
  refine r_iload_n (pc := 0) hC dX5_route_0 rfl ?_
  refine r_iconst (pc := 1) (v := 1) hC dX5_route_1 (by decide) ?_
  refine r_iconst (pc := 2) (v := 1) hC dX5_route_2 (by decide) ?_
  refine r_aload_n (pc := 3) hC dX5_route_3 rfl ?_
  refine g_Model_s (pc := 4) hC wi_X5_route_5 wl_X5_route_7 (by assumption) (c2 := 7) (by assumption) (by decide) dX5_route_4 ?_
  refine r_iconst (pc := 7) (v := 0) hC dX5_route_7 (by decide) ?_
  refine r_iald (pc := 8) hC ks (xi_l (k := 0) ls (by decide) (by decide) (by decide)) dX5_route_8 ?_
  refine r_ishl (pc := 9) hC dX5_route_9 ?_
  refine r_iconst (pc := 10) (v := 1) hC dX5_route_10 (by decide) ?_
  refine r_isub (pc := 11) hC dX5_route_11 ?_
  refine k_X5_in (pc := 12) hC gX5_route_X5_in ⟨Nat.le_of_ble_eq_true rfl, Nat.le_of_ble_eq_true rfl⟩  (Nat.le_of_ble_eq_true rfl) rfl ⟨Nat.zero_le _, Nat.zero_le _⟩ dX5_route_12 ?_
  refine r_if_ne (pc := 15) (tgt := 21) hC dX5_route_15 (by decide) (fun bq15 => ?_) (fun bq15 => ?_)
  · skip
    refine r_aload_n (pc := 21) hC dX5_route_21 rfl ?_
    refine g_Model_s (pc := 22) hC wi_X5_route_5 wl_X5_route_7 (by assumption) (c2 := 7) (by assumption) (by decide) dX5_route_22 ?_
    refine r_iconst (pc := 25) (v := 2) hC dX5_route_25 (by decide) ?_
    refine r_iald (pc := 26) hC ks (xi_l (k := 2) ls (by decide) (by decide) (by decide)) dX5_route_26 ?_
    refine r_istore_n (pc := 27) (L' := [_, _, _]) hC dX5_route_27 rfl (Nat.le_of_ble_eq_true rfl) rfl ?_
    refine r_iload_n (pc := 28) hC dX5_route_28 rfl ?_
    refine r_bipush (pc := 29) (v := 6) hC dX5_route_29 (by decide) ?_
    refine r_icmp_ne (pc := 31) (tgt := 37) hC dX5_route_31 (by decide) (fun bq31 => ?_) (fun bq31 => ?_)
    · skip
      have hq5 : q ≠ 6 := fun e => bq31 (by rw [hq, e]; rfl)
      have hqc : (I (P m 0) 2).toNatClampNeg = q := by rw [hq, nI_clamp (by omega)]
      refine r_aload_n (pc := 37) hC dX5_route_37 rfl ?_
      refine k_X5_changes (pc := 38) hC gX5_route_X5_changes ⟨Nat.le_of_ble_eq_true rfl, Nat.le_of_ble_eq_true rfl⟩ km ks ls kp lp hsp hh hh4 (Nat.le_of_ble_eq_true rfl) rfl ⟨Nat.zero_le _, Nat.zero_le _⟩ dX5_route_38 ?_
      refine r_aload_n (pc := 41) hC dX5_route_41 rfl ?_
      refine g_Model_s (pc := 42) hC wi_X5_route_5 wl_X5_route_7 (by assumption) (c2 := 7) (by assumption) (by decide) dX5_route_42 ?_
      refine r_sipush (pc := 45) (v := 351) hC dX5_route_45 (by decide) ?_
      refine r_iconst (pc := 48) (v := 3) hC dX5_route_48 (by decide) ?_
      refine r_iload_n (pc := 49) hC dX5_route_49 rfl ?_
      refine r_imul (pc := 50) hC dX5_route_50 ?_
      refine r_iadd (pc := 51) hC dX5_route_51 ?_
      refine r_iconst (pc := 52) (v := 0) hC dX5_route_52 (by decide) ?_
      refine r_iadd (pc := 53) hC dX5_route_53 ?_
      refine r_iload_n (pc := 54) hC dX5_route_54 rfl ?_
      refine r_iast (pc := 55) hC ks (xi_e (k := 351 + 3 * q) (by rw [hq]; simp only [xlit, nI_add, pk_mul] <;> exact congrArg nI (by omega)) ls (by omega) (by decide)) dX5_route_55 ?_
      refine r_aload_n (pc := 56) hC dX5_route_56 rfl ?_
      refine g_Model_s (pc := 57) hC wi_X5_route_5 wl_X5_route_7 (by assumption) (c2 := 7) (by assumption) (by decide) dX5_route_57 ?_
      refine r_sipush (pc := 60) (v := 351) hC dX5_route_60 (by decide) ?_
      refine r_iconst (pc := 63) (v := 3) hC dX5_route_63 (by decide) ?_
      refine r_iload_n (pc := 64) hC dX5_route_64 rfl ?_
      refine r_imul (pc := 65) hC dX5_route_65 ?_
      refine r_iadd (pc := 66) hC dX5_route_66 ?_
      refine r_iconst (pc := 67) (v := 1) hC dX5_route_67 (by decide) ?_
      refine r_iadd (pc := 68) hC dX5_route_68 ?_
      refine r_iconst (pc := 69) (v := 0) hC dX5_route_69 (by decide) ?_
      refine r_iast (pc := 70) hC ks (xi_e (k := 352 + 3 * q) (by rw [hq]; simp only [xlit, nI_add, pk_mul] <;> exact congrArg nI (by omega)) ls (by omega) (by decide)) dX5_route_70 ?_
      refine r_aload_n (pc := 71) hC dX5_route_71 rfl ?_
      refine g_Model_s (pc := 72) hC wi_X5_route_5 wl_X5_route_7 (by assumption) (c2 := 7) (by assumption) (by decide) dX5_route_72 ?_
      refine r_sipush (pc := 75) (v := 351) hC dX5_route_75 (by decide) ?_
      refine r_iconst (pc := 78) (v := 3) hC dX5_route_78 (by decide) ?_
      refine r_iload_n (pc := 79) hC dX5_route_79 rfl ?_
      refine r_imul (pc := 80) hC dX5_route_80 ?_
      refine r_iadd (pc := 81) hC dX5_route_81 ?_
      refine r_iconst (pc := 82) (v := 2) hC dX5_route_82 (by decide) ?_
      refine r_iadd (pc := 83) hC dX5_route_83 ?_
      refine r_iconst (pc := 84) (v := 0) hC dX5_route_84 (by decide) ?_
      refine r_iast (pc := 85) hC ks (xi_e (k := 353 + 3 * q) (by rw [hq]; simp only [xlit, nI_add, pk_mul] <;> exact congrArg nI (by omega)) ls (by omega) (by decide)) dX5_route_85 ?_
      refine r_aload_n (pc := 86) hC dX5_route_86 rfl ?_
      refine g_Model_s (pc := 87) hC wi_X5_route_5 wl_X5_route_7 (by assumption) (c2 := 7) (by assumption) (by decide) dX5_route_87 ?_
      refine r_iconst (pc := 90) (v := 2) hC dX5_route_90 (by decide) ?_
      refine r_dup2 (pc := 91) hC dX5_route_91 rfl rfl ?_
      refine r_iald (pc := 92) hC ks (xi_l (k := 2) ls (by decide) (by decide) (by decide)) dX5_route_92 ?_
      refine r_iconst (pc := 93) (v := 1) hC dX5_route_93 (by decide) ?_
      refine r_iadd (pc := 94) hC dX5_route_94 ?_
      refine r_iast (pc := 95) hC ks (xi_l (k := 2) ls (by decide) (by decide) (by decide)) dX5_route_95 ?_
      refine r_iload_n (pc := 96) hC dX5_route_96 rfl ?_
      refine r_iret (pc := 97) hC hD rfl dX5_route_97 rfl ?_
      have e1 : okRoute (I (P m 0)) r = true := by simp [okRoute, bq15, bq31, inSet]
      have e2 : sRoute (I (P m 0)) r = upd (upd (upd (upd (I (P m 0)) (351 + 3 * q) r) (352 + 3 * q) 0) (353 + 3 * q) 0) 2 (I (P m 0) 2 + 1) := by simp [sRoute, e1, hqc]
      refine ⟨by simp [aRoute, inSet, bq15, bq31, cS], rfl, rfl, ?_⟩
      rw [e1, if_pos rfl, e2]
      exact cQ hmp hms hsp (by rw [xu_upd, xu_upd, xu_upd, xu_upd, cS]; simp [upd]; rw [if_neg (by omega), if_neg (by omega), if_neg (by omega)]) (fun a ha => by rw [xu_row ha, xu_row ha, xu_row ha, xu_row ha])
    · skip
      refine r_ldc (pc := 34) (v := -1000003) hC dX5_route_34 wl_X5_route_134 ?_
      refine r_iret (pc := 36) hC hD rfl dX5_route_36 rfl ?_
      have e1 : okRoute (I (P m 0)) r = false := by simp [okRoute, bq15, bq31, inSet]
      refine ⟨by simp [aRoute, e1, bq15, bq31, inSet], rfl, rfl, ?_⟩
      rw [e1, if_neg (by decide)]
      rw [show sRoute (I (P m 0)) r = I (P m 0) from by simp [sRoute, e1]]
      exact mQ_id
  · skip
    refine r_ldc (pc := 18) (v := -1000001) hC dX5_route_18 wl_X5_route_92 ?_
    refine r_iret (pc := 20) hC hD rfl dX5_route_20 rfl ?_
    have e1 : okRoute (I (P m 0)) r = false := by simp [okRoute, bq15, inSet]
    refine ⟨by simp [aRoute, e1, bq15, inSet], rfl, rfl, ?_⟩
    rw [e1, if_neg (by decide)]
    rw [show sRoute (I (P m 0)) r = I (P m 0) from by simp [sRoute, e1]]
    exact mQ_id
theorem k_X5_route {X : xF} {G : xG} {cs : Nat × Nat} {μ : xM} {I : xI} {P : xP} {L : List (Option Value)} {pc : Nat} {rest : List Value} {cc : ByteArray} {Ts : List Cond} {own : String} {nL : Nat} {R : Room} (hC : xC X G cc Ts own nL R) {index : Nat} (hG : GoodIn Ts (wsV own index RX5 yX5_route wsX5_route)) (hR : rm_X5_route.frames + 1 ≤ R.frames ∧ 8 + (3 + 11) + rm_X5_route.locals ≤ R.locals) {m h n q : Nat} {r : Int32} (km : μ.2.1 m = 6) (ks : μ.2.1 (P m 0) = 7) (ls : μ.2.2 (P m 0) = 369) (kp : μ.2.1 (P m 1) = 7) (lp : μ.2.2 (P m 1) = 1476) (hsp : P m 0 ≠ P m 1) (hh : I m 3 = nI h) (hh4 : h ≤ 4) (hinv : invN (I (P m 0)) n q) (hW : (rest.map fun v => v.category).sum ≤ 8) (hL : L.length = nL) (hcs : cs.1 ≤ R.cells ∧ cs.2 ≤ R.slots) (hdec : decode cc pc = .ok (.invokevirtual index, 3)) (kk : ∀ I' : xI, mQ m (P m 0) (P m 1) (P m 2) I (if okRoute (I (P m 0)) r then (xchg m (P m 0) (P m 1) h I) else I) I' (sRoute (I (P m 0)) r) → xg X G cs μ I' P L (pc + 3) (.int (aRoute (I (P m 0)) r) :: rest)) : xg X G cs μ I P L pc (.int r :: .ref (xZ G + m) :: rest) :=
  r_callV hC (c_X5_route X.2.1 km ks ls kp lp hsp hh hh4 hinv) hG rfl rfl rfl hd_X5_route hR (by rw [km]; decide) (xe_Model km) rfl rfl rfl hW hL hcs hdec (by rintro vv μ' I' P' ⟨rfl, rfl, rfl, hQ⟩; exact kk I' hQ)
