abbrev rm_X5_tornOnes : Room := { frames := 1, cells := 0, slots := 0, locals := 22 }
theorem wl_X5_tornOnes_7 : Cond.fieldLink RX5 7 "HandBlindsModel" "s" "[I" ∈ wsX5_tornOnes := List.mem_of_getElem? (i := 1) (by decide +kernel)
theorem wi_X5_tornOnes_5 : ∀ w ∈ wsX50, w ∈ wsX5_tornOnes := fun _ h => List.mem_cons_of_mem _ (List.mem_append_right _ h)
theorem hd_X5_tornOnes : yX5_tornOnes.cls = RX5 ∧ yX5_tornOnes.cls ≠ "java/lang/invoke/MethodHandle" ∧ yX5_tornOnes.cls ≠ "java/lang/invoke/VarHandle" ∧ (parseMethodDescriptor yX5_tornOnes.desc).map (fun d => d.parameters.length) = some 0 := ⟨rfl, by decide +kernel, by decide +kernel, by decide +kernel⟩
set_option maxHeartbeats 4000000 in
set_option maxRecDepth 100000 in
theorem c_X5_tornOnes (l : Launch) {G : xG} {μ : xM} {I : xI} {P : xP} {m n : Nat} (km : μ.2.1 m = 6) (ks : μ.2.1 (P m 0) = 7) (ls : μ.2.2 (P m 0) = 369) (hn : I (P m 0) 0 = nI n) (hn20 : n ≤ 20) : Ct l yX5_tornOnes wsX5_tornOnes rm_X5_tornOnes G μ I P [.ref (xZ G + m)] 0 0 (fun vv μ' I' P' => vv = some (.int (tset (fun r => I (P m 0) (13 + 17 * r)) n)) ∧ μ' = μ ∧ I' = (I) ∧ P' = (P)) := by
  refine Ct.of (cc := cX5_tornOnes) (maxL := 3) (ret := (some .int)) [some (.ref (xZ G + m)), none, none] (by decide) rfl rfl rfl (Nat.le_of_ble_eq_true rfl) ?_
  intro X hC hD h0 _
  have loop : ∀ (q k : Nat), k + q = n → xg X G (0, 0) μ I P [some (.ref (xZ G + m)), some (.int (tset (fun r => I (P m 0) (13 + 17 * r)) k)), some (.int (nI k))] 4 [] := by
    intro q
    induction q with
    | zero =>
      intro k hk
      have ek : k = n := by omega
      subst ek
      refine r_iload_n (pc := 4) hC dX5_tornOnes_4 rfl ?_
      refine r_aload_n (pc := 5) hC dX5_tornOnes_5 rfl ?_
      refine g_Model_s (pc := 6) hC wi_X5_tornOnes_5 wl_X5_tornOnes_7 (by assumption) (c2 := 7) (by assumption) (by decide) dX5_tornOnes_6 ?_
      refine r_iconst (pc := 9) (v := 0) hC dX5_tornOnes_9 (by decide) ?_
      refine r_iald (pc := 10) hC ks (xi_l (k := 0) ls (by decide) (by decide) (by decide)) dX5_tornOnes_10 ?_
      refine r_icmp_ge (pc := 11) (tgt := 31) hC dX5_tornOnes_11 (by decide) (fun bq11 => ?_) (fun bq11 => ?_)
      · skip
        refine r_iload_n (pc := 31) hC dX5_tornOnes_31 rfl ?_
        refine r_iret (pc := 32) hC hD rfl dX5_tornOnes_32 rfl ?_
        exact ⟨rfl, rfl, rfl, rfl⟩
      · skip
        rw [hn] at bq11; exact absurd (nI_le (by omega) (by omega)) bq11
    | succ q ih =>
      intro k hk
      refine r_iload_n (pc := 4) hC dX5_tornOnes_4 rfl ?_
      refine r_aload_n (pc := 5) hC dX5_tornOnes_5 rfl ?_
      refine g_Model_s (pc := 6) hC wi_X5_tornOnes_5 wl_X5_tornOnes_7 (by assumption) (c2 := 7) (by assumption) (by decide) dX5_tornOnes_6 ?_
      refine r_iconst (pc := 9) (v := 0) hC dX5_tornOnes_9 (by decide) ?_
      refine r_iald (pc := 10) hC ks (xi_l (k := 0) ls (by decide) (by decide) (by decide)) dX5_tornOnes_10 ?_
      refine r_icmp_ge (pc := 11) (tgt := 31) hC dX5_tornOnes_11 (by decide) (fun bq11 => ?_) (fun bq11 => ?_)
      · skip
        rw [hn] at bq11; exact absurd bq11 (nI_ge (by omega) (by omega))
      · skip
        refine r_iload_n (pc := 14) hC dX5_tornOnes_14 rfl ?_
        refine r_aload_n (pc := 15) hC dX5_tornOnes_15 rfl ?_
        refine r_iload_n (pc := 16) hC dX5_tornOnes_16 rfl ?_
        refine r_iconst (pc := 17) (v := 2) hC dX5_tornOnes_17 (by decide) ?_
        refine k_X5_of (pc := 18) hC gX5_tornOnes_X5_of ⟨Nat.le_of_ble_eq_true rfl, Nat.le_of_ble_eq_true rfl⟩ (k := 13 + 17 * k) km ks ls (by simp only [xlit, nI_add, pk_mul] <;> exact congrArg nI (by omega)) (by omega) (Nat.le_of_ble_eq_true rfl) rfl ⟨Nat.zero_le _, Nat.zero_le _⟩ dX5_tornOnes_18 ?_
        refine r_iload_n (pc := 21) hC dX5_tornOnes_21 rfl ?_
        refine r_ishl (pc := 22) hC dX5_tornOnes_22 ?_
        refine r_ior (pc := 23) hC dX5_tornOnes_23 ?_
        refine r_istore_n (pc := 24) (L' := [_, _, _]) hC dX5_tornOnes_24 rfl (Nat.le_of_ble_eq_true rfl) rfl ?_
        refine r_iinc (pc := 25) (v := 1) (L' := [_, _, _]) hC dX5_tornOnes_25 rfl (by decide) rfl rfl ?_
        refine r_goto (pc := 28) (tgt := 4) hC dX5_tornOnes_28 (by decide) ?_
        have z := ih (k + 1) (by omega); rw [nI_succ] at z; exact z
  refine r_iconst (pc := 0) (v := 0) hC dX5_tornOnes_0 (by decide) ?_
  refine r_istore_n (pc := 1) (L' := [_, _, _]) hC dX5_tornOnes_1 rfl (Nat.le_of_ble_eq_true rfl) rfl ?_
  refine r_iconst (pc := 2) (v := 0) hC dX5_tornOnes_2 (by decide) ?_
  refine r_istore_n (pc := 3) (L' := [_, _, _]) hC dX5_tornOnes_3 rfl (Nat.le_of_ble_eq_true rfl) rfl ?_
  exact loop n 0 (by omega)
theorem k_X5_tornOnes {X : xF} {G : xG} {cs : Nat × Nat} {μ : xM} {I : xI} {P : xP} {L : List (Option Value)} {pc : Nat} {rest : List Value} {cc : ByteArray} {Ts : List Cond} {own : String} {nL : Nat} {R : Room} (hC : xC X G cc Ts own nL R) {index : Nat} (hG : GoodIn Ts (wsV own index RX5 yX5_tornOnes wsX5_tornOnes)) (hR : rm_X5_tornOnes.frames + 1 ≤ R.frames ∧ 8 + (3 + 11) + rm_X5_tornOnes.locals ≤ R.locals) {m n : Nat} (km : μ.2.1 m = 6) (ks : μ.2.1 (P m 0) = 7) (ls : μ.2.2 (P m 0) = 369) (hn : I (P m 0) 0 = nI n) (hn20 : n ≤ 20) (hW : (rest.map fun v => v.category).sum ≤ 8) (hL : L.length = nL) (hcs : cs.1 ≤ R.cells ∧ cs.2 ≤ R.slots) (hdec : decode cc pc = .ok (.invokevirtual index, 3)) (kk : xg X G cs μ I P L (pc + 3) (.int (tset (fun r => I (P m 0) (13 + 17 * r)) n) :: rest)) : xg X G cs μ I P L pc (.ref (xZ G + m) :: rest) :=
  r_callV hC (c_X5_tornOnes X.2.1 km ks ls hn hn20) hG rfl rfl rfl hd_X5_tornOnes hR (by rw [km]; decide) (xe_Model km) rfl rfl rfl hW hL hcs hdec (by rintro v μ' I' P' ⟨rfl, rfl, rfl, rfl⟩; exact kk)
abbrev rm_X5_routesOf : Room := { frames := 1, cells := 0, slots := 0, locals := 22 }
theorem wl_X5_routesOf_7 : Cond.fieldLink RX5 7 "HandBlindsModel" "s" "[I" ∈ wsX5_routesOf := List.mem_of_getElem? (i := 1) (by decide +kernel)
theorem wi_X5_routesOf_5 : ∀ w ∈ wsX50, w ∈ wsX5_routesOf := fun _ h => List.mem_cons_of_mem _ (List.mem_append_right _ h)
theorem hd_X5_routesOf : yX5_routesOf.cls = RX5 ∧ yX5_routesOf.cls ≠ "java/lang/invoke/MethodHandle" ∧ yX5_routesOf.cls ≠ "java/lang/invoke/VarHandle" ∧ (parseMethodDescriptor yX5_routesOf.desc).map (fun d => d.parameters.length) = some 1 := ⟨rfl, by decide +kernel, by decide +kernel, by decide +kernel⟩
set_option maxHeartbeats 4000000 in
set_option maxRecDepth 100000 in
theorem c_X5_routesOf (l : Launch) {G : xG} {μ : xM} {I : xI} {P : xP} {m n : Nat} {r : Int32} (km : μ.2.1 m = 6) (ks : μ.2.1 (P m 0) = 7) (ls : μ.2.2 (P m 0) = 369) (hq : I (P m 0) 2 = nI n) (hq6 : n ≤ 6) : Ct l yX5_routesOf wsX5_routesOf rm_X5_routesOf G μ I P [.ref (xZ G + m), .int r] 0 0 (fun vv μ' I' P' => vv = some (.int (rset (fun k => I (P m 0) (351 + 3 * k)) r n)) ∧ μ' = μ ∧ I' = (I) ∧ P' = (P)) := by
  refine Ct.of (cc := cX5_routesOf) (maxL := 4) (ret := (some .int)) [some (.ref (xZ G + m)), some (.int r), none, none] (by decide) rfl rfl rfl (Nat.le_of_ble_eq_true rfl) ?_
  intro X hC hD h0 _
  have loop : ∀ (q k : Nat), k + q = n → xg X G (0, 0) μ I P [some (.ref (xZ G + m)), some (.int r), some (.int (rset (fun k => I (P m 0) (351 + 3 * k)) r k)), some (.int (nI k))] 4 [] := by
    intro q
    induction q with
    | zero =>
      intro k hk
      have ek : k = n := by omega
      subst ek
      refine r_iload_n (pc := 4) hC dX5_routesOf_4 rfl ?_
      refine r_aload_n (pc := 5) hC dX5_routesOf_5 rfl ?_
      refine g_Model_s (pc := 6) hC wi_X5_routesOf_5 wl_X5_routesOf_7 (by assumption) (c2 := 7) (by assumption) (by decide) dX5_routesOf_6 ?_
      refine r_iconst (pc := 9) (v := 2) hC dX5_routesOf_9 (by decide) ?_
      refine r_iald (pc := 10) hC ks (xi_l (k := 2) ls (by decide) (by decide) (by decide)) dX5_routesOf_10 ?_
      refine r_icmp_ge (pc := 11) (tgt := 35) hC dX5_routesOf_11 (by decide) (fun bq11 => ?_) (fun bq11 => ?_)
      · skip
        refine r_iload_n (pc := 35) hC dX5_routesOf_35 rfl ?_
        refine r_iret (pc := 36) hC hD rfl dX5_routesOf_36 rfl ?_
        exact ⟨rfl, rfl, rfl, rfl⟩
      · skip
        rw [hq] at bq11; exact absurd (nI_le (by omega) (by omega)) bq11
    | succ q ih =>
      intro k hk
      refine r_iload_n (pc := 4) hC dX5_routesOf_4 rfl ?_
      refine r_aload_n (pc := 5) hC dX5_routesOf_5 rfl ?_
      refine g_Model_s (pc := 6) hC wi_X5_routesOf_5 wl_X5_routesOf_7 (by assumption) (c2 := 7) (by assumption) (by decide) dX5_routesOf_6 ?_
      refine r_iconst (pc := 9) (v := 2) hC dX5_routesOf_9 (by decide) ?_
      refine r_iald (pc := 10) hC ks (xi_l (k := 2) ls (by decide) (by decide) (by decide)) dX5_routesOf_10 ?_
      refine r_icmp_ge (pc := 11) (tgt := 35) hC dX5_routesOf_11 (by decide) (fun bq11 => ?_) (fun bq11 => ?_)
      · skip
        rw [hq] at bq11; exact absurd bq11 (nI_ge (by omega) (by omega))
      · skip
        refine r_iload_n (pc := 14) hC dX5_routesOf_14 rfl ?_
        refine r_aload_n (pc := 15) hC dX5_routesOf_15 rfl ?_
        refine r_iload_n (pc := 16) hC dX5_routesOf_16 rfl ?_
        refine r_iconst (pc := 17) (v := 0) hC dX5_routesOf_17 (by decide) ?_
        refine k_X5_ofRoute (pc := 18) hC gX5_routesOf_X5_ofRoute ⟨Nat.le_of_ble_eq_true rfl, Nat.le_of_ble_eq_true rfl⟩ (k := 351 + 3 * k) km ks ls (by simp only [xlit, nI_add, pk_mul] <;> exact congrArg nI (by omega)) (by omega) (Nat.le_of_ble_eq_true rfl) rfl ⟨Nat.zero_le _, Nat.zero_le _⟩ dX5_routesOf_18 ?_
        refine r_iload_n (pc := 21) hC dX5_routesOf_21 rfl ?_
        refine r_ishr (pc := 22) hC dX5_routesOf_22 ?_
        refine r_iconst (pc := 23) (v := 1) hC dX5_routesOf_23 (by decide) ?_
        refine r_iand (pc := 24) hC dX5_routesOf_24 ?_
        refine r_iload_n (pc := 25) hC dX5_routesOf_25 rfl ?_
        refine r_ishl (pc := 26) hC dX5_routesOf_26 ?_
        refine r_ior (pc := 27) hC dX5_routesOf_27 ?_
        refine r_istore_n (pc := 28) (L' := [_, _, _, _]) hC dX5_routesOf_28 rfl (Nat.le_of_ble_eq_true rfl) rfl ?_
        refine r_iinc (pc := 29) (v := 1) (L' := [_, _, _, _]) hC dX5_routesOf_29 rfl (by decide) rfl rfl ?_
        refine r_goto (pc := 32) (tgt := 4) hC dX5_routesOf_32 (by decide) ?_
        have z := ih (k + 1) (by omega); rw [nI_succ] at z; exact z
  refine r_iconst (pc := 0) (v := 0) hC dX5_routesOf_0 (by decide) ?_
  refine r_istore_n (pc := 1) (L' := [_, _, _, _]) hC dX5_routesOf_1 rfl (Nat.le_of_ble_eq_true rfl) rfl ?_
  refine r_iconst (pc := 2) (v := 0) hC dX5_routesOf_2 (by decide) ?_
  refine r_istore_n (pc := 3) (L' := [_, _, _, _]) hC dX5_routesOf_3 rfl (Nat.le_of_ble_eq_true rfl) rfl ?_
  exact loop n 0 (by omega)
theorem k_X5_routesOf {X : xF} {G : xG} {cs : Nat × Nat} {μ : xM} {I : xI} {P : xP} {L : List (Option Value)} {pc : Nat} {rest : List Value} {cc : ByteArray} {Ts : List Cond} {own : String} {nL : Nat} {R : Room} (hC : xC X G cc Ts own nL R) {index : Nat} (hG : GoodIn Ts (wsV own index RX5 yX5_routesOf wsX5_routesOf)) (hR : rm_X5_routesOf.frames + 1 ≤ R.frames ∧ 8 + (4 + 11) + rm_X5_routesOf.locals ≤ R.locals) {m n : Nat} {r : Int32} (km : μ.2.1 m = 6) (ks : μ.2.1 (P m 0) = 7) (ls : μ.2.2 (P m 0) = 369) (hq : I (P m 0) 2 = nI n) (hq6 : n ≤ 6) (hW : (rest.map fun v => v.category).sum ≤ 8) (hL : L.length = nL) (hcs : cs.1 ≤ R.cells ∧ cs.2 ≤ R.slots) (hdec : decode cc pc = .ok (.invokevirtual index, 3)) (kk : xg X G cs μ I P L (pc + 3) (.int (rset (fun k => I (P m 0) (351 + 3 * k)) r n) :: rest)) : xg X G cs μ I P L pc (.int r :: .ref (xZ G + m) :: rest) :=
  r_callV hC (c_X5_routesOf X.2.1 km ks ls hq hq6) hG rfl rfl rfl hd_X5_routesOf hR (by rw [km]; decide) (xe_Model km) rfl rfl rfl hW hL hcs hdec (by rintro v μ' I' P' ⟨rfl, rfl, rfl, rfl⟩; exact kk)
abbrev rm_X5_isName : Room := { frames := 1, cells := 0, slots := 0, locals := 22 }
theorem wl_X5_isName_34 : Cond.constantLong RX5 34 (32) ∈ wsX5_isName := List.mem_of_getElem? (i := 1) (by decide +kernel)
theorem hd_X5_isName : yX5_isName.cls = RX5 ∧ yX5_isName.cls ≠ "java/lang/invoke/MethodHandle" ∧ yX5_isName.cls ≠ "java/lang/invoke/VarHandle" ∧ (parseMethodDescriptor yX5_isName.desc).map (fun d => d.parameters.length) = some 2 := ⟨rfl, by decide +kernel, by decide +kernel, by decide +kernel⟩
set_option maxHeartbeats 4000000 in
set_option maxRecDepth 100000 in
theorem c_X5_isName (l : Launch) {G : xG} {μ : xM} {I : xI} {P : xP} {m r n : Nat} {row : Int32} {x : Int64} (km : μ.2.1 m = 6) (ks : μ.2.1 (P m 0) = 7) (ls : μ.2.2 (P m 0) = 369) (hr : row = nI r) (hr20 : r < 20) (hl : I (P m 0) (11 + 17 * r) = nI n) (hn14 : n ≤ 14) : Ct l yX5_isName wsX5_isName rm_X5_isName G μ I P [.ref (xZ G + m), .int row, .long x] 0 0 (fun vv μ' I' P' => vv = some (.int (if nml (fun j => I (P m 0) (14 + 17 * r + j)) n = x then 1 else 0)) ∧ μ' = μ ∧ I' = (I) ∧ P' = (P)) := by
  subst hr
  refine Ct.of (cc := cX5_isName) (maxL := 7) (ret := (some .boolean)) [some (.ref (xZ G + m)), some (.int (nI r)), some (.long x), none, none, none, none] (by decide) rfl rfl rfl (Nat.le_of_ble_eq_true rfl) ?_
  intro X hC hD h0 _
  have loop : ∀ (q k : Nat), k + q = n → xg X G (0, 0) μ I P [some (.ref (xZ G + m)), some (.int (nI r)), some (.long x), none, some (.long (nml (fun j => I (P m 0) (14 + 17 * r + j)) k)), none, some (.int (nI k))] 6 [] := by
    intro q
    induction q with
    | zero =>
      intro k hk
      have ek : k = n := by omega
      subst ek
      refine r_iload (pc := 6) hC dX5_isName_6 rfl ?_
      refine r_aload_n (pc := 8) hC dX5_isName_8 rfl ?_
      refine r_iload_n (pc := 9) hC dX5_isName_9 rfl ?_
      refine r_iconst (pc := 10) (v := 0) hC dX5_isName_10 (by decide) ?_
      refine k_X5_of (pc := 11) hC gX5_isName_X5_of ⟨Nat.le_of_ble_eq_true rfl, Nat.le_of_ble_eq_true rfl⟩ (k := 11 + 17 * r) km ks ls (by simp only [xlit, nI_add, pk_mul] <;> exact congrArg nI (by omega)) (by omega) (Nat.le_of_ble_eq_true rfl) rfl ⟨Nat.zero_le _, Nat.zero_le _⟩ dX5_isName_11 ?_
      refine r_icmp_ge (pc := 14) (tgt := 45) hC dX5_isName_14 (by decide) (fun bq14 => ?_) (fun bq14 => ?_)
      · skip
        refine r_lload (pc := 45) hC dX5_isName_45 rfl ?_
        refine r_lload_n (pc := 47) hC dX5_isName_47 rfl ?_
        refine r_lcmp (pc := 48) hC dX5_isName_48 ?_
        refine r_if_ne (pc := 49) (tgt := 56) hC dX5_isName_49 (by decide) (fun bq49 => ?_) (fun bq49 => ?_)
        · skip
          refine r_iconst (pc := 56) (v := 0) hC dX5_isName_56 (by decide) ?_
          refine r_iret (pc := 57) hC hD rfl dX5_isName_57 rfl ?_
          rw [lg_cmp_eq] at bq49
          exact ⟨by simp [bq49], rfl, rfl, rfl⟩
        · skip
          refine r_iconst (pc := 52) (v := 1) hC dX5_isName_52 (by decide) ?_
          refine r_goto (pc := 53) (tgt := 57) hC dX5_isName_53 (by decide) ?_
          refine r_iret (pc := 57) hC hD rfl dX5_isName_57 rfl ?_
          rw [lg_cmp_eq] at bq49
          exact ⟨by simp [bq49], rfl, rfl, rfl⟩
      · skip
        rw [hl] at bq14; exact absurd (nI_le (by omega) (by omega)) bq14
    | succ q ih =>
      intro k hk
      refine r_iload (pc := 6) hC dX5_isName_6 rfl ?_
      refine r_aload_n (pc := 8) hC dX5_isName_8 rfl ?_
      refine r_iload_n (pc := 9) hC dX5_isName_9 rfl ?_
      refine r_iconst (pc := 10) (v := 0) hC dX5_isName_10 (by decide) ?_
      refine k_X5_of (pc := 11) hC gX5_isName_X5_of ⟨Nat.le_of_ble_eq_true rfl, Nat.le_of_ble_eq_true rfl⟩ (k := 11 + 17 * r) km ks ls (by simp only [xlit, nI_add, pk_mul] <;> exact congrArg nI (by omega)) (by omega) (Nat.le_of_ble_eq_true rfl) rfl ⟨Nat.zero_le _, Nat.zero_le _⟩ dX5_isName_11 ?_
      refine r_icmp_ge (pc := 14) (tgt := 45) hC dX5_isName_14 (by decide) (fun bq14 => ?_) (fun bq14 => ?_)
      · skip
        rw [hl] at bq14; exact absurd bq14 (nI_ge (by omega) (by omega))
      · skip
        refine r_ldc2 (pc := 17) (v := 32) hC dX5_isName_17 wl_X5_isName_34 ?_
        refine r_lload (pc := 20) hC dX5_isName_20 rfl ?_
        refine r_lmul (pc := 22) hC dX5_isName_22 ?_
        refine r_aload_n (pc := 23) hC dX5_isName_23 rfl ?_
        refine r_iload_n (pc := 24) hC dX5_isName_24 rfl ?_
        refine r_iconst (pc := 25) (v := 3) hC dX5_isName_25 (by decide) ?_
        refine r_iload (pc := 26) hC dX5_isName_26 rfl ?_
        refine r_iadd (pc := 28) hC dX5_isName_28 ?_
        refine k_X5_of (pc := 29) hC gX5_isName_X5_of ⟨Nat.le_of_ble_eq_true rfl, Nat.le_of_ble_eq_true rfl⟩ (k := 14 + 17 * r + k) km ks ls (by simp only [xlit, nI_add, pk_mul] <;> exact congrArg nI (by omega)) (by omega) (Nat.le_of_ble_eq_true rfl) rfl ⟨Nat.zero_le _, Nat.zero_le _⟩ dX5_isName_29 ?_
        refine r_bipush (pc := 32) (v := 32) hC dX5_isName_32 (by decide) ?_
        refine r_irem (pc := 34) hC dX5_isName_34 (by decide) ?_
        refine r_i2l (pc := 35) hC dX5_isName_35 ?_
        refine r_ladd (pc := 36) hC dX5_isName_36 ?_
        refine r_lstore (pc := 37) (L' := [_, _, _, _, _, _, _]) hC dX5_isName_37 rfl (Nat.le_of_ble_eq_true rfl) rfl ?_
        refine r_iinc (pc := 39) (v := 1) (L' := [_, _, _, _, _, _, _]) hC dX5_isName_39 rfl (by decide) rfl rfl ?_
        refine r_goto (pc := 42) (tgt := 6) hC dX5_isName_42 (by decide) ?_
        have z := ih (k + 1) (by omega); rw [nI_succ] at z; exact z
  refine r_lconst (pc := 0) (v := 0) hC dX5_isName_0 rfl ?_
  refine r_lstore (pc := 1) (L' := [_, _, _, _, _, _, _]) hC dX5_isName_1 rfl (Nat.le_of_ble_eq_true rfl) rfl ?_
  refine r_iconst (pc := 3) (v := 0) hC dX5_isName_3 (by decide) ?_
  refine r_istore (pc := 4) (L' := [_, _, _, _, _, _, _]) hC dX5_isName_4 rfl (Nat.le_of_ble_eq_true rfl) rfl ?_
  exact loop n 0 (by omega)
theorem k_X5_isName {X : xF} {G : xG} {cs : Nat × Nat} {μ : xM} {I : xI} {P : xP} {L : List (Option Value)} {pc : Nat} {rest : List Value} {cc : ByteArray} {Ts : List Cond} {own : String} {nL : Nat} {R : Room} (hC : xC X G cc Ts own nL R) {index : Nat} (hG : GoodIn Ts (wsV own index RX5 yX5_isName wsX5_isName)) (hR : rm_X5_isName.frames + 1 ≤ R.frames ∧ 8 + (7 + 11) + rm_X5_isName.locals ≤ R.locals) {m r n : Nat} {row : Int32} {x : Int64} (km : μ.2.1 m = 6) (ks : μ.2.1 (P m 0) = 7) (ls : μ.2.2 (P m 0) = 369) (hr : row = nI r) (hr20 : r < 20) (hl : I (P m 0) (11 + 17 * r) = nI n) (hn14 : n ≤ 14) (hW : (rest.map fun v => v.category).sum ≤ 8) (hL : L.length = nL) (hcs : cs.1 ≤ R.cells ∧ cs.2 ≤ R.slots) (hdec : decode cc pc = .ok (.invokevirtual index, 3)) (kk : xg X G cs μ I P L (pc + 3) (.int (if nml (fun j => I (P m 0) (14 + 17 * r + j)) n = x then 1 else 0) :: rest)) : xg X G cs μ I P L pc (.long x :: .int row :: .ref (xZ G + m) :: rest) :=
  r_callV hC (c_X5_isName X.2.1 km ks ls hr hr20 hl hn14) hG rfl rfl rfl hd_X5_isName hR (by rw [km]; decide) (xe_Model km) rfl rfl rfl hW hL hcs hdec (by rintro v μ' I' P' ⟨rfl, rfl, rfl, rfl⟩; exact kk)
abbrev rm_X5_kind : Room := { frames := 2, cells := 0, slots := 0, locals := 48 }
theorem wl_X5_kind_36 : Cond.constantLong RX5 36 (4375028) ∈ wsX5_kind := List.mem_of_getElem? (i := 1) (by decide +kernel)
theorem wl_X5_kind_42 : Cond.constantLong RX5 42 (20433497) ∈ wsX5_kind := List.mem_of_getElem? (i := 2) (by decide +kernel)
theorem wl_X5_kind_44 : Cond.constantLong RX5 44 (17794008709) ∈ wsX5_kind := List.mem_of_getElem? (i := 3) (by decide +kernel)
theorem hd_X5_kind : yX5_kind.cls = RX5 ∧ yX5_kind.cls ≠ "java/lang/invoke/MethodHandle" ∧ yX5_kind.cls ≠ "java/lang/invoke/VarHandle" ∧ (parseMethodDescriptor yX5_kind.desc).map (fun d => d.parameters.length) = some 1 := ⟨rfl, by decide +kernel, by decide +kernel, by decide +kernel⟩
set_option maxHeartbeats 4000000 in
set_option maxRecDepth 100000 in
theorem c_X5_kind (l : Launch) {G : xG} {μ : xM} {I : xI} {P : xP} {m r n : Nat} {row : Int32} (km : μ.2.1 m = 6) (ks : μ.2.1 (P m 0) = 7) (ls : μ.2.2 (P m 0) = 369) (hr : row = nI r) (hr20 : r < 20) (hl : I (P m 0) (11 + 17 * r) = nI n) (hn14 : n ≤ 14) : Ct l yX5_kind wsX5_kind rm_X5_kind G μ I P [.ref (xZ G + m), .int row] 0 0 (fun vv μ' I' P' => vv = some (.int (kindL (fun j => I (P m 0) (14 + 17 * r + j)) n)) ∧ μ' = μ ∧ I' = (I) ∧ P' = (P)) := by
  subst hr
  refine Ct.of (cc := cX5_kind) (maxL := 2) (ret := (some .int)) [some (.ref (xZ G + m)), some (.int (nI r))] (by decide) rfl rfl rfl (Nat.le_of_ble_eq_true rfl) ?_
  intro X hC hD h0 _
  refine r_aload_n (pc := 0) hC dX5_kind_0 rfl ?_
  refine r_iload_n (pc := 1) hC dX5_kind_1 rfl ?_
  refine r_ldc2 (pc := 2) (v := 4375028) hC dX5_kind_2 wl_X5_kind_36 ?_
  refine k_X5_isName (pc := 5) hC gX5_kind_X5_isName ⟨Nat.le_of_ble_eq_true rfl, Nat.le_of_ble_eq_true rfl⟩ km ks ls rfl hr20 hl hn14 (Nat.le_of_ble_eq_true rfl) rfl ⟨Nat.zero_le _, Nat.zero_le _⟩ dX5_kind_5 ?_
  refine r_if_eq (pc := 8) (tgt := 13) hC dX5_kind_8 (by decide) (fun bq8 => ?_) (fun bq8 => ?_)
  · skip
    refine r_aload_n (pc := 13) hC dX5_kind_13 rfl ?_
    refine r_iload_n (pc := 14) hC dX5_kind_14 rfl ?_
    refine r_ldc2 (pc := 15) (v := 20433497) hC dX5_kind_15 wl_X5_kind_42 ?_
    refine k_X5_isName (pc := 18) hC gX5_kind_X5_isName ⟨Nat.le_of_ble_eq_true rfl, Nat.le_of_ble_eq_true rfl⟩ km ks ls rfl hr20 hl hn14 (Nat.le_of_ble_eq_true rfl) rfl ⟨Nat.zero_le _, Nat.zero_le _⟩ dX5_kind_18 ?_
    refine r_if_eq (pc := 21) (tgt := 26) hC dX5_kind_21 (by decide) (fun bq21 => ?_) (fun bq21 => ?_)
    · skip
      refine r_aload_n (pc := 26) hC dX5_kind_26 rfl ?_
      refine r_iload_n (pc := 27) hC dX5_kind_27 rfl ?_
      refine r_ldc2 (pc := 28) (v := 17794008709) hC dX5_kind_28 wl_X5_kind_44 ?_
      refine k_X5_isName (pc := 31) hC gX5_kind_X5_isName ⟨Nat.le_of_ble_eq_true rfl, Nat.le_of_ble_eq_true rfl⟩ km ks ls rfl hr20 hl hn14 (Nat.le_of_ble_eq_true rfl) rfl ⟨Nat.zero_le _, Nat.zero_le _⟩ dX5_kind_31 ?_
      refine r_if_eq (pc := 34) (tgt := 39) hC dX5_kind_34 (by decide) (fun bq34 => ?_) (fun bq34 => ?_)
      · skip
        refine r_aload_n (pc := 39) hC dX5_kind_39 rfl ?_
        refine r_iload_n (pc := 40) hC dX5_kind_40 rfl ?_
        refine r_iconst (pc := 41) (v := 0) hC dX5_kind_41 (by decide) ?_
        refine k_X5_of (pc := 42) hC gX5_kind_X5_of ⟨Nat.le_of_ble_eq_true rfl, Nat.le_of_ble_eq_true rfl⟩ (k := 11 + 17 * r) km ks ls (by simp only [xlit, nI_add, pk_mul] <;> exact congrArg nI (by omega)) (by omega) (Nat.le_of_ble_eq_true rfl) rfl ⟨Nat.zero_le _, Nat.zero_le _⟩ dX5_kind_42 ?_
        refine r_iconst (pc := 45) (v := 1) hC dX5_kind_45 (by decide) ?_
        rw [hl]
        refine r_icmp_ne (pc := 46) (tgt := 53) hC dX5_kind_46 (by decide) (fun bq46 => ?_) (fun bq46 => ?_)
        · skip
          refine r_iconst (pc := 53) (v := 0) hC dX5_kind_53 (by decide) ?_
          refine r_iret (pc := 54) hC hD rfl dX5_kind_54 rfl ?_
          exact ⟨by simp_all [kindL], rfl, rfl, rfl⟩
        · skip
          refine r_iconst (pc := 49) (v := 4) hC dX5_kind_49 (by decide) ?_
          refine r_goto (pc := 50) (tgt := 54) hC dX5_kind_50 (by decide) ?_
          refine r_iret (pc := 54) hC hD rfl dX5_kind_54 rfl ?_
          exact ⟨by simp_all [kindL], rfl, rfl, rfl⟩
      · skip
        refine r_iconst (pc := 37) (v := 3) hC dX5_kind_37 (by decide) ?_
        refine r_iret (pc := 38) hC hD rfl dX5_kind_38 rfl ?_
        exact ⟨by simp_all [kindL], rfl, rfl, rfl⟩
    · skip
      refine r_iconst (pc := 24) (v := 2) hC dX5_kind_24 (by decide) ?_
      refine r_iret (pc := 25) hC hD rfl dX5_kind_25 rfl ?_
      exact ⟨by simp_all [kindL], rfl, rfl, rfl⟩
  · skip
    refine r_iconst (pc := 11) (v := 1) hC dX5_kind_11 (by decide) ?_
    refine r_iret (pc := 12) hC hD rfl dX5_kind_12 rfl ?_
    exact ⟨by simp_all [kindL], rfl, rfl, rfl⟩
theorem k_X5_kind {X : xF} {G : xG} {cs : Nat × Nat} {μ : xM} {I : xI} {P : xP} {L : List (Option Value)} {pc : Nat} {rest : List Value} {cc : ByteArray} {Ts : List Cond} {own : String} {nL : Nat} {R : Room} (hC : xC X G cc Ts own nL R) {index : Nat} (hG : GoodIn Ts (wsV own index RX5 yX5_kind wsX5_kind)) (hR : rm_X5_kind.frames + 1 ≤ R.frames ∧ 8 + (2 + 11) + rm_X5_kind.locals ≤ R.locals) {m r n : Nat} {row : Int32} (km : μ.2.1 m = 6) (ks : μ.2.1 (P m 0) = 7) (ls : μ.2.2 (P m 0) = 369) (hr : row = nI r) (hr20 : r < 20) (hl : I (P m 0) (11 + 17 * r) = nI n) (hn14 : n ≤ 14) (hW : (rest.map fun v => v.category).sum ≤ 8) (hL : L.length = nL) (hcs : cs.1 ≤ R.cells ∧ cs.2 ≤ R.slots) (hdec : decode cc pc = .ok (.invokevirtual index, 3)) (kk : xg X G cs μ I P L (pc + 3) (.int (kindL (fun j => I (P m 0) (14 + 17 * r + j)) n) :: rest)) : xg X G cs μ I P L pc (.int row :: .ref (xZ G + m) :: rest) :=
  r_callV hC (c_X5_kind X.2.1 km ks ls hr hr20 hl hn14) hG rfl rfl rfl hd_X5_kind hR (by rw [km]; decide) (xe_Model km) rfl rfl rfl hW hL hcs hdec (by rintro v μ' I' P' ⟨rfl, rfl, rfl, rfl⟩; exact kk)
abbrev rm_X5_mayCrank : Room := { frames := 1, cells := 0, slots := 0, locals := 22 }
theorem wl_X5_mayCrank_92 : Cond.constant RX5 92 (-1000001) ∈ wsX5_mayCrank := List.mem_of_getElem? (i := 1) (by decide +kernel)
theorem wl_X5_mayCrank_7 : Cond.fieldLink RX5 7 "HandBlindsModel" "s" "[I" ∈ wsX5_mayCrank := List.mem_of_getElem? (i := 2) (by decide +kernel)
theorem wi_X5_mayCrank_5 : ∀ w ∈ wsX50, w ∈ wsX5_mayCrank := fun _ h => List.mem_cons_of_mem _ (List.mem_append_right _ h)
theorem wl_X5_mayCrank_101 : Cond.constant RX5 101 (-1000002) ∈ wsX5_mayCrank := List.mem_of_getElem? (i := 3) (by decide +kernel)
theorem hd_X5_mayCrank : yX5_mayCrank.cls = RX5 ∧ yX5_mayCrank.cls ≠ "java/lang/invoke/MethodHandle" ∧ yX5_mayCrank.cls ≠ "java/lang/invoke/VarHandle" ∧ (parseMethodDescriptor yX5_mayCrank.desc).map (fun d => d.parameters.length) = some 2 := ⟨rfl, by decide +kernel, by decide +kernel, by decide +kernel⟩
set_option maxHeartbeats 4000000 in
set_option maxRecDepth 100000 in
theorem c_X5_mayCrank (l : Launch) {G : xG} {μ : xM} {I : xI} {P : xP} {m : Nat} {r v : Int32} (km : μ.2.1 m = 6) (ks : μ.2.1 (P m 0) = 7) (ls : μ.2.2 (P m 0) = 369) : Ct l yX5_mayCrank wsX5_mayCrank rm_X5_mayCrank G μ I P [.ref (xZ G + m), .int r, .int v] 0 0 (fun vv μ' I' P' => vv = some (.int (mcr r v (I (P m 0) 0))) ∧ μ' = μ ∧ I' = (I) ∧ P' = (P)) := by
  refine Ct.of (cc := cX5_mayCrank) (maxL := 3) (ret := (some .int)) [some (.ref (xZ G + m)), some (.int r), some (.int v)] (by decide) rfl rfl rfl (Nat.le_of_ble_eq_true rfl) ?_
  intro X hC hD h0 _
  refine r_iload_n (pc := 0) hC dX5_mayCrank_0 rfl ?_
  refine r_bipush (pc := 1) (v := -20) hC dX5_mayCrank_1 (by decide) ?_
  refine r_bipush (pc := 3) (v := 20) hC dX5_mayCrank_3 (by decide) ?_
  refine k_X5_in (pc := 5) hC gX5_mayCrank_X5_in ⟨Nat.le_of_ble_eq_true rfl, Nat.le_of_ble_eq_true rfl⟩  (Nat.le_of_ble_eq_true rfl) rfl ⟨Nat.zero_le _, Nat.zero_le _⟩ dX5_mayCrank_5 ?_
  refine r_if_eq (pc := 8) (tgt := 24) hC dX5_mayCrank_8 (by decide) (fun bq8 => ?_) (fun bq8 => ?_)
  · skip
    refine r_ldc (pc := 24) (v := -1000001) hC dX5_mayCrank_24 wl_X5_mayCrank_92 ?_
    refine r_goto (pc := 26) (tgt := 44) hC dX5_mayCrank_26 (by decide) ?_
    refine r_iret (pc := 44) hC hD rfl dX5_mayCrank_44 rfl ?_
    exact ⟨by simp_all [mcr], rfl, rfl, rfl⟩
  · skip
    refine r_iload_n (pc := 11) hC dX5_mayCrank_11 rfl ?_
    refine r_if_eq (pc := 12) (tgt := 24) hC dX5_mayCrank_12 (by decide) (fun bq12 => ?_) (fun bq12 => ?_)
    · skip
      refine r_ldc (pc := 24) (v := -1000001) hC dX5_mayCrank_24 wl_X5_mayCrank_92 ?_
      refine r_goto (pc := 26) (tgt := 44) hC dX5_mayCrank_26 (by decide) ?_
      refine r_iret (pc := 44) hC hD rfl dX5_mayCrank_44 rfl ?_
      exact ⟨by simp_all [mcr], rfl, rfl, rfl⟩
    · skip
      refine r_iload_n (pc := 15) hC dX5_mayCrank_15 rfl ?_
      refine r_iconst (pc := 16) (v := 1) hC dX5_mayCrank_16 (by decide) ?_
      refine r_iconst (pc := 17) (v := 3) hC dX5_mayCrank_17 (by decide) ?_
      refine k_X5_in (pc := 18) hC gX5_mayCrank_X5_in ⟨Nat.le_of_ble_eq_true rfl, Nat.le_of_ble_eq_true rfl⟩  (Nat.le_of_ble_eq_true rfl) rfl ⟨Nat.zero_le _, Nat.zero_le _⟩ dX5_mayCrank_18 ?_
      refine r_if_ne (pc := 21) (tgt := 29) hC dX5_mayCrank_21 (by decide) (fun bq21 => ?_) (fun bq21 => ?_)
      · skip
        refine r_aload_n (pc := 29) hC dX5_mayCrank_29 rfl ?_
        refine g_Model_s (pc := 30) hC wi_X5_mayCrank_5 wl_X5_mayCrank_7 (by assumption) (c2 := 7) (by assumption) (by decide) dX5_mayCrank_30 ?_
        refine r_iconst (pc := 33) (v := 0) hC dX5_mayCrank_33 (by decide) ?_
        refine r_iald (pc := 34) hC ks (xi_l (k := 0) ls (by decide) (by decide) (by decide)) dX5_mayCrank_34 ?_
        refine r_if_ne (pc := 35) (tgt := 43) hC dX5_mayCrank_35 (by decide) (fun bq35 => ?_) (fun bq35 => ?_)
        · skip
          refine r_iconst (pc := 43) (v := 0) hC dX5_mayCrank_43 (by decide) ?_
          refine r_iret (pc := 44) hC hD rfl dX5_mayCrank_44 rfl ?_
          exact ⟨by simp_all [mcr], rfl, rfl, rfl⟩
        · skip
          refine r_ldc (pc := 38) (v := -1000002) hC dX5_mayCrank_38 wl_X5_mayCrank_101 ?_
          refine r_goto (pc := 40) (tgt := 44) hC dX5_mayCrank_40 (by decide) ?_
          refine r_iret (pc := 44) hC hD rfl dX5_mayCrank_44 rfl ?_
          exact ⟨by simp_all [mcr], rfl, rfl, rfl⟩
      · skip
        refine r_ldc (pc := 24) (v := -1000001) hC dX5_mayCrank_24 wl_X5_mayCrank_92 ?_
        refine r_goto (pc := 26) (tgt := 44) hC dX5_mayCrank_26 (by decide) ?_
        refine r_iret (pc := 44) hC hD rfl dX5_mayCrank_44 rfl ?_
        exact ⟨by simp_all [mcr], rfl, rfl, rfl⟩
theorem k_X5_mayCrank {X : xF} {G : xG} {cs : Nat × Nat} {μ : xM} {I : xI} {P : xP} {L : List (Option Value)} {pc : Nat} {rest : List Value} {cc : ByteArray} {Ts : List Cond} {own : String} {nL : Nat} {R : Room} (hC : xC X G cc Ts own nL R) {index : Nat} (hG : GoodIn Ts (wsV own index RX5 yX5_mayCrank wsX5_mayCrank)) (hR : rm_X5_mayCrank.frames + 1 ≤ R.frames ∧ 8 + (3 + 11) + rm_X5_mayCrank.locals ≤ R.locals) {m : Nat} {r v : Int32} (km : μ.2.1 m = 6) (ks : μ.2.1 (P m 0) = 7) (ls : μ.2.2 (P m 0) = 369) (hW : (rest.map fun v => v.category).sum ≤ 8) (hL : L.length = nL) (hcs : cs.1 ≤ R.cells ∧ cs.2 ≤ R.slots) (hdec : decode cc pc = .ok (.invokevirtual index, 3)) (kk : xg X G cs μ I P L (pc + 3) (.int (mcr r v (I (P m 0) 0)) :: rest)) : xg X G cs μ I P L pc (.int v :: .int r :: .ref (xZ G + m) :: rest) :=
  r_callV hC (c_X5_mayCrank X.2.1 km ks ls) hG rfl rfl rfl hd_X5_mayCrank hR (by rw [km]; decide) (xe_Model km) rfl rfl rfl hW hL hcs hdec (by rintro v μ' I' P' ⟨rfl, rfl, rfl, rfl⟩; exact kk)
abbrev rm_X5_widest : Room := { frames := 2, cells := 0, slots := 0, locals := 45 }
theorem wl_X5_widest_7 : Cond.fieldLink RX5 7 "HandBlindsModel" "s" "[I" ∈ wsX5_widest := List.mem_of_getElem? (i := 2) (by decide +kernel)
theorem wi_X5_widest_5 : ∀ w ∈ wsX50, w ∈ wsX5_widest := fun _ h => List.mem_cons_of_mem _ (List.mem_append_right _ h)
theorem wl_X5_widest_100 : Cond.constant RX5 100 (-1000004) ∈ wsX5_widest := List.mem_of_getElem? (i := 1) (by decide +kernel)
theorem hd_X5_widest : yX5_widest.cls = RX5 ∧ yX5_widest.cls ≠ "java/lang/invoke/MethodHandle" ∧ yX5_widest.cls ≠ "java/lang/invoke/VarHandle" ∧ (parseMethodDescriptor yX5_widest.desc).map (fun d => d.parameters.length) = some 0 := ⟨rfl, by decide +kernel, by decide +kernel, by decide +kernel⟩
set_option maxHeartbeats 4000000 in
set_option maxRecDepth 100000 in
theorem c_X5_widest (l : Launch) {G : xG} {μ : xM} {I : xI} {P : xP} {m n : Nat} (km : μ.2.1 m = 6) (ks : μ.2.1 (P m 0) = 7) (ls : μ.2.2 (P m 0) = 369) (hn : I (P m 0) 0 = nI n) (hn20 : n ≤ 20) (hl : ∀ r, r < n → ∃ q, I (P m 0) (11 + 17 * r) = nI q ∧ q ≤ 14) : Ct l yX5_widest wsX5_widest rm_X5_widest G μ I P [.ref (xZ G + m)] 0 0 (fun vv μ' I' P' => vv = some (.int ((wid1 (sWid (I (P m 0))) n).1)) ∧ μ' = μ ∧ I' = (I) ∧ P' = (P)) := by
  refine Ct.of (cc := cX5_widest) (maxL := 4) (ret := (some .int)) [some (.ref (xZ G + m)), none, none, none] (by decide) rfl rfl rfl (Nat.le_of_ble_eq_true rfl) ?_
  intro X hC hD h0 _
  have loop : ∀ (q k : Nat), k + q = n → xg X G (0, 0) μ I P [some (.ref (xZ G + m)), some (.int (wid1 (sWid (I (P m 0))) k).1), some (.int (wid1 (sWid (I (P m 0))) k).2), some (.int (nI k))] 7 [] := by
    intro q
    induction q with
    | zero =>
      intro k hk
      have ek : k = n := by omega
      subst ek
      refine r_iload_n (pc := 7) hC dX5_widest_7 rfl ?_
      refine r_aload_n (pc := 8) hC dX5_widest_8 rfl ?_
      refine g_Model_s (pc := 9) hC wi_X5_widest_5 wl_X5_widest_7 (by assumption) (c2 := 7) (by assumption) (by decide) dX5_widest_9 ?_
      refine r_iconst (pc := 12) (v := 0) hC dX5_widest_12 (by decide) ?_
      refine r_iald (pc := 13) hC ks (xi_l (k := 0) ls (by decide) (by decide) (by decide)) dX5_widest_13 ?_
      refine r_icmp_ge (pc := 14) (tgt := 57) hC dX5_widest_14 (by decide) (fun bq14 => ?_) (fun bq14 => ?_)
      · skip
        refine r_iload_n (pc := 57) hC dX5_widest_57 rfl ?_
        refine r_iret (pc := 58) hC hD rfl dX5_widest_58 rfl ?_
        exact ⟨rfl, rfl, rfl, rfl⟩
      · skip
        rw [hn] at bq14; exact absurd (nI_le (by omega) (by omega)) bq14
    | succ q ih =>
      intro k hk
      obtain ⟨qk, hlk, hk14⟩ := hl k (by omega)
      have hsw : sWid (I (P m 0)) k = wsum (fun j => I (P m 0) (14 + 17 * k + j)) qk := by rw [sWid, sLen_of hlk (by omega)]; rfl
      refine r_iload_n (pc := 7) hC dX5_widest_7 rfl ?_
      refine r_aload_n (pc := 8) hC dX5_widest_8 rfl ?_
      refine g_Model_s (pc := 9) hC wi_X5_widest_5 wl_X5_widest_7 (by assumption) (c2 := 7) (by assumption) (by decide) dX5_widest_9 ?_
      refine r_iconst (pc := 12) (v := 0) hC dX5_widest_12 (by decide) ?_
      refine r_iald (pc := 13) hC ks (xi_l (k := 0) ls (by decide) (by decide) (by decide)) dX5_widest_13 ?_
      refine r_icmp_ge (pc := 14) (tgt := 57) hC dX5_widest_14 (by decide) (fun bq14 => ?_) (fun bq14 => ?_)
      · skip
        rw [hn] at bq14; exact absurd bq14 (nI_ge (by omega) (by omega))
      · skip
        refine r_aload_n (pc := 17) hC dX5_widest_17 rfl ?_
        refine r_iload_n (pc := 18) hC dX5_widest_18 rfl ?_
        refine k_X5_width (pc := 19) hC gX5_widest_X5_width ⟨Nat.le_of_ble_eq_true rfl, Nat.le_of_ble_eq_true rfl⟩ km ks ls rfl (by omega) hlk hk14 (Nat.le_of_ble_eq_true rfl) rfl ⟨Nat.zero_le _, Nat.zero_le _⟩ dX5_widest_19 ?_
        refine r_iload_n (pc := 22) hC dX5_widest_22 rfl ?_
        refine r_icmp_le (pc := 23) (tgt := 30) hC dX5_widest_23 (by decide) (fun bq23 => ?_) (fun bq23 => ?_)
        · skip
          refine r_iload_n (pc := 30) hC dX5_widest_30 rfl ?_
          refine r_istore_n (pc := 31) (L' := [_, _, _, _]) hC dX5_widest_31 rfl (Nat.le_of_ble_eq_true rfl) rfl ?_
          refine r_aload_n (pc := 32) hC dX5_widest_32 rfl ?_
          refine r_iload_n (pc := 33) hC dX5_widest_33 rfl ?_
          refine k_X5_width (pc := 34) hC gX5_widest_X5_width ⟨Nat.le_of_ble_eq_true rfl, Nat.le_of_ble_eq_true rfl⟩ km ks ls rfl (by omega) hlk hk14 (Nat.le_of_ble_eq_true rfl) rfl ⟨Nat.zero_le _, Nat.zero_le _⟩ dX5_widest_34 ?_
          refine r_iload_n (pc := 37) hC dX5_widest_37 rfl ?_
          refine r_icmp_le (pc := 38) (tgt := 49) hC dX5_widest_38 (by decide) (fun bq38 => ?_) (fun bq38 => ?_)
          · skip
            refine r_iload_n (pc := 49) hC dX5_widest_49 rfl ?_
            refine r_istore_n (pc := 50) (L' := [_, _, _, _]) hC dX5_widest_50 rfl (Nat.le_of_ble_eq_true rfl) rfl ?_
            refine r_iinc (pc := 51) (v := 1) (L' := [_, _, _, _]) hC dX5_widest_51 rfl (by decide) rfl rfl ?_
            refine r_goto (pc := 54) (tgt := 7) hC dX5_widest_54 (by decide) ?_
            have z := ih (k + 1) (by omega)
            rw [nI_succ, wid1, hsw, if_pos bq23] at z
            exact z
          · skip
            refine r_aload_n (pc := 41) hC dX5_widest_41 rfl ?_
            refine r_iload_n (pc := 42) hC dX5_widest_42 rfl ?_
            refine k_X5_width (pc := 43) hC gX5_widest_X5_width ⟨Nat.le_of_ble_eq_true rfl, Nat.le_of_ble_eq_true rfl⟩ km ks ls rfl (by omega) hlk hk14 (Nat.le_of_ble_eq_true rfl) rfl ⟨Nat.zero_le _, Nat.zero_le _⟩ dX5_widest_43 ?_
            refine r_goto (pc := 46) (tgt := 50) hC dX5_widest_46 (by decide) ?_
            refine r_istore_n (pc := 50) (L' := [_, _, _, _]) hC dX5_widest_50 rfl (Nat.le_of_ble_eq_true rfl) rfl ?_
            refine r_iinc (pc := 51) (v := 1) (L' := [_, _, _, _]) hC dX5_widest_51 rfl (by decide) rfl rfl ?_
            refine r_goto (pc := 54) (tgt := 7) hC dX5_widest_54 (by decide) ?_
            exact absurd bq23 bq38
        · skip
          refine r_iload_n (pc := 26) hC dX5_widest_26 rfl ?_
          refine r_goto (pc := 27) (tgt := 31) hC dX5_widest_27 (by decide) ?_
          refine r_istore_n (pc := 31) (L' := [_, _, _, _]) hC dX5_widest_31 rfl (Nat.le_of_ble_eq_true rfl) rfl ?_
          refine r_aload_n (pc := 32) hC dX5_widest_32 rfl ?_
          refine r_iload_n (pc := 33) hC dX5_widest_33 rfl ?_
          refine k_X5_width (pc := 34) hC gX5_widest_X5_width ⟨Nat.le_of_ble_eq_true rfl, Nat.le_of_ble_eq_true rfl⟩ km ks ls rfl (by omega) hlk hk14 (Nat.le_of_ble_eq_true rfl) rfl ⟨Nat.zero_le _, Nat.zero_le _⟩ dX5_widest_34 ?_
          refine r_iload_n (pc := 37) hC dX5_widest_37 rfl ?_
          refine r_icmp_le (pc := 38) (tgt := 49) hC dX5_widest_38 (by decide) (fun bq38 => ?_) (fun bq38 => ?_)
          · skip
            refine r_iload_n (pc := 49) hC dX5_widest_49 rfl ?_
            refine r_istore_n (pc := 50) (L' := [_, _, _, _]) hC dX5_widest_50 rfl (Nat.le_of_ble_eq_true rfl) rfl ?_
            refine r_iinc (pc := 51) (v := 1) (L' := [_, _, _, _]) hC dX5_widest_51 rfl (by decide) rfl rfl ?_
            refine r_goto (pc := 54) (tgt := 7) hC dX5_widest_54 (by decide) ?_
            exact absurd bq38 bq23
          · skip
            refine r_aload_n (pc := 41) hC dX5_widest_41 rfl ?_
            refine r_iload_n (pc := 42) hC dX5_widest_42 rfl ?_
            refine k_X5_width (pc := 43) hC gX5_widest_X5_width ⟨Nat.le_of_ble_eq_true rfl, Nat.le_of_ble_eq_true rfl⟩ km ks ls rfl (by omega) hlk hk14 (Nat.le_of_ble_eq_true rfl) rfl ⟨Nat.zero_le _, Nat.zero_le _⟩ dX5_widest_43 ?_
            refine r_goto (pc := 46) (tgt := 50) hC dX5_widest_46 (by decide) ?_
            refine r_istore_n (pc := 50) (L' := [_, _, _, _]) hC dX5_widest_50 rfl (Nat.le_of_ble_eq_true rfl) rfl ?_
            refine r_iinc (pc := 51) (v := 1) (L' := [_, _, _, _]) hC dX5_widest_51 rfl (by decide) rfl rfl ?_
            refine r_goto (pc := 54) (tgt := 7) hC dX5_widest_54 (by decide) ?_
            have z := ih (k + 1) (by omega)
            rw [nI_succ, wid1, hsw, if_neg bq23] at z
            exact z
  refine r_ldc (pc := 0) (v := -1000004) hC dX5_widest_0 wl_X5_widest_100 ?_
  refine r_istore_n (pc := 2) (L' := [_, _, _, _]) hC dX5_widest_2 rfl (Nat.le_of_ble_eq_true rfl) rfl ?_
  refine r_iconst (pc := 3) (v := 0) hC dX5_widest_3 (by decide) ?_
  refine r_istore_n (pc := 4) (L' := [_, _, _, _]) hC dX5_widest_4 rfl (Nat.le_of_ble_eq_true rfl) rfl ?_
  refine r_iconst (pc := 5) (v := 0) hC dX5_widest_5 (by decide) ?_
  refine r_istore_n (pc := 6) (L' := [_, _, _, _]) hC dX5_widest_6 rfl (Nat.le_of_ble_eq_true rfl) rfl ?_
  exact loop n 0 (by omega)
theorem k_X5_widest {X : xF} {G : xG} {cs : Nat × Nat} {μ : xM} {I : xI} {P : xP} {L : List (Option Value)} {pc : Nat} {rest : List Value} {cc : ByteArray} {Ts : List Cond} {own : String} {nL : Nat} {R : Room} (hC : xC X G cc Ts own nL R) {index : Nat} (hG : GoodIn Ts (wsV own index RX5 yX5_widest wsX5_widest)) (hR : rm_X5_widest.frames + 1 ≤ R.frames ∧ 8 + (4 + 11) + rm_X5_widest.locals ≤ R.locals) {m n : Nat} (km : μ.2.1 m = 6) (ks : μ.2.1 (P m 0) = 7) (ls : μ.2.2 (P m 0) = 369) (hn : I (P m 0) 0 = nI n) (hn20 : n ≤ 20) (hl : ∀ r, r < n → ∃ q, I (P m 0) (11 + 17 * r) = nI q ∧ q ≤ 14) (hW : (rest.map fun v => v.category).sum ≤ 8) (hL : L.length = nL) (hcs : cs.1 ≤ R.cells ∧ cs.2 ≤ R.slots) (hdec : decode cc pc = .ok (.invokevirtual index, 3)) (kk : xg X G cs μ I P L (pc + 3) (.int ((wid1 (sWid (I (P m 0))) n).1) :: rest)) : xg X G cs μ I P L pc (.ref (xZ G + m) :: rest) :=
  r_callV hC (c_X5_widest X.2.1 km ks ls hn hn20 hl) hG rfl rfl rfl hd_X5_widest hR (by rw [km]; decide) (xe_Model km) rfl rfl rfl hW hL hcs hdec (by rintro v μ' I' P' ⟨rfl, rfl, rfl, rfl⟩; exact kk)
