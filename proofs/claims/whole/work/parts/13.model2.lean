abbrev rm_X5_copies : Room := { frames := 0, cells := 0, slots := 0, locals := 0 }
theorem hd_X5_copies : yX5_copies.cls = RX5 ∧ yX5_copies.cls ≠ "java/lang/invoke/MethodHandle" ∧ yX5_copies.cls ≠ "java/lang/invoke/VarHandle" ∧ (parseMethodDescriptor yX5_copies.desc).map (fun d => d.parameters.length) = some 2 := ⟨rfl, by decide +kernel, by decide +kernel, by decide +kernel⟩
set_option maxHeartbeats 4000000 in
set_option maxRecDepth 100000 in
theorem c_X5_copies (l : Launch) {G : xG} {μ : xM} {I : xI} {P : xP} {a b : Nat} (ka : μ.2.1 a = 7) (la : μ.2.2 a = 369) (kb : μ.2.1 b = 7) (lb : μ.2.2 b = 369) (hab : a ≠ b) : Ct l yX5_copies wsX5_copies rm_X5_copies G μ I P [.ref (xZ G + a), .ref (xZ G + b)] 0 0 (fun vv μ' I' P' => vv = none ∧ μ' = μ ∧ I' = (xcp I a b 369) ∧ P' = (P)) := by
  refine Ct.of (cc := cX5_copies) (maxL := 3) (ret := none) [some (.ref (xZ G + a)), some (.ref (xZ G + b)), none] (by decide) rfl rfl rfl (Nat.le_of_ble_eq_true rfl) ?_
  intro X hC hD h0 _
  have loop : ∀ (q k : Nat), k + q = 369 → xg X G (0, 0) μ (xcp I a b k) P [some (.ref (xZ G + a)), some (.ref (xZ G + b)), some (.int (nI k))] 2 [] := by
    intro q
    induction q with
    | zero =>
      intro k hk
      have ek : k = 369 := by omega
      subst ek
      refine r_iload_n (pc := 2) hC dX5_copies_2 rfl ?_
      refine r_sipush (pc := 3) (v := 369) hC dX5_copies_3 (by decide) ?_
      refine r_icmp_ge (pc := 6) (tgt := 21) hC dX5_copies_6 (by decide) (fun bq6 => ?_) (fun bq6 => ?_)
      · skip
        refine r_vret (pc := 21) hC hD dX5_copies_21 rfl ?_
        exact ⟨rfl, rfl, rfl, rfl⟩
      · skip
        exact absurd (nI_le (a := 369) (b := 369) (by omega) (by decide)) bq6
    | succ q ih =>
      intro k hk
      refine r_iload_n (pc := 2) hC dX5_copies_2 rfl ?_
      refine r_sipush (pc := 3) (v := 369) hC dX5_copies_3 (by decide) ?_
      refine r_icmp_ge (pc := 6) (tgt := 21) hC dX5_copies_6 (by decide) (fun bq6 => ?_) (fun bq6 => ?_)
      · skip
        exact absurd bq6 (nI_ge (b := 369) (by omega) (by decide))
      · skip
        refine r_aload_n (pc := 9) hC dX5_copies_9 rfl ?_
        refine r_iload_n (pc := 10) hC dX5_copies_10 rfl ?_
        refine r_aload_n (pc := 11) hC dX5_copies_11 rfl ?_
        refine r_iload_n (pc := 12) hC dX5_copies_12 rfl ?_
        refine r_iald (pc := 13) hC ka (xi_n (by rw [la]; omega) (by rw [la]; decide)) dX5_copies_13 ?_
        refine r_iast (pc := 14) hC kb (xi_n (by rw [lb]; omega) (by rw [lb]; decide)) dX5_copies_14 ?_
        refine r_iinc (pc := 15) (v := 1) (L' := [_, _, _]) hC dX5_copies_15 rfl (by decide) rfl rfl ?_
        refine r_goto (pc := 18) (tgt := 2) hC dX5_copies_18 (by decide) ?_
        rw [xcp_succ hab]; have z := ih (k + 1) (by omega); rw [nI_succ] at z; exact z
  refine r_iconst (pc := 0) (v := 0) hC dX5_copies_0 (by decide) ?_
  refine r_istore_n (pc := 1) (L' := [_, _, _]) hC dX5_copies_1 rfl (Nat.le_of_ble_eq_true rfl) rfl ?_
  have z := loop 369 0 rfl; rw [xcp_0] at z; exact z
theorem k_X5_copies {X : xF} {G : xG} {cs : Nat × Nat} {μ : xM} {I : xI} {P : xP} {L : List (Option Value)} {pc : Nat} {rest : List Value} {cc : ByteArray} {Ts : List Cond} {own : String} {nL : Nat} {R : Room} (hC : xC X G cc Ts own nL R) {index : Nat} (hG : GoodIn Ts (va_wsS own index yX5_copies wsX5_copies)) (hR : rm_X5_copies.frames + 1 ≤ R.frames ∧ 8 + (3 + 11) + rm_X5_copies.locals ≤ R.locals) {a b : Nat} (ka : μ.2.1 a = 7) (la : μ.2.2 a = 369) (kb : μ.2.1 b = 7) (lb : μ.2.2 b = 369) (hab : a ≠ b) (hW : (rest.map fun v => v.category).sum ≤ 8) (hL : L.length = nL) (hcs : cs.1 ≤ R.cells ∧ cs.2 ≤ R.slots) (hdec : decode cc pc = .ok (.invokestatic index, 3)) (kk : xg X G cs μ (xcp I a b 369) P L (pc + 3) rest) : xg X G cs μ I P L pc (.ref (xZ G + b) :: .ref (xZ G + a) :: rest) :=
  r_callS hC (c_X5_copies X.2.1 ka la kb lb hab) hG rfl rfl rfl hd_X5_copies.2 hR rfl rfl hW hL hcs hdec (by rintro v μ' I' P' ⟨rfl, rfl, rfl, rfl⟩; exact kk)
abbrev rm_X5_changes : Room := { frames := 0, cells := 0, slots := 0, locals := 0 }
theorem wl_X5_changes_22 : Cond.fieldLink RX5 22 "HandBlindsModel" "pasts" "I" ∈ wsX5_changes := List.mem_of_getElem? (i := 1) (by decide +kernel)
theorem wi_X5_changes_5 : ∀ w ∈ wsX50, w ∈ wsX5_changes := fun _ h => List.mem_cons_of_mem _ (List.mem_append_right _ h)
theorem wl_X5_changes_13 : Cond.fieldLink RX5 13 "HandBlindsModel" "past" "[I" ∈ wsX5_changes := List.mem_of_getElem? (i := 2) (by decide +kernel)
theorem wl_X5_changes_7 : Cond.fieldLink RX5 7 "HandBlindsModel" "s" "[I" ∈ wsX5_changes := List.mem_of_getElem? (i := 3) (by decide +kernel)
theorem hd_X5_changes : yX5_changes.cls = RX5 ∧ yX5_changes.cls ≠ "java/lang/invoke/MethodHandle" ∧ yX5_changes.cls ≠ "java/lang/invoke/VarHandle" ∧ (parseMethodDescriptor yX5_changes.desc).map (fun d => d.parameters.length) = some 0 := ⟨rfl, by decide +kernel, by decide +kernel, by decide +kernel⟩
set_option maxHeartbeats 4000000 in
set_option maxRecDepth 100000 in
theorem c_X5_changes (l : Launch) {G : xG} {μ : xM} {I : xI} {P : xP} {m h : Nat} (km : μ.2.1 m = 6) (ks : μ.2.1 (P m 0) = 7) (ls : μ.2.2 (P m 0) = 369) (kp : μ.2.1 (P m 1) = 7) (lp : μ.2.2 (P m 1) = 1476) (hsp : P m 0 ≠ P m 1) (hh : I m 3 = nI h) (hh4 : h ≤ 4) : Ct l yX5_changes wsX5_changes rm_X5_changes G μ I P [.ref (xZ G + m)] 0 0 (fun vv μ' I' P' => vv = none ∧ μ' = μ ∧ I' = (xchg m (P m 0) (P m 1) h I) ∧ P' = (P)) := by
  have hmp : m ≠ P m 1 := fun e => by rw [← e, km] at kp; cases kp
  have hms : m ≠ P m 0 := fun e => by rw [← e, km] at ks; cases ks
  refine Ct.of (cc := cX5_changes) (maxL := 2) (ret := none) [some (.ref (xZ G + m)), none] (by decide) rfl rfl rfl (Nat.le_of_ble_eq_true rfl) ?_
  intro X hC hD h0 _
  have loop2 : ∀ (J : xI) (hp : Nat), J m 3 = nI hp → hp ≤ 3 → xu (xput (P m 0) (P m 1) (369 * hp) 369 J) m 3 (nI (hp + 1)) = xchg m (P m 0) (P m 1) h I → ∀ (q k : Nat), k + q = 369 → xg X G (0, 0) μ (xput (P m 0) (P m 1) (369 * hp) k J) P [some (.ref (xZ G + m)), some (.int (nI k))] 51 [] := by
    intro J hp hJ hp3 hfin
    intro q
    induction q with
    | zero =>
      intro k hk
      have e3 : ∀ j, xput (P m 0) (P m 1) (369 * hp) j J m 3 = nI hp := fun j => by simp [xput, hmp, hJ]
      have ek : k = 369 := by omega
      subst ek
      refine r_iload_n (pc := 51) hC dX5_changes_51 rfl ?_
      refine r_sipush (pc := 52) (v := 369) hC dX5_changes_52 (by decide) ?_
      refine r_icmp_ge (pc := 55) (tgt := 85) hC dX5_changes_55 (by decide) (fun bq55 => ?_) (fun bq55 => ?_)
      · skip
        refine r_aload_n (pc := 85) hC dX5_changes_85 rfl ?_
        refine r_dup (pc := 86) hC dX5_changes_86 rfl ?_
        refine g_Model_pasts (pc := 87) hC wi_X5_changes_5 wl_X5_changes_22 (by assumption) dX5_changes_87 ?_
        refine r_iconst (pc := 90) (v := 1) hC dX5_changes_90 (by decide) ?_
        refine r_iadd (pc := 91) hC dX5_changes_91 ?_
        refine p_Model_pasts (pc := 92) hC wi_X5_changes_5 wl_X5_changes_22 (by assumption) dX5_changes_92 ?_
        refine r_vret (pc := 95) hC hD dX5_changes_95 rfl ?_
        rw [e3, nI_1]; exact ⟨rfl, rfl, hfin, rfl⟩
      · skip
        exact absurd (nI_le (a := 369) (b := 369) (by omega) (by decide)) bq55
    | succ q ih =>
      intro k hk
      have e3 : ∀ j, xput (P m 0) (P m 1) (369 * hp) j J m 3 = nI hp := fun j => by simp [xput, hmp, hJ]
      refine r_iload_n (pc := 51) hC dX5_changes_51 rfl ?_
      refine r_sipush (pc := 52) (v := 369) hC dX5_changes_52 (by decide) ?_
      refine r_icmp_ge (pc := 55) (tgt := 85) hC dX5_changes_55 (by decide) (fun bq55 => ?_) (fun bq55 => ?_)
      · skip
        exact absurd bq55 (nI_ge (b := 369) (by omega) (by decide))
      · skip
        refine r_aload_n (pc := 58) hC dX5_changes_58 rfl ?_
        refine g_Model_past (pc := 59) hC wi_X5_changes_5 wl_X5_changes_13 (by assumption) (c2 := 7) (by assumption) (by decide) dX5_changes_59 ?_
        refine r_sipush (pc := 62) (v := 369) hC dX5_changes_62 (by decide) ?_
        refine r_aload_n (pc := 65) hC dX5_changes_65 rfl ?_
        refine g_Model_pasts (pc := 66) hC wi_X5_changes_5 wl_X5_changes_22 (by assumption) dX5_changes_66 ?_
        refine r_imul (pc := 69) hC dX5_changes_69 ?_
        refine r_iload_n (pc := 70) hC dX5_changes_70 rfl ?_
        refine r_iadd (pc := 71) hC dX5_changes_71 ?_
        refine r_aload_n (pc := 72) hC dX5_changes_72 rfl ?_
        refine g_Model_s (pc := 73) hC wi_X5_changes_5 wl_X5_changes_7 (by assumption) (c2 := 7) (by assumption) (by decide) dX5_changes_73 ?_
        refine r_iload_n (pc := 76) hC dX5_changes_76 rfl ?_
        refine r_iald (pc := 77) hC ks (xi_n (by rw [ls]; omega) (by rw [ls]; decide)) dX5_changes_77 ?_
        refine r_iast (pc := 78) hC kp (xi_e (k := 369 * hp + k) (by rw [e3]; simp only [xlit, nI_add, pk_mul]) lp (by omega) (by decide)) dX5_changes_78 ?_
        refine r_iinc (pc := 79) (v := 1) (L' := [_, _]) hC dX5_changes_79 rfl (by decide) rfl rfl ?_
        refine r_goto (pc := 82) (tgt := 51) hC dX5_changes_82 (by decide) ?_
        rw [xput_succ hsp]; have z := ih (k + 1) (by omega); rw [nI_succ] at z; exact z
  have loop : ∀ (h4 : h = 4), ∀ (q k : Nat), k + q = 1107 → xg X G (0, 0) μ (xshf (P m 1) k I) P [some (.ref (xZ G + m)), some (.int (nI k))] 10 [] := by
    intro h4
    intro q
    induction q with
    | zero =>
      intro k hk
      have ek : k = 1107 := by omega
      subst ek
      refine r_iload_n (pc := 10) hC dX5_changes_10 rfl ?_
      refine r_sipush (pc := 11) (v := 1107) hC dX5_changes_11 (by decide) ?_
      refine r_icmp_ge (pc := 14) (tgt := 39) hC dX5_changes_14 (by decide) (fun bq14 => ?_) (fun bq14 => ?_)
      · skip
        refine r_aload_n (pc := 39) hC dX5_changes_39 rfl ?_
        refine r_dup (pc := 40) hC dX5_changes_40 rfl ?_
        refine g_Model_pasts (pc := 41) hC wi_X5_changes_5 wl_X5_changes_22 (by assumption) dX5_changes_41 ?_
        refine r_iconst (pc := 44) (v := 1) hC dX5_changes_44 (by decide) ?_
        refine r_isub (pc := 45) hC dX5_changes_45 ?_
        refine p_Model_pasts (pc := 46) hC wi_X5_changes_5 wl_X5_changes_22 (by assumption) dX5_changes_46 ?_
        refine r_iconst (pc := 49) (v := 0) hC dX5_changes_49 (by decide) ?_
        refine r_istore_n (pc := 50) (L' := [_, _]) hC dX5_changes_50 rfl (Nat.le_of_ble_eq_true rfl) rfl ?_
        have e9 : xshf (P m 1) 1107 I m 3 - 1 = nI 3 := by
          simp only [xshf]; rw [if_neg (fun w => hmp w.1), hh, h4]; rfl
        rw [e9]
        have z := loop2 (xu (xshf (P m 1) 1107 I) m 3 (nI 3)) 3 xu_at (by omega) (by simp [xchg, xph, h4]) 369 0 rfl
        rw [xput_0] at z; exact z
      · skip
        exact absurd (nI_le (a := 1107) (b := 1107) (by omega) (by decide)) bq14
    | succ q ih =>
      intro k hk
      refine r_iload_n (pc := 10) hC dX5_changes_10 rfl ?_
      refine r_sipush (pc := 11) (v := 1107) hC dX5_changes_11 (by decide) ?_
      refine r_icmp_ge (pc := 14) (tgt := 39) hC dX5_changes_14 (by decide) (fun bq14 => ?_) (fun bq14 => ?_)
      · skip
        exact absurd bq14 (nI_ge (b := 1107) (by omega) (by decide))
      · skip
        refine r_aload_n (pc := 17) hC dX5_changes_17 rfl ?_
        refine g_Model_past (pc := 18) hC wi_X5_changes_5 wl_X5_changes_13 (by assumption) (c2 := 7) (by assumption) (by decide) dX5_changes_18 ?_
        refine r_iload_n (pc := 21) hC dX5_changes_21 rfl ?_
        refine r_aload_n (pc := 22) hC dX5_changes_22 rfl ?_
        refine g_Model_past (pc := 23) hC wi_X5_changes_5 wl_X5_changes_13 (by assumption) (c2 := 7) (by assumption) (by decide) dX5_changes_23 ?_
        refine r_iload_n (pc := 26) hC dX5_changes_26 rfl ?_
        refine r_sipush (pc := 27) (v := 369) hC dX5_changes_27 (by decide) ?_
        refine r_iadd (pc := 30) hC dX5_changes_30 ?_
        refine r_iald (pc := 31) hC kp (xi_e (k := k + 369) (by simp only [xlit, nI_add]) lp (by omega) (by decide)) dX5_changes_31 ?_
        refine r_iast (pc := 32) hC kp (xi_n (by rw [lp]; omega) (by rw [lp]; decide)) dX5_changes_32 ?_
        refine r_iinc (pc := 33) (v := 1) (L' := [_, _]) hC dX5_changes_33 rfl (by decide) rfl rfl ?_
        refine r_goto (pc := 36) (tgt := 10) hC dX5_changes_36 (by decide) ?_
        rw [xshf_succ]; have z := ih (k + 1) (by omega); rw [nI_succ] at z; exact z
  refine r_aload_n (pc := 0) hC dX5_changes_0 rfl ?_
  refine g_Model_pasts (pc := 1) hC wi_X5_changes_5 wl_X5_changes_22 (by assumption) dX5_changes_1 ?_
  refine r_iconst (pc := 4) (v := 4) hC dX5_changes_4 (by decide) ?_
  refine r_icmp_ne (pc := 5) (tgt := 49) hC dX5_changes_5 (by decide) (fun bq5 => ?_) (fun bq5 => ?_)
  · skip
    refine r_iconst (pc := 49) (v := 0) hC dX5_changes_49 (by decide) ?_
    refine r_istore_n (pc := 50) (L' := [_, _]) hC dX5_changes_50 rfl (Nat.le_of_ble_eq_true rfl) rfl ?_
    have hn4 : h ≠ 4 := fun e => bq5 (by rw [hh, e]; rfl)
    have z := loop2 I h hh (by omega) (by simp [xchg, xph, hn4]) 369 0 rfl
    rw [xput_0] at z; exact z
  · skip
    refine r_iconst (pc := 8) (v := 0) hC dX5_changes_8 (by decide) ?_
    refine r_istore_n (pc := 9) (L' := [_, _]) hC dX5_changes_9 rfl (Nat.le_of_ble_eq_true rfl) rfl ?_
    have z := loop ((nI_eq (b := 4) (by omega) (by decide)).mp (hh.symm.trans bq5)) 1107 0 rfl; rw [xshf_0] at z; exact z
theorem k_X5_changes {X : xF} {G : xG} {cs : Nat × Nat} {μ : xM} {I : xI} {P : xP} {L : List (Option Value)} {pc : Nat} {rest : List Value} {cc : ByteArray} {Ts : List Cond} {own : String} {nL : Nat} {R : Room} (hC : xC X G cc Ts own nL R) {index : Nat} (hG : GoodIn Ts (wsV own index RX5 yX5_changes wsX5_changes)) (hR : rm_X5_changes.frames + 1 ≤ R.frames ∧ 8 + (2 + 11) + rm_X5_changes.locals ≤ R.locals) {m h : Nat} (km : μ.2.1 m = 6) (ks : μ.2.1 (P m 0) = 7) (ls : μ.2.2 (P m 0) = 369) (kp : μ.2.1 (P m 1) = 7) (lp : μ.2.2 (P m 1) = 1476) (hsp : P m 0 ≠ P m 1) (hh : I m 3 = nI h) (hh4 : h ≤ 4) (hW : (rest.map fun v => v.category).sum ≤ 8) (hL : L.length = nL) (hcs : cs.1 ≤ R.cells ∧ cs.2 ≤ R.slots) (hdec : decode cc pc = .ok (.invokevirtual index, 3)) (kk : xg X G cs μ (xchg m (P m 0) (P m 1) h I) P L (pc + 3) rest) : xg X G cs μ I P L pc (.ref (xZ G + m) :: rest) :=
  r_callV hC (c_X5_changes X.2.1 km ks ls kp lp hsp hh hh4) hG rfl rfl rfl hd_X5_changes hR (by rw [km]; decide) (xe_Model km) rfl rfl rfl hW hL hcs hdec (by rintro v μ' I' P' ⟨rfl, rfl, rfl, rfl⟩; exact kk)
