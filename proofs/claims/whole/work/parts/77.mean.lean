/-- a contract of a method of a class that has entries of its own, but none for this method -/
theorem Ct.ofF {l : Launch} {y : MethodName} {ws ws' : List Cond} {rm : Room} {G : xG} {μ : xM} {I : xI} {P : xP} {av : List Value} {mc ms : Nat} {Ps : xPost} {cc : ByteArray} {maxL : Nat} {ret : Option FieldType} (L0 : List (Option Value)) (hy : plainFor y = true) (hw : ws = Cond.code y cc maxL ret :: ws') (hL : xL 0 L0 = lv_args 0 av) (hn : L0.length = maxL) (hlen : (lg_sl av).length ≤ maxL)
    (body : ∀ X : xF, xC X G cc ws y.cls maxL rm → xD X G y.name ret mc ms Ps → xok μ I → (mc = 0 ∨ X.2.2.2.2.1.heap.size = xZ G + 1 + μ.1) → xg X G (0, 0) μ I P L0 0 []) : Ct l y ws rm G μ I P av mc ms Ps := by
  refine va_MetF (cc := cc) (maxL := maxL) (ret := ret) hy hw ?_
  intro p e s m args below meth c s₁ B hml hv
  obtain ⟨rfl, ho, hsz, hP, hV⟩ := hv
  have hts := atoms_spec (ws := ws) B.pre
  have hl := lv_entry av (n := maxL) hlen
  rw [lg_entry_eq]
  generalize (lg_sl av ++ List.replicate (maxL - (lg_sl av).length) Slot.unset).toArray = ls at hl ⊢
  have hl : lv_has ls L0.length (xL 0 L0) := by rw [hL, hn]; exact hl
  exact body (p, l, e, rm, s, m, av.toArray, below, meth, c, MQ below (xQ G Ps) av.toArray s mc ms (xA G)) ⟨B.exec, B.bytes, hml, findClass_of_methodNamed B.named, hts, hV, rfl⟩ ⟨B.returns, B.notSynchronized, (name_of_methodNamed B.named B.method).1, rfl⟩ ho hsz s.heap [] ls ho hP va_S.rf hl
theorem r_frib {X : xF} {G : xG} {cs : Nat × Nat} {μ : xM} {I : xI} {P : xP} {L : List (Option Value)} {pc : Nat} {st : List Value} {cc : ByteArray} {Ts : List Cond} {own : String} {nL : Nat} {R : Room} (hC : xC X G cc Ts own nL R) {index : Nat} {b : UInt32} (hlink : Cond.methodLink own index ⟨"java/lang/Float", "floatToRawIntBits", "(F)I"⟩ ∈ Ts) (hnat : Cond.native ⟨"java/lang/Float", "floatToRawIntBits", "(F)I"⟩ ∈ Ts) (hstat : Cond.static ⟨"java/lang/Float", "floatToRawIntBits", "(F)I"⟩ ∈ Ts) (hini : Cond.initialized "java/lang/Float" ∈ Ts) (hR : 1 ≤ R.frames ∧ 26 ≤ R.locals) (hW : (st.map fun v => v.category).sum ≤ 8) (hL : L.length = nL) (d : decode cc pc = .ok (.invokestatic index, 3)) (kk : xg X G cs μ I P L (pc + 3) (.int b.toInt32 :: st)) : xg X G cs μ I P L (pc) (.float b :: st) := by
  intro H locs ls h0 hP hS hl
  obtain ⟨hx, hb, hml, hown, hts, hV, hRR⟩ := hC
  exact vn_f2i hx hb (by rw [hml, hl.1, hL]) hown (hts _ hlink) (hts _ hnat) (hts _ hstat) (hts _ hini) (by rw [hRR]; exact hR.1) (by rw [hRR]; omega) d (kk H locs ls h0 hP hS hl)
abbrev rm_Jxf58ca_isNaN_12338 : Room := { frames := 0, cells := 0, slots := 0, locals := 0 }
theorem hd_Jxf58ca_isNaN_12338 : yJxf58ca_isNaN_12338.cls = RJxf58ca ∧ yJxf58ca_isNaN_12338.cls ≠ "java/lang/invoke/MethodHandle" ∧ yJxf58ca_isNaN_12338.cls ≠ "java/lang/invoke/VarHandle" ∧ (parseMethodDescriptor yJxf58ca_isNaN_12338.desc).map (fun d => d.parameters.length) = some 1 := ⟨rfl, by decide +kernel, by decide +kernel, by decide +kernel⟩
set_option maxHeartbeats 4000000 in
set_option maxRecDepth 100000 in
theorem c_Jxf58ca_isNaN_12338 (l : Launch) {G : xG} {μ : xM} {I : xI} {P : xP} {b : UInt32} (hnn : Op.cmpValue (FP.fcmp b b) .l = 0) : Ct l yJxf58ca_isNaN_12338 wsJxf58ca_isNaN_12338 rm_Jxf58ca_isNaN_12338 G μ I P [.float b] 0 0 (fun vv μ' I' P' => vv = some (.int (0)) ∧ μ' = μ ∧ I' = (I) ∧ P' = (P)) := by
  refine Ct.ofF (cc := cJxf58ca_isNaN_12338) (maxL := 1) (ret := (some .boolean)) [some (.float b)] (by decide +kernel) rfl rfl rfl (Nat.le_of_ble_eq_true rfl) ?_
  intro X hC hD h0 _
  refine r_fload_n (pc := 0) hC dJxf58ca_isNaN_12338_0 rfl ?_
  refine r_fload_n (pc := 1) hC dJxf58ca_isNaN_12338_1 rfl ?_
  refine r_fcmp (pc := 2) hC dJxf58ca_isNaN_12338_2 ?_
  refine r_if_eq (pc := 3) (tgt := 10) hC dJxf58ca_isNaN_12338_3 (by decide) (fun bq3 => ?_) (fun bq3 => ?_)
  · skip
    refine r_iconst (pc := 10) (v := 0) hC dJxf58ca_isNaN_12338_10 (by decide) ?_
    refine r_iret (pc := 11) hC hD rfl dJxf58ca_isNaN_12338_11 rfl ?_
    exact ⟨rfl, rfl, rfl, rfl⟩
  · skip
    exact absurd hnn bq3
theorem k_Jxf58ca_isNaN_12338 {X : xF} {G : xG} {cs : Nat × Nat} {μ : xM} {I : xI} {P : xP} {L : List (Option Value)} {pc : Nat} {rest : List Value} {cc : ByteArray} {Ts : List Cond} {own : String} {nL : Nat} {R : Room} (hC : xC X G cc Ts own nL R) {index : Nat} (hG : GoodIn Ts (va_wsS own index yJxf58ca_isNaN_12338 wsJxf58ca_isNaN_12338)) (hR : rm_Jxf58ca_isNaN_12338.frames + 1 ≤ R.frames ∧ 8 + (1 + 11) + rm_Jxf58ca_isNaN_12338.locals ≤ R.locals) {b : UInt32} (hnn : Op.cmpValue (FP.fcmp b b) .l = 0) (hW : (rest.map fun v => v.category).sum ≤ 8) (hL : L.length = nL) (hcs : cs.1 ≤ R.cells ∧ cs.2 ≤ R.slots) (hdec : decode cc pc = .ok (.invokestatic index, 3)) (kk : xg X G cs μ I P L (pc + 3) (.int (0) :: rest)) : xg X G cs μ I P L pc (.float b :: rest) :=
  r_callS hC (c_Jxf58ca_isNaN_12338 X.2.1 hnn) hG rfl rfl rfl hd_Jxf58ca_isNaN_12338.2 hR rfl rfl hW hL hcs hdec (by rintro v μ' I' P' ⟨rfl, rfl, rfl, rfl⟩; exact kk)
abbrev rm_Jxf58ca_floatToIntBits_5c35a : Room := { frames := 1, cells := 0, slots := 0, locals := 26 }
theorem wl_Jxf58ca_floatToIntBits_5c35a_74 : Cond.methodLink RJxf58ca 74 ⟨"java/lang/Float", "floatToRawIntBits", "(F)I"⟩ ∈ wsJxf58ca_floatToIntBits_5c35a := List.mem_of_getElem? (i := 1) (by decide +kernel)
theorem wa_Jxf58ca_floatToIntBits_5c35a_1 : Cond.native ⟨"java/lang/Float", "floatToRawIntBits", "(F)I"⟩ ∈ wsJxf58ca_floatToIntBits_5c35a := List.mem_of_getElem? (i := 2) (by decide +kernel)
theorem wa_Jxf58ca_floatToIntBits_5c35a_2 : Cond.static ⟨"java/lang/Float", "floatToRawIntBits", "(F)I"⟩ ∈ wsJxf58ca_floatToIntBits_5c35a := List.mem_of_getElem? (i := 3) (by decide +kernel)
theorem wa_Jxf58ca_floatToIntBits_5c35a_3 : Cond.initialized "java/lang/Float" ∈ wsJxf58ca_floatToIntBits_5c35a := List.mem_of_getElem? (i := 4) (by decide +kernel)
theorem hd_Jxf58ca_floatToIntBits_5c35a : yJxf58ca_floatToIntBits_5c35a.cls = RJxf58ca ∧ yJxf58ca_floatToIntBits_5c35a.cls ≠ "java/lang/invoke/MethodHandle" ∧ yJxf58ca_floatToIntBits_5c35a.cls ≠ "java/lang/invoke/VarHandle" ∧ (parseMethodDescriptor yJxf58ca_floatToIntBits_5c35a.desc).map (fun d => d.parameters.length) = some 1 := ⟨rfl, by decide +kernel, by decide +kernel, by decide +kernel⟩
set_option maxHeartbeats 4000000 in
set_option maxRecDepth 100000 in
theorem c_Jxf58ca_floatToIntBits_5c35a (l : Launch) {G : xG} {μ : xM} {I : xI} {P : xP} {b : UInt32} (hnn : Op.cmpValue (FP.fcmp b b) .l = 0) : Ct l yJxf58ca_floatToIntBits_5c35a wsJxf58ca_floatToIntBits_5c35a rm_Jxf58ca_floatToIntBits_5c35a G μ I P [.float b] 0 0 (fun vv μ' I' P' => vv = some (.int (b.toInt32)) ∧ μ' = μ ∧ I' = (I) ∧ P' = (P)) := by
  refine Ct.ofF (cc := cJxf58ca_floatToIntBits_5c35a) (maxL := 1) (ret := (some .int)) [some (.float b)] (by decide +kernel) rfl rfl rfl (Nat.le_of_ble_eq_true rfl) ?_
  intro X hC hD h0 _
  refine r_fload_n (pc := 0) hC dJxf58ca_floatToIntBits_5c35a_0 rfl ?_
  refine k_Jxf58ca_isNaN_12338 (pc := 1) hC gJxf58ca_floatToIntBits_5c35a_Jxf58ca_isNaN_12338 ⟨Nat.le_of_ble_eq_true rfl, Nat.le_of_ble_eq_true rfl⟩ hnn (Nat.le_of_ble_eq_true rfl) rfl ⟨Nat.zero_le _, Nat.zero_le _⟩ dJxf58ca_floatToIntBits_5c35a_1 ?_
  refine r_if_ne (pc := 4) (tgt := 12) hC dJxf58ca_floatToIntBits_5c35a_4 (by decide) (fun bq4 => ?_) (fun bq4 => ?_)
  · skip
    exact absurd rfl bq4
  · skip
    refine r_fload_n (pc := 7) hC dJxf58ca_floatToIntBits_5c35a_7 rfl ?_
    refine r_frib (pc := 8) hC wl_Jxf58ca_floatToIntBits_5c35a_74 wa_Jxf58ca_floatToIntBits_5c35a_1 wa_Jxf58ca_floatToIntBits_5c35a_2 wa_Jxf58ca_floatToIntBits_5c35a_3 ⟨Nat.le_of_ble_eq_true rfl, Nat.le_of_ble_eq_true rfl⟩ (Nat.le_of_ble_eq_true rfl) rfl dJxf58ca_floatToIntBits_5c35a_8 ?_
    refine r_iret (pc := 11) hC hD rfl dJxf58ca_floatToIntBits_5c35a_11 rfl ?_
    exact ⟨rfl, rfl, rfl, rfl⟩
theorem k_Jxf58ca_floatToIntBits_5c35a {X : xF} {G : xG} {cs : Nat × Nat} {μ : xM} {I : xI} {P : xP} {L : List (Option Value)} {pc : Nat} {rest : List Value} {cc : ByteArray} {Ts : List Cond} {own : String} {nL : Nat} {R : Room} (hC : xC X G cc Ts own nL R) {index : Nat} (hG : GoodIn Ts (va_wsS own index yJxf58ca_floatToIntBits_5c35a wsJxf58ca_floatToIntBits_5c35a)) (hR : rm_Jxf58ca_floatToIntBits_5c35a.frames + 1 ≤ R.frames ∧ 8 + (1 + 11) + rm_Jxf58ca_floatToIntBits_5c35a.locals ≤ R.locals) {b : UInt32} (hnn : Op.cmpValue (FP.fcmp b b) .l = 0) (hW : (rest.map fun v => v.category).sum ≤ 8) (hL : L.length = nL) (hcs : cs.1 ≤ R.cells ∧ cs.2 ≤ R.slots) (hdec : decode cc pc = .ok (.invokestatic index, 3)) (kk : xg X G cs μ I P L (pc + 3) (.int (b.toInt32) :: rest)) : xg X G cs μ I P L pc (.float b :: rest) :=
  r_callS hC (c_Jxf58ca_floatToIntBits_5c35a X.2.1 hnn) hG rfl rfl rfl hd_Jxf58ca_floatToIntBits_5c35a.2 hR rfl rfl hW hL hcs hdec (by rintro v μ' I' P' ⟨rfl, rfl, rfl, rfl⟩; exact kk)
abbrev rm_X4_floatBits : Room := { frames := 0, cells := 0, slots := 0, locals := 0 }
theorem wl_X4_floatBits_228 : Cond.constantFloat RX4 228 (1258291200) ∈ wsX4_floatBits := List.mem_of_getElem? (i := 1) (by decide +kernel)
theorem hd_X4_floatBits : yX4_floatBits.cls = RX4 ∧ yX4_floatBits.cls ≠ "java/lang/invoke/MethodHandle" ∧ yX4_floatBits.cls ≠ "java/lang/invoke/VarHandle" ∧ (parseMethodDescriptor yX4_floatBits.desc).map (fun d => d.parameters.length) = some 1 := ⟨rfl, by decide +kernel, by decide +kernel, by decide +kernel⟩
set_option maxHeartbeats 4000000 in
set_option maxRecDepth 100000 in
theorem c_X4_floatBits (l : Launch) {G : xG} {μ : xM} {I : xI} {P : xP} {v : UInt32} {x : Int32} (hv : fbOk 12 v 127 x = true) : Ct l yX4_floatBits wsX4_floatBits rm_X4_floatBits G μ I P [.float v] 0 0 (fun vv μ' I' P' => vv = some (.int (x)) ∧ μ' = μ ∧ I' = (I) ∧ P' = (P)) := by
  refine Ct.of (cc := cX4_floatBits) (maxL := 4) (ret := (some .int)) [some (.float v), none, none, none] (by decide) rfl rfl rfl (Nat.le_of_ble_eq_true rfl) ?_
  intro X hC hD h0 _
  have loop : ∀ (q k : Nat) (r : UInt32), k + q = 12 → fbOk q r (127 + k) x = true → xg X G (0, 0) μ I P [some (.float v), some (.float r), some (.int (nI (127 + k))), some (.int (nI k))] 7 [] := by
    intro q
    induction q with
    | zero =>
      intro k r hk hb
      exact absurd hb (by simp [fbOk])
    | succ q ih =>
      intro k r hk hb
      rw [fbOk] at hb
      refine r_iload_n (pc := 7) hC dX4_floatBits_7 rfl ?_
      refine r_bipush (pc := 8) (v := 127) hC dX4_floatBits_8 (by decide) ?_
      refine r_icmp_ge (pc := 10) (tgt := 32) hC dX4_floatBits_10 (by decide) (fun bq10 => ?_) (fun bq10 => ?_)
      · skip
        exact absurd bq10 (nI_ge (b := 127) (by omega) (by decide))
      · skip
        refine r_fload_n (pc := 13) hC dX4_floatBits_13 rfl ?_
        refine r_fconst2 (pc := 14) hC dX4_floatBits_14 ?_
        refine r_fcmp (pc := 15) hC dX4_floatBits_15 ?_
        refine r_if_lt (pc := 16) (tgt := 32) hC dX4_floatBits_16 (by decide) (fun bq16 => ?_) (fun bq16 => ?_)
        · skip
          rw [if_pos bq16, Bool.and_eq_true, Bool.and_eq_true] at hb
          obtain ⟨n1, n2, n3⟩ := hb
          refine r_fload_n (pc := 32) hC dX4_floatBits_32 rfl ?_
          refine r_fconst1 (pc := 33) hC dX4_floatBits_33 ?_
          refine r_fsub (pc := 34) hC dX4_floatBits_34 (vfd n1) ?_
          refine r_ldcf (pc := 35) (v := 1258291200) hC dX4_floatBits_35 wl_X4_floatBits_228 ?_
          refine r_fmul (pc := 37) hC dX4_floatBits_37 (vfd n2) ?_
          refine r_f2i (pc := 38) hC dX4_floatBits_38 ?_
          refine r_istore_n (pc := 39) (L' := [_, _, _, _]) hC dX4_floatBits_39 rfl (Nat.le_of_ble_eq_true rfl) rfl ?_
          refine r_iload_n (pc := 40) hC dX4_floatBits_40 rfl ?_
          refine r_bipush (pc := 41) (v := 23) hC dX4_floatBits_41 (by decide) ?_
          refine r_ishl (pc := 43) hC dX4_floatBits_43 ?_
          refine r_iload_n (pc := 44) hC dX4_floatBits_44 rfl ?_
          refine r_iadd (pc := 45) hC dX4_floatBits_45 ?_
          refine r_iret (pc := 46) hC hD rfl dX4_floatBits_46 rfl ?_
          exact ⟨by rw [of_decide_eq_true n3], rfl, rfl, rfl⟩
        · skip
          rw [if_neg bq16, Bool.and_eq_true] at hb
          obtain ⟨n1, n2⟩ := hb
          refine r_fload_n (pc := 19) hC dX4_floatBits_19 rfl ?_
          refine r_fconst2 (pc := 20) hC dX4_floatBits_20 ?_
          refine r_fdiv (pc := 21) hC dX4_floatBits_21 (vfd n1) ?_
          refine r_fstore_n (pc := 22) (L' := [_, _, _, _]) hC dX4_floatBits_22 rfl (Nat.le_of_ble_eq_true rfl) rfl ?_
          refine r_iinc (pc := 23) (v := 1) (L' := [_, _, _, _]) hC dX4_floatBits_23 rfl (by decide) rfl rfl ?_
          refine r_iinc (pc := 26) (v := 1) (L' := [_, _, _, _]) hC dX4_floatBits_26 rfl (by decide) rfl rfl ?_
          refine r_goto (pc := 29) (tgt := 7) hC dX4_floatBits_29 (by decide) ?_
          rw [nI_1, nI_1]; exact ih (k + 1) _ (by omega) n2
  refine r_fload_n (pc := 0) hC dX4_floatBits_0 rfl ?_
  refine r_fstore_n (pc := 1) (L' := [_, _, _, _]) hC dX4_floatBits_1 rfl (Nat.le_of_ble_eq_true rfl) rfl ?_
  refine r_bipush (pc := 2) (v := 127) hC dX4_floatBits_2 (by decide) ?_
  refine r_istore_n (pc := 4) (L' := [_, _, _, _]) hC dX4_floatBits_4 rfl (Nat.le_of_ble_eq_true rfl) rfl ?_
  refine r_iconst (pc := 5) (v := 0) hC dX4_floatBits_5 (by decide) ?_
  refine r_istore_n (pc := 6) (L' := [_, _, _, _]) hC dX4_floatBits_6 rfl (Nat.le_of_ble_eq_true rfl) rfl ?_
  exact loop 12 0 v rfl hv
theorem k_X4_floatBits {X : xF} {G : xG} {cs : Nat × Nat} {μ : xM} {I : xI} {P : xP} {L : List (Option Value)} {pc : Nat} {rest : List Value} {cc : ByteArray} {Ts : List Cond} {own : String} {nL : Nat} {R : Room} (hC : xC X G cc Ts own nL R) {index : Nat} (hG : GoodIn Ts (va_wsS own index yX4_floatBits wsX4_floatBits)) (hR : rm_X4_floatBits.frames + 1 ≤ R.frames ∧ 8 + (4 + 11) + rm_X4_floatBits.locals ≤ R.locals) {v : UInt32} {x : Int32} (hv : fbOk 12 v 127 x = true) (hW : (rest.map fun v => v.category).sum ≤ 8) (hL : L.length = nL) (hcs : cs.1 ≤ R.cells ∧ cs.2 ≤ R.slots) (hdec : decode cc pc = .ok (.invokestatic index, 3)) (kk : xg X G cs μ I P L (pc + 3) (.int (x) :: rest)) : xg X G cs μ I P L pc (.float v :: rest) :=
  r_callS hC (c_X4_floatBits X.2.1 hv) hG rfl rfl rfl hd_X4_floatBits.2 hR rfl rfl hW hL hcs hdec (by rintro v μ' I' P' ⟨rfl, rfl, rfl, rfl⟩; exact kk)
abbrev rm_X5_mean : Room := { frames := 2, cells := 0, slots := 0, locals := 46 }
theorem wl_X5_mean_7 : Cond.fieldLink RX5 7 "HandBlindsModel" "s" "[I" ∈ wsX5_mean := List.mem_of_getElem? (i := 1) (by decide +kernel)
theorem wi_X5_mean_5 : ∀ w ∈ wsX50, w ∈ wsX5_mean := fun _ h => List.mem_cons_of_mem _ (List.mem_append_right _ h)
theorem wl_X5_mean_100 : Cond.constant RX5 100 (-1000004) ∈ wsX5_mean := List.mem_of_getElem? (i := 2) (by decide +kernel)
theorem hd_X5_mean : yX5_mean.cls = RX5 ∧ yX5_mean.cls ≠ "java/lang/invoke/MethodHandle" ∧ yX5_mean.cls ≠ "java/lang/invoke/VarHandle" ∧ (parseMethodDescriptor yX5_mean.desc).map (fun d => d.parameters.length) = some 0 := ⟨rfl, by decide +kernel, by decide +kernel, by decide +kernel⟩
set_option maxHeartbeats 4000000 in
set_option maxRecDepth 100000 in
theorem c_X5_mean (l : Launch) {G : xG} {μ : xM} {I : xI} {P : xP} {m n q : Nat} (km : μ.2.1 m = 6) (ks : μ.2.1 (P m 0) = 7) (ls : μ.2.2 (P m 0) = 369) (hinv : invN (I (P m 0)) n q) : Ct l yX5_mean wsX5_mean rm_X5_mean G μ I P [.ref (xZ G + m)] 0 0 (fun vv μ' I' P' => vv = some (.int (aMean (I (P m 0)))) ∧ μ' = μ ∧ I' = (I) ∧ P' = (P)) := by
  have hn20 := hinv.1
  have hn := hinv.2.1
  have hl : ∀ r, r < n → ∃ z, (I (P m 0)) (11 + 17 * r) = nI z ∧ z ≤ 14 := fun r hr => by
    obtain ⟨L, l1, l2, l3, -⟩ := hinv.2.2.2.2.2.2.2.2.2 r hr
    exact ⟨L, l3, l2⟩
  refine Ct.of (cc := cX5_mean) (maxL := 3) (ret := (some .int)) [some (.ref (xZ G + m)), none, none] (by decide) rfl rfl rfl (Nat.le_of_ble_eq_true rfl) ?_
  intro X hC hD h0 _
  have loop : ∀ (q k : Nat), k + q = n → xg X G (0, 0) μ I P [some (.ref (xZ G + m)), some (.int (msum (sWid (I (P m 0))) k)), some (.int (nI k))] 4 [] := by
    intro q
    induction q with
    | zero =>
      intro k hk
      have ek : k = n := by omega
      subst ek
      refine r_iload_n (pc := 4) hC dX5_mean_4 rfl ?_
      refine r_aload_n (pc := 5) hC dX5_mean_5 rfl ?_
      refine g_Model_s (pc := 6) hC wi_X5_mean_5 wl_X5_mean_7 (by assumption) (c2 := 7) (by assumption) (by decide) dX5_mean_6 ?_
      refine r_iconst (pc := 9) (v := 0) hC dX5_mean_9 (by decide) ?_
      refine r_iald (pc := 10) hC ks (xi_l (k := 0) ls (by decide) (by decide) (by decide)) dX5_mean_10 ?_
      refine r_icmp_ge (pc := 11) (tgt := 28) hC dX5_mean_11 (by decide) (fun bq11 => ?_) (fun bq11 => ?_)
      · skip
        refine r_iload_n (pc := 28) hC dX5_mean_28 rfl ?_
        refine r_i2f (pc := 29) hC dX5_mean_29 ?_
        refine r_aload_n (pc := 30) hC dX5_mean_30 rfl ?_
        refine g_Model_s (pc := 31) hC wi_X5_mean_5 wl_X5_mean_7 (by assumption) (c2 := 7) (by assumption) (by decide) dX5_mean_31 ?_
        refine r_iconst (pc := 34) (v := 0) hC dX5_mean_34 (by decide) ?_
        refine r_iald (pc := 35) hC ks (xi_l (k := 0) ls (by decide) (by decide) (by decide)) dX5_mean_35 ?_
        refine r_if_ne (pc := 36) (tgt := 43) hC dX5_mean_36 (by decide) (fun bq36 => ?_) (fun bq36 => ?_)
        · skip
          have hk1 : 1 ≤ k := by
            rcases Nat.eq_zero_or_pos k with w | w
            · exact absurd (show (I (P m 0)) 0 = 0 by rw [hn, w]; rfl) bq36
            · exact w
          obtain ⟨sm, sm1, sm2, sm3⟩ := msum_cases hinv k (Nat.le_refl k)
          have hmn := mean_ok hk1 hn20 sm1 sm2
          rw [← sm3, ← hn] at hmn
          obtain ⟨m1, m2, m3⟩ := mnQ_d hmn
          refine r_aload_n (pc := 43) hC dX5_mean_43 rfl ?_
          refine g_Model_s (pc := 44) hC wi_X5_mean_5 wl_X5_mean_7 (by assumption) (c2 := 7) (by assumption) (by decide) dX5_mean_44 ?_
          refine r_iconst (pc := 47) (v := 0) hC dX5_mean_47 (by decide) ?_
          refine r_iald (pc := 48) hC ks (xi_l (k := 0) ls (by decide) (by decide) (by decide)) dX5_mean_48 ?_
          refine r_i2f (pc := 49) hC dX5_mean_49 ?_
          refine r_fdiv (pc := 50) hC dX5_mean_50 m1 ?_
          refine r_fstore_n (pc := 51) (L' := [_, _, _]) hC dX5_mean_51 rfl (Nat.le_of_ble_eq_true rfl) rfl ?_
          refine r_aload_n (pc := 52) hC dX5_mean_52 rfl ?_
          refine g_Model_s (pc := 53) hC wi_X5_mean_5 wl_X5_mean_7 (by assumption) (c2 := 7) (by assumption) (by decide) dX5_mean_53 ?_
          refine r_iconst (pc := 56) (v := 0) hC dX5_mean_56 (by decide) ?_
          refine r_iald (pc := 57) hC ks (xi_l (k := 0) ls (by decide) (by decide) (by decide)) dX5_mean_57 ?_
          refine r_if_ne (pc := 58) (tgt := 66) hC dX5_mean_58 (by decide) (fun bq58 => ?_) (fun bq58 => ?_)
          · skip
            refine r_fload_n (pc := 66) hC dX5_mean_66 rfl ?_
            refine k_Jxf58ca_floatToIntBits_5c35a (pc := 67) hC gX5_mean_Jxf58ca_floatToIntBits_5c35a ⟨Nat.le_of_ble_eq_true rfl, Nat.le_of_ble_eq_true rfl⟩ m2 (Nat.le_of_ble_eq_true rfl) rfl ⟨Nat.zero_le _, Nat.zero_le _⟩ dX5_mean_67 ?_
            refine r_iret (pc := 70) hC hD rfl dX5_mean_70 rfl ?_
            exact ⟨by rw [aMean, if_neg bq36, show cN (I (P m 0)) = k from by rw [cN, hn, nI_clamp (by omega)]], rfl, rfl, rfl⟩
          · skip
            exact absurd bq58 bq36
        · skip
          have hn0 : k = 0 := (nI_eq (b := 0) (by omega) (by decide)).mp (by rw [← hn]; exact bq36)
          subst hn0
          refine r_iconst (pc := 39) (v := 1) hC dX5_mean_39 (by decide) ?_
          refine r_goto (pc := 40) (tgt := 49) hC dX5_mean_40 (by decide) ?_
          refine r_i2f (pc := 49) hC dX5_mean_49 ?_
          refine r_fdiv (pc := 50) hC dX5_mean_50 mnZ ?_
          refine r_fstore_n (pc := 51) (L' := [_, _, _]) hC dX5_mean_51 rfl (Nat.le_of_ble_eq_true rfl) rfl ?_
          refine r_aload_n (pc := 52) hC dX5_mean_52 rfl ?_
          refine g_Model_s (pc := 53) hC wi_X5_mean_5 wl_X5_mean_7 (by assumption) (c2 := 7) (by assumption) (by decide) dX5_mean_53 ?_
          refine r_iconst (pc := 56) (v := 0) hC dX5_mean_56 (by decide) ?_
          refine r_iald (pc := 57) hC ks (xi_l (k := 0) ls (by decide) (by decide) (by decide)) dX5_mean_57 ?_
          refine r_if_ne (pc := 58) (tgt := 66) hC dX5_mean_58 (by decide) (fun bq58 => ?_) (fun bq58 => ?_)
          · skip
            exact absurd bq36 bq58
          · skip
            refine r_ldc (pc := 61) (v := -1000004) hC dX5_mean_61 wl_X5_mean_100 ?_
            refine r_goto (pc := 63) (tgt := 70) hC dX5_mean_63 (by decide) ?_
            refine r_iret (pc := 70) hC hD rfl dX5_mean_70 rfl ?_
            exact ⟨by rw [aMean, if_pos bq36], rfl, rfl, rfl⟩
      · skip
        rw [hn] at bq11; exact absurd (nI_le (by omega) (by omega)) bq11
    | succ q ih =>
      intro k hk
      obtain ⟨qk, hlk, hk14⟩ := hl k (by omega)
      have hsw : sWid (I (P m 0)) k = wsum (fun j => (I (P m 0)) (14 + 17 * k + j)) qk := by rw [sWid, sLen_of hlk (by omega)]; rfl
      refine r_iload_n (pc := 4) hC dX5_mean_4 rfl ?_
      refine r_aload_n (pc := 5) hC dX5_mean_5 rfl ?_
      refine g_Model_s (pc := 6) hC wi_X5_mean_5 wl_X5_mean_7 (by assumption) (c2 := 7) (by assumption) (by decide) dX5_mean_6 ?_
      refine r_iconst (pc := 9) (v := 0) hC dX5_mean_9 (by decide) ?_
      refine r_iald (pc := 10) hC ks (xi_l (k := 0) ls (by decide) (by decide) (by decide)) dX5_mean_10 ?_
      refine r_icmp_ge (pc := 11) (tgt := 28) hC dX5_mean_11 (by decide) (fun bq11 => ?_) (fun bq11 => ?_)
      · skip
        rw [hn] at bq11; exact absurd bq11 (nI_ge (by omega) (by omega))
      · skip
        refine r_iload_n (pc := 14) hC dX5_mean_14 rfl ?_
        refine r_aload_n (pc := 15) hC dX5_mean_15 rfl ?_
        refine r_iload_n (pc := 16) hC dX5_mean_16 rfl ?_
        refine k_X5_width (pc := 17) hC gX5_mean_X5_width ⟨Nat.le_of_ble_eq_true rfl, Nat.le_of_ble_eq_true rfl⟩ km ks ls rfl (by omega) hlk hk14 (Nat.le_of_ble_eq_true rfl) rfl ⟨Nat.zero_le _, Nat.zero_le _⟩ dX5_mean_17 ?_
        rw [← hsw]
        refine r_iadd (pc := 20) hC dX5_mean_20 ?_
        refine r_istore_n (pc := 21) (L' := [_, _, _]) hC dX5_mean_21 rfl (Nat.le_of_ble_eq_true rfl) rfl ?_
        refine r_iinc (pc := 22) (v := 1) (L' := [_, _, _]) hC dX5_mean_22 rfl (by decide) rfl rfl ?_
        refine r_goto (pc := 25) (tgt := 4) hC dX5_mean_25 (by decide) ?_
        rw [nI_1]; exact ih (k + 1) (by omega)
  refine r_iconst (pc := 0) (v := 0) hC dX5_mean_0 (by decide) ?_
  refine r_istore_n (pc := 1) (L' := [_, _, _]) hC dX5_mean_1 rfl (Nat.le_of_ble_eq_true rfl) rfl ?_
  refine r_iconst (pc := 2) (v := 0) hC dX5_mean_2 (by decide) ?_
  refine r_istore_n (pc := 3) (L' := [_, _, _]) hC dX5_mean_3 rfl (Nat.le_of_ble_eq_true rfl) rfl ?_
  exact loop n 0 (by omega)
theorem k_X5_mean {X : xF} {G : xG} {cs : Nat × Nat} {μ : xM} {I : xI} {P : xP} {L : List (Option Value)} {pc : Nat} {rest : List Value} {cc : ByteArray} {Ts : List Cond} {own : String} {nL : Nat} {R : Room} (hC : xC X G cc Ts own nL R) {index : Nat} (hG : GoodIn Ts (wsV own index RX5 yX5_mean wsX5_mean)) (hR : rm_X5_mean.frames + 1 ≤ R.frames ∧ 8 + (3 + 11) + rm_X5_mean.locals ≤ R.locals) {m n q : Nat} (km : μ.2.1 m = 6) (ks : μ.2.1 (P m 0) = 7) (ls : μ.2.2 (P m 0) = 369) (hinv : invN (I (P m 0)) n q) (hW : (rest.map fun v => v.category).sum ≤ 8) (hL : L.length = nL) (hcs : cs.1 ≤ R.cells ∧ cs.2 ≤ R.slots) (hdec : decode cc pc = .ok (.invokevirtual index, 3)) (kk : xg X G cs μ I P L (pc + 3) (.int (aMean (I (P m 0))) :: rest)) : xg X G cs μ I P L pc (.ref (xZ G + m) :: rest) :=
  r_callV hC (c_X5_mean X.2.1 km ks ls hinv) hG rfl rfl rfl hd_X5_mean hR (by rw [km]; decide) (xe_Model km) rfl rfl rfl hW hL hcs hdec (by rintro v μ' I' P' ⟨rfl, rfl, rfl, rfl⟩; exact kk)
abbrev rm_X4_mean : Room := { frames := 3, cells := 0, slots := 0, locals := 64 }
theorem wl_X4_mean_19 : Cond.fieldLink RX4 19 "HandBlinds" "now" "LHandBlinds$Blind;" ∈ wsX4_mean := List.mem_of_getElem? (i := 1) (by decide +kernel)
theorem wi_X4_mean_4 : ∀ w ∈ wsX40, w ∈ wsX4_mean := fun _ h => List.mem_cons_of_mem _ (List.mem_append_left _ (List.mem_append_left _ (List.mem_append_right _ h)))
theorem wl_X4_mean_62 : Cond.fieldLink RX4 62 "HandBlinds$Blind" "rowCount" "I" ∈ wsX4_mean := List.mem_of_getElem? (i := 2) (by decide +kernel)
theorem wi_X4_mean_0 : ∀ w ∈ wsX00, w ∈ wsX4_mean := fun _ h => List.mem_cons_of_mem _ (List.mem_append_left _ (List.mem_append_right _ h))
theorem wl_X4_mean_138 : Cond.constant RX4 138 (-1000004) ∈ wsX4_mean := List.mem_of_getElem? (i := 3) (by decide +kernel)
theorem hd_X4_mean : yX4_mean.cls = RX4 ∧ yX4_mean.cls ≠ "java/lang/invoke/MethodHandle" ∧ yX4_mean.cls ≠ "java/lang/invoke/VarHandle" ∧ (parseMethodDescriptor yX4_mean.desc).map (fun d => d.parameters.length) = some 0 := ⟨rfl, by decide +kernel, by decide +kernel, by decide +kernel⟩
set_option maxHeartbeats 4000000 in
set_option maxRecDepth 100000 in
theorem c_X4_mean (l : Launch) {G : xG} {μ : xM} {I : xI} {P : xP} {h n rq st t : Nat} {S tx : Nat → Int32} {H : Nat → Nat → Int32}  (kh : μ.2.1 h = 5) (hs : oS μ h) (hp : oP P h) (hr : oR I P h S n rq st H t tx) (hinv : invN S n rq) : Ct l yX4_mean wsX4_mean rm_X4_mean G μ I P [.ref (xZ G + h)] 0 0 (fun vv μ' I' P' => vv = some (.int (aMean S)) ∧ μ' = μ ∧ I' = (I) ∧ P' = (P)) := by
  obtain ⟨⟨u0, u1, u2, u3⟩, ⟨kx, ksg, lsg⟩, ⟨kb, hbS, hbP, hB⟩, ⟨kh2, lh2⟩, hist, ⟨hst, hst4⟩, ⟨ht, ht60⟩, htx⟩ := oF hs hp hr
  have hA := bA_of hbS hbP
  have hA0 := hA
  have hB0 := hB
  have hinv0 := hinv
  obtain ⟨⟨k0, l0⟩, ⟨k3, l3⟩, ⟨k6, l6⟩, hrw, hrt⟩ := hA
  have hrowf := fun {i : Nat} (hi : i < n) => bRow hB hinv hi
  obtain ⟨b1, b2, b4, b5, b7, b8, b9, b10, bst, brw, brt⟩ := hB
  obtain ⟨hn20, hn, hq6, hq, hcur, hdr, h8, h9, h10, hrows⟩ := hinv
  have b1n : I (P h 1) 1 = nI n := b1.trans hn
  have b4q : I (P h 1) 4 = nI rq := b4.trans hq
  have hro : ∀ r : Int32, (if r < 0 then (0 : Int32) else if I (P h 1) 1 ≤ r then 0 else 1) = isR r (S 0) := fun r => by rw [b1]; rfl
  have hrq : ∀ r : Int32, (if r < 0 then (0 : Int32) else if I (P h 1) 4 ≤ r then 0 else 1) = isR r (S 2) := fun r => by rw [b4]; rfl
  have hcn : cN S = n := by rw [cN, hn, nI_clamp (by omega)]
  refine Ct.of (cc := cX4_mean) (maxL := 1) (ret := (some .int)) [some (.ref (xZ G + h))] (by decide) rfl rfl rfl (Nat.le_of_ble_eq_true rfl) ?_
  intro X hC hD h0 _
  refine r_aload_n (pc := 0) hC dX4_mean_0 rfl ?_
  refine g_HB_now (pc := 1) hC wi_X4_mean_4 wl_X4_mean_19 (by assumption) (c2 := 1) (by assumption) (by decide) dX4_mean_1 ?_
  refine g_Blind_rowCount (pc := 4) hC wi_X4_mean_0 wl_X4_mean_62 (by assumption) dX4_mean_4 ?_
  refine r_if_ne (pc := 7) (tgt := 13) hC dX4_mean_7 (by decide) (fun bq7 => ?_) (fun bq7 => ?_)
  · skip
    have hn0 : ¬ S 0 = 0 := fun e => bq7 (by rw [b1]; exact e)
    have hk1 : 1 ≤ n := by
      rcases Nat.eq_zero_or_pos n with w | w
      · exact absurd (show S 0 = 0 by rw [hn, w]; rfl) hn0
      · exact w
    obtain ⟨sm, sm1, sm2, sm3⟩ := msum_cases hinv0 n (Nat.le_refl n)
    have hmn := mean_ok hk1 hn20 sm1 sm2
    rw [← sm3] at hmn
    obtain ⟨m1, m2, m3⟩ := mnQ_d hmn
    refine r_aload_n (pc := 13) hC dX4_mean_13 rfl ?_
    refine g_HB_now (pc := 14) hC wi_X4_mean_4 wl_X4_mean_19 (by assumption) (c2 := 1) (by assumption) (by decide) dX4_mean_14 ?_
    refine k_X0_widthOfAll (pc := 17) hC gX4_mean_X0_widthOfAll ⟨Nat.le_of_ble_eq_true rfl, Nat.le_of_ble_eq_true rfl⟩ kb hA0 hB0 hinv0 (Nat.le_of_ble_eq_true rfl) rfl ⟨Nat.zero_le _, Nat.zero_le _⟩ dX4_mean_17 ?_
    refine r_i2f (pc := 20) hC dX4_mean_20 ?_
    refine r_aload_n (pc := 21) hC dX4_mean_21 rfl ?_
    refine g_HB_now (pc := 22) hC wi_X4_mean_4 wl_X4_mean_19 (by assumption) (c2 := 1) (by assumption) (by decide) dX4_mean_22 ?_
    refine g_Blind_rowCount (pc := 25) hC wi_X4_mean_0 wl_X4_mean_62 (by assumption) dX4_mean_25 ?_
    rw [b1n]
    refine r_i2f (pc := 28) hC dX4_mean_28 ?_
    refine r_fdiv (pc := 29) hC dX4_mean_29 m1 ?_
    refine k_X4_floatBits (pc := 30) hC gX4_mean_X4_floatBits ⟨Nat.le_of_ble_eq_true rfl, Nat.le_of_ble_eq_true rfl⟩ m3 (Nat.le_of_ble_eq_true rfl) rfl ⟨Nat.zero_le _, Nat.zero_le _⟩ dX4_mean_30 ?_
    refine r_iret (pc := 33) hC hD rfl dX4_mean_33 rfl ?_
    exact ⟨by rw [aMean, if_neg hn0, hcn, hn], rfl, rfl, rfl⟩
  · skip
    refine r_ldc (pc := 10) (v := -1000004) hC dX4_mean_10 wl_X4_mean_138 ?_
    refine r_iret (pc := 12) hC hD rfl dX4_mean_12 rfl ?_
    exact ⟨by rw [aMean, if_pos (by rw [← b1]; exact bq7)], rfl, rfl, rfl⟩
theorem k_X4_mean {X : xF} {G : xG} {cs : Nat × Nat} {μ : xM} {I : xI} {P : xP} {L : List (Option Value)} {pc : Nat} {rest : List Value} {cc : ByteArray} {Ts : List Cond} {own : String} {nL : Nat} {R : Room} (hC : xC X G cc Ts own nL R) {index : Nat} (hG : GoodIn Ts (wsV own index RX4 yX4_mean wsX4_mean)) (hR : rm_X4_mean.frames + 1 ≤ R.frames ∧ 8 + (1 + 11) + rm_X4_mean.locals ≤ R.locals) {h n rq st t : Nat} {S tx : Nat → Int32} {H : Nat → Nat → Int32}  (kh : μ.2.1 h = 5) (hs : oS μ h) (hp : oP P h) (hr : oR I P h S n rq st H t tx) (hinv : invN S n rq) (hW : (rest.map fun v => v.category).sum ≤ 8) (hL : L.length = nL) (hcs : cs.1 ≤ R.cells ∧ cs.2 ≤ R.slots) (hdec : decode cc pc = .ok (.invokevirtual index, 3)) (kk : xg X G cs μ I P L (pc + 3) (.int (aMean S) :: rest)) : xg X G cs μ I P L pc (.ref (xZ G + h) :: rest) :=
  r_callV hC (c_X4_mean X.2.1 kh hs hp hr hinv) hG rfl rfl rfl hd_X4_mean hR (by rw [kh]; decide) (xe_HB kh) rfl rfl rfl hW hL hcs hdec (by rintro v μ' I' P' ⟨rfl, rfl, rfl, rfl⟩; exact kk)
