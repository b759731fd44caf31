abbrev rm_X5_ones : Room := { frames := 0, cells := 0, slots := 0, locals := 0 }
theorem hd_X5_ones : yX5_ones.cls = RX5 ∧ yX5_ones.cls ≠ "java/lang/invoke/MethodHandle" ∧ yX5_ones.cls ≠ "java/lang/invoke/VarHandle" ∧ (parseMethodDescriptor yX5_ones.desc).map (fun d => d.parameters.length) = some 1 := ⟨rfl, by decide +kernel, by decide +kernel, by decide +kernel⟩
set_option maxHeartbeats 4000000 in
set_option maxRecDepth 100000 in
theorem c_X5_ones (l : Launch) {G : xG} {μ : xM} {I : xI} {P : xP} {x : Int32}  : Ct l yX5_ones wsX5_ones rm_X5_ones G μ I P [.int x] 0 0 (fun vv μ' I' P' => vv = some (.int (ones x)) ∧ μ' = μ ∧ I' = (I) ∧ P' = (P)) := by
  refine Ct.of (cc := cX5_ones) (maxL := 3) (ret := (some .int)) [some (.int x), none, none] (by decide) rfl rfl rfl (Nat.le_of_ble_eq_true rfl) ?_
  intro X hC hD h0 _
  have loop : ∀ (p y c : Nat), y < 2 ^ 32 → pcn 32 y = p → nI (c + p) = ones x → xg X G (0, 0) μ I P [some (.int x), some (.int (nI c)), some (.int (nI y))] 4 [] := by
    intro p
    induction p with
    | zero =>
      intro y c hy hp hr
      have hy0 : y = 0 := Classical.byContradiction fun w => by rw [pcn_low 32 y w hy] at hp; omega
      refine r_iload_n (pc := 4) hC dX5_ones_4 rfl ?_
      refine r_if_eq (pc := 5) (tgt := 20) hC dX5_ones_5 (by decide) (fun bq5 => ?_) (fun bq5 => ?_)
      · skip
        refine r_iload_n (pc := 20) hC dX5_ones_20 rfl ?_
        refine r_iret (pc := 21) hC hD rfl dX5_ones_21 rfl ?_
        exact ⟨by rw [← hr]; rfl, rfl, rfl, rfl⟩
      · skip
        exact absurd (by rw [hy0]; rfl) bq5
    | succ p ih =>
      intro y c hy hp hr
      have hy0 : y ≠ 0 := fun w => by rw [w, pcn_0] at hp; cases hp
      refine r_iload_n (pc := 4) hC dX5_ones_4 rfl ?_
      refine r_if_eq (pc := 5) (tgt := 20) hC dX5_ones_5 (by decide) (fun bq5 => ?_) (fun bq5 => ?_)
      · skip
        exact absurd (nI_zero hy bq5) hy0
      · skip
        refine r_iinc (pc := 8) (v := 1) (L' := [_, _, _]) hC dX5_ones_8 rfl (by decide) rfl rfl ?_
        refine r_iload_n (pc := 11) hC dX5_ones_11 rfl ?_
        refine r_iload_n (pc := 12) hC dX5_ones_12 rfl ?_
        refine r_iconst (pc := 13) (v := 1) hC dX5_ones_13 (by decide) ?_
        refine r_isub (pc := 14) hC dX5_ones_14 ?_
        refine r_iand (pc := 15) hC dX5_ones_15 ?_
        refine r_istore_n (pc := 16) (L' := [_, _, _]) hC dX5_ones_16 rfl (Nat.le_of_ble_eq_true rfl) rfl ?_
        refine r_goto (pc := 17) (tgt := 4) hC dX5_ones_17 (by decide) ?_
        rw [nI_1, show nI y - 1 = nI (y - 1) from by rw [show y = (y - 1) + 1 by omega]; exact nI_pred _, nI_land]
        exact ih (y &&& (y - 1)) (c + 1) (Nat.lt_of_le_of_lt Nat.and_le_left hy) (by have z := pcn_low 32 y hy0 hy; omega) (by rw [show c + 1 + p = c + (p + 1) by omega]; exact hr)
  refine r_iconst (pc := 0) (v := 0) hC dX5_ones_0 (by decide) ?_
  refine r_istore_n (pc := 1) (L' := [_, _, _]) hC dX5_ones_1 rfl (Nat.le_of_ble_eq_true rfl) rfl ?_
  refine r_iload_n (pc := 2) hC dX5_ones_2 rfl ?_
  refine r_istore_n (pc := 3) (L' := [_, _, _]) hC dX5_ones_3 rfl (Nat.le_of_ble_eq_true rfl) rfl ?_
  have z := loop (pcn 32 x.toBitVec.toNat) x.toBitVec.toNat 0 x.toBitVec.isLt rfl (by rw [Nat.zero_add]; rfl)
  rw [nI_nat] at z; exact z
theorem k_X5_ones {X : xF} {G : xG} {cs : Nat × Nat} {μ : xM} {I : xI} {P : xP} {L : List (Option Value)} {pc : Nat} {rest : List Value} {cc : ByteArray} {Ts : List Cond} {own : String} {nL : Nat} {R : Room} (hC : xC X G cc Ts own nL R) {index : Nat} (hG : GoodIn Ts (va_wsS own index yX5_ones wsX5_ones)) (hR : rm_X5_ones.frames + 1 ≤ R.frames ∧ 8 + (3 + 11) + rm_X5_ones.locals ≤ R.locals) {x : Int32}  (hW : (rest.map fun v => v.category).sum ≤ 8) (hL : L.length = nL) (hcs : cs.1 ≤ R.cells ∧ cs.2 ≤ R.slots) (hdec : decode cc pc = .ok (.invokestatic index, 3)) (kk : xg X G cs μ I P L (pc + 3) (.int (ones x) :: rest)) : xg X G cs μ I P L pc (.int x :: rest) :=
  r_callS hC (c_X5_ones X.2.1 ) hG rfl rfl rfl hd_X5_ones.2 hR rfl rfl hW hL hcs hdec (by rintro v μ' I' P' ⟨rfl, rfl, rfl, rfl⟩; exact kk)
abbrev rm_J6_bitCount_0f7a4 : Room := { frames := 0, cells := 0, slots := 0, locals := 0 }
theorem wl_J6_bitCount_0f7a4_265 : Cond.constant RJ6 265 (1431655765) ∈ wsJ6_bitCount_0f7a4 := List.mem_of_getElem? (i := 1) (by decide +kernel)
theorem wl_J6_bitCount_0f7a4_266 : Cond.constant RJ6 266 (858993459) ∈ wsJ6_bitCount_0f7a4 := List.mem_of_getElem? (i := 2) (by decide +kernel)
theorem wl_J6_bitCount_0f7a4_267 : Cond.constant RJ6 267 (252645135) ∈ wsJ6_bitCount_0f7a4 := List.mem_of_getElem? (i := 3) (by decide +kernel)
theorem hd_J6_bitCount_0f7a4 : yJ6_bitCount_0f7a4.cls = RJ6 ∧ yJ6_bitCount_0f7a4.cls ≠ "java/lang/invoke/MethodHandle" ∧ yJ6_bitCount_0f7a4.cls ≠ "java/lang/invoke/VarHandle" ∧ (parseMethodDescriptor yJ6_bitCount_0f7a4.desc).map (fun d => d.parameters.length) = some 1 := ⟨rfl, by decide +kernel, by decide +kernel, by decide +kernel⟩
set_option maxHeartbeats 4000000 in
set_option maxRecDepth 100000 in
theorem c_J6_bitCount_0f7a4 (l : Launch) {G : xG} {μ : xM} {I : xI} {P : xP} {x : Int32} {N : Nat} (hx : x = nI N) (hN : N < 2 ^ 32) : Ct l yJ6_bitCount_0f7a4 wsJ6_bitCount_0f7a4 rm_J6_bitCount_0f7a4 G μ I P [.int x] 0 0 (fun vv μ' I' P' => vv = some (.int (nI (pcn 32 N))) ∧ μ' = μ ∧ I' = (I) ∧ P' = (P)) := by
  subst hx
  obtain ⟨y, hy⟩ : ∃ y, N - (N / 2 &&& 1431655765) = y := ⟨_, rfl⟩
  obtain ⟨z, hz⟩ : ∃ z, (y &&& 858993459) + (y / 4 &&& 858993459) = z := ⟨_, rfl⟩
  obtain ⟨c, hc⟩ : ∃ c, ((z + z / 16) &&& 252645135) = c := ⟨_, rfl⟩
  obtain ⟨w, hw⟩ : ∃ w, c + c / 256 = w := ⟨_, rfl⟩
  obtain ⟨v, hv⟩ : ∃ v, w + w / 65536 = v := ⟨_, rfl⟩
  obtain ⟨h63, hle, hyl, hzl, hcl, hwl⟩ := sw_all hN y z c w v hy hz hc hw hv
  refine Ct.of (cc := cJ6_bitCount_0f7a4) (maxL := 1) (ret := (some .int)) [some (.int (nI N))] (by decide) rfl rfl rfl (Nat.le_of_ble_eq_true rfl) ?_
  intro X hC hD h0 _
  refine r_iload_n (pc := 0) hC dJ6_bitCount_0f7a4_0 rfl ?_
  refine r_iload_n (pc := 1) hC dJ6_bitCount_0f7a4_1 rfl ?_
  refine r_iconst (pc := 2) (v := 1) hC dJ6_bitCount_0f7a4_2 (by decide) ?_
  refine r_iushr (pc := 3) hC dJ6_bitCount_0f7a4_3 ?_
  rw [show ((nI N).toUInt32 >>> ((1 : Int32).toUInt32 &&& Int32.toUInt32 31)).toInt32 = nI (N / 2) from pk_ushrN hN 1 1 (by decide)]
  refine r_ldc_w (pc := 4) (v := 1431655765) hC dJ6_bitCount_0f7a4_4 wl_J6_bitCount_0f7a4_265 ?_
  refine r_iand (pc := 7) hC dJ6_bitCount_0f7a4_7 ?_
  rw [show (1431655765 : Int32) = nI 1431655765 from rfl, nI_land]
  refine r_isub (pc := 8) hC dJ6_bitCount_0f7a4_8 ?_
  rw [pk_sub hle, hy]
  refine r_istore_n (pc := 9) (L' := [_]) hC dJ6_bitCount_0f7a4_9 rfl (Nat.le_of_ble_eq_true rfl) rfl ?_
  refine r_iload_n (pc := 10) hC dJ6_bitCount_0f7a4_10 rfl ?_
  refine r_ldc_w (pc := 11) (v := 858993459) hC dJ6_bitCount_0f7a4_11 wl_J6_bitCount_0f7a4_266 ?_
  refine r_iand (pc := 14) hC dJ6_bitCount_0f7a4_14 ?_
  rw [show (858993459 : Int32) = nI 858993459 from rfl, nI_land]
  refine r_iload_n (pc := 15) hC dJ6_bitCount_0f7a4_15 rfl ?_
  refine r_iconst (pc := 16) (v := 2) hC dJ6_bitCount_0f7a4_16 (by decide) ?_
  refine r_iushr (pc := 17) hC dJ6_bitCount_0f7a4_17 ?_
  rw [show ((nI y).toUInt32 >>> ((2 : Int32).toUInt32 &&& Int32.toUInt32 31)).toInt32 = nI (y / 4) from pk_ushrN hyl 2 2 (by decide)]
  refine r_ldc_w (pc := 18) (v := 858993459) hC dJ6_bitCount_0f7a4_18 wl_J6_bitCount_0f7a4_266 ?_
  refine r_iand (pc := 21) hC dJ6_bitCount_0f7a4_21 ?_
  rw [show (858993459 : Int32) = nI 858993459 from rfl, nI_land]
  refine r_iadd (pc := 22) hC dJ6_bitCount_0f7a4_22 ?_
  rw [nI_add, hz]
  refine r_istore_n (pc := 23) (L' := [_]) hC dJ6_bitCount_0f7a4_23 rfl (Nat.le_of_ble_eq_true rfl) rfl ?_
  refine r_iload_n (pc := 24) hC dJ6_bitCount_0f7a4_24 rfl ?_
  refine r_iload_n (pc := 25) hC dJ6_bitCount_0f7a4_25 rfl ?_
  refine r_iconst (pc := 26) (v := 4) hC dJ6_bitCount_0f7a4_26 (by decide) ?_
  refine r_iushr (pc := 27) hC dJ6_bitCount_0f7a4_27 ?_
  rw [show ((nI z).toUInt32 >>> ((4 : Int32).toUInt32 &&& Int32.toUInt32 31)).toInt32 = nI (z / 16) from pk_ushrN hzl 4 4 (by decide)]
  refine r_iadd (pc := 28) hC dJ6_bitCount_0f7a4_28 ?_
  rw [nI_add]
  refine r_ldc_w (pc := 29) (v := 252645135) hC dJ6_bitCount_0f7a4_29 wl_J6_bitCount_0f7a4_267 ?_
  refine r_iand (pc := 32) hC dJ6_bitCount_0f7a4_32 ?_
  rw [show (252645135 : Int32) = nI 252645135 from rfl, nI_land]
  rw [hc]
  refine r_istore_n (pc := 33) (L' := [_]) hC dJ6_bitCount_0f7a4_33 rfl (Nat.le_of_ble_eq_true rfl) rfl ?_
  refine r_iload_n (pc := 34) hC dJ6_bitCount_0f7a4_34 rfl ?_
  refine r_iload_n (pc := 35) hC dJ6_bitCount_0f7a4_35 rfl ?_
  refine r_bipush (pc := 36) (v := 8) hC dJ6_bitCount_0f7a4_36 (by decide) ?_
  refine r_iushr (pc := 38) hC dJ6_bitCount_0f7a4_38 ?_
  rw [show ((nI c).toUInt32 >>> ((8 : Int32).toUInt32 &&& Int32.toUInt32 31)).toInt32 = nI (c / 256) from pk_ushrN hcl 8 8 (by decide)]
  refine r_iadd (pc := 39) hC dJ6_bitCount_0f7a4_39 ?_
  rw [nI_add, hw]
  refine r_istore_n (pc := 40) (L' := [_]) hC dJ6_bitCount_0f7a4_40 rfl (Nat.le_of_ble_eq_true rfl) rfl ?_
  refine r_iload_n (pc := 41) hC dJ6_bitCount_0f7a4_41 rfl ?_
  refine r_iload_n (pc := 42) hC dJ6_bitCount_0f7a4_42 rfl ?_
  refine r_bipush (pc := 43) (v := 16) hC dJ6_bitCount_0f7a4_43 (by decide) ?_
  refine r_iushr (pc := 45) hC dJ6_bitCount_0f7a4_45 ?_
  rw [show ((nI w).toUInt32 >>> ((16 : Int32).toUInt32 &&& Int32.toUInt32 31)).toInt32 = nI (w / 65536) from pk_ushrN hwl 16 16 (by decide)]
  refine r_iadd (pc := 46) hC dJ6_bitCount_0f7a4_46 ?_
  rw [nI_add, hv]
  refine r_istore_n (pc := 47) (L' := [_]) hC dJ6_bitCount_0f7a4_47 rfl (Nat.le_of_ble_eq_true rfl) rfl ?_
  refine r_iload_n (pc := 48) hC dJ6_bitCount_0f7a4_48 rfl ?_
  refine r_bipush (pc := 49) (v := 63) hC dJ6_bitCount_0f7a4_49 (by decide) ?_
  refine r_iand (pc := 51) hC dJ6_bitCount_0f7a4_51 ?_
  rw [show (63 : Int32) = nI 63 from rfl, nI_land]
  rw [h63]
  refine r_iret (pc := 52) hC hD rfl dJ6_bitCount_0f7a4_52 rfl ?_
  exact ⟨rfl, rfl, rfl, rfl⟩
theorem k_J6_bitCount_0f7a4 {X : xF} {G : xG} {cs : Nat × Nat} {μ : xM} {I : xI} {P : xP} {L : List (Option Value)} {pc : Nat} {rest : List Value} {cc : ByteArray} {Ts : List Cond} {own : String} {nL : Nat} {R : Room} (hC : xC X G cc Ts own nL R) {index : Nat} (hG : GoodIn Ts (va_wsS own index yJ6_bitCount_0f7a4 wsJ6_bitCount_0f7a4)) (hR : rm_J6_bitCount_0f7a4.frames + 1 ≤ R.frames ∧ 8 + (1 + 11) + rm_J6_bitCount_0f7a4.locals ≤ R.locals) {x : Int32} {N : Nat} (hx : x = nI N) (hN : N < 2 ^ 32) (hW : (rest.map fun v => v.category).sum ≤ 8) (hL : L.length = nL) (hcs : cs.1 ≤ R.cells ∧ cs.2 ≤ R.slots) (hdec : decode cc pc = .ok (.invokestatic index, 3)) (kk : xg X G cs μ I P L (pc + 3) (.int (nI (pcn 32 N)) :: rest)) : xg X G cs μ I P L pc (.int x :: rest) :=
  r_callS hC (c_J6_bitCount_0f7a4 X.2.1 hx hN) hG rfl rfl rfl hd_J6_bitCount_0f7a4.2 hR rfl rfl hW hL hcs hdec (by rintro v μ' I' P' ⟨rfl, rfl, rfl, rfl⟩; exact kk)
abbrev rm_X5_routeOf : Room := { frames := 2, cells := 0, slots := 0, locals := 44 }
theorem wl_X5_routeOf_92 : Cond.constant RX5 92 (-1000001) ∈ wsX5_routeOf := List.mem_of_getElem? (i := 1) (by decide +kernel)
theorem hd_X5_routeOf : yX5_routeOf.cls = RX5 ∧ yX5_routeOf.cls ≠ "java/lang/invoke/MethodHandle" ∧ yX5_routeOf.cls ≠ "java/lang/invoke/VarHandle" ∧ (parseMethodDescriptor yX5_routeOf.desc).map (fun d => d.parameters.length) = some 2 := ⟨rfl, by decide +kernel, by decide +kernel, by decide +kernel⟩
set_option maxHeartbeats 4000000 in
set_option maxRecDepth 100000 in
theorem c_X5_routeOf (l : Launch) {G : xG} {μ : xM} {I : xI} {P : xP} {m n q : Nat} {r w : Int32} (km : μ.2.1 m = 6) (ks : μ.2.1 (P m 0) = 7) (ls : μ.2.2 (P m 0) = 369) (hinv : invN (I (P m 0)) n q) : Ct l yX5_routeOf wsX5_routeOf rm_X5_routeOf G μ I P [.ref (xZ G + m), .int r, .int w] 0 0 (fun vv μ' I' P' => vv = some (.int (aRouteOf (I (P m 0)) r w)) ∧ μ' = μ ∧ I' = (I) ∧ P' = (P)) := by
  obtain ⟨hn20, hn, hq6, hq, hsh, hdr, h8r, h9r, h10r, hrows⟩ := id hinv
  refine Ct.of (cc := cX5_routeOf) (maxL := 4) (ret := (some .int)) [some (.ref (xZ G + m)), some (.int r), some (.int w), none] (by decide) rfl rfl rfl (Nat.le_of_ble_eq_true rfl) ?_
  intro X hC hD h0 _
  refine r_aload_n (pc := 0) hC dX5_routeOf_0 rfl ?_
  refine r_iload_n (pc := 1) hC dX5_routeOf_1 rfl ?_
  refine k_X5_isRoute (pc := 2) hC gX5_routeOf_X5_isRoute ⟨Nat.le_of_ble_eq_true rfl, Nat.le_of_ble_eq_true rfl⟩ (by assumption) (by assumption) (by assumption) (Nat.le_of_ble_eq_true rfl) rfl ⟨Nat.zero_le _, Nat.zero_le _⟩ dX5_routeOf_2 ?_
  refine r_if_eq (pc := 5) (tgt := 17) hC dX5_routeOf_5 (by decide) (fun bq5 => ?_) (fun bq5 => ?_)
  · skip
    refine r_ldc (pc := 17) (v := -1000001) hC dX5_routeOf_17 wl_X5_routeOf_92 ?_
    refine r_iret (pc := 19) hC hD rfl dX5_routeOf_19 rfl ?_
    exact ⟨by rw [aRouteOf, if_pos bq5], rfl, rfl, rfl⟩
  · skip
    refine r_iload_n (pc := 8) hC dX5_routeOf_8 rfl ?_
    refine r_iconst (pc := 9) (v := 0) hC dX5_routeOf_9 (by decide) ?_
    refine r_iconst (pc := 10) (v := 4) hC dX5_routeOf_10 (by decide) ?_
    refine k_X5_in (pc := 11) hC gX5_routeOf_X5_in ⟨Nat.le_of_ble_eq_true rfl, Nat.le_of_ble_eq_true rfl⟩  (Nat.le_of_ble_eq_true rfl) rfl ⟨Nat.zero_le _, Nat.zero_le _⟩ dX5_routeOf_11 ?_
    refine r_if_ne (pc := 14) (tgt := 20) hC dX5_routeOf_14 (by decide) (fun bq14 => ?_) (fun bq14 => ?_)
    · skip
      obtain ⟨k, hk, rfl⟩ := isR_of bq5 hq (by omega)
      have hkc : (nI k).toNatClampNeg = k := nI_clamp (by omega)
      refine r_aload_n (pc := 20) hC dX5_routeOf_20 rfl ?_
      refine r_iload_n (pc := 21) hC dX5_routeOf_21 rfl ?_
      refine r_iconst (pc := 22) (v := 0) hC dX5_routeOf_22 (by decide) ?_
      refine k_X5_ofRoute (pc := 23) hC gX5_routeOf_X5_ofRoute ⟨Nat.le_of_ble_eq_true rfl, Nat.le_of_ble_eq_true rfl⟩ (k := 351 + 3 * k) km ks ls (by simp only [xlit, nI_add, pk_mul] <;> exact congrArg nI (by omega)) (by omega) (Nat.le_of_ble_eq_true rfl) rfl ⟨Nat.zero_le _, Nat.zero_le _⟩ dX5_routeOf_23 ?_
      refine r_istore_n (pc := 26) (L' := [_, _, _, _]) hC dX5_routeOf_26 rfl (Nat.le_of_ble_eq_true rfl) rfl ?_
      refine r_iload_n (pc := 27) hC dX5_routeOf_27 rfl ?_
      refine r_if_ne (pc := 28) (tgt := 35) hC dX5_routeOf_28 (by decide) (fun bq28 => ?_) (fun bq28 => ?_)
      · skip
        refine r_iload_n (pc := 35) hC dX5_routeOf_35 rfl ?_
        refine r_iconst (pc := 36) (v := 1) hC dX5_routeOf_36 (by decide) ?_
        refine r_icmp_ne (pc := 37) (tgt := 47) hC dX5_routeOf_37 (by decide) (fun bq37 => ?_) (fun bq37 => ?_)
        · skip
          refine r_iload_n (pc := 47) hC dX5_routeOf_47 rfl ?_
          refine r_iconst (pc := 48) (v := 2) hC dX5_routeOf_48 (by decide) ?_
          refine r_icmp_ne (pc := 49) (tgt := 61) hC dX5_routeOf_49 (by decide) (fun bq49 => ?_) (fun bq49 => ?_)
          · skip
            obtain ⟨hix, hwi, hw5⟩ : 351 + 3 * nI k + (w - 2) = nI (347 + 3 * k + 2 + w.toNatClampNeg) ∧ I (P m 0) (349 + 3 * k + w.toNatClampNeg) = I (P m 0) (347 + 3 * k + 2 + w.toNatClampNeg) ∧ w.toNatClampNeg ≤ 4 := by
              rcases inr_04 bq14 bq28 bq37 bq49 with rfl | rfl
              · refine ⟨?_, congrArg _ (by omega), by decide⟩
                rw [show (3 : Int32) - 2 = nI 1 from rfl, show (3 : Int32).toNatClampNeg = 3 from rfl]
                simp only [xlit, nI_add, pk_mul] <;> exact congrArg nI (by omega)
              · refine ⟨?_, congrArg _ (by omega), by decide⟩
                rw [show (4 : Int32) - 2 = nI 2 from rfl, show (4 : Int32).toNatClampNeg = 4 from rfl]
                simp only [xlit, nI_add, pk_mul] <;> exact congrArg nI (by omega)
            refine r_aload_n (pc := 61) hC dX5_routeOf_61 rfl ?_
            refine r_iload_n (pc := 62) hC dX5_routeOf_62 rfl ?_
            refine r_iload_n (pc := 63) hC dX5_routeOf_63 rfl ?_
            refine r_iconst (pc := 64) (v := 2) hC dX5_routeOf_64 (by decide) ?_
            refine r_isub (pc := 65) hC dX5_routeOf_65 ?_
            refine k_X5_ofRoute (pc := 66) hC gX5_routeOf_X5_ofRoute ⟨Nat.le_of_ble_eq_true rfl, Nat.le_of_ble_eq_true rfl⟩ (k := 347 + 3 * k + 2 + w.toNatClampNeg) km ks ls hix (by omega) (Nat.le_of_ble_eq_true rfl) rfl ⟨Nat.zero_le _, Nat.zero_le _⟩ dX5_routeOf_66 ?_
            refine r_iret (pc := 69) hC hD rfl dX5_routeOf_69 rfl ?_
            exact ⟨by rw [aRouteOf, if_neg bq5, if_neg bq14, hkc, if_neg bq28, if_neg bq37, if_neg bq49, hwi], rfl, rfl, rfl⟩
          · skip
            refine r_iload_n (pc := 52) hC dX5_routeOf_52 rfl ?_
            refine r_aload_n (pc := 53) hC dX5_routeOf_53 rfl ?_
            refine k_X5_tornOnes (pc := 54) hC gX5_routeOf_X5_tornOnes ⟨Nat.le_of_ble_eq_true rfl, Nat.le_of_ble_eq_true rfl⟩ km ks ls hn hn20 (Nat.le_of_ble_eq_true rfl) rfl ⟨Nat.zero_le _, Nat.zero_le _⟩ dX5_routeOf_54 ?_
            refine r_iand (pc := 57) hC dX5_routeOf_57 ?_
            refine r_goto (pc := 58) (tgt := 69) hC dX5_routeOf_58 (by decide) ?_
            refine r_iret (pc := 69) hC hD rfl dX5_routeOf_69 rfl ?_
            exact ⟨by rw [aRouteOf, if_neg bq5, if_neg bq14, hkc, if_neg bq28, if_neg bq37, if_pos bq49, show cN (I (P m 0)) = n from by rw [cN, hn, nI_clamp (by omega)]], rfl, rfl, rfl⟩
        · skip
          refine r_iload_n (pc := 40) hC dX5_routeOf_40 rfl ?_
          refine k_X5_ones (pc := 41) hC gX5_routeOf_X5_ones ⟨Nat.le_of_ble_eq_true rfl, Nat.le_of_ble_eq_true rfl⟩  (Nat.le_of_ble_eq_true rfl) rfl ⟨Nat.zero_le _, Nat.zero_le _⟩ dX5_routeOf_41 ?_
          refine r_goto (pc := 44) (tgt := 69) hC dX5_routeOf_44 (by decide) ?_
          refine r_iret (pc := 69) hC hD rfl dX5_routeOf_69 rfl ?_
          exact ⟨by rw [aRouteOf, if_neg bq5, if_neg bq14, hkc, if_neg bq28, if_pos bq37], rfl, rfl, rfl⟩
      · skip
        refine r_iload_n (pc := 31) hC dX5_routeOf_31 rfl ?_
        refine r_goto (pc := 32) (tgt := 69) hC dX5_routeOf_32 (by decide) ?_
        refine r_iret (pc := 69) hC hD rfl dX5_routeOf_69 rfl ?_
        exact ⟨by rw [aRouteOf, if_neg bq5, if_neg bq14, hkc, if_pos bq28], rfl, rfl, rfl⟩
    · skip
      refine r_ldc (pc := 17) (v := -1000001) hC dX5_routeOf_17 wl_X5_routeOf_92 ?_
      refine r_iret (pc := 19) hC hD rfl dX5_routeOf_19 rfl ?_
      exact ⟨by rw [aRouteOf, if_neg bq5, if_pos bq14], rfl, rfl, rfl⟩
theorem k_X5_routeOf {X : xF} {G : xG} {cs : Nat × Nat} {μ : xM} {I : xI} {P : xP} {L : List (Option Value)} {pc : Nat} {rest : List Value} {cc : ByteArray} {Ts : List Cond} {own : String} {nL : Nat} {R : Room} (hC : xC X G cc Ts own nL R) {index : Nat} (hG : GoodIn Ts (wsV own index RX5 yX5_routeOf wsX5_routeOf)) (hR : rm_X5_routeOf.frames + 1 ≤ R.frames ∧ 8 + (4 + 11) + rm_X5_routeOf.locals ≤ R.locals) {m n q : Nat} {r w : Int32} (km : μ.2.1 m = 6) (ks : μ.2.1 (P m 0) = 7) (ls : μ.2.2 (P m 0) = 369) (hinv : invN (I (P m 0)) n q) (hW : (rest.map fun v => v.category).sum ≤ 8) (hL : L.length = nL) (hcs : cs.1 ≤ R.cells ∧ cs.2 ≤ R.slots) (hdec : decode cc pc = .ok (.invokevirtual index, 3)) (kk : xg X G cs μ I P L (pc + 3) (.int (aRouteOf (I (P m 0)) r w) :: rest)) : xg X G cs μ I P L pc (.int w :: .int r :: .ref (xZ G + m) :: rest) :=
  r_callV hC (c_X5_routeOf X.2.1 km ks ls hinv) hG rfl rfl rfl hd_X5_routeOf hR (by rw [km]; decide) (xe_Model km) rfl rfl rfl hW hL hcs hdec (by rintro v μ' I' P' ⟨rfl, rfl, rfl, rfl⟩; exact kk)
