abbrev rm_J6_bitCount_0f7a4 : Room := { frames := 0, cells := 0, slots := 0, locals := 0 }
theorem wl_J6_bitCount_0f7a4_265 : Cond.constant RJ6 265 (1431655765) ∈ wsJ6_bitCount_0f7a4 := List.mem_of_getElem? (i := 1) (by decide +kernel)
theorem wl_J6_bitCount_0f7a4_266 : Cond.constant RJ6 266 (858993459) ∈ wsJ6_bitCount_0f7a4 := List.mem_of_getElem? (i := 2) (by decide +kernel)
theorem wl_J6_bitCount_0f7a4_267 : Cond.constant RJ6 267 (252645135) ∈ wsJ6_bitCount_0f7a4 := List.mem_of_getElem? (i := 3) (by decide +kernel)
theorem hd_J6_bitCount_0f7a4 : yJ6_bitCount_0f7a4.cls = RJ6 ∧ yJ6_bitCount_0f7a4.cls ≠ "java/lang/invoke/MethodHandle" ∧ yJ6_bitCount_0f7a4.cls ≠ "java/lang/invoke/VarHandle" ∧ (parseMethodDescriptor yJ6_bitCount_0f7a4.desc).map (fun d => d.parameters.length) = some 1 := ⟨rfl, by decide +kernel, by decide +kernel, by decide +kernel⟩
set_option maxHeartbeats 4000000 in
set_option maxRecDepth 100000 in
theorem c_J6_bitCount_0f7a4 (l : Launch) {G : xG} {μ : xM} {I : xI} {P : xP} {x : Int32} {N : Nat} (hx : x = nI N) (hN : N < 2 ^ 32) : Ct l yJ6_bitCount_0f7a4 wsJ6_bitCount_0f7a4 rm_J6_bitCount_0f7a4 G μ I P [.int x] 0 0 (fun vv μ' I' P' => vv = some (.int (nI (pcn 32 N))) ∧ μ' = μ ∧ I' = (I) ∧ P' = (P)) := by
  subst hx
  obtain ⟨y, hy⟩ : ∃ y, N - (N / 2 &&& 1431655765) = y := ⟨_, rfl⟩
  obtain ⟨z, hz⟩ : ∃ z, (y &&& 858993459) + (y / 4 &&& 858993459) = z := ⟨_, rfl⟩
  obtain ⟨c, hc⟩ : ∃ c, ((z + z / 16) &&& 252645135) = c := ⟨_, rfl⟩
  obtain ⟨w, hw⟩ : ∃ w, c + c / 256 = w := ⟨_, rfl⟩
  obtain ⟨v, hv⟩ : ∃ v, w + w / 65536 = v := ⟨_, rfl⟩
  obtain ⟨h63, hle, hyl, hzl, hcl, hwl⟩ := sw_all hN y z c w v hy hz hc hw hv
  refine Ct.of (cc := cJ6_bitCount_0f7a4) (maxL := 1) (ret := (some .int)) [some (.int (nI N))] (by decide) rfl rfl rfl (Nat.le_of_ble_eq_true rfl) ?_
  intro X hC hD h0 _
  refine r_iload_n (pc := 0) hC dJ6_bitCount_0f7a4_0 rfl ?_
  refine r_iload_n (pc := 1) hC dJ6_bitCount_0f7a4_1 rfl ?_
  refine r_iconst (pc := 2) (v := 1) hC dJ6_bitCount_0f7a4_2 (by decide) ?_
  refine r_iushr (pc := 3) hC dJ6_bitCount_0f7a4_3 ?_
  rw [show ((nI N).toUInt32 >>> ((1 : Int32).toUInt32 &&& Int32.toUInt32 31)).toInt32 = nI (N / 2) from pk_ushrN hN 1 1 (by decide)]
  refine r_ldc_w (pc := 4) (v := 1431655765) hC dJ6_bitCount_0f7a4_4 wl_J6_bitCount_0f7a4_265 ?_
  refine r_iand (pc := 7) hC dJ6_bitCount_0f7a4_7 ?_
  rw [show (1431655765 : Int32) = nI 1431655765 from rfl, nI_land]
  refine r_isub (pc := 8) hC dJ6_bitCount_0f7a4_8 ?_
  rw [pk_sub hle, hy]
  refine r_istore_n (pc := 9) (L' := [_]) hC dJ6_bitCount_0f7a4_9 rfl (Nat.le_of_ble_eq_true rfl) rfl ?_
  refine r_iload_n (pc := 10) hC dJ6_bitCount_0f7a4_10 rfl ?_
  refine r_ldc_w (pc := 11) (v := 858993459) hC dJ6_bitCount_0f7a4_11 wl_J6_bitCount_0f7a4_266 ?_
  refine r_iand (pc := 14) hC dJ6_bitCount_0f7a4_14 ?_
  rw [show (858993459 : Int32) = nI 858993459 from rfl, nI_land]
  refine r_iload_n (pc := 15) hC dJ6_bitCount_0f7a4_15 rfl ?_
  refine r_iconst (pc := 16) (v := 2) hC dJ6_bitCount_0f7a4_16 (by decide) ?_
  refine r_iushr (pc := 17) hC dJ6_bitCount_0f7a4_17 ?_
  rw [show ((nI y).toUInt32 >>> ((2 : Int32).toUInt32 &&& Int32.toUInt32 31)).toInt32 = nI (y / 4) from pk_ushrN hyl 2 2 (by decide)]
  refine r_ldc_w (pc := 18) (v := 858993459) hC dJ6_bitCount_0f7a4_18 wl_J6_bitCount_0f7a4_266 ?_
  refine r_iand (pc := 21) hC dJ6_bitCount_0f7a4_21 ?_
  rw [show (858993459 : Int32) = nI 858993459 from rfl, nI_land]
  refine r_iadd (pc := 22) hC dJ6_bitCount_0f7a4_22 ?_
  rw [nI_add, hz]
  refine r_istore_n (pc := 23) (L' := [_]) hC dJ6_bitCount_0f7a4_23 rfl (Nat.le_of_ble_eq_true rfl) rfl ?_
  refine r_iload_n (pc := 24) hC dJ6_bitCount_0f7a4_24 rfl ?_
  refine r_iload_n (pc := 25) hC dJ6_bitCount_0f7a4_25 rfl ?_
  refine r_iconst (pc := 26) (v := 4) hC dJ6_bitCount_0f7a4_26 (by decide) ?_
  refine r_iushr (pc := 27) hC dJ6_bitCount_0f7a4_27 ?_
  rw [show ((nI z).toUInt32 >>> ((4 : Int32).toUInt32 &&& Int32.toUInt32 31)).toInt32 = nI (z / 16) from pk_ushrN hzl 4 4 (by decide)]
  refine r_iadd (pc := 28) hC dJ6_bitCount_0f7a4_28 ?_
  rw [nI_add]
  refine r_ldc_w (pc := 29) (v := 252645135) hC dJ6_bitCount_0f7a4_29 wl_J6_bitCount_0f7a4_267 ?_
  refine r_iand (pc := 32) hC dJ6_bitCount_0f7a4_32 ?_
  rw [show (252645135 : Int32) = nI 252645135 from rfl, nI_land]
  rw [hc]
  refine r_istore_n (pc := 33) (L' := [_]) hC dJ6_bitCount_0f7a4_33 rfl (Nat.le_of_ble_eq_true rfl) rfl ?_
  refine r_iload_n (pc := 34) hC dJ6_bitCount_0f7a4_34 rfl ?_
  refine r_iload_n (pc := 35) hC dJ6_bitCount_0f7a4_35 rfl ?_
  refine r_bipush (pc := 36) (v := 8) hC dJ6_bitCount_0f7a4_36 (by decide) ?_
  refine r_iushr (pc := 38) hC dJ6_bitCount_0f7a4_38 ?_
  rw [show ((nI c).toUInt32 >>> ((8 : Int32).toUInt32 &&& Int32.toUInt32 31)).toInt32 = nI (c / 256) from pk_ushrN hcl 8 8 (by decide)]
  refine r_iadd (pc := 39) hC dJ6_bitCount_0f7a4_39 ?_
  rw [nI_add, hw]
  refine r_istore_n (pc := 40) (L' := [_]) hC dJ6_bitCount_0f7a4_40 rfl (Nat.le_of_ble_eq_true rfl) rfl ?_
  refine r_iload_n (pc := 41) hC dJ6_bitCount_0f7a4_41 rfl ?_
  refine r_iload_n (pc := 42) hC dJ6_bitCount_0f7a4_42 rfl ?_
  refine r_bipush (pc := 43) (v := 16) hC dJ6_bitCount_0f7a4_43 (by decide) ?_
  refine r_iushr (pc := 45) hC dJ6_bitCount_0f7a4_45 ?_
  rw [show ((nI w).toUInt32 >>> ((16 : Int32).toUInt32 &&& Int32.toUInt32 31)).toInt32 = nI (w / 65536) from pk_ushrN hwl 16 16 (by decide)]
  refine r_iadd (pc := 46) hC dJ6_bitCount_0f7a4_46 ?_
  rw [nI_add, hv]
  refine r_istore_n (pc := 47) (L' := [_]) hC dJ6_bitCount_0f7a4_47 rfl (Nat.le_of_ble_eq_true rfl) rfl ?_
  refine r_iload_n (pc := 48) hC dJ6_bitCount_0f7a4_48 rfl ?_
  refine r_bipush (pc := 49) (v := 63) hC dJ6_bitCount_0f7a4_49 (by decide) ?_
  refine r_iand (pc := 51) hC dJ6_bitCount_0f7a4_51 ?_
  rw [show (63 : Int32) = nI 63 from rfl, nI_land]
  rw [h63]
  refine r_iret (pc := 52) hC hD rfl dJ6_bitCount_0f7a4_52 rfl ?_
  exact ⟨rfl, rfl, rfl, rfl⟩
theorem k_J6_bitCount_0f7a4 {X : xF} {G : xG} {cs : Nat × Nat} {μ : xM} {I : xI} {P : xP} {L : List (Option Value)} {pc : Nat} {rest : List Value} {cc : ByteArray} {Ts : List Cond} {own : String} {nL : Nat} {R : Room} (hC : xC X G cc Ts own nL R) {index : Nat} (hG : GoodIn Ts (va_wsS own index yJ6_bitCount_0f7a4 wsJ6_bitCount_0f7a4)) (hR : rm_J6_bitCount_0f7a4.frames + 1 ≤ R.frames ∧ 8 + (1 + 11) + rm_J6_bitCount_0f7a4.locals ≤ R.locals) {x : Int32} {N : Nat} (hx : x = nI N) (hN : N < 2 ^ 32) (hW : (rest.map fun v => v.category).sum ≤ 8) (hL : L.length = nL) (hcs : cs.1 ≤ R.cells ∧ cs.2 ≤ R.slots) (hdec : decode cc pc = .ok (.invokestatic index, 3)) (kk : xg X G cs μ I P L (pc + 3) (.int (nI (pcn 32 N)) :: rest)) : xg X G cs μ I P L pc (.int x :: rest) :=
  r_callS hC (c_J6_bitCount_0f7a4 X.2.1 hx hN) hG rfl rfl rfl hd_J6_bitCount_0f7a4.2 hR rfl rfl hW hL hcs hdec (by rintro v μ' I' P' ⟨rfl, rfl, rfl, rfl⟩; exact kk)
