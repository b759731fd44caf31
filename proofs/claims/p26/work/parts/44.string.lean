theorem bI_1 {b : Bool} (h : ¬ bI b = 0) : b = true := by cases b <;> simp_all [bI]
abbrev rm_J0_coder_7d493 : Room := { frames := 0, cells := 0, slots := 0, locals := 0 }
theorem wl_J0_coder_7d493_38 : Cond.fieldLink RJ0 38 "java/lang/String" "COMPACT_STRINGS" "Z" ∈ wsJ0_coder_7d493 := List.mem_of_getElem? (i := 1) (by decide +kernel)
theorem wl_J0_coder_7d493_15 : Cond.fieldLink RJ0 15 "java/lang/String" "coder" "B" ∈ wsJ0_coder_7d493 := List.mem_of_getElem? (i := 2) (by decide +kernel)
theorem hd_J0_coder_7d493 : yJ0_coder_7d493.cls = RJ0 ∧ yJ0_coder_7d493.cls ≠ "java/lang/invoke/MethodHandle" ∧ yJ0_coder_7d493.cls ≠ "java/lang/invoke/VarHandle" ∧ (parseMethodDescriptor yJ0_coder_7d493.desc).map (fun d => d.parameters.length) = some 0 := ⟨rfl, by decide +kernel, by decide +kernel, by decide +kernel⟩
set_option maxHeartbeats 4000000 in
set_option maxRecDepth 100000 in
theorem c_J0_coder_7d493 (l : Launch) {G : xG} {μ : xM} {I : xI} {P : xP} {i : Nat} (hi : i < 3) : Ct l yJ0_coder_7d493 wsJ0_coder_7d493 rm_J0_coder_7d493 G μ I P [.ref (xX G (3 + i))] 0 0 (fun vv μ' I' P' => vv = some (.int (0)) ∧ μ' = μ ∧ I' = (I) ∧ P' = (P)) := by
  refine Ct.of (cc := cJ0_coder_7d493) (maxL := 1) (ret := (some .byte)) [some (.ref (xX G (3 + i)))] (by decide) rfl rfl rfl (Nat.le_of_ble_eq_true rfl) ?_
  intro X hC hD h0 _
  refine r_gCOMPACT (pc := 0) hC wl_J0_coder_7d493_38 dJ0_coder_7d493_0 ?_
  refine r_if_eq (pc := 3) (tgt := 13) hC dJ0_coder_7d493_3 (by decide) (fun bq3 => ?_) (fun bq3 => ?_)
  · skip
    exact absurd bq3 (by decide)
  · skip
    refine r_aload_n (pc := 6) hC dJ0_coder_7d493_6 rfl ?_
    refine g_String_coder (pc := 7) hC (by assumption) wl_J0_coder_7d493_15 dJ0_coder_7d493_7 ?_
    refine r_goto (pc := 10) (tgt := 14) hC dJ0_coder_7d493_10 (by decide) ?_
    refine r_iret (pc := 14) hC hD rfl dJ0_coder_7d493_14 rfl ?_
    exact ⟨rfl, rfl, rfl, rfl⟩
theorem k_J0_coder_7d493 {X : xF} {G : xG} {cs : Nat × Nat} {μ : xM} {I : xI} {P : xP} {L : List (Option Value)} {pc : Nat} {rest : List Value} {cc : ByteArray} {Ts : List Cond} {own : String} {nL : Nat} {R : Room} (hC : xC X G cc Ts own nL R) {index : Nat} (hG : GoodIn Ts (wsV own index RJ0 yJ0_coder_7d493 wsJ0_coder_7d493)) (hR : rm_J0_coder_7d493.frames + 1 ≤ R.frames ∧ 8 + (1 + 11) + rm_J0_coder_7d493.locals ≤ R.locals) {i : Nat} (hi : i < 3) (hW : (rest.map fun v => v.category).sum ≤ 8) (hL : L.length = nL) (hcs : cs.1 ≤ R.cells ∧ cs.2 ≤ R.slots) (hdec : decode cc pc = .ok (.invokevirtual index, 3)) (kk : xg X G cs μ I P L (pc + 3) (.int (0) :: rest)) : xg X G cs μ I P L pc (.ref (xX G (3 + i)) :: rest) :=
  r_callVS hC rfl (c_J0_coder_7d493 X.2.1 hi) hG rfl rfl rfl hd_J0_coder_7d493 hR hi rfl rfl hW hL hcs hdec (by rintro v μ' I' P' ⟨rfl, rfl, rfl, rfl⟩; exact kk)
abbrev rm_J0_isLatin1_aae02 : Room := { frames := 0, cells := 0, slots := 0, locals := 0 }
theorem wl_J0_isLatin1_aae02_38 : Cond.fieldLink RJ0 38 "java/lang/String" "COMPACT_STRINGS" "Z" ∈ wsJ0_isLatin1_aae02 := List.mem_of_getElem? (i := 1) (by decide +kernel)
theorem wl_J0_isLatin1_aae02_15 : Cond.fieldLink RJ0 15 "java/lang/String" "coder" "B" ∈ wsJ0_isLatin1_aae02 := List.mem_of_getElem? (i := 2) (by decide +kernel)
theorem hd_J0_isLatin1_aae02 : yJ0_isLatin1_aae02.cls = RJ0 ∧ yJ0_isLatin1_aae02.cls ≠ "java/lang/invoke/MethodHandle" ∧ yJ0_isLatin1_aae02.cls ≠ "java/lang/invoke/VarHandle" ∧ (parseMethodDescriptor yJ0_isLatin1_aae02.desc).map (fun d => d.parameters.length) = some 0 := ⟨rfl, by decide +kernel, by decide +kernel, by decide +kernel⟩
set_option maxHeartbeats 4000000 in
set_option maxRecDepth 100000 in
theorem c_J0_isLatin1_aae02 (l : Launch) {G : xG} {μ : xM} {I : xI} {P : xP} {i : Nat} (hi : i < 3) : Ct l yJ0_isLatin1_aae02 wsJ0_isLatin1_aae02 rm_J0_isLatin1_aae02 G μ I P [.ref (xX G (3 + i))] 0 0 (fun vv μ' I' P' => vv = some (.int (1)) ∧ μ' = μ ∧ I' = (I) ∧ P' = (P)) := by
  refine Ct.of (cc := cJ0_isLatin1_aae02) (maxL := 1) (ret := (some .boolean)) [some (.ref (xX G (3 + i)))] (by decide) rfl rfl rfl (Nat.le_of_ble_eq_true rfl) ?_
  intro X hC hD h0 _
  refine r_gCOMPACT (pc := 0) hC wl_J0_isLatin1_aae02_38 dJ0_isLatin1_aae02_0 ?_
  refine r_if_eq (pc := 3) (tgt := 17) hC dJ0_isLatin1_aae02_3 (by decide) (fun bq3 => ?_) (fun bq3 => ?_)
  · skip
    exact absurd bq3 (by decide)
  · skip
    refine r_aload_n (pc := 6) hC dJ0_isLatin1_aae02_6 rfl ?_
    refine g_String_coder (pc := 7) hC (by assumption) wl_J0_isLatin1_aae02_15 dJ0_isLatin1_aae02_7 ?_
    refine r_if_ne (pc := 10) (tgt := 17) hC dJ0_isLatin1_aae02_10 (by decide) (fun bq10 => ?_) (fun bq10 => ?_)
    · skip
      exact absurd rfl bq10
    · skip
      refine r_iconst (pc := 13) (v := 1) hC dJ0_isLatin1_aae02_13 (by decide) ?_
      refine r_goto (pc := 14) (tgt := 18) hC dJ0_isLatin1_aae02_14 (by decide) ?_
      refine r_iret (pc := 18) hC hD rfl dJ0_isLatin1_aae02_18 rfl ?_
      exact ⟨rfl, rfl, rfl, rfl⟩
theorem k_J0_isLatin1_aae02 {X : xF} {G : xG} {cs : Nat × Nat} {μ : xM} {I : xI} {P : xP} {L : List (Option Value)} {pc : Nat} {rest : List Value} {cc : ByteArray} {Ts : List Cond} {own : String} {nL : Nat} {R : Room} (hC : xC X G cc Ts own nL R) {index : Nat} (hG : GoodIn Ts (wsV own index RJ0 yJ0_isLatin1_aae02 wsJ0_isLatin1_aae02)) (hR : rm_J0_isLatin1_aae02.frames + 1 ≤ R.frames ∧ 8 + (1 + 11) + rm_J0_isLatin1_aae02.locals ≤ R.locals) {i : Nat} (hi : i < 3) (hW : (rest.map fun v => v.category).sum ≤ 8) (hL : L.length = nL) (hcs : cs.1 ≤ R.cells ∧ cs.2 ≤ R.slots) (hdec : decode cc pc = .ok (.invokevirtual index, 3)) (kk : xg X G cs μ I P L (pc + 3) (.int (1) :: rest)) : xg X G cs μ I P L pc (.ref (xX G (3 + i)) :: rest) :=
  r_callVS hC rfl (c_J0_isLatin1_aae02 X.2.1 hi) hG rfl rfl rfl hd_J0_isLatin1_aae02 hR hi rfl rfl hW hL hcs hdec (by rintro v μ' I' P' ⟨rfl, rfl, rfl, rfl⟩; exact kk)
abbrev rm_J0_length_8abf5 : Room := { frames := 1, cells := 0, slots := 0, locals := 20 }
theorem wl_J0_length_8abf5_9 : Cond.fieldLink RJ0 9 "java/lang/String" "value" "[B" ∈ wsJ0_length_8abf5 := List.mem_of_getElem? (i := 1) (by decide +kernel)
theorem hd_J0_length_8abf5 : yJ0_length_8abf5.cls = RJ0 ∧ yJ0_length_8abf5.cls ≠ "java/lang/invoke/MethodHandle" ∧ yJ0_length_8abf5.cls ≠ "java/lang/invoke/VarHandle" ∧ (parseMethodDescriptor yJ0_length_8abf5.desc).map (fun d => d.parameters.length) = some 0 := ⟨rfl, by decide +kernel, by decide +kernel, by decide +kernel⟩
set_option maxHeartbeats 4000000 in
set_option maxRecDepth 100000 in
theorem c_J0_length_8abf5 (l : Launch) {G : xG} {μ : xM} {I : xI} {P : xP} {i : Nat} (hi : i < 3) : Ct l yJ0_length_8abf5 wsJ0_length_8abf5 rm_J0_length_8abf5 G μ I P [.ref (xX G (3 + i))] 0 0 (fun vv μ' I' P' => vv = some (.int (nI (slen i))) ∧ μ' = μ ∧ I' = (I) ∧ P' = (P)) := by
  refine Ct.of (cc := cJ0_length_8abf5) (maxL := 1) (ret := (some .int)) [some (.ref (xX G (3 + i)))] (by decide) rfl rfl rfl (Nat.le_of_ble_eq_true rfl) ?_
  intro X hC hD h0 _
  refine r_aload_n (pc := 0) hC dJ0_length_8abf5_0 rfl ?_
  refine g_String_value (pc := 1) hC (by assumption) wl_J0_length_8abf5_9 dJ0_length_8abf5_1 ?_
  refine r_slen (pc := 4) hC (i := i) hi dJ0_length_8abf5_4 ?_
  refine r_aload_n (pc := 5) hC dJ0_length_8abf5_5 rfl ?_
  refine k_J0_coder_7d493 (pc := 6) hC gJ0_length_8abf5_J0_coder_7d493 ⟨Nat.le_of_ble_eq_true rfl, Nat.le_of_ble_eq_true rfl⟩ (by assumption) (Nat.le_of_ble_eq_true rfl) rfl ⟨Nat.zero_le _, Nat.zero_le _⟩ dJ0_length_8abf5_6 ?_
  refine r_ishr (pc := 9) hC dJ0_length_8abf5_9 ?_
  rw [slen_sh hi]
  refine r_iret (pc := 10) hC hD rfl dJ0_length_8abf5_10 rfl ?_
  exact ⟨rfl, rfl, rfl, rfl⟩
theorem k_J0_length_8abf5 {X : xF} {G : xG} {cs : Nat × Nat} {μ : xM} {I : xI} {P : xP} {L : List (Option Value)} {pc : Nat} {rest : List Value} {cc : ByteArray} {Ts : List Cond} {own : String} {nL : Nat} {R : Room} (hC : xC X G cc Ts own nL R) {index : Nat} (hG : GoodIn Ts (wsV own index RJ0 yJ0_length_8abf5 wsJ0_length_8abf5)) (hR : rm_J0_length_8abf5.frames + 1 ≤ R.frames ∧ 8 + (1 + 11) + rm_J0_length_8abf5.locals ≤ R.locals) {i : Nat} (hi : i < 3) (hW : (rest.map fun v => v.category).sum ≤ 8) (hL : L.length = nL) (hcs : cs.1 ≤ R.cells ∧ cs.2 ≤ R.slots) (hdec : decode cc pc = .ok (.invokevirtual index, 3)) (kk : xg X G cs μ I P L (pc + 3) (.int (nI (slen i)) :: rest)) : xg X G cs μ I P L pc (.ref (xX G (3 + i)) :: rest) :=
  r_callVS hC rfl (c_J0_length_8abf5 X.2.1 hi) hG rfl rfl rfl hd_J0_length_8abf5 hR hi rfl rfl hW hL hcs hdec (by rintro v μ' I' P' ⟨rfl, rfl, rfl, rfl⟩; exact kk)
abbrev rm_J3_checkIndex_8e157 : Room := { frames := 0, cells := 0, slots := 0, locals := 0 }
theorem hd_J3_checkIndex_8e157 : yJ3_checkIndex_8e157.cls = RJ3 ∧ yJ3_checkIndex_8e157.cls ≠ "java/lang/invoke/MethodHandle" ∧ yJ3_checkIndex_8e157.cls ≠ "java/lang/invoke/VarHandle" ∧ (parseMethodDescriptor yJ3_checkIndex_8e157.desc).map (fun d => d.parameters.length) = some 3 := ⟨rfl, by decide +kernel, by decide +kernel, by decide +kernel⟩
set_option maxHeartbeats 4000000 in
set_option maxRecDepth 100000 in
theorem c_J3_checkIndex_8e157_n (l : Launch) {G : xG} {μ : xM} {I : xI} {P : xP} {k n : Nat} (hkn : k < n) (hn : n < 2 ^ 31) : Ct l yJ3_checkIndex_8e157 wsJ3_checkIndex_8e157 rm_J3_checkIndex_8e157 G μ I P [.int (nI k), .int (nI n), .null] 0 0 (fun vv μ' I' P' => vv = some (.int (nI k)) ∧ μ' = μ ∧ I' = (I) ∧ P' = (P)) := by
  refine Ct.of (cc := cJ3_checkIndex_8e157) (maxL := 3) (ret := (some .int)) [some (.int (nI k)), some (.int (nI n)), some (.null)] (by decide) rfl rfl rfl (Nat.le_of_ble_eq_true rfl) ?_
  intro X hC hD h0 _
  refine r_iload_n (pc := 0) hC dJ3_checkIndex_8e157_0 rfl ?_
  refine r_if_lt (pc := 1) (tgt := 9) hC dJ3_checkIndex_8e157_1 (by decide) (fun bq1 => ?_) (fun bq1 => ?_)
  · skip
    exact absurd bq1 (nI_pos (by omega))
  · skip
    refine r_iload_n (pc := 4) hC dJ3_checkIndex_8e157_4 rfl ?_
    refine r_iload_n (pc := 5) hC dJ3_checkIndex_8e157_5 rfl ?_
    refine r_icmp_lt (pc := 6) (tgt := 16) hC dJ3_checkIndex_8e157_6 (by decide) (fun bq6 => ?_) (fun bq6 => ?_)
    · skip
      refine r_iload_n (pc := 16) hC dJ3_checkIndex_8e157_16 rfl ?_
      refine r_iret (pc := 17) hC hD rfl dJ3_checkIndex_8e157_17 rfl ?_
      exact ⟨rfl, rfl, rfl, rfl⟩
    · skip
      exact absurd (nI_lt hkn hn) bq6
theorem k_J3_checkIndex_8e157_n {X : xF} {G : xG} {cs : Nat × Nat} {μ : xM} {I : xI} {P : xP} {L : List (Option Value)} {pc : Nat} {rest : List Value} {cc : ByteArray} {Ts : List Cond} {own : String} {nL : Nat} {R : Room} (hC : xC X G cc Ts own nL R) {index : Nat} (hG : GoodIn Ts (va_wsS own index yJ3_checkIndex_8e157 wsJ3_checkIndex_8e157)) (hR : rm_J3_checkIndex_8e157.frames + 1 ≤ R.frames ∧ 8 + (3 + 11) + rm_J3_checkIndex_8e157.locals ≤ R.locals) {k n : Nat} (hkn : k < n) (hn : n < 2 ^ 31) (hW : (rest.map fun v => v.category).sum ≤ 8) (hL : L.length = nL) (hcs : cs.1 ≤ R.cells ∧ cs.2 ≤ R.slots) (hdec : decode cc pc = .ok (.invokestatic index, 3)) (kk : xg X G cs μ I P L (pc + 3) (.int (nI k) :: rest)) : xg X G cs μ I P L pc (.null :: .int (nI n) :: .int (nI k) :: rest) :=
  r_callS hC (c_J3_checkIndex_8e157_n X.2.1 hkn hn) hG rfl rfl rfl hd_J3_checkIndex_8e157.2 hR rfl rfl hW hL hcs hdec (by rintro v μ' I' P' ⟨rfl, rfl, rfl, rfl⟩; exact kk)
set_option maxHeartbeats 4000000 in
set_option maxRecDepth 100000 in
theorem c_J3_checkIndex_8e157_r (l : Launch) {G : xG} {μ : xM} {I : xI} {P : xP} {k n : Nat} {sq : Nat} (hkn : k < n) (hn : n < 2 ^ 31) : Ct l yJ3_checkIndex_8e157 wsJ3_checkIndex_8e157 rm_J3_checkIndex_8e157 G μ I P [.int (nI k), .int (nI n), .ref sq] 0 0 (fun vv μ' I' P' => vv = some (.int (nI k)) ∧ μ' = μ ∧ I' = (I) ∧ P' = (P)) := by
  refine Ct.of (cc := cJ3_checkIndex_8e157) (maxL := 3) (ret := (some .int)) [some (.int (nI k)), some (.int (nI n)), some (.ref sq)] (by decide) rfl rfl rfl (Nat.le_of_ble_eq_true rfl) ?_
  intro X hC hD h0 _
  refine r_iload_n (pc := 0) hC dJ3_checkIndex_8e157_0 rfl ?_
  refine r_if_lt (pc := 1) (tgt := 9) hC dJ3_checkIndex_8e157_1 (by decide) (fun bq1 => ?_) (fun bq1 => ?_)
  · skip
    exact absurd bq1 (nI_pos (by omega))
  · skip
    refine r_iload_n (pc := 4) hC dJ3_checkIndex_8e157_4 rfl ?_
    refine r_iload_n (pc := 5) hC dJ3_checkIndex_8e157_5 rfl ?_
    refine r_icmp_lt (pc := 6) (tgt := 16) hC dJ3_checkIndex_8e157_6 (by decide) (fun bq6 => ?_) (fun bq6 => ?_)
    · skip
      refine r_iload_n (pc := 16) hC dJ3_checkIndex_8e157_16 rfl ?_
      refine r_iret (pc := 17) hC hD rfl dJ3_checkIndex_8e157_17 rfl ?_
      exact ⟨rfl, rfl, rfl, rfl⟩
    · skip
      exact absurd (nI_lt hkn hn) bq6
theorem k_J3_checkIndex_8e157_r {X : xF} {G : xG} {cs : Nat × Nat} {μ : xM} {I : xI} {P : xP} {L : List (Option Value)} {pc : Nat} {rest : List Value} {cc : ByteArray} {Ts : List Cond} {own : String} {nL : Nat} {R : Room} (hC : xC X G cc Ts own nL R) {index : Nat} (hG : GoodIn Ts (va_wsS own index yJ3_checkIndex_8e157 wsJ3_checkIndex_8e157)) (hR : rm_J3_checkIndex_8e157.frames + 1 ≤ R.frames ∧ 8 + (3 + 11) + rm_J3_checkIndex_8e157.locals ≤ R.locals) {k n : Nat} {sq : Nat} (hkn : k < n) (hn : n < 2 ^ 31) (hW : (rest.map fun v => v.category).sum ≤ 8) (hL : L.length = nL) (hcs : cs.1 ≤ R.cells ∧ cs.2 ≤ R.slots) (hdec : decode cc pc = .ok (.invokestatic index, 3)) (kk : xg X G cs μ I P L (pc + 3) (.int (nI k) :: rest)) : xg X G cs μ I P L pc (.ref sq :: .int (nI n) :: .int (nI k) :: rest) :=
  r_callS hC (c_J3_checkIndex_8e157_r X.2.1 hkn hn) hG rfl rfl rfl hd_J3_checkIndex_8e157.2 hR rfl rfl hW hL hcs hdec (by rintro v μ' I' P' ⟨rfl, rfl, rfl, rfl⟩; exact kk)
abbrev rm_J0_checkIndex_df160 : Room := { frames := 1, cells := 0, slots := 0, locals := 22 }
theorem wl_J0_checkIndex_df160_1053 : Cond.fieldLink RJ0 1053 "jdk/internal/util/Preconditions" "SIOOBE_FORMATTER" "Ljava/util/function/BiFunction;" ∈ wsJ0_checkIndex_df160 := List.mem_of_getElem? (i := 1) (by decide +kernel)
theorem hd_J0_checkIndex_df160 : yJ0_checkIndex_df160.cls = RJ0 ∧ yJ0_checkIndex_df160.cls ≠ "java/lang/invoke/MethodHandle" ∧ yJ0_checkIndex_df160.cls ≠ "java/lang/invoke/VarHandle" ∧ (parseMethodDescriptor yJ0_checkIndex_df160.desc).map (fun d => d.parameters.length) = some 2 := ⟨rfl, by decide +kernel, by decide +kernel, by decide +kernel⟩
set_option maxHeartbeats 4000000 in
set_option maxRecDepth 100000 in
theorem c_J0_checkIndex_df160 (l : Launch) {G : xG} {μ : xM} {I : xI} {P : xP} {k n : Nat} (hkn : k < n) (hn : n < 2 ^ 31) : Ct l yJ0_checkIndex_df160 wsJ0_checkIndex_df160 rm_J0_checkIndex_df160 G μ I P [.int (nI k), .int (nI n)] 0 0 (fun vv μ' I' P' => vv = none ∧ μ' = μ ∧ I' = (I) ∧ P' = (P)) := by
  refine Ct.of (cc := cJ0_checkIndex_df160) (maxL := 2) (ret := none) [some (.int (nI k)), some (.int (nI n))] (by decide) rfl rfl rfl (Nat.le_of_ble_eq_true rfl) ?_
  intro X hC hD h0 _
  refine r_iload_n (pc := 0) hC dJ0_checkIndex_df160_0 rfl ?_
  refine r_iload_n (pc := 1) hC dJ0_checkIndex_df160_1 rfl ?_
  refine r_gSIOOBE (pc := 2) hC wl_J0_checkIndex_df160_1053 dJ0_checkIndex_df160_2 ?_ (fun sq => ?_)
  · skip
    refine k_J3_checkIndex_8e157_n (pc := 5) hC gJ0_checkIndex_df160_J3_checkIndex_8e157 ⟨Nat.le_of_ble_eq_true rfl, Nat.le_of_ble_eq_true rfl⟩ hkn hn (Nat.le_of_ble_eq_true rfl) rfl ⟨Nat.zero_le _, Nat.zero_le _⟩ dJ0_checkIndex_df160_5 ?_
    refine r_pop (pc := 8) hC dJ0_checkIndex_df160_8 rfl ?_
    refine r_vret (pc := 9) hC hD dJ0_checkIndex_df160_9 rfl ?_
    exact ⟨rfl, rfl, rfl, rfl⟩
  · skip
    refine k_J3_checkIndex_8e157_r (pc := 5) hC gJ0_checkIndex_df160_J3_checkIndex_8e157 ⟨Nat.le_of_ble_eq_true rfl, Nat.le_of_ble_eq_true rfl⟩ hkn hn (Nat.le_of_ble_eq_true rfl) rfl ⟨Nat.zero_le _, Nat.zero_le _⟩ dJ0_checkIndex_df160_5 ?_
    refine r_pop (pc := 8) hC dJ0_checkIndex_df160_8 rfl ?_
    refine r_vret (pc := 9) hC hD dJ0_checkIndex_df160_9 rfl ?_
    exact ⟨rfl, rfl, rfl, rfl⟩
theorem k_J0_checkIndex_df160 {X : xF} {G : xG} {cs : Nat × Nat} {μ : xM} {I : xI} {P : xP} {L : List (Option Value)} {pc : Nat} {rest : List Value} {cc : ByteArray} {Ts : List Cond} {own : String} {nL : Nat} {R : Room} (hC : xC X G cc Ts own nL R) {index : Nat} (hG : GoodIn Ts (va_wsS own index yJ0_checkIndex_df160 wsJ0_checkIndex_df160)) (hR : rm_J0_checkIndex_df160.frames + 1 ≤ R.frames ∧ 8 + (2 + 11) + rm_J0_checkIndex_df160.locals ≤ R.locals) {k n : Nat} (hkn : k < n) (hn : n < 2 ^ 31) (hW : (rest.map fun v => v.category).sum ≤ 8) (hL : L.length = nL) (hcs : cs.1 ≤ R.cells ∧ cs.2 ≤ R.slots) (hdec : decode cc pc = .ok (.invokestatic index, 3)) (kk : xg X G cs μ I P L (pc + 3) rest) : xg X G cs μ I P L pc (.int (nI n) :: .int (nI k) :: rest) :=
  r_callS hC (c_J0_checkIndex_df160 X.2.1 hkn hn) hG rfl rfl rfl hd_J0_checkIndex_df160.2 hR rfl rfl hW hL hcs hdec (by rintro v μ' I' P' ⟨rfl, rfl, rfl, rfl⟩; exact kk)
abbrev rm_J1_charAt_3b067 : Room := { frames := 2, cells := 0, slots := 0, locals := 43 }
theorem hd_J1_charAt_3b067 : yJ1_charAt_3b067.cls = RJ1 ∧ yJ1_charAt_3b067.cls ≠ "java/lang/invoke/MethodHandle" ∧ yJ1_charAt_3b067.cls ≠ "java/lang/invoke/VarHandle" ∧ (parseMethodDescriptor yJ1_charAt_3b067.desc).map (fun d => d.parameters.length) = some 2 := ⟨rfl, by decide +kernel, by decide +kernel, by decide +kernel⟩
set_option maxHeartbeats 4000000 in
set_option maxRecDepth 100000 in
theorem c_J1_charAt_3b067 (l : Launch) {G : xG} {μ : xM} {I : xI} {P : xP} {i k : Nat} (hi : i < 3) (hk : k < slen i) : Ct l yJ1_charAt_3b067 wsJ1_charAt_3b067 rm_J1_charAt_3b067 G μ I P [.ref (xX G (6 + i)), .int (nI k)] 0 0 (fun vv μ' I' P' => vv = some (.int (sch i k)) ∧ μ' = μ ∧ I' = (I) ∧ P' = (P)) := by
  refine Ct.of (cc := cJ1_charAt_3b067) (maxL := 2) (ret := (some .char)) [some (.ref (xX G (6 + i))), some (.int (nI k))] (by decide) rfl rfl rfl (Nat.le_of_ble_eq_true rfl) ?_
  intro X hC hD h0 _
  refine r_iload_n (pc := 0) hC dJ1_charAt_3b067_0 rfl ?_
  refine r_aload_n (pc := 1) hC dJ1_charAt_3b067_1 rfl ?_
  refine r_slen (pc := 2) hC (i := i) hi dJ1_charAt_3b067_2 ?_
  refine k_J0_checkIndex_df160 (pc := 3) hC gJ1_charAt_3b067_J0_checkIndex_df160 ⟨Nat.le_of_ble_eq_true rfl, Nat.le_of_ble_eq_true rfl⟩ hk (by have := slen_7 (i := i); omega) (Nat.le_of_ble_eq_true rfl) rfl ⟨Nat.zero_le _, Nat.zero_le _⟩ dJ1_charAt_3b067_3 ?_
  refine r_aload_n (pc := 6) hC dJ1_charAt_3b067_6 rfl ?_
  refine r_iload_n (pc := 7) hC dJ1_charAt_3b067_7 rfl ?_
  refine r_sbyte (pc := 8) hC hi hk dJ1_charAt_3b067_8 ?_
  refine r_sipush (pc := 9) (v := 255) hC dJ1_charAt_3b067_9 (by decide) ?_
  refine r_iand (pc := 12) hC dJ1_charAt_3b067_12 ?_
  refine r_i2c (pc := 13) hC dJ1_charAt_3b067_13 ?_
  rw [(sch_ok hi hk).1]
  refine r_iret (pc := 14) hC hD (sch_ok hi hk).2 dJ1_charAt_3b067_14 rfl ?_
  exact ⟨rfl, rfl, rfl, rfl⟩
theorem k_J1_charAt_3b067 {X : xF} {G : xG} {cs : Nat × Nat} {μ : xM} {I : xI} {P : xP} {L : List (Option Value)} {pc : Nat} {rest : List Value} {cc : ByteArray} {Ts : List Cond} {own : String} {nL : Nat} {R : Room} (hC : xC X G cc Ts own nL R) {index : Nat} (hG : GoodIn Ts (va_wsS own index yJ1_charAt_3b067 wsJ1_charAt_3b067)) (hR : rm_J1_charAt_3b067.frames + 1 ≤ R.frames ∧ 8 + (2 + 11) + rm_J1_charAt_3b067.locals ≤ R.locals) {i k : Nat} (hi : i < 3) (hk : k < slen i) (hW : (rest.map fun v => v.category).sum ≤ 8) (hL : L.length = nL) (hcs : cs.1 ≤ R.cells ∧ cs.2 ≤ R.slots) (hdec : decode cc pc = .ok (.invokestatic index, 3)) (kk : xg X G cs μ I P L (pc + 3) (.int (sch i k) :: rest)) : xg X G cs μ I P L pc (.int (nI k) :: .ref (xX G (6 + i)) :: rest) :=
  r_callS hC (c_J1_charAt_3b067 X.2.1 hi hk) hG rfl rfl rfl hd_J1_charAt_3b067.2 hR rfl rfl hW hL hcs hdec (by rintro v μ' I' P' ⟨rfl, rfl, rfl, rfl⟩; exact kk)
abbrev rm_J0_charAt_5068e : Room := { frames := 3, cells := 0, slots := 0, locals := 64 }
theorem wl_J0_charAt_5068e_9 : Cond.fieldLink RJ0 9 "java/lang/String" "value" "[B" ∈ wsJ0_charAt_5068e := List.mem_of_getElem? (i := 1) (by decide +kernel)
theorem hd_J0_charAt_5068e : yJ0_charAt_5068e.cls = RJ0 ∧ yJ0_charAt_5068e.cls ≠ "java/lang/invoke/MethodHandle" ∧ yJ0_charAt_5068e.cls ≠ "java/lang/invoke/VarHandle" ∧ (parseMethodDescriptor yJ0_charAt_5068e.desc).map (fun d => d.parameters.length) = some 1 := ⟨rfl, by decide +kernel, by decide +kernel, by decide +kernel⟩
set_option maxHeartbeats 4000000 in
set_option maxRecDepth 100000 in
theorem c_J0_charAt_5068e (l : Launch) {G : xG} {μ : xM} {I : xI} {P : xP} {i k : Nat} (hi : i < 3) (hk : k < slen i) : Ct l yJ0_charAt_5068e wsJ0_charAt_5068e rm_J0_charAt_5068e G μ I P [.ref (xX G (3 + i)), .int (nI k)] 0 0 (fun vv μ' I' P' => vv = some (.int (sch i k)) ∧ μ' = μ ∧ I' = (I) ∧ P' = (P)) := by
  refine Ct.of (cc := cJ0_charAt_5068e) (maxL := 2) (ret := (some .char)) [some (.ref (xX G (3 + i))), some (.int (nI k))] (by decide) rfl rfl rfl (Nat.le_of_ble_eq_true rfl) ?_
  intro X hC hD h0 _
  refine r_aload_n (pc := 0) hC dJ0_charAt_5068e_0 rfl ?_
  refine k_J0_isLatin1_aae02 (pc := 1) hC gJ0_charAt_5068e_J0_isLatin1_aae02 ⟨Nat.le_of_ble_eq_true rfl, Nat.le_of_ble_eq_true rfl⟩ (by assumption) (Nat.le_of_ble_eq_true rfl) rfl ⟨Nat.zero_le _, Nat.zero_le _⟩ dJ0_charAt_5068e_1 ?_
  refine r_if_eq (pc := 4) (tgt := 16) hC dJ0_charAt_5068e_4 (by decide) (fun bq4 => ?_) (fun bq4 => ?_)
  · skip
    exact absurd bq4 (by decide)
  · skip
    refine r_aload_n (pc := 7) hC dJ0_charAt_5068e_7 rfl ?_
    refine g_String_value (pc := 8) hC (by assumption) wl_J0_charAt_5068e_9 dJ0_charAt_5068e_8 ?_
    refine r_iload_n (pc := 11) hC dJ0_charAt_5068e_11 rfl ?_
    refine k_J1_charAt_3b067 (pc := 12) hC gJ0_charAt_5068e_J1_charAt_3b067 ⟨Nat.le_of_ble_eq_true rfl, Nat.le_of_ble_eq_true rfl⟩ hi hk (Nat.le_of_ble_eq_true rfl) rfl ⟨Nat.zero_le _, Nat.zero_le _⟩ dJ0_charAt_5068e_12 ?_
    refine r_iret (pc := 15) hC hD (sch_ok hi hk).2 dJ0_charAt_5068e_15 rfl ?_
    exact ⟨rfl, rfl, rfl, rfl⟩
theorem k_J0_charAt_5068e {X : xF} {G : xG} {cs : Nat × Nat} {μ : xM} {I : xI} {P : xP} {L : List (Option Value)} {pc : Nat} {rest : List Value} {cc : ByteArray} {Ts : List Cond} {own : String} {nL : Nat} {R : Room} (hC : xC X G cc Ts own nL R) {index : Nat} (hG : GoodIn Ts (wsV own index RJ0 yJ0_charAt_5068e wsJ0_charAt_5068e)) (hR : rm_J0_charAt_5068e.frames + 1 ≤ R.frames ∧ 8 + (2 + 11) + rm_J0_charAt_5068e.locals ≤ R.locals) {i k : Nat} (hi : i < 3) (hk : k < slen i) (hW : (rest.map fun v => v.category).sum ≤ 8) (hL : L.length = nL) (hcs : cs.1 ≤ R.cells ∧ cs.2 ≤ R.slots) (hdec : decode cc pc = .ok (.invokevirtual index, 3)) (kk : xg X G cs μ I P L (pc + 3) (.int (sch i k) :: rest)) : xg X G cs μ I P L pc (.int (nI k) :: .ref (xX G (3 + i)) :: rest) :=
  r_callVS hC rfl (c_J0_charAt_5068e X.2.1 hi hk) hG rfl rfl rfl hd_J0_charAt_5068e hR hi rfl rfl hW hL hcs hdec (by rintro v μ' I' P' ⟨rfl, rfl, rfl, rfl⟩; exact kk)
abbrev rm_X2_isNamed : Room := { frames := 4, cells := 0, slots := 0, locals := 85 }
theorem wl_X2_isNamed_21 : Cond.fieldLink RX2 21 "HandBlinds$Row" "length" "I" ∈ wsX2_isNamed := List.mem_of_getElem? (i := 1) (by decide +kernel)
theorem wi_X2_isNamed_2 : ∀ w ∈ wsX20, w ∈ wsX2_isNamed := fun _ h => List.mem_cons_of_mem _ (List.mem_append_right _ h)
theorem wl_X2_isNamed_9 : Cond.fieldLink RX2 9 "HandBlinds$Row" "letters" "[C" ∈ wsX2_isNamed := List.mem_of_getElem? (i := 2) (by decide +kernel)
theorem hd_X2_isNamed : yX2_isNamed.cls = RX2 ∧ yX2_isNamed.cls ≠ "java/lang/invoke/MethodHandle" ∧ yX2_isNamed.cls ≠ "java/lang/invoke/VarHandle" ∧ (parseMethodDescriptor yX2_isNamed.desc).map (fun d => d.parameters.length) = some 1 := ⟨rfl, by decide +kernel, by decide +kernel, by decide +kernel⟩
set_option maxHeartbeats 4000000 in
set_option maxRecDepth 100000 in
theorem c_X2_isNamed (l : Launch) {G : xG} {μ : xM} {I : xI} {P : xP} {r n i : Nat} (kr : μ.2.1 r = 3) (kl : μ.2.1 (P r 0) = 8) (ll : μ.2.2 (P r 0) = 14) (hn1 : I r 1 = nI n) (hn14 : n ≤ 14) (hi : i < 3) : Ct l yX2_isNamed wsX2_isNamed rm_X2_isNamed G μ I P [.ref (xZ G + r), .ref (xX G (3 + i))] 0 0 (fun vv μ' I' P' => vv = some (.int (bI (nmd (I (P r 0)) n i))) ∧ μ' = μ ∧ I' = (I) ∧ P' = (P)) := by
  refine Ct.of (cc := cX2_isNamed) (maxL := 3) (ret := (some .boolean)) [some (.ref (xZ G + r)), some (.ref (xX G (3 + i))), none] (by decide) rfl rfl rfl (Nat.le_of_ble_eq_true rfl) ?_
  intro X hC hD h0 _
  have loop : ∀ (q k : Nat), k + q = n → n = slen i → eqN (I (P r 0)) (sch i) k = true → xg X G (0, 0) μ I P [some (.ref (xZ G + r)), some (.ref (xX G (3 + i))), some (.int (nI k))] 15 [] := by
    intro q
    induction q with
    | zero =>
      intro k hk hnt hno
      have ek : k = n := by omega
      subst ek
      refine r_iload_n (pc := 15) hC dX2_isNamed_15 rfl ?_
      refine r_aload_n (pc := 16) hC dX2_isNamed_16 rfl ?_
      refine g_Row_length (pc := 17) hC wi_X2_isNamed_2 wl_X2_isNamed_21 (by assumption) dX2_isNamed_17 ?_
      refine r_icmp_ge (pc := 20) (tgt := 45) hC dX2_isNamed_20 (by decide) (fun bq20 => ?_) (fun bq20 => ?_)
      · skip
        refine r_iconst (pc := 45) (v := 1) hC dX2_isNamed_45 (by decide) ?_
        refine r_iret (pc := 46) hC hD rfl dX2_isNamed_46 rfl ?_
        exact ⟨by rw [nmd, hno]; simp [← hnt, bI], rfl, rfl, rfl⟩
      · skip
        exact absurd (by rw [hn1]; exact nI_le (by omega) (by omega)) bq20
    | succ q ih =>
      intro k hk hnt hno
      refine r_iload_n (pc := 15) hC dX2_isNamed_15 rfl ?_
      refine r_aload_n (pc := 16) hC dX2_isNamed_16 rfl ?_
      refine g_Row_length (pc := 17) hC wi_X2_isNamed_2 wl_X2_isNamed_21 (by assumption) dX2_isNamed_17 ?_
      refine r_icmp_ge (pc := 20) (tgt := 45) hC dX2_isNamed_20 (by decide) (fun bq20 => ?_) (fun bq20 => ?_)
      · skip
        exact absurd bq20 (by rw [hn1]; exact nI_ge (by omega) (by omega))
      · skip
        refine r_aload_n (pc := 23) hC dX2_isNamed_23 rfl ?_
        refine g_Row_letters (pc := 24) hC wi_X2_isNamed_2 wl_X2_isNamed_9 (by assumption) (c2 := 8) (by assumption) (by decide) dX2_isNamed_24 ?_
        refine r_iload_n (pc := 27) hC dX2_isNamed_27 rfl ?_
        refine r_cald (pc := 28) hC kl (xi_n (by rw [ll]; omega) (by rw [ll]; decide)) dX2_isNamed_28 ?_
        refine r_aload_n (pc := 29) hC dX2_isNamed_29 rfl ?_
        refine r_iload_n (pc := 30) hC dX2_isNamed_30 rfl ?_
        refine k_J0_charAt_5068e (pc := 31) hC gX2_isNamed_J0_charAt_5068e ⟨Nat.le_of_ble_eq_true rfl, Nat.le_of_ble_eq_true rfl⟩ hi (by omega) (Nat.le_of_ble_eq_true rfl) rfl ⟨Nat.zero_le _, Nat.zero_le _⟩ dX2_isNamed_31 ?_
        refine r_icmp_eq (pc := 34) (tgt := 39) hC dX2_isNamed_34 (by decide) (fun bq34 => ?_) (fun bq34 => ?_)
        · skip
          refine r_iinc (pc := 39) (v := 1) (L' := [_, _, _]) hC dX2_isNamed_39 rfl (by decide) rfl rfl ?_
          refine r_goto (pc := 42) (tgt := 15) hC dX2_isNamed_42 (by decide) ?_
          rw [nI_1]; exact ih (k + 1) (by omega) hnt (by rw [eqN, hno, bq34]; simp)
        · skip
          refine r_iconst (pc := 37) (v := 0) hC dX2_isNamed_37 (by decide) ?_
          refine r_iret (pc := 38) hC hD rfl dX2_isNamed_38 rfl ?_
          have e : eqN (I (P r 0)) (sch i) (k + 1) = false := by simp [eqN, bq34]
          exact ⟨by rw [nmd, eqN_mono e (show k + 1 ≤ n by omega)]; simp [bI], rfl, rfl, rfl⟩
  refine r_aload_n (pc := 0) hC dX2_isNamed_0 rfl ?_
  refine g_Row_length (pc := 1) hC wi_X2_isNamed_2 wl_X2_isNamed_21 (by assumption) dX2_isNamed_1 ?_
  refine r_aload_n (pc := 4) hC dX2_isNamed_4 rfl ?_
  refine k_J0_length_8abf5 (pc := 5) hC gX2_isNamed_J0_length_8abf5 ⟨Nat.le_of_ble_eq_true rfl, Nat.le_of_ble_eq_true rfl⟩ hi (Nat.le_of_ble_eq_true rfl) rfl ⟨Nat.zero_le _, Nat.zero_le _⟩ dX2_isNamed_5 ?_
  refine r_icmp_eq (pc := 8) (tgt := 13) hC dX2_isNamed_8 (by decide) (fun bq8 => ?_) (fun bq8 => ?_)
  · skip
    refine r_iconst (pc := 13) (v := 0) hC dX2_isNamed_13 (by decide) ?_
    refine r_istore_n (pc := 14) (L' := [_, _, _]) hC dX2_isNamed_14 rfl (Nat.le_of_ble_eq_true rfl) rfl ?_
    have hsl := slen_7 (i := i)
    exact loop n 0 (by omega) ((nI_eq (by omega) (by omega)).mp (by rw [← hn1]; exact bq8)) rfl
  · skip
    refine r_iconst (pc := 11) (v := 0) hC dX2_isNamed_11 (by decide) ?_
    refine r_iret (pc := 12) hC hD rfl dX2_isNamed_12 rfl ?_
    have e : ¬ n = slen i := fun w => bq8 (by rw [hn1, w])
    exact ⟨by simp [nmd, e, bI], rfl, rfl, rfl⟩
theorem k_X2_isNamed {X : xF} {G : xG} {cs : Nat × Nat} {μ : xM} {I : xI} {P : xP} {L : List (Option Value)} {pc : Nat} {rest : List Value} {cc : ByteArray} {Ts : List Cond} {own : String} {nL : Nat} {R : Room} (hC : xC X G cc Ts own nL R) {index : Nat} (hG : GoodIn Ts (wsV own index RX2 yX2_isNamed wsX2_isNamed)) (hR : rm_X2_isNamed.frames + 1 ≤ R.frames ∧ 8 + (3 + 11) + rm_X2_isNamed.locals ≤ R.locals) {r n i : Nat} (kr : μ.2.1 r = 3) (kl : μ.2.1 (P r 0) = 8) (ll : μ.2.2 (P r 0) = 14) (hn1 : I r 1 = nI n) (hn14 : n ≤ 14) (hi : i < 3) (hW : (rest.map fun v => v.category).sum ≤ 8) (hL : L.length = nL) (hcs : cs.1 ≤ R.cells ∧ cs.2 ≤ R.slots) (hdec : decode cc pc = .ok (.invokevirtual index, 3)) (kk : xg X G cs μ I P L (pc + 3) (.int (bI (nmd (I (P r 0)) n i)) :: rest)) : xg X G cs μ I P L pc (.ref (xX G (3 + i)) :: .ref (xZ G + r) :: rest) :=
  r_callV hC (c_X2_isNamed X.2.1 kr kl ll hn1 hn14 hi) hG rfl rfl rfl hd_X2_isNamed hR (by rw [kr]; decide) (xe_Row kr) rfl rfl rfl hW hL hcs hdec (by rintro v μ' I' P' ⟨rfl, rfl, rfl, rfl⟩; exact kk)
abbrev rm_X2_kind : Room := { frames := 5, cells := 0, slots := 0, locals := 107 }
theorem wl_X2_kind_21 : Cond.fieldLink RX2 21 "HandBlinds$Row" "length" "I" ∈ wsX2_kind := List.mem_of_getElem? (i := 1) (by decide +kernel)
theorem wi_X2_kind_2 : ∀ w ∈ wsX20, w ∈ wsX2_kind := fun _ h => List.mem_cons_of_mem _ (List.mem_append_right _ h)
theorem hd_X2_kind : yX2_kind.cls = RX2 ∧ yX2_kind.cls ≠ "java/lang/invoke/MethodHandle" ∧ yX2_kind.cls ≠ "java/lang/invoke/VarHandle" ∧ (parseMethodDescriptor yX2_kind.desc).map (fun d => d.parameters.length) = some 0 := ⟨rfl, by decide +kernel, by decide +kernel, by decide +kernel⟩
set_option maxHeartbeats 4000000 in
set_option maxRecDepth 100000 in
theorem c_X2_kind (l : Launch) {G : xG} {μ : xM} {I : xI} {P : xP} {r n : Nat} (kr : μ.2.1 r = 3) (kl : μ.2.1 (P r 0) = 8) (ll : μ.2.2 (P r 0) = 14) (hn1 : I r 1 = nI n) (hn14 : n ≤ 14) : Ct l yX2_kind wsX2_kind rm_X2_kind G μ I P [.ref (xZ G + r)] 0 0 (fun vv μ' I' P' => vv = some (.int (kindC (I (P r 0)) n)) ∧ μ' = μ ∧ I' = (I) ∧ P' = (P)) := by
  refine Ct.of (cc := cX2_kind) (maxL := 1) (ret := (some .int)) [some (.ref (xZ G + r))] (by decide) rfl rfl rfl (Nat.le_of_ble_eq_true rfl) ?_
  intro X hC hD h0 _
  refine r_aload_n (pc := 0) hC dX2_kind_0 rfl ?_
  refine g_Row_length (pc := 1) hC wi_X2_kind_2 wl_X2_kind_21 (by assumption) dX2_kind_1 ?_
  refine r_iconst (pc := 4) (v := 1) hC dX2_kind_4 (by decide) ?_
  refine r_icmp_ne (pc := 5) (tgt := 10) hC dX2_kind_5 (by decide) (fun bq5 => ?_) (fun bq5 => ?_)
  · skip
    refine r_aload_n (pc := 10) hC dX2_kind_10 rfl ?_
    refine r_ldcS (pc := 11) hC (i := 0) (tx := "DEPOT") (fun q => q.2.2.2.2.2.2.2.2.1) dX2_kind_11 ?_
    refine k_X2_isNamed (pc := 13) hC gX2_kind_X2_isNamed ⟨Nat.le_of_ble_eq_true rfl, Nat.le_of_ble_eq_true rfl⟩ (i := 0) kr kl ll hn1 hn14 (by decide) (Nat.le_of_ble_eq_true rfl) rfl ⟨Nat.zero_le _, Nat.zero_le _⟩ dX2_kind_13 ?_
    refine r_if_eq (pc := 16) (tgt := 21) hC dX2_kind_16 (by decide) (fun bq16 => ?_) (fun bq16 => ?_)
    · skip
      refine r_aload_n (pc := 21) hC dX2_kind_21 rfl ?_
      refine r_ldcS (pc := 22) hC (i := 1) (tx := "SORRY") (fun q => q.2.2.2.2.2.2.2.2.2.1) dX2_kind_22 ?_
      refine k_X2_isNamed (pc := 24) hC gX2_kind_X2_isNamed ⟨Nat.le_of_ble_eq_true rfl, Nat.le_of_ble_eq_true rfl⟩ (i := 1) kr kl ll hn1 hn14 (by decide) (Nat.le_of_ble_eq_true rfl) rfl ⟨Nat.zero_le _, Nat.zero_le _⟩ dX2_kind_24 ?_
      refine r_if_eq (pc := 27) (tgt := 32) hC dX2_kind_27 (by decide) (fun bq27 => ?_) (fun bq27 => ?_)
      · skip
        refine r_aload_n (pc := 32) hC dX2_kind_32 rfl ?_
        refine r_ldcS (pc := 33) hC (i := 2) (tx := "PRIVATE") (fun q => q.2.2.2.2.2.2.2.2.2.2) dX2_kind_33 ?_
        refine k_X2_isNamed (pc := 35) hC gX2_kind_X2_isNamed ⟨Nat.le_of_ble_eq_true rfl, Nat.le_of_ble_eq_true rfl⟩ (i := 2) kr kl ll hn1 hn14 (by decide) (Nat.le_of_ble_eq_true rfl) rfl ⟨Nat.zero_le _, Nat.zero_le _⟩ dX2_kind_35 ?_
        refine r_if_eq (pc := 38) (tgt := 45) hC dX2_kind_38 (by decide) (fun bq38 => ?_) (fun bq38 => ?_)
        · skip
          refine r_iconst (pc := 45) (v := 0) hC dX2_kind_45 (by decide) ?_
          refine r_iret (pc := 46) hC hD rfl dX2_kind_46 rfl ?_
          have e : ¬ n = 1 := fun w => bq5 (by rw [hn1, w]; rfl)
          exact ⟨by rw [kindC, if_neg e, if_neg (by rw [bI_0.mp bq16]; decide), if_neg (by rw [bI_0.mp bq27]; decide), if_neg (by rw [bI_0.mp bq38]; decide)], rfl, rfl, rfl⟩
        · skip
          refine r_iconst (pc := 41) (v := 3) hC dX2_kind_41 (by decide) ?_
          refine r_goto (pc := 42) (tgt := 46) hC dX2_kind_42 (by decide) ?_
          refine r_iret (pc := 46) hC hD rfl dX2_kind_46 rfl ?_
          have e : ¬ n = 1 := fun w => bq5 (by rw [hn1, w]; rfl)
          exact ⟨by rw [kindC, if_neg e, if_neg (by rw [bI_0.mp bq16]; decide), if_neg (by rw [bI_0.mp bq27]; decide), if_pos (bI_1 bq38)], rfl, rfl, rfl⟩
      · skip
        refine r_iconst (pc := 30) (v := 2) hC dX2_kind_30 (by decide) ?_
        refine r_iret (pc := 31) hC hD rfl dX2_kind_31 rfl ?_
        have e : ¬ n = 1 := fun w => bq5 (by rw [hn1, w]; rfl)
        exact ⟨by rw [kindC, if_neg e, if_neg (by rw [bI_0.mp bq16]; decide), if_pos (bI_1 bq27)], rfl, rfl, rfl⟩
    · skip
      refine r_iconst (pc := 19) (v := 1) hC dX2_kind_19 (by decide) ?_
      refine r_iret (pc := 20) hC hD rfl dX2_kind_20 rfl ?_
      have e : ¬ n = 1 := fun w => bq5 (by rw [hn1, w]; rfl)
      exact ⟨by rw [kindC, if_neg e, if_pos (bI_1 bq16)], rfl, rfl, rfl⟩
  · skip
    refine r_iconst (pc := 8) (v := 4) hC dX2_kind_8 (by decide) ?_
    refine r_iret (pc := 9) hC hD rfl dX2_kind_9 rfl ?_
    have e : n = 1 := (nI_eq (b := 1) (by omega) (by decide)).mp (by rw [← hn1]; exact bq5)
    exact ⟨by rw [kindC, if_pos e], rfl, rfl, rfl⟩
theorem k_X2_kind {X : xF} {G : xG} {cs : Nat × Nat} {μ : xM} {I : xI} {P : xP} {L : List (Option Value)} {pc : Nat} {rest : List Value} {cc : ByteArray} {Ts : List Cond} {own : String} {nL : Nat} {R : Room} (hC : xC X G cc Ts own nL R) {index : Nat} (hG : GoodIn Ts (wsV own index RX2 yX2_kind wsX2_kind)) (hR : rm_X2_kind.frames + 1 ≤ R.frames ∧ 8 + (1 + 11) + rm_X2_kind.locals ≤ R.locals) {r n : Nat} (kr : μ.2.1 r = 3) (kl : μ.2.1 (P r 0) = 8) (ll : μ.2.2 (P r 0) = 14) (hn1 : I r 1 = nI n) (hn14 : n ≤ 14) (hW : (rest.map fun v => v.category).sum ≤ 8) (hL : L.length = nL) (hcs : cs.1 ≤ R.cells ∧ cs.2 ≤ R.slots) (hdec : decode cc pc = .ok (.invokevirtual index, 3)) (kk : xg X G cs μ I P L (pc + 3) (.int (kindC (I (P r 0)) n) :: rest)) : xg X G cs μ I P L pc (.ref (xZ G + r) :: rest) :=
  r_callV hC (c_X2_kind X.2.1 kr kl ll hn1 hn14) hG rfl rfl rfl hd_X2_kind hR (by rw [kr]; decide) (xe_Row kr) rfl rfl rfl hW hL hcs hdec (by rintro v μ' I' P' ⟨rfl, rfl, rfl, rfl⟩; exact kk)
