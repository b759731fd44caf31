abbrev rm_X5_alike : Room := { frames := 1, cells := 0, slots := 0, locals := 22 }
theorem wl_X5_alike_92 : Cond.constant RX5 92 (-1000001) ∈ wsX5_alike := List.mem_of_getElem? (i := 1) (by decide +kernel)
theorem hd_X5_alike : yX5_alike.cls = RX5 ∧ yX5_alike.cls ≠ "java/lang/invoke/MethodHandle" ∧ yX5_alike.cls ≠ "java/lang/invoke/VarHandle" ∧ (parseMethodDescriptor yX5_alike.desc).map (fun d => d.parameters.length) = some 2 := ⟨rfl, by decide +kernel, by decide +kernel, by decide +kernel⟩
set_option maxHeartbeats 4000000 in
set_option maxRecDepth 100000 in
theorem c_X5_alike (l : Launch) {G : xG} {μ : xM} {I : xI} {P : xP} {m n q : Nat} {a b : Int32} (km : μ.2.1 m = 6) (ks : μ.2.1 (P m 0) = 7) (ls : μ.2.2 (P m 0) = 369) (hinv : invN (I (P m 0)) n q) : Ct l yX5_alike wsX5_alike rm_X5_alike G μ I P [.ref (xZ G + m), .int a, .int b] 0 0 (fun vv μ' I' P' => vv = some (.int (aAlike (I (P m 0)) a b)) ∧ μ' = μ ∧ I' = (I) ∧ P' = (P)) := by
  obtain ⟨hn20, hn, hq6, hq, hsh, hdr, h8r, h9r, h10r, hrows⟩ := id hinv
  refine Ct.of (cc := cX5_alike) (maxL := 4) (ret := (some .int)) [some (.ref (xZ G + m)), some (.int a), some (.int b), none] (by decide) rfl rfl rfl (Nat.le_of_ble_eq_true rfl) ?_
  intro X hC hD h0 _
  refine r_aload_n (pc := 0) hC dX5_alike_0 rfl ?_
  refine r_iload_n (pc := 1) hC dX5_alike_1 rfl ?_
  refine k_X5_isRow (pc := 2) hC gX5_alike_X5_isRow ⟨Nat.le_of_ble_eq_true rfl, Nat.le_of_ble_eq_true rfl⟩ (by assumption) (by assumption) (by assumption) (Nat.le_of_ble_eq_true rfl) rfl ⟨Nat.zero_le _, Nat.zero_le _⟩ dX5_alike_2 ?_
  refine r_if_eq (pc := 5) (tgt := 16) hC dX5_alike_5 (by decide) (fun bq5 => ?_) (fun bq5 => ?_)
  · skip
    refine r_ldc (pc := 16) (v := -1000001) hC dX5_alike_16 wl_X5_alike_92 ?_
    refine r_iret (pc := 18) hC hD rfl dX5_alike_18 rfl ?_
    exact ⟨by rw [aAlike, if_pos bq5], rfl, rfl, rfl⟩
  · skip
    refine r_aload_n (pc := 8) hC dX5_alike_8 rfl ?_
    refine r_iload_n (pc := 9) hC dX5_alike_9 rfl ?_
    refine k_X5_isRow (pc := 10) hC gX5_alike_X5_isRow ⟨Nat.le_of_ble_eq_true rfl, Nat.le_of_ble_eq_true rfl⟩ (by assumption) (by assumption) (by assumption) (Nat.le_of_ble_eq_true rfl) rfl ⟨Nat.zero_le _, Nat.zero_le _⟩ dX5_alike_10 ?_
    refine r_if_ne (pc := 13) (tgt := 19) hC dX5_alike_13 (by decide) (fun bq13 => ?_) (fun bq13 => ?_)
    · skip
      obtain ⟨ka, hka, rfl⟩ := isR_of bq5 hn (by omega)
      have hkac : (nI ka).toNatClampNeg = ka := nI_clamp (by omega)
      obtain ⟨Lka, hL1ka, hL14ka, hlka, hnmka, htnka⟩ := hrows ka hka
      have hlenka : sLen (I (P m 0)) ka = Lka := sLen_of hlka (by omega)
      obtain ⟨kb, hkb, rfl⟩ := isR_of bq13 hn (by omega)
      have hkbc : (nI kb).toNatClampNeg = kb := nI_clamp (by omega)
      obtain ⟨Lkb, hL1kb, hL14kb, hlkb, hnmkb, htnkb⟩ := hrows kb hkb
      have hlenkb : sLen (I (P m 0)) kb = Lkb := sLen_of hlkb (by omega)
      refine r_iconst (pc := 19) (v := 0) hC dX5_alike_19 (by decide) ?_
      refine r_istore_n (pc := 20) (L' := [_, _, _, _]) hC dX5_alike_20 rfl (Nat.le_of_ble_eq_true rfl) rfl ?_
      have loop : ∀ (q j : Nat), j + q = 14 → (∀ i, i < j → pfxP (sLet (I (P m 0)) ka) (sLet (I (P m 0)) kb) Lka Lkb i = false) → xg X G (0, 0) μ I P [some (.ref (xZ G + m)), some (.int (nI ka)), some (.int (nI kb)), some (.int (nI j))] 21 [] := by
        intro q
        induction q with
        | zero =>
          intro j hj hno
          refine r_iload_n (pc := 21) hC dX5_alike_21 rfl ?_
          refine r_aload_n (pc := 22) hC dX5_alike_22 rfl ?_
          refine r_iload_n (pc := 23) hC dX5_alike_23 rfl ?_
          refine r_iconst (pc := 24) (v := 0) hC dX5_alike_24 (by decide) ?_
          refine k_X5_of (pc := 25) hC gX5_alike_X5_of ⟨Nat.le_of_ble_eq_true rfl, Nat.le_of_ble_eq_true rfl⟩ (k := 11 + 17 * ka) km ks ls (by simp only [xlit, nI_add, pk_mul] <;> exact congrArg nI (by omega)) (by omega) (Nat.le_of_ble_eq_true rfl) rfl ⟨Nat.zero_le _, Nat.zero_le _⟩ dX5_alike_25 ?_
          refine r_icmp_ge (pc := 28) (tgt := 66) hC dX5_alike_28 (by decide) (fun bq28 => ?_) (fun bq28 => ?_)
          · skip
            refine r_iload_n (pc := 66) hC dX5_alike_66 rfl ?_
            refine r_iret (pc := 67) hC hD rfl dX5_alike_67 rfl ?_
            have hp : pfxP (sLet (I (P m 0)) ka) (sLet (I (P m 0)) kb) Lka Lkb j = true := by
              simp [pfxP, (nI_leI (a := Lka) (b := j) (by omega) (by omega)).mp (by rw [← hlka]; exact bq28)]
            have hx : pfx (sLet (I (P m 0)) ka) (sLet (I (P m 0)) kb) Lka Lkb = j := srch_at 14 0 j (by omega) (by omega) (fun i _ hi => hno i hi) (Or.inr hp)
            exact ⟨by rw [aAlike, if_neg bq5, if_neg bq13, hkac, hkbc, hlenka, hlenkb, hx], rfl, rfl, rfl⟩
          · skip
            exact absurd (by rw [hlka]; exact nI_le (by omega) (by omega)) bq28
        | succ q ih =>
          intro j hj hno
          refine r_iload_n (pc := 21) hC dX5_alike_21 rfl ?_
          refine r_aload_n (pc := 22) hC dX5_alike_22 rfl ?_
          refine r_iload_n (pc := 23) hC dX5_alike_23 rfl ?_
          refine r_iconst (pc := 24) (v := 0) hC dX5_alike_24 (by decide) ?_
          refine k_X5_of (pc := 25) hC gX5_alike_X5_of ⟨Nat.le_of_ble_eq_true rfl, Nat.le_of_ble_eq_true rfl⟩ (k := 11 + 17 * ka) km ks ls (by simp only [xlit, nI_add, pk_mul] <;> exact congrArg nI (by omega)) (by omega) (Nat.le_of_ble_eq_true rfl) rfl ⟨Nat.zero_le _, Nat.zero_le _⟩ dX5_alike_25 ?_
          refine r_icmp_ge (pc := 28) (tgt := 66) hC dX5_alike_28 (by decide) (fun bq28 => ?_) (fun bq28 => ?_)
          · skip
            refine r_iload_n (pc := 66) hC dX5_alike_66 rfl ?_
            refine r_iret (pc := 67) hC hD rfl dX5_alike_67 rfl ?_
            have hp : pfxP (sLet (I (P m 0)) ka) (sLet (I (P m 0)) kb) Lka Lkb j = true := by
              simp [pfxP, (nI_leI (a := Lka) (b := j) (by omega) (by omega)).mp (by rw [← hlka]; exact bq28)]
            have hx : pfx (sLet (I (P m 0)) ka) (sLet (I (P m 0)) kb) Lka Lkb = j := srch_at 14 0 j (by omega) (by omega) (fun i _ hi => hno i hi) (Or.inr hp)
            exact ⟨by rw [aAlike, if_neg bq5, if_neg bq13, hkac, hkbc, hlenka, hlenkb, hx], rfl, rfl, rfl⟩
          · skip
            refine r_iload_n (pc := 31) hC dX5_alike_31 rfl ?_
            refine r_aload_n (pc := 32) hC dX5_alike_32 rfl ?_
            refine r_iload_n (pc := 33) hC dX5_alike_33 rfl ?_
            refine r_iconst (pc := 34) (v := 0) hC dX5_alike_34 (by decide) ?_
            refine k_X5_of (pc := 35) hC gX5_alike_X5_of ⟨Nat.le_of_ble_eq_true rfl, Nat.le_of_ble_eq_true rfl⟩ (k := 11 + 17 * kb) km ks ls (by simp only [xlit, nI_add, pk_mul] <;> exact congrArg nI (by omega)) (by omega) (Nat.le_of_ble_eq_true rfl) rfl ⟨Nat.zero_le _, Nat.zero_le _⟩ dX5_alike_35 ?_
            refine r_icmp_ge (pc := 38) (tgt := 66) hC dX5_alike_38 (by decide) (fun bq38 => ?_) (fun bq38 => ?_)
            · skip
              refine r_iload_n (pc := 66) hC dX5_alike_66 rfl ?_
              refine r_iret (pc := 67) hC hD rfl dX5_alike_67 rfl ?_
              have hp : pfxP (sLet (I (P m 0)) ka) (sLet (I (P m 0)) kb) Lka Lkb j = true := by
                simp [pfxP, (nI_leI (a := Lkb) (b := j) (by omega) (by omega)).mp (by rw [← hlkb]; exact bq38)]
              have hx : pfx (sLet (I (P m 0)) ka) (sLet (I (P m 0)) kb) Lka Lkb = j := srch_at 14 0 j (by omega) (by omega) (fun i _ hi => hno i hi) (Or.inr hp)
              exact ⟨by rw [aAlike, if_neg bq5, if_neg bq13, hkac, hkbc, hlenka, hlenkb, hx], rfl, rfl, rfl⟩
            · skip
              refine r_aload_n (pc := 41) hC dX5_alike_41 rfl ?_
              refine r_iload_n (pc := 42) hC dX5_alike_42 rfl ?_
              refine r_iconst (pc := 43) (v := 3) hC dX5_alike_43 (by decide) ?_
              refine r_iload_n (pc := 44) hC dX5_alike_44 rfl ?_
              refine r_iadd (pc := 45) hC dX5_alike_45 ?_
              refine k_X5_of (pc := 46) hC gX5_alike_X5_of ⟨Nat.le_of_ble_eq_true rfl, Nat.le_of_ble_eq_true rfl⟩ (k := 14 + 17 * ka + j) km ks ls (by simp only [xlit, nI_add, pk_mul] <;> exact congrArg nI (by omega)) (by omega) (Nat.le_of_ble_eq_true rfl) rfl ⟨Nat.zero_le _, Nat.zero_le _⟩ dX5_alike_46 ?_
              refine r_aload_n (pc := 49) hC dX5_alike_49 rfl ?_
              refine r_iload_n (pc := 50) hC dX5_alike_50 rfl ?_
              refine r_iconst (pc := 51) (v := 3) hC dX5_alike_51 (by decide) ?_
              refine r_iload_n (pc := 52) hC dX5_alike_52 rfl ?_
              refine r_iadd (pc := 53) hC dX5_alike_53 ?_
              refine k_X5_of (pc := 54) hC gX5_alike_X5_of ⟨Nat.le_of_ble_eq_true rfl, Nat.le_of_ble_eq_true rfl⟩ (k := 14 + 17 * kb + j) km ks ls (by simp only [xlit, nI_add, pk_mul] <;> exact congrArg nI (by omega)) (by omega) (Nat.le_of_ble_eq_true rfl) rfl ⟨Nat.zero_le _, Nat.zero_le _⟩ dX5_alike_54 ?_
              refine r_icmp_ne (pc := 57) (tgt := 66) hC dX5_alike_57 (by decide) (fun bq57 => ?_) (fun bq57 => ?_)
              · skip
                refine r_iload_n (pc := 66) hC dX5_alike_66 rfl ?_
                refine r_iret (pc := 67) hC hD rfl dX5_alike_67 rfl ?_
                have hp : pfxP (sLet (I (P m 0)) ka) (sLet (I (P m 0)) kb) Lka Lkb j = true := by
                  have hd : sLet (I (P m 0)) ka j ≠ sLet (I (P m 0)) kb j := bq57
                  simp [pfxP, hd]
                have hx : pfx (sLet (I (P m 0)) ka) (sLet (I (P m 0)) kb) Lka Lkb = j := srch_at 14 0 j (by omega) (by omega) (fun i _ hi => hno i hi) (Or.inr hp)
                exact ⟨by rw [aAlike, if_neg bq5, if_neg bq13, hkac, hkbc, hlenka, hlenkb, hx], rfl, rfl, rfl⟩
              · skip
                refine r_iinc (pc := 60) (v := 1) (L' := [_, _, _, _]) hC dX5_alike_60 rfl (by decide) rfl rfl ?_
                refine r_goto (pc := 63) (tgt := 21) hC dX5_alike_63 (by decide) ?_
                have hp : pfxP (sLet (I (P m 0)) ka) (sLet (I (P m 0)) kb) Lka Lkb j = false := by
                  have a1 : ¬ Lka ≤ j := fun w => bq28 (by rw [hlka]; exact nI_le w (by omega))
                  have a2 : ¬ Lkb ≤ j := fun w => bq38 (by rw [hlkb]; exact nI_le w (by omega))
                  have a3 : sLet (I (P m 0)) ka j = sLet (I (P m 0)) kb j := bq57
                  simp [pfxP, a1, a2, a3]
                rw [nI_1]
                exact ih (j + 1) (by omega) (fun i hi => by rcases Nat.lt_or_ge i j with y | y; exact hno i y; rw [show i = j by omega]; exact hp)
      exact loop 14 0 rfl (fun i hi => absurd hi (by omega))
    · skip
      refine r_ldc (pc := 16) (v := -1000001) hC dX5_alike_16 wl_X5_alike_92 ?_
      refine r_iret (pc := 18) hC hD rfl dX5_alike_18 rfl ?_
      exact ⟨by rw [aAlike, if_neg bq5, if_pos bq13], rfl, rfl, rfl⟩
theorem k_X5_alike {X : xF} {G : xG} {cs : Nat × Nat} {μ : xM} {I : xI} {P : xP} {L : List (Option Value)} {pc : Nat} {rest : List Value} {cc : ByteArray} {Ts : List Cond} {own : String} {nL : Nat} {R : Room} (hC : xC X G cc Ts own nL R) {index : Nat} (hG : GoodIn Ts (wsV own index RX5 yX5_alike wsX5_alike)) (hR : rm_X5_alike.frames + 1 ≤ R.frames ∧ 8 + (4 + 11) + rm_X5_alike.locals ≤ R.locals) {m n q : Nat} {a b : Int32} (km : μ.2.1 m = 6) (ks : μ.2.1 (P m 0) = 7) (ls : μ.2.2 (P m 0) = 369) (hinv : invN (I (P m 0)) n q) (hW : (rest.map fun v => v.category).sum ≤ 8) (hL : L.length = nL) (hcs : cs.1 ≤ R.cells ∧ cs.2 ≤ R.slots) (hdec : decode cc pc = .ok (.invokevirtual index, 3)) (kk : xg X G cs μ I P L (pc + 3) (.int (aAlike (I (P m 0)) a b) :: rest)) : xg X G cs μ I P L pc (.int b :: .int a :: .ref (xZ G + m) :: rest) :=
  r_callV hC (c_X5_alike X.2.1 km ks ls hinv) hG rfl rfl rfl hd_X5_alike hR (by rw [km]; decide) (xe_Model km) rfl rfl rfl hW hL hcs hdec (by rintro v μ' I' P' ⟨rfl, rfl, rfl, rfl⟩; exact kk)
abbrev rm_X5_find : Room := { frames := 1, cells := 0, slots := 0, locals := 22 }
theorem wl_X5_find_55 : Cond.fieldLink RX5 55 "HandBlindsModel" "typed" "I" ∈ wsX5_find := List.mem_of_getElem? (i := 2) (by decide +kernel)
theorem wi_X5_find_5 : ∀ w ∈ wsX50, w ∈ wsX5_find := fun _ h => List.mem_cons_of_mem _ (List.mem_append_right _ h)
theorem wl_X5_find_19 : Cond.fieldLink RX5 19 "HandBlindsModel" "text" "[I" ∈ wsX5_find := List.mem_of_getElem? (i := 3) (by decide +kernel)
theorem wl_X5_find_7 : Cond.fieldLink RX5 7 "HandBlindsModel" "s" "[I" ∈ wsX5_find := List.mem_of_getElem? (i := 1) (by decide +kernel)
theorem wl_X5_find_100 : Cond.constant RX5 100 (-1000004) ∈ wsX5_find := List.mem_of_getElem? (i := 4) (by decide +kernel)
theorem hd_X5_find : yX5_find.cls = RX5 ∧ yX5_find.cls ≠ "java/lang/invoke/MethodHandle" ∧ yX5_find.cls ≠ "java/lang/invoke/VarHandle" ∧ (parseMethodDescriptor yX5_find.desc).map (fun d => d.parameters.length) = some 0 := ⟨rfl, by decide +kernel, by decide +kernel, by decide +kernel⟩
set_option maxHeartbeats 4000000 in
set_option maxRecDepth 100000 in
theorem c_X5_find (l : Launch) {G : xG} {μ : xM} {I : xI} {P : xP} {m n q t : Nat} (km : μ.2.1 m = 6) (ks : μ.2.1 (P m 0) = 7) (ls : μ.2.2 (P m 0) = 369) (hinv : invN (I (P m 0)) n q) (kt : μ.2.1 (P m 4) = 7) (lt : μ.2.2 (P m 4) = 60) (hty : I m 5 = nI t) (ht60 : t ≤ 60) : Ct l yX5_find wsX5_find rm_X5_find G μ I P [.ref (xZ G + m)] 0 0 (fun vv μ' I' P' => vv = some (.int (aFind (I (P m 0)) (I (P m 4)) t n)) ∧ μ' = μ ∧ I' = (I) ∧ P' = (P)) := by
  obtain ⟨hn20, hn, hq6, hq, hsh, hdr, h8r, h9r, h10r, hrows⟩ := id hinv
  refine Ct.of (cc := cX5_find) (maxL := 4) (ret := (some .int)) [some (.ref (xZ G + m)), none, none, none] (by decide) rfl rfl rfl (Nat.le_of_ble_eq_true rfl) ?_
  intro X hC hD h0 _
  have inner : ∀ (r L : Nat), r < 20 → I (P m 0) (11 + 17 * r) = nI L → L ≤ 14 → (∀ kk : Nat, xg X G (0, 0) μ I P [some (.ref (xZ G + m)), some (.int (nI r)), some (.int (bI (isNm (I (P m 0)) (I (P m 4)) t r))), some (.int (nI kk))] 74 []) → ∀ (q k : Nat), k + q = t → xg X G (0, 0) μ I P [some (.ref (xZ G + m)), some (.int (nI r)), some (.int (bI (decide (L = t) && eqN (sLet (I (P m 0)) r) (I (P m 4)) k))), some (.int (nI k))] 33 [] := by
    intro r L hr hl hL14 hK q
    have hlen : sLen (I (P m 0)) r = L := sLen_of hl (by omega)
    induction q with
    | zero =>
      intro k hk
      have ek : k = t := by omega
      subst ek
      refine r_iload_n (pc := 33) hC dX5_find_33 rfl ?_
      refine r_aload_n (pc := 34) hC dX5_find_34 rfl ?_
      refine g_Model_typed (pc := 35) hC wi_X5_find_5 wl_X5_find_55 (by assumption) dX5_find_35 ?_
      refine r_icmp_ge (pc := 38) (tgt := 74) hC dX5_find_38 (by decide) (fun bq38 => ?_) (fun bq38 => ?_)
      · skip
        rw [show (decide (L = k) && eqN (sLet (I (P m 0)) r) (I (P m 4)) k) = isNm (I (P m 0)) (I (P m 4)) k r from by rw [isNm, hlen]]; exact hK _
      · skip
        rw [hty] at bq38; exact absurd (nI_le (by omega) (by omega)) bq38
    | succ q ih =>
      intro k hk
      refine r_iload_n (pc := 33) hC dX5_find_33 rfl ?_
      refine r_aload_n (pc := 34) hC dX5_find_34 rfl ?_
      refine g_Model_typed (pc := 35) hC wi_X5_find_5 wl_X5_find_55 (by assumption) dX5_find_35 ?_
      refine r_icmp_ge (pc := 38) (tgt := 74) hC dX5_find_38 (by decide) (fun bq38 => ?_) (fun bq38 => ?_)
      · skip
        rw [hty] at bq38; exact absurd bq38 (nI_ge (by omega) (by omega))
      · skip
        refine r_iload_n (pc := 41) hC dX5_find_41 rfl ?_
        refine r_if_eq (pc := 42) (tgt := 74) hC dX5_find_42 (by decide) (fun bq42 => ?_) (fun bq42 => ?_)
        · skip
          have e0 : (decide (L = t) && eqN (sLet (I (P m 0)) r) (I (P m 4)) k) = false := bI_0.mp bq42
          have e : isNm (I (P m 0)) (I (P m 4)) t r = false := by
            rw [isNm, hlen]
            cases hd : decide (L = t)
            · rfl
            · rw [hd, Bool.true_and] at e0; rw [eqN_mono e0 (by omega)]; rfl
          rw [e0, ← e]; exact hK _
        · skip
          have hb : (decide (L = t) && eqN (sLet (I (P m 0)) r) (I (P m 4)) k) = true := by
            cases hd : (decide (L = t) && eqN (sLet (I (P m 0)) r) (I (P m 4)) k)
            · rw [hd] at bq42; exact absurd rfl bq42
            · rfl
          have hLt : L = t := by
            rw [Bool.and_eq_true, decide_eq_true_eq] at hb; exact hb.1
          refine r_aload_n (pc := 45) hC dX5_find_45 rfl ?_
          refine r_iload_n (pc := 46) hC dX5_find_46 rfl ?_
          refine r_iconst (pc := 47) (v := 3) hC dX5_find_47 (by decide) ?_
          refine r_iload_n (pc := 48) hC dX5_find_48 rfl ?_
          refine r_iadd (pc := 49) hC dX5_find_49 ?_
          refine k_X5_of (pc := 50) hC gX5_find_X5_of ⟨Nat.le_of_ble_eq_true rfl, Nat.le_of_ble_eq_true rfl⟩ (k := 14 + 17 * r + k) km ks ls (by simp only [xlit, nI_add, pk_mul] <;> exact congrArg nI (by omega)) (by omega) (Nat.le_of_ble_eq_true rfl) rfl ⟨Nat.zero_le _, Nat.zero_le _⟩ dX5_find_50 ?_
          refine r_aload_n (pc := 53) hC dX5_find_53 rfl ?_
          refine g_Model_text (pc := 54) hC wi_X5_find_5 wl_X5_find_19 (by assumption) (c2 := 7) (by assumption) (by decide) dX5_find_54 ?_
          refine r_iload_n (pc := 57) hC dX5_find_57 rfl ?_
          refine r_iald (pc := 58) hC kt (xi_n (by rw [lt]; omega) (by rw [lt]; decide)) dX5_find_58 ?_
          refine r_icmp_ne (pc := 59) (tgt := 66) hC dX5_find_59 (by decide) (fun bq59 => ?_) (fun bq59 => ?_)
          · skip
            refine r_iconst (pc := 66) (v := 0) hC dX5_find_66 (by decide) ?_
            refine r_istore_n (pc := 67) (L' := [_, _, _, _]) hC dX5_find_67 rfl (Nat.le_of_ble_eq_true rfl) rfl ?_
            refine r_iinc (pc := 68) (v := 1) (L' := [_, _, _, _]) hC dX5_find_68 rfl (by decide) rfl rfl ?_
            refine r_goto (pc := 71) (tgt := 33) hC dX5_find_71 (by decide) ?_
            have hb2 : bI (decide (L = t) && eqN (sLet (I (P m 0)) r) (I (P m 4)) (k + 1)) = 0 := by
              rw [Bool.and_eq_true] at hb
              rw [hb.1, eqN, hb.2]
              have hd : ¬ sLet (I (P m 0)) r k = (I (P m 4)) k := bq59
              simp [hd, bI]
            have z := ih (k + 1) (by omega)
            rw [nI_succ, hb2] at z; exact z
          · skip
            refine r_iconst (pc := 62) (v := 1) hC dX5_find_62 (by decide) ?_
            refine r_goto (pc := 63) (tgt := 67) hC dX5_find_63 (by decide) ?_
            refine r_istore_n (pc := 67) (L' := [_, _, _, _]) hC dX5_find_67 rfl (Nat.le_of_ble_eq_true rfl) rfl ?_
            refine r_iinc (pc := 68) (v := 1) (L' := [_, _, _, _]) hC dX5_find_68 rfl (by decide) rfl rfl ?_
            refine r_goto (pc := 71) (tgt := 33) hC dX5_find_71 (by decide) ?_
            have hb2 : bI (decide (L = t) && eqN (sLet (I (P m 0)) r) (I (P m 4)) (k + 1)) = 1 := by
              rw [Bool.and_eq_true] at hb
              rw [hb.1, eqN, hb.2]
              have hd : sLet (I (P m 0)) r k = (I (P m 4)) k := bq59
              simp [hd, bI]
            have z := ih (k + 1) (by omega)
            rw [nI_succ, hb2] at z; exact z
  have loop : ∀ (q k : Nat), k + q = n → (∀ i, i < k → isNm (I (P m 0)) (I (P m 4)) t i = false) → ∀ (z1 z2 : Option Value), xg X G (0, 0) μ I P [some (.ref (xZ G + m)), some (.int (nI k)), z1, z2] 2 [] := by
    intro q
    induction q with
    | zero =>
      intro k hk hno z1 z2
      have ek : k = n := by omega
      subst ek
      refine r_iload_n (pc := 2) hC dX5_find_2 rfl ?_
      refine r_aload_n (pc := 3) hC dX5_find_3 rfl ?_
      refine g_Model_s (pc := 4) hC wi_X5_find_5 wl_X5_find_7 (by assumption) (c2 := 7) (by assumption) (by decide) dX5_find_4 ?_
      refine r_iconst (pc := 7) (v := 0) hC dX5_find_7 (by decide) ?_
      refine r_iald (pc := 8) hC ks (xi_l (k := 0) ls (by decide) (by decide) (by decide)) dX5_find_8 ?_
      refine r_icmp_ge (pc := 9) (tgt := 86) hC dX5_find_9 (by decide) (fun bq9 => ?_) (fun bq9 => ?_)
      · skip
        refine r_ldc (pc := 86) (v := -1000004) hC dX5_find_86 wl_X5_find_100 ?_
        refine r_iret (pc := 88) hC hD rfl dX5_find_88 rfl ?_
        have hx : srch (isNm (I (P m 0)) (I (P m 4)) t) k 0 = k := srch_at k 0 k (by omega) (by omega) (fun i _ hi => hno i hi) (Or.inl (by omega))
        exact ⟨by rw [aFind, if_pos hx], rfl, rfl, rfl⟩
      · skip
        rw [hn] at bq9; exact absurd (nI_le (by omega) (by omega)) bq9
    | succ q ih =>
      intro k hk hno z1 z2
      obtain ⟨L, hL1, hL14, hl, hnm, htn⟩ := hrows k (by omega)
      have hlen : sLen (I (P m 0)) k = L := sLen_of hl (by omega)
      have K74 : ∀ kk : Nat, xg X G (0, 0) μ I P [some (.ref (xZ G + m)), some (.int (nI k)), some (.int (bI (isNm (I (P m 0)) (I (P m 4)) t k))), some (.int (nI kk))] 74 [] := by
        intro kk
        refine r_iload_n (pc := 74) hC dX5_find_74 rfl ?_
        refine r_if_eq (pc := 75) (tgt := 80) hC dX5_find_75 (by decide) (fun bq75 => ?_) (fun bq75 => ?_)
        · skip
          have hm : isNm (I (P m 0)) (I (P m 4)) t k = false := bI_0.mp bq75
          refine r_iinc (pc := 80) (v := 1) (L' := [_, _, _, _]) hC dX5_find_80 rfl (by decide) rfl rfl ?_
          refine r_goto (pc := 83) (tgt := 2) hC dX5_find_83 (by decide) ?_
          rw [nI_1]
          exact ih (k + 1) (by omega) (fun i hi => by rcases Nat.lt_or_ge i k with y | y; exact hno i y; rw [show i = k by omega]; exact hm) _ _
        · skip
          have hm : isNm (I (P m 0)) (I (P m 4)) t k = true := by
            cases hd : isNm (I (P m 0)) (I (P m 4)) t k
            · rw [hd] at bq75; exact absurd rfl bq75
            · rfl
          refine r_iload_n (pc := 78) hC dX5_find_78 rfl ?_
          refine r_iret (pc := 79) hC hD rfl dX5_find_79 rfl ?_
          have hx : srch (isNm (I (P m 0)) (I (P m 4)) t) n 0 = k := srch_at n 0 k (by omega) (by omega) (fun i _ hi => hno i hi) (Or.inr hm)
          exact ⟨by rw [aFind, hx, if_neg (by omega)], rfl, rfl, rfl⟩
      refine r_iload_n (pc := 2) hC dX5_find_2 rfl ?_
      refine r_aload_n (pc := 3) hC dX5_find_3 rfl ?_
      refine g_Model_s (pc := 4) hC wi_X5_find_5 wl_X5_find_7 (by assumption) (c2 := 7) (by assumption) (by decide) dX5_find_4 ?_
      refine r_iconst (pc := 7) (v := 0) hC dX5_find_7 (by decide) ?_
      refine r_iald (pc := 8) hC ks (xi_l (k := 0) ls (by decide) (by decide) (by decide)) dX5_find_8 ?_
      refine r_icmp_ge (pc := 9) (tgt := 86) hC dX5_find_9 (by decide) (fun bq9 => ?_) (fun bq9 => ?_)
      · skip
        rw [hn] at bq9; exact absurd bq9 (nI_ge (by omega) (by omega))
      · skip
        refine r_aload_n (pc := 12) hC dX5_find_12 rfl ?_
        refine r_iload_n (pc := 13) hC dX5_find_13 rfl ?_
        refine r_iconst (pc := 14) (v := 0) hC dX5_find_14 (by decide) ?_
        refine k_X5_of (pc := 15) hC gX5_find_X5_of ⟨Nat.le_of_ble_eq_true rfl, Nat.le_of_ble_eq_true rfl⟩ (k := 11 + 17 * k) km ks ls (by simp only [xlit, nI_add, pk_mul] <;> exact congrArg nI (by omega)) (by omega) (Nat.le_of_ble_eq_true rfl) rfl ⟨Nat.zero_le _, Nat.zero_le _⟩ dX5_find_15 ?_
        refine r_aload_n (pc := 18) hC dX5_find_18 rfl ?_
        refine g_Model_typed (pc := 19) hC wi_X5_find_5 wl_X5_find_55 (by assumption) dX5_find_19 ?_
        rw [hl, hty]
        refine r_icmp_ne (pc := 22) (tgt := 29) hC dX5_find_22 (by decide) (fun bq22 => ?_) (fun bq22 => ?_)
        · skip
          refine r_iconst (pc := 29) (v := 0) hC dX5_find_29 (by decide) ?_
          refine r_istore_n (pc := 30) (L' := [_, _, _, _]) hC dX5_find_30 rfl (Nat.le_of_ble_eq_true rfl) rfl ?_
          refine r_iconst (pc := 31) (v := 0) hC dX5_find_31 (by decide) ?_
          refine r_istore_n (pc := 32) (L' := [_, _, _, _]) hC dX5_find_32 rfl (Nat.le_of_ble_eq_true rfl) rfl ?_
          have hb : bI (decide (L = t) && eqN (sLet (I (P m 0)) k) (I (P m 4)) 0) = 0 := by
            have hd : ¬ L = t := fun e => bq22 (by rw [e])
            simp [hd, eqN, bI]
          have z := inner k L (by omega) hl hL14 K74 t 0 (by omega)
          rw [hb] at z; exact z
        · skip
          refine r_iconst (pc := 25) (v := 1) hC dX5_find_25 (by decide) ?_
          refine r_goto (pc := 26) (tgt := 30) hC dX5_find_26 (by decide) ?_
          refine r_istore_n (pc := 30) (L' := [_, _, _, _]) hC dX5_find_30 rfl (Nat.le_of_ble_eq_true rfl) rfl ?_
          refine r_iconst (pc := 31) (v := 0) hC dX5_find_31 (by decide) ?_
          refine r_istore_n (pc := 32) (L' := [_, _, _, _]) hC dX5_find_32 rfl (Nat.le_of_ble_eq_true rfl) rfl ?_
          have hb : bI (decide (L = t) && eqN (sLet (I (P m 0)) k) (I (P m 4)) 0) = 1 := by
            have hd : L = t := (nI_eq (by omega) (by omega)).mp bq22
            simp [hd, eqN, bI]
          have z := inner k L (by omega) hl hL14 K74 t 0 (by omega)
          rw [hb] at z; exact z
  refine r_iconst (pc := 0) (v := 0) hC dX5_find_0 (by decide) ?_
  refine r_istore_n (pc := 1) (L' := [_, _, _, _]) hC dX5_find_1 rfl (Nat.le_of_ble_eq_true rfl) rfl ?_
  exact loop n 0 (by omega) (fun i hi => absurd hi (by omega)) _ _
theorem k_X5_find {X : xF} {G : xG} {cs : Nat × Nat} {μ : xM} {I : xI} {P : xP} {L : List (Option Value)} {pc : Nat} {rest : List Value} {cc : ByteArray} {Ts : List Cond} {own : String} {nL : Nat} {R : Room} (hC : xC X G cc Ts own nL R) {index : Nat} (hG : GoodIn Ts (wsV own index RX5 yX5_find wsX5_find)) (hR : rm_X5_find.frames + 1 ≤ R.frames ∧ 8 + (4 + 11) + rm_X5_find.locals ≤ R.locals) {m n q t : Nat} (km : μ.2.1 m = 6) (ks : μ.2.1 (P m 0) = 7) (ls : μ.2.2 (P m 0) = 369) (hinv : invN (I (P m 0)) n q) (kt : μ.2.1 (P m 4) = 7) (lt : μ.2.2 (P m 4) = 60) (hty : I m 5 = nI t) (ht60 : t ≤ 60) (hW : (rest.map fun v => v.category).sum ≤ 8) (hL : L.length = nL) (hcs : cs.1 ≤ R.cells ∧ cs.2 ≤ R.slots) (hdec : decode cc pc = .ok (.invokevirtual index, 3)) (kk : xg X G cs μ I P L (pc + 3) (.int (aFind (I (P m 0)) (I (P m 4)) t n) :: rest)) : xg X G cs μ I P L pc (.ref (xZ G + m) :: rest) :=
  r_callV hC (c_X5_find X.2.1 km ks ls hinv kt lt hty ht60) hG rfl rfl rfl hd_X5_find hR (by rw [km]; decide) (xe_Model km) rfl rfl rfl hW hL hcs hdec (by rintro v μ' I' P' ⟨rfl, rfl, rfl, rfl⟩; exact kk)
