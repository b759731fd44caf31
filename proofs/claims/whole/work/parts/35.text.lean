abbrev rm_X5_addsAll : Room := { frames := 4, cells := 0, slots := 0, locals := 89 }
theorem wl_X5_addsAll_52 : Cond.fieldLink RX5 52 "HandBlindsModel" "spot" "I" ∈ wsX5_addsAll := List.mem_of_getElem? (i := 1) (by decide +kernel)
theorem wi_X5_addsAll_5 : ∀ w ∈ wsX50, w ∈ wsX5_addsAll := fun _ h => List.mem_cons_of_mem _ (List.mem_append_right _ h)
theorem wl_X5_addsAll_55 : Cond.fieldLink RX5 55 "HandBlindsModel" "typed" "I" ∈ wsX5_addsAll := List.mem_of_getElem? (i := 3) (by decide +kernel)
theorem wl_X5_addsAll_86 : Cond.fieldLink RX5 86 "HandBlindsModel" "names" "I" ∈ wsX5_addsAll := List.mem_of_getElem? (i := 2) (by decide +kernel)
theorem hd_X5_addsAll : yX5_addsAll.cls = RX5 ∧ yX5_addsAll.cls ≠ "java/lang/invoke/MethodHandle" ∧ yX5_addsAll.cls ≠ "java/lang/invoke/VarHandle" ∧ (parseMethodDescriptor yX5_addsAll.desc).map (fun d => d.parameters.length) = some 0 := ⟨rfl, by decide +kernel, by decide +kernel, by decide +kernel⟩
set_option maxHeartbeats 4000000 in
set_option maxRecDepth 100000 in
theorem c_X5_addsAll (l : Launch) {G : xG} {μ : xM} {I : xI} {P : xP} {m t n : Nat} (km : μ.2.1 m = 6) (kt : μ.2.1 (P m 4) = 7) (lt : μ.2.2 (P m 4) = 60) (hty : I m 5 = nI t) (ht60 : t ≤ 60) (ks : μ.2.1 (P m 0) = 7) (ls : μ.2.2 (P m 0) = 369) (hxs : P m 4 ≠ P m 0) (hms : m ≠ P m 0) (hn : I (P m 0) 0 = nI n) (hn20 : n ≤ 20) (h8 : ¬ I (P m 0) 8 = 0) : Ct l yX5_addsAll wsX5_addsAll rm_X5_addsAll G μ I P [.ref (xZ G + m)] 0 0 (fun vv μ' I' P' => vv = some (.int (bI (decide ((aaR (I (P m 4)) t (t + 1) (I (P m 0)) n 0).1 = 0)))) ∧ μ' = μ ∧ P' = P ∧ I' m 7 = nI (aaR (I (P m 4)) t (t + 1) (I (P m 0)) n 0).2.2.1 ∧ I' m 10 = nI (aaR (I (P m 4)) t (t + 1) (I (P m 0)) n 0).2.2.2.2 ∧ I' (P m 0) = (aaR (I (P m 4)) t (t + 1) (I (P m 0)) n 0).2.2.2.1 ∧ (¬ (aaR (I (P m 4)) t (t + 1) (I (P m 0)) n 0).1 = 0 → I' m 8 = (aaR (I (P m 4)) t (t + 1) (I (P m 0)) n 0).1 ∧ I' m 9 = (aaR (I (P m 4)) t (t + 1) (I (P m 0)) n 0).2.1) ∧ xTx m (P m 0) I I') := by
  have hmx : m ≠ P m 4 := fun e => by rw [← e, km] at kt; cases kt
  refine Ct.of (cc := cX5_addsAll) (maxL := 2) (ret := (some .boolean)) [some (.ref (xZ G + m)), none] (by decide) rfl rfl rfl (Nat.le_of_ble_eq_true rfl) ?_
  intro X hC hD h0 _
  obtain ⟨RR, CC, FF, SS, TT, hA⟩ : ∃ (a b : Int32) (c : Nat) (d : Nat → Int32) (e : Nat), (aaR (I (P m 4)) t (t + 1) (I (P m 0)) n 0) = (a, b, c, d, e) := ⟨_, _, _, _, _, rfl⟩
  have loop : ∀ (q : Nat) (S : Nat → Int32) (nn f c : Nat) (J : xI), J m 6 = nI (fmE (I (P m 4)) t f) → J m 7 = nI f → J m 10 = nI c → J (P m 0) = (if (nmR S nn (I (P m 4)) t f) = 0 then addS S nn (I (P m 4)) f (fmE (I (P m 4)) t f) else S) → (¬ (nmR S nn (I (P m 4)) t f) = 0 → J m 8 = (nmR S nn (I (P m 4)) t f) ∧ J m 9 = (nmC S nn (I (P m 4)) t f)) → xTx m (P m 0) I J → f ≤ t → nn ≤ 20 → S 0 = nI nn → ¬ S 8 = 0 → t - f ≤ q → (∃ NN, aaR (I (P m 4)) t (q + 1) S nn f = (RR, CC, FF, SS, NN) ∧ c + NN = TT + 1) → xg X G (0, 0) μ J P [some (.ref (xZ G + m)), some (.int (bI (decide ((nmR S nn (I (P m 4)) t f) = 0))))] 15 [] := by
    intro q
    induction q with
    | zero =>
      intro S nn f c J j6 j7 j10 jS jF jT hft hnn hS0 hS8 hfq ⟨NN, hr, hNN⟩
      refine r_iload_n (pc := 15) hC dX5_addsAll_15 rfl ?_
      refine r_if_eq (pc := 16) (tgt := 58) hC dX5_addsAll_16 (by decide) (fun bq16 => ?_) (fun bq16 => ?_)
      · skip
        skip
        refine r_iload_n (pc := 58) hC dX5_addsAll_58 rfl ?_
        refine r_iret (pc := 59) hC hD (bI_nar _) dX5_addsAll_59 rfl ?_
        have hR : ¬ (nmR S nn (I (P m 4)) t f) = 0 := of_decide_eq_false (bI_0.mp bq16)
        rw [aaR, if_neg hR] at hr
        simp only [Prod.mk.injEq] at hr
        obtain ⟨r1, r2, r3, r4, r5⟩ := hr
        rw [hA]
        exact ⟨by rw [decide_eq_false hR, ← r1, decide_eq_false hR], rfl, rfl, by rw [← r3]; exact j7, by rw [show TT = c by omega]; exact j10, by rw [← r4, jS, if_neg hR], fun _ => by rw [← r1, ← r2]; exact jF hR, jT⟩
      · skip
        have hR : (nmR S nn (I (P m 4)) t f) = 0 := by
          cases hd : decide ((nmR S nn (I (P m 4)) t f) = 0)
          · rw [hd] at bq16; exact absurd rfl bq16
          · exact of_decide_eq_true hd
        obtain ⟨hn21, hok⟩ := nmR_n hR
        obtain ⟨hE1, hE2⟩ := fmE_le (tx := (I (P m 4))) hft
        have j5 : J m 5 = nI t := (jT.2 5 (by decide)).trans hty
        refine r_aload_n (pc := 19) hC dX5_addsAll_19 rfl ?_
        refine g_Model_spot (pc := 20) hC wi_X5_addsAll_5 wl_X5_addsAll_52 (by assumption) dX5_addsAll_20 ?_
        refine r_aload_n (pc := 23) hC dX5_addsAll_23 rfl ?_
        refine g_Model_typed (pc := 24) hC wi_X5_addsAll_5 wl_X5_addsAll_55 (by assumption) dX5_addsAll_24 ?_
        rw [j6, j5]
        refine r_icmp_ge (pc := 27) (tgt := 58) hC dX5_addsAll_27 (by decide) (fun bq27 => ?_) (fun bq27 => ?_)
        · skip
          have hEt : t ≤ (fmE (I (P m 4)) t f) := Classical.byContradiction fun w => nI_ge (a := (fmE (I (P m 4)) t f)) (b := t) (by omega) (by omega) bq27
          refine r_iload_n (pc := 58) hC dX5_addsAll_58 rfl ?_
          refine r_iret (pc := 59) hC hD (bI_nar _) dX5_addsAll_59 rfl ?_
          rw [aaR, if_pos hR, if_neg (by omega)] at hr
          simp only [Prod.mk.injEq] at hr
          obtain ⟨r1, r2, r3, r4, r5⟩ := hr
          rw [hA]
          exact ⟨by rw [decide_eq_true hR, ← r1]; rfl, rfl, rfl, by rw [← r3]; exact j7, by rw [show TT = c by omega]; exact j10, by rw [← r4, jS, if_pos hR], fun w => absurd r1.symm w, jT⟩
        · skip
          exact absurd (nI_le (by omega) (by omega)) bq27
    | succ q ih =>
      intro S nn f c J j6 j7 j10 jS jF jT hft hnn hS0 hS8 hfq ⟨NN, hr, hNN⟩
      refine r_iload_n (pc := 15) hC dX5_addsAll_15 rfl ?_
      refine r_if_eq (pc := 16) (tgt := 58) hC dX5_addsAll_16 (by decide) (fun bq16 => ?_) (fun bq16 => ?_)
      · skip
        skip
        refine r_iload_n (pc := 58) hC dX5_addsAll_58 rfl ?_
        refine r_iret (pc := 59) hC hD (bI_nar _) dX5_addsAll_59 rfl ?_
        have hR : ¬ (nmR S nn (I (P m 4)) t f) = 0 := of_decide_eq_false (bI_0.mp bq16)
        rw [aaR, if_neg hR] at hr
        simp only [Prod.mk.injEq] at hr
        obtain ⟨r1, r2, r3, r4, r5⟩ := hr
        rw [hA]
        exact ⟨by rw [decide_eq_false hR, ← r1, decide_eq_false hR], rfl, rfl, by rw [← r3]; exact j7, by rw [show TT = c by omega]; exact j10, by rw [← r4, jS, if_neg hR], fun _ => by rw [← r1, ← r2]; exact jF hR, jT⟩
      · skip
        have hR : (nmR S nn (I (P m 4)) t f) = 0 := by
          cases hd : decide ((nmR S nn (I (P m 4)) t f) = 0)
          · rw [hd] at bq16; exact absurd rfl bq16
          · exact of_decide_eq_true hd
        obtain ⟨hn21, hok⟩ := nmR_n hR
        obtain ⟨hE1, hE2⟩ := fmE_le (tx := (I (P m 4))) hft
        have j5 : J m 5 = nI t := (jT.2 5 (by decide)).trans hty
        refine r_aload_n (pc := 19) hC dX5_addsAll_19 rfl ?_
        refine g_Model_spot (pc := 20) hC wi_X5_addsAll_5 wl_X5_addsAll_52 (by assumption) dX5_addsAll_20 ?_
        refine r_aload_n (pc := 23) hC dX5_addsAll_23 rfl ?_
        refine g_Model_typed (pc := 24) hC wi_X5_addsAll_5 wl_X5_addsAll_55 (by assumption) dX5_addsAll_24 ?_
        rw [j6, j5]
        refine r_icmp_ge (pc := 27) (tgt := 58) hC dX5_addsAll_27 (by decide) (fun bq27 => ?_) (fun bq27 => ?_)
        · skip
          have hEt : t ≤ (fmE (I (P m 4)) t f) := Classical.byContradiction fun w => nI_ge (a := (fmE (I (P m 4)) t f)) (b := t) (by omega) (by omega) bq27
          refine r_iload_n (pc := 58) hC dX5_addsAll_58 rfl ?_
          refine r_iret (pc := 59) hC hD (bI_nar _) dX5_addsAll_59 rfl ?_
          rw [aaR, if_pos hR, if_neg (by omega)] at hr
          simp only [Prod.mk.injEq] at hr
          obtain ⟨r1, r2, r3, r4, r5⟩ := hr
          rw [hA]
          exact ⟨by rw [decide_eq_true hR, ← r1]; rfl, rfl, rfl, by rw [← r3]; exact j7, by rw [show TT = c by omega]; exact j10, by rw [← r4, jS, if_pos hR], fun w => absurd r1.symm w, jT⟩
        · skip
          have hEt : (fmE (I (P m 4)) t f) < t := Classical.byContradiction fun w => bq27 (nI_le (by omega) (by omega))
          refine r_aload_n (pc := 30) hC dX5_addsAll_30 rfl ?_
          refine r_dup (pc := 31) hC dX5_addsAll_31 rfl ?_
          refine g_Model_spot (pc := 32) hC wi_X5_addsAll_5 wl_X5_addsAll_52 (by assumption) dX5_addsAll_32 ?_
          refine r_iconst (pc := 35) (v := 1) hC dX5_addsAll_35 (by decide) ?_
          refine r_iadd (pc := 36) hC dX5_addsAll_36 ?_
          rw [j6, nI_1]
          refine p_Model_spot (pc := 37) hC wi_X5_addsAll_5 wl_X5_addsAll_52 (by assumption) dX5_addsAll_37 ?_
          refine r_aload_n (pc := 40) hC dX5_addsAll_40 rfl ?_
          refine r_dup (pc := 41) hC dX5_addsAll_41 rfl ?_
          refine g_Model_names (pc := 42) hC wi_X5_addsAll_5 wl_X5_addsAll_86 (by assumption) dX5_addsAll_42 ?_
          refine r_iconst (pc := 45) (v := 1) hC dX5_addsAll_45 (by decide) ?_
          refine r_iadd (pc := 46) hC dX5_addsAll_46 ?_
          rw [show xu J m 6 (nI ((fmE (I (P m 4)) t f) + 1)) m 10 + 1 = nI (c + 1) from by rw [xu_ne (Or.inr (by decide)), j10, nI_1]]
          refine p_Model_names (pc := 47) hC wi_X5_addsAll_5 wl_X5_addsAll_86 (by assumption) dX5_addsAll_47 ?_
          have eX2 : (xu (xu J m 6 (nI ((fmE (I (P m 4)) t f) + 1))) m 10 (nI (c + 1))) (P m 4) = (I (P m 4)) := by rw [xu_row (Ne.symm hmx), xu_row (Ne.symm hmx)]; exact jT.1 _ (Ne.symm hmx) hxs
          have eS2 : (xu (xu J m 6 (nI ((fmE (I (P m 4)) t f) + 1))) m 10 (nI (c + 1))) (P m 0) = addS S nn (I (P m 4)) f (fmE (I (P m 4)) t f) := by rw [xu_row (Ne.symm hms), xu_row (Ne.symm hms), jS, if_pos hR]
          have eT2 : xTx m (P m 0) I (xu (xu J m 6 (nI ((fmE (I (P m 4)) t f) + 1))) m 10 (nI (c + 1))) := (jT.u (by decide)).u (by decide)
          refine r_aload_n (pc := 50) hC dX5_addsAll_50 rfl ?_
          refine k_X5_adds (pc := 51) hC gX5_addsAll_X5_adds ⟨Nat.le_of_ble_eq_true rfl, Nat.le_of_ble_eq_true rfl⟩ (f := (fmE (I (P m 4)) t f) + 1) (n := nn + 1) km kt lt (by rw [eT2.2 5 (by decide)]; exact hty) ht60 ks ls (by rw [xu_ne (Or.inr (by decide)), xu_at]) (by omega) hxs hms (by rw [eS2]; exact addS_0) (by omega) (by rw [eS2, addS_8]; exact hS8) (Nat.le_of_ble_eq_true rfl) rfl ⟨Nat.zero_le _, Nat.zero_le _⟩ dX5_addsAll_51 ?_
          intro J51 a651 a751 a1051 aS51 aF51 aT51
          rw [eX2] at a651 aS51 aF51
          rw [eS2] at aS51 aF51
          rw [eX2, eS2]
          refine r_istore_n (pc := 54) (L' := [_, _]) hC dX5_addsAll_54 rfl (Nat.le_of_ble_eq_true rfl) rfl ?_
          refine r_goto (pc := 55) (tgt := 15) hC dX5_addsAll_55 (by decide) ?_
          refine ih (addS S nn (I (P m 4)) f (fmE (I (P m 4)) t f)) (nn + 1) ((fmE (I (P m 4)) t f) + 1) (c + 1) J51 a651 a751 (by rw [a1051, xu_at]) aS51 aF51 (xTx.tr eT2 aT51) (by omega) (by omega) addS_0 (by rw [addS_8]; exact hS8) (by omega) ?_
          rw [aaR, if_pos hR, if_pos hEt] at hr
          simp only [Prod.mk.injEq] at hr
          obtain ⟨r1, r2, r3, r4, r5⟩ := hr
          refine ⟨NN - 1, ?_, by omega⟩
          rw [← r1, ← r2, ← r3, ← r4]
          rw [show NN - 1 = (aaR (I (P m 4)) t (q + 1) (addS S nn (I (P m 4)) f (fmE (I (P m 4)) t f)) (nn + 1) ((fmE (I (P m 4)) t f) + 1)).2.2.2.2 by omega]
  refine r_aload_n (pc := 0) hC dX5_addsAll_0 rfl ?_
  refine r_iconst (pc := 1) (v := 0) hC dX5_addsAll_1 (by decide) ?_
  refine p_Model_spot (pc := 2) hC wi_X5_addsAll_5 wl_X5_addsAll_52 (by assumption) dX5_addsAll_2 ?_
  refine r_aload_n (pc := 5) hC dX5_addsAll_5 rfl ?_
  refine r_iconst (pc := 6) (v := 1) hC dX5_addsAll_6 (by decide) ?_
  refine p_Model_names (pc := 7) hC wi_X5_addsAll_5 wl_X5_addsAll_86 (by assumption) dX5_addsAll_7 ?_
  have eX2 : (xu (xu I m 6 0) m 10 1) (P m 4) = (I (P m 4)) := by rw [xu_row (Ne.symm hmx), xu_row (Ne.symm hmx)]
  have eS2 : (xu (xu I m 6 0) m 10 1) (P m 0) = (I (P m 0)) := by rw [xu_row (Ne.symm hms), xu_row (Ne.symm hms)]
  have eT2 : xTx m (P m 0) I (xu (xu I m 6 0) m 10 1) := (xTx.rf.u (by decide)).u (by decide)
  refine r_aload_n (pc := 10) hC dX5_addsAll_10 rfl ?_
  refine k_X5_adds (pc := 11) hC gX5_addsAll_X5_adds ⟨Nat.le_of_ble_eq_true rfl, Nat.le_of_ble_eq_true rfl⟩ (f := 0) (n := n) km kt lt (by rw [eT2.2 5 (by decide)]; exact hty) ht60 ks ls (by rw [xu_ne (Or.inr (by decide)), xu_at]; rfl) (by omega) hxs hms (by rw [eS2]; exact hn) hn20 (by rw [eS2]; exact h8) (Nat.le_of_ble_eq_true rfl) rfl ⟨Nat.zero_le _, Nat.zero_le _⟩ dX5_addsAll_11 ?_
  intro J11 a611 a711 a1011 aS11 aF11 aT11
  rw [eX2] at a611 aS11 aF11
  rw [eS2] at aS11 aF11
  rw [eX2, eS2]
  refine r_istore_n (pc := 14) (L' := [_, _]) hC dX5_addsAll_14 rfl (Nat.le_of_ble_eq_true rfl) rfl ?_
  exact loop t (I (P m 0)) n 0 1 J11 a611 a711 (by rw [a1011, xu_at]; rfl) aS11 aF11 (xTx.tr eT2 aT11) (by omega) hn20 hn h8 (by omega) ⟨TT, hA, by omega⟩
theorem k_X5_addsAll {X : xF} {G : xG} {cs : Nat × Nat} {μ : xM} {I : xI} {P : xP} {L : List (Option Value)} {pc : Nat} {rest : List Value} {cc : ByteArray} {Ts : List Cond} {own : String} {nL : Nat} {R : Room} (hC : xC X G cc Ts own nL R) {index : Nat} (hG : GoodIn Ts (wsV own index RX5 yX5_addsAll wsX5_addsAll)) (hR : rm_X5_addsAll.frames + 1 ≤ R.frames ∧ 8 + (2 + 11) + rm_X5_addsAll.locals ≤ R.locals) {m t n : Nat} (km : μ.2.1 m = 6) (kt : μ.2.1 (P m 4) = 7) (lt : μ.2.2 (P m 4) = 60) (hty : I m 5 = nI t) (ht60 : t ≤ 60) (ks : μ.2.1 (P m 0) = 7) (ls : μ.2.2 (P m 0) = 369) (hxs : P m 4 ≠ P m 0) (hms : m ≠ P m 0) (hn : I (P m 0) 0 = nI n) (hn20 : n ≤ 20) (h8 : ¬ I (P m 0) 8 = 0) (hW : (rest.map fun v => v.category).sum ≤ 8) (hL : L.length = nL) (hcs : cs.1 ≤ R.cells ∧ cs.2 ≤ R.slots) (hdec : decode cc pc = .ok (.invokevirtual index, 3)) (kk : ∀ I' : xI, I' m 7 = nI (aaR (I (P m 4)) t (t + 1) (I (P m 0)) n 0).2.2.1 → I' m 10 = nI (aaR (I (P m 4)) t (t + 1) (I (P m 0)) n 0).2.2.2.2 → I' (P m 0) = (aaR (I (P m 4)) t (t + 1) (I (P m 0)) n 0).2.2.2.1 → (¬ (aaR (I (P m 4)) t (t + 1) (I (P m 0)) n 0).1 = 0 → I' m 8 = (aaR (I (P m 4)) t (t + 1) (I (P m 0)) n 0).1 ∧ I' m 9 = (aaR (I (P m 4)) t (t + 1) (I (P m 0)) n 0).2.1) → xTx m (P m 0) I I' → xg X G cs μ I' P L (pc + 3) (.int (bI (decide ((aaR (I (P m 4)) t (t + 1) (I (P m 0)) n 0).1 = 0))) :: rest)) : xg X G cs μ I P L pc (.ref (xZ G + m) :: rest) :=
  r_callV hC (c_X5_addsAll X.2.1 km kt lt hty ht60 ks ls hxs hms hn hn20 h8) hG rfl rfl rfl hd_X5_addsAll hR (by rw [km]; decide) (xe_Model km) rfl rfl rfl hW hL hcs hdec (by rintro vv μ' I' P' ⟨rfl, rfl, rfl, h2, h3, h4, h5, h6⟩; exact kk I' h2 h3 h4 h5 h6)
abbrev rm_X5_fault : Room := { frames := 5, cells := 0, slots := 0, locals := 110 }
theorem wl_X5_fault_7 : Cond.fieldLink RX5 7 "HandBlindsModel" "s" "[I" ∈ wsX5_fault := List.mem_of_getElem? (i := 2) (by decide +kernel)
theorem wi_X5_fault_5 : ∀ w ∈ wsX50, w ∈ wsX5_fault := fun _ h => List.mem_cons_of_mem _ (List.mem_append_right _ h)
theorem wl_X5_fault_16 : Cond.fieldLink RX5 16 "HandBlindsModel" "tried" "[I" ∈ wsX5_fault := List.mem_of_getElem? (i := 3) (by decide +kernel)
theorem wl_X5_fault_49 : Cond.fieldLink RX5 49 "HandBlindsModel" "cause" "I" ∈ wsX5_fault := List.mem_of_getElem? (i := 7) (by decide +kernel)
theorem wl_X5_fault_46 : Cond.fieldLink RX5 46 "HandBlindsModel" "reason" "I" ∈ wsX5_fault := List.mem_of_getElem? (i := 6) (by decide +kernel)
theorem wl_X5_fault_58 : Cond.fieldLink RX5 58 "HandBlindsModel" "from" "I" ∈ wsX5_fault := List.mem_of_getElem? (i := 5) (by decide +kernel)
theorem wl_X5_fault_100 : Cond.constant RX5 100 (-1000004) ∈ wsX5_fault := List.mem_of_getElem? (i := 4) (by decide +kernel)
theorem wl_X5_fault_92 : Cond.constant RX5 92 (-1000001) ∈ wsX5_fault := List.mem_of_getElem? (i := 1) (by decide +kernel)
theorem hd_X5_fault : yX5_fault.cls = RX5 ∧ yX5_fault.cls ≠ "java/lang/invoke/MethodHandle" ∧ yX5_fault.cls ≠ "java/lang/invoke/VarHandle" ∧ (parseMethodDescriptor yX5_fault.desc).map (fun d => d.parameters.length) = some 1 := ⟨rfl, by decide +kernel, by decide +kernel, by decide +kernel⟩
set_option maxHeartbeats 4000000 in
set_option maxRecDepth 100000 in
theorem c_X5_fault (l : Launch) {G : xG} {μ : xM} {I : xI} {P : xP} {m h n q t : Nat} {w : Int32} (km : μ.2.1 m = 6) (ks : μ.2.1 (P m 0) = 7) (ls : μ.2.2 (P m 0) = 369) (kp : μ.2.1 (P m 1) = 7) (lp : μ.2.2 (P m 1) = 1476) (hsp : P m 0 ≠ P m 1) (hh : I m 3 = nI h) (hh4 : h ≤ 4) (kta : μ.2.1 (P m 2) = 7) (lta : μ.2.2 (P m 2) = 369) (hst : P m 0 ≠ P m 2) (hpt : P m 1 ≠ P m 2) (hxs : P m 4 ≠ P m 0) (hxt : P m 4 ≠ P m 2) (hxp : P m 4 ≠ P m 1) (kt : μ.2.1 (P m 4) = 7) (lt : μ.2.2 (P m 4) = 60) (hty : I m 5 = nI t) (ht60 : t ≤ 60) (hinv : invN (I (P m 0)) n q) : Ct l yX5_fault wsX5_fault rm_X5_fault G μ I P [.ref (xZ G + m), .int w] 0 0 (fun vv μ' I' P' => vv = some (.int (aFault (I (P m 0)) (I (P m 4)) t w)) ∧ μ' = μ ∧ P' = P ∧ mQ m (P m 0) (P m 1) (P m 2) I I I' (I (P m 0))) := by
  obtain ⟨hn20, hn, hq6, hq, hsh, hdr, h8r, h9r, h10r, hrows⟩ := id hinv
  have h8 : ¬ I (P m 0) 8 = 0 := fun e => by have h81 := h8r.1; rw [e] at h81; exact absurd h81 (by decide)
  have hmt : m ≠ P m 2 := fun e => by rw [← e, km] at kta; cases kta
  have hmp : m ≠ P m 1 := fun e => by rw [← e, km] at kp; cases kp
  have hms : m ≠ P m 0 := fun e => by rw [← e, km] at ks; cases ks
  have hmx : m ≠ P m 4 := fun e => by rw [← e, km] at kt; cases kt
  have hcn : cN (I (P m 0)) = n := by rw [cN, hn, nI_clamp (by omega)]
  refine Ct.of (cc := cX5_fault) (maxL := 3) (ret := (some .int)) [some (.ref (xZ G + m)), some (.int w), none] (by decide) rfl rfl rfl (Nat.le_of_ble_eq_true rfl) ?_
  intro X hC hD h0 _
  refine r_iload_n (pc := 0) hC dX5_fault_0 rfl ?_
  refine r_iconst (pc := 1) (v := 0) hC dX5_fault_1 (by decide) ?_
  refine r_iconst (pc := 2) (v := 2) hC dX5_fault_2 (by decide) ?_
  refine k_X5_in (pc := 3) hC gX5_fault_X5_in ⟨Nat.le_of_ble_eq_true rfl, Nat.le_of_ble_eq_true rfl⟩  (Nat.le_of_ble_eq_true rfl) rfl ⟨Nat.zero_le _, Nat.zero_le _⟩ dX5_fault_3 ?_
  refine r_if_ne (pc := 6) (tgt := 12) hC dX5_fault_6 (by decide) (fun bq6 => ?_) (fun bq6 => ?_)
  · skip
    refine r_aload_n (pc := 12) hC dX5_fault_12 rfl ?_
    refine g_Model_s (pc := 13) hC wi_X5_fault_5 wl_X5_fault_7 (by assumption) (c2 := 7) (by assumption) (by decide) dX5_fault_13 ?_
    refine r_aload_n (pc := 16) hC dX5_fault_16 rfl ?_
    refine g_Model_tried (pc := 17) hC wi_X5_fault_5 wl_X5_fault_16 (by assumption) (c2 := 7) (by assumption) (by decide) dX5_fault_17 ?_
    refine k_X5_copies (pc := 20) hC gX5_fault_X5_copies ⟨Nat.le_of_ble_eq_true rfl, Nat.le_of_ble_eq_true rfl⟩ ks ls kta lta hst (Nat.le_of_ble_eq_true rfl) rfl ⟨Nat.zero_le _, Nat.zero_le _⟩ dX5_fault_20 ?_
    have f1s : (xcp I (P m 0) (P m 2) 369) (P m 0) = (I (P m 0)) := xcp_row hst
    have f1x : (xcp I (P m 0) (P m 2) 369) (P m 4) = (I (P m 4)) := xcp_row hxt
    have f1m : (xcp I (P m 0) (P m 2) 369) m = I m := xcp_row hmt
    refine r_aload_n (pc := 23) hC dX5_fault_23 rfl ?_
    refine k_X5_addsAll (pc := 24) hC gX5_fault_X5_addsAll ⟨Nat.le_of_ble_eq_true rfl, Nat.le_of_ble_eq_true rfl⟩ km kt lt (by rw [f1m]; exact hty) ht60 ks ls hxs hms (by rw [f1s]; exact hn) hn20 (by rw [f1s]; exact h8) (Nat.le_of_ble_eq_true rfl) rfl ⟨Nat.zero_le _, Nat.zero_le _⟩ dX5_fault_24 ?_
    intro K24 b724 b1024 bS24 bF24 bT24
    rw [f1x, f1s] at b724 b1024 bS24 bF24
    rw [f1x, f1s]
    have hA : (aaR (I (P m 4)) t (t + 1) (I (P m 0)) n 0) = aaA (I (P m 0)) (I (P m 4)) t := by rw [aaA, hcn]
    rw [hA] at b724 b1024 bS24 bF24
    rw [hA]
    have fT2 : ∀ b, b ≠ m → b ≠ (P m 0) → b ≠ P m 2 → K24 b = I b := fun b b1 b2 b4 => (bT24.1 b b1 b2).trans (xcp_row b4)
    have fin0 : xcp K24 (P m 2) (P m 0) 369 (P m 0) = (I (P m 0)) := by
      funext k
      by_cases hk : k < 369
      · have e1 : xcp K24 (P m 2) (P m 0) 369 (P m 0) k = K24 (P m 2) k := by
          show (if (P m 0) = (P m 0) ∧ k < 369 then _ else _) = _
          rw [if_pos ⟨rfl, hk⟩]
        rw [e1, bT24.1 _ (Ne.symm hmt) (Ne.symm hst)]
        show (if P m 2 = P m 2 ∧ k < 369 then _ else _) = _
        rw [if_pos ⟨rfl, hk⟩]
      · have e0 : xcp K24 (P m 2) (P m 0) 369 (P m 0) k = K24 (P m 0) k := by
          show (if (P m 0) = (P m 0) ∧ k < 369 then _ else _) = _
          rw [if_neg (fun w => hk w.2)]
        rw [e0, bS24, aaA, hcn, aaR_far (t + 1) (I (P m 0)) n 0 hn20 (by omega) k (by omega)]
    have finQ : mQ m (P m 0) (P m 1) (P m 2) I I (xcp K24 (P m 2) (P m 0) 369) (I (P m 0)) := ⟨fin0, by rw [xcp_row (Ne.symm hsp)]; exact fT2 _ (Ne.symm hmp) (Ne.symm hsp) hpt, by rw [xcp_row hms, bT24.2 3 (by decide), f1m], by rw [xcp_row hms, bT24.2 5 (by decide), f1m], fun b b1 b2 b3 b4 => by rw [xcp_row b2]; exact fT2 b b1 b2 b4⟩
    refine r_istore_n (pc := 27) (L' := [_, _, _]) hC dX5_fault_27 rfl (Nat.le_of_ble_eq_true rfl) rfl ?_
    refine r_aload_n (pc := 28) hC dX5_fault_28 rfl ?_
    refine g_Model_tried (pc := 29) hC wi_X5_fault_5 wl_X5_fault_16 (by assumption) (c2 := 7) (by assumption) (by decide) dX5_fault_29 ?_
    refine r_aload_n (pc := 32) hC dX5_fault_32 rfl ?_
    refine g_Model_s (pc := 33) hC wi_X5_fault_5 wl_X5_fault_7 (by assumption) (c2 := 7) (by assumption) (by decide) dX5_fault_33 ?_
    refine k_X5_copies (pc := 36) hC gX5_fault_X5_copies ⟨Nat.le_of_ble_eq_true rfl, Nat.le_of_ble_eq_true rfl⟩ kta lta ks ls (Ne.symm hst) (Nat.le_of_ble_eq_true rfl) rfl ⟨Nat.zero_le _, Nat.zero_le _⟩ dX5_fault_36 ?_
    refine r_iload_n (pc := 39) hC dX5_fault_39 rfl ?_
    refine r_if_eq (pc := 40) (tgt := 48) hC dX5_fault_40 (by decide) (fun bq40 => ?_) (fun bq40 => ?_)
    · skip
      refine r_iload_n (pc := 48) hC dX5_fault_48 rfl ?_
      refine r_if_ne (pc := 49) (tgt := 59) hC dX5_fault_49 (by decide) (fun bq49 => ?_) (fun bq49 => ?_)
      · skip
        refine r_iload_n (pc := 59) hC dX5_fault_59 rfl ?_
        refine r_iconst (pc := 60) (v := 1) hC dX5_fault_60 (by decide) ?_
        refine r_icmp_ne (pc := 61) (tgt := 71) hC dX5_fault_61 (by decide) (fun bq61 => ?_) (fun bq61 => ?_)
        · skip
          refine r_aload_n (pc := 71) hC dX5_fault_71 rfl ?_
          refine g_Model_cause (pc := 72) hC wi_X5_fault_5 wl_X5_fault_49 (by assumption) dX5_fault_72 ?_
          refine r_iret (pc := 75) hC hD rfl dX5_fault_75 rfl ?_
          have hz : ¬ (aaA (I (P m 0)) (I (P m 4)) t).1 = 0 := of_decide_eq_false (bI_0.mp bq40)
          exact ⟨by rw [aFault, if_neg bq6, if_neg hz, if_neg bq49, if_neg bq61, xcp_row hms, (bF24 hz).2], rfl, rfl, finQ⟩
        · skip
          refine r_aload_n (pc := 64) hC dX5_fault_64 rfl ?_
          refine g_Model_reason (pc := 65) hC wi_X5_fault_5 wl_X5_fault_46 (by assumption) dX5_fault_65 ?_
          refine r_goto (pc := 68) (tgt := 75) hC dX5_fault_68 (by decide) ?_
          refine r_iret (pc := 75) hC hD rfl dX5_fault_75 rfl ?_
          have hz : ¬ (aaA (I (P m 0)) (I (P m 4)) t).1 = 0 := of_decide_eq_false (bI_0.mp bq40)
          exact ⟨by rw [aFault, if_neg bq6, if_neg hz, if_neg bq49, if_pos bq61, xcp_row hms, (bF24 hz).1], rfl, rfl, finQ⟩
      · skip
        refine r_aload_n (pc := 52) hC dX5_fault_52 rfl ?_
        refine g_Model_from (pc := 53) hC wi_X5_fault_5 wl_X5_fault_58 (by assumption) dX5_fault_53 ?_
        refine r_goto (pc := 56) (tgt := 75) hC dX5_fault_56 (by decide) ?_
        refine r_iret (pc := 75) hC hD rfl dX5_fault_75 rfl ?_
        have hz : ¬ (aaA (I (P m 0)) (I (P m 4)) t).1 = 0 := of_decide_eq_false (bI_0.mp bq40)
        exact ⟨by rw [aFault, if_neg bq6, if_neg hz, if_pos bq49, xcp_row hms, b724], rfl, rfl, finQ⟩
    · skip
      refine r_ldc (pc := 43) (v := -1000004) hC dX5_fault_43 wl_X5_fault_100 ?_
      refine r_goto (pc := 45) (tgt := 75) hC dX5_fault_45 (by decide) ?_
      refine r_iret (pc := 75) hC hD rfl dX5_fault_75 rfl ?_
      have hz : (aaA (I (P m 0)) (I (P m 4)) t).1 = 0 := by
        cases hd : decide ((aaA (I (P m 0)) (I (P m 4)) t).1 = 0)
        · rw [hd] at bq40; exact absurd rfl bq40
        · exact of_decide_eq_true hd
      exact ⟨by rw [aFault, if_neg bq6, if_pos hz], rfl, rfl, finQ⟩
  · skip
    refine r_ldc (pc := 9) (v := -1000001) hC dX5_fault_9 wl_X5_fault_92 ?_
    refine r_iret (pc := 11) hC hD rfl dX5_fault_11 rfl ?_
    exact ⟨by rw [aFault, if_pos bq6], rfl, rfl, mQ_id⟩
theorem k_X5_fault {X : xF} {G : xG} {cs : Nat × Nat} {μ : xM} {I : xI} {P : xP} {L : List (Option Value)} {pc : Nat} {rest : List Value} {cc : ByteArray} {Ts : List Cond} {own : String} {nL : Nat} {R : Room} (hC : xC X G cc Ts own nL R) {index : Nat} (hG : GoodIn Ts (wsV own index RX5 yX5_fault wsX5_fault)) (hR : rm_X5_fault.frames + 1 ≤ R.frames ∧ 8 + (3 + 11) + rm_X5_fault.locals ≤ R.locals) {m h n q t : Nat} {w : Int32} (km : μ.2.1 m = 6) (ks : μ.2.1 (P m 0) = 7) (ls : μ.2.2 (P m 0) = 369) (kp : μ.2.1 (P m 1) = 7) (lp : μ.2.2 (P m 1) = 1476) (hsp : P m 0 ≠ P m 1) (hh : I m 3 = nI h) (hh4 : h ≤ 4) (kta : μ.2.1 (P m 2) = 7) (lta : μ.2.2 (P m 2) = 369) (hst : P m 0 ≠ P m 2) (hpt : P m 1 ≠ P m 2) (hxs : P m 4 ≠ P m 0) (hxt : P m 4 ≠ P m 2) (hxp : P m 4 ≠ P m 1) (kt : μ.2.1 (P m 4) = 7) (lt : μ.2.2 (P m 4) = 60) (hty : I m 5 = nI t) (ht60 : t ≤ 60) (hinv : invN (I (P m 0)) n q) (hW : (rest.map fun v => v.category).sum ≤ 8) (hL : L.length = nL) (hcs : cs.1 ≤ R.cells ∧ cs.2 ≤ R.slots) (hdec : decode cc pc = .ok (.invokevirtual index, 3)) (kk : ∀ I' : xI, mQ m (P m 0) (P m 1) (P m 2) I I I' (I (P m 0)) → xg X G cs μ I' P L (pc + 3) (.int (aFault (I (P m 0)) (I (P m 4)) t w) :: rest)) : xg X G cs μ I P L pc (.int w :: .ref (xZ G + m) :: rest) :=
  r_callV hC (c_X5_fault X.2.1 km ks ls kp lp hsp hh hh4 kta lta hst hpt hxs hxt hxp kt lt hty ht60 hinv) hG rfl rfl rfl hd_X5_fault hR (by rw [km]; decide) (xe_Model km) rfl rfl rfl hW hL hcs hdec (by rintro vv μ' I' P' ⟨rfl, rfl, rfl, hQ⟩; exact kk I' hQ)
abbrev rm_X5_add : Room := { frames := 5, cells := 0, slots := 0, locals := 110 }
theorem wl_X5_add_7 : Cond.fieldLink RX5 7 "HandBlindsModel" "s" "[I" ∈ wsX5_add := List.mem_of_getElem? (i := 1) (by decide +kernel)
theorem wi_X5_add_5 : ∀ w ∈ wsX50, w ∈ wsX5_add := fun _ h => List.mem_cons_of_mem _ (List.mem_append_right _ h)
theorem wl_X5_add_16 : Cond.fieldLink RX5 16 "HandBlindsModel" "tried" "[I" ∈ wsX5_add := List.mem_of_getElem? (i := 2) (by decide +kernel)
theorem wl_X5_add_86 : Cond.fieldLink RX5 86 "HandBlindsModel" "names" "I" ∈ wsX5_add := List.mem_of_getElem? (i := 4) (by decide +kernel)
theorem wl_X5_add_101 : Cond.constant RX5 101 (-1000002) ∈ wsX5_add := List.mem_of_getElem? (i := 3) (by decide +kernel)
theorem hd_X5_add : yX5_add.cls = RX5 ∧ yX5_add.cls ≠ "java/lang/invoke/MethodHandle" ∧ yX5_add.cls ≠ "java/lang/invoke/VarHandle" ∧ (parseMethodDescriptor yX5_add.desc).map (fun d => d.parameters.length) = some 0 := ⟨rfl, by decide +kernel, by decide +kernel, by decide +kernel⟩
set_option maxHeartbeats 4000000 in
set_option maxRecDepth 100000 in
theorem c_X5_add (l : Launch) {G : xG} {μ : xM} {I : xI} {P : xP} {m h n q t : Nat} (km : μ.2.1 m = 6) (ks : μ.2.1 (P m 0) = 7) (ls : μ.2.2 (P m 0) = 369) (kp : μ.2.1 (P m 1) = 7) (lp : μ.2.2 (P m 1) = 1476) (hsp : P m 0 ≠ P m 1) (hh : I m 3 = nI h) (hh4 : h ≤ 4) (kta : μ.2.1 (P m 2) = 7) (lta : μ.2.2 (P m 2) = 369) (hst : P m 0 ≠ P m 2) (hpt : P m 1 ≠ P m 2) (hxs : P m 4 ≠ P m 0) (hxt : P m 4 ≠ P m 2) (hxp : P m 4 ≠ P m 1) (kt : μ.2.1 (P m 4) = 7) (lt : μ.2.2 (P m 4) = 60) (hty : I m 5 = nI t) (ht60 : t ≤ 60) (hinv : invN (I (P m 0)) n q) : Ct l yX5_add wsX5_add rm_X5_add G μ I P [.ref (xZ G + m)] 0 0 (fun vv μ' I' P' => vv = some (.int (aAdd (I (P m 0)) (I (P m 4)) t)) ∧ μ' = μ ∧ P' = P ∧ mQ m (P m 0) (P m 1) (P m 2) I (if okAdd (I (P m 0)) (I (P m 4)) t = true then (xchg m (P m 0) (P m 1) h I) else I) I' (sAdd (I (P m 0)) (I (P m 4)) t)) := by
  obtain ⟨hn20, hn, hq6, hq, hsh, hdr, h8r, h9r, h10r, hrows⟩ := id hinv
  have h8 : ¬ I (P m 0) 8 = 0 := fun e => by have h81 := h8r.1; rw [e] at h81; exact absurd h81 (by decide)
  have hmt : m ≠ P m 2 := fun e => by rw [← e, km] at kta; cases kta
  have hmp : m ≠ P m 1 := fun e => by rw [← e, km] at kp; cases kp
  have hms : m ≠ P m 0 := fun e => by rw [← e, km] at ks; cases ks
  have hmx : m ≠ P m 4 := fun e => by rw [← e, km] at kt; cases kt
  have hcn : cN (I (P m 0)) = n := by rw [cN, hn, nI_clamp (by omega)]
  refine Ct.of (cc := cX5_add) (maxL := 2) (ret := (some .int)) [some (.ref (xZ G + m)), none] (by decide) rfl rfl rfl (Nat.le_of_ble_eq_true rfl) ?_
  intro X hC hD h0 _
  refine r_aload_n (pc := 0) hC dX5_add_0 rfl ?_
  refine g_Model_s (pc := 1) hC wi_X5_add_5 wl_X5_add_7 (by assumption) (c2 := 7) (by assumption) (by decide) dX5_add_1 ?_
  refine r_aload_n (pc := 4) hC dX5_add_4 rfl ?_
  refine g_Model_tried (pc := 5) hC wi_X5_add_5 wl_X5_add_16 (by assumption) (c2 := 7) (by assumption) (by decide) dX5_add_5 ?_
  refine k_X5_copies (pc := 8) hC gX5_add_X5_copies ⟨Nat.le_of_ble_eq_true rfl, Nat.le_of_ble_eq_true rfl⟩ ks ls kta lta hst (Nat.le_of_ble_eq_true rfl) rfl ⟨Nat.zero_le _, Nat.zero_le _⟩ dX5_add_8 ?_
  have f1s : (xcp I (P m 0) (P m 2) 369) (P m 0) = (I (P m 0)) := xcp_row hst
  have f1x : (xcp I (P m 0) (P m 2) 369) (P m 4) = (I (P m 4)) := xcp_row hxt
  have f1m : (xcp I (P m 0) (P m 2) 369) m = I m := xcp_row hmt
  refine r_aload_n (pc := 11) hC dX5_add_11 rfl ?_
  refine k_X5_addsAll (pc := 12) hC gX5_add_X5_addsAll ⟨Nat.le_of_ble_eq_true rfl, Nat.le_of_ble_eq_true rfl⟩ km kt lt (by rw [f1m]; exact hty) ht60 ks ls hxs hms (by rw [f1s]; exact hn) hn20 (by rw [f1s]; exact h8) (Nat.le_of_ble_eq_true rfl) rfl ⟨Nat.zero_le _, Nat.zero_le _⟩ dX5_add_12 ?_
  intro K12 b712 b1012 bS12 bF12 bT12
  rw [f1x, f1s] at b712 b1012 bS12 bF12
  rw [f1x, f1s]
  have hA : (aaR (I (P m 4)) t (t + 1) (I (P m 0)) n 0) = aaA (I (P m 0)) (I (P m 4)) t := by rw [aaA, hcn]
  rw [hA] at b712 b1012 bS12 bF12
  rw [hA]
  have fT2 : ∀ b, b ≠ m → b ≠ (P m 0) → b ≠ P m 2 → K12 b = I b := fun b b1 b2 b4 => (bT12.1 b b1 b2).trans (xcp_row b4)
  have fin0 : xcp K12 (P m 2) (P m 0) 369 (P m 0) = (I (P m 0)) := by
    funext k
    by_cases hk : k < 369
    · have e1 : xcp K12 (P m 2) (P m 0) 369 (P m 0) k = K12 (P m 2) k := by
        show (if (P m 0) = (P m 0) ∧ k < 369 then _ else _) = _
        rw [if_pos ⟨rfl, hk⟩]
      rw [e1, bT12.1 _ (Ne.symm hmt) (Ne.symm hst)]
      show (if P m 2 = P m 2 ∧ k < 369 then _ else _) = _
      rw [if_pos ⟨rfl, hk⟩]
    · have e0 : xcp K12 (P m 2) (P m 0) 369 (P m 0) k = K12 (P m 0) k := by
        show (if (P m 0) = (P m 0) ∧ k < 369 then _ else _) = _
        rw [if_neg (fun w => hk w.2)]
      rw [e0, bS12, aaA, hcn, aaR_far (t + 1) (I (P m 0)) n 0 hn20 (by omega) k (by omega)]
  have finQ : mQ m (P m 0) (P m 1) (P m 2) I I (xcp K12 (P m 2) (P m 0) 369) (I (P m 0)) := ⟨fin0, by rw [xcp_row (Ne.symm hsp)]; exact fT2 _ (Ne.symm hmp) (Ne.symm hsp) hpt, by rw [xcp_row hms, bT12.2 3 (by decide), f1m], by rw [xcp_row hms, bT12.2 5 (by decide), f1m], fun b b1 b2 b3 b4 => by rw [xcp_row b2]; exact fT2 b b1 b2 b4⟩
  refine r_istore_n (pc := 15) (L' := [_, _]) hC dX5_add_15 rfl (Nat.le_of_ble_eq_true rfl) rfl ?_
  refine r_aload_n (pc := 16) hC dX5_add_16 rfl ?_
  refine g_Model_tried (pc := 17) hC wi_X5_add_5 wl_X5_add_16 (by assumption) (c2 := 7) (by assumption) (by decide) dX5_add_17 ?_
  refine r_aload_n (pc := 20) hC dX5_add_20 rfl ?_
  refine g_Model_s (pc := 21) hC wi_X5_add_5 wl_X5_add_7 (by assumption) (c2 := 7) (by assumption) (by decide) dX5_add_21 ?_
  refine k_X5_copies (pc := 24) hC gX5_add_X5_copies ⟨Nat.le_of_ble_eq_true rfl, Nat.le_of_ble_eq_true rfl⟩ kta lta ks ls (Ne.symm hst) (Nat.le_of_ble_eq_true rfl) rfl ⟨Nat.zero_le _, Nat.zero_le _⟩ dX5_add_24 ?_
  refine r_iload_n (pc := 27) hC dX5_add_27 rfl ?_
  refine r_if_ne (pc := 28) (tgt := 34) hC dX5_add_28 (by decide) (fun bq28 => ?_) (fun bq28 => ?_)
  · skip
    have hyes : okAdd (I (P m 0)) (I (P m 4)) t = true := by
      cases hd : okAdd (I (P m 0)) (I (P m 4)) t
      · exact absurd (by rw [show decide ((aaA (I (P m 0)) (I (P m 4)) t).1 = 0) = okAdd (I (P m 0)) (I (P m 4)) t from rfl, hd]; rfl) bq28
      · rfl
    refine r_aload_n (pc := 34) hC dX5_add_34 rfl ?_
    refine k_X5_changes (pc := 35) hC gX5_add_X5_changes ⟨Nat.le_of_ble_eq_true rfl, Nat.le_of_ble_eq_true rfl⟩ km ks ls kp lp hsp (by rw [finQ.2.2.1]; exact hh) hh4 (Nat.le_of_ble_eq_true rfl) rfl ⟨Nat.zero_le _, Nat.zero_le _⟩ dX5_add_35 ?_
    have c3s : (xchg m (P m 0) (P m 1) h (xcp K12 (P m 2) (P m 0) 369)) (P m 0) = (I (P m 0)) := (xchg_s hsp (Ne.symm hms)).trans fin0
    have c3m5 : (xchg m (P m 0) (P m 1) h (xcp K12 (P m 2) (P m 0) 369)) m 5 = I m 5 := by rw [xchg_m hmp (by decide)]; exact finQ.2.2.2.1
    have c3x : (xchg m (P m 0) (P m 1) h (xcp K12 (P m 2) (P m 0) 369)) (P m 4) = (I (P m 4)) := by rw [xchg_o hxp (Ne.symm hmx)]; exact finQ.2.2.2.2 _ (Ne.symm hmx) hxs hxp hxt
    refine r_aload_n (pc := 38) hC dX5_add_38 rfl ?_
    refine k_X5_addsAll (pc := 39) hC gX5_add_X5_addsAll ⟨Nat.le_of_ble_eq_true rfl, Nat.le_of_ble_eq_true rfl⟩ km kt lt (by rw [c3m5]; exact hty) ht60 ks ls hxs hms (by rw [c3s]; exact hn) hn20 (by rw [c3s]; exact h8) (Nat.le_of_ble_eq_true rfl) rfl ⟨Nat.zero_le _, Nat.zero_le _⟩ dX5_add_39 ?_
    intro K39 b739 b1039 bS39 bF39 bT39
    rw [c3x, c3s] at b739 b1039 bS39 bF39
    rw [c3x, c3s]
    rw [hA] at b739 b1039 bS39 bF39
    rw [hA]
    refine r_if_eq (pc := 42) (tgt := 52) hC dX5_add_42 (by decide) (fun bq42 => ?_) (fun bq42 => ?_)
    · skip
      exact absurd (bI_0.mp bq42) (by rw [show decide ((aaA (I (P m 0)) (I (P m 4)) t).1 = 0) = okAdd (I (P m 0)) (I (P m 4)) t from rfl, hyes]; decide)
    · skip
      refine r_aload_n (pc := 45) hC dX5_add_45 rfl ?_
      refine g_Model_names (pc := 46) hC wi_X5_add_5 wl_X5_add_86 (by assumption) dX5_add_46 ?_
      refine r_goto (pc := 49) (tgt := 54) hC dX5_add_49 (by decide) ?_
      refine r_iret (pc := 54) hC hD rfl dX5_add_54 rfl ?_
      exact ⟨by rw [aAdd, hyes, if_pos rfl, b1039], rfl, rfl, by
        rw [hyes, if_pos rfl, show sAdd (I (P m 0)) (I (P m 4)) t = (aaA (I (P m 0)) (I (P m 4)) t).2.2.2.1 from by rw [sAdd, hyes, if_pos rfl]]
        exact ⟨bS39, by rw [bT39.1 _ (Ne.symm hmp) (Ne.symm hsp), xchg_pa finQ.2.1 fin0 hmp hsp], by rw [bT39.2 3 (by decide), xchg_h, xchg_h], by rw [bT39.2 5 (by decide), xchg_m hmp (by decide), finQ.2.2.2.1, xchg_m hmp (by decide)], fun b b1 b2 b3 b4 => by rw [bT39.1 b b1 b2, xchg_o b3 b1, finQ.2.2.2.2 b b1 b2 b3 b4]⟩⟩
  · skip
    refine r_ldc (pc := 31) (v := -1000002) hC dX5_add_31 wl_X5_add_101 ?_
    refine r_iret (pc := 33) hC hD rfl dX5_add_33 rfl ?_
    have hno : okAdd (I (P m 0)) (I (P m 4)) t = false := bI_0.mp bq28
    exact ⟨by rw [aAdd, hno, if_neg (by decide)], rfl, rfl, by rw [hno, if_neg (by decide), show sAdd (I (P m 0)) (I (P m 4)) t = (I (P m 0)) from by rw [sAdd, hno, if_neg (by decide)]]; exact finQ⟩
theorem k_X5_add {X : xF} {G : xG} {cs : Nat × Nat} {μ : xM} {I : xI} {P : xP} {L : List (Option Value)} {pc : Nat} {rest : List Value} {cc : ByteArray} {Ts : List Cond} {own : String} {nL : Nat} {R : Room} (hC : xC X G cc Ts own nL R) {index : Nat} (hG : GoodIn Ts (wsV own index RX5 yX5_add wsX5_add)) (hR : rm_X5_add.frames + 1 ≤ R.frames ∧ 8 + (2 + 11) + rm_X5_add.locals ≤ R.locals) {m h n q t : Nat} (km : μ.2.1 m = 6) (ks : μ.2.1 (P m 0) = 7) (ls : μ.2.2 (P m 0) = 369) (kp : μ.2.1 (P m 1) = 7) (lp : μ.2.2 (P m 1) = 1476) (hsp : P m 0 ≠ P m 1) (hh : I m 3 = nI h) (hh4 : h ≤ 4) (kta : μ.2.1 (P m 2) = 7) (lta : μ.2.2 (P m 2) = 369) (hst : P m 0 ≠ P m 2) (hpt : P m 1 ≠ P m 2) (hxs : P m 4 ≠ P m 0) (hxt : P m 4 ≠ P m 2) (hxp : P m 4 ≠ P m 1) (kt : μ.2.1 (P m 4) = 7) (lt : μ.2.2 (P m 4) = 60) (hty : I m 5 = nI t) (ht60 : t ≤ 60) (hinv : invN (I (P m 0)) n q) (hW : (rest.map fun v => v.category).sum ≤ 8) (hL : L.length = nL) (hcs : cs.1 ≤ R.cells ∧ cs.2 ≤ R.slots) (hdec : decode cc pc = .ok (.invokevirtual index, 3)) (kk : ∀ I' : xI, mQ m (P m 0) (P m 1) (P m 2) I (if okAdd (I (P m 0)) (I (P m 4)) t = true then (xchg m (P m 0) (P m 1) h I) else I) I' (sAdd (I (P m 0)) (I (P m 4)) t) → xg X G cs μ I' P L (pc + 3) (.int (aAdd (I (P m 0)) (I (P m 4)) t) :: rest)) : xg X G cs μ I P L pc (.ref (xZ G + m) :: rest) :=
  r_callV hC (c_X5_add X.2.1 km ks ls kp lp hsp hh hh4 kta lta hst hpt hxs hxt hxp kt lt hty ht60 hinv) hG rfl rfl rfl hd_X5_add hR (by rw [km]; decide) (xe_Model km) rfl rfl rfl hW hL hcs hdec (by rintro vv μ' I' P' ⟨rfl, rfl, rfl, hQ⟩; exact kk I' hQ)
