abbrev rm_X0_stepsOf : Room := { frames := 1, cells := 0, slots := 0, locals := 22 }
theorem wl_X0_stepsOf_100 : Cond.methodLink RX0 100 Lib.Math.abs.name ∈ wsX0_stepsOf := List.mem_of_getElem? (i := 1) (by decide +kernel)
theorem wa_X0_stepsOf_1 : Cond.static Lib.Math.abs.name ∈ wsX0_stepsOf := List.mem_of_getElem? (i := 2) (by decide +kernel)
theorem wa_X0_stepsOf_2 : Cond.initialized "java/lang/Math" ∈ wsX0_stepsOf := List.mem_of_getElem? (i := 3) (by decide +kernel)
theorem wa_X0_stepsOf_3 : Cond.code Lib.Math.abs.name Lib.Math.abs.code 1 (some .int) ∈ wsX0_stepsOf := List.mem_of_getElem? (i := 4) (by decide +kernel)
theorem wl_X0_stepsOf_11 : Cond.fieldLink RX0 11 "HandBlinds$Blind" "rows" "[LHandBlinds$Row;" ∈ wsX0_stepsOf := List.mem_of_getElem? (i := 5) (by decide +kernel)
theorem wi_X0_stepsOf_0 : ∀ w ∈ wsX00, w ∈ wsX0_stepsOf := fun _ h => List.mem_cons_of_mem _ (List.mem_append_left _ (List.mem_append_right _ h))
theorem wl_X0_stepsOf_92 : Cond.fieldLink RX0 92 "HandBlinds$Row" "torn" "Z" ∈ wsX0_stepsOf := List.mem_of_getElem? (i := 6) (by decide +kernel)
theorem wi_X0_stepsOf_2 : ∀ w ∈ wsX20, w ∈ wsX0_stepsOf := fun _ h => List.mem_cons_of_mem _ (List.mem_append_right _ h)
theorem hd_X0_stepsOf : yX0_stepsOf.cls = RX0 ∧ yX0_stepsOf.cls ≠ "java/lang/invoke/MethodHandle" ∧ yX0_stepsOf.cls ≠ "java/lang/invoke/VarHandle" ∧ (parseMethodDescriptor yX0_stepsOf.desc).map (fun d => d.parameters.length) = some 1 := ⟨rfl, by decide +kernel, by decide +kernel, by decide +kernel⟩
set_option maxHeartbeats 4000000 in
set_option maxRecDepth 100000 in
theorem c_X0_stepsOf (l : Launch) {G : xG} {μ : xM} {I : xI} {P : xP} {b n rq : Nat} {S : Nat → Int32} {a w : Nat} {up : Bool} {wd : Int32} (kb : μ.2.1 b = 1) (hA : bA μ P b) (hB : bR I P b S n rq) (hinv : invN S n rq) (ha : S 1 = nI a) (han : a < n) (hw : wd = if up then nI w else -nI w) (hw1 : 1 ≤ w) (hw20 : w ≤ 20) : Ct l yX0_stepsOf wsX0_stepsOf rm_X0_stepsOf G μ I P [.ref (xZ G + b), .int wd] 0 0 (fun vv μ' I' P' => vv = some (.int (nI (stepsS S n a up w))) ∧ μ' = μ ∧ I' = (I) ∧ P' = (P)) := by
  obtain ⟨⟨k0, l0⟩, ⟨k3, l3⟩, ⟨k6, l6⟩, hrw, hrt⟩ := hA
  have hrowf := fun {i : Nat} (hi : i < n) => bRow hB hinv hi
  obtain ⟨b1, b2, b4, b5, b7, b8, b9, b10, bst, brw, brt⟩ := hB
  obtain ⟨hn20, hn, hq6, hq, hcur, hdr, h8, h9, h10, hrows⟩ := hinv
  have b1n : I b 1 = nI n := b1.trans hn
  have b4q : I b 4 = nI rq := b4.trans hq
  have hb2 : I b 2 = nI a := by rw [b2, ha, if_neg (nI_pos (by omega))]
  have hab := wd_abs hw hw1 hw20
  refine Ct.of (cc := cX0_stepsOf) (maxL := 5) (ret := (some .int)) [some (.ref (xZ G + b)), some (.int wd), none, none, none] (by decide) rfl rfl rfl (Nat.le_of_ble_eq_true rfl) ?_
  intro X hC hD h0 _
  have loop : ∀ (q k : Nat), k + q = w → ∀ z : Option Value, (∀ i, i < k → stopS S n a up i = false) → xg X G (0, 0) μ I P [some (.ref (xZ G + b)), some (.int wd), some (.int (nI k)), some (.int (nI k)), z] 4 [] := by
    intro q
    induction q with
    | zero =>
      intro k hk z hno
      have ek : k = w := by omega
      subst ek
      refine r_iload_n (pc := 4) hC dX0_stepsOf_4 rfl ?_
      refine r_iload_n (pc := 5) hC dX0_stepsOf_5 rfl ?_
      refine r_mabs (pc := 6) hC wl_X0_stepsOf_100 wa_X0_stepsOf_1 wa_X0_stepsOf_2 wa_X0_stepsOf_3 ⟨Nat.le_of_ble_eq_true rfl, Nat.le_of_ble_eq_true rfl⟩ (Nat.le_of_ble_eq_true rfl) rfl ⟨Nat.zero_le _, Nat.zero_le _⟩ dX0_stepsOf_6 ?_
      rw [hab]
      refine r_icmp_ge (pc := 9) (tgt := 58) hC dX0_stepsOf_9 (by decide) (fun bq9 => ?_) (fun bq9 => ?_)
      · skip
        refine r_iload_n (pc := 58) hC dX0_stepsOf_58 rfl ?_
        refine r_iret (pc := 59) hC hD rfl dX0_stepsOf_59 rfl ?_
        have hx : stepsS S n a up k = k := srch_at k 0 k (by omega) (by omega) (fun i _ hi => hno i hi) (Or.inl (by omega))
        exact ⟨by rw [hx], rfl, rfl, rfl⟩
      · skip
        exact absurd (nI_le (by omega) (by omega)) bq9
    | succ q ih =>
      intro k hk z hno
      refine r_iload_n (pc := 4) hC dX0_stepsOf_4 rfl ?_
      refine r_iload_n (pc := 5) hC dX0_stepsOf_5 rfl ?_
      refine r_mabs (pc := 6) hC wl_X0_stepsOf_100 wa_X0_stepsOf_1 wa_X0_stepsOf_2 wa_X0_stepsOf_3 ⟨Nat.le_of_ble_eq_true rfl, Nat.le_of_ble_eq_true rfl⟩ (Nat.le_of_ble_eq_true rfl) rfl ⟨Nat.zero_le _, Nat.zero_le _⟩ dX0_stepsOf_6 ?_
      rw [hab]
      refine r_icmp_ge (pc := 9) (tgt := 58) hC dX0_stepsOf_9 (by decide) (fun bq9 => ?_) (fun bq9 => ?_)
      · skip
        exact absurd bq9 (nI_ge (by omega) (by omega))
      · skip
        refine r_aload_n (pc := 12) hC dX0_stepsOf_12 rfl ?_
        refine r_iload_n (pc := 13) hC dX0_stepsOf_13 rfl ?_
        refine r_iload_n (pc := 14) hC dX0_stepsOf_14 rfl ?_
        have hgr := go_row (S := S) (up := up) han hno
        refine k_X0_rowAfter (pc := 15) hC gX0_stepsOf_X0_rowAfter ⟨Nat.le_of_ble_eq_true rfl, Nat.le_of_ble_eq_true rfl⟩ (by assumption) (Nat.le_of_ble_eq_true rfl) rfl ⟨Nat.zero_le _, Nat.zero_le _⟩ dX0_stepsOf_15 ?_
        rw [hb2, rowC hw hw1 hw20 hgr.2]
        refine r_istore (pc := 18) (L' := [_, _, _, _, _]) hC dX0_stepsOf_18 rfl (Nat.le_of_ble_eq_true rfl) rfl ?_
        refine r_aload_n (pc := 20) hC dX0_stepsOf_20 rfl ?_
        refine r_iload_n (pc := 21) hC dX0_stepsOf_21 rfl ?_
        refine r_iload (pc := 22) hC dX0_stepsOf_22 rfl ?_
        refine k_X0_isEnd (pc := 24) hC gX0_stepsOf_X0_isEnd ⟨Nat.le_of_ble_eq_true rfl, Nat.le_of_ble_eq_true rfl⟩ (by assumption) (Nat.le_of_ble_eq_true rfl) rfl ⟨Nat.zero_le _, Nat.zero_le _⟩ dX0_stepsOf_24 ?_
        rw [b1n, endC hw hw1 hw20 hgr.1 hn20]
        refine r_if_ne (pc := 27) (tgt := 47) hC dX0_stepsOf_27 (by decide) (fun bq27 => ?_) (fun bq27 => ?_)
        · skip
          refine r_iload_n (pc := 47) hC dX0_stepsOf_47 rfl ?_
          refine r_iret (pc := 48) hC hD rfl dX0_stepsOf_48 rfl ?_
          have hp : stopS S n a up k = true := by
            rw [stopS, bI_1 bq27]; rfl
          have hx : stepsS S n a up w = k := srch_at w 0 k (by omega) (by omega) (fun i _ hi => hno i hi) (Or.inr hp)
          exact ⟨by rw [hx], rfl, rfl, rfl⟩
        · skip
          refine r_iload_n (pc := 30) hC dX0_stepsOf_30 rfl ?_
          refine r_if_le (pc := 31) (tgt := 49) hC dX0_stepsOf_31 (by decide) (fun bq31 => ?_) (fun bq31 => ?_)
          · skip
            refine r_iinc (pc := 49) (v := 1) (L' := [_, _, _, _, _]) hC dX0_stepsOf_49 rfl (by decide) rfl rfl ?_
            refine r_iinc (pc := 52) (v := 1) (L' := [_, _, _, _, _]) hC dX0_stepsOf_52 rfl (by decide) rfl rfl ?_
            refine r_goto (pc := 55) (tgt := 4) hC dX0_stepsOf_55 (by decide) ?_
            have hp : stopS S n a up k = false := by
              have k0' : k = 0 := by
                rcases Nat.eq_zero_or_pos k with w0 | w0
                · exact w0
                · exact absurd bq31 (nI_ge (a := 0) w0 (by omega))
              subst k0'
              rw [stopS, bI_0.mp bq27]; rfl
            rw [nI_1]; exact ih (k + 1) (by omega) _ (fun i hi => by rcases Nat.lt_or_ge i k with y | y; exact hno i y; rw [show i = k by omega]; exact hp)
          · skip
            refine r_aload_n (pc := 34) hC dX0_stepsOf_34 rfl ?_
            refine g_Blind_rows (pc := 35) hC wi_X0_stepsOf_0 wl_X0_stepsOf_11 (by assumption) (c2 := 9) (by assumption) (by decide) dX0_stepsOf_35 ?_
            refine r_iload (pc := 38) hC dX0_stepsOf_38 rfl ?_
            refine r_aald_Row (pc := 40) hC k0 (xi_n (k := rowAt a up k) (by rw [l0]; omega) (by rw [l0]; decide)) (hrw _ (by omega)).1 dX0_stepsOf_40 ?_
            refine g_Row_torn (pc := 41) hC wi_X0_stepsOf_2 wl_X0_stepsOf_92 (hrw (rowAt a up k) (by omega)).1 dX0_stepsOf_41 ?_
            refine r_if_eq (pc := 44) (tgt := 49) hC dX0_stepsOf_44 (by decide) (fun bq44 => ?_) (fun bq44 => ?_)
            · skip
              refine r_iinc (pc := 49) (v := 1) (L' := [_, _, _, _, _]) hC dX0_stepsOf_49 rfl (by decide) rfl rfl ?_
              refine r_iinc (pc := 52) (v := 1) (L' := [_, _, _, _, _]) hC dX0_stepsOf_52 rfl (by decide) rfl rfl ?_
              refine r_goto (pc := 55) (tgt := 4) hC dX0_stepsOf_55 (by decide) ?_
              have hp : stopS S n a up k = false := by
                have e1 : ¬ S (13 + 17 * rowAt a up k) = 1 := by
                  obtain ⟨-, -, -, -, -, -, -, -, -, -, e3, e01⟩ := hrowf hgr.1
                  rw [e3] at bq44
                  rw [bq44]; decide
                simp [stopS, bI_0.mp bq27, e1]
              rw [nI_1]; exact ih (k + 1) (by omega) _ (fun i hi => by rcases Nat.lt_or_ge i k with y | y; exact hno i y; rw [show i = k by omega]; exact hp)
            · skip
              refine r_iload_n (pc := 47) hC dX0_stepsOf_47 rfl ?_
              refine r_iret (pc := 48) hC hD rfl dX0_stepsOf_48 rfl ?_
              have hp : stopS S n a up k = true := by
                have k0' : 0 < k := by
                  rcases Nat.eq_zero_or_pos k with w0 | w0
                  · subst w0; exact absurd (show nI 0 ≤ 0 by decide) bq31
                  · exact w0
                have e1 : S (13 + 17 * rowAt a up k) = 1 := by
                  obtain ⟨-, -, -, -, -, -, -, -, -, -, e3, e01⟩ := hrowf hgr.1
                  rw [e3] at bq44
                  exact e01.resolve_left bq44
                simp [stopS, k0', e1]
              have hx : stepsS S n a up w = k := srch_at w 0 k (by omega) (by omega) (fun i _ hi => hno i hi) (Or.inr hp)
              exact ⟨by rw [hx], rfl, rfl, rfl⟩
  refine r_iconst (pc := 0) (v := 0) hC dX0_stepsOf_0 (by decide) ?_
  refine r_istore_n (pc := 1) (L' := [_, _, _, _, _]) hC dX0_stepsOf_1 rfl (Nat.le_of_ble_eq_true rfl) rfl ?_
  refine r_iconst (pc := 2) (v := 0) hC dX0_stepsOf_2 (by decide) ?_
  refine r_istore_n (pc := 3) (L' := [_, _, _, _, _]) hC dX0_stepsOf_3 rfl (Nat.le_of_ble_eq_true rfl) rfl ?_
  exact loop w 0 (by omega) none (fun i hi => absurd hi (by omega))
theorem k_X0_stepsOf {X : xF} {G : xG} {cs : Nat × Nat} {μ : xM} {I : xI} {P : xP} {L : List (Option Value)} {pc : Nat} {rest : List Value} {cc : ByteArray} {Ts : List Cond} {own : String} {nL : Nat} {R : Room} (hC : xC X G cc Ts own nL R) {index : Nat} (hG : GoodIn Ts (wsV own index RX0 yX0_stepsOf wsX0_stepsOf)) (hR : rm_X0_stepsOf.frames + 1 ≤ R.frames ∧ 8 + (5 + 11) + rm_X0_stepsOf.locals ≤ R.locals) {b n rq : Nat} {S : Nat → Int32} {a w : Nat} {up : Bool} {wd : Int32} (kb : μ.2.1 b = 1) (hA : bA μ P b) (hB : bR I P b S n rq) (hinv : invN S n rq) (ha : S 1 = nI a) (han : a < n) (hw : wd = if up then nI w else -nI w) (hw1 : 1 ≤ w) (hw20 : w ≤ 20) (hW : (rest.map fun v => v.category).sum ≤ 8) (hL : L.length = nL) (hcs : cs.1 ≤ R.cells ∧ cs.2 ≤ R.slots) (hdec : decode cc pc = .ok (.invokevirtual index, 3)) (kk : xg X G cs μ I P L (pc + 3) (.int (nI (stepsS S n a up w)) :: rest)) : xg X G cs μ I P L pc (.int wd :: .ref (xZ G + b) :: rest) :=
  r_callV hC (c_X0_stepsOf X.2.1 kb hA hB hinv ha han hw hw1 hw20) hG rfl rfl rfl hd_X0_stepsOf hR (by rw [kb]; decide) (xe_Blind kb) rfl rfl rfl hW hL hcs hdec (by rintro v μ' I' P' ⟨rfl, rfl, rfl, rfl⟩; exact kk)
abbrev rm_X0_endOf : Room := { frames := 1, cells := 0, slots := 0, locals := 22 }
abbrev rm_X0_tearsAt : Room := { frames := 1, cells := 0, slots := 0, locals := 22 }
theorem wl_X0_tearsAt_92 : Cond.fieldLink RX0 92 "HandBlinds$Row" "torn" "Z" ∈ wsX0_tearsAt := List.mem_of_getElem? (i := 1) (by decide +kernel)
theorem wi_X0_tearsAt_2 : ∀ w ∈ wsX20, w ∈ wsX0_tearsAt := fun _ h => List.mem_cons_of_mem _ (List.mem_append_left _ (List.mem_append_right _ h))
theorem wl_X0_tearsAt_117 : Cond.fieldLink RX0 117 "HandBlinds$Row" "wear" "I" ∈ wsX0_tearsAt := List.mem_of_getElem? (i := 2) (by decide +kernel)
theorem wl_X0_tearsAt_25 : Cond.fieldLink RX0 25 "HandBlinds$Blind" "settings" "[I" ∈ wsX0_tearsAt := List.mem_of_getElem? (i := 3) (by decide +kernel)
theorem wi_X0_tearsAt_0 : ∀ w ∈ wsX00, w ∈ wsX0_tearsAt := fun _ h => List.mem_cons_of_mem _ (List.mem_append_right _ h)
theorem hd_X0_tearsAt : yX0_tearsAt.cls = RX0 ∧ yX0_tearsAt.cls ≠ "java/lang/invoke/MethodHandle" ∧ yX0_tearsAt.cls ≠ "java/lang/invoke/VarHandle" ∧ (parseMethodDescriptor yX0_tearsAt.desc).map (fun d => d.parameters.length) = some 3 := ⟨rfl, by decide +kernel, by decide +kernel, by decide +kernel⟩
set_option maxHeartbeats 4000000 in
set_option maxRecDepth 100000 in
theorem c_X0_tearsAt (l : Launch) {G : xG} {μ : xM} {I : xI} {P : xP} {b r g : Nat} {v : Int32} (kb : μ.2.1 b = 1) (k6 : μ.2.1 (P b 6) = 7) (l6 : μ.2.2 (P b 6) = 3) (kr : μ.2.1 r = 3) (hg : g < 2 ^ 31) : Ct l yX0_tearsAt wsX0_tearsAt rm_X0_tearsAt G μ I P [.ref (xZ G + b), .ref (xZ G + r), .int (nI g), .int v] 0 0 (fun vv μ' I' P' => vv = some (.int (tearC I P b r v g)) ∧ μ' = μ ∧ I' = (I) ∧ P' = (P)) := by
  refine Ct.of (cc := cX0_tearsAt) (maxL := 4) (ret := (some .boolean)) [some (.ref (xZ G + b)), some (.ref (xZ G + r)), some (.int (nI g)), some (.int v)] (by decide) rfl rfl rfl (Nat.le_of_ble_eq_true rfl) ?_
  intro X hC hD h0 _
  refine r_aload_n (pc := 0) hC dX0_tearsAt_0 rfl ?_
  refine r_iload_n (pc := 1) hC dX0_tearsAt_1 rfl ?_
  refine r_iload_n (pc := 2) hC dX0_tearsAt_2 rfl ?_
  refine k_X0_isSkipped (pc := 3) hC gX0_tearsAt_X0_isSkipped ⟨Nat.le_of_ble_eq_true rfl, Nat.le_of_ble_eq_true rfl⟩ (by assumption) (Nat.le_of_ble_eq_true rfl) rfl ⟨Nat.zero_le _, Nat.zero_le _⟩ dX0_tearsAt_3 ?_
  rw [skC hg]
  refine r_if_ne (pc := 6) (tgt := 35) hC dX0_tearsAt_6 (by decide) (fun bq6 => ?_) (fun bq6 => ?_)
  · skip
    refine r_iconst (pc := 35) (v := 0) hC dX0_tearsAt_35 (by decide) ?_
    refine r_iret (pc := 36) hC hD rfl dX0_tearsAt_36 rfl ?_
    exact ⟨by rw [tearC, if_pos (of_decide_eq_true (bI_1 bq6))], rfl, rfl, rfl⟩
  · skip
    refine r_aload_n (pc := 9) hC dX0_tearsAt_9 rfl ?_
    refine g_Row_torn (pc := 10) hC wi_X0_tearsAt_2 wl_X0_tearsAt_92 (by assumption) dX0_tearsAt_10 ?_
    refine r_if_ne (pc := 13) (tgt := 35) hC dX0_tearsAt_13 (by decide) (fun bq13 => ?_) (fun bq13 => ?_)
    · skip
      refine r_iconst (pc := 35) (v := 0) hC dX0_tearsAt_35 (by decide) ?_
      refine r_iret (pc := 36) hC hD rfl dX0_tearsAt_36 rfl ?_
      exact ⟨by rw [tearC, if_neg (of_decide_eq_false (bI_0.mp bq6)), if_neg bq13], rfl, rfl, rfl⟩
    · skip
      refine r_aload_n (pc := 16) hC dX0_tearsAt_16 rfl ?_
      refine g_Row_wear (pc := 17) hC wi_X0_tearsAt_2 wl_X0_tearsAt_117 (by assumption) dX0_tearsAt_17 ?_
      refine r_iload_n (pc := 20) hC dX0_tearsAt_20 rfl ?_
      refine r_iadd (pc := 21) hC dX0_tearsAt_21 ?_
      refine r_aload_n (pc := 22) hC dX0_tearsAt_22 rfl ?_
      refine g_Blind_settings (pc := 23) hC wi_X0_tearsAt_0 wl_X0_tearsAt_25 (by assumption) (c2 := 7) (by assumption) (by decide) dX0_tearsAt_23 ?_
      refine r_iconst (pc := 26) (v := 1) hC dX0_tearsAt_26 (by decide) ?_
      refine r_iald (pc := 27) hC k6 (xi_l (k := 1) l6 (by decide) (by decide) (by decide)) dX0_tearsAt_27 ?_
      refine r_icmp_le (pc := 28) (tgt := 35) hC dX0_tearsAt_28 (by decide) (fun bq28 => ?_) (fun bq28 => ?_)
      · skip
        refine r_iconst (pc := 35) (v := 0) hC dX0_tearsAt_35 (by decide) ?_
        refine r_iret (pc := 36) hC hD rfl dX0_tearsAt_36 rfl ?_
        exact ⟨by rw [tearC, if_neg (of_decide_eq_false (bI_0.mp bq6)), if_pos bq13, if_pos bq28], rfl, rfl, rfl⟩
      · skip
        refine r_iconst (pc := 31) (v := 1) hC dX0_tearsAt_31 (by decide) ?_
        refine r_goto (pc := 32) (tgt := 36) hC dX0_tearsAt_32 (by decide) ?_
        refine r_iret (pc := 36) hC hD rfl dX0_tearsAt_36 rfl ?_
        exact ⟨by rw [tearC, if_neg (of_decide_eq_false (bI_0.mp bq6)), if_pos bq13, if_neg bq28], rfl, rfl, rfl⟩
theorem k_X0_tearsAt {X : xF} {G : xG} {cs : Nat × Nat} {μ : xM} {I : xI} {P : xP} {L : List (Option Value)} {pc : Nat} {rest : List Value} {cc : ByteArray} {Ts : List Cond} {own : String} {nL : Nat} {R : Room} (hC : xC X G cc Ts own nL R) {index : Nat} (hG : GoodIn Ts (wsV own index RX0 yX0_tearsAt wsX0_tearsAt)) (hR : rm_X0_tearsAt.frames + 1 ≤ R.frames ∧ 8 + (4 + 11) + rm_X0_tearsAt.locals ≤ R.locals) {b r g : Nat} {v : Int32} (kb : μ.2.1 b = 1) (k6 : μ.2.1 (P b 6) = 7) (l6 : μ.2.2 (P b 6) = 3) (kr : μ.2.1 r = 3) (hg : g < 2 ^ 31) (hW : (rest.map fun v => v.category).sum ≤ 8) (hL : L.length = nL) (hcs : cs.1 ≤ R.cells ∧ cs.2 ≤ R.slots) (hdec : decode cc pc = .ok (.invokevirtual index, 3)) (kk : xg X G cs μ I P L (pc + 3) (.int (tearC I P b r v g) :: rest)) : xg X G cs μ I P L pc (.int v :: .int (nI g) :: .ref (xZ G + r) :: .ref (xZ G + b) :: rest) :=
  r_callV hC (c_X0_tearsAt X.2.1 kb k6 l6 kr hg) hG rfl rfl rfl hd_X0_tearsAt hR (by rw [kb]; decide) (xe_Blind kb) rfl rfl rfl hW hL hcs hdec (by rintro v μ' I' P' ⟨rfl, rfl, rfl, rfl⟩; exact kk)
abbrev rm_X0_leave : Room := { frames := 2, cells := 0, slots := 0, locals := 45 }
theorem wl_X0_leave_117 : Cond.fieldLink RX0 117 "HandBlinds$Row" "wear" "I" ∈ wsX0_leave := List.mem_of_getElem? (i := 3) (by decide +kernel)
theorem wi_X0_leave_2 : ∀ w ∈ wsX20, w ∈ wsX0_leave := fun _ h => List.mem_cons_of_mem _ (List.mem_append_left _ (List.mem_append_right _ h))
theorem wl_X0_leave_92 : Cond.fieldLink RX0 92 "HandBlinds$Row" "torn" "Z" ∈ wsX0_leave := List.mem_of_getElem? (i := 1) (by decide +kernel)
theorem wl_X0_leave_59 : Cond.fieldLink RX0 59 "HandBlinds$Blind" "tears" "I" ∈ wsX0_leave := List.mem_of_getElem? (i := 2) (by decide +kernel)
theorem wi_X0_leave_0 : ∀ w ∈ wsX00, w ∈ wsX0_leave := fun _ h => List.mem_cons_of_mem _ (List.mem_append_right _ h)
theorem hd_X0_leave : yX0_leave.cls = RX0 ∧ yX0_leave.cls ≠ "java/lang/invoke/MethodHandle" ∧ yX0_leave.cls ≠ "java/lang/invoke/VarHandle" ∧ (parseMethodDescriptor yX0_leave.desc).map (fun d => d.parameters.length) = some 3 := ⟨rfl, by decide +kernel, by decide +kernel, by decide +kernel⟩
set_option maxHeartbeats 4000000 in
set_option maxRecDepth 100000 in
theorem c_X0_leave (l : Launch) {G : xG} {μ : xM} {I : xI} {P : xP} {b r g : Nat} {v : Int32} (kb : μ.2.1 b = 1) (k6 : μ.2.1 (P b 6) = 7) (l6 : μ.2.2 (P b 6) = 3) (kr : μ.2.1 r = 3) (hg : g < 2 ^ 31) : Ct l yX0_leave wsX0_leave rm_X0_leave G μ I P [.ref (xZ G + b), .ref (xZ G + r), .int (nI g), .int v] 0 0 (fun vv μ' I' P' => vv = none ∧ μ' = μ ∧ I' = (lvC P b r v g I) ∧ P' = (P)) := by
  have hbr : b ≠ r := fun e => by rw [e, kr] at kb; cases kb
  refine Ct.of (cc := cX0_leave) (maxL := 4) (ret := none) [some (.ref (xZ G + b)), some (.ref (xZ G + r)), some (.int (nI g)), some (.int v)] (by decide) rfl rfl rfl (Nat.le_of_ble_eq_true rfl) ?_
  intro X hC hD h0 _
  refine r_aload_n (pc := 0) hC dX0_leave_0 rfl ?_
  refine r_aload_n (pc := 1) hC dX0_leave_1 rfl ?_
  refine r_iload_n (pc := 2) hC dX0_leave_2 rfl ?_
  refine r_iload_n (pc := 3) hC dX0_leave_3 rfl ?_
  refine k_X0_tearsAt (pc := 4) hC gX0_leave_X0_tearsAt ⟨Nat.le_of_ble_eq_true rfl, Nat.le_of_ble_eq_true rfl⟩ kb k6 l6 kr hg (Nat.le_of_ble_eq_true rfl) rfl ⟨Nat.zero_le _, Nat.zero_le _⟩ dX0_leave_4 ?_
  refine r_if_eq (pc := 7) (tgt := 25) hC dX0_leave_7 (by decide) (fun bq7 => ?_) (fun bq7 => ?_)
  · skip
    refine r_aload_n (pc := 25) hC dX0_leave_25 rfl ?_
    refine r_iload_n (pc := 26) hC dX0_leave_26 rfl ?_
    refine r_iload_n (pc := 27) hC dX0_leave_27 rfl ?_
    refine k_X0_isSkipped (pc := 28) hC gX0_leave_X0_isSkipped ⟨Nat.le_of_ble_eq_true rfl, Nat.le_of_ble_eq_true rfl⟩ (by assumption) (Nat.le_of_ble_eq_true rfl) rfl ⟨Nat.zero_le _, Nat.zero_le _⟩ dX0_leave_28 ?_
    rw [skC hg]
    refine r_if_ne (pc := 31) (tgt := 44) hC dX0_leave_31 (by decide) (fun bq31 => ?_) (fun bq31 => ?_)
    · skip
      refine r_vret (pc := 44) hC hD dX0_leave_44 rfl ?_
      exact ⟨rfl, rfl, by rw [lvC, if_pos (of_decide_eq_true (bI_1 bq31))], rfl⟩
    · skip
      refine r_aload_n (pc := 34) hC dX0_leave_34 rfl ?_
      refine r_dup (pc := 35) hC dX0_leave_35 rfl ?_
      refine g_Row_wear (pc := 36) hC wi_X0_leave_2 wl_X0_leave_117 (by assumption) dX0_leave_36 ?_
      skip
      refine r_iload_n (pc := 39) hC dX0_leave_39 rfl ?_
      refine r_iadd (pc := 40) hC dX0_leave_40 ?_
      refine p_Row_wear (pc := 41) hC wi_X0_leave_2 wl_X0_leave_117 (by assumption) dX0_leave_41 ?_
      refine r_vret (pc := 44) hC hD dX0_leave_44 rfl ?_
      exact ⟨rfl, rfl, by rw [lvC, if_neg (of_decide_eq_false (bI_0.mp bq31)), bq7, if_neg (by decide), xu_self, Int32.add_zero, xu_self], rfl⟩
  · skip
    refine r_aload_n (pc := 10) hC dX0_leave_10 rfl ?_
    refine r_iconst (pc := 11) (v := 1) hC dX0_leave_11 (by decide) ?_
    refine p_Row_torn (pc := 12) hC (by first | exact Or.inl rfl | exact Or.inr rfl | assumption) wi_X0_leave_2 wl_X0_leave_92 (by assumption) dX0_leave_12 ?_
    refine r_aload_n (pc := 15) hC dX0_leave_15 rfl ?_
    refine r_dup (pc := 16) hC dX0_leave_16 rfl ?_
    refine g_Blind_tears (pc := 17) hC wi_X0_leave_0 wl_X0_leave_59 (by assumption) dX0_leave_17 ?_
    rw [xu_row hbr]
    refine r_iconst (pc := 20) (v := 1) hC dX0_leave_20 (by decide) ?_
    refine r_iadd (pc := 21) hC dX0_leave_21 ?_
    refine p_Blind_tears (pc := 22) hC wi_X0_leave_0 wl_X0_leave_59 (by assumption) dX0_leave_22 ?_
    refine r_aload_n (pc := 25) hC dX0_leave_25 rfl ?_
    refine r_iload_n (pc := 26) hC dX0_leave_26 rfl ?_
    refine r_iload_n (pc := 27) hC dX0_leave_27 rfl ?_
    refine k_X0_isSkipped (pc := 28) hC gX0_leave_X0_isSkipped ⟨Nat.le_of_ble_eq_true rfl, Nat.le_of_ble_eq_true rfl⟩ (by assumption) (Nat.le_of_ble_eq_true rfl) rfl ⟨Nat.zero_le _, Nat.zero_le _⟩ dX0_leave_28 ?_
    rw [skC hg]
    refine r_if_ne (pc := 31) (tgt := 44) hC dX0_leave_31 (by decide) (fun bq31 => ?_) (fun bq31 => ?_)
    · skip
      refine r_vret (pc := 44) hC hD dX0_leave_44 rfl ?_
      exact absurd (by rw [tearC, if_pos (of_decide_eq_true (bI_1 bq31))]) bq7
    · skip
      refine r_aload_n (pc := 34) hC dX0_leave_34 rfl ?_
      refine r_dup (pc := 35) hC dX0_leave_35 rfl ?_
      refine g_Row_wear (pc := 36) hC wi_X0_leave_2 wl_X0_leave_117 (by assumption) dX0_leave_36 ?_
      rw [xu_row (Ne.symm hbr), xu_ne (Or.inr (by decide))]
      refine r_iload_n (pc := 39) hC dX0_leave_39 rfl ?_
      refine r_iadd (pc := 40) hC dX0_leave_40 ?_
      refine p_Row_wear (pc := 41) hC wi_X0_leave_2 wl_X0_leave_117 (by assumption) dX0_leave_41 ?_
      refine r_vret (pc := 44) hC hD dX0_leave_44 rfl ?_
      have e1 : tearC I P b r v g = 1 := (tearC_01 I P b r v g).resolve_left bq7
      exact ⟨rfl, rfl, by rw [lvC, if_neg (of_decide_eq_false (bI_0.mp bq31)), e1, if_pos rfl], rfl⟩
theorem k_X0_leave {X : xF} {G : xG} {cs : Nat × Nat} {μ : xM} {I : xI} {P : xP} {L : List (Option Value)} {pc : Nat} {rest : List Value} {cc : ByteArray} {Ts : List Cond} {own : String} {nL : Nat} {R : Room} (hC : xC X G cc Ts own nL R) {index : Nat} (hG : GoodIn Ts (wsV own index RX0 yX0_leave wsX0_leave)) (hR : rm_X0_leave.frames + 1 ≤ R.frames ∧ 8 + (4 + 11) + rm_X0_leave.locals ≤ R.locals) {b r g : Nat} {v : Int32} (kb : μ.2.1 b = 1) (k6 : μ.2.1 (P b 6) = 7) (l6 : μ.2.2 (P b 6) = 3) (kr : μ.2.1 r = 3) (hg : g < 2 ^ 31) (hW : (rest.map fun v => v.category).sum ≤ 8) (hL : L.length = nL) (hcs : cs.1 ≤ R.cells ∧ cs.2 ≤ R.slots) (hdec : decode cc pc = .ok (.invokevirtual index, 3)) (kk : xg X G cs μ (lvC P b r v g I) P L (pc + 3) rest) : xg X G cs μ I P L pc (.int v :: .int (nI g) :: .ref (xZ G + r) :: .ref (xZ G + b) :: rest) :=
  r_callV hC (c_X0_leave X.2.1 kb k6 l6 kr hg) hG rfl rfl rfl hd_X0_leave hR (by rw [kb]; decide) (xe_Blind kb) rfl rfl rfl hW hL hcs hdec (by rintro v μ' I' P' ⟨rfl, rfl, rfl, rfl⟩; exact kk)
abbrev rm_X0_tearsOf : Room := { frames := 2, cells := 0, slots := 0, locals := 46 }
