abbrev rm_X0_squeezed : Room := { frames := 0, cells := 0, slots := 0, locals := 0 }
theorem wl_X0_squeezed_25 : Cond.fieldLink RX0 25 "HandBlinds$Blind" "settings" "[I" ∈ wsX0_squeezed := List.mem_of_getElem? (i := 1) (by decide +kernel)
theorem wi_X0_squeezed_0 : ∀ w ∈ wsX00, w ∈ wsX0_squeezed := fun _ h => List.mem_cons_of_mem _ (List.mem_append_right _ h)
theorem hd_X0_squeezed : yX0_squeezed.cls = RX0 ∧ yX0_squeezed.cls ≠ "java/lang/invoke/MethodHandle" ∧ yX0_squeezed.cls ≠ "java/lang/invoke/VarHandle" ∧ (parseMethodDescriptor yX0_squeezed.desc).map (fun d => d.parameters.length) = some 1 := ⟨rfl, by decide +kernel, by decide +kernel, by decide +kernel⟩
set_option maxHeartbeats 4000000 in
set_option maxRecDepth 100000 in
theorem c_X0_squeezed (l : Launch) {G : xG} {μ : xM} {I : xI} {P : xP} {b n rq : Nat} {S : Nat → Int32} {w : Int32} (kb : μ.2.1 b = 1) (hA : bA μ P b) (hB : bR I P b S n rq) (hinv : invN S n rq) : Ct l yX0_squeezed wsX0_squeezed rm_X0_squeezed G μ I P [.ref (xZ G + b), .int w] 0 0 (fun vv μ' I' P' => vv = some (.int (sq (S 8) w)) ∧ μ' = μ ∧ I' = (I) ∧ P' = (P)) := by
  obtain ⟨⟨k0, l0⟩, ⟨k3, l3⟩, ⟨k6, l6⟩, hrw, hrt⟩ := hA
  have hrowf := fun {i : Nat} (hi : i < n) => bRow hB hinv hi
  obtain ⟨b1, b2, b4, b5, b7, b8, b9, b10, bst, brw, brt⟩ := hB
  obtain ⟨hn20, hn, hq6, hq, hcur, hdr, h8, h9, h10, hrows⟩ := hinv
  have b1n : I b 1 = nI n := b1.trans hn
  have b4q : I b 4 = nI rq := b4.trans hq
  have hne8 : ¬ S 8 = 0 := fun e => by rw [e] at h8; exact absurd h8.1 (by decide)
  refine Ct.of (cc := cX0_squeezed) (maxL := 3) (ret := (some .int)) [some (.ref (xZ G + b)), some (.int w), none] (by decide) rfl rfl rfl (Nat.le_of_ble_eq_true rfl) ?_
  intro X hC hD h0 _
  refine r_aload_n (pc := 0) hC dX0_squeezed_0 rfl ?_
  refine g_Blind_settings (pc := 1) hC wi_X0_squeezed_0 wl_X0_squeezed_25 (by assumption) (c2 := 7) (by assumption) (by decide) dX0_squeezed_1 ?_
  refine r_iconst (pc := 4) (v := 0) hC dX0_squeezed_4 (by decide) ?_
  refine r_iald (pc := 5) hC k6 (xi_l (k := 0) l6 (by decide) (by decide) (by decide)) dX0_squeezed_5 ?_
  rw [show I (P b 6) 0 = S 8 from bst 0 (by decide)]
  refine r_istore_n (pc := 6) (L' := [_, _, _]) hC dX0_squeezed_6 rfl (Nat.le_of_ble_eq_true rfl) rfl ?_
  refine r_iload_n (pc := 7) hC dX0_squeezed_7 rfl ?_
  refine r_if_le (pc := 8) (tgt := 25) hC dX0_squeezed_8 (by decide) (fun bq8 => ?_) (fun bq8 => ?_)
  · skip
    exact absurd (Int32.le_trans h8.1 bq8) (by decide)
  · skip
    refine r_iload_n (pc := 11) hC dX0_squeezed_11 rfl ?_
    refine r_iload_n (pc := 12) hC dX0_squeezed_12 rfl ?_
    refine r_icmp_le (pc := 13) (tgt := 25) hC dX0_squeezed_13 (by decide) (fun bq13 => ?_) (fun bq13 => ?_)
    · skip
      refine r_bipush (pc := 25) (v := 100) hC dX0_squeezed_25 (by decide) ?_
      refine r_iret (pc := 27) hC hD rfl dX0_squeezed_27 rfl ?_
      exact ⟨by rw [sq, if_pos bq13], rfl, rfl, rfl⟩
    · skip
      refine r_iload_n (pc := 16) hC dX0_squeezed_16 rfl ?_
      refine r_bipush (pc := 17) (v := 100) hC dX0_squeezed_17 (by decide) ?_
      refine r_imul (pc := 19) hC dX0_squeezed_19 ?_
      refine r_iload_n (pc := 20) hC dX0_squeezed_20 rfl ?_
      refine r_idiv (pc := 21) hC dX0_squeezed_21 hne8 ?_
      refine r_goto (pc := 22) (tgt := 27) hC dX0_squeezed_22 (by decide) ?_
      refine r_iret (pc := 27) hC hD rfl dX0_squeezed_27 rfl ?_
      exact ⟨by rw [sq, if_neg bq13], rfl, rfl, rfl⟩
theorem k_X0_squeezed {X : xF} {G : xG} {cs : Nat × Nat} {μ : xM} {I : xI} {P : xP} {L : List (Option Value)} {pc : Nat} {rest : List Value} {cc : ByteArray} {Ts : List Cond} {own : String} {nL : Nat} {R : Room} (hC : xC X G cc Ts own nL R) {index : Nat} (hG : GoodIn Ts (wsV own index RX0 yX0_squeezed wsX0_squeezed)) (hR : rm_X0_squeezed.frames + 1 ≤ R.frames ∧ 8 + (3 + 11) + rm_X0_squeezed.locals ≤ R.locals) {b n rq : Nat} {S : Nat → Int32} {w : Int32} (kb : μ.2.1 b = 1) (hA : bA μ P b) (hB : bR I P b S n rq) (hinv : invN S n rq) (hW : (rest.map fun v => v.category).sum ≤ 8) (hL : L.length = nL) (hcs : cs.1 ≤ R.cells ∧ cs.2 ≤ R.slots) (hdec : decode cc pc = .ok (.invokevirtual index, 3)) (kk : xg X G cs μ I P L (pc + 3) (.int (sq (S 8) w) :: rest)) : xg X G cs μ I P L pc (.int w :: .ref (xZ G + b) :: rest) :=
  r_callV hC (c_X0_squeezed X.2.1 kb hA hB hinv) hG rfl rfl rfl hd_X0_squeezed hR (by rw [kb]; decide) (xe_Blind kb) rfl rfl rfl hW hL hcs hdec (by rintro v μ' I' P' ⟨rfl, rfl, rfl, rfl⟩; exact kk)
abbrev rm_X0_routesOf : Room := { frames := 1, cells := 0, slots := 0, locals := 21 }
theorem wl_X0_routesOf_56 : Cond.fieldLink RX0 56 "HandBlinds$Blind" "routeCount" "I" ∈ wsX0_routesOf := List.mem_of_getElem? (i := 1) (by decide +kernel)
theorem wi_X0_routesOf_0 : ∀ w ∈ wsX00, w ∈ wsX0_routesOf := fun _ h => List.mem_cons_of_mem _ (List.mem_append_left _ (List.mem_append_right _ h))
theorem wl_X0_routesOf_20 : Cond.fieldLink RX0 20 "HandBlinds$Blind" "routes" "[LHandBlinds$Route;" ∈ wsX0_routesOf := List.mem_of_getElem? (i := 2) (by decide +kernel)
theorem hd_X0_routesOf : yX0_routesOf.cls = RX0 ∧ yX0_routesOf.cls ≠ "java/lang/invoke/MethodHandle" ∧ yX0_routesOf.cls ≠ "java/lang/invoke/VarHandle" ∧ (parseMethodDescriptor yX0_routesOf.desc).map (fun d => d.parameters.length) = some 1 := ⟨rfl, by decide +kernel, by decide +kernel, by decide +kernel⟩
set_option maxHeartbeats 4000000 in
set_option maxRecDepth 100000 in
theorem c_X0_routesOf (l : Launch) {G : xG} {μ : xM} {I : xI} {P : xP} {b n rq : Nat} {S : Nat → Int32} {r : Int32} (kb : μ.2.1 b = 1) (hA : bA μ P b) (hB : bR I P b S n rq) (hinv : invN S n rq) : Ct l yX0_routesOf wsX0_routesOf rm_X0_routesOf G μ I P [.ref (xZ G + b), .int r] 0 0 (fun vv μ' I' P' => vv = some (.int (rset (fun k => S (351 + 3 * k)) r rq)) ∧ μ' = μ ∧ I' = (I) ∧ P' = (P)) := by
  obtain ⟨⟨k0, l0⟩, ⟨k3, l3⟩, ⟨k6, l6⟩, hrw, hrt⟩ := hA
  have hrowf := fun {i : Nat} (hi : i < n) => bRow hB hinv hi
  obtain ⟨b1, b2, b4, b5, b7, b8, b9, b10, bst, brw, brt⟩ := hB
  obtain ⟨hn20, hn, hq6, hq, hcur, hdr, h8, h9, h10, hrows⟩ := hinv
  have b1n : I b 1 = nI n := b1.trans hn
  have b4q : I b 4 = nI rq := b4.trans hq
  refine Ct.of (cc := cX0_routesOf) (maxL := 4) (ret := (some .int)) [some (.ref (xZ G + b)), some (.int r), none, none] (by decide) rfl rfl rfl (Nat.le_of_ble_eq_true rfl) ?_
  intro X hC hD h0 _
  have loop : ∀ (q k : Nat), k + q = rq → xg X G (0, 0) μ I P [some (.ref (xZ G + b)), some (.int r), some (.int (rset (fun k => S (351 + 3 * k)) r k)), some (.int (nI k))] 4 [] := by
    intro q
    induction q with
    | zero =>
      intro k hk
      have ek : k = rq := by omega
      subst ek
      refine r_iload_n (pc := 4) hC dX0_routesOf_4 rfl ?_
      refine r_aload_n (pc := 5) hC dX0_routesOf_5 rfl ?_
      refine g_Blind_routeCount (pc := 6) hC wi_X0_routesOf_0 wl_X0_routesOf_56 (by assumption) dX0_routesOf_6 ?_
      refine r_icmp_ge (pc := 9) (tgt := 37) hC dX0_routesOf_9 (by decide) (fun bq9 => ?_) (fun bq9 => ?_)
      · skip
        refine r_iload_n (pc := 37) hC dX0_routesOf_37 rfl ?_
        refine r_iret (pc := 38) hC hD rfl dX0_routesOf_38 rfl ?_
        exact ⟨rfl, rfl, rfl, rfl⟩
      · skip
        rw [b4q] at bq9; exact absurd (nI_le (by omega) (by omega)) bq9
    | succ q ih =>
      intro k hk
      refine r_iload_n (pc := 4) hC dX0_routesOf_4 rfl ?_
      refine r_aload_n (pc := 5) hC dX0_routesOf_5 rfl ?_
      refine g_Blind_routeCount (pc := 6) hC wi_X0_routesOf_0 wl_X0_routesOf_56 (by assumption) dX0_routesOf_6 ?_
      refine r_icmp_ge (pc := 9) (tgt := 37) hC dX0_routesOf_9 (by decide) (fun bq9 => ?_) (fun bq9 => ?_)
      · skip
        rw [b4q] at bq9; exact absurd bq9 (nI_ge (by omega) (by omega))
      · skip
        refine r_aload_n (pc := 12) hC dX0_routesOf_12 rfl ?_
        refine g_Blind_routes (pc := 13) hC wi_X0_routesOf_0 wl_X0_routesOf_20 (by assumption) (c2 := 10) (by assumption) (by decide) dX0_routesOf_13 ?_
        refine r_iload_n (pc := 16) hC dX0_routesOf_16 rfl ?_
        refine r_aald_Route (pc := 17) hC k3 (xi_n (k := k) (by rw [l3]; omega) (by rw [l3]; decide)) (hrt k (by omega)) dX0_routesOf_17 ?_
        refine r_iload_n (pc := 18) hC dX0_routesOf_18 rfl ?_
        refine k_X1_owns (pc := 19) hC gX0_routesOf_X1_owns ⟨Nat.le_of_ble_eq_true rfl, Nat.le_of_ble_eq_true rfl⟩ (hrt k (by omega)) (Nat.le_of_ble_eq_true rfl) rfl ⟨Nat.zero_le _, Nat.zero_le _⟩ dX0_routesOf_19 ?_
        refine r_if_eq (pc := 22) (tgt := 31) hC dX0_routesOf_22 (by decide) (fun bq22 => ?_) (fun bq22 => ?_)
        · skip
          refine r_iinc (pc := 31) (v := 1) (L' := [_, _, _, _]) hC dX0_routesOf_31 rfl (by decide) rfl rfl ?_
          refine r_goto (pc := 34) (tgt := 4) hC dX0_routesOf_34 (by decide) ?_
          have hz : S (351 + 3 * k) >>> (r &&& 31) &&& 1 = 0 := by
            rw [← (brt k (by omega)).1]
            rcases bit01 (I (P (P b 3) k) 0) (r &&& 31) with e | e
            · exact e
            · rw [e] at bq22; exact absurd bq22 (by decide)
          have e : rset (fun k => S (351 + 3 * k)) r (k + 1) = rset (fun k => S (351 + 3 * k)) r k := by rw [rset, hz]; simp
          have z := ih (k + 1) (by omega)
          rw [e] at z
          rw [nI_1]; exact z
        · skip
          refine r_iload_n (pc := 25) hC dX0_routesOf_25 rfl ?_
          refine r_iconst (pc := 26) (v := 1) hC dX0_routesOf_26 (by decide) ?_
          refine r_iload_n (pc := 27) hC dX0_routesOf_27 rfl ?_
          refine r_ishl (pc := 28) hC dX0_routesOf_28 ?_
          refine r_ior (pc := 29) hC dX0_routesOf_29 ?_
          refine r_istore_n (pc := 30) (L' := [_, _, _, _]) hC dX0_routesOf_30 rfl (Nat.le_of_ble_eq_true rfl) rfl ?_
          refine r_iinc (pc := 31) (v := 1) (L' := [_, _, _, _]) hC dX0_routesOf_31 rfl (by decide) rfl rfl ?_
          refine r_goto (pc := 34) (tgt := 4) hC dX0_routesOf_34 (by decide) ?_
          have hz : S (351 + 3 * k) >>> (r &&& 31) &&& 1 = 1 := by
            rw [← (brt k (by omega)).1]
            rcases bit01 (I (P (P b 3) k) 0) (r &&& 31) with e | e
            · rw [e] at bq22; exact absurd rfl bq22
            · exact e
          have e : rset (fun k => S (351 + 3 * k)) r (k + 1) = rset (fun k => S (351 + 3 * k)) r k ||| 1 <<< (nI k &&& 31) := by rw [rset, hz]
          have z := ih (k + 1) (by omega)
          rw [e] at z
          rw [nI_1]; exact z
  refine r_iconst (pc := 0) (v := 0) hC dX0_routesOf_0 (by decide) ?_
  refine r_istore_n (pc := 1) (L' := [_, _, _, _]) hC dX0_routesOf_1 rfl (Nat.le_of_ble_eq_true rfl) rfl ?_
  refine r_iconst (pc := 2) (v := 0) hC dX0_routesOf_2 (by decide) ?_
  refine r_istore_n (pc := 3) (L' := [_, _, _, _]) hC dX0_routesOf_3 rfl (Nat.le_of_ble_eq_true rfl) rfl ?_
  exact loop rq 0 (by omega)
theorem k_X0_routesOf {X : xF} {G : xG} {cs : Nat × Nat} {μ : xM} {I : xI} {P : xP} {L : List (Option Value)} {pc : Nat} {rest : List Value} {cc : ByteArray} {Ts : List Cond} {own : String} {nL : Nat} {R : Room} (hC : xC X G cc Ts own nL R) {index : Nat} (hG : GoodIn Ts (wsV own index RX0 yX0_routesOf wsX0_routesOf)) (hR : rm_X0_routesOf.frames + 1 ≤ R.frames ∧ 8 + (4 + 11) + rm_X0_routesOf.locals ≤ R.locals) {b n rq : Nat} {S : Nat → Int32} {r : Int32} (kb : μ.2.1 b = 1) (hA : bA μ P b) (hB : bR I P b S n rq) (hinv : invN S n rq) (hW : (rest.map fun v => v.category).sum ≤ 8) (hL : L.length = nL) (hcs : cs.1 ≤ R.cells ∧ cs.2 ≤ R.slots) (hdec : decode cc pc = .ok (.invokevirtual index, 3)) (kk : xg X G cs μ I P L (pc + 3) (.int (rset (fun k => S (351 + 3 * k)) r rq) :: rest)) : xg X G cs μ I P L pc (.int r :: .ref (xZ G + b) :: rest) :=
  r_callV hC (c_X0_routesOf X.2.1 kb hA hB hinv) hG rfl rfl rfl hd_X0_routesOf hR (by rw [kb]; decide) (xe_Blind kb) rfl rfl rfl hW hL hcs hdec (by rintro v μ' I' P' ⟨rfl, rfl, rfl, rfl⟩; exact kk)
abbrev rm_X0_tornRows : Room := { frames := 0, cells := 0, slots := 0, locals := 0 }
theorem wl_X0_tornRows_50 : Cond.fieldLink RX0 50 "HandBlinds$Blind" "rowCount" "I" ∈ wsX0_tornRows := List.mem_of_getElem? (i := 1) (by decide +kernel)
theorem wi_X0_tornRows_0 : ∀ w ∈ wsX00, w ∈ wsX0_tornRows := fun _ h => List.mem_cons_of_mem _ (List.mem_append_left _ (List.mem_append_right _ h))
theorem wl_X0_tornRows_11 : Cond.fieldLink RX0 11 "HandBlinds$Blind" "rows" "[LHandBlinds$Row;" ∈ wsX0_tornRows := List.mem_of_getElem? (i := 2) (by decide +kernel)
theorem wl_X0_tornRows_92 : Cond.fieldLink RX0 92 "HandBlinds$Row" "torn" "Z" ∈ wsX0_tornRows := List.mem_of_getElem? (i := 3) (by decide +kernel)
theorem wi_X0_tornRows_2 : ∀ w ∈ wsX20, w ∈ wsX0_tornRows := fun _ h => List.mem_cons_of_mem _ (List.mem_append_right _ h)
theorem hd_X0_tornRows : yX0_tornRows.cls = RX0 ∧ yX0_tornRows.cls ≠ "java/lang/invoke/MethodHandle" ∧ yX0_tornRows.cls ≠ "java/lang/invoke/VarHandle" ∧ (parseMethodDescriptor yX0_tornRows.desc).map (fun d => d.parameters.length) = some 0 := ⟨rfl, by decide +kernel, by decide +kernel, by decide +kernel⟩
set_option maxHeartbeats 4000000 in
set_option maxRecDepth 100000 in
theorem c_X0_tornRows (l : Launch) {G : xG} {μ : xM} {I : xI} {P : xP} {b n rq : Nat} {S : Nat → Int32}  (kb : μ.2.1 b = 1) (hA : bA μ P b) (hB : bR I P b S n rq) (hinv : invN S n rq) : Ct l yX0_tornRows wsX0_tornRows rm_X0_tornRows G μ I P [.ref (xZ G + b)] 0 0 (fun vv μ' I' P' => vv = some (.int (tset (fun r => S (13 + 17 * r)) n)) ∧ μ' = μ ∧ I' = (I) ∧ P' = (P)) := by
  obtain ⟨⟨k0, l0⟩, ⟨k3, l3⟩, ⟨k6, l6⟩, hrw, hrt⟩ := hA
  have hrowf := fun {i : Nat} (hi : i < n) => bRow hB hinv hi
  obtain ⟨b1, b2, b4, b5, b7, b8, b9, b10, bst, brw, brt⟩ := hB
  obtain ⟨hn20, hn, hq6, hq, hcur, hdr, h8, h9, h10, hrows⟩ := hinv
  have b1n : I b 1 = nI n := b1.trans hn
  have b4q : I b 4 = nI rq := b4.trans hq
  refine Ct.of (cc := cX0_tornRows) (maxL := 3) (ret := (some .int)) [some (.ref (xZ G + b)), none, none] (by decide) rfl rfl rfl (Nat.le_of_ble_eq_true rfl) ?_
  intro X hC hD h0 _
  have loop : ∀ (q k : Nat), k + q = n → xg X G (0, 0) μ I P [some (.ref (xZ G + b)), some (.int (tset (fun r => S (13 + 17 * r)) k)), some (.int (nI k))] 4 [] := by
    intro q
    induction q with
    | zero =>
      intro k hk
      have ek : k = n := by omega
      subst ek
      refine r_iload_n (pc := 4) hC dX0_tornRows_4 rfl ?_
      refine r_aload_n (pc := 5) hC dX0_tornRows_5 rfl ?_
      refine g_Blind_rowCount (pc := 6) hC wi_X0_tornRows_0 wl_X0_tornRows_50 (by assumption) dX0_tornRows_6 ?_
      refine r_icmp_ge (pc := 9) (tgt := 36) hC dX0_tornRows_9 (by decide) (fun bq9 => ?_) (fun bq9 => ?_)
      · skip
        refine r_iload_n (pc := 36) hC dX0_tornRows_36 rfl ?_
        refine r_iret (pc := 37) hC hD rfl dX0_tornRows_37 rfl ?_
        exact ⟨rfl, rfl, rfl, rfl⟩
      · skip
        rw [b1n] at bq9; exact absurd (nI_le (by omega) (by omega)) bq9
    | succ q ih =>
      intro k hk
      refine r_iload_n (pc := 4) hC dX0_tornRows_4 rfl ?_
      refine r_aload_n (pc := 5) hC dX0_tornRows_5 rfl ?_
      refine g_Blind_rowCount (pc := 6) hC wi_X0_tornRows_0 wl_X0_tornRows_50 (by assumption) dX0_tornRows_6 ?_
      refine r_icmp_ge (pc := 9) (tgt := 36) hC dX0_tornRows_9 (by decide) (fun bq9 => ?_) (fun bq9 => ?_)
      · skip
        rw [b1n] at bq9; exact absurd bq9 (nI_ge (by omega) (by omega))
      · skip
        refine r_aload_n (pc := 12) hC dX0_tornRows_12 rfl ?_
        refine g_Blind_rows (pc := 13) hC wi_X0_tornRows_0 wl_X0_tornRows_11 (by assumption) (c2 := 9) (by assumption) (by decide) dX0_tornRows_13 ?_
        refine r_iload_n (pc := 16) hC dX0_tornRows_16 rfl ?_
        refine r_aald_Row (pc := 17) hC k0 (xi_n (k := k) (by rw [l0]; omega) (by rw [l0]; decide)) (hrw k (by omega)).1 dX0_tornRows_17 ?_
        refine g_Row_torn (pc := 18) hC wi_X0_tornRows_2 wl_X0_tornRows_92 (hrw k (by omega)).1 dX0_tornRows_18 ?_
        refine r_if_eq (pc := 21) (tgt := 30) hC dX0_tornRows_21 (by decide) (fun bq21 => ?_) (fun bq21 => ?_)
        · skip
          refine r_iinc (pc := 30) (v := 1) (L' := [_, _, _]) hC dX0_tornRows_30 rfl (by decide) rfl rfl ?_
          refine r_goto (pc := 33) (tgt := 4) hC dX0_tornRows_33 (by decide) ?_
          have hz : S (13 + 17 * k) = 0 := by
            obtain ⟨-, -, -, -, -, -, -, -, -, -, e3, e01⟩ := hrowf (i := k) (by omega)
            rw [e3] at bq21
            exact bq21
          have e : tset (fun r => S (13 + 17 * r)) (k + 1) = tset (fun r => S (13 + 17 * r)) k := by rw [tset, hz]; simp
          have z := ih (k + 1) (by omega)
          rw [e] at z
          rw [nI_1]; exact z
        · skip
          refine r_iload_n (pc := 24) hC dX0_tornRows_24 rfl ?_
          refine r_iconst (pc := 25) (v := 1) hC dX0_tornRows_25 (by decide) ?_
          refine r_iload_n (pc := 26) hC dX0_tornRows_26 rfl ?_
          refine r_ishl (pc := 27) hC dX0_tornRows_27 ?_
          refine r_ior (pc := 28) hC dX0_tornRows_28 ?_
          refine r_istore_n (pc := 29) (L' := [_, _, _]) hC dX0_tornRows_29 rfl (Nat.le_of_ble_eq_true rfl) rfl ?_
          refine r_iinc (pc := 30) (v := 1) (L' := [_, _, _]) hC dX0_tornRows_30 rfl (by decide) rfl rfl ?_
          refine r_goto (pc := 33) (tgt := 4) hC dX0_tornRows_33 (by decide) ?_
          have hz : S (13 + 17 * k) = 1 := by
            obtain ⟨-, -, -, -, -, -, -, -, -, -, e3, e01⟩ := hrowf (i := k) (by omega)
            rw [e3] at bq21
            exact e01.resolve_left bq21
          have e : tset (fun r => S (13 + 17 * r)) (k + 1) = tset (fun r => S (13 + 17 * r)) k ||| 1 <<< (nI k &&& 31) := by rw [tset, hz]
          have z := ih (k + 1) (by omega)
          rw [e] at z
          rw [nI_1]; exact z
  refine r_iconst (pc := 0) (v := 0) hC dX0_tornRows_0 (by decide) ?_
  refine r_istore_n (pc := 1) (L' := [_, _, _]) hC dX0_tornRows_1 rfl (Nat.le_of_ble_eq_true rfl) rfl ?_
  refine r_iconst (pc := 2) (v := 0) hC dX0_tornRows_2 (by decide) ?_
  refine r_istore_n (pc := 3) (L' := [_, _, _]) hC dX0_tornRows_3 rfl (Nat.le_of_ble_eq_true rfl) rfl ?_
  exact loop n 0 (by omega)
theorem k_X0_tornRows {X : xF} {G : xG} {cs : Nat × Nat} {μ : xM} {I : xI} {P : xP} {L : List (Option Value)} {pc : Nat} {rest : List Value} {cc : ByteArray} {Ts : List Cond} {own : String} {nL : Nat} {R : Room} (hC : xC X G cc Ts own nL R) {index : Nat} (hG : GoodIn Ts (wsV own index RX0 yX0_tornRows wsX0_tornRows)) (hR : rm_X0_tornRows.frames + 1 ≤ R.frames ∧ 8 + (3 + 11) + rm_X0_tornRows.locals ≤ R.locals) {b n rq : Nat} {S : Nat → Int32}  (kb : μ.2.1 b = 1) (hA : bA μ P b) (hB : bR I P b S n rq) (hinv : invN S n rq) (hW : (rest.map fun v => v.category).sum ≤ 8) (hL : L.length = nL) (hcs : cs.1 ≤ R.cells ∧ cs.2 ≤ R.slots) (hdec : decode cc pc = .ok (.invokevirtual index, 3)) (kk : xg X G cs μ I P L (pc + 3) (.int (tset (fun r => S (13 + 17 * r)) n) :: rest)) : xg X G cs μ I P L pc (.ref (xZ G + b) :: rest) :=
  r_callV hC (c_X0_tornRows X.2.1 kb hA hB hinv) hG rfl rfl rfl hd_X0_tornRows hR (by rw [kb]; decide) (xe_Blind kb) rfl rfl rfl hW hL hcs hdec (by rintro v μ' I' P' ⟨rfl, rfl, rfl, rfl⟩; exact kk)
abbrev rm_X0_widthOfAll : Room := { frames := 2, cells := 0, slots := 0, locals := 42 }
abbrev rm_X0_widest : Room := { frames := 2, cells := 0, slots := 0, locals := 42 }
theorem wl_X0_widest_50 : Cond.fieldLink RX0 50 "HandBlinds$Blind" "rowCount" "I" ∈ wsX0_widest := List.mem_of_getElem? (i := 1) (by decide +kernel)
theorem wi_X0_widest_0 : ∀ w ∈ wsX00, w ∈ wsX0_widest := fun _ h => List.mem_cons_of_mem _ (List.mem_append_left _ (List.mem_append_right _ h))
theorem wl_X0_widest_11 : Cond.fieldLink RX0 11 "HandBlinds$Blind" "rows" "[LHandBlinds$Row;" ∈ wsX0_widest := List.mem_of_getElem? (i := 2) (by decide +kernel)
theorem hd_X0_widest : yX0_widest.cls = RX0 ∧ yX0_widest.cls ≠ "java/lang/invoke/MethodHandle" ∧ yX0_widest.cls ≠ "java/lang/invoke/VarHandle" ∧ (parseMethodDescriptor yX0_widest.desc).map (fun d => d.parameters.length) = some 0 := ⟨rfl, by decide +kernel, by decide +kernel, by decide +kernel⟩
set_option maxHeartbeats 4000000 in
set_option maxRecDepth 100000 in
theorem c_X0_widest (l : Launch) {G : xG} {μ : xM} {I : xI} {P : xP} {b n rq : Nat} {S : Nat → Int32}  (kb : μ.2.1 b = 1) (hA : bA μ P b) (hB : bR I P b S n rq) (hinv : invN S n rq) (hn1 : 1 ≤ n) : Ct l yX0_widest wsX0_widest rm_X0_widest G μ I P [.ref (xZ G + b)] 0 0 (fun vv μ' I' P' => vv = some (.int ((wid1 (sWid S) n).1)) ∧ μ' = μ ∧ I' = (I) ∧ P' = (P)) := by
  obtain ⟨⟨k0, l0⟩, ⟨k3, l3⟩, ⟨k6, l6⟩, hrw, hrt⟩ := hA
  have hrowf := fun {i : Nat} (hi : i < n) => bRow hB hinv hi
  obtain ⟨b1, b2, b4, b5, b7, b8, b9, b10, bst, brw, brt⟩ := hB
  obtain ⟨hn20, hn, hq6, hq, hcur, hdr, h8, h9, h10, hrows⟩ := hinv
  have b1n : I b 1 = nI n := b1.trans hn
  have b4q : I b 4 = nI rq := b4.trans hq
  refine Ct.of (cc := cX0_widest) (maxL := 3) (ret := (some .int)) [some (.ref (xZ G + b)), none, none] (by decide) rfl rfl rfl (Nat.le_of_ble_eq_true rfl) ?_
  intro X hC hD h0 _
  have loop : ∀ (q k : Nat), k + q = n → ∀ a, a < k → wid1 (sWid S) k = (nI a, sWid S a) → xg X G (0, 0) μ I P [some (.ref (xZ G + b)), some (.int (nI a)), some (.int (nI k))] 4 [] := by
    intro q
    induction q with
    | zero =>
      intro k hk a hak hwa
      have ek : k = n := by omega
      subst ek
      refine r_iload_n (pc := 4) hC dX0_widest_4 rfl ?_
      refine r_aload_n (pc := 5) hC dX0_widest_5 rfl ?_
      refine g_Blind_rowCount (pc := 6) hC wi_X0_widest_0 wl_X0_widest_50 (by assumption) dX0_widest_6 ?_
      refine r_icmp_ge (pc := 9) (tgt := 41) hC dX0_widest_9 (by decide) (fun bq9 => ?_) (fun bq9 => ?_)
      · skip
        refine r_iload_n (pc := 41) hC dX0_widest_41 rfl ?_
        refine r_iret (pc := 42) hC hD rfl dX0_widest_42 rfl ?_
        exact ⟨by rw [hwa], rfl, rfl, rfl⟩
      · skip
        rw [b1n] at bq9; exact absurd (nI_le (by omega) (by omega)) bq9
    | succ q ih =>
      intro k hk a hak hwa
      refine r_iload_n (pc := 4) hC dX0_widest_4 rfl ?_
      refine r_aload_n (pc := 5) hC dX0_widest_5 rfl ?_
      refine g_Blind_rowCount (pc := 6) hC wi_X0_widest_0 wl_X0_widest_50 (by assumption) dX0_widest_6 ?_
      refine r_icmp_ge (pc := 9) (tgt := 41) hC dX0_widest_9 (by decide) (fun bq9 => ?_) (fun bq9 => ?_)
      · skip
        rw [b1n] at bq9; exact absurd bq9 (nI_ge (by omega) (by omega))
      · skip
        obtain ⟨L, hL1, hL14, hLr, hLs, hLl, hLw, hLk, hLc, hL2, hL3, hL01⟩ := hrowf (i := k) (by omega)
        obtain ⟨La, hL1a, hL14a, hLra, hLsa, hLla, hLwa, hLka, hLca, hL2a, hL3a, hL01a⟩ := hrowf (i := a) (by omega)
        refine r_aload_n (pc := 12) hC dX0_widest_12 rfl ?_
        refine g_Blind_rows (pc := 13) hC wi_X0_widest_0 wl_X0_widest_11 (by assumption) (c2 := 9) (by assumption) (by decide) dX0_widest_13 ?_
        refine r_iload_n (pc := 16) hC dX0_widest_16 rfl ?_
        refine r_aald_Row (pc := 17) hC k0 (xi_n (k := k) (by rw [l0]; omega) (by rw [l0]; decide)) (hrw k (by omega)).1 dX0_widest_17 ?_
        refine k_X2_width (pc := 18) hC gX0_widest_X2_width ⟨Nat.le_of_ble_eq_true rfl, Nat.le_of_ble_eq_true rfl⟩ (n := L) (hrw k (by omega)).1 (hrw k (by omega)).2.1 (hrw k (by omega)).2.2 hLr hL14 (Nat.le_of_ble_eq_true rfl) rfl ⟨Nat.zero_le _, Nat.zero_le _⟩ dX0_widest_18 ?_
        refine r_aload_n (pc := 21) hC dX0_widest_21 rfl ?_
        refine g_Blind_rows (pc := 22) hC wi_X0_widest_0 wl_X0_widest_11 (by assumption) (c2 := 9) (by assumption) (by decide) dX0_widest_22 ?_
        refine r_iload_n (pc := 25) hC dX0_widest_25 rfl ?_
        refine r_aald_Row (pc := 26) hC k0 (xi_n (k := a) (by rw [l0]; omega) (by rw [l0]; decide)) (hrw a (by omega)).1 dX0_widest_26 ?_
        refine k_X2_width (pc := 27) hC gX0_widest_X2_width ⟨Nat.le_of_ble_eq_true rfl, Nat.le_of_ble_eq_true rfl⟩ (n := La) (hrw a (by omega)).1 (hrw a (by omega)).2.1 (hrw a (by omega)).2.2 hLra hL14a (Nat.le_of_ble_eq_true rfl) rfl ⟨Nat.zero_le _, Nat.zero_le _⟩ dX0_widest_27 ?_
        rw [hLw, hLwa]
        refine r_icmp_le (pc := 30) (tgt := 35) hC dX0_widest_30 (by decide) (fun bq30 => ?_) (fun bq30 => ?_)
        · skip
          refine r_iinc (pc := 35) (v := 1) (L' := [_, _, _]) hC dX0_widest_35 rfl (by decide) rfl rfl ?_
          refine r_goto (pc := 38) (tgt := 4) hC dX0_widest_38 (by decide) ?_
          have e : wid1 (sWid S) (k + 1) = (nI a, sWid S a) := by rw [wid1, hwa, if_pos bq30]
          rw [nI_1]; exact ih (k + 1) (by omega) a (by omega) e
        · skip
          refine r_iload_n (pc := 33) hC dX0_widest_33 rfl ?_
          refine r_istore_n (pc := 34) (L' := [_, _, _]) hC dX0_widest_34 rfl (Nat.le_of_ble_eq_true rfl) rfl ?_
          refine r_iinc (pc := 35) (v := 1) (L' := [_, _, _]) hC dX0_widest_35 rfl (by decide) rfl rfl ?_
          refine r_goto (pc := 38) (tgt := 4) hC dX0_widest_38 (by decide) ?_
          have e : wid1 (sWid S) (k + 1) = (nI k, sWid S k) := by rw [wid1, hwa, if_neg bq30]
          rw [nI_1]; exact ih (k + 1) (by omega) k (by omega) e
  refine r_iconst (pc := 0) (v := 0) hC dX0_widest_0 (by decide) ?_
  refine r_istore_n (pc := 1) (L' := [_, _, _]) hC dX0_widest_1 rfl (Nat.le_of_ble_eq_true rfl) rfl ?_
  refine r_iconst (pc := 2) (v := 1) hC dX0_widest_2 (by decide) ?_
  refine r_istore_n (pc := 3) (L' := [_, _, _]) hC dX0_widest_3 rfl (Nat.le_of_ble_eq_true rfl) rfl ?_
  exact loop (n - 1) 1 (by omega) 0 (by omega) (by
    obtain ⟨L, hL1, hL14, -, -, -, hLw, -⟩ := hrowf (i := 0) (by omega)
    obtain ⟨w, hw1, hw2, hw3⟩ := wsum_cases (I (P (P (P b 0) 0) 0)) L
    rw [hLw] at hw3
    rw [wid1, wid1, if_neg (by rw [hw3]; exact nI_ge (a := 0) (b := w) (by omega) (by omega))])
theorem k_X0_widest {X : xF} {G : xG} {cs : Nat × Nat} {μ : xM} {I : xI} {P : xP} {L : List (Option Value)} {pc : Nat} {rest : List Value} {cc : ByteArray} {Ts : List Cond} {own : String} {nL : Nat} {R : Room} (hC : xC X G cc Ts own nL R) {index : Nat} (hG : GoodIn Ts (wsV own index RX0 yX0_widest wsX0_widest)) (hR : rm_X0_widest.frames + 1 ≤ R.frames ∧ 8 + (3 + 11) + rm_X0_widest.locals ≤ R.locals) {b n rq : Nat} {S : Nat → Int32}  (kb : μ.2.1 b = 1) (hA : bA μ P b) (hB : bR I P b S n rq) (hinv : invN S n rq) (hn1 : 1 ≤ n) (hW : (rest.map fun v => v.category).sum ≤ 8) (hL : L.length = nL) (hcs : cs.1 ≤ R.cells ∧ cs.2 ≤ R.slots) (hdec : decode cc pc = .ok (.invokevirtual index, 3)) (kk : xg X G cs μ I P L (pc + 3) (.int ((wid1 (sWid S) n).1) :: rest)) : xg X G cs μ I P L pc (.ref (xZ G + b) :: rest) :=
  r_callV hC (c_X0_widest X.2.1 kb hA hB hinv hn1) hG rfl rfl rfl hd_X0_widest hR (by rw [kb]; decide) (xe_Blind kb) rfl rfl rfl hW hL hcs hdec (by rintro v μ' I' P' ⟨rfl, rfl, rfl, rfl⟩; exact kk)
