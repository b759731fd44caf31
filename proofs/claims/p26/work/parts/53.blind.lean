abbrev rm_X0_roll : Room := { frames := 3, cells := 0, slots := 0, locals := 68 }
theorem wl_X0_roll_62 : Cond.fieldLink RX0 62 "HandBlinds$Blind" "passed" "I" ∈ wsX0_roll := List.mem_of_getElem? (i := 2) (by decide +kernel)
theorem wi_X0_roll_0 : ∀ w ∈ wsX00, w ∈ wsX0_roll := fun _ h => List.mem_cons_of_mem _ (List.mem_append_left _ (List.mem_append_right _ h))
theorem wl_X0_roll_53 : Cond.fieldLink RX0 53 "HandBlinds$Blind" "shown" "I" ∈ wsX0_roll := List.mem_of_getElem? (i := 3) (by decide +kernel)
theorem wl_X0_roll_11 : Cond.fieldLink RX0 11 "HandBlinds$Blind" "rows" "[LHandBlinds$Row;" ∈ wsX0_roll := List.mem_of_getElem? (i := 1) (by decide +kernel)
theorem hd_X0_roll : yX0_roll.cls = RX0 ∧ yX0_roll.cls ≠ "java/lang/invoke/MethodHandle" ∧ yX0_roll.cls ≠ "java/lang/invoke/VarHandle" ∧ (parseMethodDescriptor yX0_roll.desc).map (fun d => d.parameters.length) = some 2 := ⟨rfl, by decide +kernel, by decide +kernel, by decide +kernel⟩
set_option maxHeartbeats 4000000 in
set_option maxRecDepth 100000 in
theorem c_X0_roll (l : Launch) {G : xG} {μ : xM} {I : xI} {P : xP} {b n rq : Nat} {S : Nat → Int32} {a w : Nat} {up : Bool} {wd : Int32} {v : Int32} (kb : μ.2.1 b = 1) (hS : bS μ b) (hP : bP P b) (hB : bR I P b S n rq) (hinv : invN S n rq) (ha : S 1 = nI a) (han : a < n) (hw : wd = if up then nI w else -nI w) (hw1 : 1 ≤ w) (hw20 : w ≤ 20) : Ct l yX0_roll wsX0_roll rm_X0_roll G μ I P [.ref (xZ G + b), .int wd, .int v] 0 0 (fun vv μ' I' P' => vv = none ∧ μ' = μ ∧ P' = P ∧ bR I' P b (crFS S a up v (stepsS S n a up w)) n rq ∧ (∀ c, c < b ∨ b + 50 ≤ c → I' c = I c)) := by
  have hA := bA_of hS hP
  have hP0 := hP
  have hB0 := hB
  have hinv0 := hinv
  obtain ⟨hX1, hX2, hX3⟩ := bX hP0
  obtain ⟨⟨k0, l0⟩, ⟨k3, l3⟩, ⟨k6, l6⟩, hrw, hrt⟩ := hA
  have hrowf := fun {i : Nat} (hi : i < n) => bRow hB hinv hi
  obtain ⟨b1, b2, b4, b5, b7, b8, b9, b10, bst, brw, brt⟩ := hB
  obtain ⟨hn20, hn, hq6, hq, hcur, hdr, h8, h9, h10, hrows⟩ := hinv
  have b1n : I b 1 = nI n := b1.trans hn
  have b4q : I b 4 = nI rq := b4.trans hq
  obtain ⟨p0, p3, p6, pj, -⟩ := hP
  have hb2 : I b 2 = nI a := by rw [b2, ha, if_neg (nI_pos (by omega))]
  have hab := wd_abs hw hw1 hw20
  have hgw : (stepsS S n a up w) ≤ w := by have q := (srch_le (p := stopS S n a up) w 0).2; rw [Nat.zero_add] at q; exact q
  have hgs := fun i (hi : i ≤ (stepsS S n a up w)) => steps_row (S := S) (up := up) (w := w) han i hi
  obtain ⟨rokR, rokF⟩ := roll_ok (v := v) hP0 hB0 hinv0 hgs ha
  have hne : ∀ i, i < n → P (P b 0) i ≠ b := fun i hi => by have := hX1 i (by omega); omega
  have hrl2 : ∀ k, k ≤ (stepsS S n a up w) → (rlI I P b a up v k) b 2 = nI a := fun k hk => by
    rw [(rl_ok (I := I) (P := P) (b := b) (n := n) (a := a) (g := (stepsS S n a up w)) (S := S) (up := up) (v := v) hne (fun i j hi hj => hX2 i j (by omega) (by omega)) ⟨by omega, fun i hi => by have := hX1 i (by omega); omega⟩ (fun i hi => by
      obtain ⟨L, -, -, -, -, -, -, -, -, h2, h3, h01⟩ := hrowf hi
      exact ⟨h2, h3, h01⟩) (bst 1 (by decide)) hgs k hk).2.1 2 (by decide)]
    exact hb2
  refine Ct.of (cc := cX0_roll) (maxL := 5) (ret := none) [some (.ref (xZ G + b)), some (.int wd), some (.int v), none, none] (by decide) rfl rfl rfl (Nat.le_of_ble_eq_true rfl) ?_
  intro X hC hD h0 _
  have loop : ∀ (q k : Nat), k + q = (stepsS S n a up w) → xg X G (0, 0) μ (rlI I P b a up v k) P [some (.ref (xZ G + b)), some (.int wd), some (.int v), some (.int (nI (stepsS S n a up w))), some (.int (nI k))] 9 [] := by
    intro q
    induction q with
    | zero =>
      intro k hk
      have ek : k = (stepsS S n a up w) := by omega
      rw [ek]
      refine r_iload (pc := 9) hC dX0_roll_9 rfl ?_
      refine r_iload_n (pc := 11) hC dX0_roll_11 rfl ?_
      refine r_icmp_ge (pc := 12) (tgt := 40) hC dX0_roll_12 (by decide) (fun bq12 => ?_) (fun bq12 => ?_)
      · skip
        refine r_aload_n (pc := 40) hC dX0_roll_40 rfl ?_
        refine r_dup (pc := 41) hC dX0_roll_41 rfl ?_
        refine g_Blind_passed (pc := 42) hC wi_X0_roll_0 wl_X0_roll_62 (by assumption) dX0_roll_42 ?_
        refine r_iload_n (pc := 45) hC dX0_roll_45 rfl ?_
        refine r_iadd (pc := 46) hC dX0_roll_46 ?_
        refine p_Blind_passed (pc := 47) hC wi_X0_roll_0 wl_X0_roll_62 (by assumption) dX0_roll_47 ?_
        refine r_aload_n (pc := 50) hC dX0_roll_50 rfl ?_
        refine r_aload_n (pc := 51) hC dX0_roll_51 rfl ?_
        refine r_iload_n (pc := 52) hC dX0_roll_52 rfl ?_
        refine r_iload_n (pc := 53) hC dX0_roll_53 rfl ?_
        refine k_X0_rowAfter (pc := 54) hC gX0_roll_X0_rowAfter ⟨Nat.le_of_ble_eq_true rfl, Nat.le_of_ble_eq_true rfl⟩ (by assumption) (Nat.le_of_ble_eq_true rfl) rfl ⟨Nat.zero_le _, Nat.zero_le _⟩ dX0_roll_54 ?_
        rw [xu_ne (Or.inr (by decide)), hrl2 (stepsS S n a up w) (Nat.le_refl _), rowC hw hw1 hw20 (hgs _ (Nat.le_refl _)).2]
        refine p_Blind_shown (pc := 57) hC wi_X0_roll_0 wl_X0_roll_53 (by assumption) dX0_roll_57 ?_
        refine r_vret (pc := 60) hC hD dX0_roll_60 rfl ?_
        exact ⟨rfl, rfl, rfl, rokR, rokF⟩
      · skip
        exact absurd (nI_le (by omega) (by omega)) bq12
    | succ q ih =>
      intro k hk
      refine r_iload (pc := 9) hC dX0_roll_9 rfl ?_
      refine r_iload_n (pc := 11) hC dX0_roll_11 rfl ?_
      refine r_icmp_ge (pc := 12) (tgt := 40) hC dX0_roll_12 (by decide) (fun bq12 => ?_) (fun bq12 => ?_)
      · skip
        exact absurd bq12 (nI_ge (by omega) (by omega))
      · skip
        obtain ⟨hrk, hdk⟩ := hgs k (by omega)
        refine r_aload_n (pc := 15) hC dX0_roll_15 rfl ?_
        refine r_aload_n (pc := 16) hC dX0_roll_16 rfl ?_
        refine g_Blind_rows (pc := 17) hC wi_X0_roll_0 wl_X0_roll_11 (by assumption) (c2 := 9) (by assumption) (by decide) dX0_roll_17 ?_
        refine r_aload_n (pc := 20) hC dX0_roll_20 rfl ?_
        refine r_iload_n (pc := 21) hC dX0_roll_21 rfl ?_
        refine r_iload (pc := 22) hC dX0_roll_22 rfl ?_
        refine k_X0_rowAfter (pc := 24) hC gX0_roll_X0_rowAfter ⟨Nat.le_of_ble_eq_true rfl, Nat.le_of_ble_eq_true rfl⟩ (by assumption) (Nat.le_of_ble_eq_true rfl) rfl ⟨Nat.zero_le _, Nat.zero_le _⟩ dX0_roll_24 ?_
        rw [hrl2 k (by omega), rowC hw hw1 hw20 hdk]
        refine r_aald_Row (pc := 27) hC k0 (xi_n (k := rowAt a up k) (by rw [l0]; omega) (by rw [l0]; decide)) (hrw _ (by omega)).1 dX0_roll_27 ?_
        refine r_iload (pc := 28) hC dX0_roll_28 rfl ?_
        refine r_iload_n (pc := 30) hC dX0_roll_30 rfl ?_
        refine k_X0_leave (pc := 31) hC gX0_roll_X0_leave ⟨Nat.le_of_ble_eq_true rfl, Nat.le_of_ble_eq_true rfl⟩ kb k6 l6 (hrw _ (by omega)).1 (by omega) (Nat.le_of_ble_eq_true rfl) rfl ⟨Nat.zero_le _, Nat.zero_le _⟩ dX0_roll_31 ?_
        refine r_iinc (pc := 34) (v := 1) (L' := [_, _, _, _, _]) hC dX0_roll_34 rfl (by decide) rfl rfl ?_
        refine r_goto (pc := 37) (tgt := 9) hC dX0_roll_37 (by decide) ?_
        rw [nI_1]; exact ih (k + 1) (by omega)
  refine r_aload_n (pc := 0) hC dX0_roll_0 rfl ?_
  refine r_iload_n (pc := 1) hC dX0_roll_1 rfl ?_
  refine k_X0_stepsOf (pc := 2) hC gX0_roll_X0_stepsOf ⟨Nat.le_of_ble_eq_true rfl, Nat.le_of_ble_eq_true rfl⟩ kb ⟨⟨k0, l0⟩, ⟨k3, l3⟩, ⟨k6, l6⟩, hrw, hrt⟩ ⟨b1, b2, b4, b5, b7, b8, b9, b10, bst, brw, brt⟩ ⟨hn20, hn, hq6, hq, hcur, hdr, h8, h9, h10, hrows⟩ ha han hw hw1 hw20 (Nat.le_of_ble_eq_true rfl) rfl ⟨Nat.zero_le _, Nat.zero_le _⟩ dX0_roll_2 ?_
  refine r_istore_n (pc := 5) (L' := [_, _, _, _, _]) hC dX0_roll_5 rfl (Nat.le_of_ble_eq_true rfl) rfl ?_
  refine r_iconst (pc := 6) (v := 0) hC dX0_roll_6 (by decide) ?_
  refine r_istore (pc := 7) (L' := [_, _, _, _, _]) hC dX0_roll_7 rfl (Nat.le_of_ble_eq_true rfl) rfl ?_
  exact loop (stepsS S n a up w) 0 (by omega)
theorem k_X0_roll {X : xF} {G : xG} {cs : Nat × Nat} {μ : xM} {I : xI} {P : xP} {L : List (Option Value)} {pc : Nat} {rest : List Value} {cc : ByteArray} {Ts : List Cond} {own : String} {nL : Nat} {R : Room} (hC : xC X G cc Ts own nL R) {index : Nat} (hG : GoodIn Ts (wsV own index RX0 yX0_roll wsX0_roll)) (hR : rm_X0_roll.frames + 1 ≤ R.frames ∧ 8 + (5 + 11) + rm_X0_roll.locals ≤ R.locals) {b n rq : Nat} {S : Nat → Int32} {a w : Nat} {up : Bool} {wd : Int32} {v : Int32} (kb : μ.2.1 b = 1) (hS : bS μ b) (hP : bP P b) (hB : bR I P b S n rq) (hinv : invN S n rq) (ha : S 1 = nI a) (han : a < n) (hw : wd = if up then nI w else -nI w) (hw1 : 1 ≤ w) (hw20 : w ≤ 20) (hW : (rest.map fun v => v.category).sum ≤ 8) (hL : L.length = nL) (hcs : cs.1 ≤ R.cells ∧ cs.2 ≤ R.slots) (hdec : decode cc pc = .ok (.invokevirtual index, 3)) (kk : ∀ I' : xI, bR I' P b (crFS S a up v (stepsS S n a up w)) n rq → (∀ c, c < b ∨ b + 50 ≤ c → I' c = I c) → xg X G cs μ I' P L (pc + 3) rest) : xg X G cs μ I P L pc (.int v :: .int wd :: .ref (xZ G + b) :: rest) :=
  r_callV hC (c_X0_roll X.2.1 kb hS hP hB hinv ha han hw hw1 hw20) hG rfl rfl rfl hd_X0_roll hR (by rw [kb]; decide) (xe_Blind kb) rfl rfl rfl hW hL hcs hdec (by rintro vv μ' I' P' ⟨rfl, rfl, rfl, h1, h2⟩; exact kk I' h1 h2)
abbrev rm_X0_halt : Room := { frames := 7, cells := 0, slots := 0, locals := 149 }
theorem wl_X0_halt_53 : Cond.fieldLink RX0 53 "HandBlinds$Blind" "shown" "I" ∈ wsX0_halt := List.mem_of_getElem? (i := 1) (by decide +kernel)
theorem wi_X0_halt_0 : ∀ w ∈ wsX00, w ∈ wsX0_halt := fun _ h => List.mem_cons_of_mem _ (List.mem_append_left _ (List.mem_append_left _ (List.mem_append_right _ h)))
theorem wl_X0_halt_65 : Cond.fieldLink RX0 65 "HandBlinds$Blind" "stops" "I" ∈ wsX0_halt := List.mem_of_getElem? (i := 2) (by decide +kernel)
theorem wl_X0_halt_68 : Cond.fieldLink RX0 68 "HandBlinds$Blind" "rightStops" "I" ∈ wsX0_halt := List.mem_of_getElem? (i := 3) (by decide +kernel)
theorem wl_X0_halt_38 : Cond.fieldLink RX0 38 "HandBlinds$Blind" "driven" "I" ∈ wsX0_halt := List.mem_of_getElem? (i := 4) (by decide +kernel)
theorem wl_X0_halt_20 : Cond.fieldLink RX0 20 "HandBlinds$Blind" "routes" "[LHandBlinds$Route;" ∈ wsX0_halt := List.mem_of_getElem? (i := 5) (by decide +kernel)
theorem wl_X0_halt_86 : Cond.fieldLink RX0 86 "HandBlinds$Route" "stops" "I" ∈ wsX0_halt := List.mem_of_getElem? (i := 6) (by decide +kernel)
theorem wi_X0_halt_1 : ∀ w ∈ wsX10, w ∈ wsX0_halt := fun _ h => List.mem_cons_of_mem _ (List.mem_append_left _ (List.mem_append_right _ h))
theorem wl_X0_halt_87 : Cond.fieldLink RX0 87 "HandBlinds$Route" "rightStops" "I" ∈ wsX0_halt := List.mem_of_getElem? (i := 7) (by decide +kernel)
theorem hd_X0_halt : yX0_halt.cls = RX0 ∧ yX0_halt.cls ≠ "java/lang/invoke/MethodHandle" ∧ yX0_halt.cls ≠ "java/lang/invoke/VarHandle" ∧ (parseMethodDescriptor yX0_halt.desc).map (fun d => d.parameters.length) = some 0 := ⟨rfl, by decide +kernel, by decide +kernel, by decide +kernel⟩
set_option maxHeartbeats 4000000 in
set_option maxRecDepth 100000 in
theorem c_X0_halt (l : Launch) {G : xG} {μ : xM} {I : xI} {P : xP} {b n rq : Nat} {S : Nat → Int32}  (kb : μ.2.1 b = 1) (hS : bS μ b) (hP : bP P b) (hB : bR I P b S n rq) (hinv : invN S n rq) : Ct l yX0_halt wsX0_halt rm_X0_halt G μ I P [.ref (xZ G + b)] 0 0 (fun vv μ' I' P' => vv = some (.int ((aWrong S))) ∧ μ' = μ ∧ P' = P ∧ bR I' P b (sStop S) n rq ∧ (∀ c, c < b ∨ b + 50 ≤ c → I' c = I c)) := by
  have hA := bA_of hS hP
  have hP0 := hP
  have hB0 := hB
  have hinv0 := hinv
  obtain ⟨hX1, hX2, hX3⟩ := bX hP0
  obtain ⟨⟨k0, l0⟩, ⟨k3, l3⟩, ⟨k6, l6⟩, hrw, hrt⟩ := hA
  have hrowf := fun {i : Nat} (hi : i < n) => bRow hB hinv hi
  obtain ⟨b1, b2, b4, b5, b7, b8, b9, b10, bst, brw, brt⟩ := hB
  obtain ⟨hn20, hn, hq6, hq, hcur, hdr, h8, h9, h10, hrows⟩ := hinv
  have b1n : I b 1 = nI n := b1.trans hn
  have b4q : I b 4 = nI rq := b4.trans hq
  obtain ⟨p0, p3, p6, pj, -⟩ := hP
  have hoff : (if I b 5 < 0 then (0 : Int32) else if I b 4 ≤ I b 5 then 0 else 1) = 0 → S 3 = -1 := fun e => by
    rcases hdr with h | ⟨d, hd, h⟩
    · exact h
    · rw [b5, h, b4q, if_neg (nI_pos (by omega)), if_neg (nI_ge hd (by omega))] at e; exact absurd e (by decide)
  refine Ct.of (cc := cX0_halt) (maxL := 3) (ret := (some .int)) [some (.ref (xZ G + b)), none, none] (by decide) rfl rfl rfl (Nat.le_of_ble_eq_true rfl) ?_
  intro X hC hD h0 _
  refine r_aload_n (pc := 0) hC dX0_halt_0 rfl ?_
  refine r_aload_n (pc := 1) hC dX0_halt_1 rfl ?_
  refine g_Blind_shown (pc := 2) hC wi_X0_halt_0 wl_X0_halt_53 (by assumption) dX0_halt_2 ?_
  refine k_X0_wrongOf (pc := 5) hC gX0_halt_X0_wrongOf ⟨Nat.le_of_ble_eq_true rfl, Nat.le_of_ble_eq_true rfl⟩ kb ⟨⟨k0, l0⟩, ⟨k3, l3⟩, ⟨k6, l6⟩, hrw, hrt⟩ ⟨b1, b2, b4, b5, b7, b8, b9, b10, bst, brw, brt⟩ ⟨hn20, hn, hq6, hq, hcur, hdr, h8, h9, h10, hrows⟩ (Nat.le_of_ble_eq_true rfl) rfl ⟨Nat.zero_le _, Nat.zero_le _⟩ dX0_halt_5 ?_
  rw [wr_shown hB0 hinv0]
  refine r_istore_n (pc := 8) (L' := [_, _, _]) hC dX0_halt_8 rfl (Nat.le_of_ble_eq_true rfl) rfl ?_
  refine r_iload_n (pc := 9) hC dX0_halt_9 rfl ?_
  refine r_if_ne (pc := 10) (tgt := 17) hC dX0_halt_10 (by decide) (fun bq10 => ?_) (fun bq10 => ?_)
  · skip
    refine r_iconst (pc := 17) (v := 0) hC dX0_halt_17 (by decide) ?_
    refine r_istore_n (pc := 18) (L' := [_, _, _]) hC dX0_halt_18 rfl (Nat.le_of_ble_eq_true rfl) rfl ?_
    refine r_aload_n (pc := 19) hC dX0_halt_19 rfl ?_
    refine r_dup (pc := 20) hC dX0_halt_20 rfl ?_
    refine g_Blind_stops (pc := 21) hC wi_X0_halt_0 wl_X0_halt_65 (by assumption) dX0_halt_21 ?_
    refine r_iconst (pc := 24) (v := 1) hC dX0_halt_24 (by decide) ?_
    refine r_iadd (pc := 25) hC dX0_halt_25 ?_
    refine p_Blind_stops (pc := 26) hC wi_X0_halt_0 wl_X0_halt_65 (by assumption) dX0_halt_26 ?_
    refine r_aload_n (pc := 29) hC dX0_halt_29 rfl ?_
    refine r_dup (pc := 30) hC dX0_halt_30 rfl ?_
    refine g_Blind_rightStops (pc := 31) hC wi_X0_halt_0 wl_X0_halt_68 (by assumption) dX0_halt_31 ?_
    rw [xu_ne (Or.inr (by decide))]
    refine r_iload_n (pc := 34) hC dX0_halt_34 rfl ?_
    refine r_iadd (pc := 35) hC dX0_halt_35 ?_
    refine p_Blind_rightStops (pc := 36) hC wi_X0_halt_0 wl_X0_halt_68 (by assumption) dX0_halt_36 ?_
    have hx : xright (aWrong S) = 0 := by rw [xright, if_neg bq10]
    have J5 : (xu (xu I b 9 (I b 9 + 1)) b 10 (I b 10 + 0)) b 5 = I b 5 := by rw [xu_ne (Or.inr (by decide)), xu_ne (Or.inr (by decide))]
    have J4 : (xu (xu I b 9 (I b 9 + 1)) b 10 (I b 10 + 0)) b 4 = I b 4 := by rw [xu_ne (Or.inr (by decide)), xu_ne (Or.inr (by decide))]
    refine r_aload_n (pc := 39) hC dX0_halt_39 rfl ?_
    refine r_aload_n (pc := 40) hC dX0_halt_40 rfl ?_
    refine g_Blind_driven (pc := 41) hC wi_X0_halt_0 wl_X0_halt_38 (by assumption) dX0_halt_41 ?_
    rw [J5]
    refine k_X0_hasRoute (pc := 44) hC gX0_halt_X0_hasRoute ⟨Nat.le_of_ble_eq_true rfl, Nat.le_of_ble_eq_true rfl⟩ (by assumption) (Nat.le_of_ble_eq_true rfl) rfl ⟨Nat.zero_le _, Nat.zero_le _⟩ dX0_halt_44 ?_
    rw [J4]
    refine r_if_eq (pc := 47) (tgt := 86) hC dX0_halt_47 (by decide) (fun bq47 => ?_) (fun bq47 => ?_)
    · skip
      refine r_iload_n (pc := 86) hC dX0_halt_86 rfl ?_
      refine r_iret (pc := 87) hC hD rfl dX0_halt_87 rfl ?_
      obtain ⟨h1, h2⟩ := halt0 hP0 hB0 hinv0 (hoff bq47)
      rw [hx] at h1 h2
      exact ⟨rfl, rfl, rfl, h1, h2⟩
    · skip
      obtain ⟨d, hd, hd3⟩ : ∃ d, d < rq ∧ S 3 = nI d := hdr.resolve_left (fun w => bq47 (by rw [b5, w]; rfl))
      have hd5 : I b 5 = nI d := b5.trans hd3
      have hpd : P (P b 3) d = b + 43 + d := by rw [p3]; exact pj d (by omega)
      have hbd : b ≠ P (P b 3) d := by omega
      refine r_aload_n (pc := 50) hC dX0_halt_50 rfl ?_
      refine g_Blind_routes (pc := 51) hC wi_X0_halt_0 wl_X0_halt_20 (by assumption) (c2 := 10) (by assumption) (by decide) dX0_halt_51 ?_
      refine r_aload_n (pc := 54) hC dX0_halt_54 rfl ?_
      refine g_Blind_driven (pc := 55) hC wi_X0_halt_0 wl_X0_halt_38 (by assumption) dX0_halt_55 ?_
      rw [J5]
      refine r_aald_Route (pc := 58) hC k3 (xi_e (k := d) hd5 l3 (by omega) (by decide)) (hrt d (by omega)) dX0_halt_58 ?_
      refine r_dup (pc := 59) hC dX0_halt_59 rfl ?_
      refine g_Route_stops (pc := 60) hC wi_X0_halt_1 wl_X0_halt_86 (hrt d (by omega)) dX0_halt_60 ?_
      rw [xu_row (Ne.symm hbd), xu_row (Ne.symm hbd)]
      refine r_iconst (pc := 63) (v := 1) hC dX0_halt_63 (by decide) ?_
      refine r_iadd (pc := 64) hC dX0_halt_64 ?_
      refine p_Route_stops (pc := 65) hC wi_X0_halt_1 wl_X0_halt_86 (hrt d (by omega)) dX0_halt_65 ?_
      refine r_aload_n (pc := 68) hC dX0_halt_68 rfl ?_
      refine g_Blind_routes (pc := 69) hC wi_X0_halt_0 wl_X0_halt_20 (by assumption) (c2 := 10) (by assumption) (by decide) dX0_halt_69 ?_
      refine r_aload_n (pc := 72) hC dX0_halt_72 rfl ?_
      refine g_Blind_driven (pc := 73) hC wi_X0_halt_0 wl_X0_halt_38 (by assumption) dX0_halt_73 ?_
      rw [xu_row hbd, J5]
      refine r_aald_Route (pc := 76) hC k3 (xi_e (k := d) hd5 l3 (by omega) (by decide)) (hrt d (by omega)) dX0_halt_76 ?_
      refine r_dup (pc := 77) hC dX0_halt_77 rfl ?_
      refine g_Route_rightStops (pc := 78) hC wi_X0_halt_1 wl_X0_halt_87 (hrt d (by omega)) dX0_halt_78 ?_
      rw [xu_ne (Or.inr (by decide)), xu_row (Ne.symm hbd), xu_row (Ne.symm hbd)]
      refine r_iload_n (pc := 81) hC dX0_halt_81 rfl ?_
      refine r_iadd (pc := 82) hC dX0_halt_82 ?_
      refine p_Route_rightStops (pc := 83) hC wi_X0_halt_1 wl_X0_halt_87 (hrt d (by omega)) dX0_halt_83 ?_
      refine r_iload_n (pc := 86) hC dX0_halt_86 rfl ?_
      refine r_iret (pc := 87) hC hD rfl dX0_halt_87 rfl ?_
      obtain ⟨h1, h2⟩ := halt1 hP0 hB0 hinv0 hd3 hd
      rw [hx] at h1 h2
      exact ⟨rfl, rfl, rfl, h1, h2⟩
  · skip
    refine r_iconst (pc := 13) (v := 1) hC dX0_halt_13 (by decide) ?_
    refine r_goto (pc := 14) (tgt := 18) hC dX0_halt_14 (by decide) ?_
    refine r_istore_n (pc := 18) (L' := [_, _, _]) hC dX0_halt_18 rfl (Nat.le_of_ble_eq_true rfl) rfl ?_
    refine r_aload_n (pc := 19) hC dX0_halt_19 rfl ?_
    refine r_dup (pc := 20) hC dX0_halt_20 rfl ?_
    refine g_Blind_stops (pc := 21) hC wi_X0_halt_0 wl_X0_halt_65 (by assumption) dX0_halt_21 ?_
    refine r_iconst (pc := 24) (v := 1) hC dX0_halt_24 (by decide) ?_
    refine r_iadd (pc := 25) hC dX0_halt_25 ?_
    refine p_Blind_stops (pc := 26) hC wi_X0_halt_0 wl_X0_halt_65 (by assumption) dX0_halt_26 ?_
    refine r_aload_n (pc := 29) hC dX0_halt_29 rfl ?_
    refine r_dup (pc := 30) hC dX0_halt_30 rfl ?_
    refine g_Blind_rightStops (pc := 31) hC wi_X0_halt_0 wl_X0_halt_68 (by assumption) dX0_halt_31 ?_
    rw [xu_ne (Or.inr (by decide))]
    refine r_iload_n (pc := 34) hC dX0_halt_34 rfl ?_
    refine r_iadd (pc := 35) hC dX0_halt_35 ?_
    refine p_Blind_rightStops (pc := 36) hC wi_X0_halt_0 wl_X0_halt_68 (by assumption) dX0_halt_36 ?_
    have hx : xright (aWrong S) = 1 := by rw [xright, if_pos bq10]
    have J5 : (xu (xu I b 9 (I b 9 + 1)) b 10 (I b 10 + 1)) b 5 = I b 5 := by rw [xu_ne (Or.inr (by decide)), xu_ne (Or.inr (by decide))]
    have J4 : (xu (xu I b 9 (I b 9 + 1)) b 10 (I b 10 + 1)) b 4 = I b 4 := by rw [xu_ne (Or.inr (by decide)), xu_ne (Or.inr (by decide))]
    refine r_aload_n (pc := 39) hC dX0_halt_39 rfl ?_
    refine r_aload_n (pc := 40) hC dX0_halt_40 rfl ?_
    refine g_Blind_driven (pc := 41) hC wi_X0_halt_0 wl_X0_halt_38 (by assumption) dX0_halt_41 ?_
    rw [J5]
    refine k_X0_hasRoute (pc := 44) hC gX0_halt_X0_hasRoute ⟨Nat.le_of_ble_eq_true rfl, Nat.le_of_ble_eq_true rfl⟩ (by assumption) (Nat.le_of_ble_eq_true rfl) rfl ⟨Nat.zero_le _, Nat.zero_le _⟩ dX0_halt_44 ?_
    rw [J4]
    refine r_if_eq (pc := 47) (tgt := 86) hC dX0_halt_47 (by decide) (fun bq47 => ?_) (fun bq47 => ?_)
    · skip
      refine r_iload_n (pc := 86) hC dX0_halt_86 rfl ?_
      refine r_iret (pc := 87) hC hD rfl dX0_halt_87 rfl ?_
      obtain ⟨h1, h2⟩ := halt0 hP0 hB0 hinv0 (hoff bq47)
      rw [hx] at h1 h2
      exact ⟨rfl, rfl, rfl, h1, h2⟩
    · skip
      obtain ⟨d, hd, hd3⟩ : ∃ d, d < rq ∧ S 3 = nI d := hdr.resolve_left (fun w => bq47 (by rw [b5, w]; rfl))
      have hd5 : I b 5 = nI d := b5.trans hd3
      have hpd : P (P b 3) d = b + 43 + d := by rw [p3]; exact pj d (by omega)
      have hbd : b ≠ P (P b 3) d := by omega
      refine r_aload_n (pc := 50) hC dX0_halt_50 rfl ?_
      refine g_Blind_routes (pc := 51) hC wi_X0_halt_0 wl_X0_halt_20 (by assumption) (c2 := 10) (by assumption) (by decide) dX0_halt_51 ?_
      refine r_aload_n (pc := 54) hC dX0_halt_54 rfl ?_
      refine g_Blind_driven (pc := 55) hC wi_X0_halt_0 wl_X0_halt_38 (by assumption) dX0_halt_55 ?_
      rw [J5]
      refine r_aald_Route (pc := 58) hC k3 (xi_e (k := d) hd5 l3 (by omega) (by decide)) (hrt d (by omega)) dX0_halt_58 ?_
      refine r_dup (pc := 59) hC dX0_halt_59 rfl ?_
      refine g_Route_stops (pc := 60) hC wi_X0_halt_1 wl_X0_halt_86 (hrt d (by omega)) dX0_halt_60 ?_
      rw [xu_row (Ne.symm hbd), xu_row (Ne.symm hbd)]
      refine r_iconst (pc := 63) (v := 1) hC dX0_halt_63 (by decide) ?_
      refine r_iadd (pc := 64) hC dX0_halt_64 ?_
      refine p_Route_stops (pc := 65) hC wi_X0_halt_1 wl_X0_halt_86 (hrt d (by omega)) dX0_halt_65 ?_
      refine r_aload_n (pc := 68) hC dX0_halt_68 rfl ?_
      refine g_Blind_routes (pc := 69) hC wi_X0_halt_0 wl_X0_halt_20 (by assumption) (c2 := 10) (by assumption) (by decide) dX0_halt_69 ?_
      refine r_aload_n (pc := 72) hC dX0_halt_72 rfl ?_
      refine g_Blind_driven (pc := 73) hC wi_X0_halt_0 wl_X0_halt_38 (by assumption) dX0_halt_73 ?_
      rw [xu_row hbd, J5]
      refine r_aald_Route (pc := 76) hC k3 (xi_e (k := d) hd5 l3 (by omega) (by decide)) (hrt d (by omega)) dX0_halt_76 ?_
      refine r_dup (pc := 77) hC dX0_halt_77 rfl ?_
      refine g_Route_rightStops (pc := 78) hC wi_X0_halt_1 wl_X0_halt_87 (hrt d (by omega)) dX0_halt_78 ?_
      rw [xu_ne (Or.inr (by decide)), xu_row (Ne.symm hbd), xu_row (Ne.symm hbd)]
      refine r_iload_n (pc := 81) hC dX0_halt_81 rfl ?_
      refine r_iadd (pc := 82) hC dX0_halt_82 ?_
      refine p_Route_rightStops (pc := 83) hC wi_X0_halt_1 wl_X0_halt_87 (hrt d (by omega)) dX0_halt_83 ?_
      refine r_iload_n (pc := 86) hC dX0_halt_86 rfl ?_
      refine r_iret (pc := 87) hC hD rfl dX0_halt_87 rfl ?_
      obtain ⟨h1, h2⟩ := halt1 hP0 hB0 hinv0 hd3 hd
      rw [hx] at h1 h2
      exact ⟨rfl, rfl, rfl, h1, h2⟩
theorem k_X0_halt {X : xF} {G : xG} {cs : Nat × Nat} {μ : xM} {I : xI} {P : xP} {L : List (Option Value)} {pc : Nat} {rest : List Value} {cc : ByteArray} {Ts : List Cond} {own : String} {nL : Nat} {R : Room} (hC : xC X G cc Ts own nL R) {index : Nat} (hG : GoodIn Ts (wsV own index RX0 yX0_halt wsX0_halt)) (hR : rm_X0_halt.frames + 1 ≤ R.frames ∧ 8 + (3 + 11) + rm_X0_halt.locals ≤ R.locals) {b n rq : Nat} {S : Nat → Int32}  (kb : μ.2.1 b = 1) (hS : bS μ b) (hP : bP P b) (hB : bR I P b S n rq) (hinv : invN S n rq) (hW : (rest.map fun v => v.category).sum ≤ 8) (hL : L.length = nL) (hcs : cs.1 ≤ R.cells ∧ cs.2 ≤ R.slots) (hdec : decode cc pc = .ok (.invokevirtual index, 3)) (kk : ∀ I' : xI, bR I' P b (sStop S) n rq → (∀ c, c < b ∨ b + 50 ≤ c → I' c = I c) → xg X G cs μ I' P L (pc + 3) (.int ((aWrong S)) :: rest)) : xg X G cs μ I P L pc (.ref (xZ G + b) :: rest) :=
  r_callV hC (c_X0_halt X.2.1 kb hS hP hB hinv) hG rfl rfl rfl hd_X0_halt hR (by rw [kb]; decide) (xe_Blind kb) rfl rfl rfl hW hL hcs hdec (by rintro vv μ' I' P' ⟨rfl, rfl, rfl, h1, h2⟩; exact kk I' h1 h2)
