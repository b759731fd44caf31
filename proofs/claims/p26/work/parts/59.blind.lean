abbrev rm_X0_become : Room := { frames := 2, cells := 0, slots := 0, locals := 47 }
theorem wl_X0_become_25 : Cond.fieldLink RX0 25 "HandBlinds$Blind" "settings" "[I" ∈ wsX0_become := List.mem_of_getElem? (i := 3) (by decide +kernel)
theorem wi_X0_become_0 : ∀ w ∈ wsX00, w ∈ wsX0_become := fun _ h => List.mem_cons_of_mem _ (List.mem_append_left _ (List.mem_append_left _ (List.mem_append_right _ h)))
theorem wl_X0_become_32 : Cond.methodLink RX0 32 arraycopyName ∈ wsX0_become := List.mem_of_getElem? (i := 4) (by decide +kernel)
theorem wa_X0_become_1 : Cond.native arraycopyName ∈ wsX0_become := List.mem_of_getElem? (i := 5) (by decide +kernel)
theorem wa_X0_become_2 : Cond.static arraycopyName ∈ wsX0_become := List.mem_of_getElem? (i := 6) (by decide +kernel)
theorem wa_X0_become_3 : Cond.initialized "java/lang/System" ∈ wsX0_become := List.mem_of_getElem? (i := 7) (by decide +kernel)
theorem wl_X0_become_50 : Cond.fieldLink RX0 50 "HandBlinds$Blind" "rowCount" "I" ∈ wsX0_become := List.mem_of_getElem? (i := 8) (by decide +kernel)
theorem wl_X0_become_53 : Cond.fieldLink RX0 53 "HandBlinds$Blind" "shown" "I" ∈ wsX0_become := List.mem_of_getElem? (i := 9) (by decide +kernel)
theorem wl_X0_become_56 : Cond.fieldLink RX0 56 "HandBlinds$Blind" "routeCount" "I" ∈ wsX0_become := List.mem_of_getElem? (i := 10) (by decide +kernel)
theorem wl_X0_become_38 : Cond.fieldLink RX0 38 "HandBlinds$Blind" "driven" "I" ∈ wsX0_become := List.mem_of_getElem? (i := 11) (by decide +kernel)
theorem wl_X0_become_59 : Cond.fieldLink RX0 59 "HandBlinds$Blind" "tears" "I" ∈ wsX0_become := List.mem_of_getElem? (i := 12) (by decide +kernel)
theorem wl_X0_become_62 : Cond.fieldLink RX0 62 "HandBlinds$Blind" "passed" "I" ∈ wsX0_become := List.mem_of_getElem? (i := 13) (by decide +kernel)
theorem wl_X0_become_65 : Cond.fieldLink RX0 65 "HandBlinds$Blind" "stops" "I" ∈ wsX0_become := List.mem_of_getElem? (i := 14) (by decide +kernel)
theorem wl_X0_become_68 : Cond.fieldLink RX0 68 "HandBlinds$Blind" "rightStops" "I" ∈ wsX0_become := List.mem_of_getElem? (i := 15) (by decide +kernel)
theorem wl_X0_become_20 : Cond.fieldLink RX0 20 "HandBlinds$Blind" "routes" "[LHandBlinds$Route;" ∈ wsX0_become := List.mem_of_getElem? (i := 2) (by decide +kernel)
theorem wl_X0_become_11 : Cond.fieldLink RX0 11 "HandBlinds$Blind" "rows" "[LHandBlinds$Row;" ∈ wsX0_become := List.mem_of_getElem? (i := 1) (by decide +kernel)
theorem hd_X0_become : yX0_become.cls = RX0 ∧ yX0_become.cls ≠ "java/lang/invoke/MethodHandle" ∧ yX0_become.cls ≠ "java/lang/invoke/VarHandle" ∧ (parseMethodDescriptor yX0_become.desc).map (fun d => d.parameters.length) = some 1 := ⟨rfl, by decide +kernel, by decide +kernel, by decide +kernel⟩
set_option maxHeartbeats 4000000 in
set_option maxRecDepth 100000 in
theorem c_X0_become (l : Launch) {G : xG} {μ : xM} {I : xI} {P : xP} {b o n rq : Nat} {S : Nat → Int32} (kb : μ.2.1 b = 1) (hS : bS μ b) (hP : bP P b) (hSo : bS μ o) (hPo : bP P o) (hd : b + 50 ≤ o ∨ o + 50 ≤ b) (hB : bR I P o S n rq) (hinv : invN S n rq) : Ct l yX0_become wsX0_become rm_X0_become G μ I P [.ref (xZ G + b), .ref (xZ G + o)] 0 0 (fun vv μ' I' P' => vv = none ∧ μ' = μ ∧ P' = P ∧ bR I' P b S n rq ∧ (∀ c, c < b ∨ b + 50 ≤ c → I' c = I c)) := by
  have hA := bA_of hS hP
  have hAo := bA_of hSo hPo
  have hP0 := hP
  have hPo0 := hPo
  have ko : μ.2.1 o = 1 := hSo.1
  obtain ⟨hX1, hX2, hX3⟩ := bX hP
  obtain ⟨hY1, -, -⟩ := bX hPo
  obtain ⟨⟨k0, l0⟩, ⟨k3, l3⟩, ⟨k6, l6⟩, hrw, hrt⟩ := hA
  obtain ⟨⟨m0, e0⟩, ⟨m3, e3⟩, ⟨m6, e6⟩, hrwo, hrto⟩ := hAo
  obtain ⟨-, p3, p6, pj, -⟩ := hP0
  obtain ⟨-, o3, -, oj, -⟩ := hPo0
  have hob : o ≠ b := by omega
  refine Ct.of (cc := cX0_become) (maxL := 3) (ret := none) [some (.ref (xZ G + b)), some (.ref (xZ G + o)), none] (by decide) rfl rfl rfl (Nat.le_of_ble_eq_true rfl) ?_
  intro X hC hD h0 _
  have loop2 : ∀ (q k : Nat), k + q = 6 → xg X G (0, 0) μ (btI P b o (bcI P b o I 20) k) P [some (.ref (xZ G + b)), some (.ref (xZ G + o)), some (.int (nI k))] 31 [] := by
    intro q
    induction q with
    | zero =>
      intro k hk
      have ek : k = 6 := by omega
      subst ek
      refine r_iload_n (pc := 31) hC dX0_become_31 rfl ?_
      refine r_bipush (pc := 32) (v := 6) hC dX0_become_32 (by decide) ?_
      refine r_icmp_ge (pc := 34) (tgt := 58) hC dX0_become_34 (by decide) (fun bq34 => ?_) (fun bq34 => ?_)
      · skip
        refine r_aload_n (pc := 58) hC dX0_become_58 rfl ?_
        refine g_Blind_settings (pc := 59) hC wi_X0_become_0 wl_X0_become_25 (by assumption) (c2 := 7) (by assumption) (by decide) dX0_become_59 ?_
        refine r_iconst (pc := 62) (v := 0) hC dX0_become_62 (by decide) ?_
        refine r_aload_n (pc := 63) hC dX0_become_63 rfl ?_
        refine g_Blind_settings (pc := 64) hC wi_X0_become_0 wl_X0_become_25 (by assumption) (c2 := 7) (by assumption) (by decide) dX0_become_64 ?_
        refine r_iconst (pc := 67) (v := 0) hC dX0_become_67 (by decide) ?_
        refine r_iconst (pc := 68) (v := 3) hC dX0_become_68 (by decide) ?_
        refine r_copyi (pc := 69) hC wl_X0_become_32 wa_X0_become_1 wa_X0_become_2 wa_X0_become_3 (N := 3) m6 k6 (xi_l rfl (by decide) (by decide) (by decide)) (by rw [e6]; decide) (by rw [l6]; decide) ⟨Nat.le_of_ble_eq_true rfl, Nat.le_of_ble_eq_true rfl⟩ (Nat.le_of_ble_eq_true rfl) rfl dX0_become_69 ?_
        refine r_aload_n (pc := 72) hC dX0_become_72 rfl ?_
        refine r_aload_n (pc := 73) hC dX0_become_73 rfl ?_
        refine g_Blind_rowCount (pc := 74) hC wi_X0_become_0 wl_X0_become_50 (by assumption) dX0_become_74 ?_
        refine p_Blind_rowCount (pc := 77) hC wi_X0_become_0 wl_X0_become_50 (by assumption) dX0_become_77 ?_
        refine r_aload_n (pc := 80) hC dX0_become_80 rfl ?_
        refine r_aload_n (pc := 81) hC dX0_become_81 rfl ?_
        refine g_Blind_shown (pc := 82) hC wi_X0_become_0 wl_X0_become_53 (by assumption) dX0_become_82 ?_
        rw [xu_row hob]
        refine p_Blind_shown (pc := 85) hC wi_X0_become_0 wl_X0_become_53 (by assumption) dX0_become_85 ?_
        refine r_aload_n (pc := 88) hC dX0_become_88 rfl ?_
        refine r_aload_n (pc := 89) hC dX0_become_89 rfl ?_
        refine g_Blind_routeCount (pc := 90) hC wi_X0_become_0 wl_X0_become_56 (by assumption) dX0_become_90 ?_
        rw [xu_row hob, xu_row hob]
        refine p_Blind_routeCount (pc := 93) hC wi_X0_become_0 wl_X0_become_56 (by assumption) dX0_become_93 ?_
        refine r_aload_n (pc := 96) hC dX0_become_96 rfl ?_
        refine r_aload_n (pc := 97) hC dX0_become_97 rfl ?_
        refine g_Blind_driven (pc := 98) hC wi_X0_become_0 wl_X0_become_38 (by assumption) dX0_become_98 ?_
        rw [xu_row hob, xu_row hob, xu_row hob]
        refine p_Blind_driven (pc := 101) hC wi_X0_become_0 wl_X0_become_38 (by assumption) dX0_become_101 ?_
        refine r_aload_n (pc := 104) hC dX0_become_104 rfl ?_
        refine r_aload_n (pc := 105) hC dX0_become_105 rfl ?_
        refine g_Blind_tears (pc := 106) hC wi_X0_become_0 wl_X0_become_59 (by assumption) dX0_become_106 ?_
        rw [xu_row hob, xu_row hob, xu_row hob, xu_row hob]
        refine p_Blind_tears (pc := 109) hC wi_X0_become_0 wl_X0_become_59 (by assumption) dX0_become_109 ?_
        refine r_aload_n (pc := 112) hC dX0_become_112 rfl ?_
        refine r_aload_n (pc := 113) hC dX0_become_113 rfl ?_
        refine g_Blind_passed (pc := 114) hC wi_X0_become_0 wl_X0_become_62 (by assumption) dX0_become_114 ?_
        rw [xu_row hob, xu_row hob, xu_row hob, xu_row hob, xu_row hob]
        refine p_Blind_passed (pc := 117) hC wi_X0_become_0 wl_X0_become_62 (by assumption) dX0_become_117 ?_
        refine r_aload_n (pc := 120) hC dX0_become_120 rfl ?_
        refine r_aload_n (pc := 121) hC dX0_become_121 rfl ?_
        refine g_Blind_stops (pc := 122) hC wi_X0_become_0 wl_X0_become_65 (by assumption) dX0_become_122 ?_
        rw [xu_row hob, xu_row hob, xu_row hob, xu_row hob, xu_row hob, xu_row hob]
        refine p_Blind_stops (pc := 125) hC wi_X0_become_0 wl_X0_become_65 (by assumption) dX0_become_125 ?_
        refine r_aload_n (pc := 128) hC dX0_become_128 rfl ?_
        refine r_aload_n (pc := 129) hC dX0_become_129 rfl ?_
        refine g_Blind_rightStops (pc := 130) hC wi_X0_become_0 wl_X0_become_68 (by assumption) dX0_become_130 ?_
        rw [xu_row hob, xu_row hob, xu_row hob, xu_row hob, xu_row hob, xu_row hob, xu_row hob]
        refine p_Blind_rightStops (pc := 133) hC wi_X0_become_0 wl_X0_become_68 (by assumption) dX0_become_133 ?_
        refine r_vret (pc := 136) hC hD dX0_become_136 rfl ?_
        obtain ⟨h1, h2⟩ := become_ok hP hPo hd hB hinv rfl
        exact ⟨rfl, rfl, rfl, h1, h2⟩
      · skip
        exact absurd (nI_le (a := 6) (b := 6) (by omega) (by decide)) bq34
    | succ q ih =>
      intro k hk
      refine r_iload_n (pc := 31) hC dX0_become_31 rfl ?_
      refine r_bipush (pc := 32) (v := 6) hC dX0_become_32 (by decide) ?_
      refine r_icmp_ge (pc := 34) (tgt := 58) hC dX0_become_34 (by decide) (fun bq34 => ?_) (fun bq34 => ?_)
      · skip
        exact absurd bq34 (nI_ge (b := 6) (by omega) (by decide))
      · skip
        refine r_aload_n (pc := 37) hC dX0_become_37 rfl ?_
        refine g_Blind_routes (pc := 38) hC wi_X0_become_0 wl_X0_become_20 (by assumption) (c2 := 10) (by assumption) (by decide) dX0_become_38 ?_
        refine r_iload_n (pc := 41) hC dX0_become_41 rfl ?_
        refine r_aald_Route (pc := 42) hC k3 (xi_n (k := k) (by rw [l3]; omega) (by rw [l3]; decide)) (hrt k (by omega)) dX0_become_42 ?_
        refine r_aload_n (pc := 43) hC dX0_become_43 rfl ?_
        refine g_Blind_routes (pc := 44) hC wi_X0_become_0 wl_X0_become_20 (by assumption) (c2 := 10) (by assumption) (by decide) dX0_become_44 ?_
        refine r_iload_n (pc := 47) hC dX0_become_47 rfl ?_
        refine r_aald_Route (pc := 48) hC m3 (xi_n (k := k) (by rw [e3]; omega) (by rw [e3]; decide)) (hrto k (by omega)) dX0_become_48 ?_
        refine k_X1_copyRoute (pc := 49) hC gX0_become_X1_copyRoute ⟨Nat.le_of_ble_eq_true rfl, Nat.le_of_ble_eq_true rfl⟩ (hrt k (by omega)) (hrto k (by omega)) (by rw [p3, o3, pj k (by omega), oj k (by omega)]; omega) (Nat.le_of_ble_eq_true rfl) rfl ⟨Nat.zero_le _, Nat.zero_le _⟩ dX0_become_49 ?_
        refine r_iinc (pc := 52) (v := 1) (L' := [_, _, _]) hC dX0_become_52 rfl (by decide) rfl rfl ?_
        refine r_goto (pc := 55) (tgt := 31) hC dX0_become_55 (by decide) ?_
        rw [nI_1]; exact ih (k + 1) (by omega)
  have loop : ∀ (q k : Nat), k + q = 20 → xg X G (0, 0) μ (bcI P b o I k) P [some (.ref (xZ G + b)), some (.ref (xZ G + o)), some (.int (nI k))] 2 [] := by
    intro q
    induction q with
    | zero =>
      intro k hk
      have ek : k = 20 := by omega
      subst ek
      refine r_iload_n (pc := 2) hC dX0_become_2 rfl ?_
      refine r_bipush (pc := 3) (v := 20) hC dX0_become_3 (by decide) ?_
      refine r_icmp_ge (pc := 5) (tgt := 29) hC dX0_become_5 (by decide) (fun bq5 => ?_) (fun bq5 => ?_)
      · skip
        refine r_iconst (pc := 29) (v := 0) hC dX0_become_29 (by decide) ?_
        refine r_istore_n (pc := 30) (L' := [_, _, _]) hC dX0_become_30 rfl (Nat.le_of_ble_eq_true rfl) rfl ?_
        exact loop2 6 0 (by omega)
      · skip
        exact absurd (nI_le (a := 20) (b := 20) (by omega) (by decide)) bq5
    | succ q ih =>
      intro k hk
      refine r_iload_n (pc := 2) hC dX0_become_2 rfl ?_
      refine r_bipush (pc := 3) (v := 20) hC dX0_become_3 (by decide) ?_
      refine r_icmp_ge (pc := 5) (tgt := 29) hC dX0_become_5 (by decide) (fun bq5 => ?_) (fun bq5 => ?_)
      · skip
        exact absurd bq5 (nI_ge (b := 20) (by omega) (by decide))
      · skip
        refine r_aload_n (pc := 8) hC dX0_become_8 rfl ?_
        refine g_Blind_rows (pc := 9) hC wi_X0_become_0 wl_X0_become_11 (by assumption) (c2 := 9) (by assumption) (by decide) dX0_become_9 ?_
        refine r_iload_n (pc := 12) hC dX0_become_12 rfl ?_
        refine r_aald_Row (pc := 13) hC k0 (xi_n (k := k) (by rw [l0]; omega) (by rw [l0]; decide)) (hrw k (by omega)).1 dX0_become_13 ?_
        refine r_aload_n (pc := 14) hC dX0_become_14 rfl ?_
        refine g_Blind_rows (pc := 15) hC wi_X0_become_0 wl_X0_become_11 (by assumption) (c2 := 9) (by assumption) (by decide) dX0_become_15 ?_
        refine r_iload_n (pc := 18) hC dX0_become_18 rfl ?_
        refine r_aald_Row (pc := 19) hC m0 (xi_n (k := k) (by rw [e0]; omega) (by rw [e0]; decide)) (hrwo k (by omega)).1 dX0_become_19 ?_
        refine k_X2_copyRow (pc := 20) hC gX0_become_X2_copyRow ⟨Nat.le_of_ble_eq_true rfl, Nat.le_of_ble_eq_true rfl⟩ (hrw k (by omega)).1 (hrw k (by omega)).2.1 (hrw k (by omega)).2.2 (hrwo k (by omega)).1 (hrwo k (by omega)).2.1 (hrwo k (by omega)).2.2 (by have x1 := hX1 k (by omega); have y1 := hY1 k (by omega); omega) (Nat.le_of_ble_eq_true rfl) rfl ⟨Nat.zero_le _, Nat.zero_le _⟩ dX0_become_20 ?_
        refine r_iinc (pc := 23) (v := 1) (L' := [_, _, _]) hC dX0_become_23 rfl (by decide) rfl rfl ?_
        refine r_goto (pc := 26) (tgt := 2) hC dX0_become_26 (by decide) ?_
        rw [nI_1]; exact ih (k + 1) (by omega)
  refine r_iconst (pc := 0) (v := 0) hC dX0_become_0 (by decide) ?_
  refine r_istore_n (pc := 1) (L' := [_, _, _]) hC dX0_become_1 rfl (Nat.le_of_ble_eq_true rfl) rfl ?_
  exact loop 20 0 (by omega)
theorem k_X0_become {X : xF} {G : xG} {cs : Nat × Nat} {μ : xM} {I : xI} {P : xP} {L : List (Option Value)} {pc : Nat} {rest : List Value} {cc : ByteArray} {Ts : List Cond} {own : String} {nL : Nat} {R : Room} (hC : xC X G cc Ts own nL R) {index : Nat} (hG : GoodIn Ts (wsV own index RX0 yX0_become wsX0_become)) (hR : rm_X0_become.frames + 1 ≤ R.frames ∧ 8 + (3 + 11) + rm_X0_become.locals ≤ R.locals) {b o n rq : Nat} {S : Nat → Int32} (kb : μ.2.1 b = 1) (hS : bS μ b) (hP : bP P b) (hSo : bS μ o) (hPo : bP P o) (hd : b + 50 ≤ o ∨ o + 50 ≤ b) (hB : bR I P o S n rq) (hinv : invN S n rq) (hW : (rest.map fun v => v.category).sum ≤ 8) (hL : L.length = nL) (hcs : cs.1 ≤ R.cells ∧ cs.2 ≤ R.slots) (hdec : decode cc pc = .ok (.invokevirtual index, 3)) (kk : ∀ I' : xI, bR I' P b S n rq → (∀ c, c < b ∨ b + 50 ≤ c → I' c = I c) → xg X G cs μ I' P L (pc + 3) rest) : xg X G cs μ I P L pc (.ref (xZ G + o) :: .ref (xZ G + b) :: rest) :=
  r_callV hC (c_X0_become X.2.1 kb hS hP hSo hPo hd hB hinv) hG rfl rfl rfl hd_X0_become hR (by rw [kb]; decide) (xe_Blind kb) rfl rfl rfl hW hL hcs hdec (by rintro vv μ' I' P' ⟨rfl, rfl, rfl, h1, h2⟩; exact kk I' h1 h2)
