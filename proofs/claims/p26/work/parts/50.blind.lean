abbrev rm_X0_wrongOf : Room := { frames := 6, cells := 0, slots := 0, locals := 127 }
theorem wl_X0_wrongOf_11 : Cond.fieldLink RX0 11 "HandBlinds$Blind" "rows" "[LHandBlinds$Row;" ∈ wsX0_wrongOf := List.mem_of_getElem? (i := 1) (by decide +kernel)
theorem wi_X0_wrongOf_0 : ∀ w ∈ wsX00, w ∈ wsX0_wrongOf := fun _ h => List.mem_cons_of_mem _ (List.mem_append_left _ (List.mem_append_left _ (List.mem_append_right _ h)))
theorem wl_X0_wrongOf_92 : Cond.fieldLink RX0 92 "HandBlinds$Row" "torn" "Z" ∈ wsX0_wrongOf := List.mem_of_getElem? (i := 2) (by decide +kernel)
theorem wi_X0_wrongOf_2 : ∀ w ∈ wsX20, w ∈ wsX0_wrongOf := fun _ h => List.mem_cons_of_mem _ (List.mem_append_left _ (List.mem_append_right _ h))
theorem wl_X0_wrongOf_38 : Cond.fieldLink RX0 38 "HandBlinds$Blind" "driven" "I" ∈ wsX0_wrongOf := List.mem_of_getElem? (i := 3) (by decide +kernel)
theorem wl_X0_wrongOf_20 : Cond.fieldLink RX0 20 "HandBlinds$Blind" "routes" "[LHandBlinds$Route;" ∈ wsX0_wrongOf := List.mem_of_getElem? (i := 4) (by decide +kernel)
theorem hd_X0_wrongOf : yX0_wrongOf.cls = RX0 ∧ yX0_wrongOf.cls ≠ "java/lang/invoke/MethodHandle" ∧ yX0_wrongOf.cls ≠ "java/lang/invoke/VarHandle" ∧ (parseMethodDescriptor yX0_wrongOf.desc).map (fun d => d.parameters.length) = some 1 := ⟨rfl, by decide +kernel, by decide +kernel, by decide +kernel⟩
set_option maxHeartbeats 4000000 in
set_option maxRecDepth 100000 in
theorem c_X0_wrongOf (l : Launch) {G : xG} {μ : xM} {I : xI} {P : xP} {b n rq : Nat} {S : Nat → Int32} {r : Int32} (kb : μ.2.1 b = 1) (hA : bA μ P b) (hB : bR I P b S n rq) (hinv : invN S n rq) : Ct l yX0_wrongOf wsX0_wrongOf rm_X0_wrongOf G μ I P [.ref (xZ G + b), .int r] 0 0 (fun vv μ' I' P' => vv = some (.int (wrC S r)) ∧ μ' = μ ∧ I' = (I) ∧ P' = (P)) := by
  obtain ⟨⟨k0, l0⟩, ⟨k3, l3⟩, ⟨k6, l6⟩, hrw, hrt⟩ := hA
  have hrowf := fun {i : Nat} (hi : i < n) => bRow hB hinv hi
  obtain ⟨b1, b2, b4, b5, b7, b8, b9, b10, bst, brw, brt⟩ := hB
  obtain ⟨hn20, hn, hq6, hq, hcur, hdr, h8, h9, h10, hrows⟩ := hinv
  have b1n : I b 1 = nI n := b1.trans hn
  have b4q : I b 4 = nI rq := b4.trans hq
  have hoff : (if I b 5 < 0 then (0 : Int32) else if I b 4 ≤ I b 5 then 0 else 1) = 0 → S 3 = -1 := fun e => by
    rcases hdr with h | ⟨d, hd, h⟩
    · exact h
    · rw [b5, h, b4q, if_neg (nI_pos (by omega)), if_neg (nI_ge hd (by omega))] at e; exact absurd e (by decide)
  refine Ct.of (cc := cX0_wrongOf) (maxL := 3) (ret := (some .int)) [some (.ref (xZ G + b)), some (.int r), none] (by decide) rfl rfl rfl (Nat.le_of_ble_eq_true rfl) ?_
  intro X hC hD h0 _
  refine r_aload_n (pc := 0) hC dX0_wrongOf_0 rfl ?_
  refine r_iload_n (pc := 1) hC dX0_wrongOf_1 rfl ?_
  refine k_X0_hasRow (pc := 2) hC gX0_wrongOf_X0_hasRow ⟨Nat.le_of_ble_eq_true rfl, Nat.le_of_ble_eq_true rfl⟩ (by assumption) (Nat.le_of_ble_eq_true rfl) rfl ⟨Nat.zero_le _, Nat.zero_le _⟩ dX0_wrongOf_2 ?_
  refine r_if_ne (pc := 5) (tgt := 10) hC dX0_wrongOf_5 (by decide) (fun bq5 => ?_) (fun bq5 => ?_)
  · skip
    obtain ⟨k, hk, rfl⟩ := isR_of bq5 b1n (by omega)
    have hkc : (nI k).toNatClampNeg = k := nI_clamp (by omega)
    obtain ⟨L, hL1, hL14, hLr, hLs, hLl, hLw, hLk, hLc, hL2, hL3, hL01⟩ := hrowf (i := k) (by omega)
    refine r_aload_n (pc := 10) hC dX0_wrongOf_10 rfl ?_
    refine g_Blind_rows (pc := 11) hC wi_X0_wrongOf_0 wl_X0_wrongOf_11 (by assumption) (c2 := 9) (by assumption) (by decide) dX0_wrongOf_11 ?_
    refine r_iload_n (pc := 14) hC dX0_wrongOf_14 rfl ?_
    refine r_aald_Row (pc := 15) hC k0 (xi_n (k := k) (by rw [l0]; omega) (by rw [l0]; decide)) (hrw k (by omega)).1 dX0_wrongOf_15 ?_
    refine g_Row_torn (pc := 16) hC wi_X0_wrongOf_2 wl_X0_wrongOf_92 (hrw k (by omega)).1 dX0_wrongOf_16 ?_
    refine r_if_eq (pc := 19) (tgt := 24) hC dX0_wrongOf_19 (by decide) (fun bq19 => ?_) (fun bq19 => ?_)
    · skip
      refine r_aload_n (pc := 24) hC dX0_wrongOf_24 rfl ?_
      refine g_Blind_rows (pc := 25) hC wi_X0_wrongOf_0 wl_X0_wrongOf_11 (by assumption) (c2 := 9) (by assumption) (by decide) dX0_wrongOf_25 ?_
      refine r_iload_n (pc := 28) hC dX0_wrongOf_28 rfl ?_
      refine r_aald_Row (pc := 29) hC k0 (xi_n (k := k) (by rw [l0]; omega) (by rw [l0]; decide)) (hrw k (by omega)).1 dX0_wrongOf_29 ?_
      refine k_X2_kind (pc := 30) hC gX0_wrongOf_X2_kind ⟨Nat.le_of_ble_eq_true rfl, Nat.le_of_ble_eq_true rfl⟩ (hrw k (by omega)).1 (hrw k (by omega)).2.1 (hrw k (by omega)).2.2 hLr hL14 (Nat.le_of_ble_eq_true rfl) rfl ⟨Nat.zero_le _, Nat.zero_le _⟩ dX0_wrongOf_30 ?_
      rw [hLk]
      refine r_istore_n (pc := 33) (L' := [_, _, _]) hC dX0_wrongOf_33 rfl (Nat.le_of_ble_eq_true rfl) rfl ?_
      refine r_aload_n (pc := 34) hC dX0_wrongOf_34 rfl ?_
      refine r_aload_n (pc := 35) hC dX0_wrongOf_35 rfl ?_
      refine g_Blind_driven (pc := 36) hC wi_X0_wrongOf_0 wl_X0_wrongOf_38 (by assumption) dX0_wrongOf_36 ?_
      refine k_X0_hasRoute (pc := 39) hC gX0_wrongOf_X0_hasRoute ⟨Nat.le_of_ble_eq_true rfl, Nat.le_of_ble_eq_true rfl⟩ (by assumption) (Nat.le_of_ble_eq_true rfl) rfl ⟨Nat.zero_le _, Nat.zero_le _⟩ dX0_wrongOf_39 ?_
      refine r_if_ne (pc := 42) (tgt := 57) hC dX0_wrongOf_42 (by decide) (fun bq42 => ?_) (fun bq42 => ?_)
      · skip
        refine r_aload_n (pc := 57) hC dX0_wrongOf_57 rfl ?_
        obtain ⟨d, hd, hd3⟩ : ∃ d, d < rq ∧ S 3 = nI d := hdr.resolve_left (fun w => bq42 (by rw [b5, w]; rfl))
        have hd5 : I b 5 = nI d := b5.trans hd3
        refine g_Blind_routes (pc := 58) hC wi_X0_wrongOf_0 wl_X0_wrongOf_20 (by assumption) (c2 := 10) (by assumption) (by decide) dX0_wrongOf_58 ?_
        refine r_aload_n (pc := 61) hC dX0_wrongOf_61 rfl ?_
        refine g_Blind_driven (pc := 62) hC wi_X0_wrongOf_0 wl_X0_wrongOf_38 (by assumption) dX0_wrongOf_62 ?_
        refine r_aald_Route (pc := 65) hC k3 (xi_e (k := d) hd5 l3 (by omega) (by decide)) (hrt d (by omega)) dX0_wrongOf_65 ?_
        refine r_iload_n (pc := 66) hC dX0_wrongOf_66 rfl ?_
        refine k_X1_owns (pc := 67) hC gX0_wrongOf_X1_owns ⟨Nat.le_of_ble_eq_true rfl, Nat.le_of_ble_eq_true rfl⟩ (hrt d (by omega)) (Nat.le_of_ble_eq_true rfl) rfl ⟨Nat.zero_le _, Nat.zero_le _⟩ dX0_wrongOf_67 ?_
        refine r_if_ne (pc := 70) (tgt := 80) hC dX0_wrongOf_70 (by decide) (fun bq70 => ?_) (fun bq70 => ?_)
        · skip
          refine r_aload_n (pc := 80) hC dX0_wrongOf_80 rfl ?_
          refine r_aload_n (pc := 81) hC dX0_wrongOf_81 rfl ?_
          refine g_Blind_rows (pc := 82) hC wi_X0_wrongOf_0 wl_X0_wrongOf_11 (by assumption) (c2 := 9) (by assumption) (by decide) dX0_wrongOf_82 ?_
          refine r_iload_n (pc := 85) hC dX0_wrongOf_85 rfl ?_
          refine r_aald_Row (pc := 86) hC k0 (xi_n (k := k) (by rw [l0]; omega) (by rw [l0]; decide)) (hrw k (by omega)).1 dX0_wrongOf_86 ?_
          refine k_X2_width (pc := 87) hC gX0_wrongOf_X2_width ⟨Nat.le_of_ble_eq_true rfl, Nat.le_of_ble_eq_true rfl⟩ (n := L) (hrw k (by omega)).1 (hrw k (by omega)).2.1 (hrw k (by omega)).2.2 hLr hL14 (Nat.le_of_ble_eq_true rfl) rfl ⟨Nat.zero_le _, Nat.zero_le _⟩ dX0_wrongOf_87 ?_
          rw [hLw]
          refine k_X0_squeezed (pc := 90) hC gX0_wrongOf_X0_squeezed ⟨Nat.le_of_ble_eq_true rfl, Nat.le_of_ble_eq_true rfl⟩ kb ⟨⟨k0, l0⟩, ⟨k3, l3⟩, ⟨k6, l6⟩, hrw, hrt⟩ ⟨b1, b2, b4, b5, b7, b8, b9, b10, bst, brw, brt⟩ ⟨hn20, hn, hq6, hq, hcur, hdr, h8, h9, h10, hrows⟩ (Nat.le_of_ble_eq_true rfl) rfl ⟨Nat.zero_le _, Nat.zero_le _⟩ dX0_wrongOf_90 ?_
          refine r_bipush (pc := 93) (v := 120) hC dX0_wrongOf_93 (by decide) ?_
          refine r_icmp_le (pc := 95) (tgt := 102) hC dX0_wrongOf_95 (by decide) (fun bq95 => ?_) (fun bq95 => ?_)
          · skip
            refine r_iconst (pc := 102) (v := 0) hC dX0_wrongOf_102 (by decide) ?_
            refine r_iret (pc := 103) hC hD rfl dX0_wrongOf_103 rfl ?_
            have hwr : wrC S (nI k) = sWrong S k := by rw [wrC, if_neg (by rw [hn, isR_nI hk (by omega)]; decide), hkc]
            have ht : ¬ S (13 + 17 * k) = 1 := by rw [hL3] at bq19; rw [bq19]; decide
            have hso : sOn S = true := by rw [sOn, hd3]; exact decide_eq_true (nI_pos' (by omega))
            have hsd : sDrv S = d := by rw [sDrv, hd3, nI_clamp (by omega)]
            have hr0 : I (P (P b 3) d) 0 = S (351 + 3 * d) := (brt d hd).1
            have hon : S (351 + 3 * d) >>> (nI k &&& 31) &&& 1 = 1 := by rw [hr0] at bq70; exact (bit01 (S (351 + 3 * d)) (nI k &&& 31)).resolve_left (fun e => bq70 (by rw [e]; decide))
            exact ⟨by rw [hwr, sWrong, if_neg ht, if_neg (fun w => by rw [hso] at w; cases w.1), if_neg (fun w => by rw [hsd, hon] at w; exact absurd w.2.1 (by decide)), if_pos bq95], rfl, rfl, rfl⟩
          · skip
            refine r_iconst (pc := 98) (v := 5) hC dX0_wrongOf_98 (by decide) ?_
            refine r_goto (pc := 99) (tgt := 103) hC dX0_wrongOf_99 (by decide) ?_
            refine r_iret (pc := 103) hC hD rfl dX0_wrongOf_103 rfl ?_
            have hwr : wrC S (nI k) = sWrong S k := by rw [wrC, if_neg (by rw [hn, isR_nI hk (by omega)]; decide), hkc]
            have ht : ¬ S (13 + 17 * k) = 1 := by rw [hL3] at bq19; rw [bq19]; decide
            have hso : sOn S = true := by rw [sOn, hd3]; exact decide_eq_true (nI_pos' (by omega))
            have hsd : sDrv S = d := by rw [sDrv, hd3, nI_clamp (by omega)]
            have hr0 : I (P (P b 3) d) 0 = S (351 + 3 * d) := (brt d hd).1
            have hon : S (351 + 3 * d) >>> (nI k &&& 31) &&& 1 = 1 := by rw [hr0] at bq70; exact (bit01 (S (351 + 3 * d)) (nI k &&& 31)).resolve_left (fun e => bq70 (by rw [e]; decide))
            exact ⟨by rw [hwr, sWrong, if_neg ht, if_neg (fun w => by rw [hso] at w; cases w.1), if_neg (fun w => by rw [hsd, hon] at w; exact absurd w.2.1 (by decide)), if_neg bq95], rfl, rfl, rfl⟩
        · skip
          refine r_iload_n (pc := 73) hC dX0_wrongOf_73 rfl ?_
          refine r_iconst (pc := 74) (v := 2) hC dX0_wrongOf_74 (by decide) ?_
          refine r_icmp_eq (pc := 75) (tgt := 80) hC dX0_wrongOf_75 (by decide) (fun bq75 => ?_) (fun bq75 => ?_)
          · skip
            refine r_aload_n (pc := 80) hC dX0_wrongOf_80 rfl ?_
            refine r_aload_n (pc := 81) hC dX0_wrongOf_81 rfl ?_
            refine g_Blind_rows (pc := 82) hC wi_X0_wrongOf_0 wl_X0_wrongOf_11 (by assumption) (c2 := 9) (by assumption) (by decide) dX0_wrongOf_82 ?_
            refine r_iload_n (pc := 85) hC dX0_wrongOf_85 rfl ?_
            refine r_aald_Row (pc := 86) hC k0 (xi_n (k := k) (by rw [l0]; omega) (by rw [l0]; decide)) (hrw k (by omega)).1 dX0_wrongOf_86 ?_
            refine k_X2_width (pc := 87) hC gX0_wrongOf_X2_width ⟨Nat.le_of_ble_eq_true rfl, Nat.le_of_ble_eq_true rfl⟩ (n := L) (hrw k (by omega)).1 (hrw k (by omega)).2.1 (hrw k (by omega)).2.2 hLr hL14 (Nat.le_of_ble_eq_true rfl) rfl ⟨Nat.zero_le _, Nat.zero_le _⟩ dX0_wrongOf_87 ?_
            rw [hLw]
            refine k_X0_squeezed (pc := 90) hC gX0_wrongOf_X0_squeezed ⟨Nat.le_of_ble_eq_true rfl, Nat.le_of_ble_eq_true rfl⟩ kb ⟨⟨k0, l0⟩, ⟨k3, l3⟩, ⟨k6, l6⟩, hrw, hrt⟩ ⟨b1, b2, b4, b5, b7, b8, b9, b10, bst, brw, brt⟩ ⟨hn20, hn, hq6, hq, hcur, hdr, h8, h9, h10, hrows⟩ (Nat.le_of_ble_eq_true rfl) rfl ⟨Nat.zero_le _, Nat.zero_le _⟩ dX0_wrongOf_90 ?_
            refine r_bipush (pc := 93) (v := 120) hC dX0_wrongOf_93 (by decide) ?_
            refine r_icmp_le (pc := 95) (tgt := 102) hC dX0_wrongOf_95 (by decide) (fun bq95 => ?_) (fun bq95 => ?_)
            · skip
              refine r_iconst (pc := 102) (v := 0) hC dX0_wrongOf_102 (by decide) ?_
              refine r_iret (pc := 103) hC hD rfl dX0_wrongOf_103 rfl ?_
              have hwr : wrC S (nI k) = sWrong S k := by rw [wrC, if_neg (by rw [hn, isR_nI hk (by omega)]; decide), hkc]
              have ht : ¬ S (13 + 17 * k) = 1 := by rw [hL3] at bq19; rw [bq19]; decide
              have hso : sOn S = true := by rw [sOn, hd3]; exact decide_eq_true (nI_pos' (by omega))
              have hsd : sDrv S = d := by rw [sDrv, hd3, nI_clamp (by omega)]
              have hr0 : I (P (P b 3) d) 0 = S (351 + 3 * d) := (brt d hd).1
              exact ⟨by rw [hwr, sWrong, if_neg ht, if_neg (fun w => by rw [hso] at w; cases w.1), if_neg (fun w => w.2.2 bq75), if_pos bq95], rfl, rfl, rfl⟩
            · skip
              refine r_iconst (pc := 98) (v := 5) hC dX0_wrongOf_98 (by decide) ?_
              refine r_goto (pc := 99) (tgt := 103) hC dX0_wrongOf_99 (by decide) ?_
              refine r_iret (pc := 103) hC hD rfl dX0_wrongOf_103 rfl ?_
              have hwr : wrC S (nI k) = sWrong S k := by rw [wrC, if_neg (by rw [hn, isR_nI hk (by omega)]; decide), hkc]
              have ht : ¬ S (13 + 17 * k) = 1 := by rw [hL3] at bq19; rw [bq19]; decide
              have hso : sOn S = true := by rw [sOn, hd3]; exact decide_eq_true (nI_pos' (by omega))
              have hsd : sDrv S = d := by rw [sDrv, hd3, nI_clamp (by omega)]
              have hr0 : I (P (P b 3) d) 0 = S (351 + 3 * d) := (brt d hd).1
              exact ⟨by rw [hwr, sWrong, if_neg ht, if_neg (fun w => by rw [hso] at w; cases w.1), if_neg (fun w => w.2.2 bq75), if_neg bq95], rfl, rfl, rfl⟩
          · skip
            refine r_iconst (pc := 78) (v := 4) hC dX0_wrongOf_78 (by decide) ?_
            refine r_iret (pc := 79) hC hD rfl dX0_wrongOf_79 rfl ?_
            have hwr : wrC S (nI k) = sWrong S k := by rw [wrC, if_neg (by rw [hn, isR_nI hk (by omega)]; decide), hkc]
            have ht : ¬ S (13 + 17 * k) = 1 := by rw [hL3] at bq19; rw [bq19]; decide
            have hso : sOn S = true := by rw [sOn, hd3]; exact decide_eq_true (nI_pos' (by omega))
            have hsd : sDrv S = d := by rw [sDrv, hd3, nI_clamp (by omega)]
            have hr0 : I (P (P b 3) d) 0 = S (351 + 3 * d) := (brt d hd).1
            have hon : S (351 + 3 * d) >>> (nI k &&& 31) &&& 1 = 0 := by rw [hr0] at bq70; exact (bit01 (S (351 + 3 * d)) (nI k &&& 31)).resolve_right (fun e => by rw [e] at bq70; exact absurd bq70 (by decide))
            exact ⟨by rw [hwr, sWrong, if_neg ht, if_neg (fun w => by rw [hso] at w; cases w.1), if_pos ⟨hso, by rw [hsd]; exact hon, bq75⟩], rfl, rfl, rfl⟩
      · skip
        refine r_iload_n (pc := 45) hC dX0_wrongOf_45 rfl ?_
        refine r_iconst (pc := 46) (v := 1) hC dX0_wrongOf_46 (by decide) ?_
        refine r_icmp_eq (pc := 47) (tgt := 80) hC dX0_wrongOf_47 (by decide) (fun bq47 => ?_) (fun bq47 => ?_)
        · skip
          refine r_aload_n (pc := 80) hC dX0_wrongOf_80 rfl ?_
          refine r_aload_n (pc := 81) hC dX0_wrongOf_81 rfl ?_
          refine g_Blind_rows (pc := 82) hC wi_X0_wrongOf_0 wl_X0_wrongOf_11 (by assumption) (c2 := 9) (by assumption) (by decide) dX0_wrongOf_82 ?_
          refine r_iload_n (pc := 85) hC dX0_wrongOf_85 rfl ?_
          refine r_aald_Row (pc := 86) hC k0 (xi_n (k := k) (by rw [l0]; omega) (by rw [l0]; decide)) (hrw k (by omega)).1 dX0_wrongOf_86 ?_
          refine k_X2_width (pc := 87) hC gX0_wrongOf_X2_width ⟨Nat.le_of_ble_eq_true rfl, Nat.le_of_ble_eq_true rfl⟩ (n := L) (hrw k (by omega)).1 (hrw k (by omega)).2.1 (hrw k (by omega)).2.2 hLr hL14 (Nat.le_of_ble_eq_true rfl) rfl ⟨Nat.zero_le _, Nat.zero_le _⟩ dX0_wrongOf_87 ?_
          rw [hLw]
          refine k_X0_squeezed (pc := 90) hC gX0_wrongOf_X0_squeezed ⟨Nat.le_of_ble_eq_true rfl, Nat.le_of_ble_eq_true rfl⟩ kb ⟨⟨k0, l0⟩, ⟨k3, l3⟩, ⟨k6, l6⟩, hrw, hrt⟩ ⟨b1, b2, b4, b5, b7, b8, b9, b10, bst, brw, brt⟩ ⟨hn20, hn, hq6, hq, hcur, hdr, h8, h9, h10, hrows⟩ (Nat.le_of_ble_eq_true rfl) rfl ⟨Nat.zero_le _, Nat.zero_le _⟩ dX0_wrongOf_90 ?_
          refine r_bipush (pc := 93) (v := 120) hC dX0_wrongOf_93 (by decide) ?_
          refine r_icmp_le (pc := 95) (tgt := 102) hC dX0_wrongOf_95 (by decide) (fun bq95 => ?_) (fun bq95 => ?_)
          · skip
            refine r_iconst (pc := 102) (v := 0) hC dX0_wrongOf_102 (by decide) ?_
            refine r_iret (pc := 103) hC hD rfl dX0_wrongOf_103 rfl ?_
            have hwr : wrC S (nI k) = sWrong S k := by rw [wrC, if_neg (by rw [hn, isR_nI hk (by omega)]; decide), hkc]
            have ht : ¬ S (13 + 17 * k) = 1 := by rw [hL3] at bq19; rw [bq19]; decide
            have hso : sOn S = false := by rw [sOn, hoff bq42]; decide
            exact ⟨by rw [hwr, sWrong, if_neg ht, if_neg (fun w => w.2.1 bq47), if_neg (show ¬ (sOn S = true ∧ S (351 + 3 * sDrv S) >>> (nI k &&& 31) &&& 1 = 0 ∧ sKind S k ≠ 2) from fun w => by rw [hso] at w; cases w.1), if_pos bq95], rfl, rfl, rfl⟩
          · skip
            refine r_iconst (pc := 98) (v := 5) hC dX0_wrongOf_98 (by decide) ?_
            refine r_goto (pc := 99) (tgt := 103) hC dX0_wrongOf_99 (by decide) ?_
            refine r_iret (pc := 103) hC hD rfl dX0_wrongOf_103 rfl ?_
            have hwr : wrC S (nI k) = sWrong S k := by rw [wrC, if_neg (by rw [hn, isR_nI hk (by omega)]; decide), hkc]
            have ht : ¬ S (13 + 17 * k) = 1 := by rw [hL3] at bq19; rw [bq19]; decide
            have hso : sOn S = false := by rw [sOn, hoff bq42]; decide
            exact ⟨by rw [hwr, sWrong, if_neg ht, if_neg (fun w => w.2.1 bq47), if_neg (show ¬ (sOn S = true ∧ S (351 + 3 * sDrv S) >>> (nI k &&& 31) &&& 1 = 0 ∧ sKind S k ≠ 2) from fun w => by rw [hso] at w; cases w.1), if_neg bq95], rfl, rfl, rfl⟩
        · skip
          refine r_iload_n (pc := 50) hC dX0_wrongOf_50 rfl ?_
          refine r_iconst (pc := 51) (v := 2) hC dX0_wrongOf_51 (by decide) ?_
          refine r_icmp_eq (pc := 52) (tgt := 80) hC dX0_wrongOf_52 (by decide) (fun bq52 => ?_) (fun bq52 => ?_)
          · skip
            refine r_aload_n (pc := 80) hC dX0_wrongOf_80 rfl ?_
            refine r_aload_n (pc := 81) hC dX0_wrongOf_81 rfl ?_
            refine g_Blind_rows (pc := 82) hC wi_X0_wrongOf_0 wl_X0_wrongOf_11 (by assumption) (c2 := 9) (by assumption) (by decide) dX0_wrongOf_82 ?_
            refine r_iload_n (pc := 85) hC dX0_wrongOf_85 rfl ?_
            refine r_aald_Row (pc := 86) hC k0 (xi_n (k := k) (by rw [l0]; omega) (by rw [l0]; decide)) (hrw k (by omega)).1 dX0_wrongOf_86 ?_
            refine k_X2_width (pc := 87) hC gX0_wrongOf_X2_width ⟨Nat.le_of_ble_eq_true rfl, Nat.le_of_ble_eq_true rfl⟩ (n := L) (hrw k (by omega)).1 (hrw k (by omega)).2.1 (hrw k (by omega)).2.2 hLr hL14 (Nat.le_of_ble_eq_true rfl) rfl ⟨Nat.zero_le _, Nat.zero_le _⟩ dX0_wrongOf_87 ?_
            rw [hLw]
            refine k_X0_squeezed (pc := 90) hC gX0_wrongOf_X0_squeezed ⟨Nat.le_of_ble_eq_true rfl, Nat.le_of_ble_eq_true rfl⟩ kb ⟨⟨k0, l0⟩, ⟨k3, l3⟩, ⟨k6, l6⟩, hrw, hrt⟩ ⟨b1, b2, b4, b5, b7, b8, b9, b10, bst, brw, brt⟩ ⟨hn20, hn, hq6, hq, hcur, hdr, h8, h9, h10, hrows⟩ (Nat.le_of_ble_eq_true rfl) rfl ⟨Nat.zero_le _, Nat.zero_le _⟩ dX0_wrongOf_90 ?_
            refine r_bipush (pc := 93) (v := 120) hC dX0_wrongOf_93 (by decide) ?_
            refine r_icmp_le (pc := 95) (tgt := 102) hC dX0_wrongOf_95 (by decide) (fun bq95 => ?_) (fun bq95 => ?_)
            · skip
              refine r_iconst (pc := 102) (v := 0) hC dX0_wrongOf_102 (by decide) ?_
              refine r_iret (pc := 103) hC hD rfl dX0_wrongOf_103 rfl ?_
              have hwr : wrC S (nI k) = sWrong S k := by rw [wrC, if_neg (by rw [hn, isR_nI hk (by omega)]; decide), hkc]
              have ht : ¬ S (13 + 17 * k) = 1 := by rw [hL3] at bq19; rw [bq19]; decide
              have hso : sOn S = false := by rw [sOn, hoff bq42]; decide
              exact ⟨by rw [hwr, sWrong, if_neg ht, if_neg (fun w => w.2.2 bq52), if_neg (show ¬ (sOn S = true ∧ S (351 + 3 * sDrv S) >>> (nI k &&& 31) &&& 1 = 0 ∧ sKind S k ≠ 2) from fun w => by rw [hso] at w; cases w.1), if_pos bq95], rfl, rfl, rfl⟩
            · skip
              refine r_iconst (pc := 98) (v := 5) hC dX0_wrongOf_98 (by decide) ?_
              refine r_goto (pc := 99) (tgt := 103) hC dX0_wrongOf_99 (by decide) ?_
              refine r_iret (pc := 103) hC hD rfl dX0_wrongOf_103 rfl ?_
              have hwr : wrC S (nI k) = sWrong S k := by rw [wrC, if_neg (by rw [hn, isR_nI hk (by omega)]; decide), hkc]
              have ht : ¬ S (13 + 17 * k) = 1 := by rw [hL3] at bq19; rw [bq19]; decide
              have hso : sOn S = false := by rw [sOn, hoff bq42]; decide
              exact ⟨by rw [hwr, sWrong, if_neg ht, if_neg (fun w => w.2.2 bq52), if_neg (show ¬ (sOn S = true ∧ S (351 + 3 * sDrv S) >>> (nI k &&& 31) &&& 1 = 0 ∧ sKind S k ≠ 2) from fun w => by rw [hso] at w; cases w.1), if_neg bq95], rfl, rfl, rfl⟩
          · skip
            refine r_iconst (pc := 55) (v := 3) hC dX0_wrongOf_55 (by decide) ?_
            refine r_iret (pc := 56) hC hD rfl dX0_wrongOf_56 rfl ?_
            have hwr : wrC S (nI k) = sWrong S k := by rw [wrC, if_neg (by rw [hn, isR_nI hk (by omega)]; decide), hkc]
            have ht : ¬ S (13 + 17 * k) = 1 := by rw [hL3] at bq19; rw [bq19]; decide
            have hso : sOn S = false := by rw [sOn, hoff bq42]; decide
            exact ⟨by rw [hwr, sWrong, if_neg ht, if_pos ⟨hso, bq47, bq52⟩], rfl, rfl, rfl⟩
    · skip
      refine r_iconst (pc := 22) (v := 2) hC dX0_wrongOf_22 (by decide) ?_
      refine r_iret (pc := 23) hC hD rfl dX0_wrongOf_23 rfl ?_
      have hwr : wrC S (nI k) = sWrong S k := by rw [wrC, if_neg (by rw [hn, isR_nI hk (by omega)]; decide), hkc]
      exact ⟨by rw [hwr, sWrong, if_pos (by rw [hL3] at bq19; exact hL01.resolve_left bq19)], rfl, rfl, rfl⟩
  · skip
    refine r_iconst (pc := 8) (v := 1) hC dX0_wrongOf_8 (by decide) ?_
    refine r_iret (pc := 9) hC hD rfl dX0_wrongOf_9 rfl ?_
    exact ⟨by rw [wrC, if_pos (show isR r (S 0) = 0 from by rw [← b1]; exact bq5)], rfl, rfl, rfl⟩
theorem k_X0_wrongOf {X : xF} {G : xG} {cs : Nat × Nat} {μ : xM} {I : xI} {P : xP} {L : List (Option Value)} {pc : Nat} {rest : List Value} {cc : ByteArray} {Ts : List Cond} {own : String} {nL : Nat} {R : Room} (hC : xC X G cc Ts own nL R) {index : Nat} (hG : GoodIn Ts (wsV own index RX0 yX0_wrongOf wsX0_wrongOf)) (hR : rm_X0_wrongOf.frames + 1 ≤ R.frames ∧ 8 + (3 + 11) + rm_X0_wrongOf.locals ≤ R.locals) {b n rq : Nat} {S : Nat → Int32} {r : Int32} (kb : μ.2.1 b = 1) (hA : bA μ P b) (hB : bR I P b S n rq) (hinv : invN S n rq) (hW : (rest.map fun v => v.category).sum ≤ 8) (hL : L.length = nL) (hcs : cs.1 ≤ R.cells ∧ cs.2 ≤ R.slots) (hdec : decode cc pc = .ok (.invokevirtual index, 3)) (kk : xg X G cs μ I P L (pc + 3) (.int (wrC S r) :: rest)) : xg X G cs μ I P L pc (.int r :: .ref (xZ G + b) :: rest) :=
  r_callV hC (c_X0_wrongOf X.2.1 kb hA hB hinv) hG rfl rfl rfl hd_X0_wrongOf hR (by rw [kb]; decide) (xe_Blind kb) rfl rfl rfl hW hL hcs hdec (by rintro v μ' I' P' ⟨rfl, rfl, rfl, rfl⟩; exact kk)
abbrev rm_X0_nearestRight : Room := { frames := 7, cells := 0, slots := 0, locals := 149 }
abbrev rm_X0_legible : Room := { frames := 2, cells := 0, slots := 0, locals := 42 }
