abbrev rm_X0_wrongOf : Room := { frames := 6, cells := 0, slots := 0, locals := 127 }
theorem wl_X0_wrongOf_11 : Cond.fieldLink RX0 11 "HandBlinds$Blind" "rows" "[LHandBlinds$Row;" ∈ wsX0_wrongOf := List.mem_of_getElem? (i := 1) (by decide +kernel)
theorem wi_X0_wrongOf_0 : ∀ w ∈ wsX00, w ∈ wsX0_wrongOf := fun _ h => List.mem_cons_of_mem _ (List.mem_append_left _ (List.mem_append_left _ (List.mem_append_right _ h)))
theorem wl_X0_wrongOf_92 : Cond.fieldLink RX0 92 "HandBlinds$Row" "torn" "Z" ∈ wsX0_wrongOf := List.mem_of_getElem? (i := 2) (by decide +kernel)
theorem wi_X0_wrongOf_2 : ∀ w ∈ wsX20, w ∈ wsX0_wrongOf := fun _ h => List.mem_cons_of_mem _ (List.mem_append_left _ (List.mem_append_right _ h))
theorem wl_X0_wrongOf_38 : Cond.fieldLink RX0 38 "HandBlinds$Blind" "driven" "I" ∈ wsX0_wrongOf := List.mem_of_getElem? (i := 3) (by decide +kernel)
theorem wl_X0_wrongOf_20 : Cond.fieldLink RX0 20 "HandBlinds$Blind" "routes" "[LHandBlinds$Route;" ∈ wsX0_wrongOf := List.mem_of_getElem? (i := 4) (by decide +kernel)
theorem hd_X0_wrongOf : yX0_wrongOf.cls = RX0 ∧ yX0_wrongOf.cls ≠ "java/lang/invoke/MethodHandle" ∧ yX0_wrongOf.cls ≠ "java/lang/invoke/VarHandle" ∧ (parseMethodDescriptor yX0_wrongOf.desc).map (fun d => d.parameters.length) = some 1 := ⟨rfl, by decide +kernel, by decide +kernel, by decide +kernel⟩
set_option maxHeartbeats 4000000 in
set_option maxRecDepth 100000 in
theorem c_X0_wrongOf (l : Launch) {G : xG} {μ : xM} {I : xI} {P : xP} {b n rq : Nat} {S : Nat → Int32} {r : Int32} (kb : μ.2.1 b = 1) (hA : bA μ P b) (hB : bR I P b S n rq) (hinv : invN S n rq) : Ct l yX0_wrongOf wsX0_wrongOf rm_X0_wrongOf G μ I P [.ref (xZ G + b), .int r] 0 0 (fun vv μ' I' P' => vv = some (.int (wrC S r)) ∧ μ' = μ ∧ I' = (I) ∧ P' = (P)) := by
  obtain ⟨⟨k0, l0⟩, ⟨k3, l3⟩, ⟨k6, l6⟩, hrw, hrt⟩ := hA
  have hrowf := fun {i : Nat} (hi : i < n) => bRow hB hinv hi
  obtain ⟨b1, b2, b4, b5, b7, b8, b9, b10, bst, brw, brt⟩ := hB
  obtain ⟨hn20, hn, hq6, hq, hcur, hdr, h8, h9, h10, hrows⟩ := hinv
  have b1n : I b 1 = nI n := b1.trans hn
  have b4q : I b 4 = nI rq := b4.trans hq
  have hoff : (if I b 5 < 0 then (0 : Int32) else if I b 4 ≤ I b 5 then 0 else 1) = 0 → S 3 = -1 := fun e => by
    rcases hdr with h | ⟨d, hd, h⟩
    · exact h
    · rw [b5, h, b4q, if_neg (nI_pos (by omega)), if_neg (nI_ge hd (by omega))] at e; exact absurd e (by decide)
  refine Ct.of (cc := cX0_wrongOf) (maxL := 3) (ret := (some .int)) [some (.ref (xZ G + b)), some (.int r), none] (by decide) rfl rfl rfl (Nat.le_of_ble_eq_true rfl) ?_
  intro X hC hD h0 _
  refine r_aload_n (pc := 0) hC dX0_wrongOf_0 rfl ?_
  refine r_iload_n (pc := 1) hC dX0_wrongOf_1 rfl ?_
  refine k_X0_hasRow (pc := 2) hC gX0_wrongOf_X0_hasRow ⟨Nat.le_of_ble_eq_true rfl, Nat.le_of_ble_eq_true rfl⟩ (by assumption) (Nat.le_of_ble_eq_true rfl) rfl ⟨Nat.zero_le _, Nat.zero_le _⟩ dX0_wrongOf_2 ?_
  refine r_if_ne (pc := 5) (tgt := 10) hC dX0_wrongOf_5 (by decide) (fun bq5 => ?_) (fun bq5 => ?_)
  · skip
    obtain ⟨k, hk, rfl⟩ := isR_of bq5 b1n (by omega)
    have hkc : (nI k).toNatClampNeg = k := nI_clamp (by omega)
    obtain ⟨L, hL1, hL14, hLr, hLs, hLl, hLw, hLk, hLc, hL2, hL3, hL01⟩ := hrowf (i := k) (by omega)
    refine r_aload_n (pc := 10) hC dX0_wrongOf_10 rfl ?_
    refine g_Blind_rows (pc := 11) hC wi_X0_wrongOf_0 wl_X0_wrongOf_11 (by assumption) (c2 := 9) (by assumption) (by decide) dX0_wrongOf_11 ?_
    refine r_iload_n (pc := 14) hC dX0_wrongOf_14 rfl ?_
    refine r_aald_Row (pc := 15) hC k0 (xi_n (k := k) (by rw [l0]; omega) (by rw [l0]; decide)) (hrw k (by omega)).1 dX0_wrongOf_15 ?_
    refine g_Row_torn (pc := 16) hC wi_X0_wrongOf_2 wl_X0_wrongOf_92 (hrw k (by omega)).1 dX0_wrongOf_16 ?_
    refine r_if_eq (pc := 19) (tgt := 24) hC dX0_wrongOf_19 (by decide) (fun bq19 => ?_) (fun bq19 => ?_)
    · skip
      refine r_aload_n (pc := 24) hC dX0_wrongOf_24 rfl ?_
      refine g_Blind_rows (pc := 25) hC wi_X0_wrongOf_0 wl_X0_wrongOf_11 (by assumption) (c2 := 9) (by assumption) (by decide) dX0_wrongOf_25 ?_
      refine r_iload_n (pc := 28) hC dX0_wrongOf_28 rfl ?_
      refine r_aald_Row (pc := 29) hC k0 (xi_n (k := k) (by rw [l0]; omega) (by rw [l0]; decide)) (hrw k (by omega)).1 dX0_wrongOf_29 ?_
      refine k_X2_kind (pc := 30) hC gX0_wrongOf_X2_kind ⟨Nat.le_of_ble_eq_true rfl, Nat.le_of_ble_eq_true rfl⟩ (hrw k (by omega)).1 (hrw k (by omega)).2.1 (hrw k (by omega)).2.2 hLr hL14 (Nat.le_of_ble_eq_true rfl) rfl ⟨Nat.zero_le _, Nat.zero_le _⟩ dX0_wrongOf_30 ?_
      rw [hLk]
      refine r_istore_n (pc := 33) (L' := [_, _, _]) hC dX0_wrongOf_33 rfl (Nat.le_of_ble_eq_true rfl) rfl ?_
      refine r_aload_n (pc := 34) hC dX0_wrongOf_34 rfl ?_
      refine r_aload_n (pc := 35) hC dX0_wrongOf_35 rfl ?_
      refine g_Blind_driven (pc := 36) hC wi_X0_wrongOf_0 wl_X0_wrongOf_38 (by assumption) dX0_wrongOf_36 ?_
      refine k_X0_hasRoute (pc := 39) hC gX0_wrongOf_X0_hasRoute ⟨Nat.le_of_ble_eq_true rfl, Nat.le_of_ble_eq_true rfl⟩ (by assumption) (Nat.le_of_ble_eq_true rfl) rfl ⟨Nat.zero_le _, Nat.zero_le _⟩ dX0_wrongOf_39 ?_
      refine r_if_ne (pc := 42) (tgt := 57) hC dX0_wrongOf_42 (by decide) (fun bq42 => ?_) (fun bq42 => ?_)
      · skip
        refine r_aload_n (pc := 57) hC dX0_wrongOf_57 rfl ?_
        obtain ⟨d, hd, hd3⟩ : ∃ d, d < rq ∧ S 3 = nI d := hdr.resolve_left (fun w => bq42 (by rw [b5, w]; rfl))
        have hd5 : I b 5 = nI d := b5.trans hd3
        refine g_Blind_routes (pc := 58) hC wi_X0_wrongOf_0 wl_X0_wrongOf_20 (by assumption) (c2 := 10) (by assumption) (by decide) dX0_wrongOf_58 ?_
        refine r_aload_n (pc := 61) hC dX0_wrongOf_61 rfl ?_
        refine g_Blind_driven (pc := 62) hC wi_X0_wrongOf_0 wl_X0_wrongOf_38 (by assumption) dX0_wrongOf_62 ?_
        refine r_aald_Route (pc := 65) hC k3 (xi_e (k := d) hd5 l3 (by omega) (by decide)) (hrt d (by omega)) dX0_wrongOf_65 ?_
        refine r_iload_n (pc := 66) hC dX0_wrongOf_66 rfl ?_
        refine k_X1_owns (pc := 67) hC gX0_wrongOf_X1_owns ⟨Nat.le_of_ble_eq_true rfl, Nat.le_of_ble_eq_true rfl⟩ (hrt d (by omega)) (Nat.le_of_ble_eq_true rfl) rfl ⟨Nat.zero_le _, Nat.zero_le _⟩ dX0_wrongOf_67 ?_
        refine r_if_ne (pc := 70) (tgt := 80) hC dX0_wrongOf_70 (by decide) (fun bq70 => ?_) (fun bq70 => ?_)
        · skip
          refine r_aload_n (pc := 80) hC dX0_wrongOf_80 rfl ?_
          refine r_aload_n (pc := 81) hC dX0_wrongOf_81 rfl ?_
          refine g_Blind_rows (pc := 82) hC wi_X0_wrongOf_0 wl_X0_wrongOf_11 (by assumption) (c2 := 9) (by assumption) (by decide) dX0_wrongOf_82 ?_
          refine r_iload_n (pc := 85) hC dX0_wrongOf_85 rfl ?_
          refine r_aald_Row (pc := 86) hC k0 (xi_n (k := k) (by rw [l0]; omega) (by rw [l0]; decide)) (hrw k (by omega)).1 dX0_wrongOf_86 ?_
          refine k_X2_width (pc := 87) hC gX0_wrongOf_X2_width ⟨Nat.le_of_ble_eq_true rfl, Nat.le_of_ble_eq_true rfl⟩ (n := L) (hrw k (by omega)).1 (hrw k (by omega)).2.1 (hrw k (by omega)).2.2 hLr hL14 (Nat.le_of_ble_eq_true rfl) rfl ⟨Nat.zero_le _, Nat.zero_le _⟩ dX0_wrongOf_87 ?_
          rw [hLw]
          refine k_X0_squeezed (pc := 90) hC gX0_wrongOf_X0_squeezed ⟨Nat.le_of_ble_eq_true rfl, Nat.le_of_ble_eq_true rfl⟩ kb ⟨⟨k0, l0⟩, ⟨k3, l3⟩, ⟨k6, l6⟩, hrw, hrt⟩ ⟨b1, b2, b4, b5, b7, b8, b9, b10, bst, brw, brt⟩ ⟨hn20, hn, hq6, hq, hcur, hdr, h8, h9, h10, hrows⟩ (Nat.le_of_ble_eq_true rfl) rfl ⟨Nat.zero_le _, Nat.zero_le _⟩ dX0_wrongOf_90 ?_
          refine r_bipush (pc := 93) (v := 120) hC dX0_wrongOf_93 (by decide) ?_
          refine r_icmp_le (pc := 95) (tgt := 102) hC dX0_wrongOf_95 (by decide) (fun bq95 => ?_) (fun bq95 => ?_)
          · skip
            refine r_iconst (pc := 102) (v := 0) hC dX0_wrongOf_102 (by decide) ?_
            refine r_iret (pc := 103) hC hD rfl dX0_wrongOf_103 rfl ?_
            have hwr : wrC S (nI k) = sWrong S k := by rw [wrC, if_neg (by rw [hn, isR_nI hk (by omega)]; decide), hkc]
            have ht : ¬ S (13 + 17 * k) = 1 := by rw [hL3] at bq19; rw [bq19]; decide
            have hso : sOn S = true := by rw [sOn, hd3]; exact decide_eq_true (nI_pos' (by omega))
            have hsd : sDrv S = d := by rw [sDrv, hd3, nI_clamp (by omega)]
            have hr0 : I (P (P b 3) d) 0 = S (351 + 3 * d) := (brt d hd).1
            have hon : S (351 + 3 * d) >>> (nI k &&& 31) &&& 1 = 1 := by rw [hr0] at bq70; exact (bit01 (S (351 + 3 * d)) (nI k &&& 31)).resolve_left (fun e => bq70 (by rw [e]; decide))
            exact ⟨by rw [hwr, sWrong, if_neg ht, if_neg (fun w => by rw [hso] at w; cases w.1), if_neg (fun w => by rw [hsd, hon] at w; exact absurd w.2.1 (by decide)), if_pos bq95], rfl, rfl, rfl⟩
          · skip
            refine r_iconst (pc := 98) (v := 5) hC dX0_wrongOf_98 (by decide) ?_
            refine r_goto (pc := 99) (tgt := 103) hC dX0_wrongOf_99 (by decide) ?_
            refine r_iret (pc := 103) hC hD rfl dX0_wrongOf_103 rfl ?_
            have hwr : wrC S (nI k) = sWrong S k := by rw [wrC, if_neg (by rw [hn, isR_nI hk (by omega)]; decide), hkc]
            have ht : ¬ S (13 + 17 * k) = 1 := by rw [hL3] at bq19; rw [bq19]; decide
            have hso : sOn S = true := by rw [sOn, hd3]; exact decide_eq_true (nI_pos' (by omega))
            have hsd : sDrv S = d := by rw [sDrv, hd3, nI_clamp (by omega)]
            have hr0 : I (P (P b 3) d) 0 = S (351 + 3 * d) := (brt d hd).1
            have hon : S (351 + 3 * d) >>> (nI k &&& 31) &&& 1 = 1 := by rw [hr0] at bq70; exact (bit01 (S (351 + 3 * d)) (nI k &&& 31)).resolve_left (fun e => bq70 (by rw [e]; decide))
            exact ⟨by rw [hwr, sWrong, if_neg ht, if_neg (fun w => by rw [hso] at w; cases w.1), if_neg (fun w => by rw [hsd, hon] at w; exact absurd w.2.1 (by decide)), if_neg bq95], rfl, rfl, rfl⟩
        · skip
          refine r_iload_n (pc := 73) hC dX0_wrongOf_73 rfl ?_
          refine r_iconst (pc := 74) (v := 2) hC dX0_wrongOf_74 (by decide) ?_
          refine r_icmp_eq (pc := 75) (tgt := 80) hC dX0_wrongOf_75 (by decide) (fun bq75 => ?_) (fun bq75 => ?_)
          · skip
            refine r_aload_n (pc := 80) hC dX0_wrongOf_80 rfl ?_
            refine r_aload_n (pc := 81) hC dX0_wrongOf_81 rfl ?_
            refine g_Blind_rows (pc := 82) hC wi_X0_wrongOf_0 wl_X0_wrongOf_11 (by assumption) (c2 := 9) (by assumption) (by decide) dX0_wrongOf_82 ?_
            refine r_iload_n (pc := 85) hC dX0_wrongOf_85 rfl ?_
            refine r_aald_Row (pc := 86) hC k0 (xi_n (k := k) (by rw [l0]; omega) (by rw [l0]; decide)) (hrw k (by omega)).1 dX0_wrongOf_86 ?_
            refine k_X2_width (pc := 87) hC gX0_wrongOf_X2_width ⟨Nat.le_of_ble_eq_true rfl, Nat.le_of_ble_eq_true rfl⟩ (n := L) (hrw k (by omega)).1 (hrw k (by omega)).2.1 (hrw k (by omega)).2.2 hLr hL14 (Nat.le_of_ble_eq_true rfl) rfl ⟨Nat.zero_le _, Nat.zero_le _⟩ dX0_wrongOf_87 ?_
            rw [hLw]
            refine k_X0_squeezed (pc := 90) hC gX0_wrongOf_X0_squeezed ⟨Nat.le_of_ble_eq_true rfl, Nat.le_of_ble_eq_true rfl⟩ kb ⟨⟨k0, l0⟩, ⟨k3, l3⟩, ⟨k6, l6⟩, hrw, hrt⟩ ⟨b1, b2, b4, b5, b7, b8, b9, b10, bst, brw, brt⟩ ⟨hn20, hn, hq6, hq, hcur, hdr, h8, h9, h10, hrows⟩ (Nat.le_of_ble_eq_true rfl) rfl ⟨Nat.zero_le _, Nat.zero_le _⟩ dX0_wrongOf_90 ?_
            refine r_bipush (pc := 93) (v := 120) hC dX0_wrongOf_93 (by decide) ?_
            refine r_icmp_le (pc := 95) (tgt := 102) hC dX0_wrongOf_95 (by decide) (fun bq95 => ?_) (fun bq95 => ?_)
            · skip
              refine r_iconst (pc := 102) (v := 0) hC dX0_wrongOf_102 (by decide) ?_
              refine r_iret (pc := 103) hC hD rfl dX0_wrongOf_103 rfl ?_
              have hwr : wrC S (nI k) = sWrong S k := by rw [wrC, if_neg (by rw [hn, isR_nI hk (by omega)]; decide), hkc]
              have ht : ¬ S (13 + 17 * k) = 1 := by rw [hL3] at bq19; rw [bq19]; decide
              have hso : sOn S = true := by rw [sOn, hd3]; exact decide_eq_true (nI_pos' (by omega))
              have hsd : sDrv S = d := by rw [sDrv, hd3, nI_clamp (by omega)]
              have hr0 : I (P (P b 3) d) 0 = S (351 + 3 * d) := (brt d hd).1
              exact ⟨by rw [hwr, sWrong, if_neg ht, if_neg (fun w => by rw [hso] at w; cases w.1), if_neg (fun w => w.2.2 bq75), if_pos bq95], rfl, rfl, rfl⟩
            · skip
              refine r_iconst (pc := 98) (v := 5) hC dX0_wrongOf_98 (by decide) ?_
              refine r_goto (pc := 99) (tgt := 103) hC dX0_wrongOf_99 (by decide) ?_
              refine r_iret (pc := 103) hC hD rfl dX0_wrongOf_103 rfl ?_
              have hwr : wrC S (nI k) = sWrong S k := by rw [wrC, if_neg (by rw [hn, isR_nI hk (by omega)]; decide), hkc]
              have ht : ¬ S (13 + 17 * k) = 1 := by rw [hL3] at bq19; rw [bq19]; decide
              have hso : sOn S = true := by rw [sOn, hd3]; exact decide_eq_true (nI_pos' (by omega))
              have hsd : sDrv S = d := by rw [sDrv, hd3, nI_clamp (by omega)]
              have hr0 : I (P (P b 3) d) 0 = S (351 + 3 * d) := (brt d hd).1
              exact ⟨by rw [hwr, sWrong, if_neg ht, if_neg (fun w => by rw [hso] at w; cases w.1), if_neg (fun w => w.2.2 bq75), if_neg bq95], rfl, rfl, rfl⟩
          · skip
            refine r_iconst (pc := 78) (v := 4) hC dX0_wrongOf_78 (by decide) ?_
            refine r_iret (pc := 79) hC hD rfl dX0_wrongOf_79 rfl ?_
            have hwr : wrC S (nI k) = sWrong S k := by rw [wrC, if_neg (by rw [hn, isR_nI hk (by omega)]; decide), hkc]
            have ht : ¬ S (13 + 17 * k) = 1 := by rw [hL3] at bq19; rw [bq19]; decide
            have hso : sOn S = true := by rw [sOn, hd3]; exact decide_eq_true (nI_pos' (by omega))
            have hsd : sDrv S = d := by rw [sDrv, hd3, nI_clamp (by omega)]
            have hr0 : I (P (P b 3) d) 0 = S (351 + 3 * d) := (brt d hd).1
            have hon : S (351 + 3 * d) >>> (nI k &&& 31) &&& 1 = 0 := by rw [hr0] at bq70; exact (bit01 (S (351 + 3 * d)) (nI k &&& 31)).resolve_right (fun e => by rw [e] at bq70; exact absurd bq70 (by decide))
            exact ⟨by rw [hwr, sWrong, if_neg ht, if_neg (fun w => by rw [hso] at w; cases w.1), if_pos ⟨hso, by rw [hsd]; exact hon, bq75⟩], rfl, rfl, rfl⟩
      · skip
        refine r_iload_n (pc := 45) hC dX0_wrongOf_45 rfl ?_
        refine r_iconst (pc := 46) (v := 1) hC dX0_wrongOf_46 (by decide) ?_
        refine r_icmp_eq (pc := 47) (tgt := 80) hC dX0_wrongOf_47 (by decide) (fun bq47 => ?_) (fun bq47 => ?_)
        · skip
          refine r_aload_n (pc := 80) hC dX0_wrongOf_80 rfl ?_
          refine r_aload_n (pc := 81) hC dX0_wrongOf_81 rfl ?_
          refine g_Blind_rows (pc := 82) hC wi_X0_wrongOf_0 wl_X0_wrongOf_11 (by assumption) (c2 := 9) (by assumption) (by decide) dX0_wrongOf_82 ?_
          refine r_iload_n (pc := 85) hC dX0_wrongOf_85 rfl ?_
          refine r_aald_Row (pc := 86) hC k0 (xi_n (k := k) (by rw [l0]; omega) (by rw [l0]; decide)) (hrw k (by omega)).1 dX0_wrongOf_86 ?_
          refine k_X2_width (pc := 87) hC gX0_wrongOf_X2_width ⟨Nat.le_of_ble_eq_true rfl, Nat.le_of_ble_eq_true rfl⟩ (n := L) (hrw k (by omega)).1 (hrw k (by omega)).2.1 (hrw k (by omega)).2.2 hLr hL14 (Nat.le_of_ble_eq_true rfl) rfl ⟨Nat.zero_le _, Nat.zero_le _⟩ dX0_wrongOf_87 ?_
          rw [hLw]
          refine k_X0_squeezed (pc := 90) hC gX0_wrongOf_X0_squeezed ⟨Nat.le_of_ble_eq_true rfl, Nat.le_of_ble_eq_true rfl⟩ kb ⟨⟨k0, l0⟩, ⟨k3, l3⟩, ⟨k6, l6⟩, hrw, hrt⟩ ⟨b1, b2, b4, b5, b7, b8, b9, b10, bst, brw, brt⟩ ⟨hn20, hn, hq6, hq, hcur, hdr, h8, h9, h10, hrows⟩ (Nat.le_of_ble_eq_true rfl) rfl ⟨Nat.zero_le _, Nat.zero_le _⟩ dX0_wrongOf_90 ?_
          refine r_bipush (pc := 93) (v := 120) hC dX0_wrongOf_93 (by decide) ?_
          refine r_icmp_le (pc := 95) (tgt := 102) hC dX0_wrongOf_95 (by decide) (fun bq95 => ?_) (fun bq95 => ?_)
          · skip
            refine r_iconst (pc := 102) (v := 0) hC dX0_wrongOf_102 (by decide) ?_
            refine r_iret (pc := 103) hC hD rfl dX0_wrongOf_103 rfl ?_
            have hwr : wrC S (nI k) = sWrong S k := by rw [wrC, if_neg (by rw [hn, isR_nI hk (by omega)]; decide), hkc]
            have ht : ¬ S (13 + 17 * k) = 1 := by rw [hL3] at bq19; rw [bq19]; decide
            have hso : sOn S = false := by rw [sOn, hoff bq42]; decide
            exact ⟨by rw [hwr, sWrong, if_neg ht, if_neg (fun w => w.2.1 bq47), if_neg (show ¬ (sOn S = true ∧ S (351 + 3 * sDrv S) >>> (nI k &&& 31) &&& 1 = 0 ∧ sKind S k ≠ 2) from fun w => by rw [hso] at w; cases w.1), if_pos bq95], rfl, rfl, rfl⟩
          · skip
            refine r_iconst (pc := 98) (v := 5) hC dX0_wrongOf_98 (by decide) ?_
            refine r_goto (pc := 99) (tgt := 103) hC dX0_wrongOf_99 (by decide) ?_
            refine r_iret (pc := 103) hC hD rfl dX0_wrongOf_103 rfl ?_
            have hwr : wrC S (nI k) = sWrong S k := by rw [wrC, if_neg (by rw [hn, isR_nI hk (by omega)]; decide), hkc]
            have ht : ¬ S (13 + 17 * k) = 1 := by rw [hL3] at bq19; rw [bq19]; decide
            have hso : sOn S = false := by rw [sOn, hoff bq42]; decide
            exact ⟨by rw [hwr, sWrong, if_neg ht, if_neg (fun w => w.2.1 bq47), if_neg (show ¬ (sOn S = true ∧ S (351 + 3 * sDrv S) >>> (nI k &&& 31) &&& 1 = 0 ∧ sKind S k ≠ 2) from fun w => by rw [hso] at w; cases w.1), if_neg bq95], rfl, rfl, rfl⟩
        · skip
          refine r_iload_n (pc := 50) hC dX0_wrongOf_50 rfl ?_
          refine r_iconst (pc := 51) (v := 2) hC dX0_wrongOf_51 (by decide) ?_
          refine r_icmp_eq (pc := 52) (tgt := 80) hC dX0_wrongOf_52 (by decide) (fun bq52 => ?_) (fun bq52 => ?_)
          · skip
            refine r_aload_n (pc := 80) hC dX0_wrongOf_80 rfl ?_
            refine r_aload_n (pc := 81) hC dX0_wrongOf_81 rfl ?_
            refine g_Blind_rows (pc := 82) hC wi_X0_wrongOf_0 wl_X0_wrongOf_11 (by assumption) (c2 := 9) (by assumption) (by decide) dX0_wrongOf_82 ?_
            refine r_iload_n (pc := 85) hC dX0_wrongOf_85 rfl ?_
            refine r_aald_Row (pc := 86) hC k0 (xi_n (k := k) (by rw [l0]; omega) (by rw [l0]; decide)) (hrw k (by omega)).1 dX0_wrongOf_86 ?_
            refine k_X2_width (pc := 87) hC gX0_wrongOf_X2_width ⟨Nat.le_of_ble_eq_true rfl, Nat.le_of_ble_eq_true rfl⟩ (n := L) (hrw k (by omega)).1 (hrw k (by omega)).2.1 (hrw k (by omega)).2.2 hLr hL14 (Nat.le_of_ble_eq_true rfl) rfl ⟨Nat.zero_le _, Nat.zero_le _⟩ dX0_wrongOf_87 ?_
            rw [hLw]
            refine k_X0_squeezed (pc := 90) hC gX0_wrongOf_X0_squeezed ⟨Nat.le_of_ble_eq_true rfl, Nat.le_of_ble_eq_true rfl⟩ kb ⟨⟨k0, l0⟩, ⟨k3, l3⟩, ⟨k6, l6⟩, hrw, hrt⟩ ⟨b1, b2, b4, b5, b7, b8, b9, b10, bst, brw, brt⟩ ⟨hn20, hn, hq6, hq, hcur, hdr, h8, h9, h10, hrows⟩ (Nat.le_of_ble_eq_true rfl) rfl ⟨Nat.zero_le _, Nat.zero_le _⟩ dX0_wrongOf_90 ?_
            refine r_bipush (pc := 93) (v := 120) hC dX0_wrongOf_93 (by decide) ?_
            refine r_icmp_le (pc := 95) (tgt := 102) hC dX0_wrongOf_95 (by decide) (fun bq95 => ?_) (fun bq95 => ?_)
            · skip
              refine r_iconst (pc := 102) (v := 0) hC dX0_wrongOf_102 (by decide) ?_
              refine r_iret (pc := 103) hC hD rfl dX0_wrongOf_103 rfl ?_
              have hwr : wrC S (nI k) = sWrong S k := by rw [wrC, if_neg (by rw [hn, isR_nI hk (by omega)]; decide), hkc]
              have ht : ¬ S (13 + 17 * k) = 1 := by rw [hL3] at bq19; rw [bq19]; decide
              have hso : sOn S = false := by rw [sOn, hoff bq42]; decide
              exact ⟨by rw [hwr, sWrong, if_neg ht, if_neg (fun w => w.2.2 bq52), if_neg (show ¬ (sOn S = true ∧ S (351 + 3 * sDrv S) >>> (nI k &&& 31) &&& 1 = 0 ∧ sKind S k ≠ 2) from fun w => by rw [hso] at w; cases w.1), if_pos bq95], rfl, rfl, rfl⟩
            · skip
              refine r_iconst (pc := 98) (v := 5) hC dX0_wrongOf_98 (by decide) ?_
              refine r_goto (pc := 99) (tgt := 103) hC dX0_wrongOf_99 (by decide) ?_
              refine r_iret (pc := 103) hC hD rfl dX0_wrongOf_103 rfl ?_
              have hwr : wrC S (nI k) = sWrong S k := by rw [wrC, if_neg (by rw [hn, isR_nI hk (by omega)]; decide), hkc]
              have ht : ¬ S (13 + 17 * k) = 1 := by rw [hL3] at bq19; rw [bq19]; decide
              have hso : sOn S = false := by rw [sOn, hoff bq42]; decide
              exact ⟨by rw [hwr, sWrong, if_neg ht, if_neg (fun w => w.2.2 bq52), if_neg (show ¬ (sOn S = true ∧ S (351 + 3 * sDrv S) >>> (nI k &&& 31) &&& 1 = 0 ∧ sKind S k ≠ 2) from fun w => by rw [hso] at w; cases w.1), if_neg bq95], rfl, rfl, rfl⟩
          · skip
            refine r_iconst (pc := 55) (v := 3) hC dX0_wrongOf_55 (by decide) ?_
            refine r_iret (pc := 56) hC hD rfl dX0_wrongOf_56 rfl ?_
            have hwr : wrC S (nI k) = sWrong S k := by rw [wrC, if_neg (by rw [hn, isR_nI hk (by omega)]; decide), hkc]
            have ht : ¬ S (13 + 17 * k) = 1 := by rw [hL3] at bq19; rw [bq19]; decide
            have hso : sOn S = false := by rw [sOn, hoff bq42]; decide
            exact ⟨by rw [hwr, sWrong, if_neg ht, if_pos ⟨hso, bq47, bq52⟩], rfl, rfl, rfl⟩
    · skip
      refine r_iconst (pc := 22) (v := 2) hC dX0_wrongOf_22 (by decide) ?_
      refine r_iret (pc := 23) hC hD rfl dX0_wrongOf_23 rfl ?_
      have hwr : wrC S (nI k) = sWrong S k := by rw [wrC, if_neg (by rw [hn, isR_nI hk (by omega)]; decide), hkc]
      exact ⟨by rw [hwr, sWrong, if_pos (by rw [hL3] at bq19; exact hL01.resolve_left bq19)], rfl, rfl, rfl⟩
  · skip
    refine r_iconst (pc := 8) (v := 1) hC dX0_wrongOf_8 (by decide) ?_
    refine r_iret (pc := 9) hC hD rfl dX0_wrongOf_9 rfl ?_
    exact ⟨by rw [wrC, if_pos (show isR r (S 0) = 0 from by rw [← b1]; exact bq5)], rfl, rfl, rfl⟩
theorem k_X0_wrongOf {X : xF} {G : xG} {cs : Nat × Nat} {μ : xM} {I : xI} {P : xP} {L : List (Option Value)} {pc : Nat} {rest : List Value} {cc : ByteArray} {Ts : List Cond} {own : String} {nL : Nat} {R : Room} (hC : xC X G cc Ts own nL R) {index : Nat} (hG : GoodIn Ts (wsV own index RX0 yX0_wrongOf wsX0_wrongOf)) (hR : rm_X0_wrongOf.frames + 1 ≤ R.frames ∧ 8 + (3 + 11) + rm_X0_wrongOf.locals ≤ R.locals) {b n rq : Nat} {S : Nat → Int32} {r : Int32} (kb : μ.2.1 b = 1) (hA : bA μ P b) (hB : bR I P b S n rq) (hinv : invN S n rq) (hW : (rest.map fun v => v.category).sum ≤ 8) (hL : L.length = nL) (hcs : cs.1 ≤ R.cells ∧ cs.2 ≤ R.slots) (hdec : decode cc pc = .ok (.invokevirtual index, 3)) (kk : xg X G cs μ I P L (pc + 3) (.int (wrC S r) :: rest)) : xg X G cs μ I P L pc (.int r :: .ref (xZ G + b) :: rest) :=
  r_callV hC (c_X0_wrongOf X.2.1 kb hA hB hinv) hG rfl rfl rfl hd_X0_wrongOf hR (by rw [kb]; decide) (xe_Blind kb) rfl rfl rfl hW hL hcs hdec (by rintro v μ' I' P' ⟨rfl, rfl, rfl, rfl⟩; exact kk)
abbrev rm_X0_nearestRight : Room := { frames := 7, cells := 0, slots := 0, locals := 149 }
theorem wl_X0_nearestRight_50 : Cond.fieldLink RX0 50 "HandBlinds$Blind" "rowCount" "I" ∈ wsX0_nearestRight := List.mem_of_getElem? (i := 1) (by decide +kernel)
theorem wi_X0_nearestRight_0 : ∀ w ∈ wsX00, w ∈ wsX0_nearestRight := fun _ h => List.mem_cons_of_mem _ (List.mem_append_left _ (List.mem_append_left _ (List.mem_append_right _ h)))
theorem wl_X0_nearestRight_53 : Cond.fieldLink RX0 53 "HandBlinds$Blind" "shown" "I" ∈ wsX0_nearestRight := List.mem_of_getElem? (i := 2) (by decide +kernel)
theorem wl_X0_nearestRight_100 : Cond.methodLink RX0 100 Lib.Math.abs.name ∈ wsX0_nearestRight := List.mem_of_getElem? (i := 3) (by decide +kernel)
theorem wa_X0_nearestRight_1 : Cond.static Lib.Math.abs.name ∈ wsX0_nearestRight := List.mem_of_getElem? (i := 4) (by decide +kernel)
theorem wa_X0_nearestRight_2 : Cond.initialized "java/lang/Math" ∈ wsX0_nearestRight := List.mem_of_getElem? (i := 5) (by decide +kernel)
theorem wa_X0_nearestRight_3 : Cond.code Lib.Math.abs.name Lib.Math.abs.code 1 (some .int) ∈ wsX0_nearestRight := List.mem_of_getElem? (i := 6) (by decide +kernel)
theorem hd_X0_nearestRight : yX0_nearestRight.cls = RX0 ∧ yX0_nearestRight.cls ≠ "java/lang/invoke/MethodHandle" ∧ yX0_nearestRight.cls ≠ "java/lang/invoke/VarHandle" ∧ (parseMethodDescriptor yX0_nearestRight.desc).map (fun d => d.parameters.length) = some 0 := ⟨rfl, by decide +kernel, by decide +kernel, by decide +kernel⟩
set_option maxHeartbeats 4000000 in
set_option maxRecDepth 100000 in
theorem c_X0_nearestRight (l : Launch) {G : xG} {μ : xM} {I : xI} {P : xP} {b n rq : Nat} {S : Nat → Int32} {a : Nat} (kb : μ.2.1 b = 1) (hA : bA μ P b) (hB : bR I P b S n rq) (hinv : invN S n rq) (ha : S 1 = nI a ∨ (n = 0 ∧ a = 0)) (ha20 : a < 20) : Ct l yX0_nearestRight wsX0_nearestRight rm_X0_nearestRight G μ I P [.ref (xZ G + b)] 0 0 (fun vv μ' I' P' => vv = some (.int (oI (nrC S a n))) ∧ μ' = μ ∧ I' = (I) ∧ P' = (P)) := by
  obtain ⟨⟨k0, l0⟩, ⟨k3, l3⟩, ⟨k6, l6⟩, hrw, hrt⟩ := hA
  have hrowf := fun {i : Nat} (hi : i < n) => bRow hB hinv hi
  obtain ⟨b1, b2, b4, b5, b7, b8, b9, b10, bst, brw, brt⟩ := hB
  obtain ⟨hn20, hn, hq6, hq, hcur, hdr, h8, h9, h10, hrows⟩ := hinv
  have b1n : I b 1 = nI n := b1.trans hn
  have b4q : I b 4 = nI rq := b4.trans hq
  have b2a : 1 ≤ n → I b 2 = nI a := fun h => by rw [b2, ha.resolve_right (by omega), if_neg (nI_pos (by omega))]
  have hbk : ∀ k c, nrC S a k = some c → c < k := fun k c h => nrC_lt h
  refine Ct.of (cc := cX0_nearestRight) (maxL := 4) (ret := (some .int)) [some (.ref (xZ G + b)), none, none, none] (by decide) rfl rfl rfl (Nat.le_of_ble_eq_true rfl) ?_
  intro X hC hD h0 _
  have loop : ∀ (q k : Nat), k + q = n → ∀ z : Option Value, xg X G (0, 0) μ I P [some (.ref (xZ G + b)), some (.int (oI (nrC S a k))), some (.int (nI k)), z] 4 [] := by
    intro q
    induction q with
    | zero =>
      intro k hk z
      have ek : k = n := by omega
      subst ek
      refine r_iload_n (pc := 4) hC dX0_nearestRight_4 rfl ?_
      refine r_aload_n (pc := 5) hC dX0_nearestRight_5 rfl ?_
      refine g_Blind_rowCount (pc := 6) hC wi_X0_nearestRight_0 wl_X0_nearestRight_50 (by assumption) dX0_nearestRight_6 ?_
      refine r_icmp_ge (pc := 9) (tgt := 64) hC dX0_nearestRight_9 (by decide) (fun bq9 => ?_) (fun bq9 => ?_)
      · skip
        refine r_iload_n (pc := 64) hC dX0_nearestRight_64 rfl ?_
        refine r_iret (pc := 65) hC hD rfl dX0_nearestRight_65 rfl ?_
        exact ⟨rfl, rfl, rfl, rfl⟩
      · skip
        rw [b1n] at bq9; exact absurd (nI_le (by omega) (by omega)) bq9
    | succ q ih =>
      intro k hk z
      refine r_iload_n (pc := 4) hC dX0_nearestRight_4 rfl ?_
      refine r_aload_n (pc := 5) hC dX0_nearestRight_5 rfl ?_
      refine g_Blind_rowCount (pc := 6) hC wi_X0_nearestRight_0 wl_X0_nearestRight_50 (by assumption) dX0_nearestRight_6 ?_
      refine r_icmp_ge (pc := 9) (tgt := 64) hC dX0_nearestRight_9 (by decide) (fun bq9 => ?_) (fun bq9 => ?_)
      · skip
        rw [b1n] at bq9; exact absurd bq9 (nI_ge (by omega) (by omega))
      · skip
        refine r_iload_n (pc := 12) hC dX0_nearestRight_12 rfl ?_
        refine r_iconst (pc := 13) (v := -1) hC dX0_nearestRight_13 (by decide) ?_
        refine r_icmp_eq (pc := 14) (tgt := 38) hC dX0_nearestRight_14 (by decide) (fun bq14 => ?_) (fun bq14 => ?_)
        · skip
          have ho : nrC S a k = none := (oI_neg (fun c h => by have := hbk k c h; omega)).mp bq14
          refine r_iconst (pc := 38) (v := 1) hC dX0_nearestRight_38 (by decide) ?_
          refine r_goto (pc := 39) (tgt := 43) hC dX0_nearestRight_39 (by decide) ?_
          refine r_istore_n (pc := 43) (L' := [_, _, _, _]) hC dX0_nearestRight_43 rfl (Nat.le_of_ble_eq_true rfl) rfl ?_
          refine r_iload_n (pc := 44) hC dX0_nearestRight_44 rfl ?_
          refine r_if_eq (pc := 45) (tgt := 58) hC dX0_nearestRight_45 (by decide) (fun bq45 => ?_) (fun bq45 => ?_)
          · skip
            exact absurd bq45 (by decide)
          · skip
            refine r_aload_n (pc := 48) hC dX0_nearestRight_48 rfl ?_
            refine r_iload_n (pc := 49) hC dX0_nearestRight_49 rfl ?_
            refine k_X0_wrongOf (pc := 50) hC gX0_nearestRight_X0_wrongOf ⟨Nat.le_of_ble_eq_true rfl, Nat.le_of_ble_eq_true rfl⟩ kb ⟨⟨k0, l0⟩, ⟨k3, l3⟩, ⟨k6, l6⟩, hrw, hrt⟩ ⟨b1, b2, b4, b5, b7, b8, b9, b10, bst, brw, brt⟩ ⟨hn20, hn, hq6, hq, hcur, hdr, h8, h9, h10, hrows⟩ (Nat.le_of_ble_eq_true rfl) rfl ⟨Nat.zero_le _, Nat.zero_le _⟩ dX0_nearestRight_50 ?_
            rw [show wrC S (nI k) = sWrong S k from by rw [wrC, if_neg (by rw [hn, isR_nI (show k < n by omega) (by omega)]; decide), nI_clamp (by omega)]]
            refine r_if_ne (pc := 53) (tgt := 58) hC dX0_nearestRight_53 (by decide) (fun bq53 => ?_) (fun bq53 => ?_)
            · skip
              refine r_iinc (pc := 58) (v := 1) (L' := [_, _, _, _]) hC dX0_nearestRight_58 rfl (by decide) rfl rfl ?_
              refine r_goto (pc := 61) (tgt := 4) hC dX0_nearestRight_61 (by decide) ?_
              have hnr : nrB a k (nrC S a k) = true := by
                rw [ho]; rfl
              have e : nrC S a (k + 1) = nrC S a k := by rw [nrC, if_neg (fun w => bq53 w.2)]
              have z := ih (k + 1) (by omega) (some (.int 1))
              rw [e] at z
              skip
              rw [nI_1]; exact z
            · skip
              refine r_iload_n (pc := 56) hC dX0_nearestRight_56 rfl ?_
              refine r_istore_n (pc := 57) (L' := [_, _, _, _]) hC dX0_nearestRight_57 rfl (Nat.le_of_ble_eq_true rfl) rfl ?_
              refine r_iinc (pc := 58) (v := 1) (L' := [_, _, _, _]) hC dX0_nearestRight_58 rfl (by decide) rfl rfl ?_
              refine r_goto (pc := 61) (tgt := 4) hC dX0_nearestRight_61 (by decide) ?_
              have hnr : nrB a k (nrC S a k) = true := by
                rw [ho]; rfl
              have e : nrC S a (k + 1) = some k := by rw [nrC, if_pos ⟨hnr, bq53⟩]
              have z := ih (k + 1) (by omega) (some (.int 1))
              rw [e] at z
              skip
              rw [nI_1]; exact z
        · skip
          have hcx : ∃ c, nrC S a k = some c := by
            cases h : nrC S a k with
            | none => rw [h] at bq14; exact absurd rfl bq14
            | some c => exact ⟨c, rfl⟩
          obtain ⟨c, hc⟩ := hcx
          have hck := hbk k c hc
          have hcI : oI (nrC S a k) = nI c := by rw [hc]; rfl
          refine r_iload_n (pc := 17) hC dX0_nearestRight_17 rfl ?_
          refine r_aload_n (pc := 18) hC dX0_nearestRight_18 rfl ?_
          refine g_Blind_shown (pc := 19) hC wi_X0_nearestRight_0 wl_X0_nearestRight_53 (by assumption) dX0_nearestRight_19 ?_
          refine r_isub (pc := 22) hC dX0_nearestRight_22 ?_
          rw [b2a (by omega)]
          refine r_mabs (pc := 23) hC wl_X0_nearestRight_100 wa_X0_nearestRight_1 wa_X0_nearestRight_2 wa_X0_nearestRight_3 ⟨Nat.le_of_ble_eq_true rfl, Nat.le_of_ble_eq_true rfl⟩ (Nat.le_of_ble_eq_true rfl) rfl ⟨Nat.zero_le _, Nat.zero_le _⟩ dX0_nearestRight_23 ?_
          rw [absd (by omega) (by omega)]
          refine r_iload_n (pc := 26) hC dX0_nearestRight_26 rfl ?_
          refine r_aload_n (pc := 27) hC dX0_nearestRight_27 rfl ?_
          refine g_Blind_shown (pc := 28) hC wi_X0_nearestRight_0 wl_X0_nearestRight_53 (by assumption) dX0_nearestRight_28 ?_
          refine r_isub (pc := 31) hC dX0_nearestRight_31 ?_
          rw [hcI, b2a (by omega)]
          refine r_mabs (pc := 32) hC wl_X0_nearestRight_100 wa_X0_nearestRight_1 wa_X0_nearestRight_2 wa_X0_nearestRight_3 ⟨Nat.le_of_ble_eq_true rfl, Nat.le_of_ble_eq_true rfl⟩ (Nat.le_of_ble_eq_true rfl) rfl ⟨Nat.zero_le _, Nat.zero_le _⟩ dX0_nearestRight_32 ?_
          rw [absd (by omega) (by omega)]
          refine r_icmp_gt (pc := 35) (tgt := 42) hC dX0_nearestRight_35 (by decide) (fun bq35 => ?_) (fun bq35 => ?_)
          · skip
            refine r_iconst (pc := 42) (v := 0) hC dX0_nearestRight_42 (by decide) ?_
            refine r_istore_n (pc := 43) (L' := [_, _, _, _]) hC dX0_nearestRight_43 rfl (Nat.le_of_ble_eq_true rfl) rfl ?_
            refine r_iload_n (pc := 44) hC dX0_nearestRight_44 rfl ?_
            refine r_if_eq (pc := 45) (tgt := 58) hC dX0_nearestRight_45 (by decide) (fun bq45 => ?_) (fun bq45 => ?_)
            · skip
              refine r_iinc (pc := 58) (v := 1) (L' := [_, _, _, _]) hC dX0_nearestRight_58 rfl (by decide) rfl rfl ?_
              refine r_goto (pc := 61) (tgt := 4) hC dX0_nearestRight_61 (by decide) ?_
              have hnr : ¬ nrB a k (nrC S a k) = true := by
                rw [hc]
                exact fun w => bq35 |> nI_nlt (of_decide_eq_true w) (by unfold dst; split <;> omega)
              have e : nrC S a (k + 1) = nrC S a k := by rw [nrC, if_neg (fun w => hnr w.1)]
              have z := ih (k + 1) (by omega) (some (.int 0))
              rw [e] at z
              rw [hcI] at z
              rw [nI_1]; exact z
            · skip
              exact absurd rfl bq45
          · skip
            skip
            refine r_iconst (pc := 38) (v := 1) hC dX0_nearestRight_38 (by decide) ?_
            refine r_goto (pc := 39) (tgt := 43) hC dX0_nearestRight_39 (by decide) ?_
            refine r_istore_n (pc := 43) (L' := [_, _, _, _]) hC dX0_nearestRight_43 rfl (Nat.le_of_ble_eq_true rfl) rfl ?_
            refine r_iload_n (pc := 44) hC dX0_nearestRight_44 rfl ?_
            refine r_if_eq (pc := 45) (tgt := 58) hC dX0_nearestRight_45 (by decide) (fun bq45 => ?_) (fun bq45 => ?_)
            · skip
              exact absurd bq45 (by decide)
            · skip
              refine r_aload_n (pc := 48) hC dX0_nearestRight_48 rfl ?_
              refine r_iload_n (pc := 49) hC dX0_nearestRight_49 rfl ?_
              refine k_X0_wrongOf (pc := 50) hC gX0_nearestRight_X0_wrongOf ⟨Nat.le_of_ble_eq_true rfl, Nat.le_of_ble_eq_true rfl⟩ kb ⟨⟨k0, l0⟩, ⟨k3, l3⟩, ⟨k6, l6⟩, hrw, hrt⟩ ⟨b1, b2, b4, b5, b7, b8, b9, b10, bst, brw, brt⟩ ⟨hn20, hn, hq6, hq, hcur, hdr, h8, h9, h10, hrows⟩ (Nat.le_of_ble_eq_true rfl) rfl ⟨Nat.zero_le _, Nat.zero_le _⟩ dX0_nearestRight_50 ?_
              rw [show wrC S (nI k) = sWrong S k from by rw [wrC, if_neg (by rw [hn, isR_nI (show k < n by omega) (by omega)]; decide), nI_clamp (by omega)]]
              refine r_if_ne (pc := 53) (tgt := 58) hC dX0_nearestRight_53 (by decide) (fun bq53 => ?_) (fun bq53 => ?_)
              · skip
                refine r_iinc (pc := 58) (v := 1) (L' := [_, _, _, _]) hC dX0_nearestRight_58 rfl (by decide) rfl rfl ?_
                refine r_goto (pc := 61) (tgt := 4) hC dX0_nearestRight_61 (by decide) ?_
                have hnr : nrB a k (nrC S a k) = true := by
                  rw [hc]
                  exact decide_eq_true ((nI_leI (by unfold dst; split <;> omega) (by unfold dst; split <;> omega)).mp (Int32.not_lt.mp bq35))
                have e : nrC S a (k + 1) = nrC S a k := by rw [nrC, if_neg (fun w => bq53 w.2)]
                have z := ih (k + 1) (by omega) (some (.int 1))
                rw [e] at z
                rw [hcI] at z
                rw [nI_1]; exact z
              · skip
                refine r_iload_n (pc := 56) hC dX0_nearestRight_56 rfl ?_
                refine r_istore_n (pc := 57) (L' := [_, _, _, _]) hC dX0_nearestRight_57 rfl (Nat.le_of_ble_eq_true rfl) rfl ?_
                refine r_iinc (pc := 58) (v := 1) (L' := [_, _, _, _]) hC dX0_nearestRight_58 rfl (by decide) rfl rfl ?_
                refine r_goto (pc := 61) (tgt := 4) hC dX0_nearestRight_61 (by decide) ?_
                have hnr : nrB a k (nrC S a k) = true := by
                  rw [hc]
                  exact decide_eq_true ((nI_leI (by unfold dst; split <;> omega) (by unfold dst; split <;> omega)).mp (Int32.not_lt.mp bq35))
                have e : nrC S a (k + 1) = some k := by rw [nrC, if_pos ⟨hnr, bq53⟩]
                have z := ih (k + 1) (by omega) (some (.int 1))
                rw [e] at z
                skip
                rw [nI_1]; exact z
  refine r_iconst (pc := 0) (v := -1) hC dX0_nearestRight_0 (by decide) ?_
  refine r_istore_n (pc := 1) (L' := [_, _, _, _]) hC dX0_nearestRight_1 rfl (Nat.le_of_ble_eq_true rfl) rfl ?_
  refine r_iconst (pc := 2) (v := 0) hC dX0_nearestRight_2 (by decide) ?_
  refine r_istore_n (pc := 3) (L' := [_, _, _, _]) hC dX0_nearestRight_3 rfl (Nat.le_of_ble_eq_true rfl) rfl ?_
  exact loop n 0 (by omega) none
theorem k_X0_nearestRight {X : xF} {G : xG} {cs : Nat × Nat} {μ : xM} {I : xI} {P : xP} {L : List (Option Value)} {pc : Nat} {rest : List Value} {cc : ByteArray} {Ts : List Cond} {own : String} {nL : Nat} {R : Room} (hC : xC X G cc Ts own nL R) {index : Nat} (hG : GoodIn Ts (wsV own index RX0 yX0_nearestRight wsX0_nearestRight)) (hR : rm_X0_nearestRight.frames + 1 ≤ R.frames ∧ 8 + (4 + 11) + rm_X0_nearestRight.locals ≤ R.locals) {b n rq : Nat} {S : Nat → Int32} {a : Nat} (kb : μ.2.1 b = 1) (hA : bA μ P b) (hB : bR I P b S n rq) (hinv : invN S n rq) (ha : S 1 = nI a ∨ (n = 0 ∧ a = 0)) (ha20 : a < 20) (hW : (rest.map fun v => v.category).sum ≤ 8) (hL : L.length = nL) (hcs : cs.1 ≤ R.cells ∧ cs.2 ≤ R.slots) (hdec : decode cc pc = .ok (.invokevirtual index, 3)) (kk : xg X G cs μ I P L (pc + 3) (.int (oI (nrC S a n)) :: rest)) : xg X G cs μ I P L pc (.ref (xZ G + b) :: rest) :=
  r_callV hC (c_X0_nearestRight X.2.1 kb hA hB hinv ha ha20) hG rfl rfl rfl hd_X0_nearestRight hR (by rw [kb]; decide) (xe_Blind kb) rfl rfl rfl hW hL hcs hdec (by rintro v μ' I' P' ⟨rfl, rfl, rfl, rfl⟩; exact kk)
abbrev rm_X0_legible : Room := { frames := 2, cells := 0, slots := 0, locals := 42 }
theorem wl_X0_legible_146 : Cond.fieldLink RX0 146 "HandBlinds$Row" "length" "I" ∈ wsX0_legible := List.mem_of_getElem? (i := 2) (by decide +kernel)
theorem wi_X0_legible_2 : ∀ w ∈ wsX20, w ∈ wsX0_legible := fun _ h => List.mem_cons_of_mem _ (List.mem_append_left _ (List.mem_append_right _ h))
theorem wl_X0_legible_149 : Cond.fieldLink RX0 149 "HandBlinds$Row" "letters" "[C" ∈ wsX0_legible := List.mem_of_getElem? (i := 3) (by decide +kernel)
theorem wn_X0_legible_ini : Cond.initialized RX4 ∈ wsX0_legible := List.mem_of_getElem? (i := 13) (by decide +kernel)
theorem wn_X0_legible_sta : Cond.static yX4_letterWidth ∈ wsX0_legible := List.mem_of_getElem? (i := 12) (by decide +kernel)
theorem wl_X0_legible_25 : Cond.fieldLink RX0 25 "HandBlinds$Blind" "settings" "[I" ∈ wsX0_legible := List.mem_of_getElem? (i := 4) (by decide +kernel)
theorem wi_X0_legible_0 : ∀ w ∈ wsX00, w ∈ wsX0_legible := fun _ h => List.mem_cons_of_mem _ (List.mem_append_right _ h)
theorem wl_X0_legible_92 : Cond.fieldLink RX0 92 "HandBlinds$Row" "torn" "Z" ∈ wsX0_legible := List.mem_of_getElem? (i := 1) (by decide +kernel)
theorem hd_X0_legible : yX0_legible.cls = RX0 ∧ yX0_legible.cls ≠ "java/lang/invoke/MethodHandle" ∧ yX0_legible.cls ≠ "java/lang/invoke/VarHandle" ∧ (parseMethodDescriptor yX0_legible.desc).map (fun d => d.parameters.length) = some 2 := ⟨rfl, by decide +kernel, by decide +kernel, by decide +kernel⟩
set_option maxHeartbeats 4000000 in
set_option maxRecDepth 100000 in
theorem c_X0_legible (l : Launch) {G : xG} {μ : xM} {I : xI} {P : xP} {b n rq : Nat} {S : Nat → Int32} {a : Nat} {d : Int32} (kb : μ.2.1 b = 1) (hA : bA μ P b) (hB : bR I P b S n rq) (hinv : invN S n rq) (han : a < n) : Ct l yX0_legible wsX0_legible rm_X0_legible G μ I P [.ref (xZ G + b), .ref (xZ G + P (P b 0) a), .int d] 0 0 (fun vv μ' I' P' => vv = some (.int (if S (13 + 17 * a) = 1 then 0 else rcount (seen S a d) (sLet S a) (sLen S a))) ∧ μ' = μ ∧ I' = (I) ∧ P' = (P)) := by
  obtain ⟨⟨k0, l0⟩, ⟨k3, l3⟩, ⟨k6, l6⟩, hrw, hrt⟩ := hA
  have hrowf := fun {i : Nat} (hi : i < n) => bRow hB hinv hi
  obtain ⟨b1, b2, b4, b5, b7, b8, b9, b10, bst, brw, brt⟩ := hB
  obtain ⟨hn20, hn, hq6, hq, hcur, hdr, h8, h9, h10, hrows⟩ := hinv
  have b1n : I b 1 = nI n := b1.trans hn
  have b4q : I b 4 = nI rq := b4.trans hq
  obtain ⟨L, hL1, hL14, hLr, hLs, hLl, hLw, hLk, hLc, hL2, hL3, hL01⟩ := hrowf (i := a) (by omega)
  have hrwa := hrw a (by omega)
  obtain ⟨B, hB4, hB60, hBe⟩ := nI_btw (lo := 4) (hi := 60) h8.1 h8.2 (by decide) (by decide)
  obtain ⟨w, hw1, hw2, hw3⟩ := wsum_cases (I (P (P (P b 0) a) 0)) L
  rw [hLw] at hw3
  obtain ⟨pc, hp1, hp2, hp3⟩ := sq_cases (w := w) hB4 hB60 (by omega)
  rw [← hw3, ← hBe] at hp3
  refine Ct.of (cc := cX0_legible) (maxL := 7) (ret := (some .int)) [some (.ref (xZ G + b)), some (.ref (xZ G + P (P b 0) a)), some (.int d), none, none, none, none] (by decide) rfl rfl rfl (Nat.le_of_ble_eq_true rfl) ?_
  intro X hC hD h0 _
  have loop : ∀ (q k : Nat), k + q = L → ∀ z : Option Value, ¬ S (13 + 17 * a) = 1 → xg X G (0, 0) μ I P [some (.ref (xZ G + b)), some (.ref (xZ G + P (P b 0) a)), some (.int d), some (.int (sq (S 8) (sWid S a))), some (.int (rcount (seen S a d) (sLet S a) k)), some (.int (nI k)), z] 29 [] := by
    intro q
    induction q with
    | zero =>
      intro k hk z hnt
      have ek : k = L := by omega
      subst ek
      refine r_iload (pc := 29) hC dX0_legible_29 rfl ?_
      refine r_aload_n (pc := 31) hC dX0_legible_31 rfl ?_
      refine g_Row_length (pc := 32) hC wi_X0_legible_2 wl_X0_legible_146 hrwa.1 dX0_legible_32 ?_
      refine r_icmp_ge (pc := 35) (tgt := 89) hC dX0_legible_35 (by decide) (fun bq35 => ?_) (fun bq35 => ?_)
      · skip
        refine r_iload (pc := 89) hC dX0_legible_89 rfl ?_
        refine r_iret (pc := 91) hC hD rfl dX0_legible_91 rfl ?_
        exact ⟨by rw [if_neg hnt, hLl], rfl, rfl, rfl⟩
      · skip
        rw [hLr] at bq35; exact absurd (nI_le (by omega) (by omega)) bq35
    | succ q ih =>
      intro k hk z hnt
      refine r_iload (pc := 29) hC dX0_legible_29 rfl ?_
      refine r_aload_n (pc := 31) hC dX0_legible_31 rfl ?_
      refine g_Row_length (pc := 32) hC wi_X0_legible_2 wl_X0_legible_146 hrwa.1 dX0_legible_32 ?_
      refine r_icmp_ge (pc := 35) (tgt := 89) hC dX0_legible_35 (by decide) (fun bq35 => ?_) (fun bq35 => ?_)
      · skip
        rw [hLr] at bq35; exact absurd bq35 (nI_ge (by omega) (by omega))
      · skip
        refine r_aload_n (pc := 38) hC dX0_legible_38 rfl ?_
        refine g_Row_letters (pc := 39) hC wi_X0_legible_2 wl_X0_legible_149 hrwa.1 (c2 := 8) hrwa.2.1 (by decide) dX0_legible_39 ?_
        refine r_iload (pc := 42) hC dX0_legible_42 rfl ?_
        refine r_cald (pc := 44) hC hrwa.2.1 (xi_n (by rw [hrwa.2.2]; omega) (by rw [hrwa.2.2]; decide)) dX0_legible_44 ?_
        refine k_X4_letterWidth_n (pc := 45) hC (fun q => q.2.2.2.2.1) wn_X0_legible_ini wn_X0_legible_sta gX0_legible_X4_letterWidth_n153 ⟨Nat.le_of_ble_eq_true rfl, Nat.le_of_ble_eq_true rfl⟩  (Nat.le_of_ble_eq_true rfl) rfl ⟨Nat.zero_le _, Nat.zero_le _⟩ dX0_legible_45 ?_
        refine r_aload_n (pc := 48) hC dX0_legible_48 rfl ?_
        refine g_Blind_settings (pc := 49) hC wi_X0_legible_0 wl_X0_legible_25 (by assumption) (c2 := 7) (by assumption) (by decide) dX0_legible_49 ?_
        refine r_iconst (pc := 52) (v := 2) hC dX0_legible_52 (by decide) ?_
        refine r_iald (pc := 53) hC k6 (xi_l (k := 2) l6 (by decide) (by decide) (by decide)) dX0_legible_53 ?_
        rw [show I (P b 6) 2 = S 10 from bst 2 (by decide)]
        refine r_imul (pc := 54) hC dX0_legible_54 ?_
        refine r_bipush (pc := 55) (v := 100) hC dX0_legible_55 (by decide) ?_
        refine r_imul (pc := 57) hC dX0_legible_57 ?_
        refine r_iload_n (pc := 58) hC dX0_legible_58 rfl ?_
        refine r_idiv (pc := 59) hC dX0_legible_59 (by rw [hp3]; exact fun e => by have := (nI_eq (b := 0) (by omega) (by decide)).mp e; omega) ?_
        refine r_istore (pc := 60) (L' := [_, _, _, _, _, _, _]) hC dX0_legible_60 rfl (Nat.le_of_ble_eq_true rfl) rfl ?_
        refine r_aload_n (pc := 62) hC dX0_legible_62 rfl ?_
        refine g_Row_letters (pc := 63) hC wi_X0_legible_2 wl_X0_legible_149 hrwa.1 (c2 := 8) hrwa.2.1 (by decide) dX0_legible_63 ?_
        refine r_iload (pc := 66) hC dX0_legible_66 rfl ?_
        refine r_cald (pc := 68) hC hrwa.2.1 (xi_n (by rw [hrwa.2.2]; omega) (by rw [hrwa.2.2]; decide)) dX0_legible_68 ?_
        refine r_bipush (pc := 69) (v := 32) hC dX0_legible_69 (by decide) ?_
        refine r_icmp_eq (pc := 71) (tgt := 80) hC dX0_legible_71 (by decide) (fun bq71 => ?_) (fun bq71 => ?_)
        · skip
          refine r_iinc (pc := 80) (v := 1) (L' := [_, _, _, _, _, _, _]) hC dX0_legible_80 rfl (by decide) rfl rfl ?_
          refine r_iinc (pc := 83) (v := 1) (L' := [_, _, _, _, _, _, _]) hC dX0_legible_83 rfl (by decide) rfl rfl ?_
          refine r_goto (pc := 86) (tgt := 29) hC dX0_legible_86 (by decide) ?_
          have e : rcount (seen S a d) (sLet S a) (k + 1) = rcount (seen S a d) (sLet S a) k + 1 := by
            have e1 : seen S a d (sLet S a k) = true := by rw [← hLc k (by omega)]; simp [seen, bq71]
            rw [rcount, e1]; rfl
          have z := fun zz => ih (k + 1) (by omega) zz hnt
          simp only [e] at z
          rw [nI_1]; exact z _
        · skip
          refine r_iload (pc := 74) hC dX0_legible_74 rfl ?_
          refine r_iload_n (pc := 76) hC dX0_legible_76 rfl ?_
          refine r_icmp_lt (pc := 77) (tgt := 83) hC dX0_legible_77 (by decide) (fun bq77 => ?_) (fun bq77 => ?_)
          · skip
            refine r_iinc (pc := 83) (v := 1) (L' := [_, _, _, _, _, _, _]) hC dX0_legible_83 rfl (by decide) rfl rfl ?_
            refine r_goto (pc := 86) (tgt := 29) hC dX0_legible_86 (by decide) ?_
            have e : rcount (seen S a d) (sLet S a) (k + 1) = rcount (seen S a d) (sLet S a) k := by
              have e1 : seen S a d (sLet S a k) = false := by rw [← hLc k (by omega)]; simp [seen, bq71, Int32.not_le.mpr bq77]
              rw [rcount, e1]; exact Int32.add_zero _
            have z := fun zz => ih (k + 1) (by omega) zz hnt
            simp only [e] at z
            rw [nI_1]; exact z _
          · skip
            refine r_iinc (pc := 80) (v := 1) (L' := [_, _, _, _, _, _, _]) hC dX0_legible_80 rfl (by decide) rfl rfl ?_
            refine r_iinc (pc := 83) (v := 1) (L' := [_, _, _, _, _, _, _]) hC dX0_legible_83 rfl (by decide) rfl rfl ?_
            refine r_goto (pc := 86) (tgt := 29) hC dX0_legible_86 (by decide) ?_
            have e : rcount (seen S a d) (sLet S a) (k + 1) = rcount (seen S a d) (sLet S a) k + 1 := by
              have e1 : seen S a d (sLet S a k) = true := by rw [← hLc k (by omega)]; simp [seen, Int32.not_lt.mp bq77]
              rw [rcount, e1]; rfl
            have z := fun zz => ih (k + 1) (by omega) zz hnt
            simp only [e] at z
            rw [nI_1]; exact z _
  refine r_aload_n (pc := 0) hC dX0_legible_0 rfl ?_
  refine r_aload_n (pc := 1) hC dX0_legible_1 rfl ?_
  refine k_X2_width (pc := 2) hC gX0_legible_X2_width ⟨Nat.le_of_ble_eq_true rfl, Nat.le_of_ble_eq_true rfl⟩ (n := L) (hrw a (by omega)).1 (hrw a (by omega)).2.1 (hrw a (by omega)).2.2 hLr hL14 (Nat.le_of_ble_eq_true rfl) rfl ⟨Nat.zero_le _, Nat.zero_le _⟩ dX0_legible_2 ?_
  rw [hLw]
  refine k_X0_squeezed (pc := 5) hC gX0_legible_X0_squeezed ⟨Nat.le_of_ble_eq_true rfl, Nat.le_of_ble_eq_true rfl⟩ kb ⟨⟨k0, l0⟩, ⟨k3, l3⟩, ⟨k6, l6⟩, hrw, hrt⟩ ⟨b1, b2, b4, b5, b7, b8, b9, b10, bst, brw, brt⟩ ⟨hn20, hn, hq6, hq, hcur, hdr, h8, h9, h10, hrows⟩ (Nat.le_of_ble_eq_true rfl) rfl ⟨Nat.zero_le _, Nat.zero_le _⟩ dX0_legible_5 ?_
  refine r_istore_n (pc := 8) (L' := [_, _, _, _, _, _, _]) hC dX0_legible_8 rfl (Nat.le_of_ble_eq_true rfl) rfl ?_
  refine r_aload_n (pc := 9) hC dX0_legible_9 rfl ?_
  refine g_Row_torn (pc := 10) hC wi_X0_legible_2 wl_X0_legible_92 hrwa.1 dX0_legible_10 ?_
  refine r_if_ne (pc := 13) (tgt := 21) hC dX0_legible_13 (by decide) (fun bq13 => ?_) (fun bq13 => ?_)
  · skip
    refine r_iconst (pc := 21) (v := 0) hC dX0_legible_21 (by decide) ?_
    refine r_iret (pc := 22) hC hD rfl dX0_legible_22 rfl ?_
    exact ⟨by rw [if_pos (by rw [hL3] at bq13; exact hL01.resolve_left bq13)], rfl, rfl, rfl⟩
  · skip
    refine r_iload_n (pc := 16) hC dX0_legible_16 rfl ?_
    refine r_iconst (pc := 17) (v := 1) hC dX0_legible_17 (by decide) ?_
    refine r_icmp_ge (pc := 18) (tgt := 23) hC dX0_legible_18 (by decide) (fun bq18 => ?_) (fun bq18 => ?_)
    · skip
      refine r_iconst (pc := 23) (v := 0) hC dX0_legible_23 (by decide) ?_
      refine r_istore (pc := 24) (L' := [_, _, _, _, _, _, _]) hC dX0_legible_24 rfl (Nat.le_of_ble_eq_true rfl) rfl ?_
      refine r_iconst (pc := 26) (v := 0) hC dX0_legible_26 (by decide) ?_
      refine r_istore (pc := 27) (L' := [_, _, _, _, _, _, _]) hC dX0_legible_27 rfl (Nat.le_of_ble_eq_true rfl) rfl ?_
      exact loop L 0 (by omega) none (by rw [hL3] at bq13; rw [bq13]; decide)
    · skip
      exact absurd (by rw [hp3]; exact nI_le (a := 1) (by omega) (by omega)) bq18
theorem k_X0_legible {X : xF} {G : xG} {cs : Nat × Nat} {μ : xM} {I : xI} {P : xP} {L : List (Option Value)} {pc : Nat} {rest : List Value} {cc : ByteArray} {Ts : List Cond} {own : String} {nL : Nat} {R : Room} (hC : xC X G cc Ts own nL R) {index : Nat} (hG : GoodIn Ts (wsV own index RX0 yX0_legible wsX0_legible)) (hR : rm_X0_legible.frames + 1 ≤ R.frames ∧ 8 + (7 + 11) + rm_X0_legible.locals ≤ R.locals) {b n rq : Nat} {S : Nat → Int32} {a : Nat} {d : Int32} (kb : μ.2.1 b = 1) (hA : bA μ P b) (hB : bR I P b S n rq) (hinv : invN S n rq) (han : a < n) (hW : (rest.map fun v => v.category).sum ≤ 8) (hL : L.length = nL) (hcs : cs.1 ≤ R.cells ∧ cs.2 ≤ R.slots) (hdec : decode cc pc = .ok (.invokevirtual index, 3)) (kk : xg X G cs μ I P L (pc + 3) (.int (if S (13 + 17 * a) = 1 then 0 else rcount (seen S a d) (sLet S a) (sLen S a)) :: rest)) : xg X G cs μ I P L pc (.int d :: .ref (xZ G + P (P b 0) a) :: .ref (xZ G + b) :: rest) :=
  r_callV hC (c_X0_legible X.2.1 kb hA hB hinv han) hG rfl rfl rfl hd_X0_legible hR (by rw [kb]; decide) (xe_Blind kb) rfl rfl rfl hW hL hcs hdec (by rintro v μ' I' P' ⟨rfl, rfl, rfl, rfl⟩; exact kk)
