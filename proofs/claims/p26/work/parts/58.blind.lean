abbrev rm_X0_remove : Room := { frames := 1, cells := 0, slots := 0, locals := 23 }
theorem wl_X0_remove_56 : Cond.fieldLink RX0 56 "HandBlinds$Blind" "routeCount" "I" ∈ wsX0_remove := List.mem_of_getElem? (i := 3) (by decide +kernel)
theorem wi_X0_remove_0 : ∀ w ∈ wsX00, w ∈ wsX0_remove := fun _ h => List.mem_cons_of_mem _ (List.mem_append_left _ (List.mem_append_right _ h))
theorem wl_X0_remove_53 : Cond.fieldLink RX0 53 "HandBlinds$Blind" "shown" "I" ∈ wsX0_remove := List.mem_of_getElem? (i := 5) (by decide +kernel)
theorem wl_X0_remove_50 : Cond.fieldLink RX0 50 "HandBlinds$Blind" "rowCount" "I" ∈ wsX0_remove := List.mem_of_getElem? (i := 2) (by decide +kernel)
theorem wl_X0_remove_20 : Cond.fieldLink RX0 20 "HandBlinds$Blind" "routes" "[LHandBlinds$Route;" ∈ wsX0_remove := List.mem_of_getElem? (i := 4) (by decide +kernel)
theorem wl_X0_remove_11 : Cond.fieldLink RX0 11 "HandBlinds$Blind" "rows" "[LHandBlinds$Row;" ∈ wsX0_remove := List.mem_of_getElem? (i := 1) (by decide +kernel)
theorem hd_X0_remove : yX0_remove.cls = RX0 ∧ yX0_remove.cls ≠ "java/lang/invoke/MethodHandle" ∧ yX0_remove.cls ≠ "java/lang/invoke/VarHandle" ∧ (parseMethodDescriptor yX0_remove.desc).map (fun d => d.parameters.length) = some 1 := ⟨rfl, by decide +kernel, by decide +kernel, by decide +kernel⟩
set_option maxHeartbeats 4000000 in
set_option maxRecDepth 100000 in
theorem c_X0_remove (l : Launch) {G : xG} {μ : xM} {I : xI} {P : xP} {b n rq : Nat} {S : Nat → Int32} {c : Nat} (kb : μ.2.1 b = 1) (hS : bS μ b) (hP : bP P b) (hB : bR I P b S n rq) (hinv : invN S n rq) (hc : c < n) : Ct l yX0_remove wsX0_remove rm_X0_remove G μ I P [.ref (xZ G + b), .int (nI c)] 0 0 (fun vv μ' I' P' => vv = none ∧ μ' = μ ∧ bP P' b ∧ (∀ c, c < b ∨ b + 50 ≤ c → P' c = P c) ∧ bR I' P' b (cutS S c n rq) (n - 1) rq ∧ (∀ c, c < b ∨ b + 50 ≤ c → I' c = I c)) := by
  have hA := bA_of hS hP
  have hP0 := hP
  have hB0 := hB
  have hinv0 := hinv
  obtain ⟨hX1, hX2, hX3⟩ := bX hP0
  obtain ⟨⟨k0, l0⟩, ⟨k3, l3⟩, ⟨k6, l6⟩, hrw, hrt⟩ := hA
  have hrowf := fun {i : Nat} (hi : i < n) => bRow hB hinv hi
  obtain ⟨b1, b2, b4, b5, b7, b8, b9, b10, bst, brw, brt⟩ := hB
  obtain ⟨hn20, hn, hq6, hq, hcur, hdr, h8, h9, h10, hrows⟩ := hinv
  have b1n : I b 1 = nI n := b1.trans hn
  have b4q : I b 4 = nI rq := b4.trans hq
  obtain ⟨p0, p3, p6, pj, -⟩ := hP
  obtain ⟨a, ha, hs1⟩ : ∃ a, a < n ∧ S 1 = nI a := hcur.resolve_left (fun w => by omega)
  have hb2a : I b 2 = nI a := by rw [b2, hs1, if_neg (nI_pos (by omega))]
  have hb0 : b ≠ P b 0 := by omega
  have q0 : ∀ m, (shP P (P b 0) c m) b = P b := fun m => shP_o hb0
  have Q0 : (xu (shP P (P b 0) c (n - 1 - c)) (P b 0) (n - 1) (P (P b 0) c)) b = P b := by rw [xu_row hb0]; exact q0 _
  have Q3 : (xu (shP P (P b 0) c (n - 1 - c)) (P b 0) (n - 1) (P (P b 0) c)) b 3 = P b 3 := by rw [Q0]
  have Q3j : ∀ j, j < 6 → (xu (shP P (P b 0) c (n - 1 - c)) (P b 0) (n - 1) (P (P b 0) c)) ((xu (shP P (P b 0) c (n - 1 - c)) (P b 0) (n - 1) (P (P b 0) c)) b 3) j = b + 43 + j := fun j hj => by rw [Q3, p3, xu_row (by omega), shP_o (by omega)]; exact pj j hj
  have hm2 : (mpI (xu I b 1 (nI (n - 1))) (b + 43) (fun z => woS z (nI c)) rq) b 2 = I b 2 := by rw [mpI_o (Or.inl (by omega)), xu_ne (Or.inr (by decide))]
  have hm1 : (mpI (xu I b 1 (nI (n - 1))) (b + 43) (fun z => woS z (nI c)) rq) b 1 = nI (n - 1) := by rw [mpI_o (Or.inl (by omega)), xu_at]
  refine Ct.of (cc := cX0_remove) (maxL := 4) (ret := none) [some (.ref (xZ G + b)), some (.int (nI c)), none, none] (by decide) rfl rfl rfl (Nat.le_of_ble_eq_true rfl) ?_
  intro X hC hD h0 _
  have loop2 : ∀ (q k : Nat), k + q = rq → xg X G (0, 0) μ (mpI (xu I b 1 (nI (n - 1))) (b + 43) (fun z => woS z (nI c)) k) (xu (shP P (P b 0) c (n - 1 - c)) (P b 0) (n - 1) (P (P b 0) c)) [some (.ref (xZ G + b)), some (.int (nI c)), some (.ref (xZ G + P (P b 0) c)), some (.int (nI k))] 61 [] := by
    intro q
    induction q with
    | zero =>
      intro k hk
      have hmb : (mpI (xu I b 1 (nI (n - 1))) (b + 43) (fun z => woS z (nI c)) k) b 4 = nI rq := by rw [mpI_o (Or.inl (by omega)), xu_ne (Or.inr (by decide)), b4q]
      have ek : rq = k := by omega
      subst ek
      refine r_iload_n (pc := 61) hC dX0_remove_61 rfl ?_
      refine r_aload_n (pc := 62) hC dX0_remove_62 rfl ?_
      refine g_Blind_routeCount (pc := 63) hC wi_X0_remove_0 wl_X0_remove_56 (by assumption) dX0_remove_63 ?_
      refine r_icmp_ge (pc := 66) (tgt := 85) hC dX0_remove_66 (by decide) (fun bq66 => ?_) (fun bq66 => ?_)
      · skip
        refine r_aload_n (pc := 85) hC dX0_remove_85 rfl ?_
        refine g_Blind_shown (pc := 86) hC wi_X0_remove_0 wl_X0_remove_53 (by assumption) dX0_remove_86 ?_
        rw [hm2, hb2a]
        refine r_aload_n (pc := 89) hC dX0_remove_89 rfl ?_
        refine g_Blind_rowCount (pc := 90) hC wi_X0_remove_0 wl_X0_remove_50 (by assumption) dX0_remove_90 ?_
        rw [hm1]
        refine r_icmp_ne (pc := 93) (tgt := 100) hC dX0_remove_93 (by decide) (fun bq93 => ?_) (fun bq93 => ?_)
        · skip
          refine r_iconst (pc := 100) (v := 0) hC dX0_remove_100 (by decide) ?_
          refine r_istore_n (pc := 101) (L' := [_, _, _, _]) hC dX0_remove_101 rfl (Nat.le_of_ble_eq_true rfl) rfl ?_
          refine r_aload_n (pc := 102) hC dX0_remove_102 rfl ?_
          refine g_Blind_shown (pc := 103) hC wi_X0_remove_0 wl_X0_remove_53 (by assumption) dX0_remove_103 ?_
          rw [hm2, hb2a]
          refine r_iload_n (pc := 106) hC dX0_remove_106 rfl ?_
          refine r_icmp_gt (pc := 107) (tgt := 121) hC dX0_remove_107 (by decide) (fun bq107 => ?_) (fun bq107 => ?_)
          · skip
            refine r_aload_n (pc := 121) hC dX0_remove_121 rfl ?_
            refine r_dup (pc := 122) hC dX0_remove_122 rfl ?_
            refine g_Blind_shown (pc := 123) hC wi_X0_remove_0 wl_X0_remove_53 (by assumption) dX0_remove_123 ?_
            rw [hm2, hb2a]
            refine r_iconst (pc := 126) (v := 1) hC dX0_remove_126 (by decide) ?_
            refine r_isub (pc := 127) hC dX0_remove_127 ?_
            refine p_Blind_shown (pc := 128) hC wi_X0_remove_0 wl_X0_remove_53 (by assumption) dX0_remove_128 ?_
            refine r_vret (pc := 131) hC hD dX0_remove_131 rfl ?_
            have hz : cutZ S c n = 1 := by rw [cutZ, hs1, if_pos bq107]
            have ha0 : c < a := (nI_ltI (by omega) (by omega)).mp bq107
            obtain ⟨⟨wP, wF⟩, wR, wG⟩ := cut_ok hP0 hB0 hinv0 hc (Q := (xu (shP P (P b 0) c (n - 1 - c)) (P b 0) (n - 1) (P (P b 0) c))) (J := xu (mpI (xu I b 1 (nI (n - 1))) (b + 43) (fun z => woS z (nI c)) rq) b 2 (nI a - 1)) rfl (by rw [hz, hs1, xu_at, show nI a - 1 = nI (a - 1) from by rw [show a = (a - 1) + 1 by omega]; exact nI_pred _, if_neg (nI_pos (by omega))]) (fun x y hxy => by rw [xu_ne (by omega)])
            exact ⟨rfl, rfl, wP, wF, wR, wG⟩
          · skip
            refine r_iload_n (pc := 110) hC dX0_remove_110 rfl ?_
            refine r_if_eq (pc := 111) (tgt := 131) hC dX0_remove_111 (by decide) (fun bq111 => ?_) (fun bq111 => ?_)
            · skip
              refine r_vret (pc := 131) hC hD dX0_remove_131 rfl ?_
              have hz : cutZ S c n = 0 := by rw [cutZ, hs1, if_neg bq107, if_neg bq93]
              obtain ⟨⟨wP, wF⟩, wR, wG⟩ := cut_ok hP0 hB0 hinv0 hc (Q := (xu (shP P (P b 0) c (n - 1 - c)) (P b 0) (n - 1) (P (P b 0) c))) (J := (mpI (xu I b 1 (nI (n - 1))) (b + 43) (fun z => woS z (nI c)) rq)) rfl (by rw [hz, hs1, hm2, hb2a, Int32.sub_zero, if_neg (nI_pos (by omega))]) (fun x y hxy => rfl)
              exact ⟨rfl, rfl, wP, wF, wR, wG⟩
            · skip
              exact absurd rfl bq111
        · skip
          refine r_iconst (pc := 96) (v := 1) hC dX0_remove_96 (by decide) ?_
          refine r_goto (pc := 97) (tgt := 101) hC dX0_remove_97 (by decide) ?_
          refine r_istore_n (pc := 101) (L' := [_, _, _, _]) hC dX0_remove_101 rfl (Nat.le_of_ble_eq_true rfl) rfl ?_
          refine r_aload_n (pc := 102) hC dX0_remove_102 rfl ?_
          refine g_Blind_shown (pc := 103) hC wi_X0_remove_0 wl_X0_remove_53 (by assumption) dX0_remove_103 ?_
          rw [hm2, hb2a]
          refine r_iload_n (pc := 106) hC dX0_remove_106 rfl ?_
          refine r_icmp_gt (pc := 107) (tgt := 121) hC dX0_remove_107 (by decide) (fun bq107 => ?_) (fun bq107 => ?_)
          · skip
            refine r_aload_n (pc := 121) hC dX0_remove_121 rfl ?_
            refine r_dup (pc := 122) hC dX0_remove_122 rfl ?_
            refine g_Blind_shown (pc := 123) hC wi_X0_remove_0 wl_X0_remove_53 (by assumption) dX0_remove_123 ?_
            rw [hm2, hb2a]
            refine r_iconst (pc := 126) (v := 1) hC dX0_remove_126 (by decide) ?_
            refine r_isub (pc := 127) hC dX0_remove_127 ?_
            refine p_Blind_shown (pc := 128) hC wi_X0_remove_0 wl_X0_remove_53 (by assumption) dX0_remove_128 ?_
            refine r_vret (pc := 131) hC hD dX0_remove_131 rfl ?_
            have hz : cutZ S c n = 1 := by rw [cutZ, hs1, if_pos bq107]
            have ha0 : c < a := (nI_ltI (by omega) (by omega)).mp bq107
            obtain ⟨⟨wP, wF⟩, wR, wG⟩ := cut_ok hP0 hB0 hinv0 hc (Q := (xu (shP P (P b 0) c (n - 1 - c)) (P b 0) (n - 1) (P (P b 0) c))) (J := xu (mpI (xu I b 1 (nI (n - 1))) (b + 43) (fun z => woS z (nI c)) rq) b 2 (nI a - 1)) rfl (by rw [hz, hs1, xu_at, show nI a - 1 = nI (a - 1) from by rw [show a = (a - 1) + 1 by omega]; exact nI_pred _, if_neg (nI_pos (by omega))]) (fun x y hxy => by rw [xu_ne (by omega)])
            exact ⟨rfl, rfl, wP, wF, wR, wG⟩
          · skip
            refine r_iload_n (pc := 110) hC dX0_remove_110 rfl ?_
            refine r_if_eq (pc := 111) (tgt := 131) hC dX0_remove_111 (by decide) (fun bq111 => ?_) (fun bq111 => ?_)
            · skip
              exact absurd bq111 (by decide)
            · skip
              refine r_aload_n (pc := 114) hC dX0_remove_114 rfl ?_
              refine g_Blind_shown (pc := 115) hC wi_X0_remove_0 wl_X0_remove_53 (by assumption) dX0_remove_115 ?_
              rw [hm2, hb2a]
              refine r_if_le (pc := 118) (tgt := 131) hC dX0_remove_118 (by decide) (fun bq118 => ?_) (fun bq118 => ?_)
              · skip
                refine r_vret (pc := 131) hC hD dX0_remove_131 rfl ?_
                have hz : cutZ S c n = 1 := by rw [cutZ, hs1, if_neg bq107, if_pos bq93]
                have ha0 : a = 0 := by
                  rcases Nat.eq_zero_or_pos a with w | w
                  · exact w
                  · exact absurd bq118 (nI_ge (a := 0) w (by omega))
                obtain ⟨⟨wP, wF⟩, wR, wG⟩ := cut_ok hP0 hB0 hinv0 hc (Q := (xu (shP P (P b 0) c (n - 1 - c)) (P b 0) (n - 1) (P (P b 0) c))) (J := (mpI (xu I b 1 (nI (n - 1))) (b + 43) (fun z => woS z (nI c)) rq)) rfl (by rw [hz, hs1, hm2, hb2a, ha0]; decide) (fun x y hxy => rfl)
                exact ⟨rfl, rfl, wP, wF, wR, wG⟩
              · skip
                refine r_aload_n (pc := 121) hC dX0_remove_121 rfl ?_
                refine r_dup (pc := 122) hC dX0_remove_122 rfl ?_
                refine g_Blind_shown (pc := 123) hC wi_X0_remove_0 wl_X0_remove_53 (by assumption) dX0_remove_123 ?_
                rw [hm2, hb2a]
                refine r_iconst (pc := 126) (v := 1) hC dX0_remove_126 (by decide) ?_
                refine r_isub (pc := 127) hC dX0_remove_127 ?_
                refine p_Blind_shown (pc := 128) hC wi_X0_remove_0 wl_X0_remove_53 (by assumption) dX0_remove_128 ?_
                refine r_vret (pc := 131) hC hD dX0_remove_131 rfl ?_
                have hz : cutZ S c n = 1 := by rw [cutZ, hs1, if_neg bq107, if_pos bq93]
                have ha0 : 0 < a := by
                  rcases Nat.eq_zero_or_pos a with w | w
                  · subst w; exact absurd (show nI 0 ≤ 0 by decide) bq118
                  · exact w
                obtain ⟨⟨wP, wF⟩, wR, wG⟩ := cut_ok hP0 hB0 hinv0 hc (Q := (xu (shP P (P b 0) c (n - 1 - c)) (P b 0) (n - 1) (P (P b 0) c))) (J := xu (mpI (xu I b 1 (nI (n - 1))) (b + 43) (fun z => woS z (nI c)) rq) b 2 (nI a - 1)) rfl (by rw [hz, hs1, xu_at, show nI a - 1 = nI (a - 1) from by rw [show a = (a - 1) + 1 by omega]; exact nI_pred _, if_neg (nI_pos (by omega))]) (fun x y hxy => by rw [xu_ne (by omega)])
                exact ⟨rfl, rfl, wP, wF, wR, wG⟩
      · skip
        rw [hmb] at bq66; exact absurd (nI_le (by omega) (by omega)) bq66
    | succ q ih =>
      intro k hk
      have hmb : (mpI (xu I b 1 (nI (n - 1))) (b + 43) (fun z => woS z (nI c)) k) b 4 = nI rq := by rw [mpI_o (Or.inl (by omega)), xu_ne (Or.inr (by decide)), b4q]
      refine r_iload_n (pc := 61) hC dX0_remove_61 rfl ?_
      refine r_aload_n (pc := 62) hC dX0_remove_62 rfl ?_
      refine g_Blind_routeCount (pc := 63) hC wi_X0_remove_0 wl_X0_remove_56 (by assumption) dX0_remove_63 ?_
      refine r_icmp_ge (pc := 66) (tgt := 85) hC dX0_remove_66 (by decide) (fun bq66 => ?_) (fun bq66 => ?_)
      · skip
        rw [hmb] at bq66; exact absurd bq66 (nI_ge (by omega) (by omega))
      · skip
        refine r_aload_n (pc := 69) hC dX0_remove_69 rfl ?_
        refine g_Blind_routes (pc := 70) hC wi_X0_remove_0 wl_X0_remove_20 kb (c2 := 10) (by rw [Q3]; exact k3) (by decide) dX0_remove_70 ?_
        rw [Q3]
        refine r_iload_n (pc := 73) hC dX0_remove_73 rfl ?_
        refine r_aald_Route (pc := 74) hC k3 (xi_n (k := k) (by rw [l3]; omega) (by rw [l3]; decide)) (by rw [← Q3, Q3j k (by omega), ← pj k (by omega), ← p3]; exact hrt k (by omega)) dX0_remove_74 ?_
        refine r_iload_n (pc := 75) hC dX0_remove_75 rfl ?_
        refine k_X1_forget (pc := 76) hC gX0_remove_X1_forget ⟨Nat.le_of_ble_eq_true rfl, Nat.le_of_ble_eq_true rfl⟩ (by rw [← Q3, Q3j k (by omega), ← pj k (by omega), ← p3]; exact hrt k (by omega)) (Nat.le_of_ble_eq_true rfl) rfl ⟨Nat.zero_le _, Nat.zero_le _⟩ dX0_remove_76 ?_
        rw [← Q3, Q3j k (by omega), mpI_succ (F := (fun z => woS z (nI c)))]
        refine r_iinc (pc := 79) (v := 1) (L' := [_, _, _, _]) hC dX0_remove_79 rfl (by decide) rfl rfl ?_
        refine r_goto (pc := 82) (tgt := 61) hC dX0_remove_82 (by decide) ?_
        rw [nI_1]; exact ih (k + 1) (by omega)
  have loop : ∀ (q k : Nat), k + q = (n - 1 - c) → xg X G (0, 0) μ I (shP P (P b 0) c k) [some (.ref (xZ G + b)), some (.int (nI c)), some (.ref (xZ G + P (P b 0) c)), some (.int (nI (c + 1 + k)))] 11 [] := by
    intro q
    induction q with
    | zero =>
      intro k hk
      have ek : k = n - 1 - c := by omega
      rw [ek]
      refine r_iload_n (pc := 11) hC dX0_remove_11 rfl ?_
      refine r_aload_n (pc := 12) hC dX0_remove_12 rfl ?_
      refine g_Blind_rowCount (pc := 13) hC wi_X0_remove_0 wl_X0_remove_50 (by assumption) dX0_remove_13 ?_
      refine r_icmp_ge (pc := 16) (tgt := 39) hC dX0_remove_16 (by decide) (fun bq16 => ?_) (fun bq16 => ?_)
      · skip
        refine r_aload_n (pc := 39) hC dX0_remove_39 rfl ?_
        refine r_dup (pc := 40) hC dX0_remove_40 rfl ?_
        refine g_Blind_rowCount (pc := 41) hC wi_X0_remove_0 wl_X0_remove_50 (by assumption) dX0_remove_41 ?_
        rw [b1n]
        refine r_iconst (pc := 44) (v := 1) hC dX0_remove_44 (by decide) ?_
        refine r_isub (pc := 45) hC dX0_remove_45 ?_
        rw [show nI n - 1 = nI (n - 1) from by rw [show n = (n - 1) + 1 by omega]; exact nI_pred _]
        refine p_Blind_rowCount (pc := 46) hC wi_X0_remove_0 wl_X0_remove_50 (by assumption) dX0_remove_46 ?_
        refine r_aload_n (pc := 49) hC dX0_remove_49 rfl ?_
        refine g_Blind_rows (pc := 50) hC wi_X0_remove_0 wl_X0_remove_11 kb (c2 := 9) (by rw [q0]; exact k0) (by decide) dX0_remove_50 ?_
        rw [q0]
        refine r_aload_n (pc := 53) hC dX0_remove_53 rfl ?_
        refine g_Blind_rowCount (pc := 54) hC wi_X0_remove_0 wl_X0_remove_50 (by assumption) dX0_remove_54 ?_
        rw [xu_at]
        refine r_aload_n (pc := 57) hC dX0_remove_57 rfl ?_
        refine r_aast_Row (pc := 58) hC k0 (xi_n (k := n - 1) (by rw [l0]; omega) (by rw [l0]; decide)) (hrw c (by omega)).1 dX0_remove_58 ?_
        refine r_iconst (pc := 59) (v := 0) hC dX0_remove_59 (by decide) ?_
        refine r_istore_n (pc := 60) (L' := [_, _, _, _]) hC dX0_remove_60 rfl (Nat.le_of_ble_eq_true rfl) rfl ?_
        have z := loop2 rq 0 (by omega)
        rw [mpI_0] at z; exact z
      · skip
        rw [b1n] at bq16; exact absurd (nI_le (by omega) (by omega)) bq16
    | succ q ih =>
      intro k hk
      refine r_iload_n (pc := 11) hC dX0_remove_11 rfl ?_
      refine r_aload_n (pc := 12) hC dX0_remove_12 rfl ?_
      refine g_Blind_rowCount (pc := 13) hC wi_X0_remove_0 wl_X0_remove_50 (by assumption) dX0_remove_13 ?_
      refine r_icmp_ge (pc := 16) (tgt := 39) hC dX0_remove_16 (by decide) (fun bq16 => ?_) (fun bq16 => ?_)
      · skip
        rw [b1n] at bq16; exact absurd bq16 (nI_ge (by omega) (by omega))
      · skip
        refine r_aload_n (pc := 19) hC dX0_remove_19 rfl ?_
        refine g_Blind_rows (pc := 20) hC wi_X0_remove_0 wl_X0_remove_11 kb (c2 := 9) (by rw [q0]; exact k0) (by decide) dX0_remove_20 ?_
        rw [q0]
        refine r_iload_n (pc := 23) hC dX0_remove_23 rfl ?_
        refine r_iconst (pc := 24) (v := 1) hC dX0_remove_24 (by decide) ?_
        refine r_isub (pc := 25) hC dX0_remove_25 ?_
        rw [show nI (c + 1 + k) - 1 = nI (c + k) from by rw [show c + 1 + k = (c + k) + 1 by omega]; exact nI_pred _]
        refine r_aload_n (pc := 26) hC dX0_remove_26 rfl ?_
        refine g_Blind_rows (pc := 27) hC wi_X0_remove_0 wl_X0_remove_11 kb (c2 := 9) (by rw [q0]; exact k0) (by decide) dX0_remove_27 ?_
        rw [q0]
        refine r_iload_n (pc := 30) hC dX0_remove_30 rfl ?_
        refine r_aald_Row (pc := 31) hC k0 (xi_n (k := c + 1 + k) (by rw [l0]; omega) (by rw [l0]; decide)) (by rw [shP_hi (by omega)]; exact (hrw _ (by omega)).1) dX0_remove_31 ?_
        rw [shP_hi (by omega)]
        refine r_aast_Row (pc := 32) hC k0 (xi_n (k := c + k) (by rw [l0]; omega) (by rw [l0]; decide)) (hrw _ (by omega)).1 dX0_remove_32 ?_
        rw [show c + 1 + k = c + k + 1 by omega, shP_succ]
        refine r_iinc (pc := 33) (v := 1) (L' := [_, _, _, _]) hC dX0_remove_33 rfl (by decide) rfl rfl ?_
        refine r_goto (pc := 36) (tgt := 11) hC dX0_remove_36 (by decide) ?_
        have z := ih (k + 1) (by omega)
        rw [show c + 1 + (k + 1) = c + k + 1 + 1 by omega] at z
        rw [nI_1]; exact z
  refine r_aload_n (pc := 0) hC dX0_remove_0 rfl ?_
  refine g_Blind_rows (pc := 1) hC wi_X0_remove_0 wl_X0_remove_11 (by assumption) (c2 := 9) (by assumption) (by decide) dX0_remove_1 ?_
  refine r_iload_n (pc := 4) hC dX0_remove_4 rfl ?_
  refine r_aald_Row (pc := 5) hC k0 (xi_n (k := c) (by rw [l0]; omega) (by rw [l0]; decide)) (hrw c (by omega)).1 dX0_remove_5 ?_
  refine r_astore_n (pc := 6) (L' := [_, _, _, _]) hC dX0_remove_6 rfl (Nat.le_of_ble_eq_true rfl) rfl ?_
  refine r_iload_n (pc := 7) hC dX0_remove_7 rfl ?_
  refine r_iconst (pc := 8) (v := 1) hC dX0_remove_8 (by decide) ?_
  refine r_iadd (pc := 9) hC dX0_remove_9 ?_
  refine r_istore_n (pc := 10) (L' := [_, _, _, _]) hC dX0_remove_10 rfl (Nat.le_of_ble_eq_true rfl) rfl ?_
  have z := loop (n - 1 - c) 0 (by omega)
  rw [shP_0] at z; rw [nI_1]; exact z
theorem k_X0_remove {X : xF} {G : xG} {cs : Nat × Nat} {μ : xM} {I : xI} {P : xP} {L : List (Option Value)} {pc : Nat} {rest : List Value} {cc : ByteArray} {Ts : List Cond} {own : String} {nL : Nat} {R : Room} (hC : xC X G cc Ts own nL R) {index : Nat} (hG : GoodIn Ts (wsV own index RX0 yX0_remove wsX0_remove)) (hR : rm_X0_remove.frames + 1 ≤ R.frames ∧ 8 + (4 + 11) + rm_X0_remove.locals ≤ R.locals) {b n rq : Nat} {S : Nat → Int32} {c : Nat} (kb : μ.2.1 b = 1) (hS : bS μ b) (hP : bP P b) (hB : bR I P b S n rq) (hinv : invN S n rq) (hc : c < n) (hW : (rest.map fun v => v.category).sum ≤ 8) (hL : L.length = nL) (hcs : cs.1 ≤ R.cells ∧ cs.2 ≤ R.slots) (hdec : decode cc pc = .ok (.invokevirtual index, 3)) (kk : ∀ (I' : xI) (P' : xP), bP P' b → (∀ c, c < b ∨ b + 50 ≤ c → P' c = P c) → bR I' P' b (cutS S c n rq) (n - 1) rq → (∀ c, c < b ∨ b + 50 ≤ c → I' c = I c) → xg X G cs μ I' P' L (pc + 3) rest) : xg X G cs μ I P L pc (.int (nI c) :: .ref (xZ G + b) :: rest) :=
  r_callV hC (c_X0_remove X.2.1 kb hS hP hB hinv hc) hG rfl rfl rfl hd_X0_remove hR (by rw [kb]; decide) (xe_Blind kb) rfl rfl rfl hW hL hcs hdec (by rintro vv μ' I' P' ⟨rfl, rfl, h1, h2, h3, h4⟩; exact kk I' P' h1 h2 h3 h4)
