abbrev rm_X4_nearest : Room := { frames := 8, cells := 0, slots := 0, locals := 172 }
theorem wl_X4_nearest_57 : Cond.constant RX4 57 (-1000001) ∈ wsX4_nearest := List.mem_of_getElem? (i := 1) (by decide +kernel)
theorem wl_X4_nearest_19 : Cond.fieldLink RX4 19 "HandBlinds" "now" "LHandBlinds$Blind;" ∈ wsX4_nearest := List.mem_of_getElem? (i := 2) (by decide +kernel)
theorem wi_X4_nearest_4 : ∀ w ∈ wsX40, w ∈ wsX4_nearest := fun _ h => List.mem_cons_of_mem _ (List.mem_append_left _ (List.mem_append_left _ (List.mem_append_left _ (List.mem_append_right _ h))))
theorem wl_X4_nearest_65 : Cond.fieldLink RX4 65 "HandBlinds$Blind" "shown" "I" ∈ wsX4_nearest := List.mem_of_getElem? (i := 4) (by decide +kernel)
theorem wi_X4_nearest_0 : ∀ w ∈ wsX00, w ∈ wsX4_nearest := fun _ h => List.mem_cons_of_mem _ (List.mem_append_left _ (List.mem_append_left _ (List.mem_append_right _ h)))
theorem wl_X4_nearest_138 : Cond.constant RX4 138 (-1000004) ∈ wsX4_nearest := List.mem_of_getElem? (i := 3) (by decide +kernel)
theorem hd_X4_nearest : yX4_nearest.cls = RX4 ∧ yX4_nearest.cls ≠ "java/lang/invoke/MethodHandle" ∧ yX4_nearest.cls ≠ "java/lang/invoke/VarHandle" ∧ (parseMethodDescriptor yX4_nearest.desc).map (fun d => d.parameters.length) = some 1 := ⟨rfl, by decide +kernel, by decide +kernel, by decide +kernel⟩
set_option maxHeartbeats 4000000 in
set_option maxRecDepth 100000 in
theorem c_X4_nearest (l : Launch) {G : xG} {μ : xM} {I : xI} {P : xP} {h n rq st t : Nat} {S tx : Nat → Int32} {H : Nat → Nat → Int32} {w : Int32} (kh : μ.2.1 h = 5) (hs : oS μ h) (hp : oP P h) (hr : oR I P h S n rq st H t tx) (hinv : invN S n rq) : Ct l yX4_nearest wsX4_nearest rm_X4_nearest G μ I P [.ref (xZ G + h), .int w] 0 0 (fun vv μ' I' P' => vv = some (.int (aNear S w)) ∧ μ' = μ ∧ I' = (I) ∧ P' = (P)) := by
  obtain ⟨⟨u0, u1, u2, u3⟩, ⟨kx, ksg, lsg⟩, ⟨kb, hbS, hbP, hB⟩, ⟨kh2, lh2⟩, hist, ⟨hst, hst4⟩, ⟨ht, ht60⟩, htx⟩ := oF hs hp hr
  have hA := bA_of hbS hbP
  have hA0 := hA
  have hB0 := hB
  have hinv0 := hinv
  obtain ⟨⟨k0, l0⟩, ⟨k3, l3⟩, ⟨k6, l6⟩, hrw, hrt⟩ := hA
  have hrowf := fun {i : Nat} (hi : i < n) => bRow hB hinv hi
  obtain ⟨b1, b2, b4, b5, b7, b8, b9, b10, bst, brw, brt⟩ := hB
  obtain ⟨hn20, hn, hq6, hq, hcur, hdr, h8, h9, h10, hrows⟩ := hinv
  have b1n : I (P h 1) 1 = nI n := b1.trans hn
  have b4q : I (P h 1) 4 = nI rq := b4.trans hq
  have hro : ∀ r : Int32, (if r < 0 then (0 : Int32) else if I (P h 1) 1 ≤ r then 0 else 1) = isR r (S 0) := fun r => by rw [b1]; rfl
  have hrq : ∀ r : Int32, (if r < 0 then (0 : Int32) else if I (P h 1) 4 ≤ r then 0 else 1) = isR r (S 2) := fun r => by rw [b4]; rfl
  have hcn : cN S = n := by rw [cN, hn, nI_clamp (by omega)]
  obtain ⟨a, ha, ha20⟩ : ∃ a, ((S 1 = nI a ∧ a < n) ∨ (n = 0 ∧ a = 0)) ∧ a < 20 := by
    rcases hcur with ⟨w1, w2⟩ | ⟨a, w1, w2⟩
    · exact ⟨0, Or.inr ⟨w1, rfl⟩, by decide⟩
    · exact ⟨a, Or.inl ⟨w2, w1⟩, by omega⟩
  refine Ct.of (cc := cX4_nearest) (maxL := 3) (ret := (some .int)) [some (.ref (xZ G + h)), some (.int w), none] (by decide) rfl rfl rfl (Nat.le_of_ble_eq_true rfl) ?_
  intro X hC hD h0 _
  refine r_iload_n (pc := 0) hC dX4_nearest_0 rfl ?_
  refine r_if_lt (pc := 1) (tgt := 9) hC dX4_nearest_1 (by decide) (fun bq1 => ?_) (fun bq1 => ?_)
  · skip
    refine r_ldc (pc := 9) (v := -1000001) hC dX4_nearest_9 wl_X4_nearest_57 ?_
    refine r_iret (pc := 11) hC hD rfl dX4_nearest_11 rfl ?_
    exact ⟨by rw [aNear, if_pos (show inr w 0 1 = 0 by rw [inr, if_pos bq1])], rfl, rfl, rfl⟩
  · skip
    refine r_iload_n (pc := 4) hC dX4_nearest_4 rfl ?_
    refine r_iconst (pc := 5) (v := 1) hC dX4_nearest_5 (by decide) ?_
    refine r_icmp_le (pc := 6) (tgt := 12) hC dX4_nearest_6 (by decide) (fun bq6 => ?_) (fun bq6 => ?_)
    · skip
      refine r_aload_n (pc := 12) hC dX4_nearest_12 rfl ?_
      refine g_HB_now (pc := 13) hC wi_X4_nearest_4 wl_X4_nearest_19 (by assumption) (c2 := 1) (by assumption) (by decide) dX4_nearest_13 ?_
      refine k_X0_nearestRight (pc := 16) hC gX4_nearest_X0_nearestRight ⟨Nat.le_of_ble_eq_true rfl, Nat.le_of_ble_eq_true rfl⟩ kb hA0 hB0 hinv0 (by rcases ha with w | w; exact Or.inl w.1; exact Or.inr w) ha20 (Nat.le_of_ble_eq_true rfl) rfl ⟨Nat.zero_le _, Nat.zero_le _⟩ dX4_nearest_16 ?_
      refine r_istore_n (pc := 19) (L' := [_, _, _]) hC dX4_nearest_19 rfl (Nat.le_of_ble_eq_true rfl) rfl ?_
      refine r_iload_n (pc := 20) hC dX4_nearest_20 rfl ?_
      refine r_iconst (pc := 21) (v := -1) hC dX4_nearest_21 (by decide) ?_
      refine r_icmp_ne (pc := 22) (tgt := 28) hC dX4_nearest_22 (by decide) (fun bq22 => ?_) (fun bq22 => ?_)
      · skip
        obtain ⟨c, hc⟩ : ∃ c, nrC S a n = some c := by
          cases hq : nrC S a n with
          | none => rw [hq] at bq22; exact absurd rfl bq22
          | some c => exact ⟨c, rfl⟩
        have hcl := nrC_lt hc
        have ha1 := ha.resolve_right (by omega)
        obtain ⟨b, nb, hbn, e1, e2⟩ := near_some ha1.2 hn20 hc
        have hca : cA S = a := by rw [cA, ha1.1, nI_clamp (by omega)]
        rw [show oI (nrC S a n) = nI c from by rw [hc]; rfl]
        refine r_iload_n (pc := 28) hC dX4_nearest_28 rfl ?_
        refine r_if_ne (pc := 29) (tgt := 36) hC dX4_nearest_29 (by decide) (fun bq29 => ?_) (fun bq29 => ?_)
        · skip
          refine r_iload_n (pc := 36) hC dX4_nearest_36 rfl ?_
          refine r_aload_n (pc := 37) hC dX4_nearest_37 rfl ?_
          refine g_HB_now (pc := 38) hC wi_X4_nearest_4 wl_X4_nearest_19 (by assumption) (c2 := 1) (by assumption) (by decide) dX4_nearest_38 ?_
          refine g_Blind_shown (pc := 41) hC wi_X4_nearest_0 wl_X4_nearest_65 (by assumption) dX4_nearest_41 ?_
          rw [b2, ha1.1, if_neg (nI_pos (by omega))]
          refine r_isub (pc := 44) hC dX4_nearest_44 ?_
          refine r_iret (pc := 45) hC hD rfl dX4_nearest_45 rfl ?_
          have hin : ¬ inr w 0 1 = 0 := by rw [inr, if_neg bq1, if_neg (Int32.not_lt.mpr bq6)]; decide
          have hnn : ¬ nearB S (cN S) (cA S) = cN S := by rw [hcn, hca, nb]; omega
          exact ⟨by rw [aNear, if_neg hin, if_neg hnn, if_neg bq29, hcn, hca, nb, e2], rfl, rfl, rfl⟩
        · skip
          refine r_iload_n (pc := 32) hC dX4_nearest_32 rfl ?_
          refine r_goto (pc := 33) (tgt := 45) hC dX4_nearest_33 (by decide) ?_
          refine r_iret (pc := 45) hC hD rfl dX4_nearest_45 rfl ?_
          have hin : ¬ inr w 0 1 = 0 := by rw [inr, if_neg bq1, if_neg (Int32.not_lt.mpr bq6)]; decide
          have hnn : ¬ nearB S (cN S) (cA S) = cN S := by rw [hcn, hca, nb]; omega
          exact ⟨by rw [aNear, if_neg hin, if_neg hnn, if_pos bq29, hcn, hca, nb, ha1.1, e1], rfl, rfl, rfl⟩
      · skip
        refine r_ldc (pc := 25) (v := -1000004) hC dX4_nearest_25 wl_X4_nearest_138 ?_
        refine r_iret (pc := 27) hC hD rfl dX4_nearest_27 rfl ?_
        have hin : ¬ inr w 0 1 = 0 := by rw [inr, if_neg bq1, if_neg (Int32.not_lt.mpr bq6)]; decide
        have hno : nrC S a n = none := (oI_neg (fun c h => by have := nrC_lt h; omega)).mp bq22
        have hz : nearB S (cN S) (cA S) = cN S := by
          rw [hcn]
          rcases ha with ⟨w1, w2⟩ | ⟨w1, w2⟩
          · rw [show cA S = a from by rw [cA, w1, nI_clamp (by omega)]]; exact near_none w2 hno
          · rw [w1]; rfl
        exact ⟨by rw [aNear, if_neg hin, if_pos hz], rfl, rfl, rfl⟩
    · skip
      refine r_ldc (pc := 9) (v := -1000001) hC dX4_nearest_9 wl_X4_nearest_57 ?_
      refine r_iret (pc := 11) hC hD rfl dX4_nearest_11 rfl ?_
      exact ⟨by rw [aNear, if_pos (show inr w 0 1 = 0 by rw [inr, if_neg bq1, if_pos (Int32.not_le.mp bq6)])], rfl, rfl, rfl⟩
theorem k_X4_nearest {X : xF} {G : xG} {cs : Nat × Nat} {μ : xM} {I : xI} {P : xP} {L : List (Option Value)} {pc : Nat} {rest : List Value} {cc : ByteArray} {Ts : List Cond} {own : String} {nL : Nat} {R : Room} (hC : xC X G cc Ts own nL R) {index : Nat} (hG : GoodIn Ts (wsV own index RX4 yX4_nearest wsX4_nearest)) (hR : rm_X4_nearest.frames + 1 ≤ R.frames ∧ 8 + (3 + 11) + rm_X4_nearest.locals ≤ R.locals) {h n rq st t : Nat} {S tx : Nat → Int32} {H : Nat → Nat → Int32} {w : Int32} (kh : μ.2.1 h = 5) (hs : oS μ h) (hp : oP P h) (hr : oR I P h S n rq st H t tx) (hinv : invN S n rq) (hW : (rest.map fun v => v.category).sum ≤ 8) (hL : L.length = nL) (hcs : cs.1 ≤ R.cells ∧ cs.2 ≤ R.slots) (hdec : decode cc pc = .ok (.invokevirtual index, 3)) (kk : xg X G cs μ I P L (pc + 3) (.int (aNear S w) :: rest)) : xg X G cs μ I P L pc (.int w :: .ref (xZ G + h) :: rest) :=
  r_callV hC (c_X4_nearest X.2.1 kh hs hp hr hinv) hG rfl rfl rfl hd_X4_nearest hR (by rw [kh]; decide) (xe_HB kh) rfl rfl rfl hW hL hcs hdec (by rintro v μ' I' P' ⟨rfl, rfl, rfl, rfl⟩; exact kk)
