abbrev rm_X4_remember : Room := { frames := 3, cells := 0, slots := 0, locals := 69 }
theorem wl_X4_remember_23 : Cond.fieldLink RX4 23 "HandBlinds" "history" "[LHandBlinds$Blind;" ∈ wsX4_remember := List.mem_of_getElem? (i := 2) (by decide +kernel)
theorem wi_X4_remember_4 : ∀ w ∈ wsX40, w ∈ wsX4_remember := fun _ h => List.mem_cons_of_mem _ (List.mem_append_left _ (List.mem_append_left _ (List.mem_append_left _ (List.mem_append_right _ h))))
theorem wl_X4_remember_27 : Cond.fieldLink RX4 27 "HandBlinds" "states" "I" ∈ wsX4_remember := List.mem_of_getElem? (i := 1) (by decide +kernel)
theorem wl_X4_remember_19 : Cond.fieldLink RX4 19 "HandBlinds" "now" "LHandBlinds$Blind;" ∈ wsX4_remember := List.mem_of_getElem? (i := 3) (by decide +kernel)
theorem hd_X4_remember : yX4_remember.cls = RX4 ∧ yX4_remember.cls ≠ "java/lang/invoke/MethodHandle" ∧ yX4_remember.cls ≠ "java/lang/invoke/VarHandle" ∧ (parseMethodDescriptor yX4_remember.desc).map (fun d => d.parameters.length) = some 0 := ⟨rfl, by decide +kernel, by decide +kernel, by decide +kernel⟩
set_option maxHeartbeats 4000000 in
set_option maxRecDepth 100000 in
theorem c_X4_remember (l : Launch) {G : xG} {μ : xM} {I : xI} {P : xP} {h n rq st t : Nat} {S tx : Nat → Int32} {H : Nat → Nat → Int32} (kh : μ.2.1 h = 5) (hs : oS μ h) (hp : oP P h) (hr : oR I P h S n rq st H t tx) (hinv : invN S n rq) : Ct l yX4_remember wsX4_remember rm_X4_remember G μ I P [.ref (xZ G + h)] 0 0 (fun vv μ' I' P' => vv = none ∧ μ' = μ ∧ oP P' h ∧ oR I' P' h S n rq (xph st + 1) (pushH S st H) t tx ∧ (∀ c, c < h ∨ h + 254 ≤ c → I' c = I c ∧ P' c = P c)) := by
  obtain ⟨⟨u0, u1, u2, u3⟩, ⟨kx, ksg, lsg⟩, ⟨kb, hbS, hbP, hB⟩, ⟨kh2, lh2⟩, hist, ⟨hst, hst4⟩, ⟨ht, ht60⟩, htx⟩ := oF hs hp hr
  have hA := bA_of hbS hbP
  have hA0 := hA
  have hB0 := hB
  have hinv0 := hinv
  obtain ⟨⟨k0, l0⟩, ⟨k3, l3⟩, ⟨k6, l6⟩, hrw, hrt⟩ := hA
  have hrowf := fun {i : Nat} (hi : i < n) => bRow hB hinv hi
  obtain ⟨b1, b2, b4, b5, b7, b8, b9, b10, bst, brw, brt⟩ := hB
  obtain ⟨hn20, hn, hq6, hq, hcur, hdr, h8, h9, h10, hrows⟩ := hinv
  have b1n : I (P h 1) 1 = nI n := b1.trans hn
  have b4q : I (P h 1) 4 = nI rq := b4.trans hq
  have hro : ∀ r : Int32, (if r < 0 then (0 : Int32) else if I (P h 1) 1 ≤ r then 0 else 1) = isR r (S 0) := fun r => by rw [b1]; rfl
  have hrq : ∀ r : Int32, (if r < 0 then (0 : Int32) else if I (P h 1) 4 ≤ r then 0 else 1) = isR r (S 2) := fun r => by rw [b4]; rfl
  have hh2 : h ≠ P h 2 := by omega
  refine Ct.of (cc := cX4_remember) (maxL := 3) (ret := none) [some (.ref (xZ G + h)), none, none] (by decide) rfl rfl rfl (Nat.le_of_ble_eq_true rfl) ?_
  intro X hC hD h0 _
  have rot : ∀ (q k : Nat), k + q = 3 → st = 4 → xg X G (0, 0) μ I (shP P (P h 2) 0 k) [some (.ref (xZ G + h)), some (.ref (xZ G + P (P h 2) 0)), some (.int (nI (k + 1)))] 17 [] := by
    intro q
    induction q with
    | zero =>
      intro k hk h4e
      have ek : k = 3 := by omega
      subst ek
      refine r_iload_n (pc := 17) hC dX4_remember_17 rfl ?_
      refine r_iconst (pc := 18) (v := 4) hC dX4_remember_18 (by decide) ?_
      refine r_icmp_ge (pc := 19) (tgt := 42) hC dX4_remember_19 (by decide) (fun bq19 => ?_) (fun bq19 => ?_)
      · skip
        refine r_aload_n (pc := 42) hC dX4_remember_42 rfl ?_
        refine g_HB_history (pc := 43) hC wi_X4_remember_4 wl_X4_remember_23 kh (c2 := 11) (by rw [shP_o hh2]; exact kh2) (by decide) dX4_remember_43 ?_
        rw [shP_o hh2]
        refine r_iconst (pc := 46) (v := 3) hC dX4_remember_46 (by decide) ?_
        refine r_aload_n (pc := 47) hC dX4_remember_47 rfl ?_
        refine r_aast_Blind (pc := 48) hC kh2 (xi_l (k := 3) lh2 (by decide) (by decide) (by decide)) (hist 0 (by decide)).1.1 dX4_remember_48 ?_
        refine r_aload_n (pc := 49) hC dX4_remember_49 rfl ?_
        refine r_dup (pc := 50) hC dX4_remember_50 rfl ?_
        refine g_HB_states (pc := 51) hC wi_X4_remember_4 wl_X4_remember_27 (by assumption) dX4_remember_51 ?_
        refine r_iconst (pc := 54) (v := 1) hC dX4_remember_54 (by decide) ?_
        refine r_isub (pc := 55) hC dX4_remember_55 ?_
        refine p_HB_states (pc := 56) hC wi_X4_remember_4 wl_X4_remember_27 (by assumption) dX4_remember_56 ?_
        subst h4e
        obtain ⟨rp, rr, ro1, ro2⟩ := oR_rot hp hinv0 hr
        rw [← u3] at rp rr ro1 ro2
        obtain ⟨⟨v0, v1, v2, v3⟩, -, ⟨kb2, hbS2, hbP2, hB2⟩, ⟨kq2, lq2⟩, hist2, ⟨hst2, -⟩, -, -⟩ := oF hs rp rr
        rw [show xu (shP P (P h 2) 0 3) (P h 2) 3 (P (P h 2) 0) = (roP P (P h 2)) from rfl, show I h 3 - 1 = nI 3 from by rw [hst]; exact nI_pred 3]
        refine r_aload_n (pc := 59) hC dX4_remember_59 rfl ?_
        refine g_HB_history (pc := 60) hC wi_X4_remember_4 wl_X4_remember_23 kh (c2 := 11) kq2 (by decide) dX4_remember_60 ?_
        refine r_aload_n (pc := 63) hC dX4_remember_63 rfl ?_
        refine g_HB_states (pc := 64) hC wi_X4_remember_4 wl_X4_remember_27 (by assumption) dX4_remember_64 ?_
        rw [xu_at]
        refine r_aald_Blind (pc := 67) hC kq2 (xi_l (k := 3) lq2 (by decide) (by decide) (by decide)) (hist2 3 (by decide)).1.1 dX4_remember_67 ?_
        refine r_aload_n (pc := 68) hC dX4_remember_68 rfl ?_
        refine g_HB_now (pc := 69) hC wi_X4_remember_4 wl_X4_remember_19 kh (c2 := 1) kb2 (by decide) dX4_remember_69 ?_
        refine k_X0_become (pc := 72) hC gX4_remember_X0_become ⟨Nat.le_of_ble_eq_true rfl, Nat.le_of_ble_eq_true rfl⟩ (hist2 3 (by decide)).1.1 (hist2 3 (by decide)).1 (hist2 3 (by decide)).2.1 hbS2 hbP2 (by have w := (hist2 3 (by decide)).2.2; omega) hB2 hinv0 (Nat.le_of_ble_eq_true rfl) rfl ⟨Nat.zero_le _, Nat.zero_le _⟩ dX4_remember_72 ?_
        intro J72 rR72 rF72
        refine r_aload_n (pc := 75) hC dX4_remember_75 rfl ?_
        refine r_dup (pc := 76) hC dX4_remember_76 rfl ?_
        refine g_HB_states (pc := 77) hC wi_X4_remember_4 wl_X4_remember_27 (by assumption) dX4_remember_77 ?_
        have w9 := (hist2 3 (by decide)).2.2
        rw [show J72 h 3 = nI 3 from by rw [rF72 h (by omega), xu_at]]
        refine r_iconst (pc := 80) (v := 1) hC dX4_remember_80 (by decide) ?_
        refine r_iadd (pc := 81) hC dX4_remember_81 ?_
        rw [nI_1]
        refine p_HB_states (pc := 82) hC wi_X4_remember_4 wl_X4_remember_27 (by assumption) dX4_remember_82 ?_
        refine r_vret (pc := 85) hC hD dX4_remember_85 rfl ?_
        obtain ⟨g1, g2⟩ := oR_push (J := J72) rp hinv0 rr (by decide) (by rw [v3] at rR72; exact rR72) (by rw [v3] at rF72; exact rF72)
        refine ⟨rfl, rfl, rp, ?_, fun c hc => ⟨?_, ro1 c (by omega)⟩⟩
        · rw [show xph 4 + 1 = 3 + 1 from rfl, show pushH S 4 H = fun k => if k = 3 then S else H (k + 1) from by unfold pushH; rw [if_pos rfl]]; exact g1
        · rw [g2 c hc, xu_row (by omega)]
      · skip
        exact absurd (nI_le (a := 4) (b := 4) (by omega) (by decide)) bq19
    | succ q ih =>
      intro k hk h4e
      refine r_iload_n (pc := 17) hC dX4_remember_17 rfl ?_
      refine r_iconst (pc := 18) (v := 4) hC dX4_remember_18 (by decide) ?_
      refine r_icmp_ge (pc := 19) (tgt := 42) hC dX4_remember_19 (by decide) (fun bq19 => ?_) (fun bq19 => ?_)
      · skip
        exact absurd bq19 (nI_ge (b := 4) (by omega) (by decide))
      · skip
        refine r_aload_n (pc := 22) hC dX4_remember_22 rfl ?_
        refine g_HB_history (pc := 23) hC wi_X4_remember_4 wl_X4_remember_23 kh (c2 := 11) (by rw [shP_o hh2]; exact kh2) (by decide) dX4_remember_23 ?_
        rw [shP_o hh2]
        refine r_iload_n (pc := 26) hC dX4_remember_26 rfl ?_
        refine r_iconst (pc := 27) (v := 1) hC dX4_remember_27 (by decide) ?_
        refine r_isub (pc := 28) hC dX4_remember_28 ?_
        rw [show nI (k + 1) - 1 = nI (0 + k) from by rw [Nat.zero_add]; exact nI_pred k]
        refine r_aload_n (pc := 29) hC dX4_remember_29 rfl ?_
        refine g_HB_history (pc := 30) hC wi_X4_remember_4 wl_X4_remember_23 kh (c2 := 11) (by rw [shP_o hh2]; exact kh2) (by decide) dX4_remember_30 ?_
        rw [shP_o hh2]
        refine r_iload_n (pc := 33) hC dX4_remember_33 rfl ?_
        refine r_aald_Blind (pc := 34) hC kh2 (xi_n (k := k + 1) (by rw [lh2]; omega) (by rw [lh2]; decide)) (by rw [shP_hi (by omega)]; exact (hist _ (by omega)).1.1) dX4_remember_34 ?_
        rw [shP_hi (by omega)]
        refine r_aast_Blind (pc := 35) hC kh2 (xi_n (k := 0 + k) (by rw [lh2]; omega) (by rw [lh2]; decide)) (hist (k + 1) (by omega)).1.1 dX4_remember_35 ?_
        rw [show P (P h 2) (k + 1) = P (P h 2) (0 + k + 1) from by rw [Nat.zero_add], shP_succ]
        refine r_iinc (pc := 36) (v := 1) (L' := [_, _, _]) hC dX4_remember_36 rfl (by decide) rfl rfl ?_
        refine r_goto (pc := 39) (tgt := 17) hC dX4_remember_39 (by decide) ?_
        rw [nI_1]; exact ih (k + 1) (by omega) h4e
  refine r_aload_n (pc := 0) hC dX4_remember_0 rfl ?_
  refine g_HB_states (pc := 1) hC wi_X4_remember_4 wl_X4_remember_27 (by assumption) dX4_remember_1 ?_
  refine r_iconst (pc := 4) (v := 4) hC dX4_remember_4 (by decide) ?_
  refine r_icmp_ne (pc := 5) (tgt := 59) hC dX4_remember_5 (by decide) (fun bq5 => ?_) (fun bq5 => ?_)
  · skip
    have hst3 : st < 4 := by
      rcases Nat.lt_or_ge st 4 with w | w
      · exact w
      · exact absurd (show I h 3 = 4 by rw [hst, show st = 4 by omega]; rfl) bq5
    refine r_aload_n (pc := 59) hC dX4_remember_59 rfl ?_
    refine g_HB_history (pc := 60) hC wi_X4_remember_4 wl_X4_remember_23 (by assumption) (c2 := 11) (by assumption) (by decide) dX4_remember_60 ?_
    refine r_aload_n (pc := 63) hC dX4_remember_63 rfl ?_
    refine g_HB_states (pc := 64) hC wi_X4_remember_4 wl_X4_remember_27 (by assumption) dX4_remember_64 ?_
    skip
    refine r_aald_Blind (pc := 67) hC kh2 (xi_e (k := st) hst lh2 (by omega) (by decide)) (hist st (by omega)).1.1 dX4_remember_67 ?_
    refine r_aload_n (pc := 68) hC dX4_remember_68 rfl ?_
    refine g_HB_now (pc := 69) hC wi_X4_remember_4 wl_X4_remember_19 (by assumption) (c2 := 1) (by assumption) (by decide) dX4_remember_69 ?_
    refine k_X0_become (pc := 72) hC gX4_remember_X0_become ⟨Nat.le_of_ble_eq_true rfl, Nat.le_of_ble_eq_true rfl⟩ (hist st (by omega)).1.1 (hist st (by omega)).1 (hist st (by omega)).2.1 hbS hbP (by have w := (hist st (by omega)).2.2; omega) hB0 hinv0 (Nat.le_of_ble_eq_true rfl) rfl ⟨Nat.zero_le _, Nat.zero_le _⟩ dX4_remember_72 ?_
    intro J72 rR72 rF72
    refine r_aload_n (pc := 75) hC dX4_remember_75 rfl ?_
    refine r_dup (pc := 76) hC dX4_remember_76 rfl ?_
    refine g_HB_states (pc := 77) hC wi_X4_remember_4 wl_X4_remember_27 (by assumption) dX4_remember_77 ?_
    have w9 := (hist st (by omega)).2.2
    rw [show J72 h 3 = nI st from by rw [rF72 h (by omega)]; exact hst]
    refine r_iconst (pc := 80) (v := 1) hC dX4_remember_80 (by decide) ?_
    refine r_iadd (pc := 81) hC dX4_remember_81 ?_
    rw [nI_1]
    refine p_HB_states (pc := 82) hC wi_X4_remember_4 wl_X4_remember_27 (by assumption) dX4_remember_82 ?_
    refine r_vret (pc := 85) hC hD dX4_remember_85 rfl ?_
    obtain ⟨g1, g2⟩ := oR_push (J := J72) hp hinv0 hr hst3 (by rw [← u3]; exact rR72) (by rw [← u3]; exact rF72)
    have h4 : st ≠ 4 := by omega
    refine ⟨rfl, rfl, hp, ?_, fun c hc => ⟨g2 c hc, rfl⟩⟩
    rw [show xph st = st from by unfold xph; rw [if_neg h4], show pushH S st H = fun k => if k = st then S else H k from by unfold pushH; rw [if_neg h4]]
    exact g1
  · skip
    refine r_aload_n (pc := 8) hC dX4_remember_8 rfl ?_
    refine g_HB_history (pc := 9) hC wi_X4_remember_4 wl_X4_remember_23 (by assumption) (c2 := 11) (by assumption) (by decide) dX4_remember_9 ?_
    refine r_iconst (pc := 12) (v := 0) hC dX4_remember_12 (by decide) ?_
    refine r_aald_Blind (pc := 13) hC kh2 (xi_l (k := 0) lh2 (by decide) (by decide) (by decide)) (hist 0 (by decide)).1.1 dX4_remember_13 ?_
    refine r_astore_n (pc := 14) (L' := [_, _, _]) hC dX4_remember_14 rfl (Nat.le_of_ble_eq_true rfl) rfl ?_
    refine r_iconst (pc := 15) (v := 1) hC dX4_remember_15 (by decide) ?_
    refine r_istore_n (pc := 16) (L' := [_, _, _]) hC dX4_remember_16 rfl (Nat.le_of_ble_eq_true rfl) rfl ?_
    have z := rot 3 0 rfl ((nI_eq (b := 4) (by omega) (by decide)).mp (by rw [← hst]; exact bq5))
    rw [shP_0] at z; exact z
theorem k_X4_remember {X : xF} {G : xG} {cs : Nat × Nat} {μ : xM} {I : xI} {P : xP} {L : List (Option Value)} {pc : Nat} {rest : List Value} {cc : ByteArray} {Ts : List Cond} {own : String} {nL : Nat} {R : Room} (hC : xC X G cc Ts own nL R) {index : Nat} (hG : GoodIn Ts (wsV own index RX4 yX4_remember wsX4_remember)) (hR : rm_X4_remember.frames + 1 ≤ R.frames ∧ 8 + (3 + 11) + rm_X4_remember.locals ≤ R.locals) {h n rq st t : Nat} {S tx : Nat → Int32} {H : Nat → Nat → Int32} (kh : μ.2.1 h = 5) (hs : oS μ h) (hp : oP P h) (hr : oR I P h S n rq st H t tx) (hinv : invN S n rq) (hW : (rest.map fun v => v.category).sum ≤ 8) (hL : L.length = nL) (hcs : cs.1 ≤ R.cells ∧ cs.2 ≤ R.slots) (hdec : decode cc pc = .ok (.invokevirtual index, 3)) (kk : ∀ (I' : xI) (P' : xP), oP P' h → oR I' P' h S n rq (xph st + 1) (pushH S st H) t tx → (∀ c, c < h ∨ h + 254 ≤ c → I' c = I c ∧ P' c = P c) → xg X G cs μ I' P' L (pc + 3) rest) : xg X G cs μ I P L pc (.ref (xZ G + h) :: rest) :=
  r_callV hC (c_X4_remember X.2.1 kh hs hp hr hinv) hG rfl rfl rfl hd_X4_remember hR (by rw [kh]; decide) (xe_HB kh) rfl rfl rfl hW hL hcs hdec (by rintro vv μ' I' P' ⟨rfl, rfl, h1, h2, h3⟩; exact kk I' P' h1 h2 h3)
