theorem swapS_1 {S : Nat → Int32} {a b q : Nat} : swapS S a b q 1 = S 1 := by
  unfold swapS
  rw [if_neg (by rw [rouB_m (Or.inl (by omega))]; decide), if_neg (by rw [rngB_f (Or.inl (by omega))]; decide), if_neg (by rw [rngB_f (Or.inl (by omega))]; decide)]
theorem in2_E {w : Int32} (h0 : ¬ w < 0) (h1 : ¬ 3 ≤ w) : ∃ c, c < 3 ∧ w = nI c := by
  rcases pk_ix w (n := 3) (by decide) with h | h | h
  · exact absurd h h0
  · exact absurd h h1
  · exact h
theorem in2_C {w : Int32} (h : 3 ≤ w) : 2 < w := by
  rw [Int32.le_iff_toInt_le] at h
  rw [Int32.lt_iff_toInt_lt]
  have e1 : (3 : Int32).toInt = 3 := by decide
  have e2 : (2 : Int32).toInt = 2 := by decide
  omega
theorem in2_D {c : Nat} (h : c < 3) : ¬ inr (nI c) 0 2 = 0 := by
  have : c = 0 ∨ c = 1 ∨ c = 2 := by omega
  rcases this with rfl | rfl | rfl <;> decide
theorem inSet_0 {r N : Int32} (h : r ≤ 0 ∨ 1 <<< (N &&& 31) - 1 < r) : inSet r N = 0 := by
  unfold inSet inr
  rcases h with h | h
  · have e : r < 1 := by
      rw [Int32.le_iff_toInt_le] at h
      rw [Int32.lt_iff_toInt_lt]
      have e1 : (0 : Int32).toInt = 0 := by decide
      have e2 : (1 : Int32).toInt = 1 := by decide
      omega
    rw [if_pos e]
  · rw [if_pos h, ite_self]
theorem shl_lim {n : Nat} (hn : n ≤ 20) : (1 <<< (nI n &&& 31) - 1 : Int32) = nI (2 ^ n - 1) ∧ 2 ^ n ≤ 1048576 ∧ 1 ≤ 2 ^ n := by
  have key : ∀ k : Fin 21, (1 <<< (nI k.1 &&& 31) - 1 : Int32) = nI (2 ^ k.1 - 1) ∧ 2 ^ k.1 ≤ 1048576 ∧ 1 ≤ 2 ^ k.1 := by decide +kernel
  exact key ⟨n, by omega⟩
theorem sh_nI {j n : Nat} (hj : j < 2 ^ 31) (hn : n ≤ 20) : nI j >>> (nI n &&& 31) = nI (j / 2 ^ n) := by
  have key : ∀ k : Fin 21, ((nI k.1 &&& 31).toBitVec.smod 32).toNat = k.1 := by decide +kernel
  exact pk_shrN hj _ n (key ⟨n, by omega⟩)
theorem inSet_C {r : Int32} {n : Nat} (hn : n ≤ 20) (h0 : ¬ r ≤ 0) (h : ¬ r >>> (nI n &&& 31) = 0) : inSet r (nI n) = 0 := by
  obtain ⟨j, hj, rfl⟩ := nI_of (x := r) (fun w => h0 (Int32.le_of_lt w))
  obtain ⟨e1, e2, e3⟩ := shl_lim hn
  rw [sh_nI hj hn] at h
  refine inSet_0 (Or.inr ?_)
  rw [e1]
  refine nI_lt ?_ hj
  rcases Nat.lt_or_ge j (2 ^ n) with w | w
  · exact absurd (by rw [Nat.div_eq_of_lt w]; rfl) h
  · omega
theorem inSet_D {r : Int32} {n : Nat} (hn : n ≤ 20) (h0 : ¬ r ≤ 0) (h : r >>> (nI n &&& 31) = 0) : ¬ inSet r (nI n) = 0 := by
  obtain ⟨j, hj, rfl⟩ := nI_of (x := r) (fun w => h0 (Int32.le_of_lt w))
  obtain ⟨e1, e2, e3⟩ := shl_lim hn
  rw [sh_nI hj hn] at h
  have hd : j / 2 ^ n = 0 := (nI_eq (b := 0) (Nat.lt_of_le_of_lt (Nat.div_le_self _ _) hj) (by decide)).mp h
  have hlt : j < 2 ^ n := by
    rcases Nat.div_eq_zero_iff.mp hd with w | w
    · omega
    · exact w
  have h1 : 1 ≤ j := by
    rcases Nat.eq_zero_or_pos j with w | w
    · subst w; exact absurd (show nI 0 ≤ 0 by decide) h0
    · exact w
  unfold inSet inr
  rw [e1, if_neg (show ¬ nI j < 1 from nI_nlt (b := 1) h1 hj), if_neg (nI_nlt (by omega) (by omega))]
  decide
abbrev rm_X4_swap : Room := { frames := 4, cells := 0, slots := 0, locals := 91 }
theorem wl_X4_swap_19 : Cond.fieldLink RX4 19 "HandBlinds" "now" "LHandBlinds$Blind;" ∈ wsX4_swap := List.mem_of_getElem? (i := 1) (by decide +kernel)
theorem wi_X4_swap_4 : ∀ w ∈ wsX40, w ∈ wsX4_swap := fun _ h => List.mem_cons_of_mem _ (List.mem_append_left _ (List.mem_append_left _ (List.mem_append_left _ (List.mem_append_right _ h))))
theorem wl_X4_swap_57 : Cond.constant RX4 57 (-1000001) ∈ wsX4_swap := List.mem_of_getElem? (i := 2) (by decide +kernel)
theorem wl_X4_swap_65 : Cond.fieldLink RX4 65 "HandBlinds$Blind" "shown" "I" ∈ wsX4_swap := List.mem_of_getElem? (i := 3) (by decide +kernel)
theorem wi_X4_swap_0 : ∀ w ∈ wsX00, w ∈ wsX4_swap := fun _ h => List.mem_cons_of_mem _ (List.mem_append_left _ (List.mem_append_left _ (List.mem_append_right _ h)))
theorem hd_X4_swap : yX4_swap.cls = RX4 ∧ yX4_swap.cls ≠ "java/lang/invoke/MethodHandle" ∧ yX4_swap.cls ≠ "java/lang/invoke/VarHandle" ∧ (parseMethodDescriptor yX4_swap.desc).map (fun d => d.parameters.length) = some 2 := ⟨rfl, by decide +kernel, by decide +kernel, by decide +kernel⟩
set_option maxHeartbeats 4000000 in
set_option maxRecDepth 100000 in
theorem c_X4_swap (l : Launch) {G : xG} {μ : xM} {I : xI} {P : xP} {h n rq st t : Nat} {S tx : Nat → Int32} {H : Nat → Nat → Int32} {r w : Int32} (kh : μ.2.1 h = 5) (hs : oS μ h) (hp : oP P h) (hr : oR I P h S n rq st H t tx) (hinv : invN S n rq) : Ct l yX4_swap wsX4_swap rm_X4_swap G μ I P [.ref (xZ G + h), .int r, .int w] 0 0 (fun vv μ' I' P' => vv = some (.int (aSwap S r w)) ∧ μ' = μ ∧ oP P' h ∧ (okSwap S r w = true → oR I' P' h (sSwap S r w) n rq (xph st + 1) (pushH S st H) t tx) ∧ (okSwap S r w = false → oR I' P' h S n rq st H t tx) ∧ (∀ c, c < h ∨ h + 254 ≤ c → I' c = I c ∧ P' c = P c)) := by
  obtain ⟨⟨u0, u1, u2, u3⟩, ⟨kx, ksg, lsg⟩, ⟨kb, hbS, hbP, hB⟩, ⟨kh2, lh2⟩, hist, ⟨hst, hst4⟩, ⟨ht, ht60⟩, htx⟩ := oF hs hp hr
  have hA := bA_of hbS hbP
  have hA0 := hA
  have hB0 := hB
  have hinv0 := hinv
  obtain ⟨⟨k0, l0⟩, ⟨k3, l3⟩, ⟨k6, l6⟩, hrw, hrt⟩ := hA
  have hrowf := fun {i : Nat} (hi : i < n) => bRow hB hinv hi
  obtain ⟨b1, b2, b4, b5, b7, b8, b9, b10, bst, brw, brt⟩ := hB
  obtain ⟨hn20, hn, hq6, hq, hcur, hdr, h8, h9, h10, hrows⟩ := hinv
  have b1n : I (P h 1) 1 = nI n := b1.trans hn
  have b4q : I (P h 1) 4 = nI rq := b4.trans hq
  have hro : ∀ r : Int32, (if r < 0 then (0 : Int32) else if I (P h 1) 1 ≤ r then 0 else 1) = isR r (S 0) := fun r => by rw [b1]; rfl
  have hrq : ∀ r : Int32, (if r < 0 then (0 : Int32) else if I (P h 1) 4 ≤ r then 0 else 1) = isR r (S 2) := fun r => by rw [b4]; rfl
  refine Ct.of (cc := cX4_swap) (maxL := 3) (ret := (some .int)) [some (.ref (xZ G + h)), some (.int r), some (.int w)] (by decide) rfl rfl rfl (Nat.le_of_ble_eq_true rfl) ?_
  intro X hC hD h0 _
  refine r_aload_n (pc := 0) hC dX4_swap_0 rfl ?_
  refine g_HB_now (pc := 1) hC wi_X4_swap_4 wl_X4_swap_19 (by assumption) (c2 := 1) (by assumption) (by decide) dX4_swap_1 ?_
  refine r_iload_n (pc := 4) hC dX4_swap_4 rfl ?_
  refine k_X0_hasRow (pc := 5) hC gX4_swap_X0_hasRow ⟨Nat.le_of_ble_eq_true rfl, Nat.le_of_ble_eq_true rfl⟩ (by assumption) (Nat.le_of_ble_eq_true rfl) rfl ⟨Nat.zero_le _, Nat.zero_le _⟩ dX4_swap_5 ?_
  rw [hro]
  refine r_if_eq (pc := 8) (tgt := 27) hC dX4_swap_8 (by decide) (fun bq8 => ?_) (fun bq8 => ?_)
  · skip
    refine r_ldc (pc := 27) (v := -1000001) hC dX4_swap_27 wl_X4_swap_57 ?_
    refine r_iret (pc := 29) hC hD rfl dX4_swap_29 rfl ?_
    have hok : okSwap S r w = false := by rw [okSwap, if_pos bq8]
    exact ⟨by rw [aSwap, if_neg (by rw [hok]; decide)], rfl, hp, fun e => absurd (hok.symm.trans e) (by decide), fun _ => hr, fun c _ => ⟨rfl, rfl⟩⟩
  · skip
    refine r_aload_n (pc := 11) hC dX4_swap_11 rfl ?_
    refine g_HB_now (pc := 12) hC wi_X4_swap_4 wl_X4_swap_19 (by assumption) (c2 := 1) (by assumption) (by decide) dX4_swap_12 ?_
    refine r_iload_n (pc := 15) hC dX4_swap_15 rfl ?_
    refine k_X0_hasRow (pc := 16) hC gX4_swap_X0_hasRow ⟨Nat.le_of_ble_eq_true rfl, Nat.le_of_ble_eq_true rfl⟩ (by assumption) (Nat.le_of_ble_eq_true rfl) rfl ⟨Nat.zero_le _, Nat.zero_le _⟩ dX4_swap_16 ?_
    rw [hro]
    refine r_if_eq (pc := 19) (tgt := 27) hC dX4_swap_19 (by decide) (fun bq19 => ?_) (fun bq19 => ?_)
    · skip
      refine r_ldc (pc := 27) (v := -1000001) hC dX4_swap_27 wl_X4_swap_57 ?_
      refine r_iret (pc := 29) hC hD rfl dX4_swap_29 rfl ?_
      have hok : okSwap S r w = false := by rw [okSwap, if_neg bq8, if_pos bq19]
      exact ⟨by rw [aSwap, if_neg (by rw [hok]; decide)], rfl, hp, fun e => absurd (hok.symm.trans e) (by decide), fun _ => hr, fun c _ => ⟨rfl, rfl⟩⟩
    · skip
      refine r_iload_n (pc := 22) hC dX4_swap_22 rfl ?_
      refine r_iload_n (pc := 23) hC dX4_swap_23 rfl ?_
      refine r_icmp_ne (pc := 24) (tgt := 30) hC dX4_swap_24 (by decide) (fun bq24 => ?_) (fun bq24 => ?_)
      · skip
        obtain ⟨c, hc, rfl⟩ := isR_of bq8 hn (by omega)
        have hcc : (nI c).toNatClampNeg = c := nI_clamp (by omega)
        obtain ⟨d, hd, rfl⟩ := isR_of bq19 hn (by omega)
        have hdc : (nI d).toNatClampNeg = d := nI_clamp (by omega)
        have hcd : c ≠ d := fun e => bq24 (by rw [e])
        refine r_aload_n (pc := 30) hC dX4_swap_30 rfl ?_
        refine k_X4_remember (pc := 31) hC gX4_swap_X4_remember ⟨Nat.le_of_ble_eq_true rfl, Nat.le_of_ble_eq_true rfl⟩ kh hs hp hr hinv0 (Nat.le_of_ble_eq_true rfl) rfl ⟨Nat.zero_le _, Nat.zero_le _⟩ dX4_swap_31 ?_
        intro J31 Q31 rP31 rR31 rF31
        obtain ⟨⟨w0, w1, w2, w3⟩, ⟨kx_, ksg_, lsg_⟩, ⟨kb_, hbS_, hbP_, hB_⟩, -, -, -, ⟨ht_, -⟩, htx_⟩ := oF hs rP31 rR31
        have hA_ := bA_of hbS_ hbP_
        have hA0_ := hA_
        have hB0_ := hB_
        obtain ⟨⟨k0_, l0_⟩, ⟨k3_, l3_⟩, ⟨k6_, l6_⟩, hrw_, hrt_⟩ := hA_
        have hrowf_ := fun {i : Nat} (hi : i < n) => bRow hB_ hinv0 hi
        obtain ⟨b1_, b2_, b4_, b5_, b7_, b8_, b9_, b10_, bst_, brw_, brt_⟩ := hB_
        have b1n_ : J31 (Q31 h 1) 1 = nI n := b1_.trans hn
        have b4q_ : J31 (Q31 h 1) 4 = nI rq := b4_.trans hq
        refine r_aload_n (pc := 34) hC dX4_swap_34 rfl ?_
        refine g_HB_now (pc := 35) hC wi_X4_swap_4 wl_X4_swap_19 kh (c2 := 1) kb_ (by decide) dX4_swap_35 ?_
        refine r_iload_n (pc := 38) hC dX4_swap_38 rfl ?_
        refine r_iload_n (pc := 39) hC dX4_swap_39 rfl ?_
        refine k_X0_exchange (pc := 40) hC gX4_swap_X0_exchange ⟨Nat.le_of_ble_eq_true rfl, Nat.le_of_ble_eq_true rfl⟩ kb_ hbS_ hbP_ hB0_ hinv0 hc hd hcd (Nat.le_of_ble_eq_true rfl) rfl ⟨Nat.zero_le _, Nat.zero_le _⟩ dX4_swap_40 ?_
        intro J40 Q40 rP40 rG40 rR40 rF40
        have kbn : μ.2.1 (Q40 h 1) = 1 := by rw [rG40 h (by omega)]; exact kb_
        have e1n : Q40 h 1 = Q31 h 1 := by rw [rG40 h (by omega)]
        refine r_aload_n (pc := 43) hC dX4_swap_43 rfl ?_
        refine g_HB_now (pc := 44) hC wi_X4_swap_4 wl_X4_swap_19 kh (c2 := 1) kbn (by decide) dX4_swap_44 ?_
        refine g_Blind_shown (pc := 47) hC wi_X4_swap_0 wl_X4_swap_65 kbn dX4_swap_47 ?_
        rw [e1n]
        refine r_iret (pc := 50) hC hD rfl dX4_swap_50 rfl ?_
        have hcq : cQn S = rq := by rw [cQn, hq, nI_clamp (by omega)]
        obtain ⟨a, ha, hs1⟩ : ∃ a, a < n ∧ S 1 = nI a := hcur.resolve_left (fun w => by omega)
        have hS1 : swapS S c d rq 1 = S 1 := swapS_1
        have hok : okSwap S (nI c) (nI d) = true := by rw [okSwap, if_neg bq8, if_neg bq19, if_neg bq24]
        have eS : sSwap S (nI c) (nI d) = (swapS S c d rq) := by rw [sSwap, if_pos hok, hcc, hdc, hcq]
        have gP : bP Q40 (h + 3) := by rw [← w2]; exact rP40
        have gR : bR (J40) Q40 (h + 3) (swapS S c d rq) n rq := by rw [← w2]; exact rR40
        have gF : ∀ z, z < h + 3 ∨ h + 3 + 50 ≤ z → (J40) z = J31 z := fun z hz => rF40 z (by omega)
        have gG : ∀ z, z < h + 3 ∨ h + 3 + 50 ≤ z → Q40 z = Q31 z := fun z hz => rG40 z (by omega)
        obtain ⟨g1, g2⟩ := oR_now rP31 rR31 gP gR gF gG
        exact ⟨by rw [aSwap, if_pos hok]; exact congrArg _ (congrArg _ (by rw [rR40.2.1, hS1, hs1, if_neg (nI_pos (by omega))])), rfl, g1, fun _ => by rw [eS]; exact g2, fun e => absurd (hok.symm.trans e) (by decide), fun c hc => ⟨by rw [gF c (by omega)]; exact (rF31 c hc).1, by rw [gG c (by omega)]; exact (rF31 c hc).2⟩⟩
      · skip
        refine r_ldc (pc := 27) (v := -1000001) hC dX4_swap_27 wl_X4_swap_57 ?_
        refine r_iret (pc := 29) hC hD rfl dX4_swap_29 rfl ?_
        have hok : okSwap S r w = false := by rw [okSwap, if_neg bq8, if_neg bq19, if_pos bq24]
        exact ⟨by rw [aSwap, if_neg (by rw [hok]; decide)], rfl, hp, fun e => absurd (hok.symm.trans e) (by decide), fun _ => hr, fun c _ => ⟨rfl, rfl⟩⟩
theorem k_X4_swap {X : xF} {G : xG} {cs : Nat × Nat} {μ : xM} {I : xI} {P : xP} {L : List (Option Value)} {pc : Nat} {rest : List Value} {cc : ByteArray} {Ts : List Cond} {own : String} {nL : Nat} {R : Room} (hC : xC X G cc Ts own nL R) {index : Nat} (hG : GoodIn Ts (wsV own index RX4 yX4_swap wsX4_swap)) (hR : rm_X4_swap.frames + 1 ≤ R.frames ∧ 8 + (3 + 11) + rm_X4_swap.locals ≤ R.locals) {h n rq st t : Nat} {S tx : Nat → Int32} {H : Nat → Nat → Int32} {r w : Int32} (kh : μ.2.1 h = 5) (hs : oS μ h) (hp : oP P h) (hr : oR I P h S n rq st H t tx) (hinv : invN S n rq) (hW : (rest.map fun v => v.category).sum ≤ 8) (hL : L.length = nL) (hcs : cs.1 ≤ R.cells ∧ cs.2 ≤ R.slots) (hdec : decode cc pc = .ok (.invokevirtual index, 3)) (kk : ∀ (I' : xI) (P' : xP), oP P' h → (okSwap S r w = true → oR I' P' h (sSwap S r w) n rq (xph st + 1) (pushH S st H) t tx) → (okSwap S r w = false → oR I' P' h S n rq st H t tx) → (∀ c, c < h ∨ h + 254 ≤ c → I' c = I c ∧ P' c = P c) → xg X G cs μ I' P' L (pc + 3) (.int (aSwap S r w) :: rest)) : xg X G cs μ I P L pc (.int w :: .int r :: .ref (xZ G + h) :: rest) :=
  r_callV hC (c_X4_swap X.2.1 kh hs hp hr hinv) hG rfl rfl rfl hd_X4_swap hR (by rw [kh]; decide) (xe_HB kh) rfl rfl rfl hW hL hcs hdec (by rintro vv μ' I' P' ⟨rfl, rfl, h1, h2, h3, h4⟩; exact kk I' P' h1 h2 h3 h4)
abbrev rm_X4_mend : Room := { frames := 4, cells := 0, slots := 0, locals := 91 }
theorem wl_X4_mend_19 : Cond.fieldLink RX4 19 "HandBlinds" "now" "LHandBlinds$Blind;" ∈ wsX4_mend := List.mem_of_getElem? (i := 1) (by decide +kernel)
theorem wi_X4_mend_4 : ∀ w ∈ wsX40, w ∈ wsX4_mend := fun _ h => List.mem_cons_of_mem _ (List.mem_append_left _ (List.mem_append_left _ (List.mem_append_left _ (List.mem_append_right _ h))))
theorem wl_X4_mend_72 : Cond.fieldLink RX4 72 "HandBlinds$Blind" "rows" "[LHandBlinds$Row;" ∈ wsX4_mend := List.mem_of_getElem? (i := 3) (by decide +kernel)
theorem wi_X4_mend_0 : ∀ w ∈ wsX00, w ∈ wsX4_mend := fun _ h => List.mem_cons_of_mem _ (List.mem_append_left _ (List.mem_append_left _ (List.mem_append_right _ h)))
theorem wl_X4_mend_76 : Cond.fieldLink RX4 76 "HandBlinds$Row" "torn" "Z" ∈ wsX4_mend := List.mem_of_getElem? (i := 4) (by decide +kernel)
theorem wi_X4_mend_2 : ∀ w ∈ wsX20, w ∈ wsX4_mend := fun _ h => List.mem_cons_of_mem _ (List.mem_append_left _ (List.mem_append_right _ h))
theorem wl_X4_mend_85 : Cond.fieldLink RX4 85 "HandBlinds$Row" "wear" "I" ∈ wsX4_mend := List.mem_of_getElem? (i := 6) (by decide +kernel)
theorem wl_X4_mend_35 : Cond.constant RX4 35 (-1000002) ∈ wsX4_mend := List.mem_of_getElem? (i := 5) (by decide +kernel)
theorem wl_X4_mend_57 : Cond.constant RX4 57 (-1000001) ∈ wsX4_mend := List.mem_of_getElem? (i := 2) (by decide +kernel)
theorem hd_X4_mend : yX4_mend.cls = RX4 ∧ yX4_mend.cls ≠ "java/lang/invoke/MethodHandle" ∧ yX4_mend.cls ≠ "java/lang/invoke/VarHandle" ∧ (parseMethodDescriptor yX4_mend.desc).map (fun d => d.parameters.length) = some 1 := ⟨rfl, by decide +kernel, by decide +kernel, by decide +kernel⟩
set_option maxHeartbeats 4000000 in
set_option maxRecDepth 100000 in
theorem c_X4_mend (l : Launch) {G : xG} {μ : xM} {I : xI} {P : xP} {h n rq st t : Nat} {S tx : Nat → Int32} {H : Nat → Nat → Int32} {r : Int32} (kh : μ.2.1 h = 5) (hs : oS μ h) (hp : oP P h) (hr : oR I P h S n rq st H t tx) (hinv : invN S n rq) : Ct l yX4_mend wsX4_mend rm_X4_mend G μ I P [.ref (xZ G + h), .int r] 0 0 (fun vv μ' I' P' => vv = some (.int (aMend S r)) ∧ μ' = μ ∧ oP P' h ∧ (okMend S r = true → oR I' P' h (sMend S r) n rq (xph st + 1) (pushH S st H) t tx) ∧ (okMend S r = false → oR I' P' h S n rq st H t tx) ∧ (∀ c, c < h ∨ h + 254 ≤ c → I' c = I c ∧ P' c = P c)) := by
  obtain ⟨⟨u0, u1, u2, u3⟩, ⟨kx, ksg, lsg⟩, ⟨kb, hbS, hbP, hB⟩, ⟨kh2, lh2⟩, hist, ⟨hst, hst4⟩, ⟨ht, ht60⟩, htx⟩ := oF hs hp hr
  have hA := bA_of hbS hbP
  have hA0 := hA
  have hB0 := hB
  have hinv0 := hinv
  obtain ⟨⟨k0, l0⟩, ⟨k3, l3⟩, ⟨k6, l6⟩, hrw, hrt⟩ := hA
  have hrowf := fun {i : Nat} (hi : i < n) => bRow hB hinv hi
  obtain ⟨b1, b2, b4, b5, b7, b8, b9, b10, bst, brw, brt⟩ := hB
  obtain ⟨hn20, hn, hq6, hq, hcur, hdr, h8, h9, h10, hrows⟩ := hinv
  have b1n : I (P h 1) 1 = nI n := b1.trans hn
  have b4q : I (P h 1) 4 = nI rq := b4.trans hq
  have hro : ∀ r : Int32, (if r < 0 then (0 : Int32) else if I (P h 1) 1 ≤ r then 0 else 1) = isR r (S 0) := fun r => by rw [b1]; rfl
  have hrq : ∀ r : Int32, (if r < 0 then (0 : Int32) else if I (P h 1) 4 ≤ r then 0 else 1) = isR r (S 2) := fun r => by rw [b4]; rfl
  refine Ct.of (cc := cX4_mend) (maxL := 2) (ret := (some .int)) [some (.ref (xZ G + h)), some (.int r)] (by decide) rfl rfl rfl (Nat.le_of_ble_eq_true rfl) ?_
  intro X hC hD h0 _
  refine r_aload_n (pc := 0) hC dX4_mend_0 rfl ?_
  refine g_HB_now (pc := 1) hC wi_X4_mend_4 wl_X4_mend_19 (by assumption) (c2 := 1) (by assumption) (by decide) dX4_mend_1 ?_
  refine r_iload_n (pc := 4) hC dX4_mend_4 rfl ?_
  refine k_X0_hasRow (pc := 5) hC gX4_mend_X0_hasRow ⟨Nat.le_of_ble_eq_true rfl, Nat.le_of_ble_eq_true rfl⟩ (by assumption) (Nat.le_of_ble_eq_true rfl) rfl ⟨Nat.zero_le _, Nat.zero_le _⟩ dX4_mend_5 ?_
  rw [hro]
  refine r_if_ne (pc := 8) (tgt := 14) hC dX4_mend_8 (by decide) (fun bq8 => ?_) (fun bq8 => ?_)
  · skip
    obtain ⟨c, hc, rfl⟩ := isR_of bq8 hn (by omega)
    have hcc : (nI c).toNatClampNeg = c := nI_clamp (by omega)
    obtain ⟨L, hL1, hL14, hLr, hLs, hLl, hLw, hLk, hLc, hL2, hL3, hL01⟩ := hrowf (i := c) (by omega)
    refine r_aload_n (pc := 14) hC dX4_mend_14 rfl ?_
    refine g_HB_now (pc := 15) hC wi_X4_mend_4 wl_X4_mend_19 (by assumption) (c2 := 1) (by assumption) (by decide) dX4_mend_15 ?_
    refine g_Blind_rows (pc := 18) hC wi_X4_mend_0 wl_X4_mend_72 (by assumption) (c2 := 9) (by assumption) (by decide) dX4_mend_18 ?_
    refine r_iload_n (pc := 21) hC dX4_mend_21 rfl ?_
    refine r_aald_Row (pc := 22) hC k0 (xi_n (k := c) (by rw [l0]; omega) (by rw [l0]; decide)) (hrw c (by omega)).1 dX4_mend_22 ?_
    refine g_Row_torn (pc := 23) hC wi_X4_mend_2 wl_X4_mend_76 (hrw c (by omega)).1 dX4_mend_23 ?_
    refine r_if_ne (pc := 26) (tgt := 32) hC dX4_mend_26 (by decide) (fun bq26 => ?_) (fun bq26 => ?_)
    · skip
      refine r_aload_n (pc := 32) hC dX4_mend_32 rfl ?_
      refine k_X4_remember (pc := 33) hC gX4_mend_X4_remember ⟨Nat.le_of_ble_eq_true rfl, Nat.le_of_ble_eq_true rfl⟩ kh hs hp hr hinv0 (Nat.le_of_ble_eq_true rfl) rfl ⟨Nat.zero_le _, Nat.zero_le _⟩ dX4_mend_33 ?_
      intro J33 Q33 rP33 rR33 rF33
      obtain ⟨⟨w0, w1, w2, w3⟩, ⟨kx_, ksg_, lsg_⟩, ⟨kb_, hbS_, hbP_, hB_⟩, -, -, -, ⟨ht_, -⟩, htx_⟩ := oF hs rP33 rR33
      have hA_ := bA_of hbS_ hbP_
      have hA0_ := hA_
      have hB0_ := hB_
      obtain ⟨⟨k0_, l0_⟩, ⟨k3_, l3_⟩, ⟨k6_, l6_⟩, hrw_, hrt_⟩ := hA_
      have hrowf_ := fun {i : Nat} (hi : i < n) => bRow hB_ hinv0 hi
      obtain ⟨b1_, b2_, b4_, b5_, b7_, b8_, b9_, b10_, bst_, brw_, brt_⟩ := hB_
      have b1n_ : J33 (Q33 h 1) 1 = nI n := b1_.trans hn
      have b4q_ : J33 (Q33 h 1) 4 = nI rq := b4_.trans hq
      refine r_aload_n (pc := 36) hC dX4_mend_36 rfl ?_
      refine g_HB_now (pc := 37) hC wi_X4_mend_4 wl_X4_mend_19 kh (c2 := 1) kb_ (by decide) dX4_mend_37 ?_
      refine g_Blind_rows (pc := 40) hC wi_X4_mend_0 wl_X4_mend_72 kb_ (c2 := 9) k0_ (by decide) dX4_mend_40 ?_
      refine r_iload_n (pc := 43) hC dX4_mend_43 rfl ?_
      refine r_aald_Row (pc := 44) hC k0_ (xi_n (k := c) (by rw [l0_]; omega) (by rw [l0_]; decide)) (hrw_ c (by omega)).1 dX4_mend_44 ?_
      refine k_X2_patch (pc := 45) hC gX4_mend_X2_patch ⟨Nat.le_of_ble_eq_true rfl, Nat.le_of_ble_eq_true rfl⟩ (hrw_ c (by omega)).1 (Nat.le_of_ble_eq_true rfl) rfl ⟨Nat.zero_le _, Nat.zero_le _⟩ dX4_mend_45 ?_
      refine r_aload_n (pc := 48) hC dX4_mend_48 rfl ?_
      refine g_HB_now (pc := 49) hC wi_X4_mend_4 wl_X4_mend_19 kh (c2 := 1) kb_ (by decide) dX4_mend_49 ?_
      refine g_Blind_rows (pc := 52) hC wi_X4_mend_0 wl_X4_mend_72 kb_ (c2 := 9) k0_ (by decide) dX4_mend_52 ?_
      refine r_iload_n (pc := 55) hC dX4_mend_55 rfl ?_
      refine r_aald_Row (pc := 56) hC k0_ (xi_n (k := c) (by rw [l0_]; omega) (by rw [l0_]; decide)) (hrw_ c (by omega)).1 dX4_mend_56 ?_
      refine g_Row_wear (pc := 57) hC wi_X4_mend_2 wl_X4_mend_85 (hrw_ c (by omega)).1 dX4_mend_57 ?_
      refine r_iret (pc := 60) hC hD rfl dX4_mend_60 rfl ?_
      have ht1 : S (13 + 17 * c) = 1 := by rw [hL3] at bq26; exact hL01.resolve_left bq26
      have e2 : J33 (Q33 (Q33 (Q33 h 1) 0) c) 2 = S (12 + 17 * c) := (brw_ c hc).2.1
      obtain ⟨d1, d2⟩ := mend_ok (w := J33 (Q33 (Q33 (Q33 h 1) 0) c) 2 / 2) hbP_ hB0_ hinv0 hc
      rw [e2] at d1
      have hok : okMend S (nI c) = true := by rw [okMend, if_neg bq8, hcc, if_pos ht1]
      have eS : sMend S (nI c) = (upd (upd S (12 + 17 * c) (S (12 + 17 * c) / 2)) (13 + 17 * c) 0) := by rw [sMend, if_pos hok, hcc]
      have gP : bP Q33 (h + 3) := by rw [← w2]; exact hbP_
      have gR : bR (xu (xu J33 (Q33 (Q33 (Q33 h 1) 0) c) 2 (J33 (Q33 (Q33 (Q33 h 1) 0) c) 2 / 2)) (Q33 (Q33 (Q33 h 1) 0) c) 3 0) Q33 (h + 3) (upd (upd S (12 + 17 * c) (S (12 + 17 * c) / 2)) (13 + 17 * c) 0) n rq := by rw [← w2]; exact (by rw [e2]; exact d1)
      have gF : ∀ z, z < h + 3 ∨ h + 3 + 50 ≤ z → (xu (xu J33 (Q33 (Q33 (Q33 h 1) 0) c) 2 (J33 (Q33 (Q33 (Q33 h 1) 0) c) 2 / 2)) (Q33 (Q33 (Q33 h 1) 0) c) 3 0) z = J33 z := fun z hz => d2 z (by omega)
      have gG : ∀ z, z < h + 3 ∨ h + 3 + 50 ≤ z → Q33 z = Q33 z := fun z _ => rfl
      obtain ⟨g1, g2⟩ := oR_now rP33 rR33 gP gR gF gG
      exact ⟨by rw [aMend, if_neg bq8, hcc, if_pos ht1]; exact congrArg _ (congrArg _ (by rw [xu_ne (Or.inr (by decide)), xu_at, e2])), rfl, g1, fun _ => by rw [eS]; exact g2, fun e => absurd (hok.symm.trans e) (by decide), fun c hc => ⟨by rw [gF c (by omega)]; exact (rF33 c hc).1, by rw [gG c (by omega)]; exact (rF33 c hc).2⟩⟩
    · skip
      refine r_ldc (pc := 29) (v := -1000002) hC dX4_mend_29 wl_X4_mend_35 ?_
      refine r_iret (pc := 31) hC hD rfl dX4_mend_31 rfl ?_
      have ht0 : ¬ S (13 + 17 * c) = 1 := by rw [hL3] at bq26; rw [bq26]; decide
      have hok : okMend S (nI c) = false := by rw [okMend, if_neg bq8, hcc, if_neg ht0]
      exact ⟨by rw [aMend, if_neg bq8, hcc, if_neg ht0], rfl, hp, fun e => absurd (hok.symm.trans e) (by decide), fun _ => hr, fun c _ => ⟨rfl, rfl⟩⟩
  · skip
    refine r_ldc (pc := 11) (v := -1000001) hC dX4_mend_11 wl_X4_mend_57 ?_
    refine r_iret (pc := 13) hC hD rfl dX4_mend_13 rfl ?_
    have hok : okMend S r = false := by rw [okMend, if_pos bq8]
    exact ⟨by rw [aMend, if_pos bq8], rfl, hp, fun e => absurd (hok.symm.trans e) (by decide), fun _ => hr, fun c _ => ⟨rfl, rfl⟩⟩
theorem k_X4_mend {X : xF} {G : xG} {cs : Nat × Nat} {μ : xM} {I : xI} {P : xP} {L : List (Option Value)} {pc : Nat} {rest : List Value} {cc : ByteArray} {Ts : List Cond} {own : String} {nL : Nat} {R : Room} (hC : xC X G cc Ts own nL R) {index : Nat} (hG : GoodIn Ts (wsV own index RX4 yX4_mend wsX4_mend)) (hR : rm_X4_mend.frames + 1 ≤ R.frames ∧ 8 + (2 + 11) + rm_X4_mend.locals ≤ R.locals) {h n rq st t : Nat} {S tx : Nat → Int32} {H : Nat → Nat → Int32} {r : Int32} (kh : μ.2.1 h = 5) (hs : oS μ h) (hp : oP P h) (hr : oR I P h S n rq st H t tx) (hinv : invN S n rq) (hW : (rest.map fun v => v.category).sum ≤ 8) (hL : L.length = nL) (hcs : cs.1 ≤ R.cells ∧ cs.2 ≤ R.slots) (hdec : decode cc pc = .ok (.invokevirtual index, 3)) (kk : ∀ (I' : xI) (P' : xP), oP P' h → (okMend S r = true → oR I' P' h (sMend S r) n rq (xph st + 1) (pushH S st H) t tx) → (okMend S r = false → oR I' P' h S n rq st H t tx) → (∀ c, c < h ∨ h + 254 ≤ c → I' c = I c ∧ P' c = P c) → xg X G cs μ I' P' L (pc + 3) (.int (aMend S r) :: rest)) : xg X G cs μ I P L pc (.int r :: .ref (xZ G + h) :: rest) :=
  r_callV hC (c_X4_mend X.2.1 kh hs hp hr hinv) hG rfl rfl rfl hd_X4_mend hR (by rw [kh]; decide) (xe_HB kh) rfl rfl rfl hW hL hcs hdec (by rintro vv μ' I' P' ⟨rfl, rfl, h1, h2, h3, h4⟩; exact kk I' P' h1 h2 h3 h4)
abbrev rm_X4_route : Room := { frames := 4, cells := 0, slots := 0, locals := 91 }
theorem wl_X4_route_57 : Cond.constant RX4 57 (-1000001) ∈ wsX4_route := List.mem_of_getElem? (i := 3) (by decide +kernel)
theorem wl_X4_route_19 : Cond.fieldLink RX4 19 "HandBlinds" "now" "LHandBlinds$Blind;" ∈ wsX4_route := List.mem_of_getElem? (i := 1) (by decide +kernel)
theorem wi_X4_route_4 : ∀ w ∈ wsX40, w ∈ wsX4_route := fun _ h => List.mem_cons_of_mem _ (List.mem_append_left _ (List.mem_append_left _ (List.mem_append_left _ (List.mem_append_right _ h))))
theorem wl_X4_route_62 : Cond.fieldLink RX4 62 "HandBlinds$Blind" "rowCount" "I" ∈ wsX4_route := List.mem_of_getElem? (i := 2) (by decide +kernel)
theorem wi_X4_route_0 : ∀ w ∈ wsX00, w ∈ wsX4_route := fun _ h => List.mem_cons_of_mem _ (List.mem_append_left _ (List.mem_append_left _ (List.mem_append_right _ h)))
theorem wl_X4_route_95 : Cond.fieldLink RX4 95 "HandBlinds$Blind" "routeCount" "I" ∈ wsX4_route := List.mem_of_getElem? (i := 4) (by decide +kernel)
theorem wl_X4_route_98 : Cond.constant RX4 98 (-1000003) ∈ wsX4_route := List.mem_of_getElem? (i := 5) (by decide +kernel)
theorem hd_X4_route : yX4_route.cls = RX4 ∧ yX4_route.cls ≠ "java/lang/invoke/MethodHandle" ∧ yX4_route.cls ≠ "java/lang/invoke/VarHandle" ∧ (parseMethodDescriptor yX4_route.desc).map (fun d => d.parameters.length) = some 1 := ⟨rfl, by decide +kernel, by decide +kernel, by decide +kernel⟩
set_option maxHeartbeats 4000000 in
set_option maxRecDepth 100000 in
theorem c_X4_route (l : Launch) {G : xG} {μ : xM} {I : xI} {P : xP} {h n rq st t : Nat} {S tx : Nat → Int32} {H : Nat → Nat → Int32} {r : Int32} (kh : μ.2.1 h = 5) (hs : oS μ h) (hp : oP P h) (hr : oR I P h S n rq st H t tx) (hinv : invN S n rq) : Ct l yX4_route wsX4_route rm_X4_route G μ I P [.ref (xZ G + h), .int r] 0 0 (fun vv μ' I' P' => vv = some (.int (aRoute S r)) ∧ μ' = μ ∧ oP P' h ∧ (okRoute S r = true → oR I' P' h (sRoute S r) n (rq + 1) (xph st + 1) (pushH S st H) t tx) ∧ (okRoute S r = false → oR I' P' h S n rq st H t tx) ∧ (∀ c, c < h ∨ h + 254 ≤ c → I' c = I c ∧ P' c = P c)) := by
  obtain ⟨⟨u0, u1, u2, u3⟩, ⟨kx, ksg, lsg⟩, ⟨kb, hbS, hbP, hB⟩, ⟨kh2, lh2⟩, hist, ⟨hst, hst4⟩, ⟨ht, ht60⟩, htx⟩ := oF hs hp hr
  have hA := bA_of hbS hbP
  have hA0 := hA
  have hB0 := hB
  have hinv0 := hinv
  obtain ⟨⟨k0, l0⟩, ⟨k3, l3⟩, ⟨k6, l6⟩, hrw, hrt⟩ := hA
  have hrowf := fun {i : Nat} (hi : i < n) => bRow hB hinv hi
  obtain ⟨b1, b2, b4, b5, b7, b8, b9, b10, bst, brw, brt⟩ := hB
  obtain ⟨hn20, hn, hq6, hq, hcur, hdr, h8, h9, h10, hrows⟩ := hinv
  have b1n : I (P h 1) 1 = nI n := b1.trans hn
  have b4q : I (P h 1) 4 = nI rq := b4.trans hq
  have hro : ∀ r : Int32, (if r < 0 then (0 : Int32) else if I (P h 1) 1 ≤ r then 0 else 1) = isR r (S 0) := fun r => by rw [b1]; rfl
  have hrq : ∀ r : Int32, (if r < 0 then (0 : Int32) else if I (P h 1) 4 ≤ r then 0 else 1) = isR r (S 2) := fun r => by rw [b4]; rfl
  refine Ct.of (cc := cX4_route) (maxL := 2) (ret := (some .int)) [some (.ref (xZ G + h)), some (.int r)] (by decide) rfl rfl rfl (Nat.le_of_ble_eq_true rfl) ?_
  intro X hC hD h0 _
  refine r_iload_n (pc := 0) hC dX4_route_0 rfl ?_
  refine r_if_le (pc := 1) (tgt := 16) hC dX4_route_1 (by decide) (fun bq1 => ?_) (fun bq1 => ?_)
  · skip
    refine r_ldc (pc := 16) (v := -1000001) hC dX4_route_16 wl_X4_route_57 ?_
    refine r_iret (pc := 18) hC hD rfl dX4_route_18 rfl ?_
    have hi : inSet r (S 0) = 0 := inSet_0 (Or.inl bq1)
    have hok : okRoute S r = false := by rw [okRoute, if_pos hi]
    exact ⟨by rw [aRoute, if_pos hi], rfl, hp, fun e => absurd (hok.symm.trans e) (by decide), fun _ => hr, fun c _ => ⟨rfl, rfl⟩⟩
  · skip
    refine r_iload_n (pc := 4) hC dX4_route_4 rfl ?_
    refine r_aload_n (pc := 5) hC dX4_route_5 rfl ?_
    refine g_HB_now (pc := 6) hC wi_X4_route_4 wl_X4_route_19 (by assumption) (c2 := 1) (by assumption) (by decide) dX4_route_6 ?_
    refine g_Blind_rowCount (pc := 9) hC wi_X4_route_0 wl_X4_route_62 (by assumption) dX4_route_9 ?_
    refine r_ishr (pc := 12) hC dX4_route_12 ?_
    refine r_if_eq (pc := 13) (tgt := 19) hC dX4_route_13 (by decide) (fun bq13 => ?_) (fun bq13 => ?_)
    · skip
      refine r_aload_n (pc := 19) hC dX4_route_19 rfl ?_
      refine g_HB_now (pc := 20) hC wi_X4_route_4 wl_X4_route_19 (by assumption) (c2 := 1) (by assumption) (by decide) dX4_route_20 ?_
      refine g_Blind_routeCount (pc := 23) hC wi_X4_route_0 wl_X4_route_95 (by assumption) dX4_route_23 ?_
      refine r_bipush (pc := 26) (v := 6) hC dX4_route_26 (by decide) ?_
      refine r_icmp_lt (pc := 28) (tgt := 34) hC dX4_route_28 (by decide) (fun bq28 => ?_) (fun bq28 => ?_)
      · skip
        have hr6 : rq < 6 := (nI_ltI (b := 6) (by omega) (by decide)).mp (by rw [← b4q]; exact bq28)
        refine r_aload_n (pc := 34) hC dX4_route_34 rfl ?_
        refine k_X4_remember (pc := 35) hC gX4_route_X4_remember ⟨Nat.le_of_ble_eq_true rfl, Nat.le_of_ble_eq_true rfl⟩ kh hs hp hr hinv0 (Nat.le_of_ble_eq_true rfl) rfl ⟨Nat.zero_le _, Nat.zero_le _⟩ dX4_route_35 ?_
        intro J35 Q35 rP35 rR35 rF35
        obtain ⟨⟨w0, w1, w2, w3⟩, ⟨kx_, ksg_, lsg_⟩, ⟨kb_, hbS_, hbP_, hB_⟩, -, -, -, ⟨ht_, -⟩, htx_⟩ := oF hs rP35 rR35
        have hA_ := bA_of hbS_ hbP_
        have hA0_ := hA_
        have hB0_ := hB_
        obtain ⟨⟨k0_, l0_⟩, ⟨k3_, l3_⟩, ⟨k6_, l6_⟩, hrw_, hrt_⟩ := hA_
        have hrowf_ := fun {i : Nat} (hi : i < n) => bRow hB_ hinv0 hi
        obtain ⟨b1_, b2_, b4_, b5_, b7_, b8_, b9_, b10_, bst_, brw_, brt_⟩ := hB_
        have b1n_ : J35 (Q35 h 1) 1 = nI n := b1_.trans hn
        have b4q_ : J35 (Q35 h 1) 4 = nI rq := b4_.trans hq
        refine r_aload_n (pc := 38) hC dX4_route_38 rfl ?_
        refine g_HB_now (pc := 39) hC wi_X4_route_4 wl_X4_route_19 kh (c2 := 1) kb_ (by decide) dX4_route_39 ?_
        refine r_iload_n (pc := 42) hC dX4_route_42 rfl ?_
        refine k_X0_appendRoute (pc := 43) hC gX4_route_X0_appendRoute ⟨Nat.le_of_ble_eq_true rfl, Nat.le_of_ble_eq_true rfl⟩ kb_ hbS_ hbP_ hB0_ hinv0 hr6 (Nat.le_of_ble_eq_true rfl) rfl ⟨Nat.zero_le _, Nat.zero_le _⟩ dX4_route_43 ?_
        intro J43 rR43 rF43
        refine r_iret (pc := 46) hC hD rfl dX4_route_46 rfl ?_
        have hi : ¬ inSet r (S 0) = 0 := by rw [hn]; exact inSet_D hn20 bq1 (by rw [← b1n]; exact bq13)
        have h6 : ¬ S 2 = 6 := by rw [hq]; exact fun e => by have := (nI_eq (a := rq) (b := 6) (by omega) (by decide)).mp e; omega
        have hcq : (S 2).toNatClampNeg = rq := by rw [hq, nI_clamp (by omega)]
        have hok : okRoute S r = true := by rw [okRoute, if_neg hi, if_neg h6]
        have eS : sRoute S r = (rtS S rq r) := by rw [sRoute, if_pos hok, hcq]; rfl
        have gP : bP Q35 (h + 3) := by rw [← w2]; exact hbP_
        have gR : bR (J43) Q35 (h + 3) (rtS S rq r) n (rq + 1) := by rw [← w2]; exact rR43
        have gF : ∀ z, z < h + 3 ∨ h + 3 + 50 ≤ z → (J43) z = J35 z := fun z hz => rF43 z (by omega)
        have gG : ∀ z, z < h + 3 ∨ h + 3 + 50 ≤ z → Q35 z = Q35 z := fun z _ => rfl
        obtain ⟨g1, g2⟩ := oR_now rP35 rR35 gP gR gF gG
        exact ⟨by rw [aRoute, if_neg hi, if_neg h6, hq], rfl, g1, fun _ => by rw [eS]; exact g2, fun e => absurd (hok.symm.trans e) (by decide), fun c hc => ⟨by rw [gF c (by omega)]; exact (rF35 c hc).1, by rw [gG c (by omega)]; exact (rF35 c hc).2⟩⟩
      · skip
        refine r_ldc (pc := 31) (v := -1000003) hC dX4_route_31 wl_X4_route_98 ?_
        refine r_iret (pc := 33) hC hD rfl dX4_route_33 rfl ?_
        have hi : ¬ inSet r (S 0) = 0 := by rw [hn]; exact inSet_D hn20 bq1 (by rw [← b1n]; exact bq13)
        have h6 : S 2 = 6 := by
          have w : ¬ rq < 6 := fun w => bq28 (by rw [b4q]; exact nI_lt (b := 6) w (by decide))
          rw [hq, show rq = 6 by omega]; rfl
        have hok : okRoute S r = false := by rw [okRoute, if_neg hi, if_pos h6]
        exact ⟨by rw [aRoute, if_neg hi, if_pos h6], rfl, hp, fun e => absurd (hok.symm.trans e) (by decide), fun _ => hr, fun c _ => ⟨rfl, rfl⟩⟩
    · skip
      refine r_ldc (pc := 16) (v := -1000001) hC dX4_route_16 wl_X4_route_57 ?_
      refine r_iret (pc := 18) hC hD rfl dX4_route_18 rfl ?_
      have hi : inSet r (S 0) = 0 := by rw [hn]; exact inSet_C hn20 bq1 (by rw [← b1n]; exact bq13)
      have hok : okRoute S r = false := by rw [okRoute, if_pos hi]
      exact ⟨by rw [aRoute, if_pos hi], rfl, hp, fun e => absurd (hok.symm.trans e) (by decide), fun _ => hr, fun c _ => ⟨rfl, rfl⟩⟩
theorem k_X4_route {X : xF} {G : xG} {cs : Nat × Nat} {μ : xM} {I : xI} {P : xP} {L : List (Option Value)} {pc : Nat} {rest : List Value} {cc : ByteArray} {Ts : List Cond} {own : String} {nL : Nat} {R : Room} (hC : xC X G cc Ts own nL R) {index : Nat} (hG : GoodIn Ts (wsV own index RX4 yX4_route wsX4_route)) (hR : rm_X4_route.frames + 1 ≤ R.frames ∧ 8 + (2 + 11) + rm_X4_route.locals ≤ R.locals) {h n rq st t : Nat} {S tx : Nat → Int32} {H : Nat → Nat → Int32} {r : Int32} (kh : μ.2.1 h = 5) (hs : oS μ h) (hp : oP P h) (hr : oR I P h S n rq st H t tx) (hinv : invN S n rq) (hW : (rest.map fun v => v.category).sum ≤ 8) (hL : L.length = nL) (hcs : cs.1 ≤ R.cells ∧ cs.2 ≤ R.slots) (hdec : decode cc pc = .ok (.invokevirtual index, 3)) (kk : ∀ (I' : xI) (P' : xP), oP P' h → (okRoute S r = true → oR I' P' h (sRoute S r) n (rq + 1) (xph st + 1) (pushH S st H) t tx) → (okRoute S r = false → oR I' P' h S n rq st H t tx) → (∀ c, c < h ∨ h + 254 ≤ c → I' c = I c ∧ P' c = P c) → xg X G cs μ I' P' L (pc + 3) (.int (aRoute S r) :: rest)) : xg X G cs μ I P L pc (.int r :: .ref (xZ G + h) :: rest) :=
  r_callV hC (c_X4_route X.2.1 kh hs hp hr hinv) hG rfl rfl rfl hd_X4_route hR (by rw [kh]; decide) (xe_HB kh) rfl rfl rfl hW hL hcs hdec (by rintro vv μ' I' P' ⟨rfl, rfl, h1, h2, h3, h4⟩; exact kk I' P' h1 h2 h3 h4)
abbrev rm_X4_set : Room := { frames := 4, cells := 0, slots := 0, locals := 91 }
theorem wl_X4_set_57 : Cond.constant RX4 57 (-1000001) ∈ wsX4_set := List.mem_of_getElem? (i := 3) (by decide +kernel)
theorem wl_X4_set_111 : Cond.fieldLink RX4 111 "HandBlinds" "LEAST" "[I" ∈ wsX4_set := List.mem_of_getElem? (i := 1) (by decide +kernel)
theorem wl_X4_set_115 : Cond.fieldLink RX4 115 "HandBlinds" "MOST" "[I" ∈ wsX4_set := List.mem_of_getElem? (i := 2) (by decide +kernel)
theorem wl_X4_set_19 : Cond.fieldLink RX4 19 "HandBlinds" "now" "LHandBlinds$Blind;" ∈ wsX4_set := List.mem_of_getElem? (i := 4) (by decide +kernel)
theorem wi_X4_set_4 : ∀ w ∈ wsX40, w ∈ wsX4_set := fun _ h => List.mem_cons_of_mem _ (List.mem_append_left _ (List.mem_append_left _ (List.mem_append_left _ (List.mem_append_right _ h))))
theorem wl_X4_set_118 : Cond.fieldLink RX4 118 "HandBlinds$Blind" "settings" "[I" ∈ wsX4_set := List.mem_of_getElem? (i := 5) (by decide +kernel)
theorem wi_X4_set_0 : ∀ w ∈ wsX00, w ∈ wsX4_set := fun _ h => List.mem_cons_of_mem _ (List.mem_append_left _ (List.mem_append_left _ (List.mem_append_right _ h)))
theorem hd_X4_set : yX4_set.cls = RX4 ∧ yX4_set.cls ≠ "java/lang/invoke/MethodHandle" ∧ yX4_set.cls ≠ "java/lang/invoke/VarHandle" ∧ (parseMethodDescriptor yX4_set.desc).map (fun d => d.parameters.length) = some 2 := ⟨rfl, by decide +kernel, by decide +kernel, by decide +kernel⟩
set_option maxHeartbeats 4000000 in
set_option maxRecDepth 100000 in
theorem c_X4_set (l : Launch) {G : xG} {μ : xM} {I : xI} {P : xP} {h n rq st t : Nat} {S tx : Nat → Int32} {H : Nat → Nat → Int32} {w v : Int32} (kh : μ.2.1 h = 5) (hs : oS μ h) (hp : oP P h) (hr : oR I P h S n rq st H t tx) (hinv : invN S n rq) : Ct l yX4_set wsX4_set rm_X4_set G μ I P [.ref (xZ G + h), .int w, .int v] 0 0 (fun vv μ' I' P' => vv = some (.int (aSet S w v)) ∧ μ' = μ ∧ oP P' h ∧ (okSet w v = true → oR I' P' h (sSet S w v) n rq (xph st + 1) (pushH S st H) t tx) ∧ (okSet w v = false → oR I' P' h S n rq st H t tx) ∧ (∀ c, c < h ∨ h + 254 ≤ c → I' c = I c ∧ P' c = P c)) := by
  obtain ⟨⟨u0, u1, u2, u3⟩, ⟨kx, ksg, lsg⟩, ⟨kb, hbS, hbP, hB⟩, ⟨kh2, lh2⟩, hist, ⟨hst, hst4⟩, ⟨ht, ht60⟩, htx⟩ := oF hs hp hr
  have hA := bA_of hbS hbP
  have hA0 := hA
  have hB0 := hB
  have hinv0 := hinv
  obtain ⟨⟨k0, l0⟩, ⟨k3, l3⟩, ⟨k6, l6⟩, hrw, hrt⟩ := hA
  have hrowf := fun {i : Nat} (hi : i < n) => bRow hB hinv hi
  obtain ⟨b1, b2, b4, b5, b7, b8, b9, b10, bst, brw, brt⟩ := hB
  obtain ⟨hn20, hn, hq6, hq, hcur, hdr, h8, h9, h10, hrows⟩ := hinv
  have b1n : I (P h 1) 1 = nI n := b1.trans hn
  have b4q : I (P h 1) 4 = nI rq := b4.trans hq
  have hro : ∀ r : Int32, (if r < 0 then (0 : Int32) else if I (P h 1) 1 ≤ r then 0 else 1) = isR r (S 0) := fun r => by rw [b1]; rfl
  have hrq : ∀ r : Int32, (if r < 0 then (0 : Int32) else if I (P h 1) 4 ≤ r then 0 else 1) = isR r (S 2) := fun r => by rw [b4]; rfl
  refine Ct.of (cc := cX4_set) (maxL := 4) (ret := (some .int)) [some (.ref (xZ G + h)), some (.int w), some (.int v), none] (by decide) rfl rfl rfl (Nat.le_of_ble_eq_true rfl) ?_
  intro X hC hD h0 _
  refine r_iload_n (pc := 0) hC dX4_set_0 rfl ?_
  refine r_if_lt (pc := 1) (tgt := 27) hC dX4_set_1 (by decide) (fun bq1 => ?_) (fun bq1 => ?_)
  · skip
    refine r_ldc (pc := 27) (v := -1000001) hC dX4_set_27 wl_X4_set_57 ?_
    refine r_iret (pc := 29) hC hD rfl dX4_set_29 rfl ?_
    have hi : inr w 0 2 = 0 := by rw [inr, if_pos bq1]
    have hok : okSet w v = false := by rw [okSet, if_pos hi]
    exact ⟨by rw [aSet, if_neg (by rw [hok]; decide)], rfl, hp, fun e => absurd (hok.symm.trans e) (by decide), fun _ => hr, fun c _ => ⟨rfl, rfl⟩⟩
  · skip
    refine r_iload_n (pc := 4) hC dX4_set_4 rfl ?_
    refine r_iconst (pc := 5) (v := 3) hC dX4_set_5 (by decide) ?_
    refine r_icmp_ge (pc := 6) (tgt := 27) hC dX4_set_6 (by decide) (fun bq6 => ?_) (fun bq6 => ?_)
    · skip
      refine r_ldc (pc := 27) (v := -1000001) hC dX4_set_27 wl_X4_set_57 ?_
      refine r_iret (pc := 29) hC hD rfl dX4_set_29 rfl ?_
      have hi : inr w 0 2 = 0 := by rw [inr, if_neg bq1, if_pos (in2_C bq6)]
      have hok : okSet w v = false := by rw [okSet, if_pos hi]
      exact ⟨by rw [aSet, if_neg (by rw [hok]; decide)], rfl, hp, fun e => absurd (hok.symm.trans e) (by decide), fun _ => hr, fun c _ => ⟨rfl, rfl⟩⟩
    · skip
      obtain ⟨c, hc, rfl⟩ := in2_E bq1 bq6
      have hcc : (nI c).toNatClampNeg = c := nI_clamp (by omega)
      refine r_iload_n (pc := 9) hC dX4_set_9 rfl ?_
      refine r_gLEAST (pc := 10) hC wl_X4_set_111 dX4_set_10 ?_
      refine r_iload_n (pc := 13) hC dX4_set_13 rfl ?_
      refine r_tLEAST (pc := 14) hC hc dX4_set_14 ?_
      refine r_icmp_lt (pc := 15) (tgt := 27) hC dX4_set_15 (by decide) (fun bq15 => ?_) (fun bq15 => ?_)
      · skip
        refine r_ldc (pc := 27) (v := -1000001) hC dX4_set_27 wl_X4_set_57 ?_
        refine r_iret (pc := 29) hC hD rfl dX4_set_29 rfl ?_
        have hok : okSet (nI c) v = false := by rw [okSet, if_neg (in2_D hc), show inr v (setLo (nI c)) (setHi (nI c)) = 0 from by rw [inr, if_pos bq15], if_pos rfl]
        exact ⟨by rw [aSet, if_neg (by rw [hok]; decide)], rfl, hp, fun e => absurd (hok.symm.trans e) (by decide), fun _ => hr, fun c _ => ⟨rfl, rfl⟩⟩
      · skip
        refine r_iload_n (pc := 18) hC dX4_set_18 rfl ?_
        refine r_gMOST (pc := 19) hC wl_X4_set_115 dX4_set_19 ?_
        refine r_iload_n (pc := 22) hC dX4_set_22 rfl ?_
        refine r_tMOST (pc := 23) hC hc dX4_set_23 ?_
        refine r_icmp_le (pc := 24) (tgt := 30) hC dX4_set_24 (by decide) (fun bq24 => ?_) (fun bq24 => ?_)
        · skip
          refine r_aload_n (pc := 30) hC dX4_set_30 rfl ?_
          refine k_X4_remember (pc := 31) hC gX4_set_X4_remember ⟨Nat.le_of_ble_eq_true rfl, Nat.le_of_ble_eq_true rfl⟩ kh hs hp hr hinv0 (Nat.le_of_ble_eq_true rfl) rfl ⟨Nat.zero_le _, Nat.zero_le _⟩ dX4_set_31 ?_
          intro J31 Q31 rP31 rR31 rF31
          obtain ⟨⟨w0, w1, w2, w3⟩, ⟨kx_, ksg_, lsg_⟩, ⟨kb_, hbS_, hbP_, hB_⟩, -, -, -, ⟨ht_, -⟩, htx_⟩ := oF hs rP31 rR31
          have hA_ := bA_of hbS_ hbP_
          have hA0_ := hA_
          have hB0_ := hB_
          obtain ⟨⟨k0_, l0_⟩, ⟨k3_, l3_⟩, ⟨k6_, l6_⟩, hrw_, hrt_⟩ := hA_
          have hrowf_ := fun {i : Nat} (hi : i < n) => bRow hB_ hinv0 hi
          obtain ⟨b1_, b2_, b4_, b5_, b7_, b8_, b9_, b10_, bst_, brw_, brt_⟩ := hB_
          have b1n_ : J31 (Q31 h 1) 1 = nI n := b1_.trans hn
          have b4q_ : J31 (Q31 h 1) 4 = nI rq := b4_.trans hq
          refine r_aload_n (pc := 34) hC dX4_set_34 rfl ?_
          refine g_HB_now (pc := 35) hC wi_X4_set_4 wl_X4_set_19 kh (c2 := 1) kb_ (by decide) dX4_set_35 ?_
          refine g_Blind_settings (pc := 38) hC wi_X4_set_0 wl_X4_set_118 kb_ (c2 := 7) k6_ (by decide) dX4_set_38 ?_
          refine r_iload_n (pc := 41) hC dX4_set_41 rfl ?_
          refine r_iald (pc := 42) hC k6_ (xi_n (k := c) (by rw [l6_]; omega) (by rw [l6_]; decide)) dX4_set_42 ?_
          refine r_istore_n (pc := 43) (L' := [_, _, _, _]) hC dX4_set_43 rfl (Nat.le_of_ble_eq_true rfl) rfl ?_
          refine r_aload_n (pc := 44) hC dX4_set_44 rfl ?_
          refine g_HB_now (pc := 45) hC wi_X4_set_4 wl_X4_set_19 kh (c2 := 1) kb_ (by decide) dX4_set_45 ?_
          refine g_Blind_settings (pc := 48) hC wi_X4_set_0 wl_X4_set_118 kb_ (c2 := 7) k6_ (by decide) dX4_set_48 ?_
          refine r_iload_n (pc := 51) hC dX4_set_51 rfl ?_
          refine r_iload_n (pc := 52) hC dX4_set_52 rfl ?_
          refine r_iast (pc := 53) hC k6_ (xi_n (k := c) (by rw [l6_]; omega) (by rw [l6_]; decide)) dX4_set_53 ?_
          refine r_iload_n (pc := 54) hC dX4_set_54 rfl ?_
          refine r_iret (pc := 55) hC hD rfl dX4_set_55 rfl ?_
          obtain ⟨d1, d2⟩ := set_ok (v := v) hbP_ hB0_ hinv0 hc
          have hok : okSet (nI c) v = true := by rw [okSet, if_neg (in2_D hc), show inr v (setLo (nI c)) (setHi (nI c)) = 1 from by rw [inr, if_neg bq15, if_neg (Int32.not_lt.mpr bq24)], if_neg (by decide)]
          have eS : sSet S (nI c) v = (upd S (8 + c) v) := by rw [sSet, if_pos hok, hcc]
          have gP : bP Q31 (h + 3) := by rw [← w2]; exact hbP_
          have gR : bR (xu J31 (Q31 (Q31 h 1) 6) c v) Q31 (h + 3) (upd S (8 + c) v) n rq := by rw [← w2]; exact d1
          have gF : ∀ z, z < h + 3 ∨ h + 3 + 50 ≤ z → (xu J31 (Q31 (Q31 h 1) 6) c v) z = J31 z := fun z hz => d2 z (by omega)
          have gG : ∀ z, z < h + 3 ∨ h + 3 + 50 ≤ z → Q31 z = Q31 z := fun z _ => rfl
          obtain ⟨g1, g2⟩ := oR_now rP31 rR31 gP gR gF gG
          exact ⟨by rw [aSet, if_pos hok, hcc]; exact congrArg _ (congrArg _ (bst_ c hc)), rfl, g1, fun _ => by rw [eS]; exact g2, fun e => absurd (hok.symm.trans e) (by decide), fun c hc => ⟨by rw [gF c (by omega)]; exact (rF31 c hc).1, by rw [gG c (by omega)]; exact (rF31 c hc).2⟩⟩
        · skip
          refine r_ldc (pc := 27) (v := -1000001) hC dX4_set_27 wl_X4_set_57 ?_
          refine r_iret (pc := 29) hC hD rfl dX4_set_29 rfl ?_
          have hok : okSet (nI c) v = false := by rw [okSet, if_neg (in2_D hc), show inr v (setLo (nI c)) (setHi (nI c)) = 0 from by rw [inr, if_neg bq15, if_pos (Int32.not_le.mp bq24)], if_pos rfl]
          exact ⟨by rw [aSet, if_neg (by rw [hok]; decide)], rfl, hp, fun e => absurd (hok.symm.trans e) (by decide), fun _ => hr, fun c _ => ⟨rfl, rfl⟩⟩
theorem k_X4_set {X : xF} {G : xG} {cs : Nat × Nat} {μ : xM} {I : xI} {P : xP} {L : List (Option Value)} {pc : Nat} {rest : List Value} {cc : ByteArray} {Ts : List Cond} {own : String} {nL : Nat} {R : Room} (hC : xC X G cc Ts own nL R) {index : Nat} (hG : GoodIn Ts (wsV own index RX4 yX4_set wsX4_set)) (hR : rm_X4_set.frames + 1 ≤ R.frames ∧ 8 + (4 + 11) + rm_X4_set.locals ≤ R.locals) {h n rq st t : Nat} {S tx : Nat → Int32} {H : Nat → Nat → Int32} {w v : Int32} (kh : μ.2.1 h = 5) (hs : oS μ h) (hp : oP P h) (hr : oR I P h S n rq st H t tx) (hinv : invN S n rq) (hW : (rest.map fun v => v.category).sum ≤ 8) (hL : L.length = nL) (hcs : cs.1 ≤ R.cells ∧ cs.2 ≤ R.slots) (hdec : decode cc pc = .ok (.invokevirtual index, 3)) (kk : ∀ (I' : xI) (P' : xP), oP P' h → (okSet w v = true → oR I' P' h (sSet S w v) n rq (xph st + 1) (pushH S st H) t tx) → (okSet w v = false → oR I' P' h S n rq st H t tx) → (∀ c, c < h ∨ h + 254 ≤ c → I' c = I c ∧ P' c = P c) → xg X G cs μ I' P' L (pc + 3) (.int (aSet S w v) :: rest)) : xg X G cs μ I P L pc (.int v :: .int w :: .ref (xZ G + h) :: rest) :=
  r_callV hC (c_X4_set X.2.1 kh hs hp hr hinv) hG rfl rfl rfl hd_X4_set hR (by rw [kh]; decide) (xe_HB kh) rfl rfl rfl hW hL hcs hdec (by rintro vv μ' I' P' ⟨rfl, rfl, h1, h2, h3, h4⟩; exact kk I' P' h1 h2 h3 h4)
