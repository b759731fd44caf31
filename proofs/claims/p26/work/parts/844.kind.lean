theorem i64_inj {x y : Int32} (h : x.toInt64 = y.toInt64) : x = y := by
  have e := congrArg Int64.toInt h
  rw [Int32.toInt_toInt64, Int32.toInt_toInt64] at e
  exact Int32.toInt_inj.mp e
theorem wd_0 : ∀ k, k < 5 → ((0x4445504f54 : Int64) >>> (((8 : Int32) * (nI 5 - 1 - nI k)).toInt64 &&& 63)) &&& 255 = (sch 0 k).toInt64 := by
  have key : ∀ k : Fin 5, ((0x4445504f54 : Int64) >>> (((8 : Int32) * (nI 5 - 1 - nI k.1)).toInt64 &&& 63)) &&& 255 = (sch 0 k.1).toInt64 := by decide +kernel
  exact fun k hk => key ⟨k, hk⟩
theorem wd_1 : ∀ k, k < 5 → ((0x534f525259 : Int64) >>> (((8 : Int32) * (nI 5 - 1 - nI k)).toInt64 &&& 63)) &&& 255 = (sch 1 k).toInt64 := by
  have key : ∀ k : Fin 5, ((0x534f525259 : Int64) >>> (((8 : Int32) * (nI 5 - 1 - nI k.1)).toInt64 &&& 63)) &&& 255 = (sch 1 k.1).toInt64 := by decide +kernel
  exact fun k hk => key ⟨k, hk⟩
theorem wd_2 : ∀ k, k < 7 → ((0x50524956415445 : Int64) >>> (((8 : Int32) * (nI 7 - 1 - nI k)).toInt64 &&& 63)) &&& 255 = (sch 2 k).toInt64 := by
  have key : ∀ k : Fin 7, ((0x50524956415445 : Int64) >>> (((8 : Int32) * (nI 7 - 1 - nI k.1)).toInt64 &&& 63)) &&& 255 = (sch 2 k.1).toInt64 := by decide +kernel
  exact fun k hk => key ⟨k, hk⟩
theorem nmd_is {f : Nat → Int32} {n i z : Nat} (hz : slen i = z) : nmd f n i = (decide (n = z) && eqN f (sch i) z) := by
  subst hz
  unfold nmd
  by_cases e : n = slen i
  · rw [e]
  · rw [decide_eq_false e, Bool.false_and, Bool.false_and]
theorem kd_eq {S : Nat → Int32} {n q r : Nat} (hi : invN S n q) (hr : r < n) : sKind S r = if (decide (sLen S r = 5) && eqN (sLet S r) (sch 0) 5) = true then 1 else if (decide (sLen S r = 5) && eqN (sLet S r) (sch 1) 5) = true then 2 else if (decide (sLen S r = 7) && eqN (sLet S r) (sch 2) 7) = true then 3 else if sLen S r = 1 then 4 else 0 := by
  obtain ⟨L, h1, h2, h3, h4, -⟩ := hi.2.2.2.2.2.2.2.2.2 r hr
  have hL := sLen_of h3 (show L < 2 ^ 31 by omega)
  unfold sKind kindL
  rw [hL]
  have n1 : nI L = 1 ↔ L = 1 := nI_eq (b := 1) (by omega) (by decide)
  simp only [nml_0 h4 h1, nml_1 h4 h1, nml_2 h4 h1, n1, nmd_is (i := 0) (z := 5) rfl, nmd_is (i := 1) (z := 5) rfl, nmd_is (i := 2) (z := 7) rfl]
theorem wid_n {S : Nat → Int32} {n q r : Nat} (hi : invN S n q) (hr : r < n) : ∃ w, w ≤ 60 ∧ sWid S r = nI w := by
  obtain ⟨L, h1, h2, h3, h4⟩ := row_ok hi hr
  have key : ∀ m, ∃ w, w ≤ 3 * m ∧ wsum (sLet S r) m = nI w := by
    intro m
    induction m with
    | zero => exact ⟨0, by omega, rfl⟩
    | succ m ih =>
      obtain ⟨w, h5, h6⟩ := ih
      have hl : ∃ z, z ≤ 3 ∧ lw (sLet S r m) = nI z := by
        unfold lw
        split
        · exact ⟨1, by decide, rfl⟩
        · split
          · exact ⟨1, by decide, rfl⟩
          · split
            · exact ⟨3, by decide, rfl⟩
            · split
              · exact ⟨3, by decide, rfl⟩
              · exact ⟨2, by decide, rfl⟩
      obtain ⟨z, hz, e⟩ := hl
      exact ⟨w + z, by omega, by rw [wsum, h6, e, nI_add]⟩
  obtain ⟨w, h5, h6⟩ := key (sLen S r)
  exact ⟨w, by omega, h6⟩
theorem on_0 {S : Nat → Int32} (h : S 3 < 0) : sOn S = false := by unfold sOn; exact decide_eq_false (Int32.not_le.mpr h)
theorem on_1 {S : Nat → Int32} {d : Nat} (h : S 3 = nI d) (hd : d < 2 ^ 31) : sOn S = true ∧ sDrv S = d := by
  unfold sOn sDrv
  rw [h, nI_clamp hd]
  exact ⟨decide_eq_true (nI_pos' hd), rfl⟩
abbrev rm_L_width : Room := { frames := 1, cells := 0, slots := 0, locals := 23 }
theorem hd_L_width : yL_width.cls = RL ∧ yL_width.cls ≠ "java/lang/invoke/MethodHandle" ∧ yL_width.cls ≠ "java/lang/invoke/VarHandle" ∧ (parseMethodDescriptor yL_width.desc).map (fun d => d.parameters.length) = some 3 := ⟨rfl, by decide +kernel, by decide +kernel, by decide +kernel⟩
set_option maxHeartbeats 4000000 in
set_option maxRecDepth 100000 in
theorem c_L_width (l : Launch) {G : xG} {μ : xM} {I : xI} {P : xP} {n rq : Nat} {S : Nat → Int32} {row : Nat} (hK : lK μ) (hA : lA I P S n rq) (hi : invN S n rq) (hr : row < n) : Ct l yL_width wsL_width rm_L_width G μ I P [.ref (xZ G + 256), .ref (xZ G + 259), .int (nI row)] 0 0 (fun vv μ' I' P' => vv = some (.int (sWid S row)) ∧ μ' = μ ∧ I' = (I) ∧ P' = (P)) := by
  have hK0 := hK
  have hA0 := hA
  have hi0 := hi
  obtain ⟨ko, hS, ⟨kg, ng⟩, ⟨kl, nl⟩, ⟨kw, nw⟩, ⟨ku, nu⟩, ⟨kc, nc⟩, ⟨kr, nr⟩⟩ := hK
  obtain ⟨ag, ar, at_⟩ := hA
  obtain ⟨hn20, hn, hq6, hq, hcur, hdr, h8, h9, h10, hrows⟩ := hi
  obtain ⟨hl, hl1, hl14⟩ := row_len hi0 hr
  refine Ct.of (cc := cL_width) (maxL := 5) (ret := (some .int)) [some (.ref (xZ G + 256)), some (.ref (xZ G + 259)), some (.int (nI row)), none, none] (by decide) rfl rfl rfl (Nat.le_of_ble_eq_true rfl) ?_
  intro X hC hD h0 _
  have loop : ∀ (q k : Nat), k + q = sLen S row → xg X G (0, 0) μ I P [some (.ref (xZ G + 256)), some (.ref (xZ G + 259)), some (.int (nI row)), some (.int (wsum (sLet S row) k)), some (.int (nI k))] 5 [] := by
    intro q
    induction q with
    | zero =>
      intro k hk
      refine r_iload (pc := 5) hC dL_width_5 rfl ?_
      refine r_aload_n (pc := 7) hC dL_width_7 rfl ?_
      refine r_iload_n (pc := 8) hC dL_width_8 rfl ?_
      refine r_iald (pc := 9) hC kl (xi_n (k := row) (by rw [nl]; omega) (by rw [nl]; decide)) dL_width_9 ?_
      rw [(ar row hr).1, hl]
      refine r_icmp_ge (pc := 10) (tgt := 32) hC dL_width_10 (by decide) (fun bq10 => ?_) (fun bq10 => ?_)
      · skip
        refine r_iload_n (pc := 32) hC dL_width_32 rfl ?_
        refine r_iret (pc := 33) hC hD rfl dL_width_33 rfl ?_
        have ek : k = sLen S row := by omega
        exact ⟨by rw [ek]; rfl, rfl, rfl, rfl⟩
      · skip
        exact absurd (nI_le (by omega) (by omega)) bq10
    | succ q ih =>
      intro k hk
      refine r_iload (pc := 5) hC dL_width_5 rfl ?_
      refine r_aload_n (pc := 7) hC dL_width_7 rfl ?_
      refine r_iload_n (pc := 8) hC dL_width_8 rfl ?_
      refine r_iald (pc := 9) hC kl (xi_n (k := row) (by rw [nl]; omega) (by rw [nl]; decide)) dL_width_9 ?_
      rw [(ar row hr).1, hl]
      refine r_icmp_ge (pc := 10) (tgt := 32) hC dL_width_10 (by decide) (fun bq10 => ?_) (fun bq10 => ?_)
      · skip
        exact absurd bq10 (nI_ge (by omega) (by omega))
      · skip
        refine r_iload_n (pc := 13) hC dL_width_13 rfl ?_
        refine r_aload_n (pc := 14) hC dL_width_14 rfl ?_
        refine r_iload_n (pc := 15) hC dL_width_15 rfl ?_
        refine r_iload (pc := 16) hC dL_width_16 rfl ?_
        refine k_L_sign (pc := 18) hC gL_width_L_sign ⟨Nat.le_of_ble_eq_true rfl, Nat.le_of_ble_eq_true rfl⟩ hK0 hA0 hi0 hr (by omega) (Nat.le_of_ble_eq_true rfl) rfl ⟨Nat.zero_le _, Nat.zero_le _⟩ dL_width_18 ?_
        refine k_L_wide (pc := 21) hC gL_width_L_wide ⟨Nat.le_of_ble_eq_true rfl, Nat.le_of_ble_eq_true rfl⟩  (Nat.le_of_ble_eq_true rfl) rfl ⟨Nat.zero_le _, Nat.zero_le _⟩ dL_width_21 ?_
        refine r_iadd (pc := 24) hC dL_width_24 ?_
        refine r_istore_n (pc := 25) (L' := [_, _, _, _, _]) hC dL_width_25 rfl (Nat.le_of_ble_eq_true rfl) rfl ?_
        refine r_iinc (pc := 26) (v := 1) (L' := [_, _, _, _, _]) hC dL_width_26 rfl (by decide) rfl rfl ?_
        refine r_goto (pc := 29) (tgt := 5) hC dL_width_29 (by decide) ?_
        rw [nI_1]; exact ih (k + 1) (by omega)
  refine r_iconst (pc := 0) (v := 0) hC dL_width_0 (by decide) ?_
  refine r_istore_n (pc := 1) (L' := [_, _, _, _, _]) hC dL_width_1 rfl (Nat.le_of_ble_eq_true rfl) rfl ?_
  refine r_iconst (pc := 2) (v := 0) hC dL_width_2 (by decide) ?_
  refine r_istore (pc := 3) (L' := [_, _, _, _, _]) hC dL_width_3 rfl (Nat.le_of_ble_eq_true rfl) rfl ?_
  exact loop (sLen S row) 0 (by omega)
theorem k_L_width {X : xF} {G : xG} {cs : Nat × Nat} {μ : xM} {I : xI} {P : xP} {L : List (Option Value)} {pc : Nat} {rest : List Value} {cc : ByteArray} {Ts : List Cond} {own : String} {nL : Nat} {R : Room} (hC : xC X G cc Ts own nL R) {index : Nat} (hG : GoodIn Ts (va_wsS own index yL_width wsL_width)) (hR : rm_L_width.frames + 1 ≤ R.frames ∧ 8 + (5 + 11) + rm_L_width.locals ≤ R.locals) {n rq : Nat} {S : Nat → Int32} {row : Nat} (hK : lK μ) (hA : lA I P S n rq) (hi : invN S n rq) (hr : row < n) (hW : (rest.map fun v => v.category).sum ≤ 8) (hL : L.length = nL) (hcs : cs.1 ≤ R.cells ∧ cs.2 ≤ R.slots) (hdec : decode cc pc = .ok (.invokestatic index, 3)) (kk : xg X G cs μ I P L (pc + 3) (.int (sWid S row) :: rest)) : xg X G cs μ I P L pc (.int (nI row) :: .ref (xZ G + 259) :: .ref (xZ G + 256) :: rest) :=
  r_callS hC (c_L_width X.2.1 hK hA hi hr) hG rfl rfl rfl hd_L_width.2 hR rfl rfl hW hL hcs hdec (by rintro v μ' I' P' ⟨rfl, rfl, rfl, rfl⟩; exact kk)
abbrev rm_L_is : Room := { frames := 1, cells := 0, slots := 0, locals := 23 }
theorem wl_L_is_21 : Cond.constantLong RL 21 (255) ∈ wsL_is := List.mem_of_getElem? (i := 1) (by decide +kernel)
theorem hd_L_is : yL_is.cls = RL ∧ yL_is.cls ≠ "java/lang/invoke/MethodHandle" ∧ yL_is.cls ≠ "java/lang/invoke/VarHandle" ∧ (parseMethodDescriptor yL_is.desc).map (fun d => d.parameters.length) = some 5 := ⟨rfl, by decide +kernel, by decide +kernel, by decide +kernel⟩
set_option maxHeartbeats 4000000 in
set_option maxRecDepth 100000 in
theorem c_L_is (l : Launch) {G : xG} {μ : xM} {I : xI} {P : xP} {n rq : Nat} {S : Nat → Int32} {row size : Nat} {word : Int64} {f : Nat → Int32} (hK : lK μ) (hA : lA I P S n rq) (hi : invN S n rq) (hr : row < n) (hf : ∀ k, k < size → (word >>> (((8 : Int32) * (nI size - 1 - nI k)).toInt64 &&& 63)) &&& 255 = (f k).toInt64) (hz : size ≤ 14) : Ct l yL_is wsL_is rm_L_is G μ I P [.ref (xZ G + 256), .ref (xZ G + 259), .int (nI row), .long word, .int (nI size)] 0 0 (fun vv μ' I' P' => vv = some (.int (bI (decide (sLen S row = size) && eqN (sLet S row) f size))) ∧ μ' = μ ∧ I' = (I) ∧ P' = (P)) := by
  have hK0 := hK
  have hA0 := hA
  have hi0 := hi
  obtain ⟨ko, hS, ⟨kg, ng⟩, ⟨kl, nl⟩, ⟨kw, nw⟩, ⟨ku, nu⟩, ⟨kc, nc⟩, ⟨kr, nr⟩⟩ := hK
  obtain ⟨ag, ar, at_⟩ := hA
  obtain ⟨hn20, hn, hq6, hq, hcur, hdr, h8, h9, h10, hrows⟩ := hi
  obtain ⟨hl, hl1, hl14⟩ := row_len hi0 hr
  refine Ct.of (cc := cL_is) (maxL := 8) (ret := (some .boolean)) [some (.ref (xZ G + 256)), some (.ref (xZ G + 259)), some (.int (nI row)), some (.long word), none, some (.int (nI size)), none, none] (by decide) rfl rfl rfl (Nat.le_of_ble_eq_true rfl) ?_
  intro X hC hD h0 _
  have loop : ∀ (q k : Nat), k + q = size → ∀ b : Bool, b = (decide (sLen S row = size) && eqN (sLet S row) f k) → xg X G (0, 0) μ I P [some (.ref (xZ G + 256)), some (.ref (xZ G + 259)), some (.int (nI row)), some (.long word), none, some (.int (nI size)), some (.int (bI b)), some (.int (nI k))] 18 [] := by
    intro q
    induction q with
    | zero =>
      intro k hk b hb
      refine r_iload (pc := 18) hC dL_is_18 rfl ?_
      refine r_iload (pc := 20) hC dL_is_20 rfl ?_
      refine r_icmp_ge (pc := 22) (tgt := 71) hC dL_is_22 (by decide) (fun bq22 => ?_) (fun bq22 => ?_)
      · skip
        refine r_iload (pc := 71) hC dL_is_71 rfl ?_
        refine r_iret (pc := 73) hC hD (bI_nar _) dL_is_73 rfl ?_
        have ek : k = size := by omega
        exact ⟨by rw [hb, ek], rfl, rfl, rfl⟩
      · skip
        exact absurd (nI_le (by omega) (by omega)) bq22
    | succ q ih =>
      intro k hk b hb
      refine r_iload (pc := 18) hC dL_is_18 rfl ?_
      refine r_iload (pc := 20) hC dL_is_20 rfl ?_
      refine r_icmp_ge (pc := 22) (tgt := 71) hC dL_is_22 (by decide) (fun bq22 => ?_) (fun bq22 => ?_)
      · skip
        exact absurd bq22 (nI_ge (by omega) (by omega))
      · skip
        refine r_iload (pc := 25) hC dL_is_25 rfl ?_
        refine r_if_eq (pc := 27) (tgt := 71) hC dL_is_27 (by decide) (fun bq27 => ?_) (fun bq27 => ?_)
        · skip
          refine r_iload (pc := 71) hC dL_is_71 rfl ?_
          refine r_iret (pc := 73) hC hD (bI_nar _) dL_is_73 rfl ?_
          have hbf : b = false := bI_0.mp bq27
          exact ⟨by
            rw [hbf]
            rw [hbf] at hb
            cases hd : decide (sLen S row = size) with
            | false => rfl
            | true => rw [hd, Bool.true_and] at hb; rw [Bool.true_and, eqN_mono hb.symm (by omega)], rfl, rfl, rfl⟩
        · skip
          have hbt : b = true := bI_1 bq27
          have hlz : sLen S row = size := of_decide_eq_true (Bool.and_eq_true_iff.mp (hb.symm.trans hbt)).1
          refine r_aload_n (pc := 30) hC dL_is_30 rfl ?_
          refine r_iload_n (pc := 31) hC dL_is_31 rfl ?_
          refine r_iload (pc := 32) hC dL_is_32 rfl ?_
          refine k_L_sign (pc := 34) hC gL_is_L_sign ⟨Nat.le_of_ble_eq_true rfl, Nat.le_of_ble_eq_true rfl⟩ hK0 hA0 hi0 hr (by omega) (Nat.le_of_ble_eq_true rfl) rfl ⟨Nat.zero_le _, Nat.zero_le _⟩ dL_is_34 ?_
          refine r_i2l (pc := 37) hC dL_is_37 ?_
          refine r_lload_n (pc := 38) hC dL_is_38 rfl ?_
          refine r_bipush (pc := 39) (v := 8) hC dL_is_39 (by decide) ?_
          refine r_iload (pc := 41) hC dL_is_41 rfl ?_
          refine r_iconst (pc := 43) (v := 1) hC dL_is_43 (by decide) ?_
          refine r_isub (pc := 44) hC dL_is_44 ?_
          refine r_iload (pc := 45) hC dL_is_45 rfl ?_
          refine r_isub (pc := 47) hC dL_is_47 ?_
          refine r_imul (pc := 48) hC dL_is_48 ?_
          refine r_lshr (pc := 49) hC dL_is_49 ?_
          refine r_ldc2 (pc := 50) (v := 255) hC dL_is_50 wl_L_is_21 ?_
          refine r_land (pc := 53) hC dL_is_53 ?_
          rw [hf k (by omega)]
          refine r_lcmp (pc := 54) hC dL_is_54 ?_
          refine r_if_ne (pc := 55) (tgt := 62) hC dL_is_55 (by decide) (fun bq55 => ?_) (fun bq55 => ?_)
          · skip
            refine r_iconst (pc := 62) (v := 0) hC dL_is_62 (by decide) ?_
            refine r_istore (pc := 63) (L' := [_, _, _, _, _, _, _, _]) hC dL_is_63 rfl (Nat.le_of_ble_eq_true rfl) rfl ?_
            refine r_iinc (pc := 65) (v := 1) (L' := [_, _, _, _, _, _, _, _]) hC dL_is_65 rfl (by decide) rfl rfl ?_
            refine r_goto (pc := 68) (tgt := 18) hC dL_is_68 (by decide) ?_
            rw [nI_1]
            exact ih (k + 1) (by omega) false (by
              have hne : ¬ sLet S row k = f k := fun e => bq55 (by rw [e]; exact l_cmp0.mpr rfl)
              simp only [eqN, decide_eq_false hne, Bool.and_false])
          · skip
            refine r_iconst (pc := 58) (v := 1) hC dL_is_58 (by decide) ?_
            refine r_goto (pc := 59) (tgt := 63) hC dL_is_59 (by decide) ?_
            refine r_istore (pc := 63) (L' := [_, _, _, _, _, _, _, _]) hC dL_is_63 rfl (Nat.le_of_ble_eq_true rfl) rfl ?_
            refine r_iinc (pc := 65) (v := 1) (L' := [_, _, _, _, _, _, _, _]) hC dL_is_65 rfl (by decide) rfl rfl ?_
            refine r_goto (pc := 68) (tgt := 18) hC dL_is_68 (by decide) ?_
            rw [nI_1]
            exact ih (k + 1) (by omega) true (by
              have he : sLet S row k = f k := i64_inj (l_cmp0.mp bq55)
              rw [eqN, ← Bool.and_assoc, ← hb, hbt, he]; simp)
  refine r_aload_n (pc := 0) hC dL_is_0 rfl ?_
  refine r_iload_n (pc := 1) hC dL_is_1 rfl ?_
  refine r_iald (pc := 2) hC kl (xi_n (k := row) (by rw [nl]; omega) (by rw [nl]; decide)) dL_is_2 ?_
  refine r_iload (pc := 3) hC dL_is_3 rfl ?_
  rw [(ar row hr).1, hl]
  refine r_icmp_ne (pc := 5) (tgt := 12) hC dL_is_5 (by decide) (fun bq5 => ?_) (fun bq5 => ?_)
  · skip
    refine r_iconst (pc := 12) (v := 0) hC dL_is_12 (by decide) ?_
    refine r_istore (pc := 13) (L' := [_, _, _, _, _, _, _, _]) hC dL_is_13 rfl (Nat.le_of_ble_eq_true rfl) rfl ?_
    refine r_iconst (pc := 15) (v := 0) hC dL_is_15 (by decide) ?_
    refine r_istore (pc := 16) (L' := [_, _, _, _, _, _, _, _]) hC dL_is_16 rfl (Nat.le_of_ble_eq_true rfl) rfl ?_
    exact loop size 0 (by omega) false (by rw [decide_eq_false (fun e => bq5 (by rw [e]))]; rfl)
  · skip
    refine r_iconst (pc := 8) (v := 1) hC dL_is_8 (by decide) ?_
    refine r_goto (pc := 9) (tgt := 13) hC dL_is_9 (by decide) ?_
    refine r_istore (pc := 13) (L' := [_, _, _, _, _, _, _, _]) hC dL_is_13 rfl (Nat.le_of_ble_eq_true rfl) rfl ?_
    refine r_iconst (pc := 15) (v := 0) hC dL_is_15 (by decide) ?_
    refine r_istore (pc := 16) (L' := [_, _, _, _, _, _, _, _]) hC dL_is_16 rfl (Nat.le_of_ble_eq_true rfl) rfl ?_
    exact loop size 0 (by omega) true (by rw [decide_eq_true ((nI_eq (by omega) (by omega)).mp bq5)]; rfl)
theorem k_L_is {X : xF} {G : xG} {cs : Nat × Nat} {μ : xM} {I : xI} {P : xP} {L : List (Option Value)} {pc : Nat} {rest : List Value} {cc : ByteArray} {Ts : List Cond} {own : String} {nL : Nat} {R : Room} (hC : xC X G cc Ts own nL R) {index : Nat} (hG : GoodIn Ts (va_wsS own index yL_is wsL_is)) (hR : rm_L_is.frames + 1 ≤ R.frames ∧ 8 + (8 + 11) + rm_L_is.locals ≤ R.locals) {n rq : Nat} {S : Nat → Int32} {row size : Nat} {word : Int64} {f : Nat → Int32} (hK : lK μ) (hA : lA I P S n rq) (hi : invN S n rq) (hr : row < n) (hf : ∀ k, k < size → (word >>> (((8 : Int32) * (nI size - 1 - nI k)).toInt64 &&& 63)) &&& 255 = (f k).toInt64) (hz : size ≤ 14) (hW : (rest.map fun v => v.category).sum ≤ 8) (hL : L.length = nL) (hcs : cs.1 ≤ R.cells ∧ cs.2 ≤ R.slots) (hdec : decode cc pc = .ok (.invokestatic index, 3)) (kk : xg X G cs μ I P L (pc + 3) (.int (bI (decide (sLen S row = size) && eqN (sLet S row) f size)) :: rest)) : xg X G cs μ I P L pc (.int (nI size) :: .long word :: .int (nI row) :: .ref (xZ G + 259) :: .ref (xZ G + 256) :: rest) :=
  r_callS hC (c_L_is X.2.1 hK hA hi hr hf hz) hG rfl rfl rfl hd_L_is.2 hR rfl rfl hW hL hcs hdec (by rintro v μ' I' P' ⟨rfl, rfl, rfl, rfl⟩; exact kk)
abbrev rm_L_kind : Room := { frames := 2, cells := 0, slots := 0, locals := 50 }
theorem wl_L_kind_23 : Cond.constantLong RL 23 (293220667220) ∈ wsL_kind := List.mem_of_getElem? (i := 1) (by decide +kernel)
theorem wl_L_kind_29 : Cond.constantLong RL 29 (357813080665) ∈ wsL_kind := List.mem_of_getElem? (i := 2) (by decide +kernel)
theorem wl_L_kind_31 : Cond.constantLong RL 31 (22608473070064709) ∈ wsL_kind := List.mem_of_getElem? (i := 3) (by decide +kernel)
theorem hd_L_kind : yL_kind.cls = RL ∧ yL_kind.cls ≠ "java/lang/invoke/MethodHandle" ∧ yL_kind.cls ≠ "java/lang/invoke/VarHandle" ∧ (parseMethodDescriptor yL_kind.desc).map (fun d => d.parameters.length) = some 3 := ⟨rfl, by decide +kernel, by decide +kernel, by decide +kernel⟩
set_option maxHeartbeats 4000000 in
set_option maxRecDepth 100000 in
theorem c_L_kind (l : Launch) {G : xG} {μ : xM} {I : xI} {P : xP} {n rq : Nat} {S : Nat → Int32} {row : Nat} (hK : lK μ) (hA : lA I P S n rq) (hi : invN S n rq) (hr : row < n) : Ct l yL_kind wsL_kind rm_L_kind G μ I P [.ref (xZ G + 256), .ref (xZ G + 259), .int (nI row)] 0 0 (fun vv μ' I' P' => vv = some (.int (sKind S row)) ∧ μ' = μ ∧ I' = (I) ∧ P' = (P)) := by
  have hK0 := hK
  have hA0 := hA
  have hi0 := hi
  obtain ⟨ko, hS, ⟨kg, ng⟩, ⟨kl, nl⟩, ⟨kw, nw⟩, ⟨ku, nu⟩, ⟨kc, nc⟩, ⟨kr, nr⟩⟩ := hK
  obtain ⟨ag, ar, at_⟩ := hA
  obtain ⟨hn20, hn, hq6, hq, hcur, hdr, h8, h9, h10, hrows⟩ := hi
  obtain ⟨hl, hl1, hl14⟩ := row_len hi0 hr
  have hkd := kd_eq hi0 hr
  refine Ct.of (cc := cL_kind) (maxL := 3) (ret := (some .int)) [some (.ref (xZ G + 256)), some (.ref (xZ G + 259)), some (.int (nI row))] (by decide) rfl rfl rfl (Nat.le_of_ble_eq_true rfl) ?_
  intro X hC hD h0 _
  refine r_aload_n (pc := 0) hC dL_kind_0 rfl ?_
  refine r_aload_n (pc := 1) hC dL_kind_1 rfl ?_
  refine r_iload_n (pc := 2) hC dL_kind_2 rfl ?_
  refine r_ldc2 (pc := 3) (v := 293220667220) hC dL_kind_3 wl_L_kind_23 ?_
  refine r_iconst (pc := 6) (v := 5) hC dL_kind_6 (by decide) ?_
  rw [show (5 : Int32) = nI 5 from rfl]
  refine k_L_is (pc := 7) hC gL_kind_L_is ⟨Nat.le_of_ble_eq_true rfl, Nat.le_of_ble_eq_true rfl⟩ hK0 hA0 hi0 hr (wd_0) (by decide) (Nat.le_of_ble_eq_true rfl) rfl ⟨Nat.zero_le _, Nat.zero_le _⟩ dL_kind_7 ?_
  refine r_if_eq (pc := 10) (tgt := 17) hC dL_kind_10 (by decide) (fun bq10 => ?_) (fun bq10 => ?_)
  · skip
    refine r_aload_n (pc := 17) hC dL_kind_17 rfl ?_
    refine r_aload_n (pc := 18) hC dL_kind_18 rfl ?_
    refine r_iload_n (pc := 19) hC dL_kind_19 rfl ?_
    refine r_ldc2 (pc := 20) (v := 357813080665) hC dL_kind_20 wl_L_kind_29 ?_
    refine r_iconst (pc := 23) (v := 5) hC dL_kind_23 (by decide) ?_
    rw [show (5 : Int32) = nI 5 from rfl]
    refine k_L_is (pc := 24) hC gL_kind_L_is ⟨Nat.le_of_ble_eq_true rfl, Nat.le_of_ble_eq_true rfl⟩ hK0 hA0 hi0 hr (wd_1) (by decide) (Nat.le_of_ble_eq_true rfl) rfl ⟨Nat.zero_le _, Nat.zero_le _⟩ dL_kind_24 ?_
    refine r_if_eq (pc := 27) (tgt := 34) hC dL_kind_27 (by decide) (fun bq27 => ?_) (fun bq27 => ?_)
    · skip
      refine r_aload_n (pc := 34) hC dL_kind_34 rfl ?_
      refine r_aload_n (pc := 35) hC dL_kind_35 rfl ?_
      refine r_iload_n (pc := 36) hC dL_kind_36 rfl ?_
      refine r_ldc2 (pc := 37) (v := 22608473070064709) hC dL_kind_37 wl_L_kind_31 ?_
      refine r_bipush (pc := 40) (v := 7) hC dL_kind_40 (by decide) ?_
      rw [show (7 : Int32) = nI 7 from rfl]
      refine k_L_is (pc := 42) hC gL_kind_L_is ⟨Nat.le_of_ble_eq_true rfl, Nat.le_of_ble_eq_true rfl⟩ hK0 hA0 hi0 hr (wd_2) (by decide) (Nat.le_of_ble_eq_true rfl) rfl ⟨Nat.zero_le _, Nat.zero_le _⟩ dL_kind_42 ?_
      refine r_if_eq (pc := 45) (tgt := 52) hC dL_kind_45 (by decide) (fun bq45 => ?_) (fun bq45 => ?_)
      · skip
        refine r_aload_n (pc := 52) hC dL_kind_52 rfl ?_
        refine r_iload_n (pc := 53) hC dL_kind_53 rfl ?_
        refine r_iald (pc := 54) hC kl (xi_n (k := row) (by rw [nl]; omega) (by rw [nl]; decide)) dL_kind_54 ?_
        refine r_iconst (pc := 55) (v := 1) hC dL_kind_55 (by decide) ?_
        rw [(ar row hr).1, hl]
        refine r_icmp_ne (pc := 56) (tgt := 63) hC dL_kind_56 (by decide) (fun bq56 => ?_) (fun bq56 => ?_)
        · skip
          refine r_iconst (pc := 63) (v := 0) hC dL_kind_63 (by decide) ?_
          refine r_iret (pc := 64) hC hD rfl dL_kind_64 rfl ?_
          exact ⟨by rw [hkd]; rw [if_neg (by rw [bI_0.mp bq10]; decide), if_neg (by rw [bI_0.mp bq27]; decide), if_neg (by rw [bI_0.mp bq45]; decide), if_neg (fun e => bq56 (by rw [e]; rfl))], rfl, rfl, rfl⟩
        · skip
          refine r_iconst (pc := 59) (v := 4) hC dL_kind_59 (by decide) ?_
          refine r_goto (pc := 60) (tgt := 64) hC dL_kind_60 (by decide) ?_
          refine r_iret (pc := 64) hC hD rfl dL_kind_64 rfl ?_
          exact ⟨by rw [hkd]; rw [if_neg (by rw [bI_0.mp bq10]; decide), if_neg (by rw [bI_0.mp bq27]; decide), if_neg (by rw [bI_0.mp bq45]; decide), if_pos ((nI_eq (b := 1) (by omega) (by decide)).mp bq56)], rfl, rfl, rfl⟩
      · skip
        refine r_iconst (pc := 48) (v := 3) hC dL_kind_48 (by decide) ?_
        refine r_goto (pc := 49) (tgt := 64) hC dL_kind_49 (by decide) ?_
        refine r_iret (pc := 64) hC hD rfl dL_kind_64 rfl ?_
        exact ⟨by rw [hkd]; rw [if_neg (by rw [bI_0.mp bq10]; decide), if_neg (by rw [bI_0.mp bq27]; decide), if_pos (bI_1 bq45)], rfl, rfl, rfl⟩
    · skip
      refine r_iconst (pc := 30) (v := 2) hC dL_kind_30 (by decide) ?_
      refine r_goto (pc := 31) (tgt := 64) hC dL_kind_31 (by decide) ?_
      refine r_iret (pc := 64) hC hD rfl dL_kind_64 rfl ?_
      exact ⟨by rw [hkd]; rw [if_neg (by rw [bI_0.mp bq10]; decide), if_pos (bI_1 bq27)], rfl, rfl, rfl⟩
  · skip
    refine r_iconst (pc := 13) (v := 1) hC dL_kind_13 (by decide) ?_
    refine r_goto (pc := 14) (tgt := 64) hC dL_kind_14 (by decide) ?_
    refine r_iret (pc := 64) hC hD rfl dL_kind_64 rfl ?_
    exact ⟨by rw [hkd]; rw [if_pos (bI_1 bq10)], rfl, rfl, rfl⟩
theorem k_L_kind {X : xF} {G : xG} {cs : Nat × Nat} {μ : xM} {I : xI} {P : xP} {L : List (Option Value)} {pc : Nat} {rest : List Value} {cc : ByteArray} {Ts : List Cond} {own : String} {nL : Nat} {R : Room} (hC : xC X G cc Ts own nL R) {index : Nat} (hG : GoodIn Ts (va_wsS own index yL_kind wsL_kind)) (hR : rm_L_kind.frames + 1 ≤ R.frames ∧ 8 + (3 + 11) + rm_L_kind.locals ≤ R.locals) {n rq : Nat} {S : Nat → Int32} {row : Nat} (hK : lK μ) (hA : lA I P S n rq) (hi : invN S n rq) (hr : row < n) (hW : (rest.map fun v => v.category).sum ≤ 8) (hL : L.length = nL) (hcs : cs.1 ≤ R.cells ∧ cs.2 ≤ R.slots) (hdec : decode cc pc = .ok (.invokestatic index, 3)) (kk : xg X G cs μ I P L (pc + 3) (.int (sKind S row) :: rest)) : xg X G cs μ I P L pc (.int (nI row) :: .ref (xZ G + 259) :: .ref (xZ G + 256) :: rest) :=
  r_callS hC (c_L_kind X.2.1 hK hA hi hr) hG rfl rfl rfl hd_L_kind.2 hR rfl rfl hW hL hcs hdec (by rintro v μ' I' P' ⟨rfl, rfl, rfl, rfl⟩; exact kk)
abbrev rm_L_wrong : Room := { frames := 3, cells := 0, slots := 0, locals := 72 }
theorem hd_L_wrong : yL_wrong.cls = RL ∧ yL_wrong.cls ≠ "java/lang/invoke/MethodHandle" ∧ yL_wrong.cls ≠ "java/lang/invoke/VarHandle" ∧ (parseMethodDescriptor yL_wrong.desc).map (fun d => d.parameters.length) = some 6 := ⟨rfl, by decide +kernel, by decide +kernel, by decide +kernel⟩
set_option maxHeartbeats 4000000 in
set_option maxRecDepth 100000 in
theorem c_L_wrong (l : Launch) {G : xG} {μ : xM} {I : xI} {P : xP} {n rq : Nat} {S : Nat → Int32}  (hK : lK μ) (hA : lA I P S n rq) (hi : invN S n rq) : Ct l yL_wrong wsL_wrong rm_L_wrong G μ I P [.ref (xZ G + 255), .ref (xZ G + 256), .ref (xZ G + 258), .ref (xZ G + 259), .ref (xZ G + 260), .int (S 1)] 0 0 (fun vv μ' I' P' => vv = some (.int (aWrong S)) ∧ μ' = μ ∧ I' = (I) ∧ P' = (P)) := by
  have hK0 := hK
  have hA0 := hA
  have hi0 := hi
  obtain ⟨ko, hS, ⟨kg, ng⟩, ⟨kl, nl⟩, ⟨kw, nw⟩, ⟨ku, nu⟩, ⟨kc, nc⟩, ⟨kr, nr⟩⟩ := hK
  obtain ⟨ag, ar, at_⟩ := hA
  obtain ⟨hn20, hn, hq6, hq, hcur, hdr, h8, h9, h10, hrows⟩ := hi
  refine Ct.of (cc := cL_wrong) (maxL := 9) (ret := (some .int)) [some (.ref (xZ G + 255)), some (.ref (xZ G + 256)), some (.ref (xZ G + 258)), some (.ref (xZ G + 259)), some (.ref (xZ G + 260)), some (.int (S 1)), none, none, none] (by decide) rfl rfl rfl (Nat.le_of_ble_eq_true rfl) ?_
  intro X hC hD h0 _
  refine r_iload (pc := 0) hC dL_wrong_0 rfl ?_
  refine r_if_lt (pc := 2) (tgt := 13) hC dL_wrong_2 (by decide) (fun bq2 => ?_) (fun bq2 => ?_)
  · skip
    refine r_iload (pc := 13) hC dL_wrong_13 rfl ?_
    refine r_if_ge (pc := 15) (tgt := 22) hC dL_wrong_15 (by decide) (fun bq15 => ?_) (fun bq15 => ?_)
    · skip
      exact absurd bq15 (Int32.not_le.mpr bq2)
    · skip
      refine r_iconst (pc := 18) (v := 1) hC dL_wrong_18 (by decide) ?_
      refine r_goto (pc := 19) (tgt := 23) hC dL_wrong_19 (by decide) ?_
      refine r_iret (pc := 23) hC hD rfl dL_wrong_23 rfl ?_
      exact ⟨by rw [aWrong, if_pos bq2], rfl, rfl, rfl⟩
  · skip
    obtain ⟨a, ha, hs1⟩ := hcur.resolve_left (fun w => bq2 (by rw [w.2]; decide))
    rw [hs1]
    have hW : aWrong S = sWrong S a := by rw [aWrong, hs1, if_neg (nI_pos (by omega)), nI_clamp (by omega)]
    obtain ⟨w, hw60, hw⟩ := wid_n hi0 ha
    refine r_aload_n (pc := 5) hC dL_wrong_5 rfl ?_
    refine r_iload (pc := 6) hC dL_wrong_6 rfl ?_
    refine r_iald (pc := 8) hC ku (xi_n (k := a) (by rw [nu]; omega) (by rw [nu]; decide)) dL_wrong_8 ?_
    refine r_iconst (pc := 9) (v := 1) hC dL_wrong_9 (by decide) ?_
    rw [(ar a ha).2.2.1]
    refine r_icmp_ne (pc := 10) (tgt := 24) hC dL_wrong_10 (by decide) (fun bq10 => ?_) (fun bq10 => ?_)
    · skip
      refine r_aload_n (pc := 24) hC dL_wrong_24 rfl ?_
      refine r_aload_n (pc := 25) hC dL_wrong_25 rfl ?_
      refine r_iload (pc := 26) hC dL_wrong_26 rfl ?_
      refine k_L_kind (pc := 28) hC gL_wrong_L_kind ⟨Nat.le_of_ble_eq_true rfl, Nat.le_of_ble_eq_true rfl⟩ hK0 hA0 hi0 ha (Nat.le_of_ble_eq_true rfl) rfl ⟨Nat.zero_le _, Nat.zero_le _⟩ dL_wrong_28 ?_
      refine r_istore (pc := 31) (L' := [_, _, _, _, _, _, _, _, _]) hC dL_wrong_31 rfl (Nat.le_of_ble_eq_true rfl) rfl ?_
      refine r_aload_n (pc := 33) hC dL_wrong_33 rfl ?_
      refine r_iconst (pc := 34) (v := 3) hC dL_wrong_34 (by decide) ?_
      refine r_iald (pc := 35) hC kg (xi_l (k := 3) ng (by decide) (by decide) (by decide)) dL_wrong_35 ?_
      rw [ag 3 (by decide)]
      refine r_if_lt (pc := 36) (tgt := 60) hC dL_wrong_36 (by decide) (fun bq36 => ?_) (fun bq36 => ?_)
      · skip
        have hOn : sOn S = false := on_0 bq36
        refine r_iconst (pc := 60) (v := 0) hC dL_wrong_60 (by decide) ?_
        refine r_istore (pc := 61) (L' := [_, _, _, _, _, _, _, _, _]) hC dL_wrong_61 rfl (Nat.le_of_ble_eq_true rfl) rfl ?_
        refine r_aload_n (pc := 63) hC dL_wrong_63 rfl ?_
        refine r_iconst (pc := 64) (v := 3) hC dL_wrong_64 (by decide) ?_
        refine r_iald (pc := 65) hC kg (xi_l (k := 3) ng (by decide) (by decide) (by decide)) dL_wrong_65 ?_
        rw [ag 3 (by decide)]
        refine r_if_ge (pc := 66) (tgt := 89) hC dL_wrong_66 (by decide) (fun bq66 => ?_) (fun bq66 => ?_)
        · skip
          exact absurd bq66 (Int32.not_le.mpr bq36)
        · skip
          refine r_iload (pc := 69) hC dL_wrong_69 rfl ?_
          refine r_iconst (pc := 71) (v := 1) hC dL_wrong_71 (by decide) ?_
          refine r_icmp_eq (pc := 72) (tgt := 81) hC dL_wrong_72 (by decide) (fun bq72 => ?_) (fun bq72 => ?_)
          · skip
            refine r_iconst (pc := 81) (v := 0) hC dL_wrong_81 (by decide) ?_
            refine r_goto (pc := 82) (tgt := 105) hC dL_wrong_82 (by decide) ?_
            refine r_istore (pc := 105) (L' := [_, _, _, _, _, _, _, _, _]) hC dL_wrong_105 rfl (Nat.le_of_ble_eq_true rfl) rfl ?_
            refine r_iload (pc := 107) hC dL_wrong_107 rfl ?_
            refine r_if_le (pc := 109) (tgt := 117) hC dL_wrong_109 (by decide) (fun bq109 => ?_) (fun bq109 => ?_)
            · skip
              refine r_aload_n (pc := 117) hC dL_wrong_117 rfl ?_
              refine r_aload_n (pc := 118) hC dL_wrong_118 rfl ?_
              refine r_aload_n (pc := 119) hC dL_wrong_119 rfl ?_
              refine r_iload (pc := 120) hC dL_wrong_120 rfl ?_
              refine k_L_width (pc := 122) hC gL_wrong_L_width ⟨Nat.le_of_ble_eq_true rfl, Nat.le_of_ble_eq_true rfl⟩ hK0 hA0 hi0 ha (Nat.le_of_ble_eq_true rfl) rfl ⟨Nat.zero_le _, Nat.zero_le _⟩ dL_wrong_122 ?_
              rw [hw]
              refine k_L_squeeze (pc := 125) hC gL_wrong_L_squeeze ⟨Nat.le_of_ble_eq_true rfl, Nat.le_of_ble_eq_true rfl⟩ hK0 hA0 hi0 hw60 (Nat.le_of_ble_eq_true rfl) rfl ⟨Nat.zero_le _, Nat.zero_le _⟩ dL_wrong_125 ?_
              refine r_bipush (pc := 128) (v := 120) hC dL_wrong_128 (by decide) ?_
              refine r_icmp_le (pc := 130) (tgt := 137) hC dL_wrong_130 (by decide) (fun bq130 => ?_) (fun bq130 => ?_)
              · skip
                refine r_iconst (pc := 137) (v := 0) hC dL_wrong_137 (by decide) ?_
                refine r_iret (pc := 138) hC hD rfl dL_wrong_138 rfl ?_
                exact ⟨by rw [hW, sWrong, if_neg bq10]; simp [bq2, bq10, bq36, bq66, bq72, bq109, bq130, hOn, hw, Int32.not_le, Int32.not_lt], rfl, rfl, rfl⟩
              · skip
                refine r_iconst (pc := 133) (v := 5) hC dL_wrong_133 (by decide) ?_
                refine r_goto (pc := 134) (tgt := 138) hC dL_wrong_134 (by decide) ?_
                refine r_iret (pc := 138) hC hD rfl dL_wrong_138 rfl ?_
                exact ⟨by rw [hW, sWrong, if_neg bq10]; simp [bq2, bq10, bq36, bq66, bq72, bq109, bq130, hOn, hw, Int32.not_le, Int32.not_lt], rfl, rfl, rfl⟩
            · skip
              exact absurd (show (0 : Int32) ≤ 0 by decide) bq109
          · skip
            refine r_iload (pc := 75) hC dL_wrong_75 rfl ?_
            refine r_iconst (pc := 77) (v := 2) hC dL_wrong_77 (by decide) ?_
            refine r_icmp_ne (pc := 78) (tgt := 85) hC dL_wrong_78 (by decide) (fun bq78 => ?_) (fun bq78 => ?_)
            · skip
              refine r_iconst (pc := 85) (v := 3) hC dL_wrong_85 (by decide) ?_
              refine r_goto (pc := 86) (tgt := 105) hC dL_wrong_86 (by decide) ?_
              refine r_istore (pc := 105) (L' := [_, _, _, _, _, _, _, _, _]) hC dL_wrong_105 rfl (Nat.le_of_ble_eq_true rfl) rfl ?_
              refine r_iload (pc := 107) hC dL_wrong_107 rfl ?_
              refine r_if_le (pc := 109) (tgt := 117) hC dL_wrong_109 (by decide) (fun bq109 => ?_) (fun bq109 => ?_)
              · skip
                exact absurd bq109 (by decide)
              · skip
                refine r_iload (pc := 112) hC dL_wrong_112 rfl ?_
                refine r_goto (pc := 114) (tgt := 138) hC dL_wrong_114 (by decide) ?_
                refine r_iret (pc := 138) hC hD rfl dL_wrong_138 rfl ?_
                exact ⟨by rw [hW, sWrong, if_neg bq10]; simp [bq2, bq10, bq36, bq66, bq72, bq78, bq109, hOn, hw, Int32.not_le, Int32.not_lt], rfl, rfl, rfl⟩
            · skip
              refine r_iconst (pc := 81) (v := 0) hC dL_wrong_81 (by decide) ?_
              refine r_goto (pc := 82) (tgt := 105) hC dL_wrong_82 (by decide) ?_
              refine r_istore (pc := 105) (L' := [_, _, _, _, _, _, _, _, _]) hC dL_wrong_105 rfl (Nat.le_of_ble_eq_true rfl) rfl ?_
              refine r_iload (pc := 107) hC dL_wrong_107 rfl ?_
              refine r_if_le (pc := 109) (tgt := 117) hC dL_wrong_109 (by decide) (fun bq109 => ?_) (fun bq109 => ?_)
              · skip
                refine r_aload_n (pc := 117) hC dL_wrong_117 rfl ?_
                refine r_aload_n (pc := 118) hC dL_wrong_118 rfl ?_
                refine r_aload_n (pc := 119) hC dL_wrong_119 rfl ?_
                refine r_iload (pc := 120) hC dL_wrong_120 rfl ?_
                refine k_L_width (pc := 122) hC gL_wrong_L_width ⟨Nat.le_of_ble_eq_true rfl, Nat.le_of_ble_eq_true rfl⟩ hK0 hA0 hi0 ha (Nat.le_of_ble_eq_true rfl) rfl ⟨Nat.zero_le _, Nat.zero_le _⟩ dL_wrong_122 ?_
                rw [hw]
                refine k_L_squeeze (pc := 125) hC gL_wrong_L_squeeze ⟨Nat.le_of_ble_eq_true rfl, Nat.le_of_ble_eq_true rfl⟩ hK0 hA0 hi0 hw60 (Nat.le_of_ble_eq_true rfl) rfl ⟨Nat.zero_le _, Nat.zero_le _⟩ dL_wrong_125 ?_
                refine r_bipush (pc := 128) (v := 120) hC dL_wrong_128 (by decide) ?_
                refine r_icmp_le (pc := 130) (tgt := 137) hC dL_wrong_130 (by decide) (fun bq130 => ?_) (fun bq130 => ?_)
                · skip
                  refine r_iconst (pc := 137) (v := 0) hC dL_wrong_137 (by decide) ?_
                  refine r_iret (pc := 138) hC hD rfl dL_wrong_138 rfl ?_
                  exact ⟨by rw [hW, sWrong, if_neg bq10]; simp [bq2, bq10, bq36, bq66, bq72, bq78, bq109, bq130, hOn, hw, Int32.not_le, Int32.not_lt], rfl, rfl, rfl⟩
                · skip
                  refine r_iconst (pc := 133) (v := 5) hC dL_wrong_133 (by decide) ?_
                  refine r_goto (pc := 134) (tgt := 138) hC dL_wrong_134 (by decide) ?_
                  refine r_iret (pc := 138) hC hD rfl dL_wrong_138 rfl ?_
                  exact ⟨by rw [hW, sWrong, if_neg bq10]; simp [bq2, bq10, bq36, bq66, bq72, bq78, bq109, bq130, hOn, hw, Int32.not_le, Int32.not_lt], rfl, rfl, rfl⟩
              · skip
                exact absurd (show (0 : Int32) ≤ 0 by decide) bq109
      · skip
        obtain ⟨d, hd, hd3⟩ := hdr.resolve_left (fun w => bq36 (by rw [w]; decide))
        obtain ⟨hOn, hDr⟩ := on_1 hd3 (by omega)
        refine r_aload (pc := 39) hC dL_wrong_39 rfl ?_
        refine r_iconst (pc := 41) (v := 3) hC dL_wrong_41 (by decide) ?_
        refine r_aload_n (pc := 42) hC dL_wrong_42 rfl ?_
        refine r_iconst (pc := 43) (v := 3) hC dL_wrong_43 (by decide) ?_
        refine r_iald (pc := 44) hC kg (xi_l (k := 3) ng (by decide) (by decide) (by decide)) dL_wrong_44 ?_
        refine r_imul (pc := 45) hC dL_wrong_45 ?_
        rw [ag 3 (by decide), hd3, show (3 : Int32) * nI d = nI (3 * d) from pk_mul 3 d]
        refine r_iald (pc := 46) hC kr (xi_n (k := 3 * d) (by rw [nr]; omega) (by rw [nr]; decide)) dL_wrong_46 ?_
        refine r_iload (pc := 47) hC dL_wrong_47 rfl ?_
        refine r_ishr (pc := 49) hC dL_wrong_49 ?_
        refine r_iconst (pc := 50) (v := 1) hC dL_wrong_50 (by decide) ?_
        refine r_iand (pc := 51) hC dL_wrong_51 ?_
        refine r_iconst (pc := 52) (v := 1) hC dL_wrong_52 (by decide) ?_
        rw [show I 260 (3 * d) = S (351 + 3 * d) from at_ d hd 0 (by decide)]
        refine r_icmp_ne (pc := 53) (tgt := 60) hC dL_wrong_53 (by decide) (fun bq53 => ?_) (fun bq53 => ?_)
        · skip
          have hb0 := (bit01 (S (351 + 3 * d)) (nI a &&& 31)).resolve_right bq53
          refine r_iconst (pc := 60) (v := 0) hC dL_wrong_60 (by decide) ?_
          refine r_istore (pc := 61) (L' := [_, _, _, _, _, _, _, _, _]) hC dL_wrong_61 rfl (Nat.le_of_ble_eq_true rfl) rfl ?_
          refine r_aload_n (pc := 63) hC dL_wrong_63 rfl ?_
          refine r_iconst (pc := 64) (v := 3) hC dL_wrong_64 (by decide) ?_
          refine r_iald (pc := 65) hC kg (xi_l (k := 3) ng (by decide) (by decide) (by decide)) dL_wrong_65 ?_
          rw [ag 3 (by decide)]
          refine r_if_ge (pc := 66) (tgt := 89) hC dL_wrong_66 (by decide) (fun bq66 => ?_) (fun bq66 => ?_)
          · skip
            refine r_iload (pc := 89) hC dL_wrong_89 rfl ?_
            refine r_if_ne (pc := 91) (tgt := 100) hC dL_wrong_91 (by decide) (fun bq91 => ?_) (fun bq91 => ?_)
            · skip
              exact absurd (show (0 : Int32) = 0 from rfl) bq91
            · skip
              refine r_iload (pc := 94) hC dL_wrong_94 rfl ?_
              refine r_iconst (pc := 96) (v := 2) hC dL_wrong_96 (by decide) ?_
              refine r_icmp_ne (pc := 97) (tgt := 104) hC dL_wrong_97 (by decide) (fun bq97 => ?_) (fun bq97 => ?_)
              · skip
                refine r_iconst (pc := 104) (v := 4) hC dL_wrong_104 (by decide) ?_
                refine r_istore (pc := 105) (L' := [_, _, _, _, _, _, _, _, _]) hC dL_wrong_105 rfl (Nat.le_of_ble_eq_true rfl) rfl ?_
                refine r_iload (pc := 107) hC dL_wrong_107 rfl ?_
                refine r_if_le (pc := 109) (tgt := 117) hC dL_wrong_109 (by decide) (fun bq109 => ?_) (fun bq109 => ?_)
                · skip
                  exact absurd bq109 (by decide)
                · skip
                  refine r_iload (pc := 112) hC dL_wrong_112 rfl ?_
                  refine r_goto (pc := 114) (tgt := 138) hC dL_wrong_114 (by decide) ?_
                  refine r_iret (pc := 138) hC hD rfl dL_wrong_138 rfl ?_
                  exact ⟨by rw [hW, sWrong, if_neg bq10]; simp [bq2, bq10, bq36, bq53, bq66, bq91, bq97, bq109, hOn, hDr, hw, hb0, Int32.not_le, Int32.not_lt], rfl, rfl, rfl⟩
              · skip
                refine r_iconst (pc := 100) (v := 0) hC dL_wrong_100 (by decide) ?_
                refine r_goto (pc := 101) (tgt := 105) hC dL_wrong_101 (by decide) ?_
                refine r_istore (pc := 105) (L' := [_, _, _, _, _, _, _, _, _]) hC dL_wrong_105 rfl (Nat.le_of_ble_eq_true rfl) rfl ?_
                refine r_iload (pc := 107) hC dL_wrong_107 rfl ?_
                refine r_if_le (pc := 109) (tgt := 117) hC dL_wrong_109 (by decide) (fun bq109 => ?_) (fun bq109 => ?_)
                · skip
                  refine r_aload_n (pc := 117) hC dL_wrong_117 rfl ?_
                  refine r_aload_n (pc := 118) hC dL_wrong_118 rfl ?_
                  refine r_aload_n (pc := 119) hC dL_wrong_119 rfl ?_
                  refine r_iload (pc := 120) hC dL_wrong_120 rfl ?_
                  refine k_L_width (pc := 122) hC gL_wrong_L_width ⟨Nat.le_of_ble_eq_true rfl, Nat.le_of_ble_eq_true rfl⟩ hK0 hA0 hi0 ha (Nat.le_of_ble_eq_true rfl) rfl ⟨Nat.zero_le _, Nat.zero_le _⟩ dL_wrong_122 ?_
                  rw [hw]
                  refine k_L_squeeze (pc := 125) hC gL_wrong_L_squeeze ⟨Nat.le_of_ble_eq_true rfl, Nat.le_of_ble_eq_true rfl⟩ hK0 hA0 hi0 hw60 (Nat.le_of_ble_eq_true rfl) rfl ⟨Nat.zero_le _, Nat.zero_le _⟩ dL_wrong_125 ?_
                  refine r_bipush (pc := 128) (v := 120) hC dL_wrong_128 (by decide) ?_
                  refine r_icmp_le (pc := 130) (tgt := 137) hC dL_wrong_130 (by decide) (fun bq130 => ?_) (fun bq130 => ?_)
                  · skip
                    refine r_iconst (pc := 137) (v := 0) hC dL_wrong_137 (by decide) ?_
                    refine r_iret (pc := 138) hC hD rfl dL_wrong_138 rfl ?_
                    exact ⟨by rw [hW, sWrong, if_neg bq10]; simp [bq2, bq10, bq36, bq53, bq66, bq91, bq97, bq109, bq130, hOn, hDr, hw, hb0, Int32.not_le, Int32.not_lt], rfl, rfl, rfl⟩
                  · skip
                    refine r_iconst (pc := 133) (v := 5) hC dL_wrong_133 (by decide) ?_
                    refine r_goto (pc := 134) (tgt := 138) hC dL_wrong_134 (by decide) ?_
                    refine r_iret (pc := 138) hC hD rfl dL_wrong_138 rfl ?_
                    exact ⟨by rw [hW, sWrong, if_neg bq10]; simp [bq2, bq10, bq36, bq53, bq66, bq91, bq97, bq109, bq130, hOn, hDr, hw, hb0, Int32.not_le, Int32.not_lt], rfl, rfl, rfl⟩
                · skip
                  exact absurd (show (0 : Int32) ≤ 0 by decide) bq109
          · skip
            exact absurd bq66 (fun e => bq36 (Int32.not_le.mp e) )
        · skip
          refine r_iconst (pc := 56) (v := 1) hC dL_wrong_56 (by decide) ?_
          refine r_goto (pc := 57) (tgt := 61) hC dL_wrong_57 (by decide) ?_
          refine r_istore (pc := 61) (L' := [_, _, _, _, _, _, _, _, _]) hC dL_wrong_61 rfl (Nat.le_of_ble_eq_true rfl) rfl ?_
          refine r_aload_n (pc := 63) hC dL_wrong_63 rfl ?_
          refine r_iconst (pc := 64) (v := 3) hC dL_wrong_64 (by decide) ?_
          refine r_iald (pc := 65) hC kg (xi_l (k := 3) ng (by decide) (by decide) (by decide)) dL_wrong_65 ?_
          rw [ag 3 (by decide)]
          refine r_if_ge (pc := 66) (tgt := 89) hC dL_wrong_66 (by decide) (fun bq66 => ?_) (fun bq66 => ?_)
          · skip
            refine r_iload (pc := 89) hC dL_wrong_89 rfl ?_
            refine r_if_ne (pc := 91) (tgt := 100) hC dL_wrong_91 (by decide) (fun bq91 => ?_) (fun bq91 => ?_)
            · skip
              refine r_iconst (pc := 100) (v := 0) hC dL_wrong_100 (by decide) ?_
              refine r_goto (pc := 101) (tgt := 105) hC dL_wrong_101 (by decide) ?_
              refine r_istore (pc := 105) (L' := [_, _, _, _, _, _, _, _, _]) hC dL_wrong_105 rfl (Nat.le_of_ble_eq_true rfl) rfl ?_
              refine r_iload (pc := 107) hC dL_wrong_107 rfl ?_
              refine r_if_le (pc := 109) (tgt := 117) hC dL_wrong_109 (by decide) (fun bq109 => ?_) (fun bq109 => ?_)
              · skip
                refine r_aload_n (pc := 117) hC dL_wrong_117 rfl ?_
                refine r_aload_n (pc := 118) hC dL_wrong_118 rfl ?_
                refine r_aload_n (pc := 119) hC dL_wrong_119 rfl ?_
                refine r_iload (pc := 120) hC dL_wrong_120 rfl ?_
                refine k_L_width (pc := 122) hC gL_wrong_L_width ⟨Nat.le_of_ble_eq_true rfl, Nat.le_of_ble_eq_true rfl⟩ hK0 hA0 hi0 ha (Nat.le_of_ble_eq_true rfl) rfl ⟨Nat.zero_le _, Nat.zero_le _⟩ dL_wrong_122 ?_
                rw [hw]
                refine k_L_squeeze (pc := 125) hC gL_wrong_L_squeeze ⟨Nat.le_of_ble_eq_true rfl, Nat.le_of_ble_eq_true rfl⟩ hK0 hA0 hi0 hw60 (Nat.le_of_ble_eq_true rfl) rfl ⟨Nat.zero_le _, Nat.zero_le _⟩ dL_wrong_125 ?_
                refine r_bipush (pc := 128) (v := 120) hC dL_wrong_128 (by decide) ?_
                refine r_icmp_le (pc := 130) (tgt := 137) hC dL_wrong_130 (by decide) (fun bq130 => ?_) (fun bq130 => ?_)
                · skip
                  refine r_iconst (pc := 137) (v := 0) hC dL_wrong_137 (by decide) ?_
                  refine r_iret (pc := 138) hC hD rfl dL_wrong_138 rfl ?_
                  exact ⟨by rw [hW, sWrong, if_neg bq10]; simp [bq2, bq10, bq36, bq53, bq66, bq91, bq109, bq130, hOn, hDr, hw, Int32.not_le, Int32.not_lt], rfl, rfl, rfl⟩
                · skip
                  refine r_iconst (pc := 133) (v := 5) hC dL_wrong_133 (by decide) ?_
                  refine r_goto (pc := 134) (tgt := 138) hC dL_wrong_134 (by decide) ?_
                  refine r_iret (pc := 138) hC hD rfl dL_wrong_138 rfl ?_
                  exact ⟨by rw [hW, sWrong, if_neg bq10]; simp [bq2, bq10, bq36, bq53, bq66, bq91, bq109, bq130, hOn, hDr, hw, Int32.not_le, Int32.not_lt], rfl, rfl, rfl⟩
              · skip
                exact absurd (show (0 : Int32) ≤ 0 by decide) bq109
            · skip
              exact absurd bq91 (by decide)
          · skip
            exact absurd bq66 (fun e => bq36 (Int32.not_le.mp e) )
    · skip
      refine r_iload (pc := 13) hC dL_wrong_13 rfl ?_
      refine r_if_ge (pc := 15) (tgt := 22) hC dL_wrong_15 (by decide) (fun bq15 => ?_) (fun bq15 => ?_)
      · skip
        refine r_iconst (pc := 22) (v := 2) hC dL_wrong_22 (by decide) ?_
        refine r_iret (pc := 23) hC hD rfl dL_wrong_23 rfl ?_
        exact ⟨by rw [hW, sWrong, if_pos bq10], rfl, rfl, rfl⟩
      · skip
        exact absurd (nI_pos' (by omega)) bq15
theorem k_L_wrong {X : xF} {G : xG} {cs : Nat × Nat} {μ : xM} {I : xI} {P : xP} {L : List (Option Value)} {pc : Nat} {rest : List Value} {cc : ByteArray} {Ts : List Cond} {own : String} {nL : Nat} {R : Room} (hC : xC X G cc Ts own nL R) {index : Nat} (hG : GoodIn Ts (va_wsS own index yL_wrong wsL_wrong)) (hR : rm_L_wrong.frames + 1 ≤ R.frames ∧ 8 + (9 + 11) + rm_L_wrong.locals ≤ R.locals) {n rq : Nat} {S : Nat → Int32}  (hK : lK μ) (hA : lA I P S n rq) (hi : invN S n rq) (hW : (rest.map fun v => v.category).sum ≤ 8) (hL : L.length = nL) (hcs : cs.1 ≤ R.cells ∧ cs.2 ≤ R.slots) (hdec : decode cc pc = .ok (.invokestatic index, 3)) (kk : xg X G cs μ I P L (pc + 3) (.int (aWrong S) :: rest)) : xg X G cs μ I P L pc (.int (S 1) :: .ref (xZ G + 260) :: .ref (xZ G + 259) :: .ref (xZ G + 258) :: .ref (xZ G + 256) :: .ref (xZ G + 255) :: rest) :=
  r_callS hC (c_L_wrong X.2.1 hK hA hi) hG rfl rfl rfl hd_L_wrong.2 hR rfl rfl hW hL hcs hdec (by rintro v μ' I' P' ⟨rfl, rfl, rfl, rfl⟩; exact kk)
