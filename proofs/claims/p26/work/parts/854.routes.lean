/-- the torn ones of a set, row by row -/
def tnd (x : Int32) (u : Nat → Int32) : Nat → Int32
  | 0 => 0
  | i + 1 => tnd x u i ||| (x >>> (nI i &&& 31) &&& u i) <<< (nI i &&& 31)
theorem tnd_and {x : Int32} {u : Nat → Int32} : ∀ {n : Nat}, n ≤ 20 → tnd x u n = x &&& tset u n
  | 0, _ => by
    refine b_ext (fun i hi => ?_)
    rw [b_and, show tset u 0 = 0 from rfl, b_0, Bool.and_false]; exact b_0 i
  | n + 1, hn => by
    have ih := tnd_and (x := x) (u := u) (n := n) (by omega)
    refine b_ext (fun i hi => ?_)
    rw [tnd, tset, ih, b_or, b_and, b_and, b_or, b_shl n (by omega) _ hi, b_shl n (by omega) _ hi, b_and]
    rcases Nat.lt_or_ge i n with h | h
    · rw [decide_eq_false (by omega)]; simp
    · rw [decide_eq_true h, b_sshr n (by omega) x (by omega), if_pos (by omega), show n + (i - n) = i by omega]
      cases bt x i <;> simp
theorem tnd_ok {S : Nat → Int32} {n q X : Nat} (hi : invN S n q) (hX : X < 2 ^ n) (m : Nat) (hm : m ≤ n) : tnd (nI X) (fun i => S (13 + 17 * i)) m = nI X &&& tset (fun i => S (13 + 17 * i)) m := tnd_and (by have := hi.1; omega)
theorem pcn_hi : ∀ {w X : Nat}, pcn (w + 1) X = pcn w X + X / 2 ^ w % 2
  | 0, X => by rw [pcn, pcn, Nat.pow_zero, Nat.div_one]; show X % 2 + pcn 0 (X / 2) = 0 + X % 2; rw [pcn]; omega
  | w + 1, X => by
    have ih := pcn_hi (w := w) (X := X / 2)
    have e1 : pcn (w + 1 + 1) X = X % 2 + pcn (w + 1) (X / 2) := rfl
    have e2 : pcn (w + 1) X = X % 2 + pcn w (X / 2) := rfl
    rw [e1, ih, e2, Nat.pow_succ, Nat.mul_comm (2 ^ w) 2, ← Nat.div_div_eq_div_mul]
    omega
theorem pcn_all {X n : Nat} (h : X < 2 ^ n) : ∀ {m : Nat}, n ≤ m → pcn n X = pcn m X
  | 0, hm => by rw [show n = 0 by omega]
  | m + 1, hm => by
    rcases Nat.lt_or_ge n (m + 1) with w | w
    · rw [pcn_all h (show n ≤ m by omega), pcn_hi, Nat.div_eq_of_lt (Nat.lt_of_lt_of_le h (Nat.pow_le_pow_right (by decide) (by omega))), Nat.zero_mod, Nat.add_zero]
    · rw [show n = m + 1 by omega]
theorem rt_out {S : Nat → Int32} {n q : Nat} (hi : invN S n q) : aRouteOf S (nI q) 0 = -1000001 ∧ aRouteOf S (-1) 0 = -1000001 := by
  have hq6 := hi.2.2.1
  have hq := hi.2.2.2.1
  exact ⟨by rw [aRouteOf, if_pos (by rw [hq]; exact isR_out (Nat.le_refl q) (by omega))], by rw [aRouteOf, if_pos (by rw [isR, if_pos (by decide)])]⟩
theorem rt_ok {S : Nat → Int32} {n q k : Nat} (hi : invN S n q) (hk : k < q) : aRouteOf S (nI k) 0 = S (351 + 3 * k) ∧ aRouteOf S (nI k) 1 = ones (S (351 + 3 * k)) ∧ aRouteOf S (nI k) 2 = S (351 + 3 * k) &&& tset (fun i => S (13 + 17 * i)) n ∧ aRouteOf S (nI k) 3 = S (352 + 3 * k) ∧ aRouteOf S (nI k) 4 = S (353 + 3 * k) ∧ aRouteOf S (nI k) 5 = -1000001 := by
  have hn := hi.2.1
  have hn20 := hi.1
  have hq6 := hi.2.2.1
  have hq := hi.2.2.2.1
  have h1 : ¬ isR (nI k) (S 2) = 0 := by rw [hq, isR_nI hk (by omega)]; decide
  have hc : (nI k).toNatClampNeg = k := nI_clamp (by omega)
  have hcn : cN S = n := by rw [cN, hn, nI_clamp (by omega)]
  refine ⟨?_, ?_, ?_, ?_, ?_, ?_⟩ <;> rw [aRouteOf, if_neg h1]
  · rw [if_neg (by decide), if_pos rfl, hc]
  · rw [if_neg (by decide), if_neg (by decide), if_pos rfl, hc]
  · rw [if_neg (by decide), if_neg (by decide), if_neg (by decide), if_pos rfl, hc, hcn]
  · rw [if_neg (by decide), if_neg (by decide), if_neg (by decide), if_neg (by decide), hc, show (3 : Int32).toNatClampNeg = 3 from rfl]; congr 1; omega
  · rw [if_neg (by decide), if_neg (by decide), if_neg (by decide), if_neg (by decide), hc, show (4 : Int32).toNatClampNeg = 4 from rfl]; congr 1; omega
  · rw [if_pos (by decide)]
abbrev rm_L_areRoutes : Room := { frames := 8, cells := 0, slots := 0, locals := 170 }
theorem wl_L_areRoutes_71 : Cond.constant RL 71 (-1000001) ∈ wsL_areRoutes := List.mem_of_getElem? (i := 1) (by decide +kernel)
theorem hd_L_areRoutes : yL_areRoutes.cls = RL ∧ yL_areRoutes.cls ≠ "java/lang/invoke/MethodHandle" ∧ yL_areRoutes.cls ≠ "java/lang/invoke/VarHandle" ∧ (parseMethodDescriptor yL_areRoutes.desc).map (fun d => d.parameters.length) = some 4 := ⟨rfl, by decide +kernel, by decide +kernel, by decide +kernel⟩
set_option maxHeartbeats 4000000 in
set_option maxRecDepth 100000 in
theorem c_L_areRoutes (l : Launch) {G : xG} {μ : xM} {I : xI} {P : xP} {n rq cn : Nat} {S : Nat → Int32}  (hK : lK μ) (hV : lV I P S n rq cn) (hcb : cn < 1000000) : Ct l yL_areRoutes wsL_areRoutes rm_L_areRoutes G μ I P [.ref (xZ G + 1), .ref (xZ G + 255), .ref (xZ G + 258), .ref (xZ G + 260)] 0 0 (fun vv μ' I' P' => vv = some (.int (1)) ∧ μ' = μ ∧ I' = (I) ∧ P' = (P)) := by
  have hK0 := hK
  have hV0 := hV
  obtain ⟨ko, hS, ⟨kg, ng⟩, ⟨kl, nl⟩, ⟨kw, nw⟩, ⟨ku, nu⟩, ⟨kc, nc⟩, ⟨kr, nr⟩⟩ := hK
  obtain ⟨hp, ⟨st, H, tx, hO⟩, hi, hA, hcc⟩ := hV
  have hA0 := hA
  have hi0 := hi
  obtain ⟨ag, ar, at_⟩ := hA
  obtain ⟨hn20, hn, hq6, hq, hcur, hdr, h8, h9, h10, hrows⟩ := hi
  have hcn : cN S = n := by rw [cN, hn, nI_clamp (by omega)]
  have hcq : cQn S = rq := by rw [cQn, hq, nI_clamp (by omega)]
  obtain ⟨s0, s1, Y, f, g, d1, d2, d3, d4, d5, d6⟩ := hcc
  obtain ⟨t1, t2⟩ := rt_out hi0
  have h20 := p20 hn20
  refine Ct.of (cc := cL_areRoutes) (maxL := 10) (ret := (some .boolean)) [some (.ref (xZ G + 1)), some (.ref (xZ G + 255)), some (.ref (xZ G + 258)), some (.ref (xZ G + 260)), none, none, none, none, none, none] (by decide) rfl rfl rfl (Nat.le_of_ble_eq_true rfl) ?_
  intro X hC hD h0 _
  have lq2 : ∀ (q k : Nat), k + q = n → ∀ (j : Nat) (x5 : Option Value), j < rq → (∀ x9, xg X G (0, 0) μ I P [some (.ref (xZ G + 1)), some (.ref (xZ G + 255)), some (.ref (xZ G + 258)), some (.ref (xZ G + 260)), some (.int 1), x5, some (.int (nI j)), some (.int (nI (pcn n (Y j)))), some (.int (tnd (nI (Y j)) (fun i => S (13 + 17 * i)) n)), x9] 111 []) → xg X G (0, 0) μ I P [some (.ref (xZ G + 1)), some (.ref (xZ G + 255)), some (.ref (xZ G + 258)), some (.ref (xZ G + 260)), some (.int 1), x5, some (.int (nI j)), some (.int (nI (pcn k (Y j)))), some (.int (tnd (nI (Y j)) (fun i => S (13 + 17 * i)) k)), some (.int (nI k))] 59 [] := by
    intro q
    induction q with
    | zero =>
      intro k hk j x5 hjq kk
      have ek : n = k := by omega
      subst ek
      refine r_iload (pc := 59) hC dL_areRoutes_59 rfl ?_
      refine r_aload_n (pc := 61) hC dL_areRoutes_61 rfl ?_
      refine r_iconst (pc := 62) (v := 0) hC dL_areRoutes_62 (by decide) ?_
      refine r_iald (pc := 63) hC kg (xi_l (k := 0) ng (by decide) (by decide) (by decide)) dL_areRoutes_63 ?_
      rw [ag 0 (by decide), hn]
      refine r_icmp_ge (pc := 64) (tgt := 111) hC dL_areRoutes_64 (by decide) (fun bq64 => ?_) (fun bq64 => ?_)
      · skip
        exact kk _
      · skip
        exact absurd (nI_le (by omega) (by omega)) bq64
    | succ q ih =>
      intro k hk j x5 hjq kk
      refine r_iload (pc := 59) hC dL_areRoutes_59 rfl ?_
      refine r_aload_n (pc := 61) hC dL_areRoutes_61 rfl ?_
      refine r_iconst (pc := 62) (v := 0) hC dL_areRoutes_62 (by decide) ?_
      refine r_iald (pc := 63) hC kg (xi_l (k := 0) ng (by decide) (by decide) (by decide)) dL_areRoutes_63 ?_
      rw [ag 0 (by decide), hn]
      refine r_icmp_ge (pc := 64) (tgt := 111) hC dL_areRoutes_64 (by decide) (fun bq64 => ?_) (fun bq64 => ?_)
      · skip
        exact absurd bq64 (nI_ge (by omega) (by omega))
      · skip
        refine r_iload (pc := 67) hC dL_areRoutes_67 rfl ?_
        refine r_aload_n (pc := 69) hC dL_areRoutes_69 rfl ?_
        refine r_iconst (pc := 70) (v := 3) hC dL_areRoutes_70 (by decide) ?_
        refine r_iload (pc := 71) hC dL_areRoutes_71 rfl ?_
        refine r_imul (pc := 73) hC dL_areRoutes_73 ?_
        refine r_iald (pc := 74) hC kr (xi_e (k := 3 * j) (pk_mul 3 _) nr (by omega) (by decide)) dL_areRoutes_74 ?_
        rw [show I 260 (3 * j) = nI (Y j) from (at_ j hjq 0 (by decide)).trans (d6 j hjq).1]
        refine r_iload (pc := 75) hC dL_areRoutes_75 rfl ?_
        refine r_ishr (pc := 77) hC dL_areRoutes_77 ?_
        refine r_iconst (pc := 78) (v := 1) hC dL_areRoutes_78 (by decide) ?_
        refine r_iand (pc := 79) hC dL_areRoutes_79 ?_
        rw [bit_n (by have := (d6 j hjq).2.1; have := Nat.pow_le_pow_right (show 0 < 2 by decide) hn20; omega) (by omega)]
        refine r_iadd (pc := 80) hC dL_areRoutes_80 ?_
        rw [nI_add, ← pcn_hi]
        refine r_istore (pc := 81) (L' := [_, _, _, _, _, _, _, _, _, _]) hC dL_areRoutes_81 rfl (Nat.le_of_ble_eq_true rfl) rfl ?_
        refine r_iload (pc := 83) hC dL_areRoutes_83 rfl ?_
        refine r_aload_n (pc := 85) hC dL_areRoutes_85 rfl ?_
        refine r_iconst (pc := 86) (v := 3) hC dL_areRoutes_86 (by decide) ?_
        refine r_iload (pc := 87) hC dL_areRoutes_87 rfl ?_
        refine r_imul (pc := 89) hC dL_areRoutes_89 ?_
        refine r_iald (pc := 90) hC kr (xi_e (k := 3 * j) (pk_mul 3 _) nr (by omega) (by decide)) dL_areRoutes_90 ?_
        rw [show I 260 (3 * j) = nI (Y j) from (at_ j hjq 0 (by decide)).trans (d6 j hjq).1]
        refine r_iload (pc := 91) hC dL_areRoutes_91 rfl ?_
        refine r_ishr (pc := 93) hC dL_areRoutes_93 ?_
        refine r_aload_n (pc := 94) hC dL_areRoutes_94 rfl ?_
        refine r_iload (pc := 95) hC dL_areRoutes_95 rfl ?_
        refine r_iald (pc := 97) hC ku (xi_n (k := k) (by rw [nu]; omega) (by rw [nu]; decide)) dL_areRoutes_97 ?_
        rw [(ar k (by omega)).2.2.1]
        refine r_iand (pc := 98) hC dL_areRoutes_98 ?_
        refine r_iload (pc := 99) hC dL_areRoutes_99 rfl ?_
        refine r_ishl (pc := 101) hC dL_areRoutes_101 ?_
        refine r_ior (pc := 102) hC dL_areRoutes_102 ?_
        refine r_istore (pc := 103) (L' := [_, _, _, _, _, _, _, _, _, _]) hC dL_areRoutes_103 rfl (Nat.le_of_ble_eq_true rfl) rfl ?_
        refine r_iinc (pc := 105) (v := 1) (L' := [_, _, _, _, _, _, _, _, _, _]) hC dL_areRoutes_105 rfl (by decide) rfl rfl ?_
        refine r_goto (pc := 108) (tgt := 59) hC dL_areRoutes_108 (by decide) ?_
        rw [nI_1]; exact ih (k + 1) (by omega) j _ hjq kk
  have lq1 : ∀ (q k : Nat), k + q = rq → ∀ (x7 x8 x9 : Option Value), xg X G (0, 0) μ I P [some (.ref (xZ G + 1)), some (.ref (xZ G + 255)), some (.ref (xZ G + 258)), some (.ref (xZ G + 260)), some (.int 1), some (.int (nI (sumF f k))), some (.int (nI k)), x7, x8, x9] 37 [] := by
    intro q
    induction q with
    | zero =>
      intro k hk x7 x8 x9
      have ek : rq = k := by omega
      subst ek
      refine r_iload (pc := 37) hC dL_areRoutes_37 rfl ?_
      refine r_aload_n (pc := 39) hC dL_areRoutes_39 rfl ?_
      refine r_iconst (pc := 40) (v := 2) hC dL_areRoutes_40 (by decide) ?_
      refine r_iald (pc := 41) hC kg (xi_l (k := 2) ng (by decide) (by decide) (by decide)) dL_areRoutes_41 ?_
      rw [ag 2 (by decide), hq]
      refine r_icmp_ge (pc := 42) (tgt := 242) hC dL_areRoutes_42 (by decide) (fun bq42 => ?_) (fun bq42 => ?_)
      · skip
        refine r_iload (pc := 242) hC dL_areRoutes_242 rfl ?_
        refine r_if_eq (pc := 244) (tgt := 277) hC dL_areRoutes_244 (by decide) (fun bq => (by first | exact absurd ((by decide : ¬ (1 : Int32) = 0)) bq | exact absurd bq ((by decide : ¬ (1 : Int32) = 0)))) (fun bq244 => ?_)
        refine r_iload (pc := 247) hC dL_areRoutes_247 rfl ?_
        refine r_aload_n (pc := 249) hC dL_areRoutes_249 rfl ?_
        refine r_bipush (pc := 250) (v := 7) hC dL_areRoutes_250 (by decide) ?_
        refine k_X4_count (pc := 252) hC gL_areRoutes_X4_count ⟨Nat.le_of_ble_eq_true rfl, Nat.le_of_ble_eq_true rfl⟩ ko hS hp hO hi0 (Nat.le_of_ble_eq_true rfl) rfl ⟨Nat.zero_le _, Nat.zero_le _⟩ dL_areRoutes_252 ?_
        rw [(ct_ok (S := S) (ps := nI st) (ty := nI 0)).2.2.2.2.2.2.2.1, d1]
        refine r_icmp_gt (pc := 255) (tgt := 277) hC dL_areRoutes_255 (by decide) (fun bq => (by first | exact absurd ((nI_nlt (a := s0) (b := sumF f rq) d5 (by omega))) bq | exact absurd bq ((nI_nlt (a := s0) (b := sumF f rq) d5 (by omega))))) (fun bq255 => ?_)
        refine r_aload_n (pc := 258) hC dL_areRoutes_258 rfl ?_
        refine r_bipush (pc := 259) (v := 8) hC dL_areRoutes_259 (by decide) ?_
        refine k_X4_count (pc := 261) hC gL_areRoutes_X4_count ⟨Nat.le_of_ble_eq_true rfl, Nat.le_of_ble_eq_true rfl⟩ ko hS hp hO hi0 (Nat.le_of_ble_eq_true rfl) rfl ⟨Nat.zero_le _, Nat.zero_le _⟩ dL_areRoutes_261 ?_
        rw [(ct_ok (S := S) (ps := nI st) (ty := nI 0)).2.2.2.2.2.2.2.2.1, d2]
        refine r_aload_n (pc := 264) hC dL_areRoutes_264 rfl ?_
        refine r_bipush (pc := 265) (v := 7) hC dL_areRoutes_265 (by decide) ?_
        refine k_X4_count (pc := 267) hC gL_areRoutes_X4_count ⟨Nat.le_of_ble_eq_true rfl, Nat.le_of_ble_eq_true rfl⟩ ko hS hp hO hi0 (Nat.le_of_ble_eq_true rfl) rfl ⟨Nat.zero_le _, Nat.zero_le _⟩ dL_areRoutes_267 ?_
        rw [(ct_ok (S := S) (ps := nI st) (ty := nI 0)).2.2.2.2.2.2.2.1, d1]
        refine r_icmp_gt (pc := 270) (tgt := 277) hC dL_areRoutes_270 (by decide) (fun bq => (by first | exact absurd ((nI_nlt (a := s0) (b := s1) d3 (by omega))) bq | exact absurd bq ((nI_nlt (a := s0) (b := s1) d3 (by omega))))) (fun bq270 => ?_)
        refine r_iconst (pc := 273) (v := 1) hC dL_areRoutes_273 (by decide) ?_
        refine r_goto (pc := 274) (tgt := 278) hC dL_areRoutes_274 (by decide) ?_
        refine r_iret (pc := 278) hC hD rfl dL_areRoutes_278 rfl ?_
        exact ⟨rfl, rfl, rfl, rfl⟩
      · skip
        exact absurd (nI_le (by omega) (by omega)) bq42
    | succ q ih =>
      intro k hk x7 x8 x9
      refine r_iload (pc := 37) hC dL_areRoutes_37 rfl ?_
      refine r_aload_n (pc := 39) hC dL_areRoutes_39 rfl ?_
      refine r_iconst (pc := 40) (v := 2) hC dL_areRoutes_40 (by decide) ?_
      refine r_iald (pc := 41) hC kg (xi_l (k := 2) ng (by decide) (by decide) (by decide)) dL_areRoutes_41 ?_
      rw [ag 2 (by decide), hq]
      refine r_icmp_ge (pc := 42) (tgt := 242) hC dL_areRoutes_42 (by decide) (fun bq42 => ?_) (fun bq42 => ?_)
      · skip
        exact absurd bq42 (nI_ge (by omega) (by omega))
      · skip
        refine r_iload (pc := 45) hC dL_areRoutes_45 rfl ?_
        refine r_if_eq (pc := 47) (tgt := 242) hC dL_areRoutes_47 (by decide) (fun bq => (by first | exact absurd ((by decide : ¬ (1 : Int32) = 0)) bq | exact absurd bq ((by decide : ¬ (1 : Int32) = 0)))) (fun bq47 => ?_)
        refine r_iconst (pc := 50) (v := 0) hC dL_areRoutes_50 (by decide) ?_
        refine r_istore (pc := 51) (L' := [_, _, _, _, _, _, _, _, _, _]) hC dL_areRoutes_51 rfl (Nat.le_of_ble_eq_true rfl) rfl ?_
        refine r_iconst (pc := 53) (v := 0) hC dL_areRoutes_53 (by decide) ?_
        refine r_istore (pc := 54) (L' := [_, _, _, _, _, _, _, _, _, _]) hC dL_areRoutes_54 rfl (Nat.le_of_ble_eq_true rfl) rfl ?_
        refine r_iconst (pc := 56) (v := 0) hC dL_areRoutes_56 (by decide) ?_
        refine r_istore (pc := 57) (L' := [_, _, _, _, _, _, _, _, _, _]) hC dL_areRoutes_57 rfl (Nat.le_of_ble_eq_true rfl) rfl ?_
        refine lq2 n 0 (by omega) k _ (by omega) (fun x9 => ?_)
        obtain ⟨y1, y2, y3, y4, y5⟩ := d6 k (by omega)
        obtain ⟨r0, r1, r2, r3, r4, r5⟩ := rt_ok hi0 (show k < rq by omega)
        have hxn : Y k < 1048576 := Nat.lt_of_lt_of_le y2 h20
        have htn := tnd_ok (S := S) hi0 y2 n (Nat.le_refl n)
        have hpn := pcn_all y2 (show n ≤ 32 by omega)
        have i0 : I 260 (3 * k) = S (351 + 3 * k) := at_ k (by omega) 0 (by decide)
        have i1 : I 260 (3 * k + 1) = S (352 + 3 * k) := (at_ k (by omega) 1 (by decide)).trans (congrArg S (by omega))
        have i2 : I 260 (3 * k + 2) = S (353 + 3 * k) := (at_ k (by omega) 2 (by decide)).trans (congrArg S (by omega))
        refine r_iload (pc := 111) hC dL_areRoutes_111 rfl ?_
        refine r_aload_n (pc := 113) hC dL_areRoutes_113 rfl ?_
        refine r_iconst (pc := 114) (v := 3) hC dL_areRoutes_114 (by decide) ?_
        refine r_iload (pc := 115) hC dL_areRoutes_115 rfl ?_
        refine r_imul (pc := 117) hC dL_areRoutes_117 ?_
        refine r_iconst (pc := 118) (v := 1) hC dL_areRoutes_118 (by decide) ?_
        refine r_iadd (pc := 119) hC dL_areRoutes_119 ?_
        refine r_iald (pc := 120) hC kr (xi_e (k := 3 * k + 1) (by rw [show (3 : Int32) = nI 3 from rfl, pk_mul]; exact nI_add _ 1) nr (by omega) (by decide)) dL_areRoutes_120 ?_
        rw [i1, y3]
        refine r_iadd (pc := 121) hC dL_areRoutes_121 ?_
        rw [nI_add]
        refine r_istore (pc := 122) (L' := [_, _, _, _, _, _, _, _, _, _]) hC dL_areRoutes_122 rfl (Nat.le_of_ble_eq_true rfl) rfl ?_
        refine r_aload_n (pc := 124) hC dL_areRoutes_124 rfl ?_
        refine r_iload (pc := 125) hC dL_areRoutes_125 rfl ?_
        refine r_iconst (pc := 127) (v := 0) hC dL_areRoutes_127 (by decide) ?_
        refine k_X4_routeOf (pc := 128) hC gL_areRoutes_X4_routeOf ⟨Nat.le_of_ble_eq_true rfl, Nat.le_of_ble_eq_true rfl⟩ ko hS hp hO hi0 (Nat.le_of_ble_eq_true rfl) rfl ⟨Nat.zero_le _, Nat.zero_le _⟩ dL_areRoutes_128 ?_
        rw [r0]
        refine r_aload_n (pc := 131) hC dL_areRoutes_131 rfl ?_
        refine r_iconst (pc := 132) (v := 3) hC dL_areRoutes_132 (by decide) ?_
        refine r_iload (pc := 133) hC dL_areRoutes_133 rfl ?_
        refine r_imul (pc := 135) hC dL_areRoutes_135 ?_
        refine r_iald (pc := 136) hC kr (xi_e (k := 3 * k) (pk_mul 3 _) nr (by omega) (by decide)) dL_areRoutes_136 ?_
        rw [i0]
        refine r_icmp_ne (pc := 137) (tgt := 233) hC dL_areRoutes_137 (by decide) (fun bq => (by first | exact absurd (rfl) bq | exact absurd bq (rfl))) (fun bq137 => ?_)
        refine r_aload_n (pc := 140) hC dL_areRoutes_140 rfl ?_
        refine r_iload (pc := 141) hC dL_areRoutes_141 rfl ?_
        refine r_iconst (pc := 143) (v := 1) hC dL_areRoutes_143 (by decide) ?_
        refine k_X4_routeOf (pc := 144) hC gL_areRoutes_X4_routeOf ⟨Nat.le_of_ble_eq_true rfl, Nat.le_of_ble_eq_true rfl⟩ ko hS hp hO hi0 (Nat.le_of_ble_eq_true rfl) rfl ⟨Nat.zero_le _, Nat.zero_le _⟩ dL_areRoutes_144 ?_
        rw [r1, y1, ones_n (by omega), ← hpn]
        refine r_iload (pc := 147) hC dL_areRoutes_147 rfl ?_
        refine r_icmp_ne (pc := 149) (tgt := 233) hC dL_areRoutes_149 (by decide) (fun bq => (by first | exact absurd (rfl) bq | exact absurd bq (rfl))) (fun bq149 => ?_)
        refine r_aload_n (pc := 152) hC dL_areRoutes_152 rfl ?_
        refine r_iload (pc := 153) hC dL_areRoutes_153 rfl ?_
        refine r_iconst (pc := 155) (v := 2) hC dL_areRoutes_155 (by decide) ?_
        refine k_X4_routeOf (pc := 156) hC gL_areRoutes_X4_routeOf ⟨Nat.le_of_ble_eq_true rfl, Nat.le_of_ble_eq_true rfl⟩ ko hS hp hO hi0 (Nat.le_of_ble_eq_true rfl) rfl ⟨Nat.zero_le _, Nat.zero_le _⟩ dL_areRoutes_156 ?_
        rw [r2, y1, ← htn]
        refine r_iload (pc := 159) hC dL_areRoutes_159 rfl ?_
        refine r_icmp_ne (pc := 161) (tgt := 233) hC dL_areRoutes_161 (by decide) (fun bq => (by first | exact absurd (rfl) bq | exact absurd bq (rfl))) (fun bq161 => ?_)
        refine r_aload_n (pc := 164) hC dL_areRoutes_164 rfl ?_
        refine r_iload (pc := 165) hC dL_areRoutes_165 rfl ?_
        refine r_iconst (pc := 167) (v := 3) hC dL_areRoutes_167 (by decide) ?_
        refine k_X4_routeOf (pc := 168) hC gL_areRoutes_X4_routeOf ⟨Nat.le_of_ble_eq_true rfl, Nat.le_of_ble_eq_true rfl⟩ ko hS hp hO hi0 (Nat.le_of_ble_eq_true rfl) rfl ⟨Nat.zero_le _, Nat.zero_le _⟩ dL_areRoutes_168 ?_
        rw [r3]
        refine r_aload_n (pc := 171) hC dL_areRoutes_171 rfl ?_
        refine r_iconst (pc := 172) (v := 3) hC dL_areRoutes_172 (by decide) ?_
        refine r_iload (pc := 173) hC dL_areRoutes_173 rfl ?_
        refine r_imul (pc := 175) hC dL_areRoutes_175 ?_
        refine r_iconst (pc := 176) (v := 1) hC dL_areRoutes_176 (by decide) ?_
        refine r_iadd (pc := 177) hC dL_areRoutes_177 ?_
        refine r_iald (pc := 178) hC kr (xi_e (k := 3 * k + 1) (by rw [show (3 : Int32) = nI 3 from rfl, pk_mul]; exact nI_add _ 1) nr (by omega) (by decide)) dL_areRoutes_178 ?_
        rw [i1]
        refine r_icmp_ne (pc := 179) (tgt := 233) hC dL_areRoutes_179 (by decide) (fun bq => (by first | exact absurd (rfl) bq | exact absurd bq (rfl))) (fun bq179 => ?_)
        refine r_aload_n (pc := 182) hC dL_areRoutes_182 rfl ?_
        refine r_iload (pc := 183) hC dL_areRoutes_183 rfl ?_
        refine r_iconst (pc := 185) (v := 4) hC dL_areRoutes_185 (by decide) ?_
        refine k_X4_routeOf (pc := 186) hC gL_areRoutes_X4_routeOf ⟨Nat.le_of_ble_eq_true rfl, Nat.le_of_ble_eq_true rfl⟩ ko hS hp hO hi0 (Nat.le_of_ble_eq_true rfl) rfl ⟨Nat.zero_le _, Nat.zero_le _⟩ dL_areRoutes_186 ?_
        rw [r4]
        refine r_aload_n (pc := 189) hC dL_areRoutes_189 rfl ?_
        refine r_iconst (pc := 190) (v := 3) hC dL_areRoutes_190 (by decide) ?_
        refine r_iload (pc := 191) hC dL_areRoutes_191 rfl ?_
        refine r_imul (pc := 193) hC dL_areRoutes_193 ?_
        refine r_iconst (pc := 194) (v := 2) hC dL_areRoutes_194 (by decide) ?_
        refine r_iadd (pc := 195) hC dL_areRoutes_195 ?_
        refine r_iald (pc := 196) hC kr (xi_e (k := 3 * k + 2) (by rw [show (3 : Int32) = nI 3 from rfl, pk_mul]; exact nI_add _ 2) nr (by omega) (by decide)) dL_areRoutes_196 ?_
        rw [i2]
        refine r_icmp_ne (pc := 197) (tgt := 233) hC dL_areRoutes_197 (by decide) (fun bq => (by first | exact absurd (rfl) bq | exact absurd bq (rfl))) (fun bq197 => ?_)
        refine r_aload_n (pc := 200) hC dL_areRoutes_200 rfl ?_
        refine r_iload (pc := 201) hC dL_areRoutes_201 rfl ?_
        refine r_iconst (pc := 203) (v := 5) hC dL_areRoutes_203 (by decide) ?_
        refine k_X4_routeOf (pc := 204) hC gL_areRoutes_X4_routeOf ⟨Nat.le_of_ble_eq_true rfl, Nat.le_of_ble_eq_true rfl⟩ ko hS hp hO hi0 (Nat.le_of_ble_eq_true rfl) rfl ⟨Nat.zero_le _, Nat.zero_le _⟩ dL_areRoutes_204 ?_
        rw [r5]
        refine r_ldc (pc := 207) (v := -1000001) hC dL_areRoutes_207 wl_L_areRoutes_71 ?_
        refine r_icmp_ne (pc := 209) (tgt := 233) hC dL_areRoutes_209 (by decide) (fun bq => (by first | exact absurd (rfl) bq | exact absurd bq (rfl))) (fun bq209 => ?_)
        refine r_aload_n (pc := 212) hC dL_areRoutes_212 rfl ?_
        refine r_iload (pc := 213) hC dL_areRoutes_213 rfl ?_
        refine r_iconst (pc := 215) (v := 4) hC dL_areRoutes_215 (by decide) ?_
        refine k_X4_routeOf (pc := 216) hC gL_areRoutes_X4_routeOf ⟨Nat.le_of_ble_eq_true rfl, Nat.le_of_ble_eq_true rfl⟩ ko hS hp hO hi0 (Nat.le_of_ble_eq_true rfl) rfl ⟨Nat.zero_le _, Nat.zero_le _⟩ dL_areRoutes_216 ?_
        rw [r4, y4]
        refine r_aload_n (pc := 219) hC dL_areRoutes_219 rfl ?_
        refine r_iload (pc := 220) hC dL_areRoutes_220 rfl ?_
        refine r_iconst (pc := 222) (v := 3) hC dL_areRoutes_222 (by decide) ?_
        refine k_X4_routeOf (pc := 223) hC gL_areRoutes_X4_routeOf ⟨Nat.le_of_ble_eq_true rfl, Nat.le_of_ble_eq_true rfl⟩ ko hS hp hO hi0 (Nat.le_of_ble_eq_true rfl) rfl ⟨Nat.zero_le _, Nat.zero_le _⟩ dL_areRoutes_223 ?_
        rw [r3, y3]
        refine r_icmp_gt (pc := 226) (tgt := 233) hC dL_areRoutes_226 (by decide) (fun bq => (by first | exact absurd ((nI_nlt (a := f k) (b := g k) y5 (by have := sumF_le (f := f) (show k < rq by omega); omega))) bq | exact absurd bq ((nI_nlt (a := f k) (b := g k) y5 (by have := sumF_le (f := f) (show k < rq by omega); omega))))) (fun bq226 => ?_)
        refine r_iconst (pc := 229) (v := 1) hC dL_areRoutes_229 (by decide) ?_
        refine r_goto (pc := 230) (tgt := 234) hC dL_areRoutes_230 (by decide) ?_
        refine r_istore (pc := 234) (L' := [_, _, _, _, _, _, _, _, _, _]) hC dL_areRoutes_234 rfl (Nat.le_of_ble_eq_true rfl) rfl ?_
        refine r_iinc (pc := 236) (v := 1) (L' := [_, _, _, _, _, _, _, _, _, _]) hC dL_areRoutes_236 rfl (by decide) rfl rfl ?_
        refine r_goto (pc := 239) (tgt := 37) hC dL_areRoutes_239 (by decide) ?_
        rw [nI_1]; exact ih (k + 1) (by omega) _ _ _
  refine r_aload_n (pc := 0) hC dL_areRoutes_0 rfl ?_
  refine r_aload_n (pc := 1) hC dL_areRoutes_1 rfl ?_
  refine r_iconst (pc := 2) (v := 2) hC dL_areRoutes_2 (by decide) ?_
  refine r_iald (pc := 3) hC kg (xi_l (k := 2) ng (by decide) (by decide) (by decide)) dL_areRoutes_3 ?_
  rw [ag 2 (by decide), hq]
  refine r_iconst (pc := 4) (v := 0) hC dL_areRoutes_4 (by decide) ?_
  refine k_X4_routeOf (pc := 5) hC gL_areRoutes_X4_routeOf ⟨Nat.le_of_ble_eq_true rfl, Nat.le_of_ble_eq_true rfl⟩ ko hS hp hO hi0 (Nat.le_of_ble_eq_true rfl) rfl ⟨Nat.zero_le _, Nat.zero_le _⟩ dL_areRoutes_5 ?_
  rw [t1]
  refine r_ldc (pc := 8) (v := -1000001) hC dL_areRoutes_8 wl_L_areRoutes_71 ?_
  refine r_icmp_ne (pc := 10) (tgt := 28) hC dL_areRoutes_10 (by decide) (fun bq => (by first | exact absurd (rfl) bq | exact absurd bq (rfl))) (fun bq10 => ?_)
  refine r_aload_n (pc := 13) hC dL_areRoutes_13 rfl ?_
  refine r_iconst (pc := 14) (v := -1) hC dL_areRoutes_14 (by decide) ?_
  refine r_iconst (pc := 15) (v := 0) hC dL_areRoutes_15 (by decide) ?_
  refine k_X4_routeOf (pc := 16) hC gL_areRoutes_X4_routeOf ⟨Nat.le_of_ble_eq_true rfl, Nat.le_of_ble_eq_true rfl⟩ ko hS hp hO hi0 (Nat.le_of_ble_eq_true rfl) rfl ⟨Nat.zero_le _, Nat.zero_le _⟩ dL_areRoutes_16 ?_
  rw [t2]
  refine r_ldc (pc := 19) (v := -1000001) hC dL_areRoutes_19 wl_L_areRoutes_71 ?_
  refine r_icmp_ne (pc := 21) (tgt := 28) hC dL_areRoutes_21 (by decide) (fun bq => (by first | exact absurd (rfl) bq | exact absurd bq (rfl))) (fun bq21 => ?_)
  refine r_iconst (pc := 24) (v := 1) hC dL_areRoutes_24 (by decide) ?_
  refine r_goto (pc := 25) (tgt := 29) hC dL_areRoutes_25 (by decide) ?_
  refine r_istore (pc := 29) (L' := [_, _, _, _, _, _, _, _, _, _]) hC dL_areRoutes_29 rfl (Nat.le_of_ble_eq_true rfl) rfl ?_
  refine r_iconst (pc := 31) (v := 0) hC dL_areRoutes_31 (by decide) ?_
  refine r_istore (pc := 32) (L' := [_, _, _, _, _, _, _, _, _, _]) hC dL_areRoutes_32 rfl (Nat.le_of_ble_eq_true rfl) rfl ?_
  refine r_iconst (pc := 34) (v := 0) hC dL_areRoutes_34 (by decide) ?_
  refine r_istore (pc := 35) (L' := [_, _, _, _, _, _, _, _, _, _]) hC dL_areRoutes_35 rfl (Nat.le_of_ble_eq_true rfl) rfl ?_
  exact lq1 rq 0 (by omega) none none none
theorem k_L_areRoutes {X : xF} {G : xG} {cs : Nat × Nat} {μ : xM} {I : xI} {P : xP} {L : List (Option Value)} {pc : Nat} {rest : List Value} {cc : ByteArray} {Ts : List Cond} {own : String} {nL : Nat} {R : Room} (hC : xC X G cc Ts own nL R) {index : Nat} (hG : GoodIn Ts (va_wsS own index yL_areRoutes wsL_areRoutes)) (hR : rm_L_areRoutes.frames + 1 ≤ R.frames ∧ 8 + (10 + 11) + rm_L_areRoutes.locals ≤ R.locals) {n rq cn : Nat} {S : Nat → Int32}  (hK : lK μ) (hV : lV I P S n rq cn) (hcb : cn < 1000000) (hW : (rest.map fun v => v.category).sum ≤ 8) (hL : L.length = nL) (hcs : cs.1 ≤ R.cells ∧ cs.2 ≤ R.slots) (hdec : decode cc pc = .ok (.invokestatic index, 3)) (kk : xg X G cs μ I P L (pc + 3) (.int (1) :: rest)) : xg X G cs μ I P L pc (.ref (xZ G + 260) :: .ref (xZ G + 258) :: .ref (xZ G + 255) :: .ref (xZ G + 1) :: rest) :=
  r_callS hC (c_L_areRoutes X.2.1 hK hV hcb) hG rfl rfl rfl hd_L_areRoutes.2 hR rfl rfl hW hL hcs hdec (by rintro v μ' I' P' ⟨rfl, rfl, rfl, rfl⟩; exact kk)
abbrev rm_L_isSo : Room := { frames := 9, cells := 0, slots := 0, locals := 204 }
theorem wl_L_isSo_60 : Cond.constant RL 60 (-1000004) ∈ wsL_isSo := List.mem_of_getElem? (i := 1) (by decide +kernel)
theorem hd_L_isSo : yL_isSo.cls = RL ∧ yL_isSo.cls ≠ "java/lang/invoke/MethodHandle" ∧ yL_isSo.cls ≠ "java/lang/invoke/VarHandle" ∧ (parseMethodDescriptor yL_isSo.desc).map (fun d => d.parameters.length) = some 7 := ⟨rfl, by decide +kernel, by decide +kernel, by decide +kernel⟩
set_option maxHeartbeats 4000000 in
set_option maxRecDepth 100000 in
theorem c_L_isSo (l : Launch) {G : xG} {μ : xM} {I : xI} {P : xP} {n rq cn : Nat} {S : Nat → Int32}  (hK : lK μ) (hV : lV I P S n rq cn) (hcb : cn < 1000000) : Ct l yL_isSo wsL_isSo rm_L_isSo G μ I P [.ref (xZ G + 1), .ref (xZ G + 255), .ref (xZ G + 256), .ref (xZ G + 257), .ref (xZ G + 258), .ref (xZ G + 259), .ref (xZ G + 260)] 0 0 (fun vv μ' I' P' => vv = some (.int (1)) ∧ μ' = μ ∧ I' = (I) ∧ P' = (P)) := by
  have hK0 := hK
  have hV0 := hV
  obtain ⟨ko, hS, ⟨kg, ng⟩, ⟨kl, nl⟩, ⟨kw, nw⟩, ⟨ku, nu⟩, ⟨kc, nc⟩, ⟨kr, nr⟩⟩ := hK
  obtain ⟨hp, ⟨st, H, tx, hO⟩, hi, hA, hcc⟩ := hV
  have hA0 := hA
  have hi0 := hi
  obtain ⟨ag, ar, at_⟩ := hA
  obtain ⟨hn20, hn, hq6, hq, hcur, hdr, h8, h9, h10, hrows⟩ := hi
  have hcn : cN S = n := by rw [cN, hn, nI_clamp (by omega)]
  have hcq : cQn S = rq := by rw [cQn, hq, nI_clamp (by omega)]
  refine Ct.of (cc := cL_isSo) (maxL := 7) (ret := (some .boolean)) [some (.ref (xZ G + 1)), some (.ref (xZ G + 255)), some (.ref (xZ G + 256)), some (.ref (xZ G + 257)), some (.ref (xZ G + 258)), some (.ref (xZ G + 259)), some (.ref (xZ G + 260))] (by decide) rfl rfl rfl (Nat.le_of_ble_eq_true rfl) ?_
  intro X hC hD h0 _
  refine r_aload_n (pc := 0) hC dL_isSo_0 rfl ?_
  refine r_aload_n (pc := 1) hC dL_isSo_1 rfl ?_
  refine r_aload_n (pc := 2) hC dL_isSo_2 rfl ?_
  refine r_aload_n (pc := 3) hC dL_isSo_3 rfl ?_
  refine r_aload (pc := 4) hC dL_isSo_4 rfl ?_
  refine r_aload (pc := 6) hC dL_isSo_6 rfl ?_
  refine r_aload (pc := 8) hC dL_isSo_8 rfl ?_
  refine k_L_areRows (pc := 10) hC gL_isSo_L_areRows ⟨Nat.le_of_ble_eq_true rfl, Nat.le_of_ble_eq_true rfl⟩ hK0 hV0 hcb (Nat.le_of_ble_eq_true rfl) rfl ⟨Nat.zero_le _, Nat.zero_le _⟩ dL_isSo_10 ?_
  refine r_if_eq (pc := 13) (tgt := 218) hC dL_isSo_13 (by decide) (fun bq => (by first | exact absurd ((by decide : ¬ (1 : Int32) = 0)) bq | exact absurd bq ((by decide : ¬ (1 : Int32) = 0)))) (fun bq13 => ?_)
  refine r_aload_n (pc := 16) hC dL_isSo_16 rfl ?_
  refine r_aload_n (pc := 17) hC dL_isSo_17 rfl ?_
  refine r_aload (pc := 18) hC dL_isSo_18 rfl ?_
  refine r_aload (pc := 20) hC dL_isSo_20 rfl ?_
  refine k_L_areRoutes (pc := 22) hC gL_isSo_L_areRoutes ⟨Nat.le_of_ble_eq_true rfl, Nat.le_of_ble_eq_true rfl⟩ hK0 hV0 hcb (Nat.le_of_ble_eq_true rfl) rfl ⟨Nat.zero_le _, Nat.zero_le _⟩ dL_isSo_22 ?_
  refine r_if_eq (pc := 25) (tgt := 218) hC dL_isSo_25 (by decide) (fun bq => (by first | exact absurd ((by decide : ¬ (1 : Int32) = 0)) bq | exact absurd bq ((by decide : ¬ (1 : Int32) = 0)))) (fun bq25 => ?_)
  refine r_aload_n (pc := 28) hC dL_isSo_28 rfl ?_
  refine r_iconst (pc := 29) (v := 0) hC dL_isSo_29 (by decide) ?_
  refine k_X4_count (pc := 30) hC gL_isSo_X4_count ⟨Nat.le_of_ble_eq_true rfl, Nat.le_of_ble_eq_true rfl⟩ ko hS hp hO hi0 (Nat.le_of_ble_eq_true rfl) rfl ⟨Nat.zero_le _, Nat.zero_le _⟩ dL_isSo_30 ?_
  rw [(ct_ok (S := S) (ps := nI st) (ty := nI 0)).1]
  refine r_aload_n (pc := 33) hC dL_isSo_33 rfl ?_
  refine r_iconst (pc := 34) (v := 0) hC dL_isSo_34 (by decide) ?_
  refine r_iald (pc := 35) hC kg (xi_l (k := 0) ng (by decide) (by decide) (by decide)) dL_isSo_35 ?_
  rw [ag 0 (by decide)]
  refine r_icmp_ne (pc := 36) (tgt := 218) hC dL_isSo_36 (by decide) (fun bq => (by first | exact absurd (rfl) bq | exact absurd bq (rfl))) (fun bq36 => ?_)
  refine r_aload_n (pc := 39) hC dL_isSo_39 rfl ?_
  refine r_iconst (pc := 40) (v := 1) hC dL_isSo_40 (by decide) ?_
  refine k_X4_count (pc := 41) hC gL_isSo_X4_count ⟨Nat.le_of_ble_eq_true rfl, Nat.le_of_ble_eq_true rfl⟩ ko hS hp hO hi0 (Nat.le_of_ble_eq_true rfl) rfl ⟨Nat.zero_le _, Nat.zero_le _⟩ dL_isSo_41 ?_
  rw [(ct_ok (S := S) (ps := nI st) (ty := nI 0)).2.1]
  refine r_aload_n (pc := 44) hC dL_isSo_44 rfl ?_
  refine r_iconst (pc := 45) (v := 1) hC dL_isSo_45 (by decide) ?_
  refine r_iald (pc := 46) hC kg (xi_l (k := 1) ng (by decide) (by decide) (by decide)) dL_isSo_46 ?_
  rw [ag 1 (by decide)]
  refine r_if_ge (pc := 47) (tgt := 55) hC dL_isSo_47 (by decide) (fun bq47 => ?_) (fun bq47 => ?_)
  · skip
    refine r_aload_n (pc := 55) hC dL_isSo_55 rfl ?_
    refine r_iconst (pc := 56) (v := 1) hC dL_isSo_56 (by decide) ?_
    refine r_iald (pc := 57) hC kg (xi_l (k := 1) ng (by decide) (by decide) (by decide)) dL_isSo_57 ?_
    rw [if_pos bq47, ag 1 (by decide)]
    refine r_icmp_ne (pc := 58) (tgt := 218) hC dL_isSo_58 (by decide) (fun bq => (by first | exact absurd (rfl) bq | exact absurd bq (rfl))) (fun bq58 => ?_)
    refine r_aload_n (pc := 61) hC dL_isSo_61 rfl ?_
    refine r_iconst (pc := 62) (v := 2) hC dL_isSo_62 (by decide) ?_
    refine k_X4_count (pc := 63) hC gL_isSo_X4_count ⟨Nat.le_of_ble_eq_true rfl, Nat.le_of_ble_eq_true rfl⟩ ko hS hp hO hi0 (Nat.le_of_ble_eq_true rfl) rfl ⟨Nat.zero_le _, Nat.zero_le _⟩ dL_isSo_63 ?_
    rw [(ct_ok (S := S) (ps := nI st) (ty := nI 0)).2.2.1]
    refine r_aload_n (pc := 66) hC dL_isSo_66 rfl ?_
    refine r_iconst (pc := 67) (v := 2) hC dL_isSo_67 (by decide) ?_
    refine r_iald (pc := 68) hC kg (xi_l (k := 2) ng (by decide) (by decide) (by decide)) dL_isSo_68 ?_
    rw [ag 2 (by decide)]
    refine r_icmp_ne (pc := 69) (tgt := 218) hC dL_isSo_69 (by decide) (fun bq => (by first | exact absurd (rfl) bq | exact absurd bq (rfl))) (fun bq69 => ?_)
    refine r_aload_n (pc := 72) hC dL_isSo_72 rfl ?_
    refine r_iconst (pc := 73) (v := 3) hC dL_isSo_73 (by decide) ?_
    refine k_X4_count (pc := 74) hC gL_isSo_X4_count ⟨Nat.le_of_ble_eq_true rfl, Nat.le_of_ble_eq_true rfl⟩ ko hS hp hO hi0 (Nat.le_of_ble_eq_true rfl) rfl ⟨Nat.zero_le _, Nat.zero_le _⟩ dL_isSo_74 ?_
    rw [(ct_ok (S := S) (ps := nI st) (ty := nI 0)).2.2.2.1]
    refine r_aload_n (pc := 77) hC dL_isSo_77 rfl ?_
    refine r_iconst (pc := 78) (v := 3) hC dL_isSo_78 (by decide) ?_
    refine r_iald (pc := 79) hC kg (xi_l (k := 3) ng (by decide) (by decide) (by decide)) dL_isSo_79 ?_
    rw [ag 3 (by decide)]
    refine r_if_ge (pc := 80) (tgt := 88) hC dL_isSo_80 (by decide) (fun bq80 => ?_) (fun bq80 => ?_)
    · skip
      refine r_aload_n (pc := 88) hC dL_isSo_88 rfl ?_
      refine r_iconst (pc := 89) (v := 3) hC dL_isSo_89 (by decide) ?_
      refine r_iald (pc := 90) hC kg (xi_l (k := 3) ng (by decide) (by decide) (by decide)) dL_isSo_90 ?_
      rw [if_pos bq80, ag 3 (by decide)]
      refine r_icmp_ne (pc := 91) (tgt := 218) hC dL_isSo_91 (by decide) (fun bq => (by first | exact absurd (rfl) bq | exact absurd bq (rfl))) (fun bq91 => ?_)
      refine r_aload_n (pc := 94) hC dL_isSo_94 rfl ?_
      refine r_iconst (pc := 95) (v := 5) hC dL_isSo_95 (by decide) ?_
      refine k_X4_count (pc := 96) hC gL_isSo_X4_count ⟨Nat.le_of_ble_eq_true rfl, Nat.le_of_ble_eq_true rfl⟩ ko hS hp hO hi0 (Nat.le_of_ble_eq_true rfl) rfl ⟨Nat.zero_le _, Nat.zero_le _⟩ dL_isSo_96 ?_
      rw [(ct_ok (S := S) (ps := nI st) (ty := nI 0)).2.2.2.2.2.1]
      refine r_aload_n (pc := 99) hC dL_isSo_99 rfl ?_
      refine r_iconst (pc := 100) (v := 4) hC dL_isSo_100 (by decide) ?_
      refine r_iald (pc := 101) hC kg (xi_l (k := 4) ng (by decide) (by decide) (by decide)) dL_isSo_101 ?_
      rw [ag 4 (by decide)]
      refine r_icmp_ne (pc := 102) (tgt := 218) hC dL_isSo_102 (by decide) (fun bq => (by first | exact absurd (rfl) bq | exact absurd bq (rfl))) (fun bq102 => ?_)
      refine r_aload_n (pc := 105) hC dL_isSo_105 rfl ?_
      refine r_bipush (pc := 106) (v := 6) hC dL_isSo_106 (by decide) ?_
      refine k_X4_count (pc := 108) hC gL_isSo_X4_count ⟨Nat.le_of_ble_eq_true rfl, Nat.le_of_ble_eq_true rfl⟩ ko hS hp hO hi0 (Nat.le_of_ble_eq_true rfl) rfl ⟨Nat.zero_le _, Nat.zero_le _⟩ dL_isSo_108 ?_
      rw [(ct_ok (S := S) (ps := nI st) (ty := nI 0)).2.2.2.2.2.2.1]
      refine r_aload_n (pc := 111) hC dL_isSo_111 rfl ?_
      refine r_iconst (pc := 112) (v := 5) hC dL_isSo_112 (by decide) ?_
      refine r_iald (pc := 113) hC kg (xi_l (k := 5) ng (by decide) (by decide) (by decide)) dL_isSo_113 ?_
      rw [ag 5 (by decide)]
      refine r_icmp_ne (pc := 114) (tgt := 218) hC dL_isSo_114 (by decide) (fun bq => (by first | exact absurd (rfl) bq | exact absurd bq (rfl))) (fun bq114 => ?_)
      refine r_aload_n (pc := 117) hC dL_isSo_117 rfl ?_
      refine r_bipush (pc := 118) (v := 7) hC dL_isSo_118 (by decide) ?_
      refine k_X4_count (pc := 120) hC gL_isSo_X4_count ⟨Nat.le_of_ble_eq_true rfl, Nat.le_of_ble_eq_true rfl⟩ ko hS hp hO hi0 (Nat.le_of_ble_eq_true rfl) rfl ⟨Nat.zero_le _, Nat.zero_le _⟩ dL_isSo_120 ?_
      rw [(ct_ok (S := S) (ps := nI st) (ty := nI 0)).2.2.2.2.2.2.2.1]
      refine r_aload_n (pc := 123) hC dL_isSo_123 rfl ?_
      refine r_bipush (pc := 124) (v := 6) hC dL_isSo_124 (by decide) ?_
      refine r_iald (pc := 126) hC kg (xi_l (k := 6) ng (by decide) (by decide) (by decide)) dL_isSo_126 ?_
      rw [ag 6 (by decide)]
      refine r_icmp_ne (pc := 127) (tgt := 218) hC dL_isSo_127 (by decide) (fun bq => (by first | exact absurd (rfl) bq | exact absurd bq (rfl))) (fun bq127 => ?_)
      refine r_aload_n (pc := 130) hC dL_isSo_130 rfl ?_
      refine r_bipush (pc := 131) (v := 8) hC dL_isSo_131 (by decide) ?_
      refine k_X4_count (pc := 133) hC gL_isSo_X4_count ⟨Nat.le_of_ble_eq_true rfl, Nat.le_of_ble_eq_true rfl⟩ ko hS hp hO hi0 (Nat.le_of_ble_eq_true rfl) rfl ⟨Nat.zero_le _, Nat.zero_le _⟩ dL_isSo_133 ?_
      rw [(ct_ok (S := S) (ps := nI st) (ty := nI 0)).2.2.2.2.2.2.2.2.1]
      refine r_aload_n (pc := 136) hC dL_isSo_136 rfl ?_
      refine r_bipush (pc := 137) (v := 7) hC dL_isSo_137 (by decide) ?_
      refine r_iald (pc := 139) hC kg (xi_l (k := 7) ng (by decide) (by decide) (by decide)) dL_isSo_139 ?_
      rw [ag 7 (by decide)]
      refine r_icmp_ne (pc := 140) (tgt := 218) hC dL_isSo_140 (by decide) (fun bq => (by first | exact absurd (rfl) bq | exact absurd bq (rfl))) (fun bq140 => ?_)
      refine r_aload_n (pc := 143) hC dL_isSo_143 rfl ?_
      refine r_bipush (pc := 144) (v := 9) hC dL_isSo_144 (by decide) ?_
      refine k_X4_count (pc := 146) hC gL_isSo_X4_count ⟨Nat.le_of_ble_eq_true rfl, Nat.le_of_ble_eq_true rfl⟩ ko hS hp hO hi0 (Nat.le_of_ble_eq_true rfl) rfl ⟨Nat.zero_le _, Nat.zero_le _⟩ dL_isSo_146 ?_
      rw [(ct_ok (S := S) (ps := nI st) (ty := nI 0)).2.2.2.2.2.2.2.2.2.1]
      refine r_aload_n (pc := 149) hC dL_isSo_149 rfl ?_
      refine r_aload_n (pc := 150) hC dL_isSo_150 rfl ?_
      refine r_aload (pc := 151) hC dL_isSo_151 rfl ?_
      refine r_aload (pc := 153) hC dL_isSo_153 rfl ?_
      refine r_aload (pc := 155) hC dL_isSo_155 rfl ?_
      refine r_aload_n (pc := 157) hC dL_isSo_157 rfl ?_
      refine r_iconst (pc := 158) (v := 1) hC dL_isSo_158 (by decide) ?_
      refine r_iald (pc := 159) hC kg (xi_l (k := 1) ng (by decide) (by decide) (by decide)) dL_isSo_159 ?_
      rw [ag 1 (by decide)]
      refine k_L_wrong (pc := 160) hC gL_isSo_L_wrong ⟨Nat.le_of_ble_eq_true rfl, Nat.le_of_ble_eq_true rfl⟩ hK0 hA0 hi0 (Nat.le_of_ble_eq_true rfl) rfl ⟨Nat.zero_le _, Nat.zero_le _⟩ dL_isSo_160 ?_
      refine r_icmp_ne (pc := 163) (tgt := 218) hC dL_isSo_163 (by decide) (fun bq => (by first | exact absurd (rfl) bq | exact absurd bq (rfl))) (fun bq163 => ?_)
      refine r_aload_n (pc := 166) hC dL_isSo_166 rfl ?_
      refine r_bipush (pc := 167) (v := 12) hC dL_isSo_167 (by decide) ?_
      refine k_X4_count (pc := 169) hC gL_isSo_X4_count ⟨Nat.le_of_ble_eq_true rfl, Nat.le_of_ble_eq_true rfl⟩ ko hS hp hO hi0 (Nat.le_of_ble_eq_true rfl) rfl ⟨Nat.zero_le _, Nat.zero_le _⟩ dL_isSo_169 ?_
      rw [(ct_ok (S := S) (ps := nI st) (ty := nI 0)).2.2.2.2.2.2.2.2.2.2.2.1]
      refine r_if_ne (pc := 172) (tgt := 218) hC dL_isSo_172 (by decide) (fun bq => (by first | exact absurd ((rfl : nI 0 = 0)) bq | exact absurd bq ((rfl : nI 0 = 0)))) (fun bq172 => ?_)
      refine r_aload_n (pc := 175) hC dL_isSo_175 rfl ?_
      refine r_bipush (pc := 176) (v := 20) hC dL_isSo_176 (by decide) ?_
      refine k_X4_count (pc := 178) hC gL_isSo_X4_count ⟨Nat.le_of_ble_eq_true rfl, Nat.le_of_ble_eq_true rfl⟩ ko hS hp hO hi0 (Nat.le_of_ble_eq_true rfl) rfl ⟨Nat.zero_le _, Nat.zero_le _⟩ dL_isSo_178 ?_
      rw [(ct_ok (S := S) (ps := nI st) (ty := nI 0)).2.2.2.2.2.2.2.2.2.2.2.2.1]
      refine r_aload_n (pc := 181) hC dL_isSo_181 rfl ?_
      refine r_bipush (pc := 182) (v := 8) hC dL_isSo_182 (by decide) ?_
      refine r_iald (pc := 184) hC kg (xi_l (k := 8) ng (by decide) (by decide) (by decide)) dL_isSo_184 ?_
      rw [ag 8 (by decide)]
      refine r_icmp_ne (pc := 185) (tgt := 218) hC dL_isSo_185 (by decide) (fun bq => (by first | exact absurd (rfl) bq | exact absurd bq (rfl))) (fun bq185 => ?_)
      refine r_aload_n (pc := 188) hC dL_isSo_188 rfl ?_
      refine r_bipush (pc := 189) (v := 21) hC dL_isSo_189 (by decide) ?_
      refine k_X4_count (pc := 191) hC gL_isSo_X4_count ⟨Nat.le_of_ble_eq_true rfl, Nat.le_of_ble_eq_true rfl⟩ ko hS hp hO hi0 (Nat.le_of_ble_eq_true rfl) rfl ⟨Nat.zero_le _, Nat.zero_le _⟩ dL_isSo_191 ?_
      rw [(ct_ok (S := S) (ps := nI st) (ty := nI 0)).2.2.2.2.2.2.2.2.2.2.2.2.2.1]
      refine r_aload_n (pc := 194) hC dL_isSo_194 rfl ?_
      refine r_bipush (pc := 195) (v := 9) hC dL_isSo_195 (by decide) ?_
      refine r_iald (pc := 197) hC kg (xi_l (k := 9) ng (by decide) (by decide) (by decide)) dL_isSo_197 ?_
      rw [ag 9 (by decide)]
      refine r_icmp_ne (pc := 198) (tgt := 218) hC dL_isSo_198 (by decide) (fun bq => (by first | exact absurd (rfl) bq | exact absurd bq (rfl))) (fun bq198 => ?_)
      refine r_aload_n (pc := 201) hC dL_isSo_201 rfl ?_
      refine r_bipush (pc := 202) (v := 22) hC dL_isSo_202 (by decide) ?_
      refine k_X4_count (pc := 204) hC gL_isSo_X4_count ⟨Nat.le_of_ble_eq_true rfl, Nat.le_of_ble_eq_true rfl⟩ ko hS hp hO hi0 (Nat.le_of_ble_eq_true rfl) rfl ⟨Nat.zero_le _, Nat.zero_le _⟩ dL_isSo_204 ?_
      rw [(ct_ok (S := S) (ps := nI st) (ty := nI 0)).2.2.2.2.2.2.2.2.2.2.2.2.2.2.1]
      refine r_aload_n (pc := 207) hC dL_isSo_207 rfl ?_
      refine r_bipush (pc := 208) (v := 10) hC dL_isSo_208 (by decide) ?_
      refine r_iald (pc := 210) hC kg (xi_l (k := 10) ng (by decide) (by decide) (by decide)) dL_isSo_210 ?_
      rw [ag 10 (by decide)]
      refine r_icmp_ne (pc := 211) (tgt := 218) hC dL_isSo_211 (by decide) (fun bq => (by first | exact absurd (rfl) bq | exact absurd bq (rfl))) (fun bq211 => ?_)
      refine r_iconst (pc := 214) (v := 1) hC dL_isSo_214 (by decide) ?_
      refine r_goto (pc := 215) (tgt := 219) hC dL_isSo_215 (by decide) ?_
      refine r_iret (pc := 219) hC hD rfl dL_isSo_219 rfl ?_
      exact ⟨rfl, rfl, rfl, rfl⟩
    · skip
      refine r_ldc (pc := 83) (v := -1000004) hC dL_isSo_83 wl_L_isSo_60 ?_
      refine r_goto (pc := 85) (tgt := 91) hC dL_isSo_85 (by decide) ?_
      rw [if_neg bq80]
      refine r_icmp_ne (pc := 91) (tgt := 218) hC dL_isSo_91 (by decide) (fun bq => (by first | exact absurd (rfl) bq | exact absurd bq (rfl))) (fun bq91 => ?_)
      refine r_aload_n (pc := 94) hC dL_isSo_94 rfl ?_
      refine r_iconst (pc := 95) (v := 5) hC dL_isSo_95 (by decide) ?_
      refine k_X4_count (pc := 96) hC gL_isSo_X4_count ⟨Nat.le_of_ble_eq_true rfl, Nat.le_of_ble_eq_true rfl⟩ ko hS hp hO hi0 (Nat.le_of_ble_eq_true rfl) rfl ⟨Nat.zero_le _, Nat.zero_le _⟩ dL_isSo_96 ?_
      rw [(ct_ok (S := S) (ps := nI st) (ty := nI 0)).2.2.2.2.2.1]
      refine r_aload_n (pc := 99) hC dL_isSo_99 rfl ?_
      refine r_iconst (pc := 100) (v := 4) hC dL_isSo_100 (by decide) ?_
      refine r_iald (pc := 101) hC kg (xi_l (k := 4) ng (by decide) (by decide) (by decide)) dL_isSo_101 ?_
      rw [ag 4 (by decide)]
      refine r_icmp_ne (pc := 102) (tgt := 218) hC dL_isSo_102 (by decide) (fun bq => (by first | exact absurd (rfl) bq | exact absurd bq (rfl))) (fun bq102 => ?_)
      refine r_aload_n (pc := 105) hC dL_isSo_105 rfl ?_
      refine r_bipush (pc := 106) (v := 6) hC dL_isSo_106 (by decide) ?_
      refine k_X4_count (pc := 108) hC gL_isSo_X4_count ⟨Nat.le_of_ble_eq_true rfl, Nat.le_of_ble_eq_true rfl⟩ ko hS hp hO hi0 (Nat.le_of_ble_eq_true rfl) rfl ⟨Nat.zero_le _, Nat.zero_le _⟩ dL_isSo_108 ?_
      rw [(ct_ok (S := S) (ps := nI st) (ty := nI 0)).2.2.2.2.2.2.1]
      refine r_aload_n (pc := 111) hC dL_isSo_111 rfl ?_
      refine r_iconst (pc := 112) (v := 5) hC dL_isSo_112 (by decide) ?_
      refine r_iald (pc := 113) hC kg (xi_l (k := 5) ng (by decide) (by decide) (by decide)) dL_isSo_113 ?_
      rw [ag 5 (by decide)]
      refine r_icmp_ne (pc := 114) (tgt := 218) hC dL_isSo_114 (by decide) (fun bq => (by first | exact absurd (rfl) bq | exact absurd bq (rfl))) (fun bq114 => ?_)
      refine r_aload_n (pc := 117) hC dL_isSo_117 rfl ?_
      refine r_bipush (pc := 118) (v := 7) hC dL_isSo_118 (by decide) ?_
      refine k_X4_count (pc := 120) hC gL_isSo_X4_count ⟨Nat.le_of_ble_eq_true rfl, Nat.le_of_ble_eq_true rfl⟩ ko hS hp hO hi0 (Nat.le_of_ble_eq_true rfl) rfl ⟨Nat.zero_le _, Nat.zero_le _⟩ dL_isSo_120 ?_
      rw [(ct_ok (S := S) (ps := nI st) (ty := nI 0)).2.2.2.2.2.2.2.1]
      refine r_aload_n (pc := 123) hC dL_isSo_123 rfl ?_
      refine r_bipush (pc := 124) (v := 6) hC dL_isSo_124 (by decide) ?_
      refine r_iald (pc := 126) hC kg (xi_l (k := 6) ng (by decide) (by decide) (by decide)) dL_isSo_126 ?_
      rw [ag 6 (by decide)]
      refine r_icmp_ne (pc := 127) (tgt := 218) hC dL_isSo_127 (by decide) (fun bq => (by first | exact absurd (rfl) bq | exact absurd bq (rfl))) (fun bq127 => ?_)
      refine r_aload_n (pc := 130) hC dL_isSo_130 rfl ?_
      refine r_bipush (pc := 131) (v := 8) hC dL_isSo_131 (by decide) ?_
      refine k_X4_count (pc := 133) hC gL_isSo_X4_count ⟨Nat.le_of_ble_eq_true rfl, Nat.le_of_ble_eq_true rfl⟩ ko hS hp hO hi0 (Nat.le_of_ble_eq_true rfl) rfl ⟨Nat.zero_le _, Nat.zero_le _⟩ dL_isSo_133 ?_
      rw [(ct_ok (S := S) (ps := nI st) (ty := nI 0)).2.2.2.2.2.2.2.2.1]
      refine r_aload_n (pc := 136) hC dL_isSo_136 rfl ?_
      refine r_bipush (pc := 137) (v := 7) hC dL_isSo_137 (by decide) ?_
      refine r_iald (pc := 139) hC kg (xi_l (k := 7) ng (by decide) (by decide) (by decide)) dL_isSo_139 ?_
      rw [ag 7 (by decide)]
      refine r_icmp_ne (pc := 140) (tgt := 218) hC dL_isSo_140 (by decide) (fun bq => (by first | exact absurd (rfl) bq | exact absurd bq (rfl))) (fun bq140 => ?_)
      refine r_aload_n (pc := 143) hC dL_isSo_143 rfl ?_
      refine r_bipush (pc := 144) (v := 9) hC dL_isSo_144 (by decide) ?_
      refine k_X4_count (pc := 146) hC gL_isSo_X4_count ⟨Nat.le_of_ble_eq_true rfl, Nat.le_of_ble_eq_true rfl⟩ ko hS hp hO hi0 (Nat.le_of_ble_eq_true rfl) rfl ⟨Nat.zero_le _, Nat.zero_le _⟩ dL_isSo_146 ?_
      rw [(ct_ok (S := S) (ps := nI st) (ty := nI 0)).2.2.2.2.2.2.2.2.2.1]
      refine r_aload_n (pc := 149) hC dL_isSo_149 rfl ?_
      refine r_aload_n (pc := 150) hC dL_isSo_150 rfl ?_
      refine r_aload (pc := 151) hC dL_isSo_151 rfl ?_
      refine r_aload (pc := 153) hC dL_isSo_153 rfl ?_
      refine r_aload (pc := 155) hC dL_isSo_155 rfl ?_
      refine r_aload_n (pc := 157) hC dL_isSo_157 rfl ?_
      refine r_iconst (pc := 158) (v := 1) hC dL_isSo_158 (by decide) ?_
      refine r_iald (pc := 159) hC kg (xi_l (k := 1) ng (by decide) (by decide) (by decide)) dL_isSo_159 ?_
      rw [ag 1 (by decide)]
      refine k_L_wrong (pc := 160) hC gL_isSo_L_wrong ⟨Nat.le_of_ble_eq_true rfl, Nat.le_of_ble_eq_true rfl⟩ hK0 hA0 hi0 (Nat.le_of_ble_eq_true rfl) rfl ⟨Nat.zero_le _, Nat.zero_le _⟩ dL_isSo_160 ?_
      refine r_icmp_ne (pc := 163) (tgt := 218) hC dL_isSo_163 (by decide) (fun bq => (by first | exact absurd (rfl) bq | exact absurd bq (rfl))) (fun bq163 => ?_)
      refine r_aload_n (pc := 166) hC dL_isSo_166 rfl ?_
      refine r_bipush (pc := 167) (v := 12) hC dL_isSo_167 (by decide) ?_
      refine k_X4_count (pc := 169) hC gL_isSo_X4_count ⟨Nat.le_of_ble_eq_true rfl, Nat.le_of_ble_eq_true rfl⟩ ko hS hp hO hi0 (Nat.le_of_ble_eq_true rfl) rfl ⟨Nat.zero_le _, Nat.zero_le _⟩ dL_isSo_169 ?_
      rw [(ct_ok (S := S) (ps := nI st) (ty := nI 0)).2.2.2.2.2.2.2.2.2.2.2.1]
      refine r_if_ne (pc := 172) (tgt := 218) hC dL_isSo_172 (by decide) (fun bq => (by first | exact absurd ((rfl : nI 0 = 0)) bq | exact absurd bq ((rfl : nI 0 = 0)))) (fun bq172 => ?_)
      refine r_aload_n (pc := 175) hC dL_isSo_175 rfl ?_
      refine r_bipush (pc := 176) (v := 20) hC dL_isSo_176 (by decide) ?_
      refine k_X4_count (pc := 178) hC gL_isSo_X4_count ⟨Nat.le_of_ble_eq_true rfl, Nat.le_of_ble_eq_true rfl⟩ ko hS hp hO hi0 (Nat.le_of_ble_eq_true rfl) rfl ⟨Nat.zero_le _, Nat.zero_le _⟩ dL_isSo_178 ?_
      rw [(ct_ok (S := S) (ps := nI st) (ty := nI 0)).2.2.2.2.2.2.2.2.2.2.2.2.1]
      refine r_aload_n (pc := 181) hC dL_isSo_181 rfl ?_
      refine r_bipush (pc := 182) (v := 8) hC dL_isSo_182 (by decide) ?_
      refine r_iald (pc := 184) hC kg (xi_l (k := 8) ng (by decide) (by decide) (by decide)) dL_isSo_184 ?_
      rw [ag 8 (by decide)]
      refine r_icmp_ne (pc := 185) (tgt := 218) hC dL_isSo_185 (by decide) (fun bq => (by first | exact absurd (rfl) bq | exact absurd bq (rfl))) (fun bq185 => ?_)
      refine r_aload_n (pc := 188) hC dL_isSo_188 rfl ?_
      refine r_bipush (pc := 189) (v := 21) hC dL_isSo_189 (by decide) ?_
      refine k_X4_count (pc := 191) hC gL_isSo_X4_count ⟨Nat.le_of_ble_eq_true rfl, Nat.le_of_ble_eq_true rfl⟩ ko hS hp hO hi0 (Nat.le_of_ble_eq_true rfl) rfl ⟨Nat.zero_le _, Nat.zero_le _⟩ dL_isSo_191 ?_
      rw [(ct_ok (S := S) (ps := nI st) (ty := nI 0)).2.2.2.2.2.2.2.2.2.2.2.2.2.1]
      refine r_aload_n (pc := 194) hC dL_isSo_194 rfl ?_
      refine r_bipush (pc := 195) (v := 9) hC dL_isSo_195 (by decide) ?_
      refine r_iald (pc := 197) hC kg (xi_l (k := 9) ng (by decide) (by decide) (by decide)) dL_isSo_197 ?_
      rw [ag 9 (by decide)]
      refine r_icmp_ne (pc := 198) (tgt := 218) hC dL_isSo_198 (by decide) (fun bq => (by first | exact absurd (rfl) bq | exact absurd bq (rfl))) (fun bq198 => ?_)
      refine r_aload_n (pc := 201) hC dL_isSo_201 rfl ?_
      refine r_bipush (pc := 202) (v := 22) hC dL_isSo_202 (by decide) ?_
      refine k_X4_count (pc := 204) hC gL_isSo_X4_count ⟨Nat.le_of_ble_eq_true rfl, Nat.le_of_ble_eq_true rfl⟩ ko hS hp hO hi0 (Nat.le_of_ble_eq_true rfl) rfl ⟨Nat.zero_le _, Nat.zero_le _⟩ dL_isSo_204 ?_
      rw [(ct_ok (S := S) (ps := nI st) (ty := nI 0)).2.2.2.2.2.2.2.2.2.2.2.2.2.2.1]
      refine r_aload_n (pc := 207) hC dL_isSo_207 rfl ?_
      refine r_bipush (pc := 208) (v := 10) hC dL_isSo_208 (by decide) ?_
      refine r_iald (pc := 210) hC kg (xi_l (k := 10) ng (by decide) (by decide) (by decide)) dL_isSo_210 ?_
      rw [ag 10 (by decide)]
      refine r_icmp_ne (pc := 211) (tgt := 218) hC dL_isSo_211 (by decide) (fun bq => (by first | exact absurd (rfl) bq | exact absurd bq (rfl))) (fun bq211 => ?_)
      refine r_iconst (pc := 214) (v := 1) hC dL_isSo_214 (by decide) ?_
      refine r_goto (pc := 215) (tgt := 219) hC dL_isSo_215 (by decide) ?_
      refine r_iret (pc := 219) hC hD rfl dL_isSo_219 rfl ?_
      exact ⟨rfl, rfl, rfl, rfl⟩
  · skip
    refine r_ldc (pc := 50) (v := -1000004) hC dL_isSo_50 wl_L_isSo_60 ?_
    refine r_goto (pc := 52) (tgt := 58) hC dL_isSo_52 (by decide) ?_
    rw [if_neg bq47]
    refine r_icmp_ne (pc := 58) (tgt := 218) hC dL_isSo_58 (by decide) (fun bq => (by first | exact absurd (rfl) bq | exact absurd bq (rfl))) (fun bq58 => ?_)
    refine r_aload_n (pc := 61) hC dL_isSo_61 rfl ?_
    refine r_iconst (pc := 62) (v := 2) hC dL_isSo_62 (by decide) ?_
    refine k_X4_count (pc := 63) hC gL_isSo_X4_count ⟨Nat.le_of_ble_eq_true rfl, Nat.le_of_ble_eq_true rfl⟩ ko hS hp hO hi0 (Nat.le_of_ble_eq_true rfl) rfl ⟨Nat.zero_le _, Nat.zero_le _⟩ dL_isSo_63 ?_
    rw [(ct_ok (S := S) (ps := nI st) (ty := nI 0)).2.2.1]
    refine r_aload_n (pc := 66) hC dL_isSo_66 rfl ?_
    refine r_iconst (pc := 67) (v := 2) hC dL_isSo_67 (by decide) ?_
    refine r_iald (pc := 68) hC kg (xi_l (k := 2) ng (by decide) (by decide) (by decide)) dL_isSo_68 ?_
    rw [ag 2 (by decide)]
    refine r_icmp_ne (pc := 69) (tgt := 218) hC dL_isSo_69 (by decide) (fun bq => (by first | exact absurd (rfl) bq | exact absurd bq (rfl))) (fun bq69 => ?_)
    refine r_aload_n (pc := 72) hC dL_isSo_72 rfl ?_
    refine r_iconst (pc := 73) (v := 3) hC dL_isSo_73 (by decide) ?_
    refine k_X4_count (pc := 74) hC gL_isSo_X4_count ⟨Nat.le_of_ble_eq_true rfl, Nat.le_of_ble_eq_true rfl⟩ ko hS hp hO hi0 (Nat.le_of_ble_eq_true rfl) rfl ⟨Nat.zero_le _, Nat.zero_le _⟩ dL_isSo_74 ?_
    rw [(ct_ok (S := S) (ps := nI st) (ty := nI 0)).2.2.2.1]
    refine r_aload_n (pc := 77) hC dL_isSo_77 rfl ?_
    refine r_iconst (pc := 78) (v := 3) hC dL_isSo_78 (by decide) ?_
    refine r_iald (pc := 79) hC kg (xi_l (k := 3) ng (by decide) (by decide) (by decide)) dL_isSo_79 ?_
    rw [ag 3 (by decide)]
    refine r_if_ge (pc := 80) (tgt := 88) hC dL_isSo_80 (by decide) (fun bq80 => ?_) (fun bq80 => ?_)
    · skip
      refine r_aload_n (pc := 88) hC dL_isSo_88 rfl ?_
      refine r_iconst (pc := 89) (v := 3) hC dL_isSo_89 (by decide) ?_
      refine r_iald (pc := 90) hC kg (xi_l (k := 3) ng (by decide) (by decide) (by decide)) dL_isSo_90 ?_
      rw [if_pos bq80, ag 3 (by decide)]
      refine r_icmp_ne (pc := 91) (tgt := 218) hC dL_isSo_91 (by decide) (fun bq => (by first | exact absurd (rfl) bq | exact absurd bq (rfl))) (fun bq91 => ?_)
      refine r_aload_n (pc := 94) hC dL_isSo_94 rfl ?_
      refine r_iconst (pc := 95) (v := 5) hC dL_isSo_95 (by decide) ?_
      refine k_X4_count (pc := 96) hC gL_isSo_X4_count ⟨Nat.le_of_ble_eq_true rfl, Nat.le_of_ble_eq_true rfl⟩ ko hS hp hO hi0 (Nat.le_of_ble_eq_true rfl) rfl ⟨Nat.zero_le _, Nat.zero_le _⟩ dL_isSo_96 ?_
      rw [(ct_ok (S := S) (ps := nI st) (ty := nI 0)).2.2.2.2.2.1]
      refine r_aload_n (pc := 99) hC dL_isSo_99 rfl ?_
      refine r_iconst (pc := 100) (v := 4) hC dL_isSo_100 (by decide) ?_
      refine r_iald (pc := 101) hC kg (xi_l (k := 4) ng (by decide) (by decide) (by decide)) dL_isSo_101 ?_
      rw [ag 4 (by decide)]
      refine r_icmp_ne (pc := 102) (tgt := 218) hC dL_isSo_102 (by decide) (fun bq => (by first | exact absurd (rfl) bq | exact absurd bq (rfl))) (fun bq102 => ?_)
      refine r_aload_n (pc := 105) hC dL_isSo_105 rfl ?_
      refine r_bipush (pc := 106) (v := 6) hC dL_isSo_106 (by decide) ?_
      refine k_X4_count (pc := 108) hC gL_isSo_X4_count ⟨Nat.le_of_ble_eq_true rfl, Nat.le_of_ble_eq_true rfl⟩ ko hS hp hO hi0 (Nat.le_of_ble_eq_true rfl) rfl ⟨Nat.zero_le _, Nat.zero_le _⟩ dL_isSo_108 ?_
      rw [(ct_ok (S := S) (ps := nI st) (ty := nI 0)).2.2.2.2.2.2.1]
      refine r_aload_n (pc := 111) hC dL_isSo_111 rfl ?_
      refine r_iconst (pc := 112) (v := 5) hC dL_isSo_112 (by decide) ?_
      refine r_iald (pc := 113) hC kg (xi_l (k := 5) ng (by decide) (by decide) (by decide)) dL_isSo_113 ?_
      rw [ag 5 (by decide)]
      refine r_icmp_ne (pc := 114) (tgt := 218) hC dL_isSo_114 (by decide) (fun bq => (by first | exact absurd (rfl) bq | exact absurd bq (rfl))) (fun bq114 => ?_)
      refine r_aload_n (pc := 117) hC dL_isSo_117 rfl ?_
      refine r_bipush (pc := 118) (v := 7) hC dL_isSo_118 (by decide) ?_
      refine k_X4_count (pc := 120) hC gL_isSo_X4_count ⟨Nat.le_of_ble_eq_true rfl, Nat.le_of_ble_eq_true rfl⟩ ko hS hp hO hi0 (Nat.le_of_ble_eq_true rfl) rfl ⟨Nat.zero_le _, Nat.zero_le _⟩ dL_isSo_120 ?_
      rw [(ct_ok (S := S) (ps := nI st) (ty := nI 0)).2.2.2.2.2.2.2.1]
      refine r_aload_n (pc := 123) hC dL_isSo_123 rfl ?_
      refine r_bipush (pc := 124) (v := 6) hC dL_isSo_124 (by decide) ?_
      refine r_iald (pc := 126) hC kg (xi_l (k := 6) ng (by decide) (by decide) (by decide)) dL_isSo_126 ?_
      rw [ag 6 (by decide)]
      refine r_icmp_ne (pc := 127) (tgt := 218) hC dL_isSo_127 (by decide) (fun bq => (by first | exact absurd (rfl) bq | exact absurd bq (rfl))) (fun bq127 => ?_)
      refine r_aload_n (pc := 130) hC dL_isSo_130 rfl ?_
      refine r_bipush (pc := 131) (v := 8) hC dL_isSo_131 (by decide) ?_
      refine k_X4_count (pc := 133) hC gL_isSo_X4_count ⟨Nat.le_of_ble_eq_true rfl, Nat.le_of_ble_eq_true rfl⟩ ko hS hp hO hi0 (Nat.le_of_ble_eq_true rfl) rfl ⟨Nat.zero_le _, Nat.zero_le _⟩ dL_isSo_133 ?_
      rw [(ct_ok (S := S) (ps := nI st) (ty := nI 0)).2.2.2.2.2.2.2.2.1]
      refine r_aload_n (pc := 136) hC dL_isSo_136 rfl ?_
      refine r_bipush (pc := 137) (v := 7) hC dL_isSo_137 (by decide) ?_
      refine r_iald (pc := 139) hC kg (xi_l (k := 7) ng (by decide) (by decide) (by decide)) dL_isSo_139 ?_
      rw [ag 7 (by decide)]
      refine r_icmp_ne (pc := 140) (tgt := 218) hC dL_isSo_140 (by decide) (fun bq => (by first | exact absurd (rfl) bq | exact absurd bq (rfl))) (fun bq140 => ?_)
      refine r_aload_n (pc := 143) hC dL_isSo_143 rfl ?_
      refine r_bipush (pc := 144) (v := 9) hC dL_isSo_144 (by decide) ?_
      refine k_X4_count (pc := 146) hC gL_isSo_X4_count ⟨Nat.le_of_ble_eq_true rfl, Nat.le_of_ble_eq_true rfl⟩ ko hS hp hO hi0 (Nat.le_of_ble_eq_true rfl) rfl ⟨Nat.zero_le _, Nat.zero_le _⟩ dL_isSo_146 ?_
      rw [(ct_ok (S := S) (ps := nI st) (ty := nI 0)).2.2.2.2.2.2.2.2.2.1]
      refine r_aload_n (pc := 149) hC dL_isSo_149 rfl ?_
      refine r_aload_n (pc := 150) hC dL_isSo_150 rfl ?_
      refine r_aload (pc := 151) hC dL_isSo_151 rfl ?_
      refine r_aload (pc := 153) hC dL_isSo_153 rfl ?_
      refine r_aload (pc := 155) hC dL_isSo_155 rfl ?_
      refine r_aload_n (pc := 157) hC dL_isSo_157 rfl ?_
      refine r_iconst (pc := 158) (v := 1) hC dL_isSo_158 (by decide) ?_
      refine r_iald (pc := 159) hC kg (xi_l (k := 1) ng (by decide) (by decide) (by decide)) dL_isSo_159 ?_
      rw [ag 1 (by decide)]
      refine k_L_wrong (pc := 160) hC gL_isSo_L_wrong ⟨Nat.le_of_ble_eq_true rfl, Nat.le_of_ble_eq_true rfl⟩ hK0 hA0 hi0 (Nat.le_of_ble_eq_true rfl) rfl ⟨Nat.zero_le _, Nat.zero_le _⟩ dL_isSo_160 ?_
      refine r_icmp_ne (pc := 163) (tgt := 218) hC dL_isSo_163 (by decide) (fun bq => (by first | exact absurd (rfl) bq | exact absurd bq (rfl))) (fun bq163 => ?_)
      refine r_aload_n (pc := 166) hC dL_isSo_166 rfl ?_
      refine r_bipush (pc := 167) (v := 12) hC dL_isSo_167 (by decide) ?_
      refine k_X4_count (pc := 169) hC gL_isSo_X4_count ⟨Nat.le_of_ble_eq_true rfl, Nat.le_of_ble_eq_true rfl⟩ ko hS hp hO hi0 (Nat.le_of_ble_eq_true rfl) rfl ⟨Nat.zero_le _, Nat.zero_le _⟩ dL_isSo_169 ?_
      rw [(ct_ok (S := S) (ps := nI st) (ty := nI 0)).2.2.2.2.2.2.2.2.2.2.2.1]
      refine r_if_ne (pc := 172) (tgt := 218) hC dL_isSo_172 (by decide) (fun bq => (by first | exact absurd ((rfl : nI 0 = 0)) bq | exact absurd bq ((rfl : nI 0 = 0)))) (fun bq172 => ?_)
      refine r_aload_n (pc := 175) hC dL_isSo_175 rfl ?_
      refine r_bipush (pc := 176) (v := 20) hC dL_isSo_176 (by decide) ?_
      refine k_X4_count (pc := 178) hC gL_isSo_X4_count ⟨Nat.le_of_ble_eq_true rfl, Nat.le_of_ble_eq_true rfl⟩ ko hS hp hO hi0 (Nat.le_of_ble_eq_true rfl) rfl ⟨Nat.zero_le _, Nat.zero_le _⟩ dL_isSo_178 ?_
      rw [(ct_ok (S := S) (ps := nI st) (ty := nI 0)).2.2.2.2.2.2.2.2.2.2.2.2.1]
      refine r_aload_n (pc := 181) hC dL_isSo_181 rfl ?_
      refine r_bipush (pc := 182) (v := 8) hC dL_isSo_182 (by decide) ?_
      refine r_iald (pc := 184) hC kg (xi_l (k := 8) ng (by decide) (by decide) (by decide)) dL_isSo_184 ?_
      rw [ag 8 (by decide)]
      refine r_icmp_ne (pc := 185) (tgt := 218) hC dL_isSo_185 (by decide) (fun bq => (by first | exact absurd (rfl) bq | exact absurd bq (rfl))) (fun bq185 => ?_)
      refine r_aload_n (pc := 188) hC dL_isSo_188 rfl ?_
      refine r_bipush (pc := 189) (v := 21) hC dL_isSo_189 (by decide) ?_
      refine k_X4_count (pc := 191) hC gL_isSo_X4_count ⟨Nat.le_of_ble_eq_true rfl, Nat.le_of_ble_eq_true rfl⟩ ko hS hp hO hi0 (Nat.le_of_ble_eq_true rfl) rfl ⟨Nat.zero_le _, Nat.zero_le _⟩ dL_isSo_191 ?_
      rw [(ct_ok (S := S) (ps := nI st) (ty := nI 0)).2.2.2.2.2.2.2.2.2.2.2.2.2.1]
      refine r_aload_n (pc := 194) hC dL_isSo_194 rfl ?_
      refine r_bipush (pc := 195) (v := 9) hC dL_isSo_195 (by decide) ?_
      refine r_iald (pc := 197) hC kg (xi_l (k := 9) ng (by decide) (by decide) (by decide)) dL_isSo_197 ?_
      rw [ag 9 (by decide)]
      refine r_icmp_ne (pc := 198) (tgt := 218) hC dL_isSo_198 (by decide) (fun bq => (by first | exact absurd (rfl) bq | exact absurd bq (rfl))) (fun bq198 => ?_)
      refine r_aload_n (pc := 201) hC dL_isSo_201 rfl ?_
      refine r_bipush (pc := 202) (v := 22) hC dL_isSo_202 (by decide) ?_
      refine k_X4_count (pc := 204) hC gL_isSo_X4_count ⟨Nat.le_of_ble_eq_true rfl, Nat.le_of_ble_eq_true rfl⟩ ko hS hp hO hi0 (Nat.le_of_ble_eq_true rfl) rfl ⟨Nat.zero_le _, Nat.zero_le _⟩ dL_isSo_204 ?_
      rw [(ct_ok (S := S) (ps := nI st) (ty := nI 0)).2.2.2.2.2.2.2.2.2.2.2.2.2.2.1]
      refine r_aload_n (pc := 207) hC dL_isSo_207 rfl ?_
      refine r_bipush (pc := 208) (v := 10) hC dL_isSo_208 (by decide) ?_
      refine r_iald (pc := 210) hC kg (xi_l (k := 10) ng (by decide) (by decide) (by decide)) dL_isSo_210 ?_
      rw [ag 10 (by decide)]
      refine r_icmp_ne (pc := 211) (tgt := 218) hC dL_isSo_211 (by decide) (fun bq => (by first | exact absurd (rfl) bq | exact absurd bq (rfl))) (fun bq211 => ?_)
      refine r_iconst (pc := 214) (v := 1) hC dL_isSo_214 (by decide) ?_
      refine r_goto (pc := 215) (tgt := 219) hC dL_isSo_215 (by decide) ?_
      refine r_iret (pc := 219) hC hD rfl dL_isSo_219 rfl ?_
      exact ⟨rfl, rfl, rfl, rfl⟩
    · skip
      refine r_ldc (pc := 83) (v := -1000004) hC dL_isSo_83 wl_L_isSo_60 ?_
      refine r_goto (pc := 85) (tgt := 91) hC dL_isSo_85 (by decide) ?_
      rw [if_neg bq80]
      refine r_icmp_ne (pc := 91) (tgt := 218) hC dL_isSo_91 (by decide) (fun bq => (by first | exact absurd (rfl) bq | exact absurd bq (rfl))) (fun bq91 => ?_)
      refine r_aload_n (pc := 94) hC dL_isSo_94 rfl ?_
      refine r_iconst (pc := 95) (v := 5) hC dL_isSo_95 (by decide) ?_
      refine k_X4_count (pc := 96) hC gL_isSo_X4_count ⟨Nat.le_of_ble_eq_true rfl, Nat.le_of_ble_eq_true rfl⟩ ko hS hp hO hi0 (Nat.le_of_ble_eq_true rfl) rfl ⟨Nat.zero_le _, Nat.zero_le _⟩ dL_isSo_96 ?_
      rw [(ct_ok (S := S) (ps := nI st) (ty := nI 0)).2.2.2.2.2.1]
      refine r_aload_n (pc := 99) hC dL_isSo_99 rfl ?_
      refine r_iconst (pc := 100) (v := 4) hC dL_isSo_100 (by decide) ?_
      refine r_iald (pc := 101) hC kg (xi_l (k := 4) ng (by decide) (by decide) (by decide)) dL_isSo_101 ?_
      rw [ag 4 (by decide)]
      refine r_icmp_ne (pc := 102) (tgt := 218) hC dL_isSo_102 (by decide) (fun bq => (by first | exact absurd (rfl) bq | exact absurd bq (rfl))) (fun bq102 => ?_)
      refine r_aload_n (pc := 105) hC dL_isSo_105 rfl ?_
      refine r_bipush (pc := 106) (v := 6) hC dL_isSo_106 (by decide) ?_
      refine k_X4_count (pc := 108) hC gL_isSo_X4_count ⟨Nat.le_of_ble_eq_true rfl, Nat.le_of_ble_eq_true rfl⟩ ko hS hp hO hi0 (Nat.le_of_ble_eq_true rfl) rfl ⟨Nat.zero_le _, Nat.zero_le _⟩ dL_isSo_108 ?_
      rw [(ct_ok (S := S) (ps := nI st) (ty := nI 0)).2.2.2.2.2.2.1]
      refine r_aload_n (pc := 111) hC dL_isSo_111 rfl ?_
      refine r_iconst (pc := 112) (v := 5) hC dL_isSo_112 (by decide) ?_
      refine r_iald (pc := 113) hC kg (xi_l (k := 5) ng (by decide) (by decide) (by decide)) dL_isSo_113 ?_
      rw [ag 5 (by decide)]
      refine r_icmp_ne (pc := 114) (tgt := 218) hC dL_isSo_114 (by decide) (fun bq => (by first | exact absurd (rfl) bq | exact absurd bq (rfl))) (fun bq114 => ?_)
      refine r_aload_n (pc := 117) hC dL_isSo_117 rfl ?_
      refine r_bipush (pc := 118) (v := 7) hC dL_isSo_118 (by decide) ?_
      refine k_X4_count (pc := 120) hC gL_isSo_X4_count ⟨Nat.le_of_ble_eq_true rfl, Nat.le_of_ble_eq_true rfl⟩ ko hS hp hO hi0 (Nat.le_of_ble_eq_true rfl) rfl ⟨Nat.zero_le _, Nat.zero_le _⟩ dL_isSo_120 ?_
      rw [(ct_ok (S := S) (ps := nI st) (ty := nI 0)).2.2.2.2.2.2.2.1]
      refine r_aload_n (pc := 123) hC dL_isSo_123 rfl ?_
      refine r_bipush (pc := 124) (v := 6) hC dL_isSo_124 (by decide) ?_
      refine r_iald (pc := 126) hC kg (xi_l (k := 6) ng (by decide) (by decide) (by decide)) dL_isSo_126 ?_
      rw [ag 6 (by decide)]
      refine r_icmp_ne (pc := 127) (tgt := 218) hC dL_isSo_127 (by decide) (fun bq => (by first | exact absurd (rfl) bq | exact absurd bq (rfl))) (fun bq127 => ?_)
      refine r_aload_n (pc := 130) hC dL_isSo_130 rfl ?_
      refine r_bipush (pc := 131) (v := 8) hC dL_isSo_131 (by decide) ?_
      refine k_X4_count (pc := 133) hC gL_isSo_X4_count ⟨Nat.le_of_ble_eq_true rfl, Nat.le_of_ble_eq_true rfl⟩ ko hS hp hO hi0 (Nat.le_of_ble_eq_true rfl) rfl ⟨Nat.zero_le _, Nat.zero_le _⟩ dL_isSo_133 ?_
      rw [(ct_ok (S := S) (ps := nI st) (ty := nI 0)).2.2.2.2.2.2.2.2.1]
      refine r_aload_n (pc := 136) hC dL_isSo_136 rfl ?_
      refine r_bipush (pc := 137) (v := 7) hC dL_isSo_137 (by decide) ?_
      refine r_iald (pc := 139) hC kg (xi_l (k := 7) ng (by decide) (by decide) (by decide)) dL_isSo_139 ?_
      rw [ag 7 (by decide)]
      refine r_icmp_ne (pc := 140) (tgt := 218) hC dL_isSo_140 (by decide) (fun bq => (by first | exact absurd (rfl) bq | exact absurd bq (rfl))) (fun bq140 => ?_)
      refine r_aload_n (pc := 143) hC dL_isSo_143 rfl ?_
      refine r_bipush (pc := 144) (v := 9) hC dL_isSo_144 (by decide) ?_
      refine k_X4_count (pc := 146) hC gL_isSo_X4_count ⟨Nat.le_of_ble_eq_true rfl, Nat.le_of_ble_eq_true rfl⟩ ko hS hp hO hi0 (Nat.le_of_ble_eq_true rfl) rfl ⟨Nat.zero_le _, Nat.zero_le _⟩ dL_isSo_146 ?_
      rw [(ct_ok (S := S) (ps := nI st) (ty := nI 0)).2.2.2.2.2.2.2.2.2.1]
      refine r_aload_n (pc := 149) hC dL_isSo_149 rfl ?_
      refine r_aload_n (pc := 150) hC dL_isSo_150 rfl ?_
      refine r_aload (pc := 151) hC dL_isSo_151 rfl ?_
      refine r_aload (pc := 153) hC dL_isSo_153 rfl ?_
      refine r_aload (pc := 155) hC dL_isSo_155 rfl ?_
      refine r_aload_n (pc := 157) hC dL_isSo_157 rfl ?_
      refine r_iconst (pc := 158) (v := 1) hC dL_isSo_158 (by decide) ?_
      refine r_iald (pc := 159) hC kg (xi_l (k := 1) ng (by decide) (by decide) (by decide)) dL_isSo_159 ?_
      rw [ag 1 (by decide)]
      refine k_L_wrong (pc := 160) hC gL_isSo_L_wrong ⟨Nat.le_of_ble_eq_true rfl, Nat.le_of_ble_eq_true rfl⟩ hK0 hA0 hi0 (Nat.le_of_ble_eq_true rfl) rfl ⟨Nat.zero_le _, Nat.zero_le _⟩ dL_isSo_160 ?_
      refine r_icmp_ne (pc := 163) (tgt := 218) hC dL_isSo_163 (by decide) (fun bq => (by first | exact absurd (rfl) bq | exact absurd bq (rfl))) (fun bq163 => ?_)
      refine r_aload_n (pc := 166) hC dL_isSo_166 rfl ?_
      refine r_bipush (pc := 167) (v := 12) hC dL_isSo_167 (by decide) ?_
      refine k_X4_count (pc := 169) hC gL_isSo_X4_count ⟨Nat.le_of_ble_eq_true rfl, Nat.le_of_ble_eq_true rfl⟩ ko hS hp hO hi0 (Nat.le_of_ble_eq_true rfl) rfl ⟨Nat.zero_le _, Nat.zero_le _⟩ dL_isSo_169 ?_
      rw [(ct_ok (S := S) (ps := nI st) (ty := nI 0)).2.2.2.2.2.2.2.2.2.2.2.1]
      refine r_if_ne (pc := 172) (tgt := 218) hC dL_isSo_172 (by decide) (fun bq => (by first | exact absurd ((rfl : nI 0 = 0)) bq | exact absurd bq ((rfl : nI 0 = 0)))) (fun bq172 => ?_)
      refine r_aload_n (pc := 175) hC dL_isSo_175 rfl ?_
      refine r_bipush (pc := 176) (v := 20) hC dL_isSo_176 (by decide) ?_
      refine k_X4_count (pc := 178) hC gL_isSo_X4_count ⟨Nat.le_of_ble_eq_true rfl, Nat.le_of_ble_eq_true rfl⟩ ko hS hp hO hi0 (Nat.le_of_ble_eq_true rfl) rfl ⟨Nat.zero_le _, Nat.zero_le _⟩ dL_isSo_178 ?_
      rw [(ct_ok (S := S) (ps := nI st) (ty := nI 0)).2.2.2.2.2.2.2.2.2.2.2.2.1]
      refine r_aload_n (pc := 181) hC dL_isSo_181 rfl ?_
      refine r_bipush (pc := 182) (v := 8) hC dL_isSo_182 (by decide) ?_
      refine r_iald (pc := 184) hC kg (xi_l (k := 8) ng (by decide) (by decide) (by decide)) dL_isSo_184 ?_
      rw [ag 8 (by decide)]
      refine r_icmp_ne (pc := 185) (tgt := 218) hC dL_isSo_185 (by decide) (fun bq => (by first | exact absurd (rfl) bq | exact absurd bq (rfl))) (fun bq185 => ?_)
      refine r_aload_n (pc := 188) hC dL_isSo_188 rfl ?_
      refine r_bipush (pc := 189) (v := 21) hC dL_isSo_189 (by decide) ?_
      refine k_X4_count (pc := 191) hC gL_isSo_X4_count ⟨Nat.le_of_ble_eq_true rfl, Nat.le_of_ble_eq_true rfl⟩ ko hS hp hO hi0 (Nat.le_of_ble_eq_true rfl) rfl ⟨Nat.zero_le _, Nat.zero_le _⟩ dL_isSo_191 ?_
      rw [(ct_ok (S := S) (ps := nI st) (ty := nI 0)).2.2.2.2.2.2.2.2.2.2.2.2.2.1]
      refine r_aload_n (pc := 194) hC dL_isSo_194 rfl ?_
      refine r_bipush (pc := 195) (v := 9) hC dL_isSo_195 (by decide) ?_
      refine r_iald (pc := 197) hC kg (xi_l (k := 9) ng (by decide) (by decide) (by decide)) dL_isSo_197 ?_
      rw [ag 9 (by decide)]
      refine r_icmp_ne (pc := 198) (tgt := 218) hC dL_isSo_198 (by decide) (fun bq => (by first | exact absurd (rfl) bq | exact absurd bq (rfl))) (fun bq198 => ?_)
      refine r_aload_n (pc := 201) hC dL_isSo_201 rfl ?_
      refine r_bipush (pc := 202) (v := 22) hC dL_isSo_202 (by decide) ?_
      refine k_X4_count (pc := 204) hC gL_isSo_X4_count ⟨Nat.le_of_ble_eq_true rfl, Nat.le_of_ble_eq_true rfl⟩ ko hS hp hO hi0 (Nat.le_of_ble_eq_true rfl) rfl ⟨Nat.zero_le _, Nat.zero_le _⟩ dL_isSo_204 ?_
      rw [(ct_ok (S := S) (ps := nI st) (ty := nI 0)).2.2.2.2.2.2.2.2.2.2.2.2.2.2.1]
      refine r_aload_n (pc := 207) hC dL_isSo_207 rfl ?_
      refine r_bipush (pc := 208) (v := 10) hC dL_isSo_208 (by decide) ?_
      refine r_iald (pc := 210) hC kg (xi_l (k := 10) ng (by decide) (by decide) (by decide)) dL_isSo_210 ?_
      rw [ag 10 (by decide)]
      refine r_icmp_ne (pc := 211) (tgt := 218) hC dL_isSo_211 (by decide) (fun bq => (by first | exact absurd (rfl) bq | exact absurd bq (rfl))) (fun bq211 => ?_)
      refine r_iconst (pc := 214) (v := 1) hC dL_isSo_214 (by decide) ?_
      refine r_goto (pc := 215) (tgt := 219) hC dL_isSo_215 (by decide) ?_
      refine r_iret (pc := 219) hC hD rfl dL_isSo_219 rfl ?_
      exact ⟨rfl, rfl, rfl, rfl⟩
theorem k_L_isSo {X : xF} {G : xG} {cs : Nat × Nat} {μ : xM} {I : xI} {P : xP} {L : List (Option Value)} {pc : Nat} {rest : List Value} {cc : ByteArray} {Ts : List Cond} {own : String} {nL : Nat} {R : Room} (hC : xC X G cc Ts own nL R) {index : Nat} (hG : GoodIn Ts (va_wsS own index yL_isSo wsL_isSo)) (hR : rm_L_isSo.frames + 1 ≤ R.frames ∧ 8 + (7 + 11) + rm_L_isSo.locals ≤ R.locals) {n rq cn : Nat} {S : Nat → Int32}  (hK : lK μ) (hV : lV I P S n rq cn) (hcb : cn < 1000000) (hW : (rest.map fun v => v.category).sum ≤ 8) (hL : L.length = nL) (hcs : cs.1 ≤ R.cells ∧ cs.2 ≤ R.slots) (hdec : decode cc pc = .ok (.invokestatic index, 3)) (kk : xg X G cs μ I P L (pc + 3) (.int (1) :: rest)) : xg X G cs μ I P L pc (.ref (xZ G + 260) :: .ref (xZ G + 259) :: .ref (xZ G + 258) :: .ref (xZ G + 257) :: .ref (xZ G + 256) :: .ref (xZ G + 255) :: .ref (xZ G + 1) :: rest) :=
  r_callS hC (c_L_isSo X.2.1 hK hV hcb) hG rfl rfl rfl hd_L_isSo.2 hR rfl rfl hW hL hcs hdec (by rintro v μ' I' P' ⟨rfl, rfl, rfl, rfl⟩; exact kk)
