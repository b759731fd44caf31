/-! changes of the law's arrays, cell by cell; cranking -/
theorem sLet_u {S : Nat → Int32} {k r : Nat} {v : Int32} (h : k < 14 + 17 * r ∨ 28 + 17 * r ≤ k) : ∀ j, j < 14 → sLet (upd S k v) r j = sLet S r j := fun j hj => by
  unfold sLet; rw [upd_ne (by omega)]
theorem sLen_u {S : Nat → Int32} {k r : Nat} {v : Int32} (h : k ≠ 11 + 17 * r) : sLen (upd S k v) r = sLen S r := by
  unfold sLen; rw [upd_ne (Ne.symm h)]
theorem pkX_far {f g : Nat → Int32} {L b : Nat} (h : ∀ j, j < 14 → f j = g j) (hL : L ≤ 14) : pkX f L b = pkX g L b := pkX_congr (fun k hk => h k (by omega))
/-- a place that is none of row i's own but its wear and its tear -/
theorem row_u {P : xP} {S : Nat → Int32} {k i : Nat} {v : Int32} (h : k < 11 + 17 * i ∨ k = 12 + 17 * i ∨ k = 13 + 17 * i ∨ 28 + 17 * i ≤ k) (h1 : sLen S i ≤ 14 ∧ ∀ b, b < 2 → P 259 (2 * i + b) = pkX (sLet S i) (sLen S i) b) : sLen (upd S k v) i ≤ 14 ∧ ∀ b, b < 2 → P 259 (2 * i + b) = pkX (sLet (upd S k v) i) (sLen (upd S k v) i) b := by
  rw [sLen_u (by omega)]
  exact ⟨h1.1, fun b hb => by rw [h1.2 b hb]; exact pkX_far (fun j hj => (sLet_u (by omega) j hj).symm) h1.1⟩
theorem lA_g {I : xI} {P : xP} {S : Nat → Int32} {n q k : Nat} {v : Int32} (h : lA I P S n q) (hk : k < 11) : lA (xu I 255 k v) P (upd S k v) n q := by
  obtain ⟨h1, h2, h3⟩ := h
  refine ⟨fun j hj => ?_, fun i hi => ?_, fun j hj t ht => ?_⟩
  · by_cases e : j = k
    · subst e; rw [xu_at, upd_at]
    · rw [xu_ne (Or.inr e), upd_ne e, h1 j hj]
  · obtain ⟨a1, a2, a3, a4⟩ := h2 i hi
    rw [xu_row (by decide), xu_row (by decide), xu_row (by decide), upd_ne (by omega), upd_ne (by omega), upd_ne (by omega)]
    exact ⟨a1, a2, a3, row_u (Or.inl (by omega)) a4⟩
  · rw [xu_row (by decide), upd_ne (by omega)]; exact h3 j hj t ht
theorem lA_w {I : xI} {P : xP} {S : Nat → Int32} {n q r : Nat} {v : Int32} (h : lA I P S n q) (hr : r < n) (hn : n ≤ 20 := by omega) : lA (xu I 257 r v) P (upd S (12 + 17 * r) v) n q := by
  obtain ⟨h1, h2, h3⟩ := h
  refine ⟨fun j hj => ?_, fun i hi => ?_, fun j hj t ht => ?_⟩
  · rw [xu_row (by decide), upd_ne (by omega)]; exact h1 j hj
  · obtain ⟨a1, a2, a3, a4⟩ := h2 i hi
    rw [xu_row (b := 256) (by decide), xu_row (b := 258) (by decide), upd_ne (j := 11 + 17 * i) (by omega), upd_ne (j := 13 + 17 * i) (by omega)]
    refine ⟨a1, ?_, a3, row_u (by omega) a4⟩
    by_cases e : i = r
    · subst e; rw [xu_at, upd_at]
    · rw [xu_ne (Or.inr e), upd_ne (by omega)]; exact a2
  · rw [xu_row (by decide), upd_ne (by omega)]; exact h3 j hj t ht
theorem lA_u {I : xI} {P : xP} {S : Nat → Int32} {n q r : Nat} {v : Int32} (h : lA I P S n q) (hr : r < n) (hn : n ≤ 20 := by omega) : lA (xu I 258 r v) P (upd S (13 + 17 * r) v) n q := by
  obtain ⟨h1, h2, h3⟩ := h
  refine ⟨fun j hj => ?_, fun i hi => ?_, fun j hj t ht => ?_⟩
  · rw [xu_row (by decide), upd_ne (by omega)]; exact h1 j hj
  · obtain ⟨a1, a2, a3, a4⟩ := h2 i hi
    rw [xu_row (b := 256) (by decide), xu_row (b := 257) (by decide), upd_ne (j := 11 + 17 * i) (by omega), upd_ne (j := 12 + 17 * i) (by omega)]
    refine ⟨a1, a2, ?_, row_u (by omega) a4⟩
    by_cases e : i = r
    · subst e; rw [xu_at, upd_at]
    · rw [xu_ne (Or.inr e), upd_ne (by omega)]; exact a3
  · rw [xu_row (by decide), upd_ne (by omega)]; exact h3 j hj t ht
theorem lA_r {I : xI} {P : xP} {S : Nat → Int32} {n q j t : Nat} {v : Int32} (h : lA I P S n q) (ht : t < 3) (hn : n ≤ 20 := by omega) : lA (xu I 260 (3 * j + t) v) P (upd S (351 + 3 * j + t) v) n q := by
  obtain ⟨h1, h2, h3⟩ := h
  refine ⟨fun i hi => ?_, fun i hi => ?_, fun i hi z hz => ?_⟩
  · rw [xu_row (by decide), upd_ne (by omega)]; exact h1 i hi
  · obtain ⟨a1, a2, a3, a4⟩ := h2 i hi
    rw [xu_row (by decide), xu_row (by decide), xu_row (by decide), upd_ne (by omega), upd_ne (by omega), upd_ne (by omega)]
    exact ⟨a1, a2, a3, row_u (by omega) a4⟩
  · by_cases e : i = j ∧ z = t
    · obtain ⟨rfl, rfl⟩ := e; rw [xu_at, upd_at]
    · rw [xu_ne (Or.inr (by omega)), upd_ne (by omega)]; exact h3 i hi z hz
theorem u01 {x : Int32} (h : x = 0 ∨ x = 1) (h0 : ¬ x = 0) : x = 1 := h.resolve_left h0
theorem tear01 (S : Nat → Int32) (r : Nat) (v : Int32) : tear1 S r v = 0 ∨ tear1 S r v = 1 := by
  unfold tear1
  split
  · exact Or.inl rfl
  · split
    · exact Or.inl rfl
    · exact Or.inr rfl
theorem crT_n {S : Nat → Int32} {a : Nat} {up : Bool} {v : Int32} : ∀ k, ∃ t, t ≤ k ∧ crT S a up v k = nI t
  | 0 => ⟨0, by omega, rfl⟩
  | k + 1 => by
    obtain ⟨t, h1, h2⟩ := crT_n (S := S) (a := a) (up := up) (v := v) k
    rw [crT, h2]
    split
    · exact ⟨t, by omega, by rw [Int32.add_zero]⟩
    · rcases tear01 (crS S a up v k) (rowAt a up k) v with e | e
      · rw [e]; exact ⟨t, by omega, by rw [Int32.add_zero]⟩
      · rw [e]; exact ⟨t + 1, by omega, nI_1 t⟩
theorem cr_in {n : Nat} {x : Int32} {b : Bool} (h : isR x (nI n) = if b = true then 0 else 1) (h1 : ¬ x < 0) (h2 : x < nI n) : b = false := by
  unfold isR at h
  rw [if_neg h1, if_neg (Int32.not_le.mpr h2)] at h
  cases b with
  | false => rfl
  | true => rw [if_pos rfl] at h; exact absurd h (by decide)
theorem cr_out0 {n : Nat} {x : Int32} {b : Bool} (h : isR x (nI n) = if b = true then 0 else 1) (h1 : x < 0) : b = true := by
  unfold isR at h
  rw [if_pos h1] at h
  cases b with
  | true => rfl
  | false => exact absurd h (by decide)
theorem cr_out1 {n : Nat} {x : Int32} {b : Bool} (h : isR x (nI n) = if b = true then 0 else 1) (h2 : ¬ x < nI n) : b = true := by
  unfold isR at h
  rw [if_pos (Int32.not_lt.mp h2), ite_self] at h
  cases b with
  | true => rfl
  | false => exact absurd h (by decide)
theorem cr_pos {k t : Nat} {w : Int32} (hk : k ≤ 20) (ht : t ≤ 20) (hw : w = 0 ∨ w = 1 ∨ w = 2) : 0 ≤ nI k + 100 * nI t + 10000 * w := by
  have e : ∃ z, z ≤ 2 ∧ w = nI z := by
    rcases hw with rfl | rfl | rfl
    · exact ⟨0, by decide, rfl⟩
    · exact ⟨1, by decide, rfl⟩
    · exact ⟨2, by decide, rfl⟩
  obtain ⟨z, hz, rfl⟩ := e
  rw [show (100 : Int32) = nI 100 from rfl, show (10000 : Int32) = nI 10000 from rfl, pk_mul, pk_mul, nI_add, nI_add]
  exact nI_pos' (by omega)
theorem cr_gt {r : Int32} (h : 0 ≤ r) (h0 : ¬ r = 0) : 0 < r := by
  rw [Int32.le_iff_toInt_le] at h
  rw [Int32.lt_iff_toInt_lt]
  have e0 : (0 : Int32).toInt = 0 := by decide
  have : r.toInt ≠ 0 := fun e => h0 (Int32.toInt_inj.mp (e.trans e0.symm))
  omega
theorem cr_v3 {v : Int32} (h : ¬ inr v 1 3 = 0) (h3 : ¬ v < 3) : v = 3 := by
  have h2 : ¬ 3 < v := fun c => h (by
    unfold inr
    by_cases c1 : v < 1
    · rw [if_pos c1]
    · rw [if_neg c1, if_pos c])
  rw [Int32.lt_iff_toInt_lt] at h2 h3
  exact Int32.toInt_inj.mp (by omega)
theorem cr_odd {k : Nat} (h : ¬ nI (k % 2) = 0) : k % 2 = 1 := by
  rcases Nat.mod_two_eq_zero_or_one k with e | e
  · exact absurd (by rw [e]; rfl) h
  · exact e
theorem cr_ns0 {v : Int32} {k : Nat} (h : v < 3) : ¬ (v = 3 ∧ k % 2 = 1) := fun e => by rw [e.1] at h; exact absurd h (by decide)
theorem cr_ns1 {v : Int32} {k : Nat} (h : nI (k % 2) = 0) : ¬ (v = 3 ∧ k % 2 = 1) := fun e => by rw [e.2] at h; exact absurd h (by decide)
abbrev rm_L_crank : Room := { frames := 0, cells := 0, slots := 0, locals := 0 }
theorem hd_L_crank : yL_crank.cls = RL ∧ yL_crank.cls ≠ "java/lang/invoke/MethodHandle" ∧ yL_crank.cls ≠ "java/lang/invoke/VarHandle" ∧ (parseMethodDescriptor yL_crank.desc).map (fun d => d.parameters.length) = some 5 := ⟨rfl, by decide +kernel, by decide +kernel, by decide +kernel⟩
set_option maxHeartbeats 4000000 in
set_option maxRecDepth 100000 in
theorem c_L_crank (l : Launch) {G : xG} {μ : xM} {I : xI} {P : xP} {n rq : Nat} {S : Nat → Int32} {r v : Int32} (hK : lK μ) (hA : lA I P S n rq) (hi : invN S n rq) (hok : okCrank S r v = true) : Ct l yL_crank wsL_crank rm_L_crank G μ I P [.ref (xZ G + 255), .ref (xZ G + 257), .ref (xZ G + 258), .int r, .int v] 0 0 (fun vv μ' I' P' => (∃ t : Int32, vv = some (.int t) ∧ 0 ≤ t) ∧ μ' = μ ∧ P' = P ∧ lA I' P (sCrank S r v) n rq ∧ (∀ c, c ≠ 255 → c ≠ 257 → c ≠ 258 → I' c = I c)) := by
  have hK0 := hK
  have hA0 := hA
  have hi0 := hi
  obtain ⟨ko, hS, ⟨kg, ng⟩, ⟨kl, nl⟩, ⟨kw, nw⟩, ⟨ku, nu⟩, ⟨kc, nc⟩, ⟨kr, nr⟩⟩ := hK
  obtain ⟨ag, ar, at_⟩ := hA
  obtain ⟨hn20, hn, hq6, hq, hcur, hdr, h8, h9, h10, hrows⟩ := hi
  have hm : mcr r v (S 0) = 0 := by
    unfold okCrank at hok
    by_cases w : mcr r v (S 0) = 0
    · exact w
    · rw [if_neg w] at hok; exact absurd hok (by decide)
  obtain ⟨c1, c2, c3, c4⟩ := mcr_0 hm
  obtain ⟨hwr, hw1, hw20⟩ := crank_way c1 c2
  obtain ⟨a, ha, hs1⟩ : ∃ a, a < n ∧ S 1 = nI a := hcur.resolve_left (fun w => c4 (by rw [hn, w.1]; rfl))
  have hca : cA S = a := by rw [cA, hs1, nI_clamp (by omega)]
  have hcn : cN S = n := by rw [cN, hn, nI_clamp (by omega)]
  have hcg : cG S r = stepsS S n a (cUp r) (cW r) := by rw [cG, hcn, hca]
  have hgw : stepsS S n a (cUp r) (cW r) ≤ cW r := by have q := (srch_le (p := stopS S n a (cUp r)) (cW r) 0).2; rw [Nat.zero_add] at q; exact q
  have hrb : r * xby (cUp r) = nI (cW r) := by
    have z := xby_mul (up := cUp r) (w := cW r) hw20
    rw [← hwr] at z; exact z
  refine Ct.of (cc := cL_crank) (maxL := 11) (ret := (some .int)) [some (.ref (xZ G + 255)), some (.ref (xZ G + 257)), some (.ref (xZ G + 258)), some (.int r), some (.int v), none, none, none, none, none, none] (by decide) rfl rfl rfl (Nat.le_of_ble_eq_true rfl) ?_
  intro X hC hD h0 _
  have loop : ∀ (q k : Nat), k + q = (stepsS S n a (cUp r) (cW r)) → ∀ (J : xI) (x8 x9 x10 : Option Value), lA J P (crS S a (cUp r) v k) n rq → (∀ c, c ≠ 255 → c ≠ 257 → c ≠ 258 → J c = I c) → xg X G (0, 0) μ J P [some (.ref (xZ G + 255)), some (.ref (xZ G + 257)), some (.ref (xZ G + 258)), some (.int r), some (.int v), some (.int (xby (cUp r))), some (.int (nI k)), some (.int (crT S a (cUp r) v k)), x8, x9, x10] 17 [] := by
    intro q
    induction q with
    | zero =>
      intro k hk J x8 x9 x10 hJ hF
      obtain ⟨hrn, hdir⟩ := steps_row (S := S) (up := (cUp r)) (w := (cW r)) ha k (by omega)
      have hJ1 : J 255 1 = nI (rowAt a (cUp r) k) := (hJ.1 1 (by decide)).trans (crS_1 hs1)
      have hJ0 : J 255 0 = nI n := ((hJ.1 0 (by decide)).trans (crS_small (by decide) (by decide))).trans hn
      have hJ9 : J 255 9 = (crS S a (cUp r) v k) 9 := hJ.1 9 (by decide)
      have hJw : J 257 (rowAt a (cUp r) k) = (crS S a (cUp r) v k) (12 + 17 * (rowAt a (cUp r) k)) := (hJ.2.1 _ hrn).2.1
      have hJu' : J 258 (rowAt a (cUp r) k) = (crS S a (cUp r) v k) (13 + 17 * (rowAt a (cUp r) k)) := (hJ.2.1 _ hrn).2.2.1
      have hSu : (crS S a (cUp r) v k) (13 + 17 * (rowAt a (cUp r) k)) = S (13 + 17 * (rowAt a (cUp r) k)) := crS_row hdir (by omega) (by omega)
      have hJu := hJu'.trans hSu
      have hT : (crS S a (cUp r) v k) (13 + 17 * (rowAt a (cUp r) k)) = 0 ∨ (crS S a (cUp r) v k) (13 + 17 * (rowAt a (cUp r) k)) = 1 := by rw [hSu]; exact (hrows _ hrn).choose_spec.2.2.2.2
      have hend := xby_end (up := (cUp r)) hrn hn20
      have hz : k = (cW r) ∨ stopS S n a (cUp r) k = true := by
        have z := srch_end (p := stopS S n a (cUp r)) (cW r) 0
        rw [Nat.zero_add] at z
        rw [show k = (stepsS S n a (cUp r) (cW r)) by omega]; exact z
      refine r_aload_n (pc := 17) hC dL_crank_17 rfl ?_
      refine r_iconst (pc := 18) (v := 1) hC dL_crank_18 (by decide) ?_
      refine r_iald (pc := 19) hC kg (xi_l (k := 1) ng (by decide) (by decide) (by decide)) dL_crank_19 ?_
      rw [hJ1]
      refine r_iload (pc := 20) hC dL_crank_20 rfl ?_
      refine r_iadd (pc := 22) hC dL_crank_22 ?_
      refine r_istore (pc := 23) (L' := [_, _, _, _, _, _, _, _, _, _, _]) hC dL_crank_23 rfl (Nat.le_of_ble_eq_true rfl) rfl ?_
      refine r_iload (pc := 25) hC dL_crank_25 rfl ?_
      refine r_iload_n (pc := 27) hC dL_crank_27 rfl ?_
      refine r_iload (pc := 28) hC dL_crank_28 rfl ?_
      refine r_imul (pc := 30) hC dL_crank_30 ?_
      rw [hrb]
      refine r_icmp_ne (pc := 31) (tgt := 38) hC dL_crank_31 (by decide) (fun bq31 => ?_) (fun bq31 => ?_)
      · skip
        refine r_iload (pc := 38) hC dL_crank_38 rfl ?_
        refine r_if_lt (pc := 40) (tgt := 51) hC dL_crank_40 (by decide) (fun bq40 => ?_) (fun bq40 => ?_)
        · skip
          refine r_iconst (pc := 51) (v := 2) hC dL_crank_51 (by decide) ?_
          refine r_goto (pc := 52) (tgt := 74) hC dL_crank_52 (by decide) ?_
          refine r_istore (pc := 74) (L' := [_, _, _, _, _, _, _, _, _, _, _]) hC dL_crank_74 rfl (Nat.le_of_ble_eq_true rfl) rfl ?_
          refine r_iload (pc := 76) hC dL_crank_76 rfl ?_
          refine r_if_le (pc := 78) (tgt := 115) hC dL_crank_78 (by decide) (fun bq78 => ?_) (fun bq78 => ?_)
          · skip
            exact absurd bq78 (by decide)
          · skip
            refine r_aload_n (pc := 81) hC dL_crank_81 rfl ?_
            refine r_iconst (pc := 82) (v := 4) hC dL_crank_82 (by decide) ?_
            refine r_dup2 (pc := 83) hC dL_crank_83 rfl rfl ?_
            refine r_iald (pc := 84) hC kg (xi_l (k := 4) ng (by decide) (by decide) (by decide)) dL_crank_84 ?_
            refine r_iload (pc := 85) hC dL_crank_85 rfl ?_
            refine r_iadd (pc := 87) hC dL_crank_87 ?_
            refine r_iast (pc := 88) hC kg (xi_l (k := 4) ng (by decide) (by decide) (by decide)) dL_crank_88 ?_
            refine r_aload_n (pc := 89) hC dL_crank_89 rfl ?_
            refine r_iconst (pc := 90) (v := 5) hC dL_crank_90 (by decide) ?_
            refine r_dup2 (pc := 91) hC dL_crank_91 rfl rfl ?_
            refine r_iald (pc := 92) hC kg (xi_l (k := 5) ng (by decide) (by decide) (by decide)) dL_crank_92 ?_
            refine r_iload (pc := 93) hC dL_crank_93 rfl ?_
            refine r_iadd (pc := 95) hC dL_crank_95 ?_
            refine r_iast (pc := 96) hC kg (xi_l (k := 5) ng (by decide) (by decide) (by decide)) dL_crank_96 ?_
            refine r_iload (pc := 97) hC dL_crank_97 rfl ?_
            refine r_bipush (pc := 99) (v := 100) hC dL_crank_99 (by decide) ?_
            refine r_iload (pc := 101) hC dL_crank_101 rfl ?_
            refine r_imul (pc := 103) hC dL_crank_103 ?_
            refine r_iadd (pc := 104) hC dL_crank_104 ?_
            refine r_sipush (pc := 105) (v := 10000) hC dL_crank_105 (by decide) ?_
            refine r_iload (pc := 108) hC dL_crank_108 rfl ?_
            refine r_iconst (pc := 110) (v := 1) hC dL_crank_110 (by decide) ?_
            refine r_isub (pc := 111) hC dL_crank_111 ?_
            refine r_imul (pc := 112) hC dL_crank_112 ?_
            refine r_iadd (pc := 113) hC dL_crank_113 ?_
            refine r_iret (pc := 114) hC hD rfl dL_crank_114 rfl ?_
            have ek : k = (stepsS S n a (cUp r) (cW r)) := by omega
            obtain ⟨t, ht1, ht2⟩ := crT_n (S := S) (a := a) (up := (cUp r)) (v := v) k
            have ha1 := lA_g (k := 4) (v := J 255 4 + (crT S a (cUp r) v k)) hJ (by decide)
            have ha2 := lA_g (k := 5) (v := xu J 255 4 (J 255 4 + (crT S a (cUp r) v k)) 255 5 + nI k) ha1 (by decide)
            refine ⟨⟨_, rfl, ?_⟩, rfl, rfl, ?_, fun c q1 q2 q3 => ?_⟩
            · rw [ht2]; exact cr_pos (by omega) (by omega) (by decide)
            · rw [xu_ne (Or.inr (by decide))] at ha2
              rw [show J 255 4 = S 4 from (hJ.1 4 (by decide)).trans (crS_small (by decide) (by decide)), show J 255 5 = S 5 from (hJ.1 5 (by decide)).trans (crS_small (by decide) (by decide))] at ha2
              rw [show J 255 4 = S 4 from (hJ.1 4 (by decide)).trans (crS_small (by decide) (by decide)), xu_ne (Or.inr (by decide)), show J 255 5 = S 5 from (hJ.1 5 (by decide)).trans (crS_small (by decide) (by decide))]
              rw [sCrank, if_pos hok, hca, hcg, ← ek]
              exact ha2
            · rw [xu_row q1, xu_row q1]; exact hF c q1 q2 q3
        · skip
          refine r_iload (pc := 43) hC dL_crank_43 rfl ?_
          refine r_aload_n (pc := 45) hC dL_crank_45 rfl ?_
          refine r_iconst (pc := 46) (v := 0) hC dL_crank_46 (by decide) ?_
          refine r_iald (pc := 47) hC kg (xi_l (k := 0) ng (by decide) (by decide) (by decide)) dL_crank_47 ?_
          rw [hJ0]
          refine r_icmp_lt (pc := 48) (tgt := 55) hC dL_crank_48 (by decide) (fun bq48 => ?_) (fun bq48 => ?_)
          · skip
            refine r_iload (pc := 55) hC dL_crank_55 rfl ?_
            refine r_if_le (pc := 57) (tgt := 73) hC dL_crank_57 (by decide) (fun bq57 => ?_) (fun bq57 => ?_)
            · skip
              refine r_iconst (pc := 73) (v := 0) hC dL_crank_73 (by decide) ?_
              refine r_istore (pc := 74) (L' := [_, _, _, _, _, _, _, _, _, _, _]) hC dL_crank_74 rfl (Nat.le_of_ble_eq_true rfl) rfl ?_
              refine r_iload (pc := 76) hC dL_crank_76 rfl ?_
              refine r_if_le (pc := 78) (tgt := 115) hC dL_crank_78 (by decide) (fun bq78 => ?_) (fun bq78 => ?_)
              · skip
                have he : isEndS n (cUp r) (rowAt a (cUp r) k) = false := cr_in hend bq40 bq48
                rcases hz with w | w
                · exact absurd (by rw [w]) bq31
                · rw [stopS, he, Bool.false_or] at w
                  have w := Bool.and_eq_true_iff.mp w
                  exact absurd bq57 (nI_nle (of_decide_eq_true w.1) (by omega))
              · skip
                exact absurd (show (0 : Int32) ≤ 0 by decide) bq78
            · skip
              refine r_aload_n (pc := 60) hC dL_crank_60 rfl ?_
              refine r_aload_n (pc := 61) hC dL_crank_61 rfl ?_
              refine r_iconst (pc := 62) (v := 1) hC dL_crank_62 (by decide) ?_
              refine r_iald (pc := 63) hC kg (xi_l (k := 1) ng (by decide) (by decide) (by decide)) dL_crank_63 ?_
              rw [hJ1]
              refine r_iald (pc := 64) hC ku (xi_n (k := (rowAt a (cUp r) k)) (by rw [nu]; omega) (by rw [nu]; decide)) dL_crank_64 ?_
              refine r_iconst (pc := 65) (v := 1) hC dL_crank_65 (by decide) ?_
              rw [hJu]
              refine r_icmp_ne (pc := 66) (tgt := 73) hC dL_crank_66 (by decide) (fun bq66 => ?_) (fun bq66 => ?_)
              · skip
                refine r_iconst (pc := 73) (v := 0) hC dL_crank_73 (by decide) ?_
                refine r_istore (pc := 74) (L' := [_, _, _, _, _, _, _, _, _, _, _]) hC dL_crank_74 rfl (Nat.le_of_ble_eq_true rfl) rfl ?_
                refine r_iload (pc := 76) hC dL_crank_76 rfl ?_
                refine r_if_le (pc := 78) (tgt := 115) hC dL_crank_78 (by decide) (fun bq78 => ?_) (fun bq78 => ?_)
                · skip
                  have he : isEndS n (cUp r) (rowAt a (cUp r) k) = false := cr_in hend bq40 bq48
                  rcases hz with w | w
                  · exact absurd (by rw [w]) bq31
                  · rw [stopS, he, Bool.false_or] at w
                    have w := Bool.and_eq_true_iff.mp w
                    exact absurd (of_decide_eq_true w.2) bq66
                · skip
                  exact absurd (show (0 : Int32) ≤ 0 by decide) bq78
              · skip
                refine r_iconst (pc := 69) (v := 3) hC dL_crank_69 (by decide) ?_
                refine r_goto (pc := 70) (tgt := 74) hC dL_crank_70 (by decide) ?_
                refine r_istore (pc := 74) (L' := [_, _, _, _, _, _, _, _, _, _, _]) hC dL_crank_74 rfl (Nat.le_of_ble_eq_true rfl) rfl ?_
                refine r_iload (pc := 76) hC dL_crank_76 rfl ?_
                refine r_if_le (pc := 78) (tgt := 115) hC dL_crank_78 (by decide) (fun bq78 => ?_) (fun bq78 => ?_)
                · skip
                  exact absurd bq78 (by decide)
                · skip
                  refine r_aload_n (pc := 81) hC dL_crank_81 rfl ?_
                  refine r_iconst (pc := 82) (v := 4) hC dL_crank_82 (by decide) ?_
                  refine r_dup2 (pc := 83) hC dL_crank_83 rfl rfl ?_
                  refine r_iald (pc := 84) hC kg (xi_l (k := 4) ng (by decide) (by decide) (by decide)) dL_crank_84 ?_
                  refine r_iload (pc := 85) hC dL_crank_85 rfl ?_
                  refine r_iadd (pc := 87) hC dL_crank_87 ?_
                  refine r_iast (pc := 88) hC kg (xi_l (k := 4) ng (by decide) (by decide) (by decide)) dL_crank_88 ?_
                  refine r_aload_n (pc := 89) hC dL_crank_89 rfl ?_
                  refine r_iconst (pc := 90) (v := 5) hC dL_crank_90 (by decide) ?_
                  refine r_dup2 (pc := 91) hC dL_crank_91 rfl rfl ?_
                  refine r_iald (pc := 92) hC kg (xi_l (k := 5) ng (by decide) (by decide) (by decide)) dL_crank_92 ?_
                  refine r_iload (pc := 93) hC dL_crank_93 rfl ?_
                  refine r_iadd (pc := 95) hC dL_crank_95 ?_
                  refine r_iast (pc := 96) hC kg (xi_l (k := 5) ng (by decide) (by decide) (by decide)) dL_crank_96 ?_
                  refine r_iload (pc := 97) hC dL_crank_97 rfl ?_
                  refine r_bipush (pc := 99) (v := 100) hC dL_crank_99 (by decide) ?_
                  refine r_iload (pc := 101) hC dL_crank_101 rfl ?_
                  refine r_imul (pc := 103) hC dL_crank_103 ?_
                  refine r_iadd (pc := 104) hC dL_crank_104 ?_
                  refine r_sipush (pc := 105) (v := 10000) hC dL_crank_105 (by decide) ?_
                  refine r_iload (pc := 108) hC dL_crank_108 rfl ?_
                  refine r_iconst (pc := 110) (v := 1) hC dL_crank_110 (by decide) ?_
                  refine r_isub (pc := 111) hC dL_crank_111 ?_
                  refine r_imul (pc := 112) hC dL_crank_112 ?_
                  refine r_iadd (pc := 113) hC dL_crank_113 ?_
                  refine r_iret (pc := 114) hC hD rfl dL_crank_114 rfl ?_
                  have ek : k = (stepsS S n a (cUp r) (cW r)) := by omega
                  obtain ⟨t, ht1, ht2⟩ := crT_n (S := S) (a := a) (up := (cUp r)) (v := v) k
                  have ha1 := lA_g (k := 4) (v := J 255 4 + (crT S a (cUp r) v k)) hJ (by decide)
                  have ha2 := lA_g (k := 5) (v := xu J 255 4 (J 255 4 + (crT S a (cUp r) v k)) 255 5 + nI k) ha1 (by decide)
                  refine ⟨⟨_, rfl, ?_⟩, rfl, rfl, ?_, fun c q1 q2 q3 => ?_⟩
                  · rw [ht2]; exact cr_pos (by omega) (by omega) (by decide)
                  · rw [xu_ne (Or.inr (by decide))] at ha2
                    rw [show J 255 4 = S 4 from (hJ.1 4 (by decide)).trans (crS_small (by decide) (by decide)), show J 255 5 = S 5 from (hJ.1 5 (by decide)).trans (crS_small (by decide) (by decide))] at ha2
                    rw [show J 255 4 = S 4 from (hJ.1 4 (by decide)).trans (crS_small (by decide) (by decide)), xu_ne (Or.inr (by decide)), show J 255 5 = S 5 from (hJ.1 5 (by decide)).trans (crS_small (by decide) (by decide))]
                    rw [sCrank, if_pos hok, hca, hcg, ← ek]
                    exact ha2
                  · rw [xu_row q1, xu_row q1]; exact hF c q1 q2 q3
          · skip
            refine r_iconst (pc := 51) (v := 2) hC dL_crank_51 (by decide) ?_
            refine r_goto (pc := 52) (tgt := 74) hC dL_crank_52 (by decide) ?_
            refine r_istore (pc := 74) (L' := [_, _, _, _, _, _, _, _, _, _, _]) hC dL_crank_74 rfl (Nat.le_of_ble_eq_true rfl) rfl ?_
            refine r_iload (pc := 76) hC dL_crank_76 rfl ?_
            refine r_if_le (pc := 78) (tgt := 115) hC dL_crank_78 (by decide) (fun bq78 => ?_) (fun bq78 => ?_)
            · skip
              exact absurd bq78 (by decide)
            · skip
              refine r_aload_n (pc := 81) hC dL_crank_81 rfl ?_
              refine r_iconst (pc := 82) (v := 4) hC dL_crank_82 (by decide) ?_
              refine r_dup2 (pc := 83) hC dL_crank_83 rfl rfl ?_
              refine r_iald (pc := 84) hC kg (xi_l (k := 4) ng (by decide) (by decide) (by decide)) dL_crank_84 ?_
              refine r_iload (pc := 85) hC dL_crank_85 rfl ?_
              refine r_iadd (pc := 87) hC dL_crank_87 ?_
              refine r_iast (pc := 88) hC kg (xi_l (k := 4) ng (by decide) (by decide) (by decide)) dL_crank_88 ?_
              refine r_aload_n (pc := 89) hC dL_crank_89 rfl ?_
              refine r_iconst (pc := 90) (v := 5) hC dL_crank_90 (by decide) ?_
              refine r_dup2 (pc := 91) hC dL_crank_91 rfl rfl ?_
              refine r_iald (pc := 92) hC kg (xi_l (k := 5) ng (by decide) (by decide) (by decide)) dL_crank_92 ?_
              refine r_iload (pc := 93) hC dL_crank_93 rfl ?_
              refine r_iadd (pc := 95) hC dL_crank_95 ?_
              refine r_iast (pc := 96) hC kg (xi_l (k := 5) ng (by decide) (by decide) (by decide)) dL_crank_96 ?_
              refine r_iload (pc := 97) hC dL_crank_97 rfl ?_
              refine r_bipush (pc := 99) (v := 100) hC dL_crank_99 (by decide) ?_
              refine r_iload (pc := 101) hC dL_crank_101 rfl ?_
              refine r_imul (pc := 103) hC dL_crank_103 ?_
              refine r_iadd (pc := 104) hC dL_crank_104 ?_
              refine r_sipush (pc := 105) (v := 10000) hC dL_crank_105 (by decide) ?_
              refine r_iload (pc := 108) hC dL_crank_108 rfl ?_
              refine r_iconst (pc := 110) (v := 1) hC dL_crank_110 (by decide) ?_
              refine r_isub (pc := 111) hC dL_crank_111 ?_
              refine r_imul (pc := 112) hC dL_crank_112 ?_
              refine r_iadd (pc := 113) hC dL_crank_113 ?_
              refine r_iret (pc := 114) hC hD rfl dL_crank_114 rfl ?_
              have ek : k = (stepsS S n a (cUp r) (cW r)) := by omega
              obtain ⟨t, ht1, ht2⟩ := crT_n (S := S) (a := a) (up := (cUp r)) (v := v) k
              have ha1 := lA_g (k := 4) (v := J 255 4 + (crT S a (cUp r) v k)) hJ (by decide)
              have ha2 := lA_g (k := 5) (v := xu J 255 4 (J 255 4 + (crT S a (cUp r) v k)) 255 5 + nI k) ha1 (by decide)
              refine ⟨⟨_, rfl, ?_⟩, rfl, rfl, ?_, fun c q1 q2 q3 => ?_⟩
              · rw [ht2]; exact cr_pos (by omega) (by omega) (by decide)
              · rw [xu_ne (Or.inr (by decide))] at ha2
                rw [show J 255 4 = S 4 from (hJ.1 4 (by decide)).trans (crS_small (by decide) (by decide)), show J 255 5 = S 5 from (hJ.1 5 (by decide)).trans (crS_small (by decide) (by decide))] at ha2
                rw [show J 255 4 = S 4 from (hJ.1 4 (by decide)).trans (crS_small (by decide) (by decide)), xu_ne (Or.inr (by decide)), show J 255 5 = S 5 from (hJ.1 5 (by decide)).trans (crS_small (by decide) (by decide))]
                rw [sCrank, if_pos hok, hca, hcg, ← ek]
                exact ha2
              · rw [xu_row q1, xu_row q1]; exact hF c q1 q2 q3
      · skip
        refine r_iconst (pc := 34) (v := 1) hC dL_crank_34 (by decide) ?_
        refine r_goto (pc := 35) (tgt := 74) hC dL_crank_35 (by decide) ?_
        refine r_istore (pc := 74) (L' := [_, _, _, _, _, _, _, _, _, _, _]) hC dL_crank_74 rfl (Nat.le_of_ble_eq_true rfl) rfl ?_
        refine r_iload (pc := 76) hC dL_crank_76 rfl ?_
        refine r_if_le (pc := 78) (tgt := 115) hC dL_crank_78 (by decide) (fun bq78 => ?_) (fun bq78 => ?_)
        · skip
          exact absurd bq78 (by decide)
        · skip
          refine r_aload_n (pc := 81) hC dL_crank_81 rfl ?_
          refine r_iconst (pc := 82) (v := 4) hC dL_crank_82 (by decide) ?_
          refine r_dup2 (pc := 83) hC dL_crank_83 rfl rfl ?_
          refine r_iald (pc := 84) hC kg (xi_l (k := 4) ng (by decide) (by decide) (by decide)) dL_crank_84 ?_
          refine r_iload (pc := 85) hC dL_crank_85 rfl ?_
          refine r_iadd (pc := 87) hC dL_crank_87 ?_
          refine r_iast (pc := 88) hC kg (xi_l (k := 4) ng (by decide) (by decide) (by decide)) dL_crank_88 ?_
          refine r_aload_n (pc := 89) hC dL_crank_89 rfl ?_
          refine r_iconst (pc := 90) (v := 5) hC dL_crank_90 (by decide) ?_
          refine r_dup2 (pc := 91) hC dL_crank_91 rfl rfl ?_
          refine r_iald (pc := 92) hC kg (xi_l (k := 5) ng (by decide) (by decide) (by decide)) dL_crank_92 ?_
          refine r_iload (pc := 93) hC dL_crank_93 rfl ?_
          refine r_iadd (pc := 95) hC dL_crank_95 ?_
          refine r_iast (pc := 96) hC kg (xi_l (k := 5) ng (by decide) (by decide) (by decide)) dL_crank_96 ?_
          refine r_iload (pc := 97) hC dL_crank_97 rfl ?_
          refine r_bipush (pc := 99) (v := 100) hC dL_crank_99 (by decide) ?_
          refine r_iload (pc := 101) hC dL_crank_101 rfl ?_
          refine r_imul (pc := 103) hC dL_crank_103 ?_
          refine r_iadd (pc := 104) hC dL_crank_104 ?_
          refine r_sipush (pc := 105) (v := 10000) hC dL_crank_105 (by decide) ?_
          refine r_iload (pc := 108) hC dL_crank_108 rfl ?_
          refine r_iconst (pc := 110) (v := 1) hC dL_crank_110 (by decide) ?_
          refine r_isub (pc := 111) hC dL_crank_111 ?_
          refine r_imul (pc := 112) hC dL_crank_112 ?_
          refine r_iadd (pc := 113) hC dL_crank_113 ?_
          refine r_iret (pc := 114) hC hD rfl dL_crank_114 rfl ?_
          have ek : k = (stepsS S n a (cUp r) (cW r)) := by omega
          obtain ⟨t, ht1, ht2⟩ := crT_n (S := S) (a := a) (up := (cUp r)) (v := v) k
          have ha1 := lA_g (k := 4) (v := J 255 4 + (crT S a (cUp r) v k)) hJ (by decide)
          have ha2 := lA_g (k := 5) (v := xu J 255 4 (J 255 4 + (crT S a (cUp r) v k)) 255 5 + nI k) ha1 (by decide)
          refine ⟨⟨_, rfl, ?_⟩, rfl, rfl, ?_, fun c q1 q2 q3 => ?_⟩
          · rw [ht2]; exact cr_pos (by omega) (by omega) (by decide)
          · rw [xu_ne (Or.inr (by decide))] at ha2
            rw [show J 255 4 = S 4 from (hJ.1 4 (by decide)).trans (crS_small (by decide) (by decide)), show J 255 5 = S 5 from (hJ.1 5 (by decide)).trans (crS_small (by decide) (by decide))] at ha2
            rw [show J 255 4 = S 4 from (hJ.1 4 (by decide)).trans (crS_small (by decide) (by decide)), xu_ne (Or.inr (by decide)), show J 255 5 = S 5 from (hJ.1 5 (by decide)).trans (crS_small (by decide) (by decide))]
            rw [sCrank, if_pos hok, hca, hcg, ← ek]
            exact ha2
          · rw [xu_row q1, xu_row q1]; exact hF c q1 q2 q3
    | succ q ih =>
      intro k hk J x8 x9 x10 hJ hF
      obtain ⟨hrn, hdir⟩ := steps_row (S := S) (up := (cUp r)) (w := (cW r)) ha k (by omega)
      have hJ1 : J 255 1 = nI (rowAt a (cUp r) k) := (hJ.1 1 (by decide)).trans (crS_1 hs1)
      have hJ0 : J 255 0 = nI n := ((hJ.1 0 (by decide)).trans (crS_small (by decide) (by decide))).trans hn
      have hJ9 : J 255 9 = (crS S a (cUp r) v k) 9 := hJ.1 9 (by decide)
      have hJw : J 257 (rowAt a (cUp r) k) = (crS S a (cUp r) v k) (12 + 17 * (rowAt a (cUp r) k)) := (hJ.2.1 _ hrn).2.1
      have hJu' : J 258 (rowAt a (cUp r) k) = (crS S a (cUp r) v k) (13 + 17 * (rowAt a (cUp r) k)) := (hJ.2.1 _ hrn).2.2.1
      have hSu : (crS S a (cUp r) v k) (13 + 17 * (rowAt a (cUp r) k)) = S (13 + 17 * (rowAt a (cUp r) k)) := crS_row hdir (by omega) (by omega)
      have hJu := hJu'.trans hSu
      have hT : (crS S a (cUp r) v k) (13 + 17 * (rowAt a (cUp r) k)) = 0 ∨ (crS S a (cUp r) v k) (13 + 17 * (rowAt a (cUp r) k)) = 1 := by rw [hSu]; exact (hrows _ hrn).choose_spec.2.2.2.2
      have hend := xby_end (up := (cUp r)) hrn hn20
      have hns : stopS S n a (cUp r) k = false := srch_lt (cW r) 0 k (Nat.zero_le _) (by unfold stepsS at hk; omega)
      refine r_aload_n (pc := 17) hC dL_crank_17 rfl ?_
      refine r_iconst (pc := 18) (v := 1) hC dL_crank_18 (by decide) ?_
      refine r_iald (pc := 19) hC kg (xi_l (k := 1) ng (by decide) (by decide) (by decide)) dL_crank_19 ?_
      rw [hJ1]
      refine r_iload (pc := 20) hC dL_crank_20 rfl ?_
      refine r_iadd (pc := 22) hC dL_crank_22 ?_
      refine r_istore (pc := 23) (L' := [_, _, _, _, _, _, _, _, _, _, _]) hC dL_crank_23 rfl (Nat.le_of_ble_eq_true rfl) rfl ?_
      refine r_iload (pc := 25) hC dL_crank_25 rfl ?_
      refine r_iload_n (pc := 27) hC dL_crank_27 rfl ?_
      refine r_iload (pc := 28) hC dL_crank_28 rfl ?_
      refine r_imul (pc := 30) hC dL_crank_30 ?_
      rw [hrb]
      refine r_icmp_ne (pc := 31) (tgt := 38) hC dL_crank_31 (by decide) (fun bq31 => ?_) (fun bq31 => ?_)
      · skip
        refine r_iload (pc := 38) hC dL_crank_38 rfl ?_
        refine r_if_lt (pc := 40) (tgt := 51) hC dL_crank_40 (by decide) (fun bq40 => ?_) (fun bq40 => ?_)
        · skip
          refine r_iconst (pc := 51) (v := 2) hC dL_crank_51 (by decide) ?_
          refine r_goto (pc := 52) (tgt := 74) hC dL_crank_52 (by decide) ?_
          refine r_istore (pc := 74) (L' := [_, _, _, _, _, _, _, _, _, _, _]) hC dL_crank_74 rfl (Nat.le_of_ble_eq_true rfl) rfl ?_
          refine r_iload (pc := 76) hC dL_crank_76 rfl ?_
          refine r_if_le (pc := 78) (tgt := 115) hC dL_crank_78 (by decide) (fun bq78 => ?_) (fun bq78 => ?_)
          · skip
            exact absurd bq78 (by decide)
          · skip
            have he := cr_out0 hend bq40
            rw [stopS, he] at hns; exact absurd hns (by simp)
        · skip
          refine r_iload (pc := 43) hC dL_crank_43 rfl ?_
          refine r_aload_n (pc := 45) hC dL_crank_45 rfl ?_
          refine r_iconst (pc := 46) (v := 0) hC dL_crank_46 (by decide) ?_
          refine r_iald (pc := 47) hC kg (xi_l (k := 0) ng (by decide) (by decide) (by decide)) dL_crank_47 ?_
          rw [hJ0]
          refine r_icmp_lt (pc := 48) (tgt := 55) hC dL_crank_48 (by decide) (fun bq48 => ?_) (fun bq48 => ?_)
          · skip
            refine r_iload (pc := 55) hC dL_crank_55 rfl ?_
            refine r_if_le (pc := 57) (tgt := 73) hC dL_crank_57 (by decide) (fun bq57 => ?_) (fun bq57 => ?_)
            · skip
              refine r_iconst (pc := 73) (v := 0) hC dL_crank_73 (by decide) ?_
              refine r_istore (pc := 74) (L' := [_, _, _, _, _, _, _, _, _, _, _]) hC dL_crank_74 rfl (Nat.le_of_ble_eq_true rfl) rfl ?_
              refine r_iload (pc := 76) hC dL_crank_76 rfl ?_
              refine r_if_le (pc := 78) (tgt := 115) hC dL_crank_78 (by decide) (fun bq78 => ?_) (fun bq78 => ?_)
              · skip
                have he : isEndS n (cUp r) (rowAt a (cUp r) k) = false := cr_in hend bq40 bq48
                refine r_iload (pc := 115) hC dL_crank_115 rfl ?_
                refine r_iconst (pc := 117) (v := 3) hC dL_crank_117 (by decide) ?_
                refine r_icmp_lt (pc := 118) (tgt := 128) hC dL_crank_118 (by decide) (fun bq118 => ?_) (fun bq118 => ?_)
                · skip
                  refine r_aload_n (pc := 128) hC dL_crank_128 rfl ?_
                  refine r_aload_n (pc := 129) hC dL_crank_129 rfl ?_
                  refine r_iconst (pc := 130) (v := 1) hC dL_crank_130 (by decide) ?_
                  refine r_iald (pc := 131) hC kg (xi_l (k := 1) ng (by decide) (by decide) (by decide)) dL_crank_131 ?_
                  rw [hJ1]
                  refine r_dup2 (pc := 132) hC dL_crank_132 rfl rfl ?_
                  refine r_iald (pc := 133) hC kw (xi_n (k := (rowAt a (cUp r) k)) (by rw [nw]; omega) (by rw [nw]; decide)) dL_crank_133 ?_
                  rw [hJw]
                  refine r_iload (pc := 134) hC dL_crank_134 rfl ?_
                  refine r_iadd (pc := 136) hC dL_crank_136 ?_
                  refine r_iast (pc := 137) hC kw (xi_n (k := (rowAt a (cUp r) k)) (by rw [nw]; omega) (by rw [nw]; decide)) dL_crank_137 ?_
                  refine r_aload_n (pc := 138) hC dL_crank_138 rfl ?_
                  refine r_aload_n (pc := 139) hC dL_crank_139 rfl ?_
                  refine r_iconst (pc := 140) (v := 1) hC dL_crank_140 (by decide) ?_
                  refine r_iald (pc := 141) hC kg (xi_l (k := 1) ng (by decide) (by decide) (by decide)) dL_crank_141 ?_
                  rw [xu_row (a := 257) (b := 255) (by decide), hJ1]
                  refine r_iald (pc := 142) hC ku (xi_n (k := (rowAt a (cUp r) k)) (by rw [nu]; omega) (by rw [nu]; decide)) dL_crank_142 ?_
                  rw [xu_row (a := 257) (b := 258) (by decide), hJu']
                  refine r_if_ne (pc := 143) (tgt := 162) hC dL_crank_143 (by decide) (fun bq143 => ?_) (fun bq143 => ?_)
                  · skip
                    refine r_iconst (pc := 162) (v := 0) hC dL_crank_162 (by decide) ?_
                    refine r_istore (pc := 163) (L' := [_, _, _, _, _, _, _, _, _, _, _]) hC dL_crank_163 rfl (Nat.le_of_ble_eq_true rfl) rfl ?_
                    refine r_aload_n (pc := 165) hC dL_crank_165 rfl ?_
                    refine r_aload_n (pc := 166) hC dL_crank_166 rfl ?_
                    refine r_iconst (pc := 167) (v := 1) hC dL_crank_167 (by decide) ?_
                    refine r_iald (pc := 168) hC kg (xi_l (k := 1) ng (by decide) (by decide) (by decide)) dL_crank_168 ?_
                    rw [xu_row (a := 257) (b := 255) (by decide), hJ1]
                    refine r_iload (pc := 169) hC dL_crank_169 rfl ?_
                    refine r_if_eq (pc := 171) (tgt := 178) hC dL_crank_171 (by decide) (fun bq171 => ?_) (fun bq171 => ?_)
                    · skip
                      refine r_aload_n (pc := 178) hC dL_crank_178 rfl ?_
                      refine r_aload_n (pc := 179) hC dL_crank_179 rfl ?_
                      refine r_iconst (pc := 180) (v := 1) hC dL_crank_180 (by decide) ?_
                      refine r_iald (pc := 181) hC kg (xi_l (k := 1) ng (by decide) (by decide) (by decide)) dL_crank_181 ?_
                      rw [xu_row (a := 257) (b := 255) (by decide), hJ1]
                      refine r_iald (pc := 182) hC ku (xi_n (k := (rowAt a (cUp r) k)) (by rw [nu]; omega) (by rw [nu]; decide)) dL_crank_182 ?_
                      refine r_iast (pc := 183) hC ku (xi_n (k := (rowAt a (cUp r) k)) (by rw [nu]; omega) (by rw [nu]; decide)) dL_crank_183 ?_
                      refine r_iload (pc := 184) hC dL_crank_184 rfl ?_
                      refine r_iload (pc := 186) hC dL_crank_186 rfl ?_
                      refine r_if_eq (pc := 188) (tgt := 195) hC dL_crank_188 (by decide) (fun bq188 => ?_) (fun bq188 => ?_)
                      · skip
                        refine r_iconst (pc := 195) (v := 0) hC dL_crank_195 (by decide) ?_
                        refine r_iadd (pc := 196) hC dL_crank_196 ?_
                        refine r_istore (pc := 197) (L' := [_, _, _, _, _, _, _, _, _, _, _]) hC dL_crank_197 rfl (Nat.le_of_ble_eq_true rfl) rfl ?_
                        refine r_aload_n (pc := 199) hC dL_crank_199 rfl ?_
                        refine r_iconst (pc := 200) (v := 1) hC dL_crank_200 (by decide) ?_
                        refine r_iload (pc := 201) hC dL_crank_201 rfl ?_
                        refine r_iast (pc := 203) hC kg (xi_l (k := 1) ng (by decide) (by decide) (by decide)) dL_crank_203 ?_
                        refine r_iinc (pc := 204) (v := 1) (L' := [_, _, _, _, _, _, _, _, _, _, _]) hC dL_crank_204 rfl (by decide) rfl rfl ?_
                        refine r_goto (pc := 207) (tgt := 17) hC dL_crank_207 (by decide) ?_
                        obtain ⟨x1, x2, x3⟩ := xby_next he hdir hrn
                        rw [x1, nI_1]
                        have hr1 : crS S a (cUp r) v (k + 1) = upd (lvS (crS S a (cUp r) v k) (rowAt a (cUp r) k) v k) 1 (nI (rowAt a (cUp r) (k + 1))) := rfl
                        have hc1 : crT S a (cUp r) v (k + 1) = (crT S a (cUp r) v k) + (if v = 3 ∧ k % 2 = 1 then 0 else tear1 (crS S a (cUp r) v k) (rowAt a (cUp r) k) v) := rfl
                        have hsk : ¬ (v = 3 ∧ k % 2 = 1) := cr_ns0 bq118
                        have ht1 : tear1 (crS S a (cUp r) v k) (rowAt a (cUp r) k) v = 0 := by rw [tear1, if_pos (u01 hT bq143)]
                        rw [lvS, if_neg hsk, show wear1 (crS S a (cUp r) v k) (rowAt a (cUp r) k) v = ((crS S a (cUp r) v k) (12 + 17 * (rowAt a (cUp r) k)) + v) from rfl] at hr1
                        rw [if_neg hsk, ht1] at hc1
                        rw [← hc1]
                        have ht2 : torn1 (crS S a (cUp r) v k) (rowAt a (cUp r) k) v = ((xu J 257 (rowAt a (cUp r) k) ((crS S a (cUp r) v k) (12 + 17 * (rowAt a (cUp r) k)) + v)) 258 (rowAt a (cUp r) k)) := by rw [xu_row (by decide), hJu', torn1, if_pos (u01 hT bq143)]; exact (u01 hT bq143).symm
                        rw [ht2] at hr1
                        exact ih (k + 1) (by omega) _ _ _ _ (by rw [hr1]; exact lA_g (lA_u (lA_w hJ hrn) hrn) (by decide)) (fun c q1 q2 q3 => by rw [xu_row q1, xu_row q3, xu_row q2]; exact hF c q1 q2 q3)
                      · skip
                        exact absurd (show (0 : Int32) = 0 from rfl) bq188
                    · skip
                      exact absurd (show (0 : Int32) = 0 from rfl) bq171
                  · skip
                    refine r_aload_n (pc := 146) hC dL_crank_146 rfl ?_
                    refine r_aload_n (pc := 147) hC dL_crank_147 rfl ?_
                    refine r_iconst (pc := 148) (v := 1) hC dL_crank_148 (by decide) ?_
                    refine r_iald (pc := 149) hC kg (xi_l (k := 1) ng (by decide) (by decide) (by decide)) dL_crank_149 ?_
                    rw [xu_row (a := 257) (b := 255) (by decide), hJ1]
                    refine r_iald (pc := 150) hC kw (xi_n (k := (rowAt a (cUp r) k)) (by rw [nw]; omega) (by rw [nw]; decide)) dL_crank_150 ?_
                    rw [xu_at]
                    refine r_aload_n (pc := 151) hC dL_crank_151 rfl ?_
                    refine r_bipush (pc := 152) (v := 9) hC dL_crank_152 (by decide) ?_
                    refine r_iald (pc := 154) hC kg (xi_l (k := 9) ng (by decide) (by decide) (by decide)) dL_crank_154 ?_
                    rw [xu_row (a := 257) (b := 255) (by decide), hJ9]
                    refine r_icmp_le (pc := 155) (tgt := 162) hC dL_crank_155 (by decide) (fun bq155 => ?_) (fun bq155 => ?_)
                    · skip
                      refine r_iconst (pc := 162) (v := 0) hC dL_crank_162 (by decide) ?_
                      refine r_istore (pc := 163) (L' := [_, _, _, _, _, _, _, _, _, _, _]) hC dL_crank_163 rfl (Nat.le_of_ble_eq_true rfl) rfl ?_
                      refine r_aload_n (pc := 165) hC dL_crank_165 rfl ?_
                      refine r_aload_n (pc := 166) hC dL_crank_166 rfl ?_
                      refine r_iconst (pc := 167) (v := 1) hC dL_crank_167 (by decide) ?_
                      refine r_iald (pc := 168) hC kg (xi_l (k := 1) ng (by decide) (by decide) (by decide)) dL_crank_168 ?_
                      rw [xu_row (a := 257) (b := 255) (by decide), hJ1]
                      refine r_iload (pc := 169) hC dL_crank_169 rfl ?_
                      refine r_if_eq (pc := 171) (tgt := 178) hC dL_crank_171 (by decide) (fun bq171 => ?_) (fun bq171 => ?_)
                      · skip
                        refine r_aload_n (pc := 178) hC dL_crank_178 rfl ?_
                        refine r_aload_n (pc := 179) hC dL_crank_179 rfl ?_
                        refine r_iconst (pc := 180) (v := 1) hC dL_crank_180 (by decide) ?_
                        refine r_iald (pc := 181) hC kg (xi_l (k := 1) ng (by decide) (by decide) (by decide)) dL_crank_181 ?_
                        rw [xu_row (a := 257) (b := 255) (by decide), hJ1]
                        refine r_iald (pc := 182) hC ku (xi_n (k := (rowAt a (cUp r) k)) (by rw [nu]; omega) (by rw [nu]; decide)) dL_crank_182 ?_
                        refine r_iast (pc := 183) hC ku (xi_n (k := (rowAt a (cUp r) k)) (by rw [nu]; omega) (by rw [nu]; decide)) dL_crank_183 ?_
                        refine r_iload (pc := 184) hC dL_crank_184 rfl ?_
                        refine r_iload (pc := 186) hC dL_crank_186 rfl ?_
                        refine r_if_eq (pc := 188) (tgt := 195) hC dL_crank_188 (by decide) (fun bq188 => ?_) (fun bq188 => ?_)
                        · skip
                          refine r_iconst (pc := 195) (v := 0) hC dL_crank_195 (by decide) ?_
                          refine r_iadd (pc := 196) hC dL_crank_196 ?_
                          refine r_istore (pc := 197) (L' := [_, _, _, _, _, _, _, _, _, _, _]) hC dL_crank_197 rfl (Nat.le_of_ble_eq_true rfl) rfl ?_
                          refine r_aload_n (pc := 199) hC dL_crank_199 rfl ?_
                          refine r_iconst (pc := 200) (v := 1) hC dL_crank_200 (by decide) ?_
                          refine r_iload (pc := 201) hC dL_crank_201 rfl ?_
                          refine r_iast (pc := 203) hC kg (xi_l (k := 1) ng (by decide) (by decide) (by decide)) dL_crank_203 ?_
                          refine r_iinc (pc := 204) (v := 1) (L' := [_, _, _, _, _, _, _, _, _, _, _]) hC dL_crank_204 rfl (by decide) rfl rfl ?_
                          refine r_goto (pc := 207) (tgt := 17) hC dL_crank_207 (by decide) ?_
                          obtain ⟨x1, x2, x3⟩ := xby_next he hdir hrn
                          rw [x1, nI_1]
                          have hr1 : crS S a (cUp r) v (k + 1) = upd (lvS (crS S a (cUp r) v k) (rowAt a (cUp r) k) v k) 1 (nI (rowAt a (cUp r) (k + 1))) := rfl
                          have hc1 : crT S a (cUp r) v (k + 1) = (crT S a (cUp r) v k) + (if v = 3 ∧ k % 2 = 1 then 0 else tear1 (crS S a (cUp r) v k) (rowAt a (cUp r) k) v) := rfl
                          have hsk : ¬ (v = 3 ∧ k % 2 = 1) := cr_ns0 bq118
                          have ht1 : tear1 (crS S a (cUp r) v k) (rowAt a (cUp r) k) v = 0 := by rw [tear1, wear1, if_neg (fun e => absurd (e.symm.trans bq143) (by decide)), if_pos bq155]
                          rw [lvS, if_neg hsk, show wear1 (crS S a (cUp r) v k) (rowAt a (cUp r) k) v = ((crS S a (cUp r) v k) (12 + 17 * (rowAt a (cUp r) k)) + v) from rfl] at hr1
                          rw [if_neg hsk, ht1] at hc1
                          rw [← hc1]
                          have ht2 : torn1 (crS S a (cUp r) v k) (rowAt a (cUp r) k) v = ((xu J 257 (rowAt a (cUp r) k) ((crS S a (cUp r) v k) (12 + 17 * (rowAt a (cUp r) k)) + v)) 258 (rowAt a (cUp r) k)) := by rw [xu_row (by decide), hJu', torn1, if_neg (fun e => absurd (e.symm.trans bq143) (by decide)), ht1]; exact bq143.symm
                          rw [ht2] at hr1
                          exact ih (k + 1) (by omega) _ _ _ _ (by rw [hr1]; exact lA_g (lA_u (lA_w hJ hrn) hrn) (by decide)) (fun c q1 q2 q3 => by rw [xu_row q1, xu_row q3, xu_row q2]; exact hF c q1 q2 q3)
                        · skip
                          exact absurd (show (0 : Int32) = 0 from rfl) bq188
                      · skip
                        exact absurd (show (0 : Int32) = 0 from rfl) bq171
                    · skip
                      refine r_iconst (pc := 158) (v := 1) hC dL_crank_158 (by decide) ?_
                      refine r_goto (pc := 159) (tgt := 163) hC dL_crank_159 (by decide) ?_
                      refine r_istore (pc := 163) (L' := [_, _, _, _, _, _, _, _, _, _, _]) hC dL_crank_163 rfl (Nat.le_of_ble_eq_true rfl) rfl ?_
                      refine r_aload_n (pc := 165) hC dL_crank_165 rfl ?_
                      refine r_aload_n (pc := 166) hC dL_crank_166 rfl ?_
                      refine r_iconst (pc := 167) (v := 1) hC dL_crank_167 (by decide) ?_
                      refine r_iald (pc := 168) hC kg (xi_l (k := 1) ng (by decide) (by decide) (by decide)) dL_crank_168 ?_
                      rw [xu_row (a := 257) (b := 255) (by decide), hJ1]
                      refine r_iload (pc := 169) hC dL_crank_169 rfl ?_
                      refine r_if_eq (pc := 171) (tgt := 178) hC dL_crank_171 (by decide) (fun bq171 => ?_) (fun bq171 => ?_)
                      · skip
                        exact absurd bq171 (by decide)
                      · skip
                        refine r_iconst (pc := 174) (v := 1) hC dL_crank_174 (by decide) ?_
                        refine r_goto (pc := 175) (tgt := 183) hC dL_crank_175 (by decide) ?_
                        refine r_iast (pc := 183) hC ku (xi_n (k := (rowAt a (cUp r) k)) (by rw [nu]; omega) (by rw [nu]; decide)) dL_crank_183 ?_
                        refine r_iload (pc := 184) hC dL_crank_184 rfl ?_
                        refine r_iload (pc := 186) hC dL_crank_186 rfl ?_
                        refine r_if_eq (pc := 188) (tgt := 195) hC dL_crank_188 (by decide) (fun bq188 => ?_) (fun bq188 => ?_)
                        · skip
                          exact absurd bq188 (by decide)
                        · skip
                          refine r_iconst (pc := 191) (v := 1) hC dL_crank_191 (by decide) ?_
                          refine r_goto (pc := 192) (tgt := 196) hC dL_crank_192 (by decide) ?_
                          refine r_iadd (pc := 196) hC dL_crank_196 ?_
                          refine r_istore (pc := 197) (L' := [_, _, _, _, _, _, _, _, _, _, _]) hC dL_crank_197 rfl (Nat.le_of_ble_eq_true rfl) rfl ?_
                          refine r_aload_n (pc := 199) hC dL_crank_199 rfl ?_
                          refine r_iconst (pc := 200) (v := 1) hC dL_crank_200 (by decide) ?_
                          refine r_iload (pc := 201) hC dL_crank_201 rfl ?_
                          refine r_iast (pc := 203) hC kg (xi_l (k := 1) ng (by decide) (by decide) (by decide)) dL_crank_203 ?_
                          refine r_iinc (pc := 204) (v := 1) (L' := [_, _, _, _, _, _, _, _, _, _, _]) hC dL_crank_204 rfl (by decide) rfl rfl ?_
                          refine r_goto (pc := 207) (tgt := 17) hC dL_crank_207 (by decide) ?_
                          obtain ⟨x1, x2, x3⟩ := xby_next he hdir hrn
                          rw [x1, nI_1]
                          have hr1 : crS S a (cUp r) v (k + 1) = upd (lvS (crS S a (cUp r) v k) (rowAt a (cUp r) k) v k) 1 (nI (rowAt a (cUp r) (k + 1))) := rfl
                          have hc1 : crT S a (cUp r) v (k + 1) = (crT S a (cUp r) v k) + (if v = 3 ∧ k % 2 = 1 then 0 else tear1 (crS S a (cUp r) v k) (rowAt a (cUp r) k) v) := rfl
                          have hsk : ¬ (v = 3 ∧ k % 2 = 1) := cr_ns0 bq118
                          have ht1 : tear1 (crS S a (cUp r) v k) (rowAt a (cUp r) k) v = 1 := by rw [tear1, wear1, if_neg (fun e => absurd (e.symm.trans bq143) (by decide)), if_neg bq155]
                          rw [lvS, if_neg hsk, show wear1 (crS S a (cUp r) v k) (rowAt a (cUp r) k) v = ((crS S a (cUp r) v k) (12 + 17 * (rowAt a (cUp r) k)) + v) from rfl] at hr1
                          rw [if_neg hsk, ht1] at hc1
                          rw [← hc1]
                          have ht2 : torn1 (crS S a (cUp r) v k) (rowAt a (cUp r) k) v = 1 := by rw [torn1, if_neg (fun e => absurd (e.symm.trans bq143) (by decide)), ht1]
                          rw [ht2] at hr1
                          exact ih (k + 1) (by omega) _ _ _ _ (by rw [hr1]; exact lA_g (lA_u (lA_w hJ hrn) hrn) (by decide)) (fun c q1 q2 q3 => by rw [xu_row q1, xu_row q3, xu_row q2]; exact hF c q1 q2 q3)
                · skip
                  refine r_iload (pc := 121) hC dL_crank_121 rfl ?_
                  refine r_iconst (pc := 123) (v := 2) hC dL_crank_123 (by decide) ?_
                  refine r_irem (pc := 124) hC dL_crank_124 (by decide) ?_
                  rw [show nI k - nI k / 2 * 2 = nI (k % 2) from pk_rem (d := 2) (by omega) (by decide) (by decide)]
                  refine r_if_ne (pc := 125) (tgt := 199) hC dL_crank_125 (by decide) (fun bq125 => ?_) (fun bq125 => ?_)
                  · skip
                    refine r_aload_n (pc := 199) hC dL_crank_199 rfl ?_
                    refine r_iconst (pc := 200) (v := 1) hC dL_crank_200 (by decide) ?_
                    refine r_iload (pc := 201) hC dL_crank_201 rfl ?_
                    refine r_iast (pc := 203) hC kg (xi_l (k := 1) ng (by decide) (by decide) (by decide)) dL_crank_203 ?_
                    refine r_iinc (pc := 204) (v := 1) (L' := [_, _, _, _, _, _, _, _, _, _, _]) hC dL_crank_204 rfl (by decide) rfl rfl ?_
                    refine r_goto (pc := 207) (tgt := 17) hC dL_crank_207 (by decide) ?_
                    obtain ⟨x1, x2, x3⟩ := xby_next he hdir hrn
                    rw [x1, nI_1]
                    have hr1 : crS S a (cUp r) v (k + 1) = upd (lvS (crS S a (cUp r) v k) (rowAt a (cUp r) k) v k) 1 (nI (rowAt a (cUp r) (k + 1))) := rfl
                    have hc1 : crT S a (cUp r) v (k + 1) = (crT S a (cUp r) v k) + (if v = 3 ∧ k % 2 = 1 then 0 else tear1 (crS S a (cUp r) v k) (rowAt a (cUp r) k) v) := rfl
                    have hsk : v = 3 ∧ k % 2 = 1 := ⟨cr_v3 c3 bq118, cr_odd bq125⟩
                    rw [lvS, if_pos hsk] at hr1
                    rw [if_pos hsk, Int32.add_zero] at hc1
                    rw [← hc1]
                    exact ih (k + 1) (by omega) _ _ _ _ (by rw [hr1]; exact lA_g hJ (by decide)) (fun c q1 q2 q3 => by rw [xu_row q1]; exact hF c q1 q2 q3)
                  · skip
                    refine r_aload_n (pc := 128) hC dL_crank_128 rfl ?_
                    refine r_aload_n (pc := 129) hC dL_crank_129 rfl ?_
                    refine r_iconst (pc := 130) (v := 1) hC dL_crank_130 (by decide) ?_
                    refine r_iald (pc := 131) hC kg (xi_l (k := 1) ng (by decide) (by decide) (by decide)) dL_crank_131 ?_
                    rw [hJ1]
                    refine r_dup2 (pc := 132) hC dL_crank_132 rfl rfl ?_
                    refine r_iald (pc := 133) hC kw (xi_n (k := (rowAt a (cUp r) k)) (by rw [nw]; omega) (by rw [nw]; decide)) dL_crank_133 ?_
                    rw [hJw]
                    refine r_iload (pc := 134) hC dL_crank_134 rfl ?_
                    refine r_iadd (pc := 136) hC dL_crank_136 ?_
                    refine r_iast (pc := 137) hC kw (xi_n (k := (rowAt a (cUp r) k)) (by rw [nw]; omega) (by rw [nw]; decide)) dL_crank_137 ?_
                    refine r_aload_n (pc := 138) hC dL_crank_138 rfl ?_
                    refine r_aload_n (pc := 139) hC dL_crank_139 rfl ?_
                    refine r_iconst (pc := 140) (v := 1) hC dL_crank_140 (by decide) ?_
                    refine r_iald (pc := 141) hC kg (xi_l (k := 1) ng (by decide) (by decide) (by decide)) dL_crank_141 ?_
                    rw [xu_row (a := 257) (b := 255) (by decide), hJ1]
                    refine r_iald (pc := 142) hC ku (xi_n (k := (rowAt a (cUp r) k)) (by rw [nu]; omega) (by rw [nu]; decide)) dL_crank_142 ?_
                    rw [xu_row (a := 257) (b := 258) (by decide), hJu']
                    refine r_if_ne (pc := 143) (tgt := 162) hC dL_crank_143 (by decide) (fun bq143 => ?_) (fun bq143 => ?_)
                    · skip
                      refine r_iconst (pc := 162) (v := 0) hC dL_crank_162 (by decide) ?_
                      refine r_istore (pc := 163) (L' := [_, _, _, _, _, _, _, _, _, _, _]) hC dL_crank_163 rfl (Nat.le_of_ble_eq_true rfl) rfl ?_
                      refine r_aload_n (pc := 165) hC dL_crank_165 rfl ?_
                      refine r_aload_n (pc := 166) hC dL_crank_166 rfl ?_
                      refine r_iconst (pc := 167) (v := 1) hC dL_crank_167 (by decide) ?_
                      refine r_iald (pc := 168) hC kg (xi_l (k := 1) ng (by decide) (by decide) (by decide)) dL_crank_168 ?_
                      rw [xu_row (a := 257) (b := 255) (by decide), hJ1]
                      refine r_iload (pc := 169) hC dL_crank_169 rfl ?_
                      refine r_if_eq (pc := 171) (tgt := 178) hC dL_crank_171 (by decide) (fun bq171 => ?_) (fun bq171 => ?_)
                      · skip
                        refine r_aload_n (pc := 178) hC dL_crank_178 rfl ?_
                        refine r_aload_n (pc := 179) hC dL_crank_179 rfl ?_
                        refine r_iconst (pc := 180) (v := 1) hC dL_crank_180 (by decide) ?_
                        refine r_iald (pc := 181) hC kg (xi_l (k := 1) ng (by decide) (by decide) (by decide)) dL_crank_181 ?_
                        rw [xu_row (a := 257) (b := 255) (by decide), hJ1]
                        refine r_iald (pc := 182) hC ku (xi_n (k := (rowAt a (cUp r) k)) (by rw [nu]; omega) (by rw [nu]; decide)) dL_crank_182 ?_
                        refine r_iast (pc := 183) hC ku (xi_n (k := (rowAt a (cUp r) k)) (by rw [nu]; omega) (by rw [nu]; decide)) dL_crank_183 ?_
                        refine r_iload (pc := 184) hC dL_crank_184 rfl ?_
                        refine r_iload (pc := 186) hC dL_crank_186 rfl ?_
                        refine r_if_eq (pc := 188) (tgt := 195) hC dL_crank_188 (by decide) (fun bq188 => ?_) (fun bq188 => ?_)
                        · skip
                          refine r_iconst (pc := 195) (v := 0) hC dL_crank_195 (by decide) ?_
                          refine r_iadd (pc := 196) hC dL_crank_196 ?_
                          refine r_istore (pc := 197) (L' := [_, _, _, _, _, _, _, _, _, _, _]) hC dL_crank_197 rfl (Nat.le_of_ble_eq_true rfl) rfl ?_
                          refine r_aload_n (pc := 199) hC dL_crank_199 rfl ?_
                          refine r_iconst (pc := 200) (v := 1) hC dL_crank_200 (by decide) ?_
                          refine r_iload (pc := 201) hC dL_crank_201 rfl ?_
                          refine r_iast (pc := 203) hC kg (xi_l (k := 1) ng (by decide) (by decide) (by decide)) dL_crank_203 ?_
                          refine r_iinc (pc := 204) (v := 1) (L' := [_, _, _, _, _, _, _, _, _, _, _]) hC dL_crank_204 rfl (by decide) rfl rfl ?_
                          refine r_goto (pc := 207) (tgt := 17) hC dL_crank_207 (by decide) ?_
                          obtain ⟨x1, x2, x3⟩ := xby_next he hdir hrn
                          rw [x1, nI_1]
                          have hr1 : crS S a (cUp r) v (k + 1) = upd (lvS (crS S a (cUp r) v k) (rowAt a (cUp r) k) v k) 1 (nI (rowAt a (cUp r) (k + 1))) := rfl
                          have hc1 : crT S a (cUp r) v (k + 1) = (crT S a (cUp r) v k) + (if v = 3 ∧ k % 2 = 1 then 0 else tear1 (crS S a (cUp r) v k) (rowAt a (cUp r) k) v) := rfl
                          have hsk : ¬ (v = 3 ∧ k % 2 = 1) := cr_ns1 bq125
                          have ht1 : tear1 (crS S a (cUp r) v k) (rowAt a (cUp r) k) v = 0 := by rw [tear1, if_pos (u01 hT bq143)]
                          rw [lvS, if_neg hsk, show wear1 (crS S a (cUp r) v k) (rowAt a (cUp r) k) v = ((crS S a (cUp r) v k) (12 + 17 * (rowAt a (cUp r) k)) + v) from rfl] at hr1
                          rw [if_neg hsk, ht1] at hc1
                          rw [← hc1]
                          have ht2 : torn1 (crS S a (cUp r) v k) (rowAt a (cUp r) k) v = ((xu J 257 (rowAt a (cUp r) k) ((crS S a (cUp r) v k) (12 + 17 * (rowAt a (cUp r) k)) + v)) 258 (rowAt a (cUp r) k)) := by rw [xu_row (by decide), hJu', torn1, if_pos (u01 hT bq143)]; exact (u01 hT bq143).symm
                          rw [ht2] at hr1
                          exact ih (k + 1) (by omega) _ _ _ _ (by rw [hr1]; exact lA_g (lA_u (lA_w hJ hrn) hrn) (by decide)) (fun c q1 q2 q3 => by rw [xu_row q1, xu_row q3, xu_row q2]; exact hF c q1 q2 q3)
                        · skip
                          exact absurd (show (0 : Int32) = 0 from rfl) bq188
                      · skip
                        exact absurd (show (0 : Int32) = 0 from rfl) bq171
                    · skip
                      refine r_aload_n (pc := 146) hC dL_crank_146 rfl ?_
                      refine r_aload_n (pc := 147) hC dL_crank_147 rfl ?_
                      refine r_iconst (pc := 148) (v := 1) hC dL_crank_148 (by decide) ?_
                      refine r_iald (pc := 149) hC kg (xi_l (k := 1) ng (by decide) (by decide) (by decide)) dL_crank_149 ?_
                      rw [xu_row (a := 257) (b := 255) (by decide), hJ1]
                      refine r_iald (pc := 150) hC kw (xi_n (k := (rowAt a (cUp r) k)) (by rw [nw]; omega) (by rw [nw]; decide)) dL_crank_150 ?_
                      rw [xu_at]
                      refine r_aload_n (pc := 151) hC dL_crank_151 rfl ?_
                      refine r_bipush (pc := 152) (v := 9) hC dL_crank_152 (by decide) ?_
                      refine r_iald (pc := 154) hC kg (xi_l (k := 9) ng (by decide) (by decide) (by decide)) dL_crank_154 ?_
                      rw [xu_row (a := 257) (b := 255) (by decide), hJ9]
                      refine r_icmp_le (pc := 155) (tgt := 162) hC dL_crank_155 (by decide) (fun bq155 => ?_) (fun bq155 => ?_)
                      · skip
                        refine r_iconst (pc := 162) (v := 0) hC dL_crank_162 (by decide) ?_
                        refine r_istore (pc := 163) (L' := [_, _, _, _, _, _, _, _, _, _, _]) hC dL_crank_163 rfl (Nat.le_of_ble_eq_true rfl) rfl ?_
                        refine r_aload_n (pc := 165) hC dL_crank_165 rfl ?_
                        refine r_aload_n (pc := 166) hC dL_crank_166 rfl ?_
                        refine r_iconst (pc := 167) (v := 1) hC dL_crank_167 (by decide) ?_
                        refine r_iald (pc := 168) hC kg (xi_l (k := 1) ng (by decide) (by decide) (by decide)) dL_crank_168 ?_
                        rw [xu_row (a := 257) (b := 255) (by decide), hJ1]
                        refine r_iload (pc := 169) hC dL_crank_169 rfl ?_
                        refine r_if_eq (pc := 171) (tgt := 178) hC dL_crank_171 (by decide) (fun bq171 => ?_) (fun bq171 => ?_)
                        · skip
                          refine r_aload_n (pc := 178) hC dL_crank_178 rfl ?_
                          refine r_aload_n (pc := 179) hC dL_crank_179 rfl ?_
                          refine r_iconst (pc := 180) (v := 1) hC dL_crank_180 (by decide) ?_
                          refine r_iald (pc := 181) hC kg (xi_l (k := 1) ng (by decide) (by decide) (by decide)) dL_crank_181 ?_
                          rw [xu_row (a := 257) (b := 255) (by decide), hJ1]
                          refine r_iald (pc := 182) hC ku (xi_n (k := (rowAt a (cUp r) k)) (by rw [nu]; omega) (by rw [nu]; decide)) dL_crank_182 ?_
                          refine r_iast (pc := 183) hC ku (xi_n (k := (rowAt a (cUp r) k)) (by rw [nu]; omega) (by rw [nu]; decide)) dL_crank_183 ?_
                          refine r_iload (pc := 184) hC dL_crank_184 rfl ?_
                          refine r_iload (pc := 186) hC dL_crank_186 rfl ?_
                          refine r_if_eq (pc := 188) (tgt := 195) hC dL_crank_188 (by decide) (fun bq188 => ?_) (fun bq188 => ?_)
                          · skip
                            refine r_iconst (pc := 195) (v := 0) hC dL_crank_195 (by decide) ?_
                            refine r_iadd (pc := 196) hC dL_crank_196 ?_
                            refine r_istore (pc := 197) (L' := [_, _, _, _, _, _, _, _, _, _, _]) hC dL_crank_197 rfl (Nat.le_of_ble_eq_true rfl) rfl ?_
                            refine r_aload_n (pc := 199) hC dL_crank_199 rfl ?_
                            refine r_iconst (pc := 200) (v := 1) hC dL_crank_200 (by decide) ?_
                            refine r_iload (pc := 201) hC dL_crank_201 rfl ?_
                            refine r_iast (pc := 203) hC kg (xi_l (k := 1) ng (by decide) (by decide) (by decide)) dL_crank_203 ?_
                            refine r_iinc (pc := 204) (v := 1) (L' := [_, _, _, _, _, _, _, _, _, _, _]) hC dL_crank_204 rfl (by decide) rfl rfl ?_
                            refine r_goto (pc := 207) (tgt := 17) hC dL_crank_207 (by decide) ?_
                            obtain ⟨x1, x2, x3⟩ := xby_next he hdir hrn
                            rw [x1, nI_1]
                            have hr1 : crS S a (cUp r) v (k + 1) = upd (lvS (crS S a (cUp r) v k) (rowAt a (cUp r) k) v k) 1 (nI (rowAt a (cUp r) (k + 1))) := rfl
                            have hc1 : crT S a (cUp r) v (k + 1) = (crT S a (cUp r) v k) + (if v = 3 ∧ k % 2 = 1 then 0 else tear1 (crS S a (cUp r) v k) (rowAt a (cUp r) k) v) := rfl
                            have hsk : ¬ (v = 3 ∧ k % 2 = 1) := cr_ns1 bq125
                            have ht1 : tear1 (crS S a (cUp r) v k) (rowAt a (cUp r) k) v = 0 := by rw [tear1, wear1, if_neg (fun e => absurd (e.symm.trans bq143) (by decide)), if_pos bq155]
                            rw [lvS, if_neg hsk, show wear1 (crS S a (cUp r) v k) (rowAt a (cUp r) k) v = ((crS S a (cUp r) v k) (12 + 17 * (rowAt a (cUp r) k)) + v) from rfl] at hr1
                            rw [if_neg hsk, ht1] at hc1
                            rw [← hc1]
                            have ht2 : torn1 (crS S a (cUp r) v k) (rowAt a (cUp r) k) v = ((xu J 257 (rowAt a (cUp r) k) ((crS S a (cUp r) v k) (12 + 17 * (rowAt a (cUp r) k)) + v)) 258 (rowAt a (cUp r) k)) := by rw [xu_row (by decide), hJu', torn1, if_neg (fun e => absurd (e.symm.trans bq143) (by decide)), ht1]; exact bq143.symm
                            rw [ht2] at hr1
                            exact ih (k + 1) (by omega) _ _ _ _ (by rw [hr1]; exact lA_g (lA_u (lA_w hJ hrn) hrn) (by decide)) (fun c q1 q2 q3 => by rw [xu_row q1, xu_row q3, xu_row q2]; exact hF c q1 q2 q3)
                          · skip
                            exact absurd (show (0 : Int32) = 0 from rfl) bq188
                        · skip
                          exact absurd (show (0 : Int32) = 0 from rfl) bq171
                      · skip
                        refine r_iconst (pc := 158) (v := 1) hC dL_crank_158 (by decide) ?_
                        refine r_goto (pc := 159) (tgt := 163) hC dL_crank_159 (by decide) ?_
                        refine r_istore (pc := 163) (L' := [_, _, _, _, _, _, _, _, _, _, _]) hC dL_crank_163 rfl (Nat.le_of_ble_eq_true rfl) rfl ?_
                        refine r_aload_n (pc := 165) hC dL_crank_165 rfl ?_
                        refine r_aload_n (pc := 166) hC dL_crank_166 rfl ?_
                        refine r_iconst (pc := 167) (v := 1) hC dL_crank_167 (by decide) ?_
                        refine r_iald (pc := 168) hC kg (xi_l (k := 1) ng (by decide) (by decide) (by decide)) dL_crank_168 ?_
                        rw [xu_row (a := 257) (b := 255) (by decide), hJ1]
                        refine r_iload (pc := 169) hC dL_crank_169 rfl ?_
                        refine r_if_eq (pc := 171) (tgt := 178) hC dL_crank_171 (by decide) (fun bq171 => ?_) (fun bq171 => ?_)
                        · skip
                          exact absurd bq171 (by decide)
                        · skip
                          refine r_iconst (pc := 174) (v := 1) hC dL_crank_174 (by decide) ?_
                          refine r_goto (pc := 175) (tgt := 183) hC dL_crank_175 (by decide) ?_
                          refine r_iast (pc := 183) hC ku (xi_n (k := (rowAt a (cUp r) k)) (by rw [nu]; omega) (by rw [nu]; decide)) dL_crank_183 ?_
                          refine r_iload (pc := 184) hC dL_crank_184 rfl ?_
                          refine r_iload (pc := 186) hC dL_crank_186 rfl ?_
                          refine r_if_eq (pc := 188) (tgt := 195) hC dL_crank_188 (by decide) (fun bq188 => ?_) (fun bq188 => ?_)
                          · skip
                            exact absurd bq188 (by decide)
                          · skip
                            refine r_iconst (pc := 191) (v := 1) hC dL_crank_191 (by decide) ?_
                            refine r_goto (pc := 192) (tgt := 196) hC dL_crank_192 (by decide) ?_
                            refine r_iadd (pc := 196) hC dL_crank_196 ?_
                            refine r_istore (pc := 197) (L' := [_, _, _, _, _, _, _, _, _, _, _]) hC dL_crank_197 rfl (Nat.le_of_ble_eq_true rfl) rfl ?_
                            refine r_aload_n (pc := 199) hC dL_crank_199 rfl ?_
                            refine r_iconst (pc := 200) (v := 1) hC dL_crank_200 (by decide) ?_
                            refine r_iload (pc := 201) hC dL_crank_201 rfl ?_
                            refine r_iast (pc := 203) hC kg (xi_l (k := 1) ng (by decide) (by decide) (by decide)) dL_crank_203 ?_
                            refine r_iinc (pc := 204) (v := 1) (L' := [_, _, _, _, _, _, _, _, _, _, _]) hC dL_crank_204 rfl (by decide) rfl rfl ?_
                            refine r_goto (pc := 207) (tgt := 17) hC dL_crank_207 (by decide) ?_
                            obtain ⟨x1, x2, x3⟩ := xby_next he hdir hrn
                            rw [x1, nI_1]
                            have hr1 : crS S a (cUp r) v (k + 1) = upd (lvS (crS S a (cUp r) v k) (rowAt a (cUp r) k) v k) 1 (nI (rowAt a (cUp r) (k + 1))) := rfl
                            have hc1 : crT S a (cUp r) v (k + 1) = (crT S a (cUp r) v k) + (if v = 3 ∧ k % 2 = 1 then 0 else tear1 (crS S a (cUp r) v k) (rowAt a (cUp r) k) v) := rfl
                            have hsk : ¬ (v = 3 ∧ k % 2 = 1) := cr_ns1 bq125
                            have ht1 : tear1 (crS S a (cUp r) v k) (rowAt a (cUp r) k) v = 1 := by rw [tear1, wear1, if_neg (fun e => absurd (e.symm.trans bq143) (by decide)), if_neg bq155]
                            rw [lvS, if_neg hsk, show wear1 (crS S a (cUp r) v k) (rowAt a (cUp r) k) v = ((crS S a (cUp r) v k) (12 + 17 * (rowAt a (cUp r) k)) + v) from rfl] at hr1
                            rw [if_neg hsk, ht1] at hc1
                            rw [← hc1]
                            have ht2 : torn1 (crS S a (cUp r) v k) (rowAt a (cUp r) k) v = 1 := by rw [torn1, if_neg (fun e => absurd (e.symm.trans bq143) (by decide)), ht1]
                            rw [ht2] at hr1
                            exact ih (k + 1) (by omega) _ _ _ _ (by rw [hr1]; exact lA_g (lA_u (lA_w hJ hrn) hrn) (by decide)) (fun c q1 q2 q3 => by rw [xu_row q1, xu_row q3, xu_row q2]; exact hF c q1 q2 q3)
              · skip
                exact absurd (show (0 : Int32) ≤ 0 by decide) bq78
            · skip
              refine r_aload_n (pc := 60) hC dL_crank_60 rfl ?_
              refine r_aload_n (pc := 61) hC dL_crank_61 rfl ?_
              refine r_iconst (pc := 62) (v := 1) hC dL_crank_62 (by decide) ?_
              refine r_iald (pc := 63) hC kg (xi_l (k := 1) ng (by decide) (by decide) (by decide)) dL_crank_63 ?_
              rw [hJ1]
              refine r_iald (pc := 64) hC ku (xi_n (k := (rowAt a (cUp r) k)) (by rw [nu]; omega) (by rw [nu]; decide)) dL_crank_64 ?_
              refine r_iconst (pc := 65) (v := 1) hC dL_crank_65 (by decide) ?_
              rw [hJu]
              refine r_icmp_ne (pc := 66) (tgt := 73) hC dL_crank_66 (by decide) (fun bq66 => ?_) (fun bq66 => ?_)
              · skip
                refine r_iconst (pc := 73) (v := 0) hC dL_crank_73 (by decide) ?_
                refine r_istore (pc := 74) (L' := [_, _, _, _, _, _, _, _, _, _, _]) hC dL_crank_74 rfl (Nat.le_of_ble_eq_true rfl) rfl ?_
                refine r_iload (pc := 76) hC dL_crank_76 rfl ?_
                refine r_if_le (pc := 78) (tgt := 115) hC dL_crank_78 (by decide) (fun bq78 => ?_) (fun bq78 => ?_)
                · skip
                  have he : isEndS n (cUp r) (rowAt a (cUp r) k) = false := cr_in hend bq40 bq48
                  refine r_iload (pc := 115) hC dL_crank_115 rfl ?_
                  refine r_iconst (pc := 117) (v := 3) hC dL_crank_117 (by decide) ?_
                  refine r_icmp_lt (pc := 118) (tgt := 128) hC dL_crank_118 (by decide) (fun bq118 => ?_) (fun bq118 => ?_)
                  · skip
                    refine r_aload_n (pc := 128) hC dL_crank_128 rfl ?_
                    refine r_aload_n (pc := 129) hC dL_crank_129 rfl ?_
                    refine r_iconst (pc := 130) (v := 1) hC dL_crank_130 (by decide) ?_
                    refine r_iald (pc := 131) hC kg (xi_l (k := 1) ng (by decide) (by decide) (by decide)) dL_crank_131 ?_
                    rw [hJ1]
                    refine r_dup2 (pc := 132) hC dL_crank_132 rfl rfl ?_
                    refine r_iald (pc := 133) hC kw (xi_n (k := (rowAt a (cUp r) k)) (by rw [nw]; omega) (by rw [nw]; decide)) dL_crank_133 ?_
                    rw [hJw]
                    refine r_iload (pc := 134) hC dL_crank_134 rfl ?_
                    refine r_iadd (pc := 136) hC dL_crank_136 ?_
                    refine r_iast (pc := 137) hC kw (xi_n (k := (rowAt a (cUp r) k)) (by rw [nw]; omega) (by rw [nw]; decide)) dL_crank_137 ?_
                    refine r_aload_n (pc := 138) hC dL_crank_138 rfl ?_
                    refine r_aload_n (pc := 139) hC dL_crank_139 rfl ?_
                    refine r_iconst (pc := 140) (v := 1) hC dL_crank_140 (by decide) ?_
                    refine r_iald (pc := 141) hC kg (xi_l (k := 1) ng (by decide) (by decide) (by decide)) dL_crank_141 ?_
                    rw [xu_row (a := 257) (b := 255) (by decide), hJ1]
                    refine r_iald (pc := 142) hC ku (xi_n (k := (rowAt a (cUp r) k)) (by rw [nu]; omega) (by rw [nu]; decide)) dL_crank_142 ?_
                    rw [xu_row (a := 257) (b := 258) (by decide), hJu']
                    refine r_if_ne (pc := 143) (tgt := 162) hC dL_crank_143 (by decide) (fun bq143 => ?_) (fun bq143 => ?_)
                    · skip
                      refine r_iconst (pc := 162) (v := 0) hC dL_crank_162 (by decide) ?_
                      refine r_istore (pc := 163) (L' := [_, _, _, _, _, _, _, _, _, _, _]) hC dL_crank_163 rfl (Nat.le_of_ble_eq_true rfl) rfl ?_
                      refine r_aload_n (pc := 165) hC dL_crank_165 rfl ?_
                      refine r_aload_n (pc := 166) hC dL_crank_166 rfl ?_
                      refine r_iconst (pc := 167) (v := 1) hC dL_crank_167 (by decide) ?_
                      refine r_iald (pc := 168) hC kg (xi_l (k := 1) ng (by decide) (by decide) (by decide)) dL_crank_168 ?_
                      rw [xu_row (a := 257) (b := 255) (by decide), hJ1]
                      refine r_iload (pc := 169) hC dL_crank_169 rfl ?_
                      refine r_if_eq (pc := 171) (tgt := 178) hC dL_crank_171 (by decide) (fun bq171 => ?_) (fun bq171 => ?_)
                      · skip
                        refine r_aload_n (pc := 178) hC dL_crank_178 rfl ?_
                        refine r_aload_n (pc := 179) hC dL_crank_179 rfl ?_
                        refine r_iconst (pc := 180) (v := 1) hC dL_crank_180 (by decide) ?_
                        refine r_iald (pc := 181) hC kg (xi_l (k := 1) ng (by decide) (by decide) (by decide)) dL_crank_181 ?_
                        rw [xu_row (a := 257) (b := 255) (by decide), hJ1]
                        refine r_iald (pc := 182) hC ku (xi_n (k := (rowAt a (cUp r) k)) (by rw [nu]; omega) (by rw [nu]; decide)) dL_crank_182 ?_
                        refine r_iast (pc := 183) hC ku (xi_n (k := (rowAt a (cUp r) k)) (by rw [nu]; omega) (by rw [nu]; decide)) dL_crank_183 ?_
                        refine r_iload (pc := 184) hC dL_crank_184 rfl ?_
                        refine r_iload (pc := 186) hC dL_crank_186 rfl ?_
                        refine r_if_eq (pc := 188) (tgt := 195) hC dL_crank_188 (by decide) (fun bq188 => ?_) (fun bq188 => ?_)
                        · skip
                          refine r_iconst (pc := 195) (v := 0) hC dL_crank_195 (by decide) ?_
                          refine r_iadd (pc := 196) hC dL_crank_196 ?_
                          refine r_istore (pc := 197) (L' := [_, _, _, _, _, _, _, _, _, _, _]) hC dL_crank_197 rfl (Nat.le_of_ble_eq_true rfl) rfl ?_
                          refine r_aload_n (pc := 199) hC dL_crank_199 rfl ?_
                          refine r_iconst (pc := 200) (v := 1) hC dL_crank_200 (by decide) ?_
                          refine r_iload (pc := 201) hC dL_crank_201 rfl ?_
                          refine r_iast (pc := 203) hC kg (xi_l (k := 1) ng (by decide) (by decide) (by decide)) dL_crank_203 ?_
                          refine r_iinc (pc := 204) (v := 1) (L' := [_, _, _, _, _, _, _, _, _, _, _]) hC dL_crank_204 rfl (by decide) rfl rfl ?_
                          refine r_goto (pc := 207) (tgt := 17) hC dL_crank_207 (by decide) ?_
                          obtain ⟨x1, x2, x3⟩ := xby_next he hdir hrn
                          rw [x1, nI_1]
                          have hr1 : crS S a (cUp r) v (k + 1) = upd (lvS (crS S a (cUp r) v k) (rowAt a (cUp r) k) v k) 1 (nI (rowAt a (cUp r) (k + 1))) := rfl
                          have hc1 : crT S a (cUp r) v (k + 1) = (crT S a (cUp r) v k) + (if v = 3 ∧ k % 2 = 1 then 0 else tear1 (crS S a (cUp r) v k) (rowAt a (cUp r) k) v) := rfl
                          have hsk : ¬ (v = 3 ∧ k % 2 = 1) := cr_ns0 bq118
                          have ht1 : tear1 (crS S a (cUp r) v k) (rowAt a (cUp r) k) v = 0 := by rw [tear1, if_pos (u01 hT bq143)]
                          rw [lvS, if_neg hsk, show wear1 (crS S a (cUp r) v k) (rowAt a (cUp r) k) v = ((crS S a (cUp r) v k) (12 + 17 * (rowAt a (cUp r) k)) + v) from rfl] at hr1
                          rw [if_neg hsk, ht1] at hc1
                          rw [← hc1]
                          have ht2 : torn1 (crS S a (cUp r) v k) (rowAt a (cUp r) k) v = ((xu J 257 (rowAt a (cUp r) k) ((crS S a (cUp r) v k) (12 + 17 * (rowAt a (cUp r) k)) + v)) 258 (rowAt a (cUp r) k)) := by rw [xu_row (by decide), hJu', torn1, if_pos (u01 hT bq143)]; exact (u01 hT bq143).symm
                          rw [ht2] at hr1
                          exact ih (k + 1) (by omega) _ _ _ _ (by rw [hr1]; exact lA_g (lA_u (lA_w hJ hrn) hrn) (by decide)) (fun c q1 q2 q3 => by rw [xu_row q1, xu_row q3, xu_row q2]; exact hF c q1 q2 q3)
                        · skip
                          exact absurd (show (0 : Int32) = 0 from rfl) bq188
                      · skip
                        exact absurd (show (0 : Int32) = 0 from rfl) bq171
                    · skip
                      refine r_aload_n (pc := 146) hC dL_crank_146 rfl ?_
                      refine r_aload_n (pc := 147) hC dL_crank_147 rfl ?_
                      refine r_iconst (pc := 148) (v := 1) hC dL_crank_148 (by decide) ?_
                      refine r_iald (pc := 149) hC kg (xi_l (k := 1) ng (by decide) (by decide) (by decide)) dL_crank_149 ?_
                      rw [xu_row (a := 257) (b := 255) (by decide), hJ1]
                      refine r_iald (pc := 150) hC kw (xi_n (k := (rowAt a (cUp r) k)) (by rw [nw]; omega) (by rw [nw]; decide)) dL_crank_150 ?_
                      rw [xu_at]
                      refine r_aload_n (pc := 151) hC dL_crank_151 rfl ?_
                      refine r_bipush (pc := 152) (v := 9) hC dL_crank_152 (by decide) ?_
                      refine r_iald (pc := 154) hC kg (xi_l (k := 9) ng (by decide) (by decide) (by decide)) dL_crank_154 ?_
                      rw [xu_row (a := 257) (b := 255) (by decide), hJ9]
                      refine r_icmp_le (pc := 155) (tgt := 162) hC dL_crank_155 (by decide) (fun bq155 => ?_) (fun bq155 => ?_)
                      · skip
                        refine r_iconst (pc := 162) (v := 0) hC dL_crank_162 (by decide) ?_
                        refine r_istore (pc := 163) (L' := [_, _, _, _, _, _, _, _, _, _, _]) hC dL_crank_163 rfl (Nat.le_of_ble_eq_true rfl) rfl ?_
                        refine r_aload_n (pc := 165) hC dL_crank_165 rfl ?_
                        refine r_aload_n (pc := 166) hC dL_crank_166 rfl ?_
                        refine r_iconst (pc := 167) (v := 1) hC dL_crank_167 (by decide) ?_
                        refine r_iald (pc := 168) hC kg (xi_l (k := 1) ng (by decide) (by decide) (by decide)) dL_crank_168 ?_
                        rw [xu_row (a := 257) (b := 255) (by decide), hJ1]
                        refine r_iload (pc := 169) hC dL_crank_169 rfl ?_
                        refine r_if_eq (pc := 171) (tgt := 178) hC dL_crank_171 (by decide) (fun bq171 => ?_) (fun bq171 => ?_)
                        · skip
                          refine r_aload_n (pc := 178) hC dL_crank_178 rfl ?_
                          refine r_aload_n (pc := 179) hC dL_crank_179 rfl ?_
                          refine r_iconst (pc := 180) (v := 1) hC dL_crank_180 (by decide) ?_
                          refine r_iald (pc := 181) hC kg (xi_l (k := 1) ng (by decide) (by decide) (by decide)) dL_crank_181 ?_
                          rw [xu_row (a := 257) (b := 255) (by decide), hJ1]
                          refine r_iald (pc := 182) hC ku (xi_n (k := (rowAt a (cUp r) k)) (by rw [nu]; omega) (by rw [nu]; decide)) dL_crank_182 ?_
                          refine r_iast (pc := 183) hC ku (xi_n (k := (rowAt a (cUp r) k)) (by rw [nu]; omega) (by rw [nu]; decide)) dL_crank_183 ?_
                          refine r_iload (pc := 184) hC dL_crank_184 rfl ?_
                          refine r_iload (pc := 186) hC dL_crank_186 rfl ?_
                          refine r_if_eq (pc := 188) (tgt := 195) hC dL_crank_188 (by decide) (fun bq188 => ?_) (fun bq188 => ?_)
                          · skip
                            refine r_iconst (pc := 195) (v := 0) hC dL_crank_195 (by decide) ?_
                            refine r_iadd (pc := 196) hC dL_crank_196 ?_
                            refine r_istore (pc := 197) (L' := [_, _, _, _, _, _, _, _, _, _, _]) hC dL_crank_197 rfl (Nat.le_of_ble_eq_true rfl) rfl ?_
                            refine r_aload_n (pc := 199) hC dL_crank_199 rfl ?_
                            refine r_iconst (pc := 200) (v := 1) hC dL_crank_200 (by decide) ?_
                            refine r_iload (pc := 201) hC dL_crank_201 rfl ?_
                            refine r_iast (pc := 203) hC kg (xi_l (k := 1) ng (by decide) (by decide) (by decide)) dL_crank_203 ?_
                            refine r_iinc (pc := 204) (v := 1) (L' := [_, _, _, _, _, _, _, _, _, _, _]) hC dL_crank_204 rfl (by decide) rfl rfl ?_
                            refine r_goto (pc := 207) (tgt := 17) hC dL_crank_207 (by decide) ?_
                            obtain ⟨x1, x2, x3⟩ := xby_next he hdir hrn
                            rw [x1, nI_1]
                            have hr1 : crS S a (cUp r) v (k + 1) = upd (lvS (crS S a (cUp r) v k) (rowAt a (cUp r) k) v k) 1 (nI (rowAt a (cUp r) (k + 1))) := rfl
                            have hc1 : crT S a (cUp r) v (k + 1) = (crT S a (cUp r) v k) + (if v = 3 ∧ k % 2 = 1 then 0 else tear1 (crS S a (cUp r) v k) (rowAt a (cUp r) k) v) := rfl
                            have hsk : ¬ (v = 3 ∧ k % 2 = 1) := cr_ns0 bq118
                            have ht1 : tear1 (crS S a (cUp r) v k) (rowAt a (cUp r) k) v = 0 := by rw [tear1, wear1, if_neg (fun e => absurd (e.symm.trans bq143) (by decide)), if_pos bq155]
                            rw [lvS, if_neg hsk, show wear1 (crS S a (cUp r) v k) (rowAt a (cUp r) k) v = ((crS S a (cUp r) v k) (12 + 17 * (rowAt a (cUp r) k)) + v) from rfl] at hr1
                            rw [if_neg hsk, ht1] at hc1
                            rw [← hc1]
                            have ht2 : torn1 (crS S a (cUp r) v k) (rowAt a (cUp r) k) v = ((xu J 257 (rowAt a (cUp r) k) ((crS S a (cUp r) v k) (12 + 17 * (rowAt a (cUp r) k)) + v)) 258 (rowAt a (cUp r) k)) := by rw [xu_row (by decide), hJu', torn1, if_neg (fun e => absurd (e.symm.trans bq143) (by decide)), ht1]; exact bq143.symm
                            rw [ht2] at hr1
                            exact ih (k + 1) (by omega) _ _ _ _ (by rw [hr1]; exact lA_g (lA_u (lA_w hJ hrn) hrn) (by decide)) (fun c q1 q2 q3 => by rw [xu_row q1, xu_row q3, xu_row q2]; exact hF c q1 q2 q3)
                          · skip
                            exact absurd (show (0 : Int32) = 0 from rfl) bq188
                        · skip
                          exact absurd (show (0 : Int32) = 0 from rfl) bq171
                      · skip
                        refine r_iconst (pc := 158) (v := 1) hC dL_crank_158 (by decide) ?_
                        refine r_goto (pc := 159) (tgt := 163) hC dL_crank_159 (by decide) ?_
                        refine r_istore (pc := 163) (L' := [_, _, _, _, _, _, _, _, _, _, _]) hC dL_crank_163 rfl (Nat.le_of_ble_eq_true rfl) rfl ?_
                        refine r_aload_n (pc := 165) hC dL_crank_165 rfl ?_
                        refine r_aload_n (pc := 166) hC dL_crank_166 rfl ?_
                        refine r_iconst (pc := 167) (v := 1) hC dL_crank_167 (by decide) ?_
                        refine r_iald (pc := 168) hC kg (xi_l (k := 1) ng (by decide) (by decide) (by decide)) dL_crank_168 ?_
                        rw [xu_row (a := 257) (b := 255) (by decide), hJ1]
                        refine r_iload (pc := 169) hC dL_crank_169 rfl ?_
                        refine r_if_eq (pc := 171) (tgt := 178) hC dL_crank_171 (by decide) (fun bq171 => ?_) (fun bq171 => ?_)
                        · skip
                          exact absurd bq171 (by decide)
                        · skip
                          refine r_iconst (pc := 174) (v := 1) hC dL_crank_174 (by decide) ?_
                          refine r_goto (pc := 175) (tgt := 183) hC dL_crank_175 (by decide) ?_
                          refine r_iast (pc := 183) hC ku (xi_n (k := (rowAt a (cUp r) k)) (by rw [nu]; omega) (by rw [nu]; decide)) dL_crank_183 ?_
                          refine r_iload (pc := 184) hC dL_crank_184 rfl ?_
                          refine r_iload (pc := 186) hC dL_crank_186 rfl ?_
                          refine r_if_eq (pc := 188) (tgt := 195) hC dL_crank_188 (by decide) (fun bq188 => ?_) (fun bq188 => ?_)
                          · skip
                            exact absurd bq188 (by decide)
                          · skip
                            refine r_iconst (pc := 191) (v := 1) hC dL_crank_191 (by decide) ?_
                            refine r_goto (pc := 192) (tgt := 196) hC dL_crank_192 (by decide) ?_
                            refine r_iadd (pc := 196) hC dL_crank_196 ?_
                            refine r_istore (pc := 197) (L' := [_, _, _, _, _, _, _, _, _, _, _]) hC dL_crank_197 rfl (Nat.le_of_ble_eq_true rfl) rfl ?_
                            refine r_aload_n (pc := 199) hC dL_crank_199 rfl ?_
                            refine r_iconst (pc := 200) (v := 1) hC dL_crank_200 (by decide) ?_
                            refine r_iload (pc := 201) hC dL_crank_201 rfl ?_
                            refine r_iast (pc := 203) hC kg (xi_l (k := 1) ng (by decide) (by decide) (by decide)) dL_crank_203 ?_
                            refine r_iinc (pc := 204) (v := 1) (L' := [_, _, _, _, _, _, _, _, _, _, _]) hC dL_crank_204 rfl (by decide) rfl rfl ?_
                            refine r_goto (pc := 207) (tgt := 17) hC dL_crank_207 (by decide) ?_
                            obtain ⟨x1, x2, x3⟩ := xby_next he hdir hrn
                            rw [x1, nI_1]
                            have hr1 : crS S a (cUp r) v (k + 1) = upd (lvS (crS S a (cUp r) v k) (rowAt a (cUp r) k) v k) 1 (nI (rowAt a (cUp r) (k + 1))) := rfl
                            have hc1 : crT S a (cUp r) v (k + 1) = (crT S a (cUp r) v k) + (if v = 3 ∧ k % 2 = 1 then 0 else tear1 (crS S a (cUp r) v k) (rowAt a (cUp r) k) v) := rfl
                            have hsk : ¬ (v = 3 ∧ k % 2 = 1) := cr_ns0 bq118
                            have ht1 : tear1 (crS S a (cUp r) v k) (rowAt a (cUp r) k) v = 1 := by rw [tear1, wear1, if_neg (fun e => absurd (e.symm.trans bq143) (by decide)), if_neg bq155]
                            rw [lvS, if_neg hsk, show wear1 (crS S a (cUp r) v k) (rowAt a (cUp r) k) v = ((crS S a (cUp r) v k) (12 + 17 * (rowAt a (cUp r) k)) + v) from rfl] at hr1
                            rw [if_neg hsk, ht1] at hc1
                            rw [← hc1]
                            have ht2 : torn1 (crS S a (cUp r) v k) (rowAt a (cUp r) k) v = 1 := by rw [torn1, if_neg (fun e => absurd (e.symm.trans bq143) (by decide)), ht1]
                            rw [ht2] at hr1
                            exact ih (k + 1) (by omega) _ _ _ _ (by rw [hr1]; exact lA_g (lA_u (lA_w hJ hrn) hrn) (by decide)) (fun c q1 q2 q3 => by rw [xu_row q1, xu_row q3, xu_row q2]; exact hF c q1 q2 q3)
                  · skip
                    refine r_iload (pc := 121) hC dL_crank_121 rfl ?_
                    refine r_iconst (pc := 123) (v := 2) hC dL_crank_123 (by decide) ?_
                    refine r_irem (pc := 124) hC dL_crank_124 (by decide) ?_
                    rw [show nI k - nI k / 2 * 2 = nI (k % 2) from pk_rem (d := 2) (by omega) (by decide) (by decide)]
                    refine r_if_ne (pc := 125) (tgt := 199) hC dL_crank_125 (by decide) (fun bq125 => ?_) (fun bq125 => ?_)
                    · skip
                      refine r_aload_n (pc := 199) hC dL_crank_199 rfl ?_
                      refine r_iconst (pc := 200) (v := 1) hC dL_crank_200 (by decide) ?_
                      refine r_iload (pc := 201) hC dL_crank_201 rfl ?_
                      refine r_iast (pc := 203) hC kg (xi_l (k := 1) ng (by decide) (by decide) (by decide)) dL_crank_203 ?_
                      refine r_iinc (pc := 204) (v := 1) (L' := [_, _, _, _, _, _, _, _, _, _, _]) hC dL_crank_204 rfl (by decide) rfl rfl ?_
                      refine r_goto (pc := 207) (tgt := 17) hC dL_crank_207 (by decide) ?_
                      obtain ⟨x1, x2, x3⟩ := xby_next he hdir hrn
                      rw [x1, nI_1]
                      have hr1 : crS S a (cUp r) v (k + 1) = upd (lvS (crS S a (cUp r) v k) (rowAt a (cUp r) k) v k) 1 (nI (rowAt a (cUp r) (k + 1))) := rfl
                      have hc1 : crT S a (cUp r) v (k + 1) = (crT S a (cUp r) v k) + (if v = 3 ∧ k % 2 = 1 then 0 else tear1 (crS S a (cUp r) v k) (rowAt a (cUp r) k) v) := rfl
                      have hsk : v = 3 ∧ k % 2 = 1 := ⟨cr_v3 c3 bq118, cr_odd bq125⟩
                      rw [lvS, if_pos hsk] at hr1
                      rw [if_pos hsk, Int32.add_zero] at hc1
                      rw [← hc1]
                      exact ih (k + 1) (by omega) _ _ _ _ (by rw [hr1]; exact lA_g hJ (by decide)) (fun c q1 q2 q3 => by rw [xu_row q1]; exact hF c q1 q2 q3)
                    · skip
                      refine r_aload_n (pc := 128) hC dL_crank_128 rfl ?_
                      refine r_aload_n (pc := 129) hC dL_crank_129 rfl ?_
                      refine r_iconst (pc := 130) (v := 1) hC dL_crank_130 (by decide) ?_
                      refine r_iald (pc := 131) hC kg (xi_l (k := 1) ng (by decide) (by decide) (by decide)) dL_crank_131 ?_
                      rw [hJ1]
                      refine r_dup2 (pc := 132) hC dL_crank_132 rfl rfl ?_
                      refine r_iald (pc := 133) hC kw (xi_n (k := (rowAt a (cUp r) k)) (by rw [nw]; omega) (by rw [nw]; decide)) dL_crank_133 ?_
                      rw [hJw]
                      refine r_iload (pc := 134) hC dL_crank_134 rfl ?_
                      refine r_iadd (pc := 136) hC dL_crank_136 ?_
                      refine r_iast (pc := 137) hC kw (xi_n (k := (rowAt a (cUp r) k)) (by rw [nw]; omega) (by rw [nw]; decide)) dL_crank_137 ?_
                      refine r_aload_n (pc := 138) hC dL_crank_138 rfl ?_
                      refine r_aload_n (pc := 139) hC dL_crank_139 rfl ?_
                      refine r_iconst (pc := 140) (v := 1) hC dL_crank_140 (by decide) ?_
                      refine r_iald (pc := 141) hC kg (xi_l (k := 1) ng (by decide) (by decide) (by decide)) dL_crank_141 ?_
                      rw [xu_row (a := 257) (b := 255) (by decide), hJ1]
                      refine r_iald (pc := 142) hC ku (xi_n (k := (rowAt a (cUp r) k)) (by rw [nu]; omega) (by rw [nu]; decide)) dL_crank_142 ?_
                      rw [xu_row (a := 257) (b := 258) (by decide), hJu']
                      refine r_if_ne (pc := 143) (tgt := 162) hC dL_crank_143 (by decide) (fun bq143 => ?_) (fun bq143 => ?_)
                      · skip
                        refine r_iconst (pc := 162) (v := 0) hC dL_crank_162 (by decide) ?_
                        refine r_istore (pc := 163) (L' := [_, _, _, _, _, _, _, _, _, _, _]) hC dL_crank_163 rfl (Nat.le_of_ble_eq_true rfl) rfl ?_
                        refine r_aload_n (pc := 165) hC dL_crank_165 rfl ?_
                        refine r_aload_n (pc := 166) hC dL_crank_166 rfl ?_
                        refine r_iconst (pc := 167) (v := 1) hC dL_crank_167 (by decide) ?_
                        refine r_iald (pc := 168) hC kg (xi_l (k := 1) ng (by decide) (by decide) (by decide)) dL_crank_168 ?_
                        rw [xu_row (a := 257) (b := 255) (by decide), hJ1]
                        refine r_iload (pc := 169) hC dL_crank_169 rfl ?_
                        refine r_if_eq (pc := 171) (tgt := 178) hC dL_crank_171 (by decide) (fun bq171 => ?_) (fun bq171 => ?_)
                        · skip
                          refine r_aload_n (pc := 178) hC dL_crank_178 rfl ?_
                          refine r_aload_n (pc := 179) hC dL_crank_179 rfl ?_
                          refine r_iconst (pc := 180) (v := 1) hC dL_crank_180 (by decide) ?_
                          refine r_iald (pc := 181) hC kg (xi_l (k := 1) ng (by decide) (by decide) (by decide)) dL_crank_181 ?_
                          rw [xu_row (a := 257) (b := 255) (by decide), hJ1]
                          refine r_iald (pc := 182) hC ku (xi_n (k := (rowAt a (cUp r) k)) (by rw [nu]; omega) (by rw [nu]; decide)) dL_crank_182 ?_
                          refine r_iast (pc := 183) hC ku (xi_n (k := (rowAt a (cUp r) k)) (by rw [nu]; omega) (by rw [nu]; decide)) dL_crank_183 ?_
                          refine r_iload (pc := 184) hC dL_crank_184 rfl ?_
                          refine r_iload (pc := 186) hC dL_crank_186 rfl ?_
                          refine r_if_eq (pc := 188) (tgt := 195) hC dL_crank_188 (by decide) (fun bq188 => ?_) (fun bq188 => ?_)
                          · skip
                            refine r_iconst (pc := 195) (v := 0) hC dL_crank_195 (by decide) ?_
                            refine r_iadd (pc := 196) hC dL_crank_196 ?_
                            refine r_istore (pc := 197) (L' := [_, _, _, _, _, _, _, _, _, _, _]) hC dL_crank_197 rfl (Nat.le_of_ble_eq_true rfl) rfl ?_
                            refine r_aload_n (pc := 199) hC dL_crank_199 rfl ?_
                            refine r_iconst (pc := 200) (v := 1) hC dL_crank_200 (by decide) ?_
                            refine r_iload (pc := 201) hC dL_crank_201 rfl ?_
                            refine r_iast (pc := 203) hC kg (xi_l (k := 1) ng (by decide) (by decide) (by decide)) dL_crank_203 ?_
                            refine r_iinc (pc := 204) (v := 1) (L' := [_, _, _, _, _, _, _, _, _, _, _]) hC dL_crank_204 rfl (by decide) rfl rfl ?_
                            refine r_goto (pc := 207) (tgt := 17) hC dL_crank_207 (by decide) ?_
                            obtain ⟨x1, x2, x3⟩ := xby_next he hdir hrn
                            rw [x1, nI_1]
                            have hr1 : crS S a (cUp r) v (k + 1) = upd (lvS (crS S a (cUp r) v k) (rowAt a (cUp r) k) v k) 1 (nI (rowAt a (cUp r) (k + 1))) := rfl
                            have hc1 : crT S a (cUp r) v (k + 1) = (crT S a (cUp r) v k) + (if v = 3 ∧ k % 2 = 1 then 0 else tear1 (crS S a (cUp r) v k) (rowAt a (cUp r) k) v) := rfl
                            have hsk : ¬ (v = 3 ∧ k % 2 = 1) := cr_ns1 bq125
                            have ht1 : tear1 (crS S a (cUp r) v k) (rowAt a (cUp r) k) v = 0 := by rw [tear1, if_pos (u01 hT bq143)]
                            rw [lvS, if_neg hsk, show wear1 (crS S a (cUp r) v k) (rowAt a (cUp r) k) v = ((crS S a (cUp r) v k) (12 + 17 * (rowAt a (cUp r) k)) + v) from rfl] at hr1
                            rw [if_neg hsk, ht1] at hc1
                            rw [← hc1]
                            have ht2 : torn1 (crS S a (cUp r) v k) (rowAt a (cUp r) k) v = ((xu J 257 (rowAt a (cUp r) k) ((crS S a (cUp r) v k) (12 + 17 * (rowAt a (cUp r) k)) + v)) 258 (rowAt a (cUp r) k)) := by rw [xu_row (by decide), hJu', torn1, if_pos (u01 hT bq143)]; exact (u01 hT bq143).symm
                            rw [ht2] at hr1
                            exact ih (k + 1) (by omega) _ _ _ _ (by rw [hr1]; exact lA_g (lA_u (lA_w hJ hrn) hrn) (by decide)) (fun c q1 q2 q3 => by rw [xu_row q1, xu_row q3, xu_row q2]; exact hF c q1 q2 q3)
                          · skip
                            exact absurd (show (0 : Int32) = 0 from rfl) bq188
                        · skip
                          exact absurd (show (0 : Int32) = 0 from rfl) bq171
                      · skip
                        refine r_aload_n (pc := 146) hC dL_crank_146 rfl ?_
                        refine r_aload_n (pc := 147) hC dL_crank_147 rfl ?_
                        refine r_iconst (pc := 148) (v := 1) hC dL_crank_148 (by decide) ?_
                        refine r_iald (pc := 149) hC kg (xi_l (k := 1) ng (by decide) (by decide) (by decide)) dL_crank_149 ?_
                        rw [xu_row (a := 257) (b := 255) (by decide), hJ1]
                        refine r_iald (pc := 150) hC kw (xi_n (k := (rowAt a (cUp r) k)) (by rw [nw]; omega) (by rw [nw]; decide)) dL_crank_150 ?_
                        rw [xu_at]
                        refine r_aload_n (pc := 151) hC dL_crank_151 rfl ?_
                        refine r_bipush (pc := 152) (v := 9) hC dL_crank_152 (by decide) ?_
                        refine r_iald (pc := 154) hC kg (xi_l (k := 9) ng (by decide) (by decide) (by decide)) dL_crank_154 ?_
                        rw [xu_row (a := 257) (b := 255) (by decide), hJ9]
                        refine r_icmp_le (pc := 155) (tgt := 162) hC dL_crank_155 (by decide) (fun bq155 => ?_) (fun bq155 => ?_)
                        · skip
                          refine r_iconst (pc := 162) (v := 0) hC dL_crank_162 (by decide) ?_
                          refine r_istore (pc := 163) (L' := [_, _, _, _, _, _, _, _, _, _, _]) hC dL_crank_163 rfl (Nat.le_of_ble_eq_true rfl) rfl ?_
                          refine r_aload_n (pc := 165) hC dL_crank_165 rfl ?_
                          refine r_aload_n (pc := 166) hC dL_crank_166 rfl ?_
                          refine r_iconst (pc := 167) (v := 1) hC dL_crank_167 (by decide) ?_
                          refine r_iald (pc := 168) hC kg (xi_l (k := 1) ng (by decide) (by decide) (by decide)) dL_crank_168 ?_
                          rw [xu_row (a := 257) (b := 255) (by decide), hJ1]
                          refine r_iload (pc := 169) hC dL_crank_169 rfl ?_
                          refine r_if_eq (pc := 171) (tgt := 178) hC dL_crank_171 (by decide) (fun bq171 => ?_) (fun bq171 => ?_)
                          · skip
                            refine r_aload_n (pc := 178) hC dL_crank_178 rfl ?_
                            refine r_aload_n (pc := 179) hC dL_crank_179 rfl ?_
                            refine r_iconst (pc := 180) (v := 1) hC dL_crank_180 (by decide) ?_
                            refine r_iald (pc := 181) hC kg (xi_l (k := 1) ng (by decide) (by decide) (by decide)) dL_crank_181 ?_
                            rw [xu_row (a := 257) (b := 255) (by decide), hJ1]
                            refine r_iald (pc := 182) hC ku (xi_n (k := (rowAt a (cUp r) k)) (by rw [nu]; omega) (by rw [nu]; decide)) dL_crank_182 ?_
                            refine r_iast (pc := 183) hC ku (xi_n (k := (rowAt a (cUp r) k)) (by rw [nu]; omega) (by rw [nu]; decide)) dL_crank_183 ?_
                            refine r_iload (pc := 184) hC dL_crank_184 rfl ?_
                            refine r_iload (pc := 186) hC dL_crank_186 rfl ?_
                            refine r_if_eq (pc := 188) (tgt := 195) hC dL_crank_188 (by decide) (fun bq188 => ?_) (fun bq188 => ?_)
                            · skip
                              refine r_iconst (pc := 195) (v := 0) hC dL_crank_195 (by decide) ?_
                              refine r_iadd (pc := 196) hC dL_crank_196 ?_
                              refine r_istore (pc := 197) (L' := [_, _, _, _, _, _, _, _, _, _, _]) hC dL_crank_197 rfl (Nat.le_of_ble_eq_true rfl) rfl ?_
                              refine r_aload_n (pc := 199) hC dL_crank_199 rfl ?_
                              refine r_iconst (pc := 200) (v := 1) hC dL_crank_200 (by decide) ?_
                              refine r_iload (pc := 201) hC dL_crank_201 rfl ?_
                              refine r_iast (pc := 203) hC kg (xi_l (k := 1) ng (by decide) (by decide) (by decide)) dL_crank_203 ?_
                              refine r_iinc (pc := 204) (v := 1) (L' := [_, _, _, _, _, _, _, _, _, _, _]) hC dL_crank_204 rfl (by decide) rfl rfl ?_
                              refine r_goto (pc := 207) (tgt := 17) hC dL_crank_207 (by decide) ?_
                              obtain ⟨x1, x2, x3⟩ := xby_next he hdir hrn
                              rw [x1, nI_1]
                              have hr1 : crS S a (cUp r) v (k + 1) = upd (lvS (crS S a (cUp r) v k) (rowAt a (cUp r) k) v k) 1 (nI (rowAt a (cUp r) (k + 1))) := rfl
                              have hc1 : crT S a (cUp r) v (k + 1) = (crT S a (cUp r) v k) + (if v = 3 ∧ k % 2 = 1 then 0 else tear1 (crS S a (cUp r) v k) (rowAt a (cUp r) k) v) := rfl
                              have hsk : ¬ (v = 3 ∧ k % 2 = 1) := cr_ns1 bq125
                              have ht1 : tear1 (crS S a (cUp r) v k) (rowAt a (cUp r) k) v = 0 := by rw [tear1, wear1, if_neg (fun e => absurd (e.symm.trans bq143) (by decide)), if_pos bq155]
                              rw [lvS, if_neg hsk, show wear1 (crS S a (cUp r) v k) (rowAt a (cUp r) k) v = ((crS S a (cUp r) v k) (12 + 17 * (rowAt a (cUp r) k)) + v) from rfl] at hr1
                              rw [if_neg hsk, ht1] at hc1
                              rw [← hc1]
                              have ht2 : torn1 (crS S a (cUp r) v k) (rowAt a (cUp r) k) v = ((xu J 257 (rowAt a (cUp r) k) ((crS S a (cUp r) v k) (12 + 17 * (rowAt a (cUp r) k)) + v)) 258 (rowAt a (cUp r) k)) := by rw [xu_row (by decide), hJu', torn1, if_neg (fun e => absurd (e.symm.trans bq143) (by decide)), ht1]; exact bq143.symm
                              rw [ht2] at hr1
                              exact ih (k + 1) (by omega) _ _ _ _ (by rw [hr1]; exact lA_g (lA_u (lA_w hJ hrn) hrn) (by decide)) (fun c q1 q2 q3 => by rw [xu_row q1, xu_row q3, xu_row q2]; exact hF c q1 q2 q3)
                            · skip
                              exact absurd (show (0 : Int32) = 0 from rfl) bq188
                          · skip
                            exact absurd (show (0 : Int32) = 0 from rfl) bq171
                        · skip
                          refine r_iconst (pc := 158) (v := 1) hC dL_crank_158 (by decide) ?_
                          refine r_goto (pc := 159) (tgt := 163) hC dL_crank_159 (by decide) ?_
                          refine r_istore (pc := 163) (L' := [_, _, _, _, _, _, _, _, _, _, _]) hC dL_crank_163 rfl (Nat.le_of_ble_eq_true rfl) rfl ?_
                          refine r_aload_n (pc := 165) hC dL_crank_165 rfl ?_
                          refine r_aload_n (pc := 166) hC dL_crank_166 rfl ?_
                          refine r_iconst (pc := 167) (v := 1) hC dL_crank_167 (by decide) ?_
                          refine r_iald (pc := 168) hC kg (xi_l (k := 1) ng (by decide) (by decide) (by decide)) dL_crank_168 ?_
                          rw [xu_row (a := 257) (b := 255) (by decide), hJ1]
                          refine r_iload (pc := 169) hC dL_crank_169 rfl ?_
                          refine r_if_eq (pc := 171) (tgt := 178) hC dL_crank_171 (by decide) (fun bq171 => ?_) (fun bq171 => ?_)
                          · skip
                            exact absurd bq171 (by decide)
                          · skip
                            refine r_iconst (pc := 174) (v := 1) hC dL_crank_174 (by decide) ?_
                            refine r_goto (pc := 175) (tgt := 183) hC dL_crank_175 (by decide) ?_
                            refine r_iast (pc := 183) hC ku (xi_n (k := (rowAt a (cUp r) k)) (by rw [nu]; omega) (by rw [nu]; decide)) dL_crank_183 ?_
                            refine r_iload (pc := 184) hC dL_crank_184 rfl ?_
                            refine r_iload (pc := 186) hC dL_crank_186 rfl ?_
                            refine r_if_eq (pc := 188) (tgt := 195) hC dL_crank_188 (by decide) (fun bq188 => ?_) (fun bq188 => ?_)
                            · skip
                              exact absurd bq188 (by decide)
                            · skip
                              refine r_iconst (pc := 191) (v := 1) hC dL_crank_191 (by decide) ?_
                              refine r_goto (pc := 192) (tgt := 196) hC dL_crank_192 (by decide) ?_
                              refine r_iadd (pc := 196) hC dL_crank_196 ?_
                              refine r_istore (pc := 197) (L' := [_, _, _, _, _, _, _, _, _, _, _]) hC dL_crank_197 rfl (Nat.le_of_ble_eq_true rfl) rfl ?_
                              refine r_aload_n (pc := 199) hC dL_crank_199 rfl ?_
                              refine r_iconst (pc := 200) (v := 1) hC dL_crank_200 (by decide) ?_
                              refine r_iload (pc := 201) hC dL_crank_201 rfl ?_
                              refine r_iast (pc := 203) hC kg (xi_l (k := 1) ng (by decide) (by decide) (by decide)) dL_crank_203 ?_
                              refine r_iinc (pc := 204) (v := 1) (L' := [_, _, _, _, _, _, _, _, _, _, _]) hC dL_crank_204 rfl (by decide) rfl rfl ?_
                              refine r_goto (pc := 207) (tgt := 17) hC dL_crank_207 (by decide) ?_
                              obtain ⟨x1, x2, x3⟩ := xby_next he hdir hrn
                              rw [x1, nI_1]
                              have hr1 : crS S a (cUp r) v (k + 1) = upd (lvS (crS S a (cUp r) v k) (rowAt a (cUp r) k) v k) 1 (nI (rowAt a (cUp r) (k + 1))) := rfl
                              have hc1 : crT S a (cUp r) v (k + 1) = (crT S a (cUp r) v k) + (if v = 3 ∧ k % 2 = 1 then 0 else tear1 (crS S a (cUp r) v k) (rowAt a (cUp r) k) v) := rfl
                              have hsk : ¬ (v = 3 ∧ k % 2 = 1) := cr_ns1 bq125
                              have ht1 : tear1 (crS S a (cUp r) v k) (rowAt a (cUp r) k) v = 1 := by rw [tear1, wear1, if_neg (fun e => absurd (e.symm.trans bq143) (by decide)), if_neg bq155]
                              rw [lvS, if_neg hsk, show wear1 (crS S a (cUp r) v k) (rowAt a (cUp r) k) v = ((crS S a (cUp r) v k) (12 + 17 * (rowAt a (cUp r) k)) + v) from rfl] at hr1
                              rw [if_neg hsk, ht1] at hc1
                              rw [← hc1]
                              have ht2 : torn1 (crS S a (cUp r) v k) (rowAt a (cUp r) k) v = 1 := by rw [torn1, if_neg (fun e => absurd (e.symm.trans bq143) (by decide)), ht1]
                              rw [ht2] at hr1
                              exact ih (k + 1) (by omega) _ _ _ _ (by rw [hr1]; exact lA_g (lA_u (lA_w hJ hrn) hrn) (by decide)) (fun c q1 q2 q3 => by rw [xu_row q1, xu_row q3, xu_row q2]; exact hF c q1 q2 q3)
                · skip
                  exact absurd (show (0 : Int32) ≤ 0 by decide) bq78
              · skip
                refine r_iconst (pc := 69) (v := 3) hC dL_crank_69 (by decide) ?_
                refine r_goto (pc := 70) (tgt := 74) hC dL_crank_70 (by decide) ?_
                refine r_istore (pc := 74) (L' := [_, _, _, _, _, _, _, _, _, _, _]) hC dL_crank_74 rfl (Nat.le_of_ble_eq_true rfl) rfl ?_
                refine r_iload (pc := 76) hC dL_crank_76 rfl ?_
                refine r_if_le (pc := 78) (tgt := 115) hC dL_crank_78 (by decide) (fun bq78 => ?_) (fun bq78 => ?_)
                · skip
                  exact absurd bq78 (by decide)
                · skip
                  have h0 : 0 < k := by
                    rcases Nat.eq_zero_or_pos k with w | w
                    · exact absurd (show nI k ≤ 0 by rw [w]; decide) bq57
                    · exact w
                  rw [stopS, decide_eq_true h0, decide_eq_true bq66] at hns
                  exact absurd hns (by simp)
          · skip
            refine r_iconst (pc := 51) (v := 2) hC dL_crank_51 (by decide) ?_
            refine r_goto (pc := 52) (tgt := 74) hC dL_crank_52 (by decide) ?_
            refine r_istore (pc := 74) (L' := [_, _, _, _, _, _, _, _, _, _, _]) hC dL_crank_74 rfl (Nat.le_of_ble_eq_true rfl) rfl ?_
            refine r_iload (pc := 76) hC dL_crank_76 rfl ?_
            refine r_if_le (pc := 78) (tgt := 115) hC dL_crank_78 (by decide) (fun bq78 => ?_) (fun bq78 => ?_)
            · skip
              exact absurd bq78 (by decide)
            · skip
              have he := cr_out1 hend bq48
              rw [stopS, he] at hns; exact absurd hns (by simp)
      · skip
        refine r_iconst (pc := 34) (v := 1) hC dL_crank_34 (by decide) ?_
        refine r_goto (pc := 35) (tgt := 74) hC dL_crank_35 (by decide) ?_
        refine r_istore (pc := 74) (L' := [_, _, _, _, _, _, _, _, _, _, _]) hC dL_crank_74 rfl (Nat.le_of_ble_eq_true rfl) rfl ?_
        refine r_iload (pc := 76) hC dL_crank_76 rfl ?_
        refine r_if_le (pc := 78) (tgt := 115) hC dL_crank_78 (by decide) (fun bq78 => ?_) (fun bq78 => ?_)
        · skip
          exact absurd bq78 (by decide)
        · skip
          exact absurd ((nI_eq (by omega) (by omega)).mp bq31) (by omega)
  refine r_iload_n (pc := 0) hC dL_crank_0 rfl ?_
  refine r_if_ge (pc := 1) (tgt := 8) hC dL_crank_1 (by decide) (fun bq1 => ?_) (fun bq1 => ?_)
  · skip
    refine r_iconst (pc := 8) (v := 1) hC dL_crank_8 (by decide) ?_
    refine r_istore (pc := 9) (L' := [_, _, _, _, _, _, _, _, _, _, _]) hC dL_crank_9 rfl (Nat.le_of_ble_eq_true rfl) rfl ?_
    refine r_iconst (pc := 11) (v := 0) hC dL_crank_11 (by decide) ?_
    refine r_istore (pc := 12) (L' := [_, _, _, _, _, _, _, _, _, _, _]) hC dL_crank_12 rfl (Nat.le_of_ble_eq_true rfl) rfl ?_
    refine r_iconst (pc := 14) (v := 0) hC dL_crank_14 (by decide) ?_
    refine r_istore (pc := 15) (L' := [_, _, _, _, _, _, _, _, _, _, _]) hC dL_crank_15 rfl (Nat.le_of_ble_eq_true rfl) rfl ?_
    have hu : xby (cUp r) = 1 := by
      have : cUp r = true := decide_eq_true (cr_gt bq1 c2)
      rw [this]; rfl
    have z := loop (stepsS S n a (cUp r) (cW r)) 0 (by omega) I none none none hA0 (fun _ _ _ _ => rfl)
    rw [hu] at z
    exact z
  · skip
    refine r_iconst (pc := 4) (v := -1) hC dL_crank_4 (by decide) ?_
    refine r_goto (pc := 5) (tgt := 9) hC dL_crank_5 (by decide) ?_
    refine r_istore (pc := 9) (L' := [_, _, _, _, _, _, _, _, _, _, _]) hC dL_crank_9 rfl (Nat.le_of_ble_eq_true rfl) rfl ?_
    refine r_iconst (pc := 11) (v := 0) hC dL_crank_11 (by decide) ?_
    refine r_istore (pc := 12) (L' := [_, _, _, _, _, _, _, _, _, _, _]) hC dL_crank_12 rfl (Nat.le_of_ble_eq_true rfl) rfl ?_
    refine r_iconst (pc := 14) (v := 0) hC dL_crank_14 (by decide) ?_
    refine r_istore (pc := 15) (L' := [_, _, _, _, _, _, _, _, _, _, _]) hC dL_crank_15 rfl (Nat.le_of_ble_eq_true rfl) rfl ?_
    have hu : xby (cUp r) = -1 := by
      have : cUp r = false := decide_eq_false (fun e => bq1 (Int32.le_of_lt e))
      rw [this]; rfl
    have z := loop (stepsS S n a (cUp r) (cW r)) 0 (by omega) I none none none hA0 (fun _ _ _ _ => rfl)
    rw [hu] at z
    exact z
theorem k_L_crank {X : xF} {G : xG} {cs : Nat × Nat} {μ : xM} {I : xI} {P : xP} {L : List (Option Value)} {pc : Nat} {rest : List Value} {cc : ByteArray} {Ts : List Cond} {own : String} {nL : Nat} {R : Room} (hC : xC X G cc Ts own nL R) {index : Nat} (hG : GoodIn Ts (va_wsS own index yL_crank wsL_crank)) (hR : rm_L_crank.frames + 1 ≤ R.frames ∧ 8 + (11 + 11) + rm_L_crank.locals ≤ R.locals) {n rq : Nat} {S : Nat → Int32} {r v : Int32} (hK : lK μ) (hA : lA I P S n rq) (hi : invN S n rq) (hok : okCrank S r v = true) (hW : (rest.map fun v => v.category).sum ≤ 8) (hL : L.length = nL) (hcs : cs.1 ≤ R.cells ∧ cs.2 ≤ R.slots) (hdec : decode cc pc = .ok (.invokestatic index, 3)) (kk : ∀ (I' : xI) (t : Int32), 0 ≤ t → lA I' P (sCrank S r v) n rq → (∀ c, c ≠ 255 → c ≠ 257 → c ≠ 258 → I' c = I c) → xg X G cs μ I' P L (pc + 3) (.int t :: rest)) : xg X G cs μ I P L pc (.int v :: .int r :: .ref (xZ G + 258) :: .ref (xZ G + 257) :: .ref (xZ G + 255) :: rest) :=
  r_callS hC (c_L_crank X.2.1 hK hA hi hok) hG rfl rfl rfl hd_L_crank.2 hR rfl rfl hW hL hcs hdec (by rintro vv μ' I' P' ⟨⟨t, rfl, h1⟩, rfl, rfl, h2, h3⟩; exact kk I' t h1 h2 h3)
