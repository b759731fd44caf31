theorem wq_X4_init_1 : Cond.methodLink RX4 1 objectInit ∈ wsX4_init := List.mem_of_getElem? (i := 1) (by decide +kernel)
theorem wq_X4_init_2 : Cond.instanceMethod objectInit ∈ wsX4_init := List.mem_of_getElem? (i := 2) (by decide +kernel)
theorem wq_X4_init_3 : Cond.code objectInit ⟨#[0xb1]⟩ 1 none ∈ wsX4_init := List.mem_of_getElem? (i := 3) (by decide +kernel)
theorem wi_X4_init_3 : ∀ w ∈ wsX30, w ∈ wsX4_init := fun _ h => List.mem_cons_of_mem _ (List.mem_append_left _ (List.mem_append_left _ (List.mem_append_left _ (List.mem_append_left _ (List.mem_append_right _ h)))))
theorem wq_X4_init_4 : Cond.classLink RX4 7 RX3 ∈ wsX4_init := List.mem_of_getElem? (i := 4) (by decide +kernel)
theorem wq_X4_init_5 : Cond.instantiable RX3 2 ∈ wsX4_init := List.mem_of_getElem? (i := 5) (by decide +kernel)
theorem wq_X4_init_6 : Cond.initialized RX3 ∈ wsX4_init := List.mem_of_getElem? (i := 6) (by decide +kernel)
theorem wq_X4_init_14 : Cond.methodLink RX4 9 yX3_init ∈ wsX4_init := List.mem_of_getElem? (i := 14) (by decide +kernel)
theorem wq_X4_init_15 : Cond.instanceMethod yX3_init ∈ wsX4_init := List.mem_of_getElem? (i := 15) (by decide +kernel)
theorem wi_X4_init_4 : ∀ w ∈ wsX40, w ∈ wsX4_init := fun _ h => List.mem_cons_of_mem _ (List.mem_append_left _ (List.mem_append_left _ (List.mem_append_left _ (List.mem_append_right _ h))))
theorem wl_X4_init_10 : Cond.fieldLink RX4 10 "HandBlinds" "text" "LHandBlinds$Text;" ∈ wsX4_init := List.mem_of_getElem? (i := 7) (by decide +kernel)
theorem wi_X4_init_0 : ∀ w ∈ wsX00, w ∈ wsX4_init := fun _ h => List.mem_cons_of_mem _ (List.mem_append_left _ (List.mem_append_left _ (List.mem_append_right _ h)))
theorem wq_X4_init_8 : Cond.classLink RX4 16 RX0 ∈ wsX4_init := List.mem_of_getElem? (i := 8) (by decide +kernel)
theorem wq_X4_init_9 : Cond.instantiable RX0 11 ∈ wsX4_init := List.mem_of_getElem? (i := 9) (by decide +kernel)
theorem wq_X4_init_10 : Cond.initialized RX0 ∈ wsX4_init := List.mem_of_getElem? (i := 10) (by decide +kernel)
theorem wq_X4_init_21 : Cond.methodLink RX4 18 yX0_init ∈ wsX4_init := List.mem_of_getElem? (i := 21) (by decide +kernel)
theorem wq_X4_init_22 : Cond.instanceMethod yX0_init ∈ wsX4_init := List.mem_of_getElem? (i := 22) (by decide +kernel)
theorem wl_X4_init_19 : Cond.fieldLink RX4 19 "HandBlinds" "now" "LHandBlinds$Blind;" ∈ wsX4_init := List.mem_of_getElem? (i := 11) (by decide +kernel)
theorem wl_X4_init_23 : Cond.fieldLink RX4 23 "HandBlinds" "history" "[LHandBlinds$Blind;" ∈ wsX4_init := List.mem_of_getElem? (i := 12) (by decide +kernel)
abbrev rm_X4_init : Room := { frames := 3, cells := 253, slots := 2156, locals := 53 }
theorem wl_X4_init_27 : Cond.fieldLink RX4 27 "HandBlinds" "states" "I" ∈ wsX4_init := List.mem_of_getElem? (i := 13) (by decide +kernel)
theorem hd_X4_init : yX4_init.cls = RX4 ∧ yX4_init.cls ≠ "java/lang/invoke/MethodHandle" ∧ yX4_init.cls ≠ "java/lang/invoke/VarHandle" ∧ (parseMethodDescriptor yX4_init.desc).map (fun d => d.parameters.length) = some 0 := ⟨rfl, by decide +kernel, by decide +kernel, by decide +kernel⟩
set_option maxHeartbeats 4000000 in
set_option maxRecDepth 100000 in
theorem c_X4_init (l : Launch) {G : xG} {μ : xM} {I : xI} {P : xP} {h : Nat} {H : Nat → Nat → Int32} (kh : μ.2.1 h = 5) (hh : μ.1 = h) : Ct l yX4_init wsX4_init rm_X4_init G μ I P [.ref (xZ G + h)] 253 2156 (fun vv μ' I' P' => vv = none ∧ oS μ' h ∧ oP P' h ∧ oR I' P' h S00 0 0 0 H 0 (fun _ => 0) ∧ mkF h μ μ' I I' P P' ∧ μ'.1 = h + 253 ∧ μ'.2.1 h = 5) := by
  refine Ct.of (cc := cX4_init) (maxL := 2) (ret := none) [some (.ref (xZ G + h)), none] (by decide) rfl rfl rfl (Nat.le_of_ble_eq_true rfl) ?_
  intro X hC hD h0 hsz0
  have hz := hsz0.resolve_left (by decide)
  have loop : ∀ (q k c1 c2 : Nat) (μ1 : xM) (I1 : xI) (P1 : xP), k + q = 4 → c1 = 53 + 50 * k → c2 = 484 + 418 * k → mk3 h k μ μ1 I I1 P P1 → xg X G (c1, c2) μ1 I1 P1 [some (.ref (xZ G + h)), some (.int (nI k))] 36 [] := by
    intro q
    induction q with
    | zero =>
      intro k c1 c2 μ1 I1 P1 hk hc1 hc2 hM
      have ek : k = 4 := by omega
      subst ek
      have hend := fun H => mk3_end (H := H) hM
      obtain ⟨e, ⟨kh1, k1, k2, k3⟩, ⟨p0, p1, p2, p3⟩, -, ⟨q1, q2⟩, -⟩ := hM
      refine r_iload_n (pc := 36) hC dX4_init_36 rfl ?_
      refine r_iconst (pc := 37) (v := 4) hC dX4_init_37 (by decide) ?_
      refine r_icmp_ge (pc := 38) (tgt := 60) hC dX4_init_38 (by decide) (fun bq38 => ?_) (fun bq38 => ?_)
      · skip
        refine r_aload_n (pc := 60) hC dX4_init_60 rfl ?_
        refine r_iconst (pc := 61) (v := 0) hC dX4_init_61 (by decide) ?_
        refine p_HB_states (pc := 62) hC wi_X4_init_4 wl_X4_init_27 kh1 dX4_init_62 ?_
        refine r_vret (pc := 65) hC hD dX4_init_65 (by show (c1, c2) = _; rw [hc1, hc2]) ?_
        obtain ⟨z1, z2, z3, z4, z5, z6⟩ := hend H
        exact ⟨rfl, z1, z2, z3, z4, z5, z6⟩
      · skip
        exact absurd (by decide) bq38
    | succ q ih =>
      intro k c1 c2 μ1 I1 P1 hk hc1 hc2 hM
      have hM0 := hM
      obtain ⟨e, ⟨kh1, k1, k2, k3⟩, ⟨p0, p1, p2, p3⟩, -, ⟨q1, q2⟩, -⟩ := hM
      refine r_iload_n (pc := 36) hC dX4_init_36 rfl ?_
      refine r_iconst (pc := 37) (v := 4) hC dX4_init_37 (by decide) ?_
      refine r_icmp_ge (pc := 38) (tgt := 60) hC dX4_init_38 (by decide) (fun bq38 => ?_) (fun bq38 => ?_)
      · skip
        exact absurd bq38 (nI_ge (b := 4) (by omega) (by decide))
      · skip
        refine r_aload_n (pc := 41) hC dX4_init_41 rfl ?_
        refine g_HB_history (pc := 42) hC wi_X4_init_4 wl_X4_init_23 kh1 (c2 := 11) (by rw [p3]; exact q1) (by decide) dX4_init_42 ?_
        rw [p3]
        refine r_iload_n (pc := 45) hC dX4_init_45 rfl ?_
        refine r_new (pc := 46) (ci := 0) (kd := 1) hC (fun w hw => wi_X4_init_0 w hw) tyX0 tyX0_ok wq_X4_init_8 wq_X4_init_9 wq_X4_init_10 rfl hf_X0 he_X0 (by show _ + c1 = _; omega) (fun hq => absurd hq (by omega)) ⟨by show c1 + 1 ≤ 253; omega, by show c2 + 11 ≤ 2156; omega⟩ dX4_init_46 ?_
        refine r_dup (pc := 49) hC dX4_init_49 rfl ?_
        refine k_X0_init (pc := 50) hC gX4_init_X0_init wq_X4_init_10 wq_X4_init_21 wq_X4_init_22 ⟨Nat.le_of_ble_eq_true rfl, Nat.le_of_ble_eq_true rfl⟩ xn_k rfl (fun j => by rw [xI1_at]) (by show _ + (c1 + 1) = _ + (μ1.1 + 1); omega) (fun hq => absurd hq (by rw [xn_1]; omega)) (Nat.le_of_ble_eq_true rfl) rfl ⟨by show c1 + 1 + 49 ≤ 253; omega, by show c2 + 11 + 407 ≤ 2156; omega⟩ dX4_init_50 ?_
        intro μ3 I3 P3 g1 g2 g3 g4 g5
        have g53 := g4 (h + 53) (by omega)
        refine r_aast_Blind (pc := 53) hC (by rw [g53.1, xn_kl (by omega)]; exact q1) (xi_n (k := k) (by rw [g53.2.1, xn_ll (by omega), q2]; omega) (by rw [g53.2.1, xn_ll (by omega), q2]; decide)) g1.1 dX4_init_53 ?_
        refine r_iinc (pc := 54) (v := 1) (L' := [_, _]) hC dX4_init_54 rfl (by decide) rfl rfl ?_
        refine r_goto (pc := 57) (tgt := 36) hC dX4_init_57 (by decide) ?_
        rw [nI_1]; exact ih (k + 1) _ _ _ _ _ (by omega) (by show c1 + 1 + 49 = _; omega) (by show c2 + 11 + 407 = _; omega) (mk3_s hM0 rfl g1 g2 g4 g5)
  refine r_aload_n (pc := 0) hC dX4_init_0 rfl ?_
  refine r_objInit (pc := 1) hC wq_X4_init_1 wq_X4_init_2 wq_X4_init_3 ⟨Nat.le_of_ble_eq_true rfl, Nat.le_of_ble_eq_true rfl⟩ rfl dX4_init_1 ?_
  refine r_aload_n (pc := 4) hC dX4_init_4 rfl ?_
  refine r_new (pc := 5) (ci := 3) (kd := 4) hC (fun w hw => wi_X4_init_3 w hw) tyX3 tyX3_ok wq_X4_init_4 wq_X4_init_5 wq_X4_init_6 rfl hf_X3 he_X3 hz (fun _ => rfl) ⟨Nat.le_of_ble_eq_true rfl, Nat.le_of_ble_eq_true rfl⟩ dX4_init_5 ?_
  refine r_dup (pc := 8) hC dX4_init_8 rfl ?_
  refine k_X3_init (pc := 9) hC gX4_init_X3_init wq_X4_init_6 wq_X4_init_14 wq_X4_init_15 ⟨Nat.le_of_ble_eq_true rfl, Nat.le_of_ble_eq_true rfl⟩ xn_k (by (try simp only [xn_1]); omega) (fun hq => absurd hq (by (try simp only [xn_1]); omega)) (Nat.le_of_ble_eq_true rfl) rfl ⟨Nat.le_of_ble_eq_true rfl, Nat.le_of_ble_eq_true rfl⟩ dX4_init_9 ?_
  refine p_HB_text (pc := 12) hC hD.2.2.1 rfl wi_X4_init_4 wl_X4_init_10 (by rw [xn2_k (by omega)]; exact kh) (by omega) dX4_init_12 ?_
  refine r_aload_n (pc := 15) hC dX4_init_15 rfl ?_
  refine r_new (pc := 16) (ci := 0) (kd := 1) hC (fun w hw => wi_X4_init_0 w hw) tyX0 tyX0_ok wq_X4_init_8 wq_X4_init_9 wq_X4_init_10 rfl hf_X0 he_X0 (by (try simp only [xn_1]); omega) (fun hq => absurd hq (by (try simp only [xn_1]); omega)) ⟨Nat.le_of_ble_eq_true rfl, Nat.le_of_ble_eq_true rfl⟩ dX4_init_16 ?_
  refine r_dup (pc := 19) hC dX4_init_19 rfl ?_
  refine k_X0_init (pc := 20) hC gX4_init_X0_init wq_X4_init_10 wq_X4_init_21 wq_X4_init_22 ⟨Nat.le_of_ble_eq_true rfl, Nat.le_of_ble_eq_true rfl⟩ xn_k rfl (fun j => by rw [xI1_at]) (by (try simp only [xn_1]); omega) (fun hq => absurd hq (by (try simp only [xn_1]); omega)) (Nat.le_of_ble_eq_true rfl) rfl ⟨by show 3 + 49 ≤ 253; omega, by show 73 + 407 ≤ 2156; omega⟩ dX4_init_20 ?_
  intro μ3 I3 P3 n1 n2 n3 n4 n5
  refine p_HB_now (pc := 23) hC hD.2.2.1 rfl wi_X4_init_4 wl_X4_init_19 (by rw [(n4 h (by simp only [xn_1]; omega)).1, xn_kl (by simp only [xn_1]; omega), xn2_k (by omega)]; exact kh) (by omega) dX4_init_23 ?_
  refine r_aload_n (pc := 26) hC dX4_init_26 rfl ?_
  refine r_iconst (pc := 27) (v := 4) hC dX4_init_27 (by decide) ?_
  refine r_newq (pc := 28) (N := 4) (kd := 11) (t0 := 4) hC wq_X4_init_8 (fun q => q.2.2.2.2.2.2.2.1) rfl he_Q11 (by decide) (by decide) (Nat.le_of_ble_eq_true rfl) (by rw [n5]; show _ + 52 = _; simp only [xn_1]; omega) (fun hq => absurd hq (by rw [n5]; omega)) ⟨Nat.le_of_ble_eq_true rfl, Nat.le_of_ble_eq_true rfl⟩ dX4_init_28 ?_
  refine p_HB_history (pc := 31) hC hD.2.2.1 rfl wi_X4_init_4 wl_X4_init_23 (by rw [xn_kl (by rw [n5]; simp only [xn_1]; omega), (n4 h (by simp only [xn_1]; omega)).1, xn_kl (by simp only [xn_1]; omega), xn2_k (by omega)]; exact kh) (by omega) dX4_init_31 ?_
  refine r_iconst (pc := 34) (v := 0) hC dX4_init_34 (by decide) ?_
  refine r_istore_n (pc := 35) (L' := [_, _]) hC dX4_init_35 rfl (Nat.le_of_ble_eq_true rfl) rfl ?_
  exact loop 4 0 _ _ _ _ _ (by omega) rfl rfl (mk3_0 kh hh (by rw [← hh]; exact n1) (by rw [← hh]; exact n2) (by rw [← hh]; exact n3) (by rw [← hh]; rw [← hh] at n4; exact n4) (by rw [← hh]; exact n5) (by simp only [xn_1]; omega))
theorem k_X4_init {X : xF} {G : xG} {cs : Nat × Nat} {μ : xM} {I : xI} {P : xP} {L : List (Option Value)} {pc : Nat} {rest : List Value} {cc : ByteArray} {Ts : List Cond} {own : String} {nL : Nat} {R : Room} (hC : xC X G cc Ts own nL R) {index : Nat} {h : Nat} {H : Nat → Nat → Int32} (hG : GoodIn Ts wsX4_init) (hini : Cond.initialized RX4 ∈ Ts) (hlink : Cond.methodLink own index yX4_init ∈ Ts) (hins : Cond.instanceMethod yX4_init ∈ Ts) (hR : rm_X4_init.frames + 1 ≤ R.frames ∧ 8 + (2 + 11) + rm_X4_init.locals ≤ R.locals) (kh : μ.2.1 h = 5) (hh : μ.1 = h) (hz : X.2.2.2.2.1.heap.size + cs.1 = xZ G + 1 + μ.1) (h1 : μ.1 = 0 → cs.1 = 0) (hW : (rest.map fun v => v.category).sum ≤ 8) (hL : L.length = nL) (hcs : cs.1 + 253 ≤ R.cells ∧ cs.2 + 2156 ≤ R.slots) (hdec : decode cc pc = .ok (.invokespecial index, 3)) (kk : ∀ (μ' : xM) (I' : xI) (P' : xP), oS μ' h → oP P' h → oR I' P' h S00 0 0 0 H 0 (fun _ => 0) → mkF h μ μ' I I' P P' → μ'.1 = h + 253 → μ'.2.1 h = 5 → xg X G (cs.1 + 253, cs.2 + 2156) μ' I' P' L (pc + 3) rest) : xg X G cs μ I P L pc (.ref (xZ G + h) :: rest) :=
  r_callI hC (c_X4_init X.2.1 kh hh) hG rfl rfl rfl hini hlink hins rfl hd_X4_init.2 hR hz h1 rfl rfl hW hL hcs hdec (by rintro v μ' I' P' ⟨rfl, g1, g2, g3, g4, g5, g6⟩; exact kk μ' I' P' g1 g2 g3 g4 g5 g6)
