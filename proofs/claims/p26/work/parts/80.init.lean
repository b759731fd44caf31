theorem hf_X0 : ∀ j, j < 11 → defaultValue (tyX0 j) = vp_V [.null, .int 0, .int 0, .null, .int 0, .int 0, .null, .int 0, .int 0, .int 0, .int 0] j := fun j hj => by
  have hc : j = 0 ∨ j = 1 ∨ j = 2 ∨ j = 3 ∨ j = 4 ∨ j = 5 ∨ j = 6 ∨ j = 7 ∨ j = 8 ∨ j = 9 ∨ j = 10 := by omega
  rcases hc with rfl | rfl | rfl | rfl | rfl | rfl | rfl | rfl | rfl | rfl | rfl <;> rfl
theorem he_X0 {G : xG} {μ : xM} {I : xI} {P : xP} : xe G (xn μ 1 0) (xI1 μ I) (xP1 μ P) (μ.1 + 1) = .inr (0, [.null, .int 0, .int 0, .null, .int 0, .int 0, .null, .int 0, .int 0, .int 0, .int 0]) := by
  rw [xe_Blind xn_k, xI1_at, xP1_at]; rfl
theorem hf_X1 : ∀ j, j < 3 → defaultValue (tyX1 j) = vp_V [.int 0, .int 0, .int 0] j := fun j hj => by
  have hc : j = 0 ∨ j = 1 ∨ j = 2 := by omega
  rcases hc with rfl | rfl | rfl <;> rfl
theorem he_X1 {G : xG} {μ : xM} {I : xI} {P : xP} : xe G (xn μ 2 0) (xI1 μ I) (xP1 μ P) (μ.1 + 1) = .inr (1, [.int 0, .int 0, .int 0]) := by
  rw [xe_Route xn_k, xI1_at]
theorem hf_X2 : ∀ j, j < 4 → defaultValue (tyX2 j) = vp_V [.null, .int 0, .int 0, .int 0] j := fun j hj => by
  have hc : j = 0 ∨ j = 1 ∨ j = 2 ∨ j = 3 := by omega
  rcases hc with rfl | rfl | rfl | rfl <;> rfl
theorem he_X2 {G : xG} {μ : xM} {I : xI} {P : xP} : xe G (xn μ 3 0) (xI1 μ I) (xP1 μ P) (μ.1 + 1) = .inr (2, [.null, .int 0, .int 0, .int 0]) := by
  rw [xe_Row xn_k, xI1_at, xP1_at]; rfl
theorem hf_X3 : ∀ j, j < 2 → defaultValue (tyX3 j) = vp_V [.null, .int 0] j := fun j hj => by
  have hc : j = 0 ∨ j = 1 := by omega
  rcases hc with rfl | rfl <;> rfl
theorem he_X3 {G : xG} {μ : xM} {I : xI} {P : xP} : xe G (xn μ 4 0) (xI1 μ I) (xP1 μ P) (μ.1 + 1) = .inr (3, [.null, .int 0]) := by
  rw [xe_Text xn_k, xI1_at, xP1_at]; rfl
theorem hf_X4 : ∀ j, j < 4 → defaultValue (tyX4 j) = vp_V [.null, .null, .null, .int 0] j := fun j hj => by
  have hc : j = 0 ∨ j = 1 ∨ j = 2 ∨ j = 3 := by omega
  rcases hc with rfl | rfl | rfl | rfl <;> rfl
theorem he_X4 {G : xG} {μ : xM} {I : xI} {P : xP} : xe G (xn μ 5 0) (xI1 μ I) (xP1 μ P) (μ.1 + 1) = .inr (4, [.null, .null, .null, .int 0]) := by
  rw [xe_HB xn_k, xI1_at, xP1_at]; rfl
theorem he_Q9 {G : xG} {μ : xM} {I : xI} {P : xP} {N : Nat} : xe G (xn μ 9 N) (xI1 μ I) (xP1 μ P) (μ.1 + 1) = .inl (G.2.1 2, N, .inr (.inr (.inr (.inr (fun _ => none))))) := by
  rw [xe_Rows xn_k, xn_l, xP1_at]; rfl
theorem he_Q10 {G : xG} {μ : xM} {I : xI} {P : xP} {N : Nat} : xe G (xn μ 10 N) (xI1 μ I) (xP1 μ P) (μ.1 + 1) = .inl (G.2.1 3, N, .inr (.inr (.inr (.inr (fun _ => none))))) := by
  rw [xe_Routes xn_k, xn_l, xP1_at]; rfl
theorem he_Q11 {G : xG} {μ : xM} {I : xI} {P : xP} {N : Nat} : xe G (xn μ 11 N) (xI1 μ I) (xP1 μ P) (μ.1 + 1) = .inl (G.2.1 4, N, .inr (.inr (.inr (.inr (fun _ => none))))) := by
  rw [xe_Blinds xn_k, xn_l, xP1_at]; rfl
theorem wq_X1_init_1 : Cond.methodLink RX1 1 objectInit ∈ wsX1_init := List.mem_of_getElem? (i := 1) (by decide +kernel)
theorem wq_X1_init_2 : Cond.instanceMethod objectInit ∈ wsX1_init := List.mem_of_getElem? (i := 2) (by decide +kernel)
theorem wq_X1_init_3 : Cond.code objectInit ⟨#[0xb1]⟩ 1 none ∈ wsX1_init := List.mem_of_getElem? (i := 3) (by decide +kernel)
theorem wq_X2_init_1 : Cond.methodLink RX2 3 objectInit ∈ wsX2_init := List.mem_of_getElem? (i := 1) (by decide +kernel)
theorem wq_X2_init_2 : Cond.instanceMethod objectInit ∈ wsX2_init := List.mem_of_getElem? (i := 2) (by decide +kernel)
theorem wq_X2_init_3 : Cond.code objectInit ⟨#[0xb1]⟩ 1 none ∈ wsX2_init := List.mem_of_getElem? (i := 3) (by decide +kernel)
theorem wq_X2_init_4 : Cond.arrayClass .char ∈ wsX2_init := List.mem_of_getElem? (i := 4) (by decide +kernel)
theorem wi_X2_init_2 : ∀ w ∈ wsX20, w ∈ wsX2_init := fun _ h => List.mem_cons_of_mem _ (List.mem_append_right _ h)
theorem wl_X2_init_9 : Cond.fieldLink RX2 9 "HandBlinds$Row" "letters" "[C" ∈ wsX2_init := List.mem_of_getElem? (i := 5) (by decide +kernel)
theorem wq_X3_init_1 : Cond.methodLink RX3 3 objectInit ∈ wsX3_init := List.mem_of_getElem? (i := 1) (by decide +kernel)
theorem wq_X3_init_2 : Cond.instanceMethod objectInit ∈ wsX3_init := List.mem_of_getElem? (i := 2) (by decide +kernel)
theorem wq_X3_init_3 : Cond.code objectInit ⟨#[0xb1]⟩ 1 none ∈ wsX3_init := List.mem_of_getElem? (i := 3) (by decide +kernel)
theorem wq_X3_init_4 : Cond.arrayClass .char ∈ wsX3_init := List.mem_of_getElem? (i := 4) (by decide +kernel)
theorem wi_X3_init_3 : ∀ w ∈ wsX30, w ∈ wsX3_init := fun _ h => List.mem_cons_of_mem _ (List.mem_append_right _ h)
theorem wl_X3_init_9 : Cond.fieldLink RX3 9 "HandBlinds$Text" "signs" "[C" ∈ wsX3_init := List.mem_of_getElem? (i := 5) (by decide +kernel)
theorem wq_X0_init_1 : Cond.methodLink RX0 3 objectInit ∈ wsX0_init := List.mem_of_getElem? (i := 1) (by decide +kernel)
theorem wq_X0_init_2 : Cond.instanceMethod objectInit ∈ wsX0_init := List.mem_of_getElem? (i := 2) (by decide +kernel)
theorem wq_X0_init_3 : Cond.code objectInit ⟨#[0xb1]⟩ 1 none ∈ wsX0_init := List.mem_of_getElem? (i := 3) (by decide +kernel)
theorem wq_X0_init_4 : Cond.classLink RX0 9 RX2 ∈ wsX0_init := List.mem_of_getElem? (i := 4) (by decide +kernel)
theorem wi_X0_init_0 : ∀ w ∈ wsX00, w ∈ wsX0_init := fun _ h => List.mem_cons_of_mem _ (List.mem_append_left _ (List.mem_append_left _ (List.mem_append_right _ h)))
theorem wl_X0_init_11 : Cond.fieldLink RX0 11 "HandBlinds$Blind" "rows" "[LHandBlinds$Row;" ∈ wsX0_init := List.mem_of_getElem? (i := 5) (by decide +kernel)
theorem wi_X0_init_2 : ∀ w ∈ wsX20, w ∈ wsX0_init := fun _ h => List.mem_cons_of_mem _ (List.mem_append_left _ (List.mem_append_right _ h))
theorem wq_X0_init_6 : Cond.instantiable RX2 4 ∈ wsX0_init := List.mem_of_getElem? (i := 6) (by decide +kernel)
theorem wq_X0_init_7 : Cond.initialized RX2 ∈ wsX0_init := List.mem_of_getElem? (i := 7) (by decide +kernel)
theorem wq_X0_init_19 : Cond.methodLink RX0 17 yX2_init ∈ wsX0_init := List.mem_of_getElem? (i := 19) (by decide +kernel)
theorem wq_X0_init_20 : Cond.instanceMethod yX2_init ∈ wsX0_init := List.mem_of_getElem? (i := 20) (by decide +kernel)
theorem wq_X0_init_8 : Cond.classLink RX0 18 RX1 ∈ wsX0_init := List.mem_of_getElem? (i := 8) (by decide +kernel)
theorem wl_X0_init_20 : Cond.fieldLink RX0 20 "HandBlinds$Blind" "routes" "[LHandBlinds$Route;" ∈ wsX0_init := List.mem_of_getElem? (i := 9) (by decide +kernel)
theorem wi_X0_init_1 : ∀ w ∈ wsX10, w ∈ wsX0_init := fun _ h => List.mem_cons_of_mem _ (List.mem_append_right _ h)
theorem wq_X0_init_10 : Cond.instantiable RX1 3 ∈ wsX0_init := List.mem_of_getElem? (i := 10) (by decide +kernel)
theorem wq_X0_init_11 : Cond.initialized RX1 ∈ wsX0_init := List.mem_of_getElem? (i := 11) (by decide +kernel)
theorem wq_X0_init_25 : Cond.instanceMethod yX1_init ∈ wsX0_init := List.mem_of_getElem? (i := 25) (by decide +kernel)
theorem wq_X0_init_12 : Cond.arrayClass .int ∈ wsX0_init := List.mem_of_getElem? (i := 12) (by decide +kernel)
theorem wl_X0_init_25 : Cond.fieldLink RX0 25 "HandBlinds$Blind" "settings" "[I" ∈ wsX0_init := List.mem_of_getElem? (i := 13) (by decide +kernel)
theorem wq_X0_init_14 : Cond.methodLink RX0 32 arraycopyName ∈ wsX0_init := List.mem_of_getElem? (i := 14) (by decide +kernel)
theorem wq_X0_init_15 : Cond.native arraycopyName ∈ wsX0_init := List.mem_of_getElem? (i := 15) (by decide +kernel)
theorem wq_X0_init_16 : Cond.static arraycopyName ∈ wsX0_init := List.mem_of_getElem? (i := 16) (by decide +kernel)
theorem wq_X0_init_17 : Cond.initialized "java/lang/System" ∈ wsX0_init := List.mem_of_getElem? (i := 17) (by decide +kernel)
abbrev rm_X1_init : Room := { frames := 1, cells := 0, slots := 0, locals := 12 }
theorem hd_X1_init : yX1_init.cls = RX1 ∧ yX1_init.cls ≠ "java/lang/invoke/MethodHandle" ∧ yX1_init.cls ≠ "java/lang/invoke/VarHandle" ∧ (parseMethodDescriptor yX1_init.desc).map (fun d => d.parameters.length) = some 0 := ⟨rfl, by decide +kernel, by decide +kernel, by decide +kernel⟩
set_option maxHeartbeats 4000000 in
set_option maxRecDepth 100000 in
theorem c_X1_init (l : Launch) {G : xG} {μ : xM} {I : xI} {P : xP} {r : Nat}  : Ct l yX1_init wsX1_init rm_X1_init G μ I P [.ref (xZ G + r)] 0 0 (fun vv μ' I' P' => vv = none ∧ μ' = μ ∧ I' = I ∧ P' = P) := by
  refine Ct.of (cc := cX1_init) (maxL := 1) (ret := none) [some (.ref (xZ G + r))] (by decide) rfl rfl rfl (Nat.le_of_ble_eq_true rfl) ?_
  intro X hC hD h0 _
  refine r_aload_n (pc := 0) hC dX1_init_0 rfl ?_
  refine r_objInit (pc := 1) hC wq_X1_init_1 wq_X1_init_2 wq_X1_init_3 ⟨Nat.le_of_ble_eq_true rfl, Nat.le_of_ble_eq_true rfl⟩ rfl dX1_init_1 ?_
  refine r_vret (pc := 4) hC hD dX1_init_4 rfl ?_
  exact ⟨rfl, rfl, rfl, rfl⟩
theorem k_X1_init {X : xF} {G : xG} {cs : Nat × Nat} {μ : xM} {I : xI} {P : xP} {L : List (Option Value)} {pc : Nat} {rest : List Value} {cc : ByteArray} {Ts : List Cond} {own : String} {nL : Nat} {R : Room} (hC : xC X G cc Ts own nL R) {index : Nat} {r : Nat} (hG : GoodIn Ts wsX1_init) (hini : Cond.initialized RX1 ∈ Ts) {host : String} (hN : xN G X.2.2.2.2.1 → va_Nw (.methodLinkNest own index yX1_init host) X.2.2.2.2.1) (hins : Cond.instanceMethod yX1_init ∈ Ts) (hR : rm_X1_init.frames + 1 ≤ R.frames ∧ 8 + (1 + 11) + rm_X1_init.locals ≤ R.locals)  (hz : X.2.2.2.2.1.heap.size + cs.1 = xZ G + 1 + μ.1) (h1 : μ.1 = 0 → cs.1 = 0) (hW : (rest.map fun v => v.category).sum ≤ 8) (hL : L.length = nL) (hcs : cs.1 + 0 ≤ R.cells ∧ cs.2 + 0 ≤ R.slots) (hdec : decode cc pc = .ok (.invokespecial index, 3)) (kk : xg X G (cs.1 + 0, cs.2 + 0) μ I P L (pc + 3) rest) : xg X G cs μ I P L pc (.ref (xZ G + r) :: rest) :=
  r_callIN hC hN (c_X1_init X.2.1 ) hG rfl rfl rfl hini hins rfl hd_X1_init.2 hR hz h1 rfl rfl hW hL hcs hdec (by rintro v μ' I' P' ⟨rfl, rfl, rfl, rfl⟩; exact kk)
abbrev rm_X2_init : Room := { frames := 1, cells := 1, slots := 14, locals := 12 }
theorem hd_X2_init : yX2_init.cls = RX2 ∧ yX2_init.cls ≠ "java/lang/invoke/MethodHandle" ∧ yX2_init.cls ≠ "java/lang/invoke/VarHandle" ∧ (parseMethodDescriptor yX2_init.desc).map (fun d => d.parameters.length) = some 0 := ⟨rfl, by decide +kernel, by decide +kernel, by decide +kernel⟩
set_option maxHeartbeats 4000000 in
set_option maxRecDepth 100000 in
theorem c_X2_init (l : Launch) {G : xG} {μ : xM} {I : xI} {P : xP} {r : Nat} (kr : μ.2.1 r = 3) : Ct l yX2_init wsX2_init rm_X2_init G μ I P [.ref (xZ G + r)] 1 14 (fun vv μ' I' P' => vv = none ∧ μ' = xn μ 8 14 ∧ I' = xI1 μ I ∧ P' = (xu (xP1 μ P) r 0 (μ.1 + 1))) := by
  refine Ct.of (cc := cX2_init) (maxL := 1) (ret := none) [some (.ref (xZ G + r))] (by decide) rfl rfl rfl (Nat.le_of_ble_eq_true rfl) ?_
  intro X hC hD h0 hsz0
  have hz := hsz0.resolve_left (by decide)
  have hr : r ≠ μ.1 + 1 := fun e => by rw [e, h0.1.2 _ (by omega)] at kr; cases kr
  refine r_aload_n (pc := 0) hC dX2_init_0 rfl ?_
  refine r_objInit (pc := 1) hC wq_X2_init_1 wq_X2_init_2 wq_X2_init_3 ⟨Nat.le_of_ble_eq_true rfl, Nat.le_of_ble_eq_true rfl⟩ rfl dX2_init_1 ?_
  refine r_aload_n (pc := 4) hC dX2_init_4 rfl ?_
  refine r_bipush (pc := 5) (v := 14) hC dX2_init_5 (by decide) ?_
  refine r_newc (pc := 7) (N := 14) hC wq_X2_init_4 (by decide) (by decide) (Nat.le_of_ble_eq_true rfl) hz (fun _ => rfl) ⟨Nat.le_of_ble_eq_true rfl, Nat.le_of_ble_eq_true rfl⟩ dX2_init_7 ?_
  refine p_Row_letters (pc := 9) hC hD.2.2.1 rfl wi_X2_init_2 wl_X2_init_9 (by rw [xn_ko hr]; exact kr) (by omega) dX2_init_9 ?_
  refine r_vret (pc := 12) hC hD dX2_init_12 rfl ?_
  exact ⟨rfl, rfl, rfl, rfl⟩
theorem k_X2_init {X : xF} {G : xG} {cs : Nat × Nat} {μ : xM} {I : xI} {P : xP} {L : List (Option Value)} {pc : Nat} {rest : List Value} {cc : ByteArray} {Ts : List Cond} {own : String} {nL : Nat} {R : Room} (hC : xC X G cc Ts own nL R) {index : Nat} {r : Nat} (hG : GoodIn Ts wsX2_init) (hini : Cond.initialized RX2 ∈ Ts) (hlink : Cond.methodLink own index yX2_init ∈ Ts) (hins : Cond.instanceMethod yX2_init ∈ Ts) (hR : rm_X2_init.frames + 1 ≤ R.frames ∧ 8 + (1 + 11) + rm_X2_init.locals ≤ R.locals) (kr : μ.2.1 r = 3) (hz : X.2.2.2.2.1.heap.size + cs.1 = xZ G + 1 + μ.1) (h1 : μ.1 = 0 → cs.1 = 0) (hW : (rest.map fun v => v.category).sum ≤ 8) (hL : L.length = nL) (hcs : cs.1 + 1 ≤ R.cells ∧ cs.2 + 14 ≤ R.slots) (hdec : decode cc pc = .ok (.invokespecial index, 3)) (kk : xg X G (cs.1 + 1, cs.2 + 14) (xn μ 8 14) (xI1 μ I) (xu (xP1 μ P) r 0 (μ.1 + 1)) L (pc + 3) rest) : xg X G cs μ I P L pc (.ref (xZ G + r) :: rest) :=
  r_callI hC (c_X2_init X.2.1 kr) hG rfl rfl rfl hini hlink hins rfl hd_X2_init.2 hR hz h1 rfl rfl hW hL hcs hdec (by rintro v μ' I' P' ⟨rfl, rfl, rfl, rfl⟩; exact kk)
abbrev rm_X3_init : Room := { frames := 1, cells := 1, slots := 60, locals := 12 }
theorem wl_X3_init_15 : Cond.fieldLink RX3 15 "HandBlinds$Text" "length" "I" ∈ wsX3_init := List.mem_of_getElem? (i := 6) (by decide +kernel)
theorem hd_X3_init : yX3_init.cls = RX3 ∧ yX3_init.cls ≠ "java/lang/invoke/MethodHandle" ∧ yX3_init.cls ≠ "java/lang/invoke/VarHandle" ∧ (parseMethodDescriptor yX3_init.desc).map (fun d => d.parameters.length) = some 0 := ⟨rfl, by decide +kernel, by decide +kernel, by decide +kernel⟩
set_option maxHeartbeats 4000000 in
set_option maxRecDepth 100000 in
theorem c_X3_init (l : Launch) {G : xG} {μ : xM} {I : xI} {P : xP} {r : Nat} (kr : μ.2.1 r = 4) : Ct l yX3_init wsX3_init rm_X3_init G μ I P [.ref (xZ G + r)] 1 60 (fun vv μ' I' P' => vv = none ∧ μ' = xn μ 8 60 ∧ I' = (xu (xI1 μ I) r 1 0) ∧ P' = (xu (xP1 μ P) r 0 (μ.1 + 1))) := by
  refine Ct.of (cc := cX3_init) (maxL := 1) (ret := none) [some (.ref (xZ G + r))] (by decide) rfl rfl rfl (Nat.le_of_ble_eq_true rfl) ?_
  intro X hC hD h0 hsz0
  have hz := hsz0.resolve_left (by decide)
  have hr : r ≠ μ.1 + 1 := fun e => by rw [e, h0.1.2 _ (by omega)] at kr; cases kr
  refine r_aload_n (pc := 0) hC dX3_init_0 rfl ?_
  refine r_objInit (pc := 1) hC wq_X3_init_1 wq_X3_init_2 wq_X3_init_3 ⟨Nat.le_of_ble_eq_true rfl, Nat.le_of_ble_eq_true rfl⟩ rfl dX3_init_1 ?_
  refine r_aload_n (pc := 4) hC dX3_init_4 rfl ?_
  refine r_bipush (pc := 5) (v := 60) hC dX3_init_5 (by decide) ?_
  refine r_newc (pc := 7) (N := 60) hC wq_X3_init_4 (by decide) (by decide) (Nat.le_of_ble_eq_true rfl) hz (fun _ => rfl) ⟨Nat.le_of_ble_eq_true rfl, Nat.le_of_ble_eq_true rfl⟩ dX3_init_7 ?_
  refine p_Text_signs (pc := 9) hC hD.2.2.1 rfl wi_X3_init_3 wl_X3_init_9 (by rw [xn_ko hr]; exact kr) (by omega) dX3_init_9 ?_
  refine r_aload_n (pc := 12) hC dX3_init_12 rfl ?_
  refine r_iconst (pc := 13) (v := 0) hC dX3_init_13 (by decide) ?_
  refine p_Text_length (pc := 14) hC wi_X3_init_3 wl_X3_init_15 (by rw [xn_ko hr]; exact kr) dX3_init_14 ?_
  refine r_vret (pc := 17) hC hD dX3_init_17 rfl ?_
  exact ⟨rfl, rfl, rfl, rfl⟩
theorem k_X3_init {X : xF} {G : xG} {cs : Nat × Nat} {μ : xM} {I : xI} {P : xP} {L : List (Option Value)} {pc : Nat} {rest : List Value} {cc : ByteArray} {Ts : List Cond} {own : String} {nL : Nat} {R : Room} (hC : xC X G cc Ts own nL R) {index : Nat} {r : Nat} (hG : GoodIn Ts wsX3_init) (hini : Cond.initialized RX3 ∈ Ts) (hlink : Cond.methodLink own index yX3_init ∈ Ts) (hins : Cond.instanceMethod yX3_init ∈ Ts) (hR : rm_X3_init.frames + 1 ≤ R.frames ∧ 8 + (1 + 11) + rm_X3_init.locals ≤ R.locals) (kr : μ.2.1 r = 4) (hz : X.2.2.2.2.1.heap.size + cs.1 = xZ G + 1 + μ.1) (h1 : μ.1 = 0 → cs.1 = 0) (hW : (rest.map fun v => v.category).sum ≤ 8) (hL : L.length = nL) (hcs : cs.1 + 1 ≤ R.cells ∧ cs.2 + 60 ≤ R.slots) (hdec : decode cc pc = .ok (.invokespecial index, 3)) (kk : xg X G (cs.1 + 1, cs.2 + 60) (xn μ 8 60) (xu (xI1 μ I) r 1 0) (xu (xP1 μ P) r 0 (μ.1 + 1)) L (pc + 3) rest) : xg X G cs μ I P L pc (.ref (xZ G + r) :: rest) :=
  r_callI hC (c_X3_init X.2.1 kr) hG rfl rfl rfl hini hlink hins rfl hd_X3_init.2 hR hz h1 rfl rfl hW hL hcs hdec (by rintro v μ' I' P' ⟨rfl, rfl, rfl, rfl⟩; exact kk)
abbrev rm_X0_init : Room := { frames := 2, cells := 49, slots := 407, locals := 32 }
theorem wl_X0_init_38 : Cond.fieldLink RX0 38 "HandBlinds$Blind" "driven" "I" ∈ wsX0_init := List.mem_of_getElem? (i := 18) (by decide +kernel)
theorem hd_X0_init : yX0_init.cls = RX0 ∧ yX0_init.cls ≠ "java/lang/invoke/MethodHandle" ∧ yX0_init.cls ≠ "java/lang/invoke/VarHandle" ∧ (parseMethodDescriptor yX0_init.desc).map (fun d => d.parameters.length) = some 0 := ⟨rfl, by decide +kernel, by decide +kernel, by decide +kernel⟩
set_option maxHeartbeats 4000000 in
set_option maxRecDepth 100000 in
theorem c_X0_init (l : Launch) {G : xG} {μ : xM} {I : xI} {P : xP} {b : Nat} (kb : μ.2.1 b = 1) (hb : μ.1 = b) (hI : ∀ j, I b j = 0) : Ct l yX0_init wsX0_init rm_X0_init G μ I P [.ref (xZ G + b)] 49 407 (fun vv μ' I' P' => vv = none ∧ bS μ' b ∧ bP P' b ∧ bR I' P' b S00 0 0 ∧ mkF b μ μ' I I' P P' ∧ μ'.1 = b + 49) := by
  refine Ct.of (cc := cX0_init) (maxL := 2) (ret := none) [some (.ref (xZ G + b)), none] (by decide) rfl rfl rfl (Nat.le_of_ble_eq_true rfl) ?_
  intro X hC hD h0 hsz0
  have hz := hsz0.resolve_left (by decide)
  have loop2 : ∀ (q k c1 c2 : Nat) (μ1 : xM) (I1 : xI) (P1 : xP), k + q = 6 → c1 = 42 + k → c2 = 386 + 3 * k → mk2 b k μ μ1 I I1 P P1 → xg X G (c1, c2) μ1 I1 P1 [some (.ref (xZ G + b)), some (.int (nI k))] 51 [] := by
    intro q
    induction q with
    | zero =>
      intro k c1 c2 μ1 I1 P1 hk hc1 hc2 hM
      have ek : k = 6 := by omega
      subst ek
      have hend := mk_end hM
      obtain ⟨e, kb1, -, -, ⟨⟨r1, r2⟩, r3, r4⟩, ⟨t1, t2⟩, t3, t4⟩ := hM
      refine r_iload_n (pc := 51) hC dX0_init_51 rfl ?_
      refine r_bipush (pc := 52) (v := 6) hC dX0_init_52 (by decide) ?_
      refine r_icmp_ge (pc := 54) (tgt := 76) hC dX0_init_54 (by decide) (fun bq54 => ?_) (fun bq54 => ?_)
      · skip
        refine r_aload_n (pc := 76) hC dX0_init_76 rfl ?_
        refine r_iconst (pc := 77) (v := 3) hC dX0_init_77 (by decide) ?_
        refine r_newi (pc := 78) (N := 3) hC wq_X0_init_12 (by decide) (by decide) (Nat.le_of_ble_eq_true rfl) (by show _ + c1 = _; omega) (fun hq => absurd hq (by omega)) ⟨by show c1 + 1 ≤ 49; omega, by show c2 + 3 ≤ 407; omega⟩ dX0_init_78 ?_
        refine p_Blind_settings (pc := 80) hC hD.2.2.1 rfl wi_X0_init_0 wl_X0_init_25 (by rw [xn_ko (by omega)]; exact kb1) (by omega) dX0_init_80 ?_
        refine r_gFIRST (pc := 83) hC dX0_init_83 ?_
        refine r_iconst (pc := 86) (v := 0) hC dX0_init_86 (by decide) ?_
        refine r_aload_n (pc := 87) hC dX0_init_87 rfl ?_
        refine g_Blind_settings (pc := 88) hC wi_X0_init_0 wl_X0_init_25 (by rw [xn_ko (by omega)]; exact kb1) (c2 := 7) (by rw [xu_at]; exact xn_k) (by decide) dX0_init_88 ?_
        rw [xu_at]
        refine r_iconst (pc := 91) (v := 0) hC dX0_init_91 (by decide) ?_
        refine r_iconst (pc := 92) (v := 3) hC dX0_init_92 (by decide) ?_
        refine r_copyF (pc := 93) hC wq_X0_init_14 wq_X0_init_15 wq_X0_init_16 wq_X0_init_17 xn_k xn_l ⟨Nat.le_of_ble_eq_true rfl, Nat.le_of_ble_eq_true rfl⟩ (Nat.le_of_ble_eq_true rfl) rfl dX0_init_93 ?_
        refine r_aload_n (pc := 96) hC dX0_init_96 rfl ?_
        refine r_iconst (pc := 97) (v := -1) hC dX0_init_97 (by decide) ?_
        refine p_Blind_driven (pc := 98) hC wi_X0_init_0 wl_X0_init_38 (by rw [xn_ko (by omega)]; exact kb1) dX0_init_98 ?_
        refine r_vret (pc := 101) hC hD dX0_init_101 (by show (c1 + 1, c2 + 3) = _; rw [hc1, hc2]) ?_
        obtain ⟨g1, g2, g3, g4, g5⟩ := hend
        exact ⟨rfl, g2, g3, g4, g5, g1⟩
      · skip
        exact absurd (by decide) bq54
    | succ q ih =>
      intro k c1 c2 μ1 I1 P1 hk hc1 hc2 hM
      have hstep := mk2_s hM
      obtain ⟨e, kb1, -, -, ⟨⟨r1, r2⟩, r3, r4⟩, ⟨t1, t2⟩, t3, t4⟩ := hM
      refine r_iload_n (pc := 51) hC dX0_init_51 rfl ?_
      refine r_bipush (pc := 52) (v := 6) hC dX0_init_52 (by decide) ?_
      refine r_icmp_ge (pc := 54) (tgt := 76) hC dX0_init_54 (by decide) (fun bq54 => ?_) (fun bq54 => ?_)
      · skip
        exact absurd bq54 (nI_ge (b := 6) (by omega) (by decide))
      · skip
        refine r_aload_n (pc := 57) hC dX0_init_57 rfl ?_
        refine g_Blind_routes (pc := 58) hC wi_X0_init_0 wl_X0_init_20 kb1 (c2 := 10) (by rw [t3]; exact t1) (by decide) dX0_init_58 ?_
        rw [t3]
        refine r_iload_n (pc := 61) hC dX0_init_61 rfl ?_
        refine r_new (pc := 62) (ci := 1) (kd := 2) hC (fun w hw => wi_X0_init_1 w hw) tyX1 tyX1_ok wq_X0_init_8 wq_X0_init_10 wq_X0_init_11 rfl hf_X1 he_X1 (by show _ + c1 = _; omega) (fun hq => absurd hq (by omega)) ⟨by show c1 + 1 ≤ 49; omega, by show c2 + 3 ≤ 407; omega⟩ dX0_init_62 ?_
        refine r_dup (pc := 65) hC dX0_init_65 rfl ?_
        refine k_X1_init (pc := 66) hC gX0_init_X1_init_n24 wq_X0_init_11 (fun q => q.2.1) wq_X0_init_25 ⟨Nat.le_of_ble_eq_true rfl, Nat.le_of_ble_eq_true rfl⟩ (by show _ + (c1 + 1) = _ + (μ1.1 + 1); omega) (fun hq => absurd hq (by rw [xn_1]; omega)) (Nat.le_of_ble_eq_true rfl) rfl ⟨by show c1 + 1 + 0 ≤ 49; omega, by show c2 + 3 + 0 ≤ 407; omega⟩ dX0_init_66 ?_
        refine r_aast_Route (pc := 69) hC (by rw [xn_ko (by omega)]; exact t1) (xi_n (k := k) (by rw [xn_lo (by omega), t2]; omega) (by rw [xn_lo (by omega), t2]; decide)) xn_k dX0_init_69 ?_
        refine r_iinc (pc := 70) (v := 1) (L' := [_, _]) hC dX0_init_70 rfl (by decide) rfl rfl ?_
        refine r_goto (pc := 73) (tgt := 51) hC dX0_init_73 (by decide) ?_
        rw [nI_1]; exact ih (k + 1) _ _ _ _ _ (by omega) (by show c1 + 1 + 0 = _; omega) (by show c2 + 3 + 0 = _; omega) hstep
  have loop1 : ∀ (q k c1 c2 : Nat) (μ1 : xM) (I1 : xI) (P1 : xP), k + q = 20 → c1 = 1 + 2 * k → c2 = 20 + 18 * k → mk1 b k μ μ1 I I1 P P1 → xg X G (c1, c2) μ1 I1 P1 [some (.ref (xZ G + b)), some (.int (nI k))] 15 [] := by
    intro q
    induction q with
    | zero =>
      intro k c1 c2 μ1 I1 P1 hk hc1 hc2 hM
      have ek : k = 20 := by omega
      subst ek
      have hnext := mk2_0 hM
      obtain ⟨e, kb1, -, -, ⟨⟨r1, r2⟩, r3, r4⟩⟩ := hM
      refine r_iload_n (pc := 15) hC dX0_init_15 rfl ?_
      refine r_bipush (pc := 16) (v := 20) hC dX0_init_16 (by decide) ?_
      refine r_icmp_ge (pc := 18) (tgt := 40) hC dX0_init_18 (by decide) (fun bq18 => ?_) (fun bq18 => ?_)
      · skip
        refine r_aload_n (pc := 40) hC dX0_init_40 rfl ?_
        refine r_bipush (pc := 41) (v := 6) hC dX0_init_41 (by decide) ?_
        refine r_newq (pc := 43) (N := 6) (kd := 10) (t0 := 3) hC wq_X0_init_8 (fun q => q.2.2.2.2.2.2.1) rfl he_Q10 (by decide) (by decide) (Nat.le_of_ble_eq_true rfl) (by show _ + c1 = _; omega) (fun hq => absurd hq (by omega)) ⟨by show c1 + 1 ≤ 49; omega, by show c2 + 6 ≤ 407; omega⟩ dX0_init_43 ?_
        refine p_Blind_routes (pc := 46) hC hD.2.2.1 rfl wi_X0_init_0 wl_X0_init_20 (by rw [xn_ko (by omega)]; exact kb1) (by omega) dX0_init_46 ?_
        refine r_iconst (pc := 49) (v := 0) hC dX0_init_49 (by decide) ?_
        refine r_istore_n (pc := 50) (L' := [_, _]) hC dX0_init_50 rfl (Nat.le_of_ble_eq_true rfl) rfl ?_
        exact loop2 6 0 _ _ _ _ _ (by omega) (by show c1 + 1 = _; omega) (by show c2 + 6 = _; omega) hnext
      · skip
        exact absurd (by decide) bq18
    | succ q ih =>
      intro k c1 c2 μ1 I1 P1 hk hc1 hc2 hM
      have hstep := mk1_s hM
      obtain ⟨e, kb1, -, -, ⟨⟨r1, r2⟩, r3, r4⟩⟩ := hM
      refine r_iload_n (pc := 15) hC dX0_init_15 rfl ?_
      refine r_bipush (pc := 16) (v := 20) hC dX0_init_16 (by decide) ?_
      refine r_icmp_ge (pc := 18) (tgt := 40) hC dX0_init_18 (by decide) (fun bq18 => ?_) (fun bq18 => ?_)
      · skip
        exact absurd bq18 (nI_ge (b := 20) (by omega) (by decide))
      · skip
        refine r_aload_n (pc := 21) hC dX0_init_21 rfl ?_
        refine g_Blind_rows (pc := 22) hC wi_X0_init_0 wl_X0_init_11 kb1 (c2 := 9) (by rw [r3]; exact r1) (by decide) dX0_init_22 ?_
        rw [r3]
        refine r_iload_n (pc := 25) hC dX0_init_25 rfl ?_
        refine r_new (pc := 26) (ci := 2) (kd := 3) hC (fun w hw => wi_X0_init_2 w hw) tyX2 tyX2_ok wq_X0_init_4 wq_X0_init_6 wq_X0_init_7 rfl hf_X2 he_X2 (by show _ + c1 = _; omega) (fun hq => absurd hq (by omega)) ⟨by show c1 + 1 ≤ 49; omega, by show c2 + 4 ≤ 407; omega⟩ dX0_init_26 ?_
        refine r_dup (pc := 29) hC dX0_init_29 rfl ?_
        refine k_X2_init (pc := 30) hC gX0_init_X2_init wq_X0_init_7 wq_X0_init_19 wq_X0_init_20 ⟨Nat.le_of_ble_eq_true rfl, Nat.le_of_ble_eq_true rfl⟩ xn_k (by show _ + (c1 + 1) = _ + (μ1.1 + 1); omega) (fun hq => absurd hq (by rw [xn_1]; omega)) (Nat.le_of_ble_eq_true rfl) rfl ⟨by show c1 + 1 + 1 ≤ 49; omega, by show c2 + 4 + 14 ≤ 407; omega⟩ dX0_init_30 ?_
        refine r_aast_Row (pc := 33) hC (by rw [xn2_k (by omega)]; exact r1) (xi_n (k := k) (by rw [xn2_l (by omega), r2]; omega) (by rw [xn2_l (by omega), r2]; decide)) xn2_t dX0_init_33 ?_
        refine r_iinc (pc := 34) (v := 1) (L' := [_, _]) hC dX0_init_34 rfl (by decide) rfl rfl ?_
        refine r_goto (pc := 37) (tgt := 15) hC dX0_init_37 (by decide) ?_
        rw [nI_1]; exact ih (k + 1) _ _ _ _ _ (by omega) (by show c1 + 1 + 1 = _; omega) (by show c2 + 4 + 14 = _; omega) hstep
  refine r_aload_n (pc := 0) hC dX0_init_0 rfl ?_
  refine r_objInit (pc := 1) hC wq_X0_init_1 wq_X0_init_2 wq_X0_init_3 ⟨Nat.le_of_ble_eq_true rfl, Nat.le_of_ble_eq_true rfl⟩ rfl dX0_init_1 ?_
  refine r_aload_n (pc := 4) hC dX0_init_4 rfl ?_
  refine r_bipush (pc := 5) (v := 20) hC dX0_init_5 (by decide) ?_
  refine r_newq (pc := 7) (N := 20) (kd := 9) (t0 := 2) hC wq_X0_init_4 (fun q => q.2.2.2.2.2.1) rfl he_Q9 (by decide) (by decide) (Nat.le_of_ble_eq_true rfl) hz (fun _ => rfl) ⟨Nat.le_of_ble_eq_true rfl, Nat.le_of_ble_eq_true rfl⟩ dX0_init_7 ?_
  refine p_Blind_rows (pc := 10) hC hD.2.2.1 rfl wi_X0_init_0 wl_X0_init_11 (by rw [xn_ko (by omega)]; exact kb) (by omega) dX0_init_10 ?_
  refine r_iconst (pc := 13) (v := 0) hC dX0_init_13 (by decide) ?_
  refine r_istore_n (pc := 14) (L' := [_, _]) hC dX0_init_14 rfl (Nat.le_of_ble_eq_true rfl) rfl ?_
  exact loop1 20 0 _ _ _ _ _ (by omega) rfl rfl (mk1_0 kb hb hI)
theorem k_X0_init {X : xF} {G : xG} {cs : Nat × Nat} {μ : xM} {I : xI} {P : xP} {L : List (Option Value)} {pc : Nat} {rest : List Value} {cc : ByteArray} {Ts : List Cond} {own : String} {nL : Nat} {R : Room} (hC : xC X G cc Ts own nL R) {index : Nat} {b : Nat} (hG : GoodIn Ts wsX0_init) (hini : Cond.initialized RX0 ∈ Ts) (hlink : Cond.methodLink own index yX0_init ∈ Ts) (hins : Cond.instanceMethod yX0_init ∈ Ts) (hR : rm_X0_init.frames + 1 ≤ R.frames ∧ 8 + (2 + 11) + rm_X0_init.locals ≤ R.locals) (kb : μ.2.1 b = 1) (hb : μ.1 = b) (hI : ∀ j, I b j = 0) (hz : X.2.2.2.2.1.heap.size + cs.1 = xZ G + 1 + μ.1) (h1 : μ.1 = 0 → cs.1 = 0) (hW : (rest.map fun v => v.category).sum ≤ 8) (hL : L.length = nL) (hcs : cs.1 + 49 ≤ R.cells ∧ cs.2 + 407 ≤ R.slots) (hdec : decode cc pc = .ok (.invokespecial index, 3)) (kk : ∀ (μ' : xM) (I' : xI) (P' : xP), bS μ' b → bP P' b → bR I' P' b S00 0 0 → mkF b μ μ' I I' P P' → μ'.1 = b + 49 → xg X G (cs.1 + 49, cs.2 + 407) μ' I' P' L (pc + 3) rest) : xg X G cs μ I P L pc (.ref (xZ G + b) :: rest) :=
  r_callI hC (c_X0_init X.2.1 kb hb hI) hG rfl rfl rfl hini hlink hins rfl hd_X0_init.2 hR hz h1 rfl rfl hW hL hcs hdec (by rintro v μ' I' P' ⟨rfl, g1, g2, g3, g4, g5⟩; exact kk μ' I' P' g1 g2 g3 g4 g5)

