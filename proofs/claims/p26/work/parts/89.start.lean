/-- behind the constructor and the law's six arrays -/
theorem lK_start {μ1 : xM} {I1 : xI} {P1 : xP} (g1 : oS μ1 1) (g2 : oP P1 1) (g3 : oR I1 P1 1 S00 0 0 0 (fun _ _ => 0) 0 (fun _ => 0)) (g5 : μ1.1 = 254) (g6 : μ1.2.1 1 = 5) : lK (xn (xn (xn (xn (xn (xn μ1 7 11) 7 21) 7 21) 7 21) 6 42) 7 18) ∧ oP (xP1 (xn (xn (xn (xn (xn μ1 7 11) 7 21) 7 21) 7 21) 6 42) (xP1 (xn (xn (xn (xn μ1 7 11) 7 21) 7 21) 7 21) (xP1 (xn (xn (xn μ1 7 11) 7 21) 7 21) (xP1 (xn (xn μ1 7 11) 7 21) (xP1 (xn μ1 7 11) (xP1 μ1 P1)))))) 1 ∧ oR (xI1 (xn (xn (xn (xn (xn μ1 7 11) 7 21) 7 21) 7 21) 6 42) (xI1 (xn (xn (xn (xn μ1 7 11) 7 21) 7 21) 7 21) (xI1 (xn (xn (xn μ1 7 11) 7 21) 7 21) (xI1 (xn (xn μ1 7 11) 7 21) (xI1 (xn μ1 7 11) (xI1 μ1 I1)))))) (xP1 (xn (xn (xn (xn (xn μ1 7 11) 7 21) 7 21) 7 21) 6 42) (xP1 (xn (xn (xn (xn μ1 7 11) 7 21) 7 21) 7 21) (xP1 (xn (xn (xn μ1 7 11) 7 21) 7 21) (xP1 (xn (xn μ1 7 11) 7 21) (xP1 (xn μ1 7 11) (xP1 μ1 P1)))))) 1 S00 0 0 0 (fun _ _ => 0) 0 (fun _ => 0) ∧ (xI1 (xn (xn (xn (xn (xn μ1 7 11) 7 21) 7 21) 7 21) 6 42) (xI1 (xn (xn (xn (xn μ1 7 11) 7 21) 7 21) 7 21) (xI1 (xn (xn (xn μ1 7 11) 7 21) 7 21) (xI1 (xn (xn μ1 7 11) 7 21) (xI1 (xn μ1 7 11) (xI1 μ1 I1)))))) 255 = fun _ => 0 := by
  have hk : ∀ c, c ≤ 254 → (xn (xn (xn (xn (xn (xn μ1 7 11) 7 21) 7 21) 7 21) 6 42) 7 18).2.1 c = μ1.2.1 c := fun c hc => by rw [xn_kl (by (try simp only [xn_1]); omega), xn_kl (by (try simp only [xn_1]); omega), xn_kl (by (try simp only [xn_1]); omega), xn_kl (by (try simp only [xn_1]); omega), xn_kl (by (try simp only [xn_1]); omega), xn_kl (by (try simp only [xn_1]); omega)]
  have hl : ∀ c, c ≤ 254 → (xn (xn (xn (xn (xn (xn μ1 7 11) 7 21) 7 21) 7 21) 6 42) 7 18).2.2 c = μ1.2.2 c := fun c hc => by rw [xn_ll (by (try simp only [xn_1]); omega), xn_ll (by (try simp only [xn_1]); omega), xn_ll (by (try simp only [xn_1]); omega), xn_ll (by (try simp only [xn_1]); omega), xn_ll (by (try simp only [xn_1]); omega), xn_ll (by (try simp only [xn_1]); omega)]
  have hI : ∀ c, c ≤ 254 → (xI1 (xn (xn (xn (xn (xn μ1 7 11) 7 21) 7 21) 7 21) 6 42) (xI1 (xn (xn (xn (xn μ1 7 11) 7 21) 7 21) 7 21) (xI1 (xn (xn (xn μ1 7 11) 7 21) 7 21) (xI1 (xn (xn μ1 7 11) 7 21) (xI1 (xn μ1 7 11) (xI1 μ1 I1)))))) c = I1 c := fun c hc => by rw [xI1_l (by (try simp only [xn_1]); omega), xI1_l (by (try simp only [xn_1]); omega), xI1_l (by (try simp only [xn_1]); omega), xI1_l (by (try simp only [xn_1]); omega), xI1_l (by (try simp only [xn_1]); omega), xI1_l (by (try simp only [xn_1]); omega)]
  have hP : ∀ c, c ≤ 254 → (xP1 (xn (xn (xn (xn (xn μ1 7 11) 7 21) 7 21) 7 21) 6 42) (xP1 (xn (xn (xn (xn μ1 7 11) 7 21) 7 21) 7 21) (xP1 (xn (xn (xn μ1 7 11) 7 21) 7 21) (xP1 (xn (xn μ1 7 11) 7 21) (xP1 (xn μ1 7 11) (xP1 μ1 P1)))))) c = P1 c := fun c hc => by rw [xP1_l (by (try simp only [xn_1]); omega), xP1_l (by (try simp only [xn_1]); omega), xP1_l (by (try simp only [xn_1]); omega), xP1_l (by (try simp only [xn_1]); omega), xP1_l (by (try simp only [xn_1]); omega), xP1_l (by (try simp only [xn_1]); omega)]
  have a0 : (255 : Nat) = μ1.1 + 1 := by (try simp only [xn_1]); omega
  have a1 : (256 : Nat) = (xn μ1 7 11).1 + 1 := by (try simp only [xn_1]); omega
  have a2 : (257 : Nat) = (xn (xn μ1 7 11) 7 21).1 + 1 := by (try simp only [xn_1]); omega
  have a3 : (258 : Nat) = (xn (xn (xn μ1 7 11) 7 21) 7 21).1 + 1 := by (try simp only [xn_1]); omega
  have a4 : (259 : Nat) = (xn (xn (xn (xn μ1 7 11) 7 21) 7 21) 7 21).1 + 1 := by (try simp only [xn_1]); omega
  have a5 : (260 : Nat) = (xn (xn (xn (xn (xn μ1 7 11) 7 21) 7 21) 7 21) 6 42).1 + 1 := by (try simp only [xn_1]); omega
  refine ⟨⟨by rw [hk 1 (by decide)]; exact g6, oS_far g1 (fun c h1 h2 => ⟨hk c (by omega), hl c (by omega)⟩), ⟨by rw [xn_kl (by (try simp only [xn_1]); omega), xn_kl (by (try simp only [xn_1]); omega), xn_kl (by (try simp only [xn_1]); omega), xn_kl (by (try simp only [xn_1]); omega), xn_kl (by (try simp only [xn_1]); omega), a0]; exact xn_k, by rw [xn_ll (by (try simp only [xn_1]); omega), xn_ll (by (try simp only [xn_1]); omega), xn_ll (by (try simp only [xn_1]); omega), xn_ll (by (try simp only [xn_1]); omega), xn_ll (by (try simp only [xn_1]); omega), a0]; exact xn_l⟩, ⟨by rw [xn_kl (by (try simp only [xn_1]); omega), xn_kl (by (try simp only [xn_1]); omega), xn_kl (by (try simp only [xn_1]); omega), xn_kl (by (try simp only [xn_1]); omega), a1]; exact xn_k, by rw [xn_ll (by (try simp only [xn_1]); omega), xn_ll (by (try simp only [xn_1]); omega), xn_ll (by (try simp only [xn_1]); omega), xn_ll (by (try simp only [xn_1]); omega), a1]; exact xn_l⟩, ⟨by rw [xn_kl (by (try simp only [xn_1]); omega), xn_kl (by (try simp only [xn_1]); omega), xn_kl (by (try simp only [xn_1]); omega), a2]; exact xn_k, by rw [xn_ll (by (try simp only [xn_1]); omega), xn_ll (by (try simp only [xn_1]); omega), xn_ll (by (try simp only [xn_1]); omega), a2]; exact xn_l⟩, ⟨by rw [xn_kl (by (try simp only [xn_1]); omega), xn_kl (by (try simp only [xn_1]); omega), a3]; exact xn_k, by rw [xn_ll (by (try simp only [xn_1]); omega), xn_ll (by (try simp only [xn_1]); omega), a3]; exact xn_l⟩, ⟨by rw [xn_kl (by (try simp only [xn_1]); omega), a4]; exact xn_k, by rw [xn_ll (by (try simp only [xn_1]); omega), a4]; exact xn_l⟩, ⟨by rw [a5]; exact xn_k, by rw [a5]; exact xn_l⟩⟩, oP_far g2 (fun c h1 h2 => hP c (by omega)), ?_, ?_⟩
  · exact oR_farP g2 inv_00 g3 (fun c h1 h2 => hP c (by omega)) |> fun z => oR_far (oP_far g2 (fun c h1 h2 => hP c (by omega))) inv_00 z (fun c h1 h2 => hI c (by omega))
  · rw [xI1_l (by (try simp only [xn_1]); omega), xI1_l (by (try simp only [xn_1]); omega), xI1_l (by (try simp only [xn_1]); omega), xI1_l (by (try simp only [xn_1]); omega), xI1_l (by (try simp only [xn_1]); omega), a0]; exact xI1_at
set_option maxHeartbeats 4000000 in
set_option maxRecDepth 100000 in
/-- THE LAW, from its entry -/
theorem whole_start {p : Program} {e : Env} {s : State} {m : MethodId} {below : List Frame} {meth : Method} {c : Code} (l : Launch) (hflags : l.flags = flags0) {b L : Nat} {xs : Nat → Int32} (hL : L ≤ 260) (C0 : lw_At p s m meth c b L xs) : W p l e room_1 s m #[Value.ref b] below meth c s.heap [] 0 0 (lw_Z below #[Value.ref b] s) (entryFrame m ([Value.ref b] : List Value).toArray 11) := by
  obtain ⟨hx, hb, hr, hml, hown, hts, hX, hbl, hlocks, hgv⟩ := C0
  obtain ⟨G, hG1, hG9, hV⟩ := xV_start hts hgv hbl hL hX
  have hl := lv_entry ([.ref b]) (n := 11) (Nat.le_of_ble_eq_true rfl)
  rw [lg_entry_eq]
  generalize (lg_sl ([.ref b]) ++ List.replicate (11 - (lg_sl ([.ref b])).length) Slot.unset).toArray = ls at hl ⊢
  have hl : lv_has ls 11 (xL 0 [some (.ref b), none, none, none, none, none, none, none, none, none, none]) := hl
  obtain ⟨X, hXe⟩ : ∃ X : xF, X = (p, l, e, room_1, s, m, #[Value.ref b], below, meth, c, lw_Z below #[Value.ref b] s) := ⟨_, rfl⟩
  have hC : xC X G cL_law wsL_law RL 11 room_1 := by rw [hXe]; exact ⟨hx, hb, hml, hown, fun w hw => hts w (wsL_law_in w hw), hV, rfl⟩
  have hsz : X.2.2.2.2.1.heap.size = xZ G + 1 := by rw [hXe]; exact hG1.symm
  have hE : ∀ (μ : xM) (I : xI) (P : xP) (Lc : List (Option Value)), xg X G (260, 2294) μ I P Lc 317 [.int 1] := by
    intro μ I P Lc
    rw [hXe]
    intro H locs ls h0 hP hS hl
    refine va_forget (fun q hq => ?_) ?_
    · have h9 : xZ G < q.base := hS.2.2 q hq
      show s.heap.size ≤ q.base
      omega
    · refine W.widen (k := 652840) (n := 7143727) (Nat.le_of_ble_eq_true rfl) (Nat.le_of_ble_eq_true rfl) ?_
      exact lw_ret hx hb hr hlocks dL_law_317
  suffices main : xg X G (0, 0) (0, fun _ => 0, fun _ => 0) (fun _ _ => 0) (fun _ _ => 0) [some (.ref b), none, none, none, none, none, none, none, none, none, none] 0 [] by
    rw [hXe] at main
    exact main s.heap [] ls ⟨⟨rfl, fun _ _ => rfl⟩, fun a k h => absurd (show (0 : Nat) = 8 from h) (by decide), fun a h => absurd (show (0 : Nat) = 3 from h) (by decide)⟩ (fun k q h => by simp [xw] at h) va_S.rf hl
  refine r_new (pc := 0) (ci := 4) (kd := 5) hC (fun w hw => inlX4 w hw) tyX4 tyX4_ok (show Cond.classLink RL 45 RX4 ∈ wsL_law from List.mem_of_getElem? (i := 0) (by decide +kernel)) (show Cond.instantiable RX4 4 ∈ wsL_law from List.mem_of_getElem? (i := 1) (by decide +kernel)) (show Cond.initialized RX4 ∈ wsL_law from List.mem_of_getElem? (i := 2) (by decide +kernel)) rfl hf_X4 he_X4 (by rw [hsz]) (fun _ => rfl) ⟨Nat.le_of_ble_eq_true rfl, Nat.le_of_ble_eq_true rfl⟩ dL_law_0 ?_
  refine r_dup (pc := 3) hC dL_law_3 rfl ?_
  refine k_X4_init (pc := 4) (h := 1) (H := fun _ _ => 0) hC gL_law_X4_init (show Cond.initialized RX4 ∈ wsL_law from List.mem_of_getElem? (i := 2) (by decide +kernel)) (show Cond.methodLink RL 137 yX4_init ∈ wsL_law from List.mem_of_getElem? (i := 7) (by decide +kernel)) (show Cond.instanceMethod yX4_init ∈ wsL_law from List.mem_of_getElem? (i := 8) (by decide +kernel)) ⟨Nat.le_of_ble_eq_true rfl, Nat.le_of_ble_eq_true rfl⟩ xn_k rfl (by rw [hsz]; rfl) (fun h => absurd h (by decide)) (Nat.le_of_ble_eq_true rfl) rfl ⟨Nat.le_of_ble_eq_true rfl, Nat.le_of_ble_eq_true rfl⟩ dL_law_4 ?_
  intro μ1 I1 P1 g1 g2 g3 g4 g5 g6
  have g5 : μ1.1 = 254 := g5
  refine r_astore_n (pc := 7) (L' := [_, _, _, _, _, _, _, _, _, _, _]) hC dL_law_7 rfl (Nat.le_of_ble_eq_true rfl) rfl ?_
  refine r_bipush (pc := 8) (v := 11) hC dL_law_8 (by decide) ?_
  refine r_newi (pc := 10) (N := 11) hC (show Cond.arrayClass .int ∈ wsL_law from List.mem_of_getElem? (i := 3) (by decide +kernel)) (by decide) rfl (Nat.le_of_ble_eq_true rfl) (by rw [hsz]; (try simp only [xn_1]); omega) (fun h => absurd h (by (try simp only [xn_1]); omega)) ⟨Nat.le_of_ble_eq_true rfl, Nat.le_of_ble_eq_true rfl⟩ dL_law_10 ?_
  rw [show xZ G + (μ1.1 + 1) = xZ G + 255 from by (try simp only [xn_1]); omega]
  refine r_astore_n (pc := 12) (L' := [_, _, _, _, _, _, _, _, _, _, _]) hC dL_law_12 rfl (Nat.le_of_ble_eq_true rfl) rfl ?_
  refine r_bipush (pc := 13) (v := 21) hC dL_law_13 (by decide) ?_
  refine r_newi (pc := 15) (N := 21) hC (show Cond.arrayClass .int ∈ wsL_law from List.mem_of_getElem? (i := 3) (by decide +kernel)) (by decide) rfl (Nat.le_of_ble_eq_true rfl) (by rw [hsz]; (try simp only [xn_1]); omega) (fun h => absurd h (by (try simp only [xn_1]); omega)) ⟨Nat.le_of_ble_eq_true rfl, Nat.le_of_ble_eq_true rfl⟩ dL_law_15 ?_
  rw [show xZ G + ((xn μ1 7 11).1 + 1) = xZ G + 256 from by (try simp only [xn_1]); omega]
  refine r_astore_n (pc := 17) (L' := [_, _, _, _, _, _, _, _, _, _, _]) hC dL_law_17 rfl (Nat.le_of_ble_eq_true rfl) rfl ?_
  refine r_bipush (pc := 18) (v := 21) hC dL_law_18 (by decide) ?_
  refine r_newi (pc := 20) (N := 21) hC (show Cond.arrayClass .int ∈ wsL_law from List.mem_of_getElem? (i := 3) (by decide +kernel)) (by decide) rfl (Nat.le_of_ble_eq_true rfl) (by rw [hsz]; (try simp only [xn_1]); omega) (fun h => absurd h (by (try simp only [xn_1]); omega)) ⟨Nat.le_of_ble_eq_true rfl, Nat.le_of_ble_eq_true rfl⟩ dL_law_20 ?_
  rw [show xZ G + ((xn (xn μ1 7 11) 7 21).1 + 1) = xZ G + 257 from by (try simp only [xn_1]); omega]
  refine r_astore (pc := 22) (L' := [_, _, _, _, _, _, _, _, _, _, _]) hC dL_law_22 rfl (Nat.le_of_ble_eq_true rfl) rfl ?_
  refine r_bipush (pc := 24) (v := 21) hC dL_law_24 (by decide) ?_
  refine r_newi (pc := 26) (N := 21) hC (show Cond.arrayClass .int ∈ wsL_law from List.mem_of_getElem? (i := 3) (by decide +kernel)) (by decide) rfl (Nat.le_of_ble_eq_true rfl) (by rw [hsz]; (try simp only [xn_1]); omega) (fun h => absurd h (by (try simp only [xn_1]); omega)) ⟨Nat.le_of_ble_eq_true rfl, Nat.le_of_ble_eq_true rfl⟩ dL_law_26 ?_
  rw [show xZ G + ((xn (xn (xn μ1 7 11) 7 21) 7 21).1 + 1) = xZ G + 258 from by (try simp only [xn_1]); omega]
  refine r_astore (pc := 28) (L' := [_, _, _, _, _, _, _, _, _, _, _]) hC dL_law_28 rfl (Nat.le_of_ble_eq_true rfl) rfl ?_
  refine r_bipush (pc := 30) (v := 42) hC dL_law_30 (by decide) ?_
  refine r_newl (pc := 32) (N := 42) hC (show Cond.arrayClass .long ∈ wsL_law from List.mem_of_getElem? (i := 4) (by decide +kernel)) (by decide) rfl (Nat.le_of_ble_eq_true rfl) (by rw [hsz]; (try simp only [xn_1]); omega) (fun h => absurd h (by (try simp only [xn_1]); omega)) ⟨Nat.le_of_ble_eq_true rfl, Nat.le_of_ble_eq_true rfl⟩ dL_law_32 ?_
  rw [show xZ G + ((xn (xn (xn (xn μ1 7 11) 7 21) 7 21) 7 21).1 + 1) = xZ G + 259 from by (try simp only [xn_1]); omega]
  refine r_astore (pc := 34) (L' := [_, _, _, _, _, _, _, _, _, _, _]) hC dL_law_34 rfl (Nat.le_of_ble_eq_true rfl) rfl ?_
  refine r_bipush (pc := 36) (v := 18) hC dL_law_36 (by decide) ?_
  refine r_newi (pc := 38) (N := 18) hC (show Cond.arrayClass .int ∈ wsL_law from List.mem_of_getElem? (i := 3) (by decide +kernel)) (by decide) rfl (Nat.le_of_ble_eq_true rfl) (by rw [hsz]; (try simp only [xn_1]); omega) (fun h => absurd h (by (try simp only [xn_1]); omega)) ⟨Nat.le_of_ble_eq_true rfl, Nat.le_of_ble_eq_true rfl⟩ dL_law_38 ?_
  rw [show xZ G + ((xn (xn (xn (xn (xn μ1 7 11) 7 21) 7 21) 7 21) 6 42).1 + 1) = xZ G + 260 from by (try simp only [xn_1]); omega]
  refine r_astore (pc := 40) (L' := [_, _, _, _, _, _, _, _, _, _, _]) hC dL_law_40 rfl (Nat.le_of_ble_eq_true rfl) rfl ?_
  obtain ⟨w1, w2, w3, w4⟩ := lK_start g1 g2 g3 g5 g6
  have z := s_L_law_42 hC w1 w2 w3 w4 hE
  rw [hG9] at z
  exact z
