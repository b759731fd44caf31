/-- behind both constructors -/
theorem wL_start {μ1 : xM} {I1 : xI} {P1 : xP} (g1 : oS μ1 1) (g2 : oP P1 1) (g3 : oR I1 P1 1 S00 0 0 0 (fun _ _ => 0) 0 (fun _ => 0)) (g5 : μ1.1 = 254) (g6 : μ1.2.1 1 = 5) : oS (xn (xn (xn (xn (xn μ1 6 0) 7 369) 7 1476) 7 369) 7 60) 1 ∧ (xn (xn (xn (xn (xn μ1 6 0) 7 369) 7 1476) 7 369) 7 60).2.1 1 = 5 ∧ wL (xn (xn (xn (xn (xn μ1 6 0) 7 369) 7 1476) 7 369) 7 60) (xu (xu (xu (xu (xu (xI1 (xn (xn (xn (xn μ1 6 0) 7 369) 7 1476) 7 369) (xI1 (xn (xn (xn μ1 6 0) 7 369) 7 1476) (xI1 (xn (xn μ1 6 0) 7 369) (xI1 (xn μ1 6 0) (xI1 μ1 I1))))) ((xn μ1 6 0).1 + 1) 1 (-1)) ((xn μ1 6 0).1 + 1) 3 (-1)) ((xn μ1 6 0).1 + 1) 8 24) ((xn μ1 6 0).1 + 1) 9 30) ((xn μ1 6 0).1 + 1) 10 10) (xu (xP1 (xn (xn (xn (xn μ1 6 0) 7 369) 7 1476) 7 369) (xu (xP1 (xn (xn (xn μ1 6 0) 7 369) 7 1476) (xu (xP1 (xn (xn μ1 6 0) 7 369) (xu (xP1 (xn μ1 6 0) (xP1 μ1 P1)) 255 0 ((xn μ1 6 0).1 + 1))) 255 1 ((xn (xn μ1 6 0) 7 369).1 + 1))) 255 2 ((xn (xn (xn μ1 6 0) 7 369) 7 1476).1 + 1))) 255 4 ((xn (xn (xn (xn μ1 6 0) 7 369) 7 1476) 7 369).1 + 1)) := by
  have e2 : (xn μ1 6 0).1 = 255 := by rw [xn_1, g5]
  have hk : ∀ c, c ≤ 254 → (xn (xn (xn (xn (xn μ1 6 0) 7 369) 7 1476) 7 369) 7 60).2.1 c = μ1.2.1 c := fun c hc => by rw [xn_kl (by (try simp only [xn_1]); omega), xn_kl (by (try simp only [xn_1]); omega), xn_kl (by (try simp only [xn_1]); omega), xn_kl (by (try simp only [xn_1]); omega), xn_kl (by (try simp only [xn_1]); omega)]
  have hl : ∀ c, c ≤ 254 → (xn (xn (xn (xn (xn μ1 6 0) 7 369) 7 1476) 7 369) 7 60).2.2 c = μ1.2.2 c := fun c hc => by rw [xn_ll (by (try simp only [xn_1]); omega), xn_ll (by (try simp only [xn_1]); omega), xn_ll (by (try simp only [xn_1]); omega), xn_ll (by (try simp only [xn_1]); omega), xn_ll (by (try simp only [xn_1]); omega)]
  have hI : ∀ c, c ≤ 254 → (xu (xu (xu (xu (xu (xI1 (xn (xn (xn (xn μ1 6 0) 7 369) 7 1476) 7 369) (xI1 (xn (xn (xn μ1 6 0) 7 369) 7 1476) (xI1 (xn (xn μ1 6 0) 7 369) (xI1 (xn μ1 6 0) (xI1 μ1 I1))))) ((xn μ1 6 0).1 + 1) 1 (-1)) ((xn μ1 6 0).1 + 1) 3 (-1)) ((xn μ1 6 0).1 + 1) 8 24) ((xn μ1 6 0).1 + 1) 9 30) ((xn μ1 6 0).1 + 1) 10 10) c = I1 c := fun c hc => by rw [xu_row (by rw [e2]; omega), xu_row (by rw [e2]; omega), xu_row (by rw [e2]; omega), xu_row (by rw [e2]; omega), xu_row (by rw [e2]; omega), xI1_l (by (try simp only [xn_1]); omega), xI1_l (by (try simp only [xn_1]); omega), xI1_l (by (try simp only [xn_1]); omega), xI1_l (by (try simp only [xn_1]); omega), xI1_l (by (try simp only [xn_1]); omega)]
  have hP : ∀ c, c ≤ 254 → (xu (xP1 (xn (xn (xn (xn μ1 6 0) 7 369) 7 1476) 7 369) (xu (xP1 (xn (xn (xn μ1 6 0) 7 369) 7 1476) (xu (xP1 (xn (xn μ1 6 0) 7 369) (xu (xP1 (xn μ1 6 0) (xP1 μ1 P1)) 255 0 ((xn μ1 6 0).1 + 1))) 255 1 ((xn (xn μ1 6 0) 7 369).1 + 1))) 255 2 ((xn (xn (xn μ1 6 0) 7 369) 7 1476).1 + 1))) 255 4 ((xn (xn (xn (xn μ1 6 0) 7 369) 7 1476) 7 369).1 + 1)) c = P1 c := fun c hc => by rw [xu_row (by omega), xP1_l (by (try simp only [xn_1]); omega), xu_row (by omega), xP1_l (by (try simp only [xn_1]); omega), xu_row (by omega), xP1_l (by (try simp only [xn_1]); omega), xu_row (by omega), xP1_l (by (try simp only [xn_1]); omega), xP1_l (by (try simp only [xn_1]); omega)]
  have q0 : (xu (xP1 (xn (xn (xn (xn μ1 6 0) 7 369) 7 1476) 7 369) (xu (xP1 (xn (xn (xn μ1 6 0) 7 369) 7 1476) (xu (xP1 (xn (xn μ1 6 0) 7 369) (xu (xP1 (xn μ1 6 0) (xP1 μ1 P1)) 255 0 ((xn μ1 6 0).1 + 1))) 255 1 ((xn (xn μ1 6 0) 7 369).1 + 1))) 255 2 ((xn (xn (xn μ1 6 0) 7 369) 7 1476).1 + 1))) 255 4 ((xn (xn (xn (xn μ1 6 0) 7 369) 7 1476) 7 369).1 + 1)) 255 0 = 255 + 1 := by rw [xu_ne (Or.inr (by decide)), xP1_l (by (try simp only [xn_1]); omega), xu_ne (Or.inr (by decide)), xP1_l (by (try simp only [xn_1]); omega), xu_ne (Or.inr (by decide)), xP1_l (by (try simp only [xn_1]); omega), xu_at, e2]
  have q1 : (xu (xP1 (xn (xn (xn (xn μ1 6 0) 7 369) 7 1476) 7 369) (xu (xP1 (xn (xn (xn μ1 6 0) 7 369) 7 1476) (xu (xP1 (xn (xn μ1 6 0) 7 369) (xu (xP1 (xn μ1 6 0) (xP1 μ1 P1)) 255 0 ((xn μ1 6 0).1 + 1))) 255 1 ((xn (xn μ1 6 0) 7 369).1 + 1))) 255 2 ((xn (xn (xn μ1 6 0) 7 369) 7 1476).1 + 1))) 255 4 ((xn (xn (xn (xn μ1 6 0) 7 369) 7 1476) 7 369).1 + 1)) 255 1 = 255 + 2 := by rw [xu_ne (Or.inr (by decide)), xP1_l (by (try simp only [xn_1]); omega), xu_ne (Or.inr (by decide)), xP1_l (by (try simp only [xn_1]); omega), xu_at]; simp only [xn_1]; omega
  have q2 : (xu (xP1 (xn (xn (xn (xn μ1 6 0) 7 369) 7 1476) 7 369) (xu (xP1 (xn (xn (xn μ1 6 0) 7 369) 7 1476) (xu (xP1 (xn (xn μ1 6 0) 7 369) (xu (xP1 (xn μ1 6 0) (xP1 μ1 P1)) 255 0 ((xn μ1 6 0).1 + 1))) 255 1 ((xn (xn μ1 6 0) 7 369).1 + 1))) 255 2 ((xn (xn (xn μ1 6 0) 7 369) 7 1476).1 + 1))) 255 4 ((xn (xn (xn (xn μ1 6 0) 7 369) 7 1476) 7 369).1 + 1)) 255 2 = 255 + 3 := by rw [xu_ne (Or.inr (by decide)), xP1_l (by (try simp only [xn_1]); omega), xu_at]; simp only [xn_1]; omega
  have q4 : (xu (xP1 (xn (xn (xn (xn μ1 6 0) 7 369) 7 1476) 7 369) (xu (xP1 (xn (xn (xn μ1 6 0) 7 369) 7 1476) (xu (xP1 (xn (xn μ1 6 0) 7 369) (xu (xP1 (xn μ1 6 0) (xP1 μ1 P1)) 255 0 ((xn μ1 6 0).1 + 1))) 255 1 ((xn (xn μ1 6 0) 7 369).1 + 1))) 255 2 ((xn (xn (xn μ1 6 0) 7 369) 7 1476).1 + 1))) 255 4 ((xn (xn (xn (xn μ1 6 0) 7 369) 7 1476) 7 369).1 + 1)) 255 4 = 255 + 4 := by rw [xu_at]; simp only [xn_1]; omega
  have k6 : (xn (xn (xn (xn (xn μ1 6 0) 7 369) 7 1476) 7 369) 7 60).2.1 255 = 6 := by rw [xn_kl (by (try simp only [xn_1]); omega), xn_kl (by (try simp only [xn_1]); omega), xn_kl (by (try simp only [xn_1]); omega), xn_kl (by (try simp only [xn_1]); omega), show 255 = μ1.1 + 1 by omega]; exact xn_k
  have a1 : (255 + 1 : Nat) = (xn μ1 6 0).1 + 1 := by omega
  have a2 : (255 + 2 : Nat) = (xn (xn μ1 6 0) 7 369).1 + 1 := by simp only [xn_1]; omega
  have a3 : (255 + 3 : Nat) = (xn (xn (xn μ1 6 0) 7 369) 7 1476).1 + 1 := by simp only [xn_1]; omega
  have a4 : (255 + 4 : Nat) = (xn (xn (xn (xn μ1 6 0) 7 369) 7 1476) 7 369).1 + 1 := by simp only [xn_1]; omega
  have hKK : wK (xn (xn (xn (xn (xn μ1 6 0) 7 369) 7 1476) 7 369) 7 60) (xu (xP1 (xn (xn (xn (xn μ1 6 0) 7 369) 7 1476) 7 369) (xu (xP1 (xn (xn (xn μ1 6 0) 7 369) 7 1476) (xu (xP1 (xn (xn μ1 6 0) 7 369) (xu (xP1 (xn μ1 6 0) (xP1 μ1 P1)) 255 0 ((xn μ1 6 0).1 + 1))) 255 1 ((xn (xn μ1 6 0) 7 369).1 + 1))) 255 2 ((xn (xn (xn μ1 6 0) 7 369) 7 1476).1 + 1))) 255 4 ((xn (xn (xn (xn μ1 6 0) 7 369) 7 1476) 7 369).1 + 1)) 255 := by
    refine ⟨k6, ⟨?_, ?_⟩, ⟨?_, ?_⟩, ⟨?_, ?_⟩, ⟨?_, ?_⟩, q0, q1, q2, q4⟩
    · rw [xn_kl (by (try simp only [xn_1]); omega), xn_kl (by (try simp only [xn_1]); omega), xn_kl (by (try simp only [xn_1]); omega), a1]; exact xn_k
    · rw [xn_ll (by (try simp only [xn_1]); omega), xn_ll (by (try simp only [xn_1]); omega), xn_ll (by (try simp only [xn_1]); omega), a1]; exact xn_l
    · rw [xn_kl (by (try simp only [xn_1]); omega), xn_kl (by (try simp only [xn_1]); omega), a2]; exact xn_k
    · rw [xn_ll (by (try simp only [xn_1]); omega), xn_ll (by (try simp only [xn_1]); omega), a2]; exact xn_l
    · rw [xn_kl (by (try simp only [xn_1]); omega), a3]; exact xn_k
    · rw [xn_ll (by (try simp only [xn_1]); omega), a3]; exact xn_l
    · rw [a4]; exact xn_k
    · rw [a4]; exact xn_l
  have z256 : (xI1 (xn (xn (xn (xn μ1 6 0) 7 369) 7 1476) 7 369) (xI1 (xn (xn (xn μ1 6 0) 7 369) 7 1476) (xI1 (xn (xn μ1 6 0) 7 369) (xI1 (xn μ1 6 0) (xI1 μ1 I1))))) ((xn μ1 6 0).1 + 1) = fun _ => 0 := by rw [xI1_l (by (try simp only [xn_1]); omega), xI1_l (by (try simp only [xn_1]); omega), xI1_l (by (try simp only [xn_1]); omega), xI1_at]
  have hS : (xu (xu (xu (xu (xu (xI1 (xn (xn (xn (xn μ1 6 0) 7 369) 7 1476) 7 369) (xI1 (xn (xn (xn μ1 6 0) 7 369) 7 1476) (xI1 (xn (xn μ1 6 0) 7 369) (xI1 (xn μ1 6 0) (xI1 μ1 I1))))) ((xn μ1 6 0).1 + 1) 1 (-1)) ((xn μ1 6 0).1 + 1) 3 (-1)) ((xn μ1 6 0).1 + 1) 8 24) ((xn μ1 6 0).1 + 1) 9 30) ((xn μ1 6 0).1 + 1) 10 10) (255 + 1) = S00 := by
    rw [a1]
    funext j
    unfold S00
    by_cases h10 : j = 10
    · subst h10; rw [xu_at]; rfl
    · by_cases h9 : j = 9
      · subst h9; rw [xu_ne (Or.inr (by decide)), xu_at]; rfl
      · by_cases h8 : j = 8
        · subst h8; rw [xu_ne (Or.inr (by decide)), xu_ne (Or.inr (by decide)), xu_at]; rfl
        · by_cases h3 : j = 3
          · subst h3; rw [xu_ne (Or.inr (by decide)), xu_ne (Or.inr (by decide)), xu_ne (Or.inr (by decide)), xu_at]; rfl
          · by_cases h1 : j = 1
            · subst h1; rw [xu_ne (Or.inr (by decide)), xu_ne (Or.inr (by decide)), xu_ne (Or.inr (by decide)), xu_ne (Or.inr (by decide)), xu_at]; rfl
            · rw [xu_ne (Or.inr h10), xu_ne (Or.inr h9), xu_ne (Or.inr h8), xu_ne (Or.inr h3), xu_ne (Or.inr h1), z256, if_neg h1, if_neg h3, if_neg h8, if_neg h9, if_neg h10]
  have hm : ∀ j, (xu (xu (xu (xu (xu (xI1 (xn (xn (xn (xn μ1 6 0) 7 369) 7 1476) 7 369) (xI1 (xn (xn (xn μ1 6 0) 7 369) 7 1476) (xI1 (xn (xn μ1 6 0) 7 369) (xI1 (xn μ1 6 0) (xI1 μ1 I1))))) ((xn μ1 6 0).1 + 1) 1 (-1)) ((xn μ1 6 0).1 + 1) 3 (-1)) ((xn μ1 6 0).1 + 1) 8 24) ((xn μ1 6 0).1 + 1) 9 30) ((xn μ1 6 0).1 + 1) 10 10) 255 j = 0 := fun j => by rw [xu_row (by rw [e2]; omega), xu_row (by rw [e2]; omega), xu_row (by rw [e2]; omega), xu_row (by rw [e2]; omega), xu_row (by rw [e2]; omega), xI1_l (by (try simp only [xn_1]); omega), xI1_l (by (try simp only [xn_1]); omega), xI1_l (by (try simp only [xn_1]); omega), xI1_l (by (try simp only [xn_1]); omega), show 255 = μ1.1 + 1 by omega, xI1_at]
  have ht : (xu (xu (xu (xu (xu (xI1 (xn (xn (xn (xn μ1 6 0) 7 369) 7 1476) 7 369) (xI1 (xn (xn (xn μ1 6 0) 7 369) 7 1476) (xI1 (xn (xn μ1 6 0) 7 369) (xI1 (xn μ1 6 0) (xI1 μ1 I1))))) ((xn μ1 6 0).1 + 1) 1 (-1)) ((xn μ1 6 0).1 + 1) 3 (-1)) ((xn μ1 6 0).1 + 1) 8 24) ((xn μ1 6 0).1 + 1) 9 30) ((xn μ1 6 0).1 + 1) 10 10) (255 + 4) = fun _ => 0 := by rw [xu_row (by rw [e2]; omega), xu_row (by rw [e2]; omega), xu_row (by rw [e2]; omega), xu_row (by rw [e2]; omega), xu_row (by rw [e2]; omega), a4, xI1_at]
  refine ⟨oS_far g1 (fun c h1 h2 => ⟨hk c (by omega), hl c (by omega)⟩), by rw [hk 1 (by decide)]; exact g6, S00, 0, 0, 0, (fun _ _ => 0), 0, (fun _ => 0), oP_far g2 (fun c h1 h2 => hP c (by omega)), ?_, inv_00, hKK, hS, hm 3, hm 5, ht, fun k hk => absurd hk (by omega)⟩
  exact oR_farP g2 inv_00 g3 (fun c h1 h2 => hP c (by omega)) |> fun z => oR_far (oP_far g2 (fun c h1 h2 => hP c (by omega))) inv_00 z (fun c h1 h2 => hI c (by omega))
set_option maxHeartbeats 4000000 in
set_option maxRecDepth 100000 in
/-- THE LAW, from its entry -/
theorem whole_start {p : Program} {e : Env} {s : State} {m : MethodId} {below : List Frame} {meth : Method} {c : Code} (l : Launch) (hflags : l.flags = flags0) {b L : Nat} {xs : Nat → Int32} (hL : L ≤ 2048) (C0 : lw_At p s m meth c b L xs) : W p l e room_1 s m #[Value.ref b] below meth c s.heap [] 0 0 (lw_Z below #[Value.ref b] s) (entryFrame m ([Value.ref b] : List Value).toArray 4) := by
  obtain ⟨hx, hb, hr, hml, hown, hts, hX, hbl, hlocks, hgv⟩ := C0
  obtain ⟨G, hG1, hV⟩ := xV_start hts hgv hbl
  have hl := lv_entry ([.ref b]) (n := 4) (Nat.le_of_ble_eq_true rfl)
  rw [lg_entry_eq]
  generalize (lg_sl ([.ref b]) ++ List.replicate (4 - (lg_sl ([.ref b])).length) Slot.unset).toArray = ls at hl ⊢
  have hl : lv_has ls 4 (xL 0 [some (.ref b), none, none, none]) := hl
  obtain ⟨X, hXe⟩ : ∃ X : xF, X = (p, l, e, room_1, s, m, #[Value.ref b], below, meth, c, lw_Z below #[Value.ref b] s) := ⟨_, rfl⟩
  have hC : xC X G cL_law wsL_law RL 4 room_1 := by rw [hXe]; exact ⟨hx, hb, hml, hown, fun w hw => hts w (wsL_law_in w hw), hV, rfl⟩
  have hbA : ¬ xA G b := by show ¬ (xZ G < b); omega
  have hsz : X.2.2.2.2.1.heap.size = xZ G + 1 := by rw [hXe]; exact hG1.symm
  have hX' : va_X b L xs X.2.2.2.2.1 X.2.2.2.2.1.heap := by rw [hXe]; exact hX
  have hbl' : b < X.2.2.2.2.1.heap.size := by rw [hXe]; exact hbl
  have hE : ∀ (μ : xM) (I : xI) (P : xP) (Lc : List (Option Value)), xg X G (259, 4447) μ I P Lc 706 [.int 1] := by
    intro μ I P Lc
    rw [hXe]
    intro H locs ls h0 hP hS hl
    refine va_forget (fun q hq => ?_) ?_
    · have h9 : xZ G < q.base := hS.2.2 q hq
      show s.heap.size ≤ q.base
      omega
    · refine W.widen (k := 600000) (n := 7302250) (Nat.le_of_ble_eq_true rfl) (Nat.le_of_ble_eq_true rfl) ?_
      refine W.base ?_
      exact lw_ret (Drawn.sameBut.refl s.drawn lw_cs) hx hb hr hlocks dL_law_706
  suffices main : xg X G (0, 0) (0, fun _ => 0, fun _ => 0) (fun _ _ => 0) (fun _ _ => 0) [some (.ref b), none, none, none] 0 [] by
    rw [hXe] at main
    exact main s.heap [] ls ⟨⟨rfl, fun _ _ => rfl⟩, fun a k h => absurd (show (0 : Nat) = 8 from h) (by decide), fun a h => absurd (show (0 : Nat) = 3 from h) (by decide)⟩ (fun k q h => by simp [xw] at h) va_S.rf hl
  refine r_new (pc := 0) (ci := 4) (kd := 5) hC (fun w hw => inlX4 w hw) tyX4 tyX4_ok (show Cond.classLink RL 7 RX4 ∈ wsL_law from List.mem_of_getElem? (i := 0) (by decide +kernel)) (show Cond.instantiable RX4 4 ∈ wsL_law from List.mem_of_getElem? (i := 1) (by decide +kernel)) (show Cond.initialized RX4 ∈ wsL_law from List.mem_of_getElem? (i := 2) (by decide +kernel)) rfl hf_X4 he_X4 (by rw [hsz]) (fun _ => rfl) ⟨Nat.le_of_ble_eq_true rfl, Nat.le_of_ble_eq_true rfl⟩ dL_law_0 ?_
  refine r_dup (pc := 3) hC dL_law_3 rfl ?_
  refine k_X4_init (pc := 4) (h := 1) (H := fun _ _ => 0) hC gL_law_X4_init (show Cond.initialized RX4 ∈ wsL_law from List.mem_of_getElem? (i := 2) (by decide +kernel)) (show Cond.methodLink RL 9 yX4_init ∈ wsL_law from List.mem_of_getElem? (i := 6) (by decide +kernel)) (show Cond.instanceMethod yX4_init ∈ wsL_law from List.mem_of_getElem? (i := 7) (by decide +kernel)) ⟨Nat.le_of_ble_eq_true rfl, Nat.le_of_ble_eq_true rfl⟩ xn_k rfl (by rw [hsz]; rfl) (fun h => absurd h (by decide)) (Nat.le_of_ble_eq_true rfl) rfl ⟨Nat.le_of_ble_eq_true rfl, Nat.le_of_ble_eq_true rfl⟩ dL_law_4 ?_
  intro μ1 I1 P1 g1 g2 g3 g4 g5 g6
  have g5 : μ1.1 = 254 := g5
  refine r_astore_n (pc := 7) (L' := [_, _, _, _]) hC dL_law_7 rfl (Nat.le_of_ble_eq_true rfl) rfl ?_
  refine r_new (pc := 8) (ci := 5) (kd := 6) hC (fun w hw => inlX5 w hw) tyX5 tyX5_ok (show Cond.classLink RL 10 RX5 ∈ wsL_law from List.mem_of_getElem? (i := 3) (by decide +kernel)) (show Cond.instantiable RX5 13 ∈ wsL_law from List.mem_of_getElem? (i := 4) (by decide +kernel)) (show Cond.initialized RX5 ∈ wsL_law from List.mem_of_getElem? (i := 5) (by decide +kernel)) rfl hf_X5 he_X5 (by rw [hsz, g5]) (fun h => absurd h (by rw [g5]; decide)) ⟨Nat.le_of_ble_eq_true rfl, Nat.le_of_ble_eq_true rfl⟩ dL_law_8 ?_
  refine r_dup (pc := 11) hC dL_law_11 rfl ?_
  rw [show xZ G + (μ1.1 + 1) = xZ G + 255 by rw [g5]]
  refine k_X5_init (pc := 12) (m := 255) hC gL_law_X5_init (show Cond.initialized RX5 ∈ wsL_law from List.mem_of_getElem? (i := 5) (by decide +kernel)) (show Cond.methodLink RL 12 yX5_init ∈ wsL_law from List.mem_of_getElem? (i := 56) (by decide +kernel)) (show Cond.instanceMethod yX5_init ∈ wsL_law from List.mem_of_getElem? (i := 57) (by decide +kernel)) ⟨Nat.le_of_ble_eq_true rfl, Nat.le_of_ble_eq_true rfl⟩ (by rw [show 255 = μ1.1 + 1 by omega]; exact xn_k) (by rw [xn_1, g5]) (by rw [hsz, xn_1, g5]) (fun h => absurd h (by rw [xn_1]; omega)) (Nat.le_of_ble_eq_true rfl) rfl ⟨Nat.le_of_ble_eq_true rfl, Nat.le_of_ble_eq_true rfl⟩ dL_law_12 ?_
  refine r_astore_n (pc := 15) (L' := [_, _, _, _]) hC dL_law_15 rfl (Nat.le_of_ble_eq_true rfl) rfl ?_
  refine r_iconst (pc := 16) (v := 0) hC dL_law_16 (by decide) ?_
  refine r_istore_n (pc := 17) (L' := [_, _, _, _]) hC dL_law_17 rfl (Nat.le_of_ble_eq_true rfl) rfl ?_
  obtain ⟨w1, w2, w3⟩ := wL_start g1 g2 g3 g5 g6
  exact law_loop hC hX' hbl' hbA hL w1 w2 (fun I P Lc => hE _ I P Lc) 513 0 rfl _ _ w3
