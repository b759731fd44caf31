/-! long arrays, the script: rows over the small heap -/
section XROWSL
variable {X : xF} {G : xG} {cs : Nat × Nat} {μ : xM} {I : xI} {P : xP} {L : List (Option Value)} {pc : Nat} {st : List Value} {cc : ByteArray} {Ts : List Cond} {own : String} {nL : Nat} {R : Room}
theorem xe_larr {a : Nat} (hk : μ.2.1 a = 6) : xe G μ I P a = .inl (G.2.1 5, μ.2.2 a, .inr (.inl (fun j => Int64.ofNat (P a j)))) := by simp only [xe, hk]
theorem r_lald (hC : xC X G cc Ts own nL R) {a k : Nat} {i : Int32} (hk : μ.2.1 a = 6) (hi : xi i k (μ.2.2 a)) (d : decode cc pc = .ok (.laload, 1)) (kk : xg X G cs μ I P L (pc + 1) (.long (Int64.ofNat (P a k)) :: st)) : xg X G cs μ I P L (pc) (.int i :: .ref (xZ G + a) :: st) := by
  intro H locs ls h0 hP hS hl
  obtain ⟨j, rfl, hj⟩ := xok_pos (a := a) h0 (by rw [hk]; decide)
  have hw := xw_at (G := G) (I := I) (P := P) hj
  rw [xe_larr hk] at hw
  refine va_lald hC.1 hC.2.1 hC.2.2.2.2.2.1.1 hP j 5 hw rfl (xi_in hi) d ?_
  rw [hi.1]
  exact kk H locs ls h0 hP hS hl
theorem r_last (hC : xC X G cc Ts own nL R) {a k : Nat} {i : Int32} {v : Nat} (hk : μ.2.1 a = 6) (hi : xi i k (μ.2.2 a)) (d : decode cc pc = .ok (.lastore, 1)) (kk : xg X G cs μ I (xu P a k v) L (pc + 1) (st)) : xg X G cs μ I P L (pc) (.long (Int64.ofNat v) :: .int i :: .ref (xZ G + a) :: st) := by
  intro H locs ls h0 hP hS hl
  obtain ⟨j, rfl, hj⟩ := xok_pos (a := a) h0 (by rw [hk]; decide)
  have hw := xw_at (G := G) (I := I) (P := P) hj
  rw [xe_larr hk] at hw
  refine va_last hC.1 hC.2.1 hC.2.2.2.2.2.1.1 hP xw_D hS j 5 hw rfl (xi_in hi) d (fun H1 locs1 hP1 _ hS1 => kk H1 locs1 ls h0 ?_ hS1 hl)
  rw [xw_set (I' := I) (P' := xu P (j + 1) k v) (by
    rw [xe_larr hk, hi.1]
    congr 5
    funext b
    unfold vp_updL
    by_cases hb : b = k
    · subst hb; rw [if_pos rfl, xu_at]
    · rw [if_neg hb, xu_ne (Or.inr hb)]) (fun b hb => xe_congr rfl (xu_row hb))] at hP1
  exact hP1
theorem r_land (hC : xC X G cc Ts own nL R) {x y : Int64} (d : decode cc pc = .ok (.land, 1)) (kk : xg X G cs μ I P L (pc + 1) (.long (x &&& y) :: st)) : xg X G cs μ I P L (pc) (.long y :: .long x :: st) := fun H locs ls h0 hP hS hl => lv_land hC.1 hC.2.1 d (kk H locs ls h0 hP hS hl)
theorem r_lor (hC : xC X G cc Ts own nL R) {x y : Int64} (d : decode cc pc = .ok (.lor, 1)) (kk : xg X G cs μ I P L (pc + 1) (.long (x ||| y) :: st)) : xg X G cs μ I P L (pc) (.long y :: .long x :: st) := fun H locs ls h0 hP hS hl => lv_lor hC.1 hC.2.1 d (kk H locs ls h0 hP hS hl)
theorem r_lshl (hC : xC X G cc Ts own nL R) {x : Int64} {y : Int32} (d : decode cc pc = .ok (.lshl, 1)) (kk : xg X G cs μ I P L (pc + 1) (.long (x <<< (y.toInt64 &&& 63)) :: st)) : xg X G cs μ I P L (pc) (.int y :: .long x :: st) := fun H locs ls h0 hP hS hl => lv_lshl hC.1 hC.2.1 d rfl (kk H locs ls h0 hP hS hl)
theorem r_lshr (hC : xC X G cc Ts own nL R) {x : Int64} {y : Int32} (d : decode cc pc = .ok (.lshr, 1)) (kk : xg X G cs μ I P L (pc + 1) (.long (x >>> (y.toInt64 &&& 63)) :: st)) : xg X G cs μ I P L (pc) (.int y :: .long x :: st) := fun H locs ls h0 hP hS hl => lv_lshr hC.1 hC.2.1 d rfl (kk H locs ls h0 hP hS hl)
theorem r_l2i (hC : xC X G cc Ts own nL R) {x : Int64} (d : decode cc pc = .ok (.l2i, 1)) (kk : xg X G cs μ I P L (pc + 1) (.int x.toInt32 :: st)) : xg X G cs μ I P L (pc) (.long x :: st) := fun H locs ls h0 hP hS hl => lv_l2i hC.1 hC.2.1 d rfl (kk H locs ls h0 hP hS hl)
/-- the script's cells: some ints -/
theorem r_sld (hC : xC X G cc Ts own nL R) {i : Int32} {k : Nat} (hi : xi i k (xX G 10)) (d : decode cc pc = .ok (.iaload, 1)) (kk : ∀ v : Int32, xg X G cs μ I P L (pc + 1) (.int v :: st)) : xg X G cs μ I P L pc (.int i :: .ref (xX G 9) :: st) := fun H locs ls h0 hP hS hl => by
  obtain ⟨⟨h1, h2⟩, xs, h3, h4⟩ := hC.2.2.2.2.2.1.2.2.2.2.2.2.2.2.2.2.2
  exact va_sld hC.1 hC.2.1 h4 h3 (fun q => absurd h1 (Nat.not_le.mpr q)) hS (xi_in hi) d (kk _ H locs ls h0 hP hS hl)
theorem r_scl (hC : xC X G cc Ts own nL R) (d : decode cc pc = .ok (.arraylength, 1)) (kk : xg X G cs μ I P L (pc + 1) (.int (nI (xX G 10)) :: st)) : xg X G cs μ I P L pc (.ref (xX G 9) :: st) := fun H locs ls h0 hP hS hl => by
  obtain ⟨⟨h1, h2⟩, xs, h3, h4⟩ := hC.2.2.2.2.2.1.2.2.2.2.2.2.2.2.2.2.2
  exact va_slen hC.1 hC.2.1 h4 h3 (fun q => absurd h1 (Nat.not_le.mpr q)) hS d (kk H locs ls h0 hP hS hl)
theorem r_newl (hC : xC X G cc Ts own nL R) {n : Int32} {N : Nat} (harr : Cond.arrayClass .long ∈ Ts) (hn : ¬ n < 0) (hN : n.toNatClampNeg = N) (hbytes : N * componentBytes .long ≤ 536870912) (hz : X.2.2.2.2.1.heap.size + cs.1 = xZ G + 1 + μ.1) (h1 : μ.1 = 0 → cs.1 = 0) (hcs : cs.1 + 1 ≤ R.cells ∧ cs.2 + N ≤ R.slots) (d : decode cc pc = .ok (.newarray .long, 2)) (kk : xg X G (cs.1 + 1, cs.2 + N) (xn μ 6 N) (xI1 μ I) (xP1 μ P) L (pc + 2) (.ref (xZ G + (μ.1 + 1)) :: st)) : xg X G cs μ I P L pc (.int n :: st) := by
  intro H locs ls h0 hP hS hl T0 hT XX
  obtain ⟨hx, hb, hml, hown, hts, hV, hRR⟩ := hC
  have hsz := xsize XX hT hP hS hz h1
  suffices key : W X.1 X.2.1 X.2.2.1 X.2.2.2.1 X.2.2.2.2.1 X.2.2.2.2.2.1 X.2.2.2.2.2.2.1 X.2.2.2.2.2.2.2.1 X.2.2.2.2.2.2.2.2.1 X.2.2.2.2.2.2.2.2.2.1 H locs cs.1 cs.2 X.2.2.2.2.2.2.2.2.2.2 (F0 X.2.2.2.2.2.1 pc ls (.int n :: st)) from key T0 hT XX
  refine va_newaK (atype := .long) hx hb (hts _ harr) rfl d rfl hn hN hbytes (by rw [hRR]; exact hcs.1) (by rw [hRR]; exact hcs.2) hsz (fun H1 cA e1 z1 o1 hAr hNm => ?_)
  have hcA : cA = G.2.1 5 := Option.some.inj (hNm.symm.trans (hV.1.2 5 _ rfl).2)
  subst hcA
  refine kk H1 locs ls (xok_new h0) ?_ ⟨Nat.le_trans hS.1 (by omega), fun x g1 g2 => (o1 x (by have := hS.1; omega)).trans (hS.2.1 x g1 g2), hS.2.2⟩ hl
  rw [xw_new (e := .inl (G.2.1 5, N, .inr (.inl (fun _ => 0)))) (by rw [xe_larr xn_k, xn_l, xP1_at]; rfl)]
  refine (hP.kept (fun k x hx => o1 x.1 (by rw [← hsz]; exact (hP k x hx).lt))).app (fun k x hx => ?_)
  have hk1 : k < 1 := (List.getElem?_eq_some_iff.mp hx).1
  rw [show k = 0 by omega] at hx
  cases hx
  exact e1
end XROWSL
