/-! the law's arrays behind a cut, a change about, a route, a stop -/
def cuR (I J : xI) (P Q : xP) (r k : Nat) : Prop := (∀ c i, c = 256 ∨ c = 257 ∨ c = 258 → J c i = I c (if r ≤ i ∧ i < k then i + 1 else i)) ∧ (∀ m, Q 259 m = P 259 (if 2 * r ≤ m ∧ m < 2 * k then m + 2 else m)) ∧ (∀ c, c ≠ 256 → c ≠ 257 → c ≠ 258 → J c = I c) ∧ ∀ c, c ≠ 259 → Q c = P c
theorem cuR_0 {I : xI} {P : xP} {r : Nat} : cuR I I P P r r := ⟨fun c i _ => by rw [if_neg (by omega)], fun m => by rw [if_neg (by omega)], fun _ _ _ _ => rfl, fun _ _ => rfl⟩
theorem cuR_s {I J : xI} {P Q : xP} {r k : Nat} (h : cuR I J P Q r k) (hk : r ≤ k) : cuR I (xu (xu (xu J 256 k (J 256 (k + 1))) 257 k (J 257 (k + 1))) 258 k (J 258 (k + 1))) P (xu (xu Q 259 (2 * k) (Q 259 (2 * k + 2))) 259 (2 * k + 1) (Q 259 (2 * k + 3))) r (k + 1) := by
  obtain ⟨h1, h2, h3, h4⟩ := h
  refine ⟨fun c i hc => ?_, fun m => ?_, fun c a1 a2 a3 => by rw [xu_row a3, xu_row a2, xu_row a1]; exact h3 c a1 a2 a3, fun c a => by rw [xu_row a, xu_row a]; exact h4 c a⟩
  · have e : (xu (xu (xu J 256 k (J 256 (k + 1))) 257 k (J 257 (k + 1))) 258 k (J 258 (k + 1))) c i = if i = k then J c (k + 1) else J c i := by
      rcases hc with rfl | rfl | rfl
      · rw [xu_row (by decide), xu_row (by decide)]
        by_cases e : i = k
        · subst e; rw [if_pos rfl, xu_at]
        · rw [if_neg e, xu_ne (Or.inr e)]
      · rw [xu_row (by decide)]
        by_cases e : i = k
        · subst e; rw [if_pos rfl, xu_at]
        · rw [if_neg e, xu_ne (Or.inr e), xu_row (by decide)]
      · by_cases e : i = k
        · subst e; rw [if_pos rfl, xu_at]
        · rw [if_neg e, xu_ne (Or.inr e), xu_row (by decide), xu_row (by decide)]
    rw [e]
    by_cases e : i = k
    · subst e
      rw [if_pos rfl, h1 c _ hc, if_neg (by omega), if_pos (by omega)]
    · rw [if_neg e, h1 c _ hc]
      by_cases g : r ≤ i ∧ i < k
      · rw [if_pos g, if_pos (by omega)]
      · rw [if_neg g, if_neg (by omega)]
  · by_cases e1 : m = 2 * k + 1
    · subst e1
      rw [xu_at, h2, if_neg (by omega), if_pos (by omega)]
    · rw [xu_ne (Or.inr e1)]
      by_cases e0 : m = 2 * k
      · subst e0
        rw [xu_at, h2, if_neg (by omega), if_pos (by omega)]
      · rw [xu_ne (Or.inr e0), h2]
        by_cases g : 2 * r ≤ m ∧ m < 2 * k
        · rw [if_pos g, if_pos (by omega)]
        · rw [if_neg g, if_neg (by omega)]
def rtR (F : Int32 → Int32) (I J : xI) (k : Nat) : Prop := (∀ m, J 260 m = if m % 3 = 0 ∧ m < 3 * k then F (I 260 m) else I 260 m) ∧ ∀ c, c ≠ 260 → J c = I c
theorem rtR_0 {F : Int32 → Int32} {I : xI} : rtR F I I 0 := ⟨fun m => by rw [if_neg (by omega)], fun _ _ => rfl⟩
theorem rtR_s {F : Int32 → Int32} {I J : xI} {k : Nat} (h : rtR F I J k) : rtR F I (xu J 260 (3 * k) (F (J 260 (3 * k)))) (k + 1) := by
  obtain ⟨h1, h2⟩ := h
  refine ⟨fun m => ?_, fun c a => by rw [xu_row a]; exact h2 c a⟩
  by_cases e : m = 3 * k
  · subst e
    rw [xu_at, h1, if_neg (by omega), if_pos (by omega)]
  · rw [xu_ne (Or.inr e), h1]
    by_cases g : m % 3 = 0 ∧ m < 3 * k
    · rw [if_pos g, if_pos (by omega)]
    · rw [if_neg g, if_neg (by omega)]
theorem cutS_row {S : Nat → Int32} {n q r i j : Nat} (hr : r < n) (hn : n ≤ 20) (hi : i < n - 1) (hj : j < 17) : cutS S r n q (11 + 17 * i + j) = S (11 + 17 * (if r ≤ i then i + 1 else i) + j) := by
  unfold cutS
  rw [if_neg (by omega), if_neg (by rw [rouB_m (Or.inl (by omega))]; decide)]
  by_cases g : r ≤ i
  · rw [if_pos (rngB_t (by omega)), if_pos g]; congr 1; omega
  · rw [if_neg (by rw [rngB_f (by omega)]; decide), if_neg (by omega), if_neg g]
/-- a row of other values at the same places -/
theorem row_eq {S T : Nat → Int32} {P : xP} {i k : Nat} (h : ∀ j, j < 17 → T (11 + 17 * i + j) = S (11 + 17 * k + j)) : sLen T i = sLen S k ∧ (∀ j, j < 14 → sLet T i j = sLet S k j) ∧ T (11 + 17 * i) = S (11 + 17 * k) ∧ T (12 + 17 * i) = S (12 + 17 * k) ∧ T (13 + 17 * i) = S (13 + 17 * k) := by
  have h0 := h 0 (by decide)
  have h1 := h 1 (by decide)
  have h2 := h 2 (by decide)
  rw [Nat.add_zero, Nat.add_zero] at h0
  rw [show 11 + 17 * i + 1 = 12 + 17 * i by omega, show 11 + 17 * k + 1 = 12 + 17 * k by omega] at h1
  rw [show 11 + 17 * i + 2 = 13 + 17 * i by omega, show 11 + 17 * k + 2 = 13 + 17 * k by omega] at h2
  refine ⟨by unfold sLen; rw [h0], fun j hj => ?_, h0, h1, h2⟩
  unfold sLet
  rw [show 14 + 17 * i + j = 11 + 17 * i + (3 + j) by omega, show 14 + 17 * k + j = 11 + 17 * k + (3 + j) by omega]
  exact h _ (by omega)
theorem lA_cut {I J K : xI} {P Q : xP} {S : Nat → Int32} {n q r c : Nat} (hA : lA I P S n q) (hi : invN S n q) (hcc : lC S n q c) (hr : r < n) (h1 : cuR (xu I 255 0 (nI (n - 1))) J P Q r (n - 1)) (h2 : rtR (fun x => mvd x (nI r)) J K q) : lA (xu K 255 1 (S 1 - cutZ S r n)) Q (cutS S r n q) (n - 1) q ∧ lC (cutS S r n q) (n - 1) q (c + 1) := by
  obtain ⟨a1, a2, a3⟩ := hA
  obtain ⟨c1, c2, c3, c4⟩ := h1
  obtain ⟨d1, d2⟩ := h2
  have hn20 := hi.1
  obtain ⟨s0, s1, X, f, g, b1, b2, b3, b4, b5, b6⟩ := hcc
  have hfar : ∀ j t, j < q → t < 3 → t ≠ 0 → cutS S r n q (351 + 3 * j + t) = S (351 + 3 * j + t) := fun j t hj ht h0 => by
    unfold cutS
    rw [if_neg (by omega), if_neg (by rw [rouB_m (Or.inr (by omega))]; decide), if_neg (by rw [rngB_f (by omega)]; decide), if_neg (by omega)]
  have hrt : ∀ j, j < q → cutS S r n q (351 + 3 * j) = woS (S (351 + 3 * j)) (nI r) := fun j hj => by
    unfold cutS
    rw [if_neg (by omega), if_pos (rouB_t hj)]
  have hsm : ∀ k, k < 11 → k ≠ 1 → k ≠ 0 → cutS S r n q k = S k := fun k hk h1 h0 => by
    unfold cutS
    rw [if_neg h1, if_neg (by rw [rouB_m (Or.inl (by omega))]; decide), if_neg (by rw [rngB_f (by omega)]; decide), if_neg h0]
  refine ⟨⟨fun k hk => ?_, fun i hi1 => ?_, fun j hj t ht => ?_⟩, ?_⟩
  · by_cases e1 : k = 1
    · subst e1; rw [xu_at]; unfold cutS; rw [if_pos rfl]
    · rw [xu_ne (Or.inr e1), d2 255 (by decide), c3 255 (by decide) (by decide) (by decide)]
      by_cases e0 : k = 0
      · subst e0; rw [xu_at, cutS_0]
      · rw [xu_ne (Or.inr e0), a1 k hk, hsm k hk e1 e0]
  · have hx := fun j (hj : j < 17) => cutS_row (S := S) (q := q) hr hn20 hi1 hj
    obtain ⟨e1, e2, e3, e4, e5⟩ := row_eq (P := P) hx
    obtain ⟨f1, f2, f3, f4, f5⟩ := a2 (if r ≤ i then i + 1 else i) (by split <;> omega)
    have hw : (if r ≤ i ∧ i < n - 1 then i + 1 else i) = (if r ≤ i then i + 1 else i) := by
      by_cases z : r ≤ i
      · rw [if_pos z, if_pos ⟨z, hi1⟩]
      · rw [if_neg z, if_neg (by omega)]
    rw [xu_row (b := 256) (by decide), xu_row (b := 257) (by decide), xu_row (b := 258) (by decide), d2 256 (by decide), d2 257 (by decide), d2 258 (by decide), c1 256 i (Or.inl rfl), c1 257 i (Or.inr (Or.inl rfl)), c1 258 i (Or.inr (Or.inr rfl)), hw, xu_row (b := 256) (by decide), xu_row (b := 257) (by decide), xu_row (b := 258) (by decide), e1, e3, e4, e5]
    refine ⟨f1, f2, f3, f4, fun b hb => ?_⟩
    rw [c2, show (if 2 * r ≤ 2 * i + b ∧ 2 * i + b < 2 * (n - 1) then 2 * i + b + 2 else 2 * i + b) = 2 * (if r ≤ i then i + 1 else i) + b from by
      by_cases z : r ≤ i
      · rw [if_pos (by omega), if_pos z]; omega
      · rw [if_neg (by omega), if_neg z], f5 b hb]
    exact (pkX_far e2 f4).symm
  · rw [xu_row (by decide), d1, c3 260 (by decide) (by decide) (by decide), xu_row (by decide), a3 j hj t ht]
    by_cases e : t = 0
    · subst e
      obtain ⟨g1, g2, -⟩ := b6 j hj
      rw [if_pos (by omega), Nat.add_zero, hrt j hj, g1]
      exact (mvd_ok g2 hr hn20).1
    · rw [if_neg (by omega), hfar j t hj ht e]
  · have hY : ∀ j, j < q → ∃ Y, cutS S r n q (351 + 3 * j) = nI Y ∧ Y < 2 ^ (n - 1) := fun j hj => by
      obtain ⟨g1, g2, -⟩ := b6 j hj
      rw [hrt j hj, g1]
      exact (mvd_ok g2 hr hn20).2
    refine ⟨s0, s1, fun j => (cutS S r n q (351 + 3 * j)).toNatClampNeg, f, g, by rw [hsm 6 (by decide) (by decide) (by decide)]; exact b1, by rw [hsm 7 (by decide) (by decide) (by decide)]; exact b2, b3, by omega, b5, fun j hj => ?_⟩
    obtain ⟨Y, y1, y2⟩ := hY j hj
    obtain ⟨g1, g2, g3, g4, g5⟩ := b6 j hj
    have h20 := p20 (show n - 1 ≤ 20 by omega)
    have f1 := hfar j 1 hj (by decide) (by decide)
    have f2 := hfar j 2 hj (by decide) (by decide)
    rw [show 351 + 3 * j + 1 = 352 + 3 * j by omega] at f1
    rw [show 351 + 3 * j + 2 = 353 + 3 * j by omega] at f2
    simp only [y1]
    rw [nI_clamp (by omega)]
    exact ⟨rfl, y2, by rw [f1]; exact g3, by rw [f2]; exact g4, g5⟩
theorem swapS_row {S : Nat → Int32} {n q a b i j : Nat} (ha : a < n) (hb : b < n) (hn : n ≤ 20) (hi : i < n) (hj : j < 17) : swapS S a b q (11 + 17 * i + j) = S (11 + 17 * swI b a i + j) := by
  unfold swapS swI
  rw [if_neg (by rw [rouB_m (Or.inl (by omega))]; decide)]
  by_cases e1 : i = a
  · rw [if_pos (rngB_t (by omega)), if_pos e1]; congr 1; omega
  · rw [if_neg (by rw [rngB_f (by omega)]; decide), if_neg e1]
    by_cases e2 : i = b
    · rw [if_pos (rngB_t (by omega)), if_pos e2]; congr 1; omega
    · rw [if_neg (by rw [rngB_f (by omega)]; decide), if_neg e2]
def swR (I J : xI) (P Q : xP) (a b : Nat) : Prop := (∀ c i, c = 256 ∨ c = 257 ∨ c = 258 → J c i = I c (swI b a i)) ∧ (∀ i z, z < 2 → Q 259 (2 * i + z) = P 259 (2 * swI b a i + z)) ∧ (∀ c, c ≠ 256 → c ≠ 257 → c ≠ 258 → J c = I c) ∧ ∀ c, c ≠ 259 → Q c = P c
theorem swR_ok {I : xI} {P : xP} {a b : Nat} (hab : a ≠ b) : swR I (xu (xu (xu (xu (xu (xu I 256 a (I 256 b)) 257 a (I 257 b)) 258 a (I 258 b)) 256 b (I 256 a)) 257 b (I 257 a)) 258 b (I 258 a)) P (xu (xu (xu (xu P 259 (2 * a) (P 259 (2 * b))) 259 (2 * a + 1) (P 259 (2 * b + 1))) 259 (2 * b) (P 259 (2 * a))) 259 (2 * b + 1) (P 259 (2 * a + 1))) a b := by
  refine ⟨fun c i hc => ?_, fun i z hz => ?_, fun c a1 a2 a3 => by rw [xu_row a3, xu_row a2, xu_row a1, xu_row a3, xu_row a2, xu_row a1], fun c a => by rw [xu_row a, xu_row a, xu_row a, xu_row a]⟩
  · unfold swI
    rcases hc with rfl | rfl | rfl
    · rw [xu_row (by decide), xu_row (by decide)]
      by_cases e2 : i = b
      · subst e2; rw [xu_at, if_neg (Ne.symm hab), if_pos rfl]
      · rw [xu_ne (Or.inr e2), xu_row (by decide), xu_row (by decide)]
        by_cases e1 : i = a
        · subst e1; rw [xu_at, if_pos rfl]
        · rw [xu_ne (Or.inr e1), if_neg e1, if_neg e2]
    · rw [xu_row (by decide)]
      by_cases e2 : i = b
      · subst e2; rw [xu_at, if_neg (Ne.symm hab), if_pos rfl]
      · rw [xu_ne (Or.inr e2), xu_row (by decide), xu_row (by decide)]
        by_cases e1 : i = a
        · subst e1; rw [xu_at, if_pos rfl]
        · rw [xu_ne (Or.inr e1), xu_row (by decide), if_neg e1, if_neg e2]
    · by_cases e2 : i = b
      · subst e2; rw [xu_at, if_neg (Ne.symm hab), if_pos rfl]
      · rw [xu_ne (Or.inr e2), xu_row (by decide), xu_row (by decide)]
        by_cases e1 : i = a
        · subst e1; rw [xu_at, if_pos rfl]
        · rw [xu_ne (Or.inr e1), xu_row (by decide), xu_row (by decide), if_neg e1, if_neg e2]
  · unfold swI
    have hc : z = 0 ∨ z = 1 := by omega
    by_cases e2 : i = b
    · subst e2
      rw [if_neg (Ne.symm hab), if_pos rfl]
      rcases hc with rfl | rfl
      · simp only [Nat.add_zero]; rw [xu_ne (Or.inr (by omega)), xu_at]
      · rw [xu_at]
    · by_cases e1 : i = a
      · subst e1
        rw [if_pos rfl]
        rcases hc with rfl | rfl
        · simp only [Nat.add_zero]; rw [xu_ne (Or.inr (by omega)), xu_ne (Or.inr (by omega)), xu_ne (Or.inr (by omega)), xu_at]
        · rw [xu_ne (Or.inr (by omega)), xu_ne (Or.inr (by omega)), xu_at]
      · rw [if_neg e1, if_neg e2, xu_ne (Or.inr (by omega)), xu_ne (Or.inr (by omega)), xu_ne (Or.inr (by omega)), xu_ne (Or.inr (by omega))]
theorem lA_swap {I J K : xI} {P Q : xP} {S : Nat → Int32} {n q a b c : Nat} (hA : lA I P S n q) (hi : invN S n q) (hcc : lC S n q c) (ha : a < n) (hb : b < n) (hab : a ≠ b) (h1 : swR I J P Q a b) (h2 : rtR (fun x => mvs x (nI a) (nI b)) J K q) : lA K Q (swapS S a b q) n q ∧ lC (swapS S a b q) n q (c + 1) := by
  obtain ⟨a1, a2, a3⟩ := hA
  obtain ⟨c1, c2, c3, c4⟩ := h1
  obtain ⟨d1, d2⟩ := h2
  have hn20 := hi.1
  obtain ⟨s0, s1, X, f, g, b1, b2, b3, b4, b5, b6⟩ := hcc
  have hfar : ∀ j t, j < q → t < 3 → t ≠ 0 → swapS S a b q (351 + 3 * j + t) = S (351 + 3 * j + t) := fun j t hj ht h0 => by
    unfold swapS
    rw [if_neg (by rw [rouB_m (Or.inr (by omega))]; decide), if_neg (by rw [rngB_f (by omega)]; decide), if_neg (by rw [rngB_f (by omega)]; decide)]
  have hrt : ∀ j, j < q → swapS S a b q (351 + 3 * j) = swS (S (351 + 3 * j)) (nI a) (nI b) := fun j hj => by
    unfold swapS
    rw [if_pos (rouB_t hj)]
  have hsm : ∀ k, k < 11 → swapS S a b q k = S k := fun k hk => by
    unfold swapS
    rw [if_neg (by rw [rouB_m (Or.inl (by omega))]; decide), if_neg (by rw [rngB_f (by omega)]; decide), if_neg (by rw [rngB_f (by omega)]; decide)]
  refine ⟨⟨fun k hk => ?_, fun i hi1 => ?_, fun j hj t ht => ?_⟩, ?_⟩
  · rw [d2 255 (by decide), c3 255 (by decide) (by decide) (by decide), a1 k hk, hsm k hk]
  · have hx := fun j (hj : j < 17) => swapS_row (S := S) (q := q) ha hb hn20 hi1 hj
    obtain ⟨e1, e2, e3, e4, e5⟩ := row_eq (P := P) hx
    have hsw : swI b a i < n := by unfold swI; split <;> (try split) <;> omega
    obtain ⟨f1, f2, f3, f4, f5⟩ := a2 (swI b a i) hsw
    rw [d2 256 (by decide), d2 257 (by decide), d2 258 (by decide), c1 256 i (Or.inl rfl), c1 257 i (Or.inr (Or.inl rfl)), c1 258 i (Or.inr (Or.inr rfl)), e1, e3, e4, e5]
    refine ⟨f1, f2, f3, f4, fun z hz => ?_⟩
    rw [c2 i z hz, f5 z hz]
    exact (pkX_far e2 f4).symm
  · rw [d1, c3 260 (by decide) (by decide) (by decide), a3 j hj t ht]
    by_cases e : t = 0
    · subst e
      obtain ⟨g1, g2, -⟩ := b6 j hj
      rw [if_pos (by omega), Nat.add_zero, hrt j hj, g1]
      exact (mvs_ok g2 hn20 ha hb hab).1
    · rw [if_neg (by omega), hfar j t hj ht e]
  · have hY : ∀ j, j < q → ∃ Y, swapS S a b q (351 + 3 * j) = nI Y ∧ Y < 2 ^ n := fun j hj => by
      obtain ⟨g1, g2, -⟩ := b6 j hj
      rw [hrt j hj, g1]
      exact (mvs_ok g2 hn20 ha hb hab).2
    refine ⟨s0, s1, fun j => (swapS S a b q (351 + 3 * j)).toNatClampNeg, f, g, by rw [hsm 6 (by decide)]; exact b1, by rw [hsm 7 (by decide)]; exact b2, b3, by omega, b5, fun j hj => ?_⟩
    obtain ⟨Y, y1, y2⟩ := hY j hj
    obtain ⟨g1, g2, g3, g4, g5⟩ := b6 j hj
    have h20 := p20 hn20
    have f1 := hfar j 1 hj (by decide) (by decide)
    have f2 := hfar j 2 hj (by decide) (by decide)
    rw [show 351 + 3 * j + 1 = 352 + 3 * j by omega] at f1
    rw [show 351 + 3 * j + 2 = 353 + 3 * j by omega] at f2
    simp only [y1]
    rw [nI_clamp (by omega)]
    exact ⟨rfl, y2, by rw [f1]; exact g3, by rw [f2]; exact g4, g5⟩
theorem lA_rt {I : xI} {P : xP} {S : Nat → Int32} {n q c x : Nat} (hA : lA I P S n q) (hi : invN S n q) (hcc : lC S n q c) (hx : x < 2 ^ n) : lA (xu (xu (xu (xu I 260 (3 * q) (nI x)) 260 (3 * q + 1) 0) 260 (3 * q + 2) 0) 255 2 (nI (q + 1))) P (rtS S q (nI x)) n (q + 1) ∧ lC (rtS S q (nI x)) n (q + 1) (c + 1) := by
  obtain ⟨a1, a2, a3⟩ := hA
  have hn20 := hi.1
  have hq6 := hi.2.2.1
  have hq := hi.2.2.2.1
  obtain ⟨s0, s1, X, f, g, b1, b2, b3, b4, b5, b6⟩ := hcc
  have hT : ∀ i, i ≠ 2 → i ≠ 351 + 3 * q → i ≠ 352 + 3 * q → i ≠ 353 + 3 * q → rtS S q (nI x) i = S i := fun i h1 h2 h3 h4 => by
    unfold rtS
    rw [upd_ne h1, upd_ne h4, upd_ne h3, upd_ne h2]
  have t0 : rtS S q (nI x) (351 + 3 * q) = nI x := by
    unfold rtS
    rw [upd_ne (by omega), upd_ne (by omega), upd_ne (by omega), upd_at]
  have t1 : rtS S q (nI x) (352 + 3 * q) = 0 := by
    unfold rtS
    rw [upd_ne (by omega), upd_ne (by omega), upd_at]
  have t2 : rtS S q (nI x) (353 + 3 * q) = 0 := by
    unfold rtS
    rw [upd_ne (by omega), upd_at]
  refine ⟨⟨fun k hk => ?_, fun i hi1 => ?_, fun j hj t ht => ?_⟩, ?_⟩
  · by_cases e : k = 2
    · subst e
      rw [xu_at]
      unfold rtS
      rw [upd_at, hq, nI_1]
    · rw [xu_ne (Or.inr e), xu_row (by decide), xu_row (by decide), xu_row (by decide), hT k e (by omega) (by omega) (by omega)]; exact a1 k hk
  · obtain ⟨e1, e2, e3, e4, e5⟩ := row_eq (S := S) (T := rtS S q (nI x)) (P := P) (i := i) (k := i) (fun j hj => hT _ (by omega) (by omega) (by omega) (by omega))
    obtain ⟨f1, f2, f3, f4, f5⟩ := a2 i hi1
    rw [xu_row (b := 256) (by decide), xu_row (b := 256) (by decide), xu_row (b := 256) (by decide), xu_row (b := 256) (by decide), xu_row (b := 257) (by decide), xu_row (b := 257) (by decide), xu_row (b := 257) (by decide), xu_row (b := 257) (by decide), xu_row (b := 258) (by decide), xu_row (b := 258) (by decide), xu_row (b := 258) (by decide), xu_row (b := 258) (by decide), e1, e3, e4, e5]
    exact ⟨f1, f2, f3, f4, fun b hb => by rw [f5 b hb]; exact (pkX_far e2 f4).symm⟩
  · rw [xu_row (by decide)]
    by_cases e : j = q
    · subst e
      have hc : t = 0 ∨ t = 1 ∨ t = 2 := by omega
      rcases hc with rfl | rfl | rfl
      · simp only [Nat.add_zero]; rw [xu_ne (Or.inr (by omega)), xu_ne (Or.inr (by omega)), xu_at, t0]
      · rw [xu_ne (Or.inr (by omega)), xu_at, show 351 + 3 * j + 1 = 352 + 3 * j by omega, t1]
      · rw [xu_at, show 351 + 3 * j + 2 = 353 + 3 * j by omega, t2]
    · rw [xu_ne (Or.inr (by omega)), xu_ne (Or.inr (by omega)), xu_ne (Or.inr (by omega)), hT _ (by omega) (by omega) (by omega) (by omega)]
      exact a3 j (by omega) t ht
  · refine ⟨s0, s1, fun j => if j = q then x else X j, fun j => if j = q then 0 else f j, fun j => if j = q then 0 else g j, by rw [hT 6 (by decide) (by omega) (by omega) (by omega)]; exact b1, by rw [hT 7 (by decide) (by omega) (by omega) (by omega)]; exact b2, b3, by omega, ?_, fun j hj => ?_⟩
    · rw [sumF, if_pos rfl, sumF_congr (g := f) (fun j hj => if_neg (by omega))]; exact b5
    · by_cases e : j = q
      · subst e
        simp only [if_true]
        exact ⟨t0, hx, t1, t2, Nat.le_refl 0⟩
      · simp only [if_neg e]
        obtain ⟨g1, g2, g3, g4, g5⟩ := b6 j (by omega)
        exact ⟨by rw [hT _ (by omega) (by omega) (by omega) (by omega)]; exact g1, g2, by rw [hT _ (by omega) (by omega) (by omega) (by omega)]; exact g3, by rw [hT _ (by omega) (by omega) (by omega) (by omega)]; exact g4, g5⟩
/-- the counts behind a stop -/
theorem lC_stop {S : Nat → Int32} {n q c : Nat} (hi : invN S n q) (h : lC S n q c) : lC (sStop S) n q (c + 1) := by
  obtain ⟨s0, s1, X, f, g, b1, b2, b3, b4, b5, b6⟩ := h
  have hx : ∃ z, z ≤ 1 ∧ xright (aWrong S) = nI z := by
    unfold xright
    split
    · exact ⟨1, by decide, rfl⟩
    · exact ⟨0, by decide, rfl⟩
  obtain ⟨z, hz, ez⟩ := hx
  have hdr := hi.2.2.2.2.2.1
  have hq6 := hi.2.2.1
  unfold sStop
  simp only
  by_cases hd : S 3 < 0
  · rw [if_pos hd, ez]
    have hT : ∀ i, i ≠ 6 → i ≠ 7 → upd (upd S 6 (S 6 + 1)) 7 (S 7 + nI z) i = S i := fun i h1 h2 => by rw [upd_ne h2, upd_ne h1]
    refine ⟨s0 + 1, s1 + z, X, f, g, by rw [upd_ne (by decide), upd_at, b1, nI_1], by rw [upd_at, b2, nI_add], by omega, by omega, by omega, fun j hj => ?_⟩
    obtain ⟨g1, g2, g3, g4, g5⟩ := b6 j hj
    exact ⟨by rw [hT _ (by omega) (by omega)]; exact g1, g2, by rw [hT _ (by omega) (by omega)]; exact g3, by rw [hT _ (by omega) (by omega)]; exact g4, g5⟩
  · obtain ⟨d, hdq, hd3⟩ := hdr.resolve_left (fun e => hd (by rw [e]; decide))
    rw [if_neg hd, ez, show sDrv S = d from by unfold sDrv; rw [hd3, nI_clamp (by omega)]]
    obtain ⟨g1, g2, g3, g4, g5⟩ := b6 d hdq
    rw [g3, g4, nI_1, nI_add]
    have hT : ∀ i, i ≠ 6 → i ≠ 7 → i ≠ 352 + 3 * d → i ≠ 353 + 3 * d → upd (upd (upd (upd S 6 (S 6 + 1)) 7 (S 7 + nI z)) (352 + 3 * d) (nI (f d + 1))) (353 + 3 * d) (nI (g d + z)) i = S i := fun i h1 h2 h3 h4 => by rw [upd_ne h4, upd_ne h3, upd_ne h2, upd_ne h1]
    refine ⟨s0 + 1, s1 + z, X, fun j => if j = d then f j + 1 else f j, fun j => if j = d then g j + z else g j, by rw [upd_ne (by omega), upd_ne (by omega), upd_ne (by decide), upd_at, b1, nI_1], by rw [upd_ne (by omega), upd_ne (by omega), upd_at, b2, nI_add], by omega, by omega, by rw [sumF_inc hdq]; omega, fun j hj => ?_⟩
    by_cases e : j = d
    · subst e
      simp only [if_true]
      exact ⟨by rw [hT _ (by omega) (by omega) (by omega) (by omega)]; exact g1, g2, by rw [upd_ne (by omega), upd_at], by rw [upd_at], by omega⟩
    · simp only [if_neg e]
      obtain ⟨k1, k2, k3, k4, k5⟩ := b6 j hj
      exact ⟨by rw [hT _ (by omega) (by omega) (by omega) (by omega)]; exact k1, k2, by rw [hT _ (by omega) (by omega) (by omega) (by omega)]; exact k3, by rw [hT _ (by omega) (by omega) (by omega) (by omega)]; exact k4, k5⟩
