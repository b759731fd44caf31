/-! a blind that is made, step by step -/
theorem xn_1 {μ : xM} {c n : Nat} : (xn μ c n).1 = μ.1 + 1 := rfl
theorem xn_kl {μ : xM} {c n a : Nat} (h : a ≤ μ.1) : (xn μ c n).2.1 a = μ.2.1 a := xn_ko (by omega)
theorem xn_ll {μ : xM} {c n a : Nat} (h : a ≤ μ.1) : (xn μ c n).2.2 a = μ.2.2 a := xn_lo (by omega)
theorem xI1_l {μ : xM} {I : xI} {a : Nat} (h : a ≤ μ.1) : xI1 μ I a = I a := xz_o (by omega)
theorem xP1_l {μ : xM} {P : xP} {a : Nat} (h : a ≤ μ.1) : xP1 μ P a = P a := xz_o (by omega)
theorem xn2_k {μ : xM} {c n c' n' a : Nat} (h : a ≤ μ.1) : (xn (xn μ c n) c' n').2.1 a = μ.2.1 a := by
  rw [xn_kl (by rw [xn_1]; omega), xn_kl h]
theorem xn2_l {μ : xM} {c n c' n' a : Nat} (h : a ≤ μ.1) : (xn (xn μ c n) c' n').2.2 a = μ.2.2 a := by
  rw [xn_ll (by rw [xn_1]; omega), xn_ll h]
theorem xn2_t {μ : xM} {c n c' n' : Nat} : (xn (xn μ c n) c' n').2.1 (μ.1 + 1) = c := by
  rw [xn_kl (by rw [xn_1]; omega), xn_k]
theorem xn2_u {μ : xM} {c n c' n' : Nat} : (xn (xn μ c n) c' n').2.1 (μ.1 + 2) = c' := xn_k (μ := xn μ c n)
theorem xn2_v {μ : xM} {c n c' n' : Nat} : (xn (xn μ c n) c' n').2.2 (μ.1 + 2) = n' := xn_l (μ := xn μ c n)
theorem xI2_l {μ : xM} {I : xI} {c n a : Nat} (h : a ≤ μ.1) : xI1 (xn μ c n) (xI1 μ I) a = I a := by
  rw [xI1_l (by rw [xn_1]; omega), xI1_l h]
theorem xP2_l {μ : xM} {P : xP} {c n a : Nat} (h : a ≤ μ.1) : xP1 (xn μ c n) (xP1 μ P) a = P a := by
  rw [xP1_l (by rw [xn_1]; omega), xP1_l h]
/-- the cells below b are as they were -/
def mkF (b : Nat) (μ0 μ : xM) (I0 I : xI) (P0 P : xP) : Prop := ∀ c, c < b → μ.2.1 c = μ0.2.1 c ∧ μ.2.2 c = μ0.2.2 c ∧ I c = I0 c ∧ P c = P0 c
def mkR (b k : Nat) (μ : xM) (P : xP) : Prop := (μ.2.1 (b + 1) = 9 ∧ μ.2.2 (b + 1) = 20) ∧ P b 0 = b + 1 ∧ ∀ i, i < k → (μ.2.1 (b + 2 + 2 * i) = 3 ∧ μ.2.1 (b + 3 + 2 * i) = 8 ∧ μ.2.2 (b + 3 + 2 * i) = 14) ∧ P (b + 1) i = b + 2 + 2 * i ∧ P (b + 2 + 2 * i) 0 = b + 3 + 2 * i
def mkT (b k : Nat) (μ : xM) (P : xP) : Prop := (μ.2.1 (b + 42) = 10 ∧ μ.2.2 (b + 42) = 6) ∧ P b 3 = b + 42 ∧ ∀ j, j < k → μ.2.1 (b + 43 + j) = 2 ∧ P (b + 42) j = b + 43 + j
def mk1 (b k : Nat) (μ0 μ : xM) (I0 I : xI) (P0 P : xP) : Prop := μ.1 = b + 1 + 2 * k ∧ μ.2.1 b = 1 ∧ (∀ j, I b j = 0) ∧ mkF b μ0 μ I0 I P0 P ∧ mkR b k μ P
def mk2 (b k : Nat) (μ0 μ : xM) (I0 I : xI) (P0 P : xP) : Prop := μ.1 = b + 42 + k ∧ μ.2.1 b = 1 ∧ (∀ j, I b j = 0) ∧ mkF b μ0 μ I0 I P0 P ∧ mkR b 20 μ P ∧ mkT b k μ P
theorem mkF_new {b c n : Nat} {μ0 μ : xM} {I0 I : xI} {P0 P : xP} (h : mkF b μ0 μ I0 I P0 P) (hb : b ≤ μ.1 + 1) : mkF b μ0 (xn μ c n) I0 (xI1 μ I) P0 (xP1 μ P) := fun a ha => by
  rw [xn_kl (by omega), xn_ll (by omega), xI1_l (by omega), xP1_l (by omega)]; exact h a ha
theorem mkF_P {b a k v : Nat} {μ0 μ : xM} {I0 I : xI} {P0 P : xP} (h : mkF b μ0 μ I0 I P0 P) (ha : b ≤ a) : mkF b μ0 μ I0 I P0 (xu P a k v) := fun c hc => by
  rw [xu_row (by omega)]; exact h c hc
theorem mkF_I {b : Nat} {μ0 μ : xM} {I0 I J : xI} {P0 P : xP} (h : mkF b μ0 μ I0 I P0 P) (hJ : ∀ c, c < b → J c = I c) : mkF b μ0 μ I0 J P0 P := fun c hc => by
  rw [hJ c hc]; exact h c hc
theorem mk1_0 {b : Nat} {μ : xM} {I : xI} {P : xP} (kb : μ.2.1 b = 1) (hb : μ.1 = b) (hI : ∀ j, I b j = 0) : mk1 b 0 μ (xn μ 9 20) I (xI1 μ I) P (xu (xP1 μ P) b 0 (μ.1 + 1)) := by
  subst hb
  refine ⟨rfl, by rw [xn_kl (Nat.le_refl _)]; exact kb, fun j => by rw [xI1_l (Nat.le_refl _)]; exact hI j, mkF_P (mkF_new (fun c _ => ⟨rfl, rfl, rfl, rfl⟩) (by omega)) (Nat.le_refl _), ⟨xn_k, xn_l⟩, xu_at, fun i hi => absurd hi (by omega)⟩
theorem mk1_s {b k : Nat} {μ0 μ : xM} {I0 I : xI} {P0 P : xP} (h : mk1 b k μ0 μ I0 I P0 P) : mk1 b (k + 1) μ0 (xn (xn μ 3 0) 8 14) I0 (xI1 (xn μ 3 0) (xI1 μ I)) P0 (xu (xu (xP1 (xn μ 3 0) (xP1 μ P)) (μ.1 + 1) 0 ((xn μ 3 0).1 + 1)) (b + 1) k (μ.1 + 1)) := by
  obtain ⟨e, kb, hI, hF, ⟨r1, r2⟩, r3, r4⟩ := h
  have hQ : ∀ c, c ≤ μ.1 → c ≠ b + 1 → xu (xu (xP1 (xn μ 3 0) (xP1 μ P)) (μ.1 + 1) 0 ((xn μ 3 0).1 + 1)) (b + 1) k (μ.1 + 1) c = P c := fun c h1 h2 => by
    rw [xu_row h2, xu_row (by omega), xP2_l h1]
  refine ⟨by show μ.1 + 1 + 1 = _; omega, by rw [xn2_k (by omega)]; exact kb, fun j => by rw [xI2_l (by omega)]; exact hI j, mkF_P (mkF_P (mkF_new (mkF_new hF (by omega)) (by rw [xn_1]; omega)) (by omega)) (by omega), ⟨by rw [xn2_k (by omega)]; exact r1, by rw [xn2_l (by omega)]; exact r2⟩, by rw [hQ b (by omega) (by omega)]; exact r3, fun i hi => ?_⟩
  by_cases hik : i = k
  · subst hik
    have e1 : b + 2 + 2 * i = μ.1 + 1 := by omega
    have e2 : b + 3 + 2 * i = μ.1 + 2 := by omega
    rw [e1, e2]
    refine ⟨⟨xn2_t, xn2_u, xn2_v⟩, xu_at, ?_⟩
    rw [xu_row (by omega), xu_at]; rfl
  · obtain ⟨⟨g1, g2, g3⟩, g4, g5⟩ := r4 i (by omega)
    refine ⟨⟨by rw [xn2_k (by omega)]; exact g1, by rw [xn2_k (by omega)]; exact g2, by rw [xn2_l (by omega)]; exact g3⟩, ?_, by rw [hQ _ (by omega) (by omega)]; exact g5⟩
    rw [xu_ne (Or.inr hik), xu_row (by omega), xP2_l (by omega)]; exact g4
theorem mk2_0 {b : Nat} {μ0 μ : xM} {I0 I : xI} {P0 P : xP} (h : mk1 b 20 μ0 μ I0 I P0 P) : mk2 b 0 μ0 (xn μ 10 6) I0 (xI1 μ I) P0 (xu (xP1 μ P) b 3 (μ.1 + 1)) := by
  obtain ⟨e, kb, hI, hF, ⟨r1, r2⟩, r3, r4⟩ := h
  have e1 : b + 42 = μ.1 + 1 := by omega
  refine ⟨by show μ.1 + 1 = _; omega, by rw [xn_kl (by omega)]; exact kb, fun j => by rw [xI1_l (by omega)]; exact hI j, mkF_P (mkF_new hF (by omega)) (Nat.le_refl _), ⟨⟨by rw [xn_kl (by omega)]; exact r1, by rw [xn_ll (by omega)]; exact r2⟩, by rw [xu_ne (Or.inr (by decide)), xP1_l (by omega)]; exact r3, fun i hi => ?_⟩, ⟨by rw [e1]; exact xn_k, by rw [e1]; exact xn_l⟩, by rw [xu_at]; exact e1.symm, fun j hj => absurd hj (by omega)⟩
  obtain ⟨⟨g1, g2, g3⟩, g4, g5⟩ := r4 i hi
  rw [xn_kl (by omega), xn_kl (by omega), xn_ll (by omega), xu_row (by omega), xP1_l (by omega), xu_row (by omega), xP1_l (by omega)]
  exact ⟨⟨g1, g2, g3⟩, g4, g5⟩
theorem mk2_s {b k : Nat} {μ0 μ : xM} {I0 I : xI} {P0 P : xP} (h : mk2 b k μ0 μ I0 I P0 P) : mk2 b (k + 1) μ0 (xn μ 2 0) I0 (xI1 μ I) P0 (xu (xP1 μ P) (b + 42) k (μ.1 + 1)) := by
  obtain ⟨e, kb, hI, hF, ⟨⟨r1, r2⟩, r3, r4⟩, ⟨t1, t2⟩, t3, t4⟩ := h
  refine ⟨by show μ.1 + 1 = _; omega, by rw [xn_kl (by omega)]; exact kb, fun j => by rw [xI1_l (by omega)]; exact hI j, mkF_P (mkF_new hF (by omega)) (by omega), ⟨⟨by rw [xn_kl (by omega)]; exact r1, by rw [xn_ll (by omega)]; exact r2⟩, by rw [xu_row (by omega), xP1_l (by omega)]; exact r3, fun i hi => ?_⟩, ⟨by rw [xn_kl (by omega)]; exact t1, by rw [xn_ll (by omega)]; exact t2⟩, by rw [xu_row (by omega), xP1_l (by omega)]; exact t3, fun j hj => ?_⟩
  · obtain ⟨⟨g1, g2, g3⟩, g4, g5⟩ := r4 i hi
    rw [xn_kl (by omega), xn_kl (by omega), xn_ll (by omega), xu_row (by omega), xP1_l (by omega), xu_row (by omega), xP1_l (by omega)]
    exact ⟨⟨g1, g2, g3⟩, g4, g5⟩
  · by_cases hjk : j = k
    · subst hjk
      have e1 : b + 43 + j = μ.1 + 1 := by omega
      rw [e1]
      exact ⟨xn_k, xu_at⟩
    · obtain ⟨g1, g2⟩ := t4 j (by omega)
      exact ⟨by rw [xn_kl (by omega)]; exact g1, by rw [xu_ne (Or.inr hjk), xP1_l (by omega)]; exact g2⟩
/-- the array that both begin with -/
def S00 : Nat → Int32 := fun i => if i = 1 then -1 else if i = 3 then -1 else if i = 8 then 24 else if i = 9 then 30 else if i = 10 then 10 else 0
theorem mk_end {b : Nat} {μ0 μ : xM} {I0 I : xI} {P0 P : xP} (h : mk2 b 6 μ0 μ I0 I P0 P) : (xn μ 7 3).1 = b + 49 ∧ bS (xn μ 7 3) b ∧ bP (xu (xP1 μ P) b 6 (μ.1 + 1)) b ∧ bR (xu (xfst (xI1 μ I) (μ.1 + 1)) b 5 (-1)) (xu (xP1 μ P) b 6 (μ.1 + 1)) b S00 0 0 ∧ mkF b μ0 (xn μ 7 3) I0 (xu (xfst (xI1 μ I) (μ.1 + 1)) b 5 (-1)) P0 (xu (xP1 μ P) b 6 (μ.1 + 1)) := by
  obtain ⟨e, kb, hI, hF, ⟨⟨r1, r2⟩, r3, r4⟩, ⟨t1, t2⟩, t3, t4⟩ := h
  have e1 : b + 49 = μ.1 + 1 := by omega
  have hb : ∀ j, j ≠ 5 → xu (xfst (xI1 μ I) (μ.1 + 1)) b 5 (-1) b j = 0 := fun j hj => by
    rw [xu_ne (Or.inr hj), xfst_o (by omega), xI1_l (by omega)]; exact hI j
  have h6 : xu (xP1 μ P) b 6 (μ.1 + 1) b 6 = μ.1 + 1 := xu_at
  refine ⟨by show μ.1 + 1 = _; omega, ⟨by rw [xn_kl (by omega)]; exact kb, ⟨by rw [xn_kl (by omega)]; exact r1, by rw [xn_ll (by omega)]; exact r2⟩, fun i hi => ?_, ⟨by rw [xn_kl (by omega)]; exact t1, by rw [xn_ll (by omega)]; exact t2⟩, fun j hj => by rw [xn_kl (by omega)]; exact (t4 j hj).1, by rw [e1]; exact xn_k, by rw [e1]; exact xn_l⟩, ⟨?_, ?_, by rw [h6]; exact e1.symm, fun j hj => ?_, fun i hi => ?_, fun i => i, fun i hi => ⟨hi, ?_⟩, fun i j _ _ hij => hij⟩, ⟨hb 1 (by decide), hb 2 (by decide), hb 4 (by decide), xu_at, hb 7 (by decide), hb 8 (by decide), hb 9 (by decide), hb 10 (by decide), fun k hk => ?_, fun i hi => absurd hi (by omega), fun j hj => absurd hj (by omega)⟩, mkF_I (mkF_P (mkF_new hF (by omega)) (Nat.le_refl _)) (fun c hc => by rw [xu_row (by omega), xfst_o (by omega)])⟩
  · obtain ⟨⟨g1, g2, g3⟩, -, -⟩ := r4 i hi
    rw [xn_kl (by omega), xn_kl (by omega), xn_ll (by omega)]
    exact ⟨g1, g2, g3⟩
  · rw [xu_ne (Or.inr (by decide)), xP1_l (by omega)]; exact r3
  · rw [xu_ne (Or.inr (by decide)), xP1_l (by omega)]; exact t3
  · rw [xu_row (by omega), xP1_l (by omega)]; exact (t4 j hj).2
  · rw [xu_row (by omega), xP1_l (by omega)]; exact (r4 i hi).2.2
  · rw [xu_row (by omega), xP1_l (by omega)]; exact (r4 i hi).2.1
  · rw [h6, xu_row (by omega)]
    have hc : k = 0 ∨ k = 1 ∨ k = 2 := by omega
    rcases hc with rfl | rfl | rfl <;> simp [xfst, S00]
