/-! the whole object that is made -/
theorem bS_cong {μ μ' : xM} {b : Nat} (h : bS μ b) (hc : ∀ c, b ≤ c → c < b + 50 → μ'.2.1 c = μ.2.1 c ∧ μ'.2.2 c = μ.2.2 c) : bS μ' b := by
  obtain ⟨s0, s1, s2, s3, s4, s5⟩ := h
  refine ⟨by rw [(hc b (by omega) (by omega)).1]; exact s0, ⟨by rw [(hc _ (by omega) (by omega)).1]; exact s1.1, by rw [(hc _ (by omega) (by omega)).2]; exact s1.2⟩, fun i hi => ⟨by rw [(hc _ (by omega) (by omega)).1]; exact (s2 i hi).1, by rw [(hc _ (by omega) (by omega)).1]; exact (s2 i hi).2.1, by rw [(hc _ (by omega) (by omega)).2]; exact (s2 i hi).2.2⟩, ⟨by rw [(hc _ (by omega) (by omega)).1]; exact s3.1, by rw [(hc _ (by omega) (by omega)).2]; exact s3.2⟩, fun j hj => by rw [(hc _ (by omega) (by omega)).1]; exact s4 j hj, ⟨by rw [(hc _ (by omega) (by omega)).1]; exact s5.1, by rw [(hc _ (by omega) (by omega)).2]; exact s5.2⟩⟩
theorem mkF_tr {b b' : Nat} {μ0 μ μ' : xM} {I0 I I' : xI} {P0 P P' : xP} (h1 : mkF b μ0 μ I0 I P0 P) (h2 : mkF b' μ μ' I I' P P') (hb : b ≤ b') : mkF b μ0 μ' I0 I' P0 P' := fun c hc => by
  obtain ⟨a1, a2, a3, a4⟩ := h2 c (by omega)
  obtain ⟨c1, c2, c3, c4⟩ := h1 c hc
  exact ⟨a1.trans c1, a2.trans c2, a3.trans c3, a4.trans c4⟩
def mk3 (h k : Nat) (μ0 μ : xM) (I0 I : xI) (P0 P : xP) : Prop := μ.1 = h + 53 + 50 * k ∧ (μ.2.1 h = 5 ∧ μ.2.1 (h + 1) = 4 ∧ μ.2.1 (h + 2) = 8 ∧ μ.2.2 (h + 2) = 60) ∧ (P h 0 = h + 1 ∧ P (h + 1) 0 = h + 2 ∧ P h 1 = h + 3 ∧ P h 2 = h + 53) ∧ (bS μ (h + 3) ∧ bP P (h + 3) ∧ bR I P (h + 3) S00 0 0) ∧ (μ.2.1 (h + 53) = 11 ∧ μ.2.2 (h + 53) = 4) ∧ (∀ i, i < k → bS μ (h + 54 + 50 * i) ∧ bP P (h + 54 + 50 * i) ∧ P (h + 53) i = h + 54 + 50 * i) ∧ (I (h + 1) 1 = 0 ∧ ∀ j, I (h + 2) j = 0) ∧ mkF h μ0 μ I0 I P0 P
/-- behind the text, the blind that is used and the row of states -/
theorem mk3_0 {h v3 : Nat} {μ μ3 : xM} {I I3 : xI} {P P3 : xP} (kh : μ.2.1 h = 5) (hh : μ.1 = h) (g1 : bS μ3 (h + 3)) (g2 : bP P3 (h + 3)) (g3 : bR I3 P3 (h + 3) S00 0 0) (g4 : mkF (h + 3) (xn (xn (xn μ 4 0) 8 60) 1 0) μ3 (xI1 (xn (xn μ 4 0) 8 60) (xu (xI1 (xn μ 4 0) (xI1 μ I)) (μ.1 + 1) 1 0)) I3 (xP1 (xn (xn μ 4 0) 8 60) (xu (xu (xP1 (xn μ 4 0) (xP1 μ P)) (μ.1 + 1) 0 ((xn μ 4 0).1 + 1)) h 0 (μ.1 + 1))) P3) (g5 : μ3.1 = h + 3 + 49) (hv : v3 = h + 3) : mk3 h 0 μ (xn μ3 11 4) I (xI1 μ3 I3) P (xu (xP1 μ3 (xu P3 h 1 v3)) h 2 (μ3.1 + 1)) := by
  subst hh
  subst hv
  have e53 : μ.1 + 53 = μ3.1 + 1 := by omega
  have hk : ∀ c, c ≤ μ.1 + 2 → μ3.2.1 c = (xn (xn μ 4 0) 8 60).2.1 c ∧ μ3.2.2 c = (xn (xn μ 4 0) 8 60).2.2 c := fun c hc => by
    obtain ⟨a1, a2, -, -⟩ := g4 c (by omega)
    rw [a1, a2, xn_kl (by simp only [xn_1]; omega), xn_ll (by simp only [xn_1]; omega)]
    exact ⟨rfl, rfl⟩
  have hI : ∀ c, c ≤ μ.1 + 2 → I3 c = xu (xI1 (xn μ 4 0) (xI1 μ I)) (μ.1 + 1) 1 0 c := fun c hc => by
    obtain ⟨-, -, a3, -⟩ := g4 c (by omega)
    rw [a3, xI1_l (by simp only [xn_1]; omega)]
  have hP : ∀ c, c ≤ μ.1 + 2 → P3 c = xu (xu (xP1 (xn μ 4 0) (xP1 μ P)) (μ.1 + 1) 0 ((xn μ 4 0).1 + 1)) μ.1 0 (μ.1 + 1) c := fun c hc => by
    obtain ⟨-, -, -, a4⟩ := g4 c (by omega)
    rw [a4, xP1_l (by simp only [xn_1]; omega)]
  have hQ : ∀ c, c ≤ μ3.1 → c ≠ μ.1 → xu (xP1 μ3 (xu P3 μ.1 1 (μ.1 + 3))) μ.1 2 (μ3.1 + 1) c = P3 c := fun c h1 h2 => by
    rw [xu_row h2, xP1_l h1, xu_row h2]
  have hQ0 : ∀ j, j ≠ 1 → j ≠ 2 → xu (xP1 μ3 (xu P3 μ.1 1 (μ.1 + 3))) μ.1 2 (μ3.1 + 1) μ.1 j = P3 μ.1 j := fun j h1 h2 => by
    rw [xu_ne (Or.inr h2), xP1_l (by omega), xu_ne (Or.inr h1)]
  refine ⟨by show μ3.1 + 1 = _; omega, ⟨?_, ?_, ?_, ?_⟩, ⟨?_, ?_, ?_, by rw [xu_at]; exact e53.symm⟩, ⟨bS_cong g1 (fun c h1 h2 => ⟨xn_kl (by omega), xn_ll (by omega)⟩), bP_cong g2 (fun c h1 h2 => hQ c (by omega) (by omega)), bR_cong g2 (by decide) (by decide) g3 (fun c h1 h2 => xI1_l (by omega)) (fun c h1 h2 => hQ c (by omega) (by omega))⟩, ⟨by rw [e53]; exact xn_k, by rw [e53]; exact xn_l⟩, fun i hi => absurd hi (by omega), ⟨?_, fun j => ?_⟩, fun c hc => ?_⟩
  · rw [xn_kl (by omega), (hk _ (by omega)).1, xn2_k (by omega)]; exact kh
  · rw [xn_kl (by omega), (hk _ (by omega)).1]; exact xn2_t
  · rw [xn_kl (by omega), (hk _ (by omega)).1]; exact xn2_u
  · rw [xn_ll (by omega), (hk _ (by omega)).2]; exact xn2_v
  · rw [hQ0 0 (by decide) (by decide), hP _ (by omega), xu_at]
  · rw [hQ _ (by omega) (by omega), hP _ (by omega), xu_row (by omega), xu_at]; rfl
  · rw [xu_ne (Or.inr (by decide)), xP1_l (by omega), xu_at]
  · rw [xI1_l (by omega), hI _ (by omega), xu_at]
  · rw [xI1_l (by omega), hI _ (by omega), xu_row (by omega), show μ.1 + 2 = (xn μ 4 0).1 + 1 from rfl, xI1_at]
  · rw [xn_kl (by omega), xn_ll (by omega), (hk c (by omega)).1, (hk c (by omega)).2, xI1_l (by omega), hI c (by omega), hQ c (by omega) (by omega), hP c (by omega), xn2_k (by omega), xn2_l (by omega), xu_row (by omega), xI2_l (by omega), xu_row (by omega), xu_row (by omega), xP2_l (by omega)]
    exact ⟨rfl, rfl, rfl, rfl⟩
theorem mk3_s {h k b : Nat} {μ0 μ μ3 : xM} {I0 I I3 : xI} {P0 P P3 : xP} (hM : mk3 h k μ0 μ I0 I P0 P) (hb : b = μ.1 + 1) (g1 : bS μ3 b) (g2 : bP P3 b) (g4 : mkF b (xn μ 1 0) μ3 (xI1 μ I) I3 (xP1 μ P) P3) (g5 : μ3.1 = b + 49) : mk3 h (k + 1) μ0 μ3 I0 I3 P0 (xu P3 (h + 53) k b) := by
  obtain ⟨e, ⟨k0, k1, k2, k3⟩, ⟨p0, p1, p2, p3⟩, ⟨b1, b2, b3⟩, ⟨q1, q2⟩, hs, ⟨i1, i2⟩, hF⟩ := hM
  have hA : ∀ c, c ≤ μ.1 → (μ3.2.1 c = μ.2.1 c ∧ μ3.2.2 c = μ.2.2 c) ∧ I3 c = I c ∧ P3 c = P c := fun c hc => by
    obtain ⟨a1, a2, a3, a4⟩ := g4 c (by omega)
    rw [a1, a2, a3, a4, xn_kl hc, xn_ll hc, xI1_l hc, xP1_l hc]
    exact ⟨⟨rfl, rfl⟩, rfl, rfl⟩
  have hQ : ∀ c, c ≤ μ.1 → c ≠ h + 53 → xu P3 (h + 53) k b c = P c := fun c h1 h2 => by rw [xu_row h2]; exact (hA c h1).2.2
  refine ⟨by omega, ⟨by rw [(hA _ (by omega)).1.1]; exact k0, by rw [(hA _ (by omega)).1.1]; exact k1, by rw [(hA _ (by omega)).1.1]; exact k2, by rw [(hA _ (by omega)).1.2]; exact k3⟩, ⟨by rw [hQ _ (by omega) (by omega)]; exact p0, by rw [hQ _ (by omega) (by omega)]; exact p1, by rw [hQ _ (by omega) (by omega)]; exact p2, by rw [hQ _ (by omega) (by omega)]; exact p3⟩, ⟨bS_cong b1 (fun c h1 h2 => (hA c (by omega)).1), bP_cong b2 (fun c h1 h2 => hQ c (by omega) (by omega)), bR_cong b2 (by decide) (by decide) b3 (fun c h1 h2 => (hA c (by omega)).2.1) (fun c h1 h2 => hQ c (by omega) (by omega))⟩, ⟨by rw [(hA _ (by omega)).1.1]; exact q1, by rw [(hA _ (by omega)).1.2]; exact q2⟩, fun i hi => ?_, ⟨by rw [(hA _ (by omega)).2.1]; exact i1, fun j => by rw [(hA _ (by omega)).2.1]; exact i2 j⟩, fun c hc => ?_⟩
  · by_cases hik : i = k
    · subst hik
      have eb : h + 54 + 50 * i = b := by omega
      rw [eb]
      exact ⟨g1, bP_cong g2 (fun c h1 h2 => xu_row (by omega)), xu_at⟩
    · obtain ⟨s1, s2, s3⟩ := hs i (by omega)
      exact ⟨bS_cong s1 (fun c h1 h2 => (hA c (by omega)).1), bP_cong s2 (fun c h1 h2 => hQ c (by omega) (by omega)), by rw [xu_ne (Or.inr hik), (hA _ (by omega)).2.2]; exact s3⟩
  · obtain ⟨c1, c2, c3, c4⟩ := hF c hc
    rw [hQ c (by omega) (by omega), (hA c (by omega)).1.1, (hA c (by omega)).1.2, (hA c (by omega)).2.1]
    exact ⟨c1, c2, c3, c4⟩
theorem mk3_end {h : Nat} {μ0 μ : xM} {I0 I : xI} {P0 P : xP} {H : Nat → Nat → Int32} (hM : mk3 h 4 μ0 μ I0 I P0 P) : oS μ h ∧ oP P h ∧ oR (xu I h 3 0) P h S00 0 0 0 H 0 (fun _ => 0) ∧ mkF h μ0 μ I0 (xu I h 3 0) P0 P ∧ μ.1 = h + 253 ∧ μ.2.1 h = 5 := by
  obtain ⟨e, ⟨k0, k1, k2, k3⟩, ⟨p0, p1, p2, p3⟩, ⟨b1, b2, b3⟩, ⟨q1, q2⟩, hs, ⟨i1, i2⟩, hF⟩ := hM
  refine ⟨⟨k1, ⟨k2, k3⟩, b1, ⟨q1, q2⟩, fun i hi => (hs i hi).1⟩, ⟨p0, p1, p2, p3, b2, fun i hi => (hs i hi).2.1, fun i => i, fun i hi => ⟨hi, (hs i hi).2.2⟩, fun i j _ _ hij => hij⟩, ⟨bR_cong b2 (by decide) (by decide) b3 (fun c h1 h2 => xu_row (by omega)) (fun c _ _ => rfl), ⟨xu_at, by omega⟩, fun k hk => absurd hk (by omega), ⟨by rw [xu_row (by omega)]; exact i1, by omega⟩, ?_⟩, mkF_I hF (fun c hc => xu_row (by omega)), by omega, k0⟩
  rw [xu_row (by omega)]; funext j; exact i2 j
