def swI (i j x : Nat) : Nat := if x = j then i else if x = i then j else x
theorem swap_ok {I J : xI} {P Q : xP} {b n q a c : Nat} {S : Nat → Int32} (hP : bP P b) (hB : bR I P b S n q) (hinv : invN S n q) (ha : a < n) (hc : c < n) (hac : a ≠ c) (hQ : Q = xu (xu P (P b 0) a (P (P b 0) c)) (P b 0) c (P (P b 0) a)) (hJ : J = mpI I (b + 43) (fun z => swS z (nI a) (nI c)) q) : (bP Q b ∧ ∀ c, c < b ∨ b + 50 ≤ c → Q c = P c) ∧ bR J Q b (swapS S a c q) n q ∧ ∀ c, c < b ∨ b + 50 ≤ c → J c = I c := by
  have hlen := inv_len hinv
  obtain ⟨b1, b2, b4, b5, b7, b8, b9, b10, bst, brw, brt⟩ := hB
  obtain ⟨hn20, hn, hq6, hq, hcur, hdr, h8, h9, h10, hrows⟩ := hinv
  obtain ⟨hX1, hX2, hX3⟩ := bX hP
  obtain ⟨p0, p3, p6, pj, pl, p, hp, hinj⟩ := hP
  rw [p0] at hQ hX1 hX2 hX3 brw
  rw [p3] at brt
  rw [p6] at bst
  have Qo : ∀ c, c ≠ b + 1 → Q c = P c := fun c hc => by rw [hQ, xu_row hc, xu_row hc]
  have Q1 : ∀ i, Q (b + 1) i = P (b + 1) (swI a c i) := fun i => by
    rw [hQ]
    unfold swI
    by_cases h1 : i = c
    · subst h1; rw [xu_at, if_pos rfl]
    · rw [xu_ne (Or.inr h1), if_neg h1]
      by_cases h2 : i = a
      · subst h2; rw [xu_at, if_pos rfl]
      · rw [xu_ne (Or.inr h2), if_neg h2]
  have q0 : Q b 0 = b + 1 := by rw [Qo _ (by omega), p0]
  have q3 : Q b 3 = b + 42 := by rw [Qo _ (by omega), p3]
  have q6 : Q b 6 = b + 49 := by rw [Qo _ (by omega), p6]
  have JI : ∀ c, (c < b + 43 ∨ b + 43 + q ≤ c) → J c = I c := fun c h2 => by rw [hJ, mpI_o h2]
  have cS : ∀ i, i < 11 → swapS S a c q i = S i := fun i h2 => by
    unfold swapS
    rw [if_neg (by rw [rouB_m (Or.inl (by omega))]; decide), if_neg (by rw [rngB_f (Or.inl (by omega))]; decide), if_neg (by rw [rngB_f (Or.inl (by omega))]; decide)]
  have cU : ∀ i k, i < n → k < 17 → swapS S a c q (11 + 17 * i + k) = S (11 + 17 * swI a c i + k) := fun i k hi hk => by
    unfold swapS swI
    rw [if_neg (by rw [rouB_m (Or.inl (by omega))]; decide)]
    by_cases h1 : i = a
    · subst h1
      rw [if_pos (rngB_t ⟨by omega, by omega⟩), if_neg hac, if_pos rfl]
      congr 1; omega
    · rw [if_neg (by rw [rngB_f (by omega)]; decide)]
      by_cases h2 : i = c
      · subst h2
        rw [if_pos (rngB_t ⟨by omega, by omega⟩), if_pos rfl]
        congr 1; omega
      · rw [if_neg (by rw [rngB_f (by omega)]; decide), if_neg h2, if_neg h1]
  have cR : ∀ j, j < q → swapS S a c q (351 + 3 * j) = swS (S (351 + 3 * j)) (nI a) (nI c) := fun j hj => by
    unfold swapS
    rw [if_pos (rouB_t hj)]
  have cQ : ∀ j r, (r = 1 ∨ r = 2) → swapS S a c q (351 + r + 3 * j) = S (351 + r + 3 * j) := fun j r hr => by
    unfold swapS
    rw [if_neg (by rw [rouB_m (Or.inr (by omega))]; decide), if_neg (by rw [rngB_f (Or.inr (by omega))]; decide), if_neg (by rw [rngB_f (Or.inr (by omega))]; decide)]
  have hb : ∀ i, i < 20 → swI a c i < 20 := fun i hi => by unfold swI; split <;> (try split) <;> omega
  have hbn : ∀ i, i < n → swI a c i < n := fun i hi => by unfold swI; split <;> (try split) <;> omega
  refine ⟨⟨⟨q0, q3, q6, fun j hj => by rw [Qo _ (by omega), pj j hj], fun i hi => by rw [Qo _ (by omega), pl i hi], fun i => p (swI a c i), fun i hi => ?_, fun i j hi hj hij => ?_⟩, fun c hc => Qo c (by omega)⟩, ⟨?_, ?_, ?_, ?_, ?_, ?_, ?_, ?_, fun j hj => ?_, fun i hi => ?_, fun j hj => ?_⟩, fun c hc => JI c (by omega)⟩
  · rw [Q1]; exact hp _ (hb i hi)
  · have e := hinj _ _ (hb i hi) (hb j hj) hij
    unfold swI at e
    split at e <;> (try split at e) <;> (try split at e) <;> (try split at e) <;> omega
  · rw [JI _ (by omega), cS _ (by omega), b1]
  · rw [JI _ (by omega), cS _ (by omega), b2]
  · rw [JI _ (by omega), cS _ (by omega), b4]
  · rw [JI _ (by omega), cS _ (by omega), b5]
  · rw [JI _ (by omega), cS _ (by omega), b7]
  · rw [JI _ (by omega), cS _ (by omega), b8]
  · rw [JI _ (by omega), cS _ (by omega), b9]
  · rw [JI _ (by omega), cS _ (by omega), b10]
  · rw [q6, JI _ (by omega), cS _ (by omega), bst j hj]
  · have hs := hbn i hi
    obtain ⟨x1, x2, x3⟩ := hX1 (swI a c i) (by omega)
    have e0 : swapS S a c q (11 + 17 * i) = S (11 + 17 * swI a c i) := cU i 0 hi (by decide)
    have hl : sLen (swapS S a c q) i = sLen S (swI a c i) := by unfold sLen; rw [e0]
    have := hlen _ hs
    obtain ⟨r1, r2, r3, r4⟩ := brw _ hs
    rw [q0, Q1, JI _ (by omega), Qo _ (by omega), JI _ (by omega), hl, e0, show 12 + 17 * i = 11 + 17 * i + 1 by omega, show 13 + 17 * i = 11 + 17 * i + 2 by omega, cU i 1 hi (by decide), cU i 2 hi (by decide)]
    refine ⟨r1, by rw [r2]; congr 1; omega, by rw [r3]; congr 1; omega, fun z hz => ?_⟩
    rw [show 14 + 17 * i + z = 11 + 17 * i + (z + 3) by omega, cU i (z + 3) hi (by omega), r4 z hz]
    congr 1; omega
  · have e := pj j (by omega)
    obtain ⟨t0, t1, t2⟩ := brt j hj
    rw [q3, Qo _ (by omega), e, cR j hj, cQ j 1 (Or.inl rfl), cQ j 2 (Or.inr rfl), hJ, mpI_at ⟨by omega, by omega⟩, mpI_i (by decide), mpI_i (by decide)]
    rw [e] at t0 t1 t2
    exact ⟨by rw [t0], t1, t2⟩
/-! a blind that becomes another -/
def crI1 (P : xP) (I : xI) (r o : Nat) : xI := xu (xu (xu (xcp I (P o 0) (P r 0) 14) r 1 (I o 1)) r 2 (I o 2)) r 3 (I o 3)
def bcI (P : xP) (b o : Nat) (I : xI) : Nat → xI
  | 0 => I
  | k + 1 => crI1 P (bcI P b o I k) (P (P b 0) k) (P (P o 0) k)
def btI (P : xP) (b o : Nat) (I : xI) : Nat → xI
  | 0 => I
  | k + 1 => xu (xu (xu (btI P b o I k) (P (P b 3) k) 0 (btI P b o I k (P (P o 3) k) 0)) (P (P b 3) k) 1 (btI P b o I k (P (P o 3) k) 1)) (P (P b 3) k) 2 (btI P b o I k (P (P o 3) k) 2)
def bhI (I : xI) (b o : Nat) : xI := xu (xu (xu (xu (xu (xu (xu (xu I b 1 (I o 1)) b 2 (I o 2)) b 4 (I o 4)) b 5 (I o 5)) b 7 (I o 7)) b 8 (I o 8)) b 9 (I o 9)) b 10 (I o 10)
theorem bcI_ok {I : xI} {P : xP} {b o : Nat} (hP : bP P b) (hO : bP P o) (hd : b + 50 ≤ o ∨ o + 50 ≤ b) : ∀ k, k ≤ 20 → (∀ c, c < b + 2 ∨ b + 42 ≤ c → bcI P b o I k c = I c) ∧ ∀ i, i < k → (∀ j, 1 ≤ j → j ≤ 3 → bcI P b o I k (P (P b 0) i) j = I (P (P o 0) i) j) ∧ ∀ j, j < 14 → bcI P b o I k (P (P (P b 0) i) 0) j = I (P (P (P o 0) i) 0) j := by
  obtain ⟨hX1, hX2, hX3⟩ := bX hP
  obtain ⟨hY1, -, -⟩ := bX hO
  intro k
  induction k with
  | zero => exact fun _ => ⟨fun c _ => rfl, fun i hi => absurd hi (by omega)⟩
  | succ k ih =>
    intro hk
    obtain ⟨i1, i2⟩ := ih (by omega)
    obtain ⟨x1, x2, x3⟩ := hX1 k (by omega)
    obtain ⟨y1, y2, y3⟩ := hY1 k (by omega)
    have hlr : P (P (P b 0) k) 0 ≠ P (P b 0) k := by omega
    rw [bcI, crI1]
    refine ⟨fun c hc => ?_, fun i hi => ?_⟩
    · rw [xu_row (by omega), xu_row (by omega), xu_row (by omega), xcp_row (by omega)]; exact i1 c hc
    · by_cases hik : i = k
      · subst hik
        refine ⟨fun j h1 h2 => ?_, fun j hj => ?_⟩
        · have e : bcI P b o I i (P (P o 0) i) = I (P (P o 0) i) := i1 _ (by omega)
          rw [e]
          have : j = 1 ∨ j = 2 ∨ j = 3 := by omega
          rcases this with rfl | rfl | rfl
          · rw [xu_ne (Or.inr (by decide)), xu_ne (Or.inr (by decide)), xu_at]
          · rw [xu_ne (Or.inr (by decide)), xu_at]
          · rw [xu_at]
        · rw [xu_row hlr, xu_row hlr, xu_row hlr]
          have e : bcI P b o I i (P (P (P o 0) i) 0) = I (P (P (P o 0) i) 0) := i1 _ (by omega)
          simp only [xcp, hj, and_self, if_true]
          rw [e]
      · have hne := hX2 i k (by omega) (by omega) hik
        obtain ⟨z1, z2, z3⟩ := hX1 i (by omega)
        have hz1 := hX3 i k (by omega) (by omega)
        have hz2 := hX3 k i (by omega) (by omega)
        obtain ⟨i3, i4⟩ := i2 i (by omega)
        refine ⟨fun j h1 h2 => ?_, fun j hj => ?_⟩
        · rw [xu_row hne, xu_row hne, xu_row hne, xcp_row hz1]; exact i3 j h1 h2
        · rw [xu_row (Ne.symm hz2), xu_row (Ne.symm hz2), xu_row (Ne.symm hz2), xcp_row (by omega)]; exact i4 j hj
theorem btI_ok {I : xI} {P : xP} {b o : Nat} (hP : bP P b) (hO : bP P o) (hd : b + 50 ≤ o ∨ o + 50 ≤ b) : ∀ k, k ≤ 6 → (∀ c, c < b + 43 ∨ b + 49 ≤ c → btI P b o I k c = I c) ∧ ∀ i, i < k → ∀ j, j ≤ 2 → btI P b o I k (P (P b 3) i) j = I (P (P o 3) i) j := by
  obtain ⟨p0, p3, p6, pj, -⟩ := hP
  obtain ⟨-, o3, -, oj, -⟩ := hO
  have pd : ∀ j, j < 6 → P (P b 3) j = b + 43 + j := fun j hj => by rw [p3]; exact pj j hj
  have od : ∀ j, j < 6 → P (P o 3) j = o + 43 + j := fun j hj => by rw [o3]; exact oj j hj
  intro k
  induction k with
  | zero => exact fun _ => ⟨fun c _ => rfl, fun i hi => absurd hi (by omega)⟩
  | succ k ih =>
    intro hk
    obtain ⟨i1, i2⟩ := ih (by omega)
    have e1 := pd k (by omega)
    have e2 := od k (by omega)
    rw [btI]
    refine ⟨fun c hc => ?_, fun i hi j hj => ?_⟩
    · rw [xu_row (by omega), xu_row (by omega), xu_row (by omega)]; exact i1 c hc
    · by_cases hik : i = k
      · subst hik
        have e : btI P b o I i (P (P o 3) i) = I (P (P o 3) i) := i1 _ (by omega)
        rw [e]
        have : j = 0 ∨ j = 1 ∨ j = 2 := by omega
        rcases this with rfl | rfl | rfl
        · rw [xu_ne (Or.inr (by decide)), xu_ne (Or.inr (by decide)), xu_at]
        · rw [xu_ne (Or.inr (by decide)), xu_at]
        · rw [xu_at]
      · have e3 := pd i (by omega)
        rw [xu_row (by omega), xu_row (by omega), xu_row (by omega)]; exact i2 i (by omega) j hj
theorem become_ok {I J : xI} {P : xP} {b o n q : Nat} {S : Nat → Int32} (hP : bP P b) (hO : bP P o) (hd : b + 50 ≤ o ∨ o + 50 ≤ b) (hB : bR I P o S n q) (hinv : invN S n q) (hJ : J = bhI (xcp (btI P b o (bcI P b o I 20) 6) (P o 6) (P b 6) 3) b o) : bR J P b S n q ∧ ∀ c, c < b ∨ b + 50 ≤ c → J c = I c := by
  have hlen := inv_len hinv
  obtain ⟨hn20, hn, hq6, hq, hcur, hdr, h8, h9, h10, hrows⟩ := hinv
  obtain ⟨c1, c2⟩ := bcI_ok (I := I) hP hO hd 20 (by omega)
  obtain ⟨t1, t2⟩ := btI_ok (I := bcI P b o I 20) hP hO hd 6 (by omega)
  obtain ⟨hX1, hX2, hX3⟩ := bX hP
  obtain ⟨hY1, -, -⟩ := bX hO
  obtain ⟨p0, p3, p6, pj, -⟩ := hP
  obtain ⟨o0, o3, o6, oj, -⟩ := hO
  have pd : ∀ j, j < 6 → P (P b 3) j = b + 43 + j := fun j hj => by rw [p3]; exact pj j hj
  have od : ∀ j, j < 6 → P (P o 3) j = o + 43 + j := fun j hj => by rw [o3]; exact oj j hj
  obtain ⟨b1, b2, b4, b5, b7, b8, b9, b10, bst, brw, brt⟩ := hB
  -- the heap ahead of the header
  obtain ⟨K, hK⟩ : ∃ K, xcp (btI P b o (bcI P b o I 20) 6) (P o 6) (P b 6) 3 = K := ⟨_, rfl⟩
  rw [hK] at hJ
  have Kf : ∀ c, c < b + 2 ∨ b + 50 ≤ c → K c = I c := fun c hc => by rw [← hK, xcp_row (by omega), t1 _ (by omega), c1 _ (by omega)]
  have Jc : ∀ c, c ≠ b → J c = K c := fun c hc => by rw [hJ]; unfold bhI; rw [xu_row hc, xu_row hc, xu_row hc, xu_row hc, xu_row hc, xu_row hc, xu_row hc, xu_row hc]
  have Ko : K o = I o := Kf _ (by omega)
  refine ⟨⟨?_, ?_, ?_, ?_, ?_, ?_, ?_, ?_, fun j hj => ?_, fun i hi => ?_, fun j hj => ?_⟩, fun c hc => by rw [Jc c (by omega), Kf c (by omega)]⟩
  · rw [hJ]; unfold bhI; simp only [xu_ne (Or.inr (show (1 : Nat) ≠ 10 by decide)), xu_ne (Or.inr (show (1 : Nat) ≠ 9 by decide)), xu_ne (Or.inr (show (1 : Nat) ≠ 8 by decide)), xu_ne (Or.inr (show (1 : Nat) ≠ 7 by decide)), xu_ne (Or.inr (show (1 : Nat) ≠ 5 by decide)), xu_ne (Or.inr (show (1 : Nat) ≠ 4 by decide)), xu_ne (Or.inr (show (1 : Nat) ≠ 2 by decide)), xu_at, Ko, b1]
  · rw [hJ]; unfold bhI; simp only [xu_ne (Or.inr (show (2 : Nat) ≠ 10 by decide)), xu_ne (Or.inr (show (2 : Nat) ≠ 9 by decide)), xu_ne (Or.inr (show (2 : Nat) ≠ 8 by decide)), xu_ne (Or.inr (show (2 : Nat) ≠ 7 by decide)), xu_ne (Or.inr (show (2 : Nat) ≠ 5 by decide)), xu_ne (Or.inr (show (2 : Nat) ≠ 4 by decide)), xu_at, Ko, b2]
  · rw [hJ]; unfold bhI; simp only [xu_ne (Or.inr (show (4 : Nat) ≠ 10 by decide)), xu_ne (Or.inr (show (4 : Nat) ≠ 9 by decide)), xu_ne (Or.inr (show (4 : Nat) ≠ 8 by decide)), xu_ne (Or.inr (show (4 : Nat) ≠ 7 by decide)), xu_ne (Or.inr (show (4 : Nat) ≠ 5 by decide)), xu_at, Ko, b4]
  · rw [hJ]; unfold bhI; simp only [xu_ne (Or.inr (show (5 : Nat) ≠ 10 by decide)), xu_ne (Or.inr (show (5 : Nat) ≠ 9 by decide)), xu_ne (Or.inr (show (5 : Nat) ≠ 8 by decide)), xu_ne (Or.inr (show (5 : Nat) ≠ 7 by decide)), xu_at, Ko, b5]
  · rw [hJ]; unfold bhI; simp only [xu_ne (Or.inr (show (7 : Nat) ≠ 10 by decide)), xu_ne (Or.inr (show (7 : Nat) ≠ 9 by decide)), xu_ne (Or.inr (show (7 : Nat) ≠ 8 by decide)), xu_at, Ko, b7]
  · rw [hJ]; unfold bhI; simp only [xu_ne (Or.inr (show (8 : Nat) ≠ 10 by decide)), xu_ne (Or.inr (show (8 : Nat) ≠ 9 by decide)), xu_at, Ko, b8]
  · rw [hJ]; unfold bhI; simp only [xu_ne (Or.inr (show (9 : Nat) ≠ 10 by decide)), xu_at, Ko, b9]
  · rw [hJ]; unfold bhI; simp only [xu_at, Ko, b10]
  · rw [Jc _ (by omega), ← hK, ← bst j hj]
    simp only [xcp, hj, and_self, if_true]
    rw [t1 _ (by omega), c1 _ (by omega)]
  · obtain ⟨x1, x2, x3⟩ := hX1 i (by omega)
    obtain ⟨y1, y2, y3⟩ := hY1 i (by omega)
    obtain ⟨d1, d2⟩ := c2 i (by omega)
    have e1 : J (P (P b 0) i) = bcI P b o I 20 (P (P b 0) i) := by rw [Jc _ (by omega), ← hK, xcp_row (by omega), t1 _ (by omega)]
    have e2 : J (P (P (P b 0) i) 0) = bcI P b o I 20 (P (P (P b 0) i) 0) := by rw [Jc _ (by omega), ← hK, xcp_row (by omega), t1 _ (by omega)]
    obtain ⟨r1, r2, r3, r4⟩ := brw i hi
    have := hlen i hi
    rw [e1, e2, d1 1 (by decide) (by decide), d1 2 (by decide) (by decide), d1 3 (by decide) (by decide)]
    exact ⟨r1, r2, r3, fun k hk => by rw [d2 k (by omega)]; exact r4 k hk⟩
  · have e1 := pd j (by omega)
    have e2 := od j (by omega)
    have e3 : J (P (P b 3) j) = btI P b o (bcI P b o I 20) 6 (P (P b 3) j) := by rw [Jc _ (by omega), ← hK, xcp_row (by omega)]
    have e4 : bcI P b o I 20 (P (P o 3) j) = I (P (P o 3) j) := c1 _ (by omega)
    rw [e3, t2 j (by omega) 0 (by decide), t2 j (by omega) 1 (by decide), t2 j (by omega) 2 (by decide), e4]
    exact brt j hj
