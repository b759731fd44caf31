/-! a blind that loses a row; two rows exchanged -/
def shP (P : xP) (c k m : Nat) : xP := fun a i => if a = c ∧ k ≤ i ∧ i < k + m then P c (i + 1) else P a i
theorem shP_0 {P : xP} {c k : Nat} : shP P c k 0 = P := by funext a i; unfold shP; rw [if_neg (by omega)]
theorem shP_o {P : xP} {a c k m : Nat} (h : a ≠ c) : shP P c k m a = P a := by funext i; unfold shP; rw [if_neg (fun w => h w.1)]
theorem shP_hi {P : xP} {c k m i : Nat} (h : k + m ≤ i) : shP P c k m c i = P c i := by unfold shP; rw [if_neg (by omega)]
theorem shP_succ {P : xP} {c k m : Nat} : xu (shP P c k m) c (k + m) (P c (k + m + 1)) = shP P c k (m + 1) := by
  funext a i
  unfold xu shP
  by_cases ha : a = c
  · subst ha
    by_cases hi : i = k + m
    · subst hi; rw [if_pos ⟨rfl, rfl⟩, if_pos ⟨rfl, by omega, by omega⟩]
    · rw [if_neg (fun w => hi w.2)]
      by_cases h2 : k ≤ i ∧ i < k + m
      · rw [if_pos ⟨rfl, h2⟩, if_pos ⟨rfl, by omega, by omega⟩]
      · rw [if_neg (fun w => h2 w.2), if_neg (fun w => h2 ⟨w.2.1, by omega⟩)]
  · rw [if_neg (fun w => ha w.1), if_neg (fun w => ha w.1), if_neg (fun w => ha w.1)]
/-- the first j cells from t on: their place 0 changed by F -/
def mpI (I : xI) (t : Nat) (F : Int32 → Int32) (j : Nat) : xI := fun a i => if t ≤ a ∧ a < t + j ∧ i = 0 then F (I a 0) else I a i
theorem mpI_0 {I : xI} {t : Nat} {F : Int32 → Int32} : mpI I t F 0 = I := by funext a i; unfold mpI; rw [if_neg (by omega)]
theorem mpI_o {I : xI} {t j a : Nat} {F : Int32 → Int32} (h : a < t ∨ t + j ≤ a) : mpI I t F j a = I a := by funext i; unfold mpI; rw [if_neg (by omega)]
theorem mpI_i {I : xI} {t j a i : Nat} {F : Int32 → Int32} (h : i ≠ 0) : mpI I t F j a i = I a i := by unfold mpI; rw [if_neg (by omega)]
theorem mpI_at {I : xI} {t j a : Nat} {F : Int32 → Int32} (h : t ≤ a ∧ a < t + j) : mpI I t F j a 0 = F (I a 0) := by unfold mpI; rw [if_pos ⟨h.1, h.2, rfl⟩]
theorem mpI_succ {I : xI} {t j : Nat} {F : Int32 → Int32} : xu (mpI I t F j) (t + j) 0 (F (mpI I t F j (t + j) 0)) = mpI I t F (j + 1) := by
  rw [mpI_o (a := t + j) (Or.inr (Nat.le_refl _))]
  funext a i
  by_cases ha : a = t + j
  · subst ha
    by_cases hi : i = 0
    · subst hi; rw [xu_at, mpI_at ⟨by omega, by omega⟩]
    · rw [xu_ne (Or.inr hi), mpI_i hi, mpI_i hi]
  · rw [xu_row ha]
    unfold mpI
    by_cases h : t ≤ a ∧ a < t + j ∧ i = 0
    · rw [if_pos h, if_pos ⟨h.1, by omega, h.2.2⟩]
    · rw [if_neg h, if_neg (fun w => h ⟨w.1, by omega, w.2.2⟩)]
theorem rouB_t {q j : Nat} (h : j < q) : rouB q (351 + 3 * j) = true := by
  unfold rouB
  simp only [Bool.and_eq_true, decide_eq_true_eq]
  omega
theorem rouB_m {q i : Nat} (h : i < 351 ∨ i % 3 ≠ 0) : rouB q i = false := by
  unfold rouB
  simp only [Bool.and_eq_false_iff, decide_eq_false_iff_not]
  omega
theorem rngB_t {lo j i : Nat} (h : lo ≤ i ∧ i < lo + j) : rngB lo j i = true := by simp [rngB, h.1, h.2]
def cuI (k n i : Nat) : Nat := if i < k then i else if i < n - 1 then i + 1 else if i = n - 1 then k else i
/-- behind a change of routes and of the order of rows -/
theorem cut_ok {I J : xI} {P Q : xP} {b n q k : Nat} {S : Nat → Int32} (hP : bP P b) (hB : bR I P b S n q) (hinv : invN S n q) (hk : k < n) (hQ : Q = xu (shP P (P b 0) k (n - 1 - k)) (P b 0) (n - 1) (P (P b 0) k)) (hJ2 : J b 2 = if S 1 - cutZ S k n < 0 then 0 else S 1 - cutZ S k n) (hJ : ∀ c j, ¬ (c = b ∧ j = 2) → J c j = mpI (xu I b 1 (nI (n - 1))) (b + 43) (fun z => woS z (nI k)) q c j) : (bP Q b ∧ ∀ c, c < b ∨ b + 50 ≤ c → Q c = P c) ∧ bR J Q b (cutS S k n q) (n - 1) q ∧ ∀ c, c < b ∨ b + 50 ≤ c → J c = I c := by
  have hlen := inv_len hinv
  obtain ⟨b1, b2, b4, b5, b7, b8, b9, b10, bst, brw, brt⟩ := hB
  obtain ⟨hn20, hn, hq6, hq, hcur, hdr, h8, h9, h10, hrows⟩ := hinv
  obtain ⟨hX1, hX2, hX3⟩ := bX hP
  obtain ⟨p0, p3, p6, pj, pl, p, hp, hinj⟩ := hP
  rw [p0] at hQ hX1 hX2 hX3 brw
  rw [p3] at brt
  rw [p6] at bst
  have Qo : ∀ c, c ≠ b + 1 → Q c = P c := fun c hc => by rw [hQ, xu_row hc, shP_o hc]
  have Q1 : ∀ i, i < k → Q (b + 1) i = P (b + 1) i := fun i hi => by rw [hQ, xu_ne (Or.inr (by omega))]; unfold shP; rw [if_neg (by omega)]
  have Q2 : ∀ i, k ≤ i → i < n - 1 → Q (b + 1) i = P (b + 1) (i + 1) := fun i hi h2 => by rw [hQ, xu_ne (Or.inr (by omega))]; unfold shP; rw [if_pos ⟨rfl, hi, by omega⟩]
  have Q3 : Q (b + 1) (n - 1) = P (b + 1) k := by rw [hQ, xu_at]
  have Q4 : ∀ i, n ≤ i → Q (b + 1) i = P (b + 1) i := fun i hi => by rw [hQ, xu_ne (Or.inr (by omega))]; unfold shP; rw [if_neg (by omega)]
  have q0 : Q b 0 = b + 1 := by rw [Qo _ (by omega), p0]
  have q3 : Q b 3 = b + 42 := by rw [Qo _ (by omega), p3]
  have q6 : Q b 6 = b + 49 := by rw [Qo _ (by omega), p6]
  have JI : ∀ c, c ≠ b → (c < b + 43 ∨ b + 43 + q ≤ c) → J c = I c := fun c hc h2 => by
    funext j
    rw [hJ c j (fun w => hc w.1), mpI_o h2, xu_row hc]
  have Jb : ∀ j, j ≠ 1 → j ≠ 2 → J b j = I b j := fun j h1 h2 => by rw [hJ b j (fun w => h2 w.2), mpI_o (Or.inl (by omega)), xu_ne (Or.inr h1)]
  have cS : ∀ i, i ≠ 0 → i ≠ 1 → i < 11 + 17 * k → cutS S k n q i = S i := fun i h0 h1 h2 => by
    unfold cutS
    rw [if_neg h1, if_neg (by rw [rouB_m (Or.inl (by omega))]; decide), if_neg (by rw [rngB_f (Or.inl h2)]; decide), if_neg h0]
  have cU : ∀ i, 11 + 17 * k ≤ i → i < 11 + 17 * (n - 1) → cutS S k n q i = S (i + 17) := fun i h1 h2 => by
    unfold cutS
    rw [if_neg (by omega), if_neg (by rw [rouB_m (Or.inl (by omega))]; decide), if_pos (rngB_t ⟨h1, by omega⟩)]
  have cR : ∀ j, j < q → cutS S k n q (351 + 3 * j) = woS (S (351 + 3 * j)) (nI k) := fun j hj => by
    unfold cutS
    rw [if_neg (by omega), if_pos (rouB_t hj)]
  have cQ : ∀ j r, (r = 1 ∨ r = 2) → cutS S k n q (351 + r + 3 * j) = S (351 + r + 3 * j) := fun j r hr => by
    unfold cutS
    rw [if_neg (by omega), if_neg (by rw [rouB_m (Or.inr (by omega))]; decide), if_neg (by rw [rngB_f (Or.inr (by omega))]; decide), if_neg (by omega)]
  refine ⟨⟨⟨q0, q3, q6, fun j hj => by rw [Qo _ (by omega), pj j hj], fun i hi => by rw [Qo _ (by omega), pl i hi], fun i => p (cuI k n i), fun i hi => ?_, fun i j hi hj hij => ?_⟩, fun c hc => Qo c (by omega)⟩, ⟨?_, ?_, ?_, ?_, ?_, ?_, ?_, ?_, fun j hj => ?_, fun i hi => ?_, fun j hj => ?_⟩, fun c hc => JI c (by omega) (by omega)⟩
  · unfold cuI
    by_cases c1 : i < k
    · simp only [if_pos c1]; rw [Q1 i c1]; exact hp i hi
    · simp only [if_neg c1]
      by_cases c2 : i < n - 1
      · simp only [if_pos c2]; rw [Q2 i (by omega) c2]; exact hp (i + 1) (by omega)
      · simp only [if_neg c2]
        by_cases c3 : i = n - 1
        · simp only [if_pos c3]; rw [c3, Q3]; exact hp k (by omega)
        · simp only [if_neg c3]; rw [Q4 i (by omega)]; exact hp i hi
  · have hb : ∀ i, i < 20 → cuI k n i < 20 := fun i hi => by unfold cuI; split <;> (try split) <;> (try split) <;> omega
    have e := hinj _ _ (hb i hi) (hb j hj) hij
    unfold cuI at e
    split at e <;> (try split at e) <;> (try split at e) <;> (try split at e) <;> (try split at e) <;> (try split at e) <;> omega
  · rw [hJ b 1 (by omega), mpI_o (Or.inl (by omega)), xu_at]
    unfold cutS
    rw [if_neg (by decide), if_neg (by rw [rouB_m (Or.inl (by omega))]; decide), if_neg (by rw [rngB_f (Or.inl (by omega))]; decide), if_pos rfl]
  · rw [hJ2]; unfold cutS; rw [if_pos rfl]
  · rw [Jb 4 (by decide) (by decide), cS 2 (by decide) (by decide) (by omega), b4]
  · rw [Jb 5 (by decide) (by decide), cS 3 (by decide) (by decide) (by omega), b5]
  · rw [Jb 7 (by decide) (by decide), cS 4 (by decide) (by decide) (by omega), b7]
  · rw [Jb 8 (by decide) (by decide), cS 5 (by decide) (by decide) (by omega), b8]
  · rw [Jb 9 (by decide) (by decide), cS 6 (by decide) (by decide) (by omega), b9]
  · rw [Jb 10 (by decide) (by decide), cS 7 (by decide) (by decide) (by omega), b10]
  · rw [q6, JI _ (by omega) (by omega), cS _ (by omega) (by omega) (by omega), bst j hj]
  · rw [q0]
    by_cases c1 : i < k
    · obtain ⟨x1, x2, x3⟩ := hX1 i (by omega)
      have hl : sLen (cutS S k n q) i = sLen S i := by unfold sLen; rw [cS _ (by omega) (by omega) (by omega)]
      have := hlen i (by omega)
      obtain ⟨r1, r2, r3, r4⟩ := brw i (by omega)
      rw [Q1 i c1, JI _ (by omega) (by omega), Qo _ (by omega), JI _ (by omega) (by omega), cS _ (by omega) (by omega) (by omega), cS _ (by omega) (by omega) (by omega), cS _ (by omega) (by omega) (by omega), hl]
      exact ⟨r1, r2, r3, fun z hz => by rw [cS _ (by omega) (by omega) (by omega)]; exact r4 z hz⟩
    · obtain ⟨x1, x2, x3⟩ := hX1 (i + 1) (by omega)
      have hl : sLen (cutS S k n q) i = sLen S (i + 1) := by unfold sLen; rw [cU _ (by omega) (by omega)]; congr 2
      have := hlen (i + 1) (by omega)
      obtain ⟨r1, r2, r3, r4⟩ := brw (i + 1) (by omega)
      rw [Q2 i (by omega) (by omega), JI _ (by omega) (by omega), Qo _ (by omega), JI _ (by omega) (by omega), cU _ (by omega) (by omega), cU _ (by omega) (by omega), cU _ (by omega) (by omega), hl]
      exact ⟨r1, r2, r3, fun z hz => by rw [cU _ (by omega) (by omega), r4 z hz]; congr 1; omega⟩
  · have e := pj j (by omega)
    obtain ⟨t0, t1, t2⟩ := brt j hj
    have jn : ∀ i, ¬ (b + 43 + j = b ∧ i = 2) := fun i => by omega
    rw [q3, Qo _ (by omega), e, cR j hj, cQ j 1 (Or.inl rfl), cQ j 2 (Or.inr rfl), hJ _ _ (jn 0), hJ _ _ (jn 1), hJ _ _ (jn 2), mpI_at ⟨by omega, by omega⟩, mpI_i (by decide), mpI_i (by decide), xu_row (by omega)]
    rw [e] at t0 t1 t2
    exact ⟨by rw [t0], t1, t2⟩
