/-! the whole object of the class: where its cells lie; what it holds beside the model -/
def oS (μ : xM) (h : Nat) : Prop := μ.2.1 (h + 1) = 4 ∧ (μ.2.1 (h + 2) = 8 ∧ μ.2.2 (h + 2) = 60) ∧ bS μ (h + 3) ∧ (μ.2.1 (h + 53) = 11 ∧ μ.2.2 (h + 53) = 4) ∧ ∀ i, i < 4 → bS μ (h + 54 + 50 * i)
def oP (P : xP) (h : Nat) : Prop := P h 0 = h + 1 ∧ P (h + 1) 0 = h + 2 ∧ P h 1 = h + 3 ∧ P h 2 = h + 53 ∧ bP P (h + 3) ∧ (∀ i, i < 4 → bP P (h + 54 + 50 * i)) ∧ ∃ p : Nat → Nat, (∀ i, i < 4 → p i < 4 ∧ P (h + 53) i = h + 54 + 50 * p i) ∧ ∀ i j, i < 4 → j < 4 → p i = p j → i = j
/-- st states H are kept; t signs tx are typed -/
def oR (I : xI) (P : xP) (h : Nat) (S : Nat → Int32) (n q st : Nat) (H : Nat → Nat → Int32) (t : Nat) (tx : Nat → Int32) : Prop := bR I P (h + 3) S n q ∧ (I h 3 = nI st ∧ st ≤ 4) ∧ (∀ k, k < st → ∃ n' q', invN (H k) n' q' ∧ bR I P (P (h + 53) k) (H k) n' q') ∧ (I (h + 1) 1 = nI t ∧ t ≤ 60) ∧ I (h + 2) = tx
theorem oF {μ : xM} {I : xI} {P : xP} {h n q st t : Nat} {S tx : Nat → Int32} {H : Nat → Nat → Int32} (hs : oS μ h) (hp : oP P h) (hr : oR I P h S n q st H t tx) : (P h 0 = h + 1 ∧ P (P h 0) 0 = h + 2 ∧ P h 1 = h + 3 ∧ P h 2 = h + 53) ∧ (μ.2.1 (P h 0) = 4 ∧ μ.2.1 (P (P h 0) 0) = 8 ∧ μ.2.2 (P (P h 0) 0) = 60) ∧ (μ.2.1 (P h 1) = 1 ∧ bS μ (P h 1) ∧ bP P (P h 1) ∧ bR I P (P h 1) S n q) ∧ (μ.2.1 (P h 2) = 11 ∧ μ.2.2 (P h 2) = 4) ∧ (∀ i, i < 4 → bS μ (P (P h 2) i) ∧ bP P (P (P h 2) i) ∧ h + 54 ≤ P (P h 2) i ∧ P (P h 2) i ≤ h + 204) ∧ (I h 3 = nI st ∧ st ≤ 4) ∧ (I (P h 0) 1 = nI t ∧ t ≤ 60) ∧ I (P (P h 0) 0) = tx := by
  obtain ⟨s1, s2, s3, s4, s5⟩ := hs
  obtain ⟨p0, p1, p2, p3, p4, p5, p, hp, -⟩ := hp
  obtain ⟨r1, r2, r3, r4, r5⟩ := hr
  rw [p0, p1, p2, p3]
  refine ⟨⟨rfl, rfl, rfl, rfl⟩, ⟨s1, s2.1, s2.2⟩, ⟨s3.1, s3, p4, r1⟩, s4, fun i hi => ?_, r2, r4, r5⟩
  obtain ⟨h1, h2⟩ := hp i hi
  rw [h2]
  exact ⟨s5 _ h1, p5 _ h1, by omega, by omega⟩
/-- what is told of a blind is told by its cells alone -/
theorem bP_cong {P Q : xP} {b : Nat} (hP : bP P b) (h : ∀ c, b ≤ c → c < b + 50 → Q c = P c) : bP Q b := by
  obtain ⟨p0, p3, p6, pj, pl, p, hp, hinj⟩ := hP
  refine ⟨by rw [h b (by omega) (by omega), p0], by rw [h b (by omega) (by omega), p3], by rw [h b (by omega) (by omega), p6], fun j hj => by rw [h _ (by omega) (by omega), pj j hj], fun i hi => by rw [h _ (by omega) (by omega), pl i hi], p, fun i hi => ?_, hinj⟩
  rw [h _ (by omega) (by omega)]; exact hp i hi
theorem bR_cong {I J : xI} {P Q : xP} {b n q : Nat} {S : Nat → Int32} (hP : bP P b) (hn : n ≤ 20) (hq : q ≤ 6) (hB : bR I P b S n q) (hI : ∀ c, b ≤ c → c < b + 50 → J c = I c) (hQ : ∀ c, b ≤ c → c < b + 50 → Q c = P c) : bR J Q b S n q := by
  obtain ⟨b1, b2, b4, b5, b7, b8, b9, b10, bst, brw, brt⟩ := hB
  obtain ⟨hX1, hX2, hX3⟩ := bX hP
  obtain ⟨p0, p3, p6, pj, -⟩ := hP
  have eb := hI b (by omega) (by omega)
  have qb := hQ b (by omega) (by omega)
  unfold bR
  rw [eb, qb]
  refine ⟨b1, b2, b4, b5, b7, b8, b9, b10, fun k hk => ?_, fun i hi => ?_, fun j hj => ?_⟩
  · rw [hI _ (by omega) (by omega)]; exact bst k hk
  · obtain ⟨x1, x2, x3⟩ := hX1 i (by omega)
    rw [hQ (P b 0) (by omega) (by omega), hQ (P (P b 0) i) (by omega) (by omega), hI _ (by omega) (by omega), hI (P (P (P b 0) i) 0) (by omega) (by omega)]
    exact brw i hi
  · have e := pj j (by omega)
    rw [hQ (P b 3) (by omega) (by omega), hI _ (by rw [p3, e]; omega) (by rw [p3, e]; omega)]
    exact brt j hj
/-- behind a change of the blind that is used -/
theorem oR_now {I J : xI} {P Q : xP} {h n q st t n' q' : Nat} {S tx S' : Nat → Int32} {H : Nat → Nat → Int32} (hp : oP P h) (hr : oR I P h S n q st H t tx) (hbP : bP Q (h + 3)) (hbR : bR J Q (h + 3) S' n' q') (hJ : ∀ c, c < h + 3 ∨ h + 3 + 50 ≤ c → J c = I c) (hQ : ∀ c, c < h + 3 ∨ h + 3 + 50 ≤ c → Q c = P c) : oP Q h ∧ oR J Q h S' n' q' st H t tx := by
  obtain ⟨p0, p1, p2, p3, p4, p5, p, hpp, hinj⟩ := hp
  obtain ⟨r1, r2, r3, r4, r5⟩ := hr
  refine ⟨⟨by rw [hQ h (by omega), p0], by rw [hQ _ (by omega), p1], by rw [hQ h (by omega), p2], by rw [hQ h (by omega), p3], hbP, fun i hi => bP_cong (p5 i hi) (fun c h1 h2 => hQ c (by omega)), p, fun i hi => by rw [hQ _ (by omega)]; exact hpp i hi, hinj⟩, hbR, by rw [hJ h (by omega)]; exact r2, fun k hk => ?_, by rw [hJ _ (by omega)]; exact r4, by rw [hJ _ (by omega)]; exact r5⟩
  obtain ⟨n1, q1, h1, h2⟩ := r3 k hk
  obtain ⟨g1, g2⟩ := hpp k (by omega)
  refine ⟨n1, q1, h1, ?_⟩
  rw [hQ _ (by omega), g2]
  rw [g2] at h2
  exact bR_cong (p5 _ g1) h1.1 h1.2.2.1 h2 (fun c k1 k2 => hJ c (by omega)) (fun c k1 k2 => hQ c (by omega))
def pushH (S : Nat → Int32) (st : Nat) (H : Nat → Nat → Int32) : Nat → Nat → Int32 := if st = 4 then fun k => if k = 3 then S else H (k + 1) else fun k => if k = st then S else H k
/-- a state more is kept -/
theorem oR_push {I J : xI} {P : xP} {h n q st t : Nat} {S tx : Nat → Int32} {H : Nat → Nat → Int32} (hp : oP P h) (hinv : invN S n q) (hr : oR I P h S n q st H t tx) (h4 : st < 4) (hbR : bR J P (P (h + 53) st) S n q) (hJ : ∀ c, c < P (h + 53) st ∨ P (h + 53) st + 50 ≤ c → J c = I c) : oR (xu J h 3 (nI (st + 1))) P h S n q (st + 1) (fun k => if k = st then S else H k) t tx ∧ ∀ c, c < h ∨ h + 254 ≤ c → xu J h 3 (nI (st + 1)) c = I c := by
  obtain ⟨p0, p1, p2, p3, p4, p5, p, hpp, hinj⟩ := hp
  obtain ⟨r1, r2, r3, r4, r5⟩ := hr
  obtain ⟨g1, g2⟩ := hpp st h4
  rw [g2] at hbR hJ
  have hX : ∀ c, c ≠ h → xu J h 3 (nI (st + 1)) c = J c := fun c hc => xu_row hc
  refine ⟨⟨bR_cong p4 hinv.1 hinv.2.2.1 r1 (fun c k1 k2 => by rw [hX c (by omega), hJ c (by omega)]) (fun c _ _ => rfl), ⟨xu_at, by omega⟩, fun k hk => ?_, by rw [hX _ (by omega), hJ _ (by omega)]; exact r4, by rw [hX _ (by omega), hJ _ (by omega)]; exact r5⟩, fun c hc => by rw [hX c (by omega), hJ c (by omega)]⟩
  obtain ⟨g3, g4⟩ := hpp k (by omega)
  by_cases hks : k = st
  · subst hks
    simp only [if_true]
    refine ⟨n, q, hinv, ?_⟩
    rw [g2]
    exact bR_cong (p5 _ g1) hinv.1 hinv.2.2.1 hbR (fun c k1 k2 => hX c (by omega)) (fun c _ _ => rfl)
  · simp only [if_neg hks]
    obtain ⟨n1, q1, h1, h2⟩ := r3 k (by omega)
    have hne : p k ≠ p st := fun e => hks (hinj k st (by omega) h4 e)
    refine ⟨n1, q1, h1, ?_⟩
    rw [g4] at h2 ⊢
    exact bR_cong (p5 _ g3) h1.1 h1.2.2.1 h2 (fun c k1 k2 => by rw [hX c (by omega), hJ c (by omega)]) (fun c _ _ => rfl)
def roP (P : xP) (c : Nat) : xP := xu (shP P c 0 3) c 3 (P c 0)
/-- the oldest state falls out -/
theorem oR_rot {I : xI} {P : xP} {h n q t : Nat} {S tx : Nat → Int32} {H : Nat → Nat → Int32} (hp : oP P h) (hinv : invN S n q) (hr : oR I P h S n q 4 H t tx) : oP (roP P (h + 53)) h ∧ oR (xu I h 3 (nI 3)) (roP P (h + 53)) h S n q 3 (fun k => H (k + 1)) t tx ∧ (∀ c, c ≠ h + 53 → roP P (h + 53) c = P c) ∧ ∀ i, i < 4 → roP P (h + 53) (h + 53) i = P (h + 53) (if i = 3 then 0 else i + 1) := by
  obtain ⟨p0, p1, p2, p3, p4, p5, p, hpp, hinj⟩ := hp
  obtain ⟨r1, r2, r3, r4, r5⟩ := hr
  have Qo : ∀ c, c ≠ h + 53 → roP P (h + 53) c = P c := fun c hc => by unfold roP; rw [xu_row hc, shP_o hc]
  have Q1 : ∀ i, i < 4 → roP P (h + 53) (h + 53) i = P (h + 53) (if i = 3 then 0 else i + 1) := fun i hi => by
    unfold roP
    by_cases h3 : i = 3
    · subst h3; rw [xu_at, if_pos rfl]
    · rw [xu_ne (Or.inr h3), if_neg h3]; unfold shP; rw [if_pos ⟨rfl, by omega, by omega⟩]
  have hX : ∀ c, c ≠ h → xu I h 3 (nI 3) c = I c := fun c hc => xu_row hc
  have hb : ∀ i, i < 4 → (if i = 3 then 0 else i + 1) < 4 := fun i hi => by split <;> omega
  refine ⟨⟨by rw [Qo h (by omega), p0], by rw [Qo _ (by omega), p1], by rw [Qo h (by omega), p2], by rw [Qo h (by omega), p3], bP_cong p4 (fun c _ _ => Qo c (by omega)), fun i hi => bP_cong (p5 i hi) (fun c _ _ => Qo c (by omega)), fun i => p (if i = 3 then 0 else i + 1), fun i hi => by rw [Q1 i hi]; exact hpp _ (hb i hi), fun i j hi hj hij => ?_⟩, ⟨bR_cong p4 hinv.1 hinv.2.2.1 r1 (fun c _ _ => hX c (by omega)) (fun c _ _ => Qo c (by omega)), ⟨xu_at, by omega⟩, fun k hk => ?_, by rw [hX _ (by omega)]; exact r4, by rw [hX _ (by omega)]; exact r5⟩, Qo, Q1⟩
  · have e := hinj _ _ (hb i hi) (hb j hj) hij
    split at e <;> (try split at e) <;> omega
  · obtain ⟨n1, q1, h1, h2⟩ := r3 (k + 1) (by omega)
    obtain ⟨g3, g4⟩ := hpp (k + 1) (by omega)
    refine ⟨n1, q1, h1, ?_⟩
    rw [Q1 k (by omega), if_neg (by omega)]
    rw [g4] at h2 ⊢
    exact bR_cong (p5 _ g3) h1.1 h1.2.2.1 h2 (fun c _ _ => hX c (by omega)) (fun c _ _ => Qo c (by omega))
