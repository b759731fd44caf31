/-! the law's world: the class' object at 1, the model at 255 -/
theorem bR_ext {I : xI} {P : xP} {b n q : Nat} {S S' : Nat → Int32} (hi : invN S n q) (h : ∀ j, j < 369 → S' j = S j) (hB : bR I P b S n q) : bR I P b S' n q := by
  have hlen := inv_len hi
  have hn := hi.1
  have hq := hi.2.2.1
  obtain ⟨b1, b2, b4, b5, b7, b8, b9, b10, bst, brw, brt⟩ := hB
  refine ⟨by rw [h 0 (by decide)]; exact b1, by rw [h 1 (by decide)]; exact b2, by rw [h 2 (by decide)]; exact b4, by rw [h 3 (by decide)]; exact b5, by rw [h 4 (by decide)]; exact b7, by rw [h 5 (by decide)]; exact b8, by rw [h 6 (by decide)]; exact b9, by rw [h 7 (by decide)]; exact b10, fun k hk => by rw [h _ (by omega)]; exact bst k hk, fun i hi1 => ?_, fun j hj => ?_⟩
  · obtain ⟨r1, r2, r3, r4⟩ := brw i hi1
    have hl : sLen S' i = sLen S i := by unfold sLen; rw [h _ (by omega)]
    have := hlen i hi1
    rw [h _ (by omega), h _ (by omega), h _ (by omega), hl]
    exact ⟨r1, r2, r3, fun k hk => by rw [h _ (by omega)]; exact r4 k hk⟩
  · rw [h _ (by omega), h _ (by omega), h _ (by omega)]; exact brt j hj
theorem inv_ext {n q : Nat} {S S' : Nat → Int32} (hi : invN S n q) (h : ∀ j, j < 369 → S' j = S j) : invN S' n q := by
  have hi0 := hi
  obtain ⟨hn20, hn, hq6, hq2, hcur, hdr, g8, g9, g10, hrows⟩ := hi
  exact inv_keep hi0 (h 0 (by decide)) hq6 (by rw [h 2 (by decide)]; exact hq2) (by rw [h 1 (by decide)]; exact hcur) (by rw [h 3 (by decide)]; exact hdr) (by rw [h 8 (by decide)]; exact g8) (by rw [h 9 (by decide)]; exact g9) (by rw [h 10 (by decide)]; exact g10) (fun r hr => ⟨h _ (by omega), fun j hj => h _ (by omega), by rw [h _ (by omega)]; exact rowOk_t (hrows r hr)⟩)
/-- what is told of the object is told by its cells alone -/
theorem oR_far {I J : xI} {P : xP} {h n q st t : Nat} {S tx : Nat → Int32} {H : Nat → Nat → Int32} (hp : oP P h) (hi : invN S n q) (hr : oR I P h S n q st H t tx) (hJ : ∀ c, h ≤ c → c < h + 254 → J c = I c) : oR J P h S n q st H t tx := by
  obtain ⟨p0, p1, p2, p3, p4, p5, p, hpp, hinj⟩ := hp
  obtain ⟨r1, r2, r3, r4, r5⟩ := hr
  refine ⟨bR_cong p4 hi.1 hi.2.2.1 r1 (fun c k1 k2 => hJ c (by omega) (by omega)) (fun c _ _ => rfl), by rw [hJ h (by omega) (by omega)]; exact r2, fun k hk => ?_, by rw [hJ _ (by omega) (by omega)]; exact r4, by rw [hJ _ (by omega) (by omega)]; exact r5⟩
  obtain ⟨n1, q1, h1, h2⟩ := r3 k hk
  obtain ⟨g1, g2⟩ := hpp k (by omega)
  refine ⟨n1, q1, h1, ?_⟩
  rw [g2] at h2 ⊢
  exact bR_cong (p5 _ g1) h1.1 h1.2.2.1 h2 (fun c k1 k2 => hJ c (by omega) (by omega)) (fun c _ _ => rfl)
def wK (μ : xM) (P : xP) (m : Nat) : Prop := μ.2.1 m = 6 ∧ (μ.2.1 (m + 1) = 7 ∧ μ.2.2 (m + 1) = 369) ∧ (μ.2.1 (m + 2) = 7 ∧ μ.2.2 (m + 2) = 1476) ∧ (μ.2.1 (m + 3) = 7 ∧ μ.2.2 (m + 3) = 369) ∧ (μ.2.1 (m + 4) = 7 ∧ μ.2.2 (m + 4) = 60) ∧ P m 0 = m + 1 ∧ P m 1 = m + 2 ∧ P m 2 = m + 3 ∧ P m 4 = m + 4
def wJ (I : xI) (m : Nat) (S : Nat → Int32) (st t : Nat) (tx : Nat → Int32) (H : Nat → Nat → Int32) : Prop := I (m + 1) = S ∧ I m 3 = nI st ∧ I m 5 = nI t ∧ I (m + 4) = tx ∧ ∀ k, k < st → ∀ j, j < 369 → I (m + 2) (369 * k + j) = H k j
def wL (μ : xM) (I : xI) (P : xP) : Prop := ∃ (S : Nat → Int32) (n q st : Nat) (H : Nat → Nat → Int32) (t : Nat) (tx : Nat → Int32), oP P 1 ∧ oR I P 1 S n q st H t tx ∧ invN S n q ∧ wK μ P 255 ∧ wJ I 255 S st t tx H
theorem wF {μ : xM} {I : xI} {P : xP} {m st t : Nat} {S tx : Nat → Int32} {H : Nat → Nat → Int32} (hK : wK μ P m) (hJ : wJ I m S st t tx H) : (μ.2.1 m = 6 ∧ μ.2.1 (P m 0) = 7 ∧ μ.2.2 (P m 0) = 369 ∧ μ.2.1 (P m 1) = 7 ∧ μ.2.2 (P m 1) = 1476 ∧ P m 0 ≠ P m 1) ∧ (μ.2.1 (P m 2) = 7 ∧ μ.2.2 (P m 2) = 369 ∧ P m 0 ≠ P m 2 ∧ P m 1 ≠ P m 2 ∧ P m 4 ≠ P m 0 ∧ P m 4 ≠ P m 2 ∧ P m 4 ≠ P m 1 ∧ μ.2.1 (P m 4) = 7 ∧ μ.2.2 (P m 4) = 60) ∧ I (P m 0) = S ∧ I m 3 = nI st ∧ I m 5 = nI t ∧ I (P m 4) = tx := by
  obtain ⟨k0, ⟨k1, l1⟩, ⟨k2, l2⟩, ⟨k3, l3⟩, ⟨k4, l4⟩, p0, p1, p2, p4⟩ := hK
  obtain ⟨j1, j2, j3, j4, -⟩ := hJ
  rw [p0, p1, p2, p4]
  exact ⟨⟨k0, k1, l1, k2, l2, by omega⟩, ⟨k3, l3, by omega, by omega, by omega, by omega, by omega, k4, l4⟩, j1, j2, j3, j4⟩
/-- the model's side is untouched by the class -/
theorem wT {μ : xM} {I J : xI} {P Q : xP} {st t : Nat} {S tx : Nat → Int32} {H : Nat → Nat → Int32} (hK : wK μ P 255) (hJ : wJ I 255 S st t tx H) (hF : ∀ c, c < 1 ∨ 1 + 254 ≤ c → J c = I c ∧ Q c = P c) : wK μ Q 255 ∧ wJ J 255 S st t tx H := by
  obtain ⟨k0, k1, k2, k3, k4, p0, p1, p2, p4⟩ := hK
  obtain ⟨j1, j2, j3, j4, j5⟩ := hJ
  have e : ∀ c, 255 ≤ c → J c = I c := fun c hc => (hF c (by omega)).1
  have eQ : Q 255 = P 255 := (hF 255 (by omega)).2
  refine ⟨⟨k0, k1, k2, k3, k4, by rw [eQ]; exact p0, by rw [eQ]; exact p1, by rw [eQ]; exact p2, by rw [eQ]; exact p4⟩, by rw [e _ (by omega)]; exact j1, by rw [e _ (by omega)]; exact j2, by rw [e _ (by omega)]; exact j3, by rw [e _ (by omega)]; exact j4, fun k hk j hj => by rw [e _ (by omega)]; exact j5 k hk j hj⟩
/-- the model's past behind a change -/
theorem xchg_past {m sa pa st : Nat} {J : xI} {S : Nat → Int32} {H : Nat → Nat → Int32} (hmp : m ≠ pa) (hms : m ≠ sa) (hsp : sa ≠ pa) (hst : st ≤ 4) (hS : J sa = S) (hH : ∀ k, k < st → ∀ j, j < 369 → J pa (369 * k + j) = H k j) : ∀ k, k < xph st + 1 → ∀ j, j < 369 → xchg m sa pa st J pa (369 * k + j) = pushH S st H k j := by
  intro k hk j hj
  have hpm : pa ≠ m := Ne.symm hmp
  unfold xchg
  rw [xu_row hpm]
  unfold xput
  by_cases h4 : st = 4
  · subst h4
    have hx : xph 4 = 3 := rfl
    rw [hx] at hk
    rw [if_pos rfl, hx]
    unfold pushH
    rw [if_pos rfl]
    by_cases h3 : k = 3
    · subst h3
      rw [if_pos ⟨rfl, by omega, by omega⟩, xu_row (Ne.symm hms), show 369 * 3 + j - 369 * 3 = j by omega]
      simp only [if_true]
      unfold xshf
      rw [if_neg (fun w => hsp w.1), hS]
    · rw [if_neg (by omega), xu_row hpm]
      simp only [if_neg h3]
      unfold xshf
      rw [if_pos ⟨rfl, by omega⟩, ← hH (k + 1) (by omega) j hj]
      congr 1; omega
  · have hx : xph st = st := by unfold xph; rw [if_neg h4]
    rw [hx] at hk
    rw [if_neg h4, hx]
    unfold pushH
    rw [if_neg h4]
    by_cases h3 : k = st
    · subst h3
      rw [if_pos ⟨rfl, by omega, by omega⟩, show 369 * k + j - 369 * k = j by omega]
      simp only [if_true]
      rw [hS]
    · rw [if_neg (by omega)]
      simp only [if_neg h3]
      exact hH k (by omega) j hj
theorem wL_chg {μ : xM} {J I' : xI} {Q : xP} {ok : Bool} {S S' tx : Nat → Int32} {n n' q q' st t : Nat} {H : Nat → Nat → Int32} (hP : oP Q 1) (h1 : ok = true → oR J Q 1 S' n' q' (xph st + 1) (pushH S st H) t tx) (h0 : ok = false → oR J Q 1 S n q st H t tx) (hS0 : ok = false → S' = S) (hi : invN S n q) (hi' : ok = true → invN S' n' q') (hst : st ≤ 4) (hK : wK μ Q 255) (hJ : wJ J 255 S st t tx H) (hQ : mQ 255 (Q 255 0) (Q 255 1) (Q 255 2) J (if ok = true then xchg 255 (Q 255 0) (Q 255 1) st J else J) I' S') : wL μ I' Q := by
  have hK0 := hK
  obtain ⟨k0, k1, k2, k3, k4, p0, p1, p2, p4⟩ := hK
  obtain ⟨j1, j2, j3, j4, j5⟩ := hJ
  rw [p0, p1, p2] at hQ
  obtain ⟨q1, q2, q3, q4, q5⟩ := hQ
  have hfar : ∀ c, 1 ≤ c → c < 1 + 254 → I' c = J c := fun c a1 a2 => q5 c (by omega) (by omega) (by omega) (by omega)
  have h259 : I' (255 + 4) = tx := by rw [q5 _ (by omega) (by omega) (by omega) (by omega)]; exact j4
  cases ok
  · rw [if_neg (by decide)] at q2 q3 q4
    have e := hS0 rfl
    subst e
    exact ⟨S', n, q, st, H, t, tx, hP, oR_far hP hi (h0 rfl) hfar, hi, hK0, q1, by rw [q3]; exact j2, by rw [q4]; exact j3, h259, fun k hk j hj => by rw [show I' (255 + 2) = J (255 + 2) from q2]; exact j5 k hk j hj⟩
  · rw [if_pos rfl] at q2 q3 q4
    refine ⟨S', n', q', xph st + 1, pushH S st H, t, tx, hP, oR_far hP (hi' rfl) (h1 rfl) hfar, hi' rfl, hK0, q1, by rw [q3]; exact xchg_h, by rw [q4, xchg_m (by decide) (by decide)]; exact j3, h259, fun k hk j hj => ?_⟩
    rw [show I' (255 + 2) = xchg 255 (255 + 1) (255 + 2) st J (255 + 2) from q2]
    exact xchg_past (by decide) (by decide) (by decide) hst j1 j5 k hk j hj
theorem wL_same {μ : xM} {J I' : xI} {Q : xP} {S tx : Nat → Int32} {n q st t : Nat} {H : Nat → Nat → Int32} (hP : oP Q 1) (h0 : oR J Q 1 S n q st H t tx) (hi : invN S n q) (hst : st ≤ 4) (hK : wK μ Q 255) (hJ : wJ J 255 S st t tx H) (hQ : mQ 255 (Q 255 0) (Q 255 1) (Q 255 2) J J I' S) : wL μ I' Q :=
  wL_chg (ok := false) (S' := S) (n' := n) (q' := q) hP (fun e => absurd e (by decide)) (fun _ => h0) (fun _ => rfl) hi (fun e => absurd e (by decide)) hst hK hJ (by rw [if_neg (by decide)]; exact hQ)
theorem wL_undo {μ : xM} {J : xI} {Q : xP} {S tx : Nat → Int32} {n q st t : Nat} {H : Nat → Nat → Int32} (hP : oP Q 1) (h0 : st = 0 → oR J Q 1 S n q st H t tx) (h1 : ¬ st = 0 → ∃ n' q', invN (H (st - 1)) n' q' ∧ oR J Q 1 (H (st - 1)) n' q' (st - 1) H t tx) (hi : invN S n q) (hst : st ≤ 4) (hK : wK μ Q 255) (hJ : wJ J 255 S st t tx H) : wL μ (if st = 0 then J else xres (Q 255 0) (Q 255 1) (369 * (st - 1)) 369 (xu J 255 3 (nI (st - 1)))) Q := by
  have hK0 := hK
  have hJ0 := hJ
  by_cases hz : st = 0
  · rw [if_pos hz]
    exact ⟨S, n, q, st, H, t, tx, hP, h0 hz, hi, hK0, hJ0⟩
  · rw [if_neg hz]
    obtain ⟨k0, k1, k2, k3, k4, p0, p1, p2, p4⟩ := hK
    obtain ⟨j1, j2, j3, j4, j5⟩ := hJ
    obtain ⟨n', q', hi', hr⟩ := h1 hz
    rw [p0, p1]
    have hX : ∀ c, c ≠ 256 → xres (255 + 1) (255 + 2) (369 * (st - 1)) 369 (xu J 255 3 (nI (st - 1))) c = xu J 255 3 (nI (st - 1)) c := fun c hc => xres_o hc
    have hS : ∀ j, j < 369 → xres (255 + 1) (255 + 2) (369 * (st - 1)) 369 (xu J 255 3 (nI (st - 1))) (255 + 1) j = H (st - 1) j := fun j hj => by
      unfold xres
      rw [if_pos ⟨rfl, hj⟩, xu_row (by decide)]
      exact j5 (st - 1) (by omega) j hj
    have hi2 := inv_ext hi' hS
    have hr2 : oR J Q 1 (xres (255 + 1) (255 + 2) (369 * (st - 1)) 369 (xu J 255 3 (nI (st - 1))) (255 + 1)) n' q' (st - 1) H t tx := ⟨bR_ext hi' hS hr.1, hr.2⟩
    refine ⟨xres (255 + 1) (255 + 2) (369 * (st - 1)) 369 (xu J 255 3 (nI (st - 1))) (255 + 1), n', q', st - 1, H, t, tx, hP, oR_far hP hi2 hr2 (fun c a1 a2 => by rw [hX c (by omega), xu_row (by omega)]), hi2, hK0, rfl, by rw [hX _ (by decide), xu_at], by rw [hX _ (by decide), xu_ne (Or.inr (by decide))]; exact j3, by rw [hX _ (by decide), xu_row (by decide)]; exact j4, fun k hk j hj => by rw [hX _ (by decide), xu_row (by decide)]; exact j5 k (by omega) j hj⟩
theorem wL_type {μ : xM} {J : xI} {Q : xP} {S tx : Nat → Int32} {n q st t : Nat} {H : Nat → Nat → Int32} {c : Int32} (hP : oP Q 1) (h1 : okType (nI t) c = true → oR J Q 1 S n q st H (t + 1) (upd tx t c)) (h0 : okType (nI t) c = false → oR J Q 1 S n q st H t tx) (hi : invN S n q) (hK : wK μ Q 255) (hJ : wJ J 255 S st t tx H) : wL μ (if okType (nI t) c = true then xu (xu J (Q 255 4) t c) 255 5 (nI (t + 1)) else J) Q := by
  have hK0 := hK
  have hJ0 := hJ
  cases hok : okType (nI t) c
  · rw [if_neg (by decide)]
    exact ⟨S, n, q, st, H, t, tx, hP, h0 hok, hi, hK0, hJ0⟩
  · rw [if_pos rfl]
    obtain ⟨k0, k1, k2, k3, k4, p0, p1, p2, p4⟩ := hK
    obtain ⟨j1, j2, j3, j4, j5⟩ := hJ
    rw [p4]
    refine ⟨S, n, q, st, H, t + 1, upd tx t c, hP, oR_far hP hi (h1 hok) (fun c a1 a2 => by rw [xu_row (by omega), xu_row (by omega)]), hi, hK0, by rw [xu_row (by decide), xu_row (by decide)]; exact j1, by rw [xu_ne (Or.inr (by decide)), xu_row (by decide)]; exact j2, xu_at, by rw [xu_row (by decide), xu_upd, j4], fun k hk j hj => by rw [xu_row (by decide), xu_row (by decide)]; exact j5 k hk j hj⟩
theorem wL_clear {μ : xM} {J : xI} {Q : xP} {S tx : Nat → Int32} {n q st t : Nat} {H : Nat → Nat → Int32} (hP : oP Q 1) (h0 : oR J Q 1 S n q st H 0 tx) (hi : invN S n q) (hK : wK μ Q 255) (hJ : wJ J 255 S st t tx H) : wL μ (xu J 255 5 0) Q := by
  obtain ⟨j1, j2, j3, j4, j5⟩ := hJ
  exact ⟨S, n, q, st, H, 0, tx, hP, oR_far hP hi h0 (fun c a1 a2 => xu_row (by omega)), hi, hK, by rw [xu_row (by decide)]; exact j1, by rw [xu_ne (Or.inr (by decide))]; exact j2, xu_at, by rw [xu_row (by decide)]; exact j4, fun k hk j hj => by rw [xu_row (by decide)]; exact j5 k hk j hj⟩
