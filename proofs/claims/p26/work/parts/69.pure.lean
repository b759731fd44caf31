/-! the two ways to read a name of a text -/
theorem eon_le {tx : Nat → Int32} {t f : Nat} (h : f ≤ t) : f ≤ eon tx t f ∧ eon tx t f ≤ t := by
  have := srch_le (p := isEndT tx t) (t - f) f
  unfold eon; omega
theorem eon_p {tx : Nat → Int32} {t f : Nat} (h : f ≤ t) : isEndT tx t (eon tx t f) = true := by
  rcases srch_end (p := isEndT tx t) (t - f) f with e | e
  · unfold eon
    rw [e, show f + (t - f) = t by omega]
    simp [isEndT]
  · exact e
theorem eon_b {tx : Nat → Int32} {t f i : Nat} (h1 : f ≤ i) (h2 : i < eon tx t f) : isEndT tx t i = false := srch_lt (t - f) f i h1 h2
theorem may_fit {tx : Nat → Int32} {f e s : Nat} : bkP tx f e s = (!mayT tx f s || (decide (tx s = 32) && decide (e ≤ s + 1))) := by
  unfold bkP fitT mayT isLetT
  have hl : (decide (¬ inr (tx s) 65 90 = 0)) = (decide (65 ≤ tx s) && decide (tx s ≤ 90)) := by
    unfold inr
    by_cases h1 : tx s < 65
    · simp [h1, Int32.not_le.mpr h1]
    · by_cases h2 : 90 < tx s
      · simp [h1, h2, Int32.not_le.mpr h2]
      · simp [h1, h2, Int32.not_lt.mp h1, Int32.not_lt.mp h2]
  rw [hl]
  by_cases h14 : 14 ≤ s - f
  · have : ¬ s - f < 14 := by omega
    simp [h14, this]
  · have h14' : s - f < 14 := by omega
    by_cases h32 : tx s = 32
    · have e1 : ¬ (65 : Int32) ≤ 32 := by decide
      by_cases a : f < s <;> by_cases c : tx (s - 1) = 32 <;> by_cases d : s + 1 < e <;> simp [h14, h14', h32, a, c, d, e1] <;> omega
    · simp [h14, h14', h32]
theorem fm_ok {tx : Nat → Int32} {t f : Nat} (h : f ≤ t) (ho : fmOk tx t f = true) : fmE tx t f = eon tx t f ∧ bkO tx f (eon tx t f) = -1 := by
  have hm := fmE_le (tx := tx) h
  have he := eon_le (tx := tx) h
  have hE : fmE tx t f = eon tx t f := by
    simp only [fmOk, Bool.and_eq_true, decide_eq_true_eq] at ho
    rcases Nat.lt_trichotomy (fmE tx t f) (eon tx t f) with w | w | w
    · have := eon_b hm.1 w; rw [ho.1] at this; cases this
    · exact w
    · have := fmE_b he.1 w; unfold fmP at this; rw [eon_p h] at this; cases this
  refine ⟨hE, ?_⟩
  simp only [fmOk, Bool.and_eq_true, decide_eq_true_eq] at ho
  rw [hE] at ho
  have hb : ∀ i, f ≤ i → i < eon tx t f → bkP tx f (eon tx t f) i = false := fun i h1 h2 => by
    have hq := fmE_b (tx := tx) (t := t) h1 (by rw [hE]; exact h2)
    simp only [fmP, Bool.or_eq_false_iff, Bool.not_eq_false'] at hq
    rw [may_fit, hq.2]
    simp only [Bool.not_true, Bool.false_or, Bool.and_eq_false_iff, decide_eq_false_iff_not]
    rcases Nat.lt_or_ge (i + 1) (eon tx t f) with w | w
    · right; omega
    · left; rw [show i = eon tx t f - 1 by omega]; exact ho.2.2
  rw [bkO, if_neg (by omega), if_pos (srch_at _ f _ (by omega) (by omega) hb (Or.inl (by omega)))]
theorem fm_no {tx : Nat → Int32} {t f : Nat} (h : f ≤ t) (ho : fmOk tx t f = false) : bkO tx f (eon tx t f) = nI (fmC tx t f) := by
  have hm := fmE_le (tx := tx) h
  have he := eon_le (tx := tx) h
  have hme : fmE tx t f ≤ eon tx t f := by
    rcases Nat.lt_or_ge (eon tx t f) (fmE tx t f) with w | w
    · have := fmE_b he.1 w; unfold fmP at this; rw [eon_p h] at this; cases this
    · exact w
  have hq : ∀ i, f ≤ i → i < fmE tx t f → mayT tx f i = true := fun i h1 h2 => by
    have := fmE_b (tx := tx) (t := t) h1 h2
    simp only [fmP, Bool.or_eq_false_iff, Bool.not_eq_false'] at this
    exact this.2
  rcases Nat.lt_or_ge (fmE tx t f) (eon tx t f) with w | w
  · have hne : isEndT tx t (fmE tx t f) = false := eon_b hm.1 w
    have hp := fmE_p (tx := tx) h
    simp only [fmP, hne, Bool.false_or] at hp
    have hx : srch (bkP tx f (eon tx t f)) (eon tx t f - f) f = fmE tx t f := srch_at _ f _ (by omega) (by omega) (fun i h1 h2 => by
      rw [may_fit, hq i h1 h2]
      simp only [Bool.not_true, Bool.false_or, Bool.and_eq_false_iff, decide_eq_false_iff_not]
      right; omega) (Or.inr (by rw [may_fit, hp]; rfl))
    rw [bkO, if_neg (by omega), if_neg (by rw [hx]; omega), hx, fmC, if_neg (by rw [hne]; decide)]
  · have hE : fmE tx t f = eon tx t f := by omega
    have hend : isEndT tx t (fmE tx t f) = true := by rw [hE]; exact eon_p h
    rw [fmC, if_pos hend]
    by_cases hf : fmE tx t f = f
    · rw [if_pos hf, bkO, if_pos (by omega)]; rfl
    · rw [if_neg hf]
      simp only [fmOk, hend, Bool.true_and, Bool.and_eq_false_iff, decide_eq_false_iff_not] at ho
      have h32 : tx (eon tx t f - 1) = 32 := by
        rcases ho with w1 | w1
        · omega
        · rw [← hE]; exact Classical.byContradiction w1
      have hx : srch (bkP tx f (eon tx t f)) (eon tx t f - f) f = eon tx t f - 1 := srch_at _ f _ (by omega) (by omega) (fun i h1 h2 => by
        rw [may_fit, hq i h1 (by omega)]
        simp only [Bool.not_true, Bool.false_or, Bool.and_eq_false_iff, decide_eq_false_iff_not]
        right; omega) (Or.inr (by
          rw [may_fit, h32]
          have : eon tx t f ≤ eon tx t f - 1 + 1 := by omega
          simp [this]))
      rw [bkO, if_neg (by omega), if_neg (by rw [hx]; omega), hx, hE]
      congr 1; omega
