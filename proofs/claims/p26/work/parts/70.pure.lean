/-! the faults of a text, as the class finds them -/
def frC (S : Nat → Int32) (n : Nat) (tx : Nat → Int32) (t f : Nat) : Int32 := if bkO tx f (eon tx t f) = -1 then (if sq (S 8) (nmW tx f (eon tx t f)) ≤ 150 then (if 20 ≤ n + ncnt tx f then 3 else 0) else 2) else 1
def fcC (S : Nat → Int32) (n : Nat) (tx : Nat → Int32) (t f : Nat) : Int32 := if frC S n tx t f = 1 then bkO tx f (eon tx t f) else if frC S n tx t f = 2 then sq (S 8) (nmW tx f (eon tx t f)) else nI (eon tx t f - f)
theorem fmC_le {tx : Nat → Int32} {t f : Nat} (h : f ≤ t) : fmC tx t f ≤ t := by
  have := fmE_le (tx := tx) h
  unfold fmC
  split
  · split <;> omega
  · omega
theorem bk_neg {tx : Nat → Int32} {t f : Nat} (h : f ≤ t) (h60 : t ≤ 60) : bkO tx f (eon tx t f) = -1 ↔ fmOk tx t f = true := by
  cases ho : fmOk tx t f
  · rw [fm_no h ho]
    have := fmC_le (tx := tx) h
    simp only [Bool.false_eq_true, iff_false]
    intro e
    have h0 := nI_pos (n := fmC tx t f) (by omega)
    rw [e] at h0
    exact h0 (by decide)
  · simp only [iff_true]; exact (fm_ok h ho).2
theorem frC_eq {S S' : Nat → Int32} {n t f : Nat} {tx : Nat → Int32} (h : f ≤ t) (h60 : t ≤ 60) (h8 : S' 8 = S 8) (h20 : n + ncnt tx f ≤ 20) : frC S n tx t f = nmR S' (n + ncnt tx f) tx t f := by
  unfold frC nmR
  rw [h8]
  cases ho : fmOk tx t f
  · rw [if_neg (fun e => by rw [(bk_neg h h60).mp e] at ho; cases ho), if_pos rfl]
  · obtain ⟨e1, e2⟩ := fm_ok h ho
    rw [if_pos e2, if_neg (show ¬ (true = false) by decide), e1]
    by_cases h3 : n + ncnt tx f = 20
    · rw [if_pos h3, if_pos (show 20 ≤ n + ncnt tx f by omega)]
    · rw [if_neg h3, if_neg (show ¬ 20 ≤ n + ncnt tx f by omega)]
theorem fcC_eq {S S' : Nat → Int32} {n t f : Nat} {tx : Nat → Int32} (h : f ≤ t) (h60 : t ≤ 60) (h8 : S' 8 = S 8) (h20 : n + ncnt tx f ≤ 20) : fcC S n tx t f = nmC S' (n + ncnt tx f) tx t f := by
  unfold fcC
  rw [frC_eq h h60 h8 h20]
  unfold nmR nmC
  rw [h8]
  cases ho : fmOk tx t f
  · simp only [if_true]; exact fm_no h ho
  · obtain ⟨e1, e2⟩ := fm_ok h ho
    simp only [show ¬ (true = false) by decide, if_false, e1]
    by_cases hs : sq (S 8) (nmW tx f (eon tx t f)) ≤ 150
    · simp only [if_pos hs]
      by_cases h3 : n + ncnt tx f = 20
      · simp only [if_pos h3]; rfl
      · simp only [if_neg h3]; rfl
    · simp only [if_neg hs]; rfl
theorem ncnt_keep {tx : Nat → Int32} {f : Nat} : ∀ {k : Nat}, f ≤ k → (∀ i, f ≤ i → i < k → tx i ≠ 47) → ncnt tx k = ncnt tx f
  | 0, h, _ => by rw [show f = 0 by omega]
  | k + 1, h, hn => by
    rcases Nat.lt_or_ge k f with w | w
    · rw [show f = k + 1 by omega]
    · rw [ncnt, if_neg (hn k w (by omega)), Nat.add_zero]
      exact ncnt_keep w (fun i h1 h2 => hn i h1 (by omega))
theorem ncnt_eon {tx : Nat → Int32} {t f : Nat} (h : f ≤ t) : ncnt tx (eon tx t f) = ncnt tx f ∧ (eon tx t f < t → ncnt tx (eon tx t f + 1) = ncnt tx f + 1) := by
  have he := eon_le (tx := tx) h
  have hk : ncnt tx (eon tx t f) = ncnt tx f := ncnt_keep he.1 (fun i h1 h2 => by
    have := eon_b h1 h2
    simp only [isEndT, Bool.or_eq_false_iff, decide_eq_false_iff_not] at this
    exact this.2)
  refine ⟨hk, fun w => ?_⟩
  have hp := eon_p (tx := tx) h
  simp only [isEndT, Bool.or_eq_true, decide_eq_true_eq] at hp
  rw [ncnt, if_pos (hp.resolve_left (by omega)), hk]
theorem ncnt_mono {tx : Nat → Int32} {a : Nat} : ∀ {b : Nat}, a ≤ b → ncnt tx a ≤ ncnt tx b
  | 0, h => by rw [show a = 0 by omega]; exact Nat.le_refl _
  | b + 1, h => by
    rcases Nat.lt_or_ge b a with w | w
    · rw [show a = b + 1 by omega]; exact Nat.le_refl _
    · have := ncnt_mono (tx := tx) (show a ≤ b by omega)
      rw [ncnt]; omega
