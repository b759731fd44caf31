theorem srch_cong {p p' : Nat → Bool} : ∀ (w g : Nat), (∀ i, g ≤ i → i < g + w → p i = p' i) → srch p w g = srch p' w g
  | 0, _, _ => rfl
  | w + 1, g, h => by
    rw [srch, srch, h g (Nat.le_refl g) (by omega), srch_cong w (g + 1) (fun i h1 h2 => h i (by omega) (by omega))]
theorem pfx_cong {f f' g g' : Nat → Int32} {L1 L2 : Nat} (h1 : ∀ k, k < L1 → f k = f' k) (h2 : ∀ k, k < L2 → g k = g' k) : pfx f' g' L1 L2 = pfx f g L1 L2 := by
  unfold pfx
  refine srch_cong 14 0 (fun i _ _ => ?_)
  unfold pfxP
  by_cases a : L1 ≤ i
  · simp [a]
  · by_cases b : L2 ≤ i
    · simp [b]
    · rw [h1 i (by omega), h2 i (by omega)]
theorem isNm_C {S f tx : Nat → Int32} {L t k : Nat} (hl : sLen S k = L) (h : ∀ j, j < L → f j = sLet S k j) : (decide (L = t) && eqN f tx L) = isNm S tx t k := by
  unfold isNm
  rw [hl, eqN_congr h]
  by_cases e : L = t
  · subst e; rfl
  · simp [e]
