/-! what adding keeps; the nearest right row, both ways -/
theorem add_loop {S tx : Nat → Int32} {t n q : Nat} (h0 : (aaA S tx t).1 = 0) : ∀ (m k f : Nat) (S' : Nat → Int32), k + m = ncnt tx t + 1 → adI S tx t n k f S' → invN S' (n + k) q → invN (aaA S tx t).2.2.2.1 (n + (ncnt tx t + 1)) q
  | 0, k, f, S', hk, hA, hi => by
    have ek : k = ncnt tx t + 1 := by omega
    subst ek
    rw [(adI_end hA).1]; exact hi
  | m + 1, k, f, S', hk, hA, hi => by
    obtain ⟨-, -, -, -, -, hAd, hIn⟩ := adI_at hA (by omega) h0 hi
    exact add_loop h0 m (k + 1) _ _ (by omega) hAd hIn
theorem add_inv {S tx : Nat → Int32} {t n q : Nat} (hi : invN S n q) (hok : okAdd S tx t = true) : invN (sAdd S tx t) (n + (ncnt tx t + 1)) q := by
  have hn20 := hi.1
  have hcn : cN S = n := by rw [cN, hi.2.1, nI_clamp (by omega)]
  rw [sAdd, if_pos hok]
  exact add_loop (of_decide_eq_true hok) (ncnt tx t + 1) 0 0 S (by omega) (adI_0 hcn hn20) hi
theorem nrC_min {S : Nat → Int32} {a : Nat} : ∀ k, (nrC S a k = none → ∀ i, i < k → ¬ sWrong S i = 0) ∧ ∀ c, nrC S a k = some c → sWrong S c = 0 ∧ ∀ i, i < k → sWrong S i = 0 → dst a c < dst a i ∨ (dst a c = dst a i ∧ i ≤ c)
  | 0 => ⟨fun _ i hi => by omega, fun c h => by cases h⟩
  | k + 1 => by
    obtain ⟨h1, h2⟩ := nrC_min (S := S) (a := a) k
    rw [nrC]
    by_cases hc : nrB a k (nrC S a k) = true ∧ sWrong S k = 0
    · rw [if_pos hc]
      refine ⟨fun h => (by cases h), fun c h => ?_⟩
      cases h
      refine ⟨hc.2, fun i hi hr => ?_⟩
      by_cases e : i = k
      · subst e; exact Or.inr ⟨rfl, Nat.le_refl _⟩
      · cases hq : nrC S a k with
        | none => exact absurd hr (h1 hq i (by omega))
        | some c =>
          have hb := hc.1
          rw [hq] at hb
          have hd : dst a k ≤ dst a c := of_decide_eq_true hb
          rcases (h2 c hq).2 i (by omega) hr with w | w
          · exact Or.inl (by omega)
          · rcases Nat.lt_or_ge (dst a k) (dst a i) with v | v
            · exact Or.inl v
            · exact Or.inr ⟨by omega, by omega⟩
    · rw [if_neg hc]
      refine ⟨fun h i hi hr => ?_, fun c h => ⟨(h2 c h).1, fun i hi hr => ?_⟩⟩
      · by_cases e : i = k
        · subst e; exact hc ⟨by rw [h]; rfl, hr⟩
        · exact h1 h i (by omega) hr
      · by_cases e : i = k
        · subst e
          refine Or.inl ?_
          rcases Nat.lt_or_ge (dst a c) (dst a i) with v | v
          · exact v
          · exact absurd ⟨by rw [h]; exact decide_eq_true v, hr⟩ hc
        · exact (h2 c h).2 i (by omega) hr
theorem sgnS_0 {S : Nat → Int32} {n a b : Nat} (h1 : a + b < n → ¬ sWrong S (a + b) = 0) (h2 : b ≤ a → ¬ sWrong S (a - b) = 0) : sgnS S n a b = 0 := by
  unfold sgnS
  rw [if_neg (fun w => h1 w.1 w.2), if_neg (fun w => h2 w.1 w.2)]
theorem near_none {S : Nat → Int32} {n a : Nat} (ha : a < n) (h : nrC S a n = none) : nearB S n a = n := by
  have h1 := (nrC_min (S := S) (a := a) n).1 h
  have e := srch_at (p := fun b => decide (sgnS S n a b ≠ 0)) n 0 n (Nat.zero_le _) (by omega) (fun i _ hi => decide_eq_false (fun w => w (sgnS_0 (fun v => h1 _ v) (fun v => h1 _ (by omega))))) (Or.inl (by omega))
  exact e
theorem near_some {S : Nat → Int32} {n a c : Nat} (ha : a < n) (hn : n ≤ 20) (h : nrC S a n = some c) : ∃ b, nearB S n a = b ∧ b < n ∧ nI a + sgnS S n a b * nI b = nI c ∧ sgnS S n a b * nI b = nI c - nI a := by
  obtain ⟨hr, hm⟩ := (nrC_min (S := S) (a := a) n).2 c h
  have hcn := nrC_lt h
  have key : ∀ a b : Fin 21, b ≤ a → nI a.1 + (-1) * nI b.1 = nI (a.1 - b.1) ∧ (-1) * nI b.1 = nI (a.1 - b.1) - nI a.1 := by decide +kernel
  have hs : (sgnS S n a (dst a c) ≠ 0) ∧ nI a + sgnS S n a (dst a c) * nI (dst a c) = nI c ∧ sgnS S n a (dst a c) * nI (dst a c) = nI c - nI a := by
    rcases Nat.lt_or_ge c a with w | w
    · have e : dst a c = a - c := by unfold dst; rw [if_neg (by omega)]
      have e1 : sgnS S n a (dst a c) = -1 := by
        unfold sgnS
        rw [if_neg (fun v => ?_), if_pos ⟨by omega, by rw [e, show a - (a - c) = c by omega]; exact hr⟩]
        have d : dst a (a + dst a c) = dst a c := by
          rw [e]; unfold dst
          rw [if_pos (by omega)]; omega
        rcases hm _ v.1 v.2 with q | q
        · omega
        · omega
      obtain ⟨k1, k2⟩ := key ⟨a, by omega⟩ ⟨a - c, by omega⟩ (by show a - c ≤ a; omega)
      dsimp only at k1 k2
      rw [show a - (a - c) = c by omega] at k1 k2
      rw [e1, e]
      exact ⟨by decide, k1, k2⟩
    · have e : dst a c = c - a := by unfold dst; rw [if_pos w]
      have e1 : sgnS S n a (dst a c) = 1 := by
        unfold sgnS
        rw [if_pos ⟨by omega, by rw [e, show a + (c - a) = c by omega]; exact hr⟩]
      rw [e1, e, Int32.one_mul]
      exact ⟨by decide, by rw [nI_add, show a + (c - a) = c by omega], (pk_sub w).symm⟩
  refine ⟨dst a c, ?_, by unfold dst; split <;> omega, hs.2⟩
  refine srch_at (p := fun b => decide (sgnS S n a b ≠ 0)) n 0 (dst a c) (Nat.zero_le _) (by unfold dst; split <;> omega) (fun i _ hi => decide_eq_false (fun w => w (sgnS_0 (fun v z => ?_) (fun v z => ?_)))) (Or.inr (decide_eq_true hs.1))
  · have d : dst a (a + i) = i := by unfold dst; rw [if_pos (by omega)]; omega
    rcases hm _ v z with q | q <;> omega
  · have d : dst a (a - i) = i := by
      unfold dst
      split <;> omega
    rcases hm _ (by omega) z with q | q <;> omega
