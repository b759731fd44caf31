/-! cranking, as both sides do it, on the model's array -/
/-- the row that is shown when a cranking from a on has gone on by g rows -/
def rowAt (a : Nat) (up : Bool) (g : Nat) : Nat := if up then a + g else a - g
def lvS (S : Nat → Int32) (r : Nat) (v : Int32) (g : Nat) : Nat → Int32 := if v = 3 ∧ g % 2 = 1 then S else upd (upd S (12 + 17 * r) (wear1 S r v)) (13 + 17 * r) (torn1 S r v)
def crS (S : Nat → Int32) (a : Nat) (up : Bool) (v : Int32) : Nat → (Nat → Int32)
  | 0 => S
  | g + 1 => upd (lvS (crS S a up v g) (rowAt a up g) v g) 1 (nI (rowAt a up (g + 1)))
def crT (S : Nat → Int32) (a : Nat) (up : Bool) (v : Int32) : Nat → Int32
  | 0 => 0
  | g + 1 => crT S a up v g + (if v = 3 ∧ g % 2 = 1 then 0 else tear1 (crS S a up v g) (rowAt a up g) v)
/-- whether the roll is at its end with row r shown -/
def isEndS (n : Nat) (up : Bool) (r : Nat) : Bool := if up then decide (n ≤ r + 1) else decide (r = 0)
def stopS (S : Nat → Int32) (n a : Nat) (up : Bool) (g : Nat) : Bool := isEndS n up (rowAt a up g) || (decide (0 < g) && decide (S (13 + 17 * rowAt a up g) = 1))
def srch (p : Nat → Bool) : Nat → Nat → Nat
  | 0, g => g
  | w + 1, g => if p g then g else srch p w (g + 1)
theorem srch_at {p : Nat → Bool} : ∀ (w g k : Nat), g ≤ k → k ≤ g + w → (∀ i, g ≤ i → i < k → p i = false) → (k = g + w ∨ p k = true) → srch p w g = k
  | 0, g, k, h1, h2, _, _ => by rw [srch]; omega
  | w + 1, g, k, h1, h2, h3, h4 => by
    rw [srch]
    by_cases hg : p g = true
    · rw [if_pos hg]
      rcases Nat.lt_or_ge g k with h | h
      · rw [h3 g (Nat.le_refl g) h] at hg; cases hg
      · omega
    · rw [if_neg hg]
      have hne : g ≠ k := fun e => by
        subst e
        rcases h4 with h | h
        · omega
        · exact hg h
      exact srch_at w (g + 1) k (by omega) (by omega) (fun i hi => h3 i (by omega)) (by rcases h4 with h | h; exact Or.inl (by omega); exact Or.inr h)
/-- by how many rows a cranking goes on -/
def stepsS (S : Nat → Int32) (n a : Nat) (up : Bool) (w : Nat) : Nat := srch (stopS S n a up) w 0
theorem rowAt_ne {a : Nat} {up : Bool} {i g : Nat} (h : i < g) (hd : up = true ∨ g ≤ a) : rowAt a up i ≠ rowAt a up g := by
  unfold rowAt
  cases up
  · rcases hd with h1 | h1
    · cases h1
    · simp; omega
  · simp; omega
/-- what a cranking leaves as it was -/
theorem crS_keep {S : Nat → Int32} {a : Nat} {up : Bool} {v : Int32} {q : Nat} : ∀ {g : Nat}, q ≠ 1 → (∀ i, i < g → q ≠ 12 + 17 * rowAt a up i ∧ q ≠ 13 + 17 * rowAt a up i) → crS S a up v g q = S q
  | 0, _, _ => rfl
  | g + 1, h1, h2 => by
    have ih := crS_keep (S := S) (v := v) (g := g) h1 (fun i hi => h2 i (by omega))
    obtain ⟨h3, h4⟩ := h2 g (by omega)
    rw [crS]
    simp only [upd, h1, if_false]
    unfold lvS
    split
    · exact ih
    · simp only [upd, h3, h4, if_false]; exact ih
theorem crS_small {S : Nat → Int32} {a : Nat} {up : Bool} {v : Int32} {q g : Nat} (h1 : q ≠ 1) (h2 : q < 12) : crS S a up v g q = S q := crS_keep h1 (fun i _ => ⟨by omega, by omega⟩)
theorem crS_1 {S : Nat → Int32} {a : Nat} {up : Bool} {v : Int32} {g : Nat} (h : S 1 = nI a) : crS S a up v g 1 = nI (rowAt a up g) := by
  cases g with
  | zero => rw [crS, h]; cases up <;> rfl
  | succ g => rw [crS]; simp [upd]
theorem crS_row {S : Nat → Int32} {a : Nat} {up : Bool} {v : Int32} {g q : Nat} (hd : up = true ∨ g ≤ a) (hq : 11 + 17 * rowAt a up g ≤ q) (hq2 : q < 28 + 17 * rowAt a up g) : crS S a up v g q = S q := by
  refine crS_keep (by omega) (fun i hi => ?_)
  have := rowAt_ne hi hd
  omega
/-- the model's heap in the middle of a cranking -/
def crI (m sa : Nat) (a : Nat) (up : Bool) (v : Int32) (I : xI) (g : Nat) : xI := fun b k => if b = sa then crS (I sa) a up v g k else if b = m ∧ k = 11 then nI g else if b = m ∧ k = 12 then crT (I sa) a up v g else I b k
def xlv (sa m r : Nat) (v : Int32) (I : xI) : xI := xu (xu (xu I sa (12 + 17 * r) (wear1 (I sa) r v)) sa (13 + 17 * r) (torn1 (I sa) r v)) m 12 (I m 12 + tear1 (I sa) r v)
theorem crI_succ {m sa a : Nat} {up : Bool} {v : Int32} {I : xI} {g : Nat} (h : m ≠ sa) : xu (xu (if v = 3 ∧ g % 2 = 1 then crI m sa a up v I g else xlv sa m (rowAt a up g) v (crI m sa a up v I g)) sa 1 (nI (rowAt a up (g + 1)))) m 11 (nI (g + 1)) = crI m sa a up v I (g + 1) := by
  have e1 : crI m sa a up v I g sa = crS (I sa) a up v g := by funext k; simp [crI]
  have e2 : crI m sa a up v I g m 12 = crT (I sa) a up v g := by simp [crI, h]
  funext b k
  by_cases hb : b = sa
  · subst hb
    have hb2 : b ≠ m := fun e => h e.symm
    by_cases hk : k = 1
    · subst hk
      simp [xu, crI, crS, upd, hb2]
    · by_cases hs : v = 3 ∧ g % 2 = 1
      · simp only [if_pos hs]
        simp [xu, crI, crS, upd, hb2, hk, lvS, hs]
      · simp only [if_neg hs, xlv]
        rw [e1]
        simp only [xu, hb2, hk, false_and, and_false, if_false, true_and, crI, if_true, crS, upd, lvS, if_neg hs]
  · by_cases hm : b = m
    · subst hm
      by_cases hk : k = 11
      · subst hk; simp [xu, crI, hb]
      · by_cases hs : v = 3 ∧ g % 2 = 1
        · simp only [if_pos hs]
          by_cases hk2 : k = 12
          · subst hk2; simp [xu, crI, hb, crT, hs]
          · simp [xu, crI, hb, hk, hk2]
        · simp only [if_neg hs, xlv]
          rw [e1, e2]
          by_cases hk2 : k = 12
          · subst hk2; simp [xu, crI, hb, crT, hs]
          · simp [xu, crI, hb, hk, hk2]
    · by_cases hs : v = 3 ∧ g % 2 = 1
      · simp only [if_pos hs]; simp [xu, crI, hb, hm]
      · simp only [if_neg hs, xlv]; simp [xu, crI, hb, hm]
/-- the model's heap behind a cranking -/
def crF (m sa : Nat) (a : Nat) (up : Bool) (v : Int32) (I : xI) (g : Nat) : xI := xu (xu (crI m sa a up v I g) sa 4 (I sa 4 + crT (I sa) a up v g)) sa 5 (I sa 5 + nI g)
def xby (up : Bool) : Int32 := if up then 1 else -1
theorem xneg_le {w : Nat} (h : w ≤ 20) : -nI w ≤ 0 := by
  have key : ∀ k : Fin 21, -nI k.1 ≤ 0 := by decide
  exact key ⟨w, by omega⟩
theorem xby_mul {up : Bool} {w : Nat} (h : w ≤ 20) : (if up then nI w else -nI w) * xby up = nI w := by
  have key : ∀ k : Fin 21, (nI k.1 * 1 = nI k.1) ∧ (-nI k.1) * (-1) = nI k.1 := by decide
  cases up
  · exact (key ⟨w, by omega⟩).2
  · exact (key ⟨w, by omega⟩).1
theorem xby_end {up : Bool} {r n : Nat} (hr : r < n) (hn : n ≤ 20) : isR (nI r + xby up) (nI n) = if isEndS n up r then 0 else 1 := by
  unfold isR
  cases up
  · cases r with
    | zero =>
      have e : nI 0 + xby false < 0 := by decide
      rw [if_pos e]; rfl
    | succ r =>
      have e : nI (r + 1) + xby false = nI r := pk_m1 r
      rw [e, if_neg (nI_pos (by omega)), if_neg (nI_ge (by omega) (by omega))]
      simp [isEndS]
  · have e : nI r + xby true = nI (r + 1) := nI_1 r
    rw [e, if_neg (nI_pos (by omega))]
    by_cases h : n ≤ r + 1
    · rw [if_pos (nI_le h (by omega))]; simp [isEndS, h]
    · rw [if_neg (nI_ge (by omega) (by omega))]; simp [isEndS, h]
theorem xby_next {a n : Nat} {up : Bool} {g : Nat} (he : isEndS n up (rowAt a up g) = false) (hd : up = true ∨ g ≤ a) (hr : rowAt a up g < n) : nI (rowAt a up g) + xby up = nI (rowAt a up (g + 1)) ∧ rowAt a up (g + 1) < n ∧ (up = true ∨ g + 1 ≤ a) := by
  cases up
  · have hg : g ≤ a := by rcases hd with h | h; cases h; exact h
    simp only [isEndS, rowAt, Bool.false_eq_true, if_false, decide_eq_false_iff_not] at he hr ⊢
    refine ⟨?_, by omega, Or.inr (by omega)⟩
    have e : a - g = (a - (g + 1)) + 1 := by omega
    rw [e]; exact pk_m1 _
  · simp only [isEndS, rowAt, if_true, decide_eq_false_iff_not] at he hr ⊢
    exact ⟨by rw [show a + (g + 1) = (a + g) + 1 by omega]; exact nI_1 _, by omega, Or.inl trivial⟩
def heldS (S : Nat → Int32) (a : Nat) (up : Bool) (g : Nat) : Int32 := if 0 < g ∧ S (13 + 17 * rowAt a up g) = 1 then 1 else 0
/-- why a cranking by w rows ends after g -/
def whyS (n a : Nat) (up : Bool) (w g : Nat) : Int32 := if g = w then 0 else if isEndS n up (rowAt a up g) then 1 else 2
theorem crI_0 {m sa a : Nat} {up : Bool} {v : Int32} {I : xI} (h : m ≠ sa) : crI m sa a up v I 0 = xu (xu I m 11 0) m 12 0 := by
  funext b k
  by_cases hb : b = sa
  · subst hb
    have hb2 : b ≠ m := fun e => h e.symm
    simp [crI, xu, crS, hb2]
  · by_cases hm : b = m
    · subst hm
      by_cases h1 : k = 11
      · subst h1; simp [crI, xu, hb, nI_0]
      · by_cases h2 : k = 12
        · subst h2; simp [crI, xu, hb, crT]
        · simp [crI, xu, hb, h1, h2]
    · simp [crI, xu, hb, hm]
theorem srch_lt {p : Nat → Bool} : ∀ (w g i : Nat), g ≤ i → i < srch p w g → p i = false
  | 0, g, i, h1, h2 => by rw [srch] at h2; omega
  | w + 1, g, i, h1, h2 => by
    rw [srch] at h2
    by_cases hg : p g = true
    · rw [if_pos hg] at h2; omega
    · rw [if_neg hg] at h2
      rcases Nat.lt_or_ge g i with h | h
      · exact srch_lt w (g + 1) i h h2
      · rw [show i = g by omega]; simpa using hg
theorem srch_le {p : Nat → Bool} : ∀ (w g : Nat), g ≤ srch p w g ∧ srch p w g ≤ g + w
  | 0, g => ⟨Nat.le_refl g, Nat.le_refl g⟩
  | w + 1, g => by
    rw [srch]
    split
    · omega
    · have := srch_le (p := p) w (g + 1); omega
theorem srch_end {p : Nat → Bool} : ∀ (w g : Nat), srch p w g = g + w ∨ p (srch p w g) = true
  | 0, g => Or.inl rfl
  | w + 1, g => by
    rw [srch]
    by_cases hg : p g = true
    · rw [if_pos hg]; exact Or.inr hg
    · rw [if_neg hg]
      rcases srch_end (p := p) w (g + 1) with h | h
      · exact Or.inl (by omega)
      · exact Or.inr h
theorem steps_row {S : Nat → Int32} {n a : Nat} {up : Bool} {w : Nat} (ha : a < n) : ∀ i, i ≤ stepsS S n a up w → rowAt a up i < n ∧ (up = true ∨ i ≤ a)
  | 0, _ => by cases up <;> simp [rowAt] <;> omega
  | i + 1, h => by
    obtain ⟨h1, h2⟩ := steps_row (S := S) (up := up) (w := w) ha i (by omega)
    have h3 : stopS S n a up i = false := srch_lt w 0 i (by omega) (by unfold stepsS at h; omega)
    have h4 : isEndS n up (rowAt a up i) = false := by
      unfold stopS at h3
      cases hE : isEndS n up (rowAt a up i)
      · rfl
      · rw [hE] at h3; simp at h3
    cases up
    · simp only [isEndS, rowAt, Bool.false_eq_true, if_false, decide_eq_false_iff_not] at h4 h1 ⊢
      rcases h2 with h2 | h2
      · cases h2
      · exact ⟨by omega, Or.inr (by omega)⟩
    · simp only [isEndS, rowAt, if_true, decide_eq_false_iff_not] at h4 h1 ⊢
      exact ⟨by omega, Or.inl trivial⟩
/-- the model's array behind a cranking by g rows -/
def crFS (S : Nat → Int32) (a : Nat) (up : Bool) (v : Int32) (g : Nat) : Nat → Int32 := upd (upd (crS S a up v g) 4 (S 4 + crT S a up v g)) 5 (S 5 + nI g)
theorem crF_s {m sa a : Nat} {up : Bool} {v : Int32} {I : xI} {g : Nat} : crF m sa a up v I g sa = crFS (I sa) a up v g := by
  have e1 : crI m sa a up v I g sa = crS (I sa) a up v g := by funext k; simp [crI]
  unfold crF crFS
  rw [xu_upd, xu_upd, e1]
theorem crF_o {m sa a b : Nat} {up : Bool} {v : Int32} {I : xI} {g : Nat} (h1 : b ≠ sa) (h2 : b ≠ m) : crF m sa a up v I g b = I b := by
  unfold crF
  rw [xu_row h1, xu_row h1]
  funext k; simp [crI, h1, h2]
theorem crF_m {m sa a k : Nat} {up : Bool} {v : Int32} {I : xI} {g : Nat} (h1 : m ≠ sa) (h2 : k ≠ 11) (h3 : k ≠ 12) : crF m sa a up v I g m k = I m k := by
  unfold crF
  rw [xu_row h1, xu_row h1]
  simp [crI, h1, h2, h3]
theorem crF_11 {m sa a : Nat} {up : Bool} {v : Int32} {I : xI} {g : Nat} (h1 : m ≠ sa) : crF m sa a up v I g m 11 = nI g := by
  unfold crF; rw [xu_row h1, xu_row h1]; simp [crI, h1]
theorem crF_12 {m sa a : Nat} {up : Bool} {v : Int32} {I : xI} {g : Nat} (h1 : m ≠ sa) : crF m sa a up v I g m 12 = crT (I sa) a up v g := by
  unfold crF; rw [xu_row h1, xu_row h1]; simp [crI, h1]
theorem crFS_far {S : Nat → Int32} {n a q : Nat} {up : Bool} {v : Int32} {g : Nat} (hr : ∀ i, i ≤ g → rowAt a up i < n) (hn : n ≤ 20) (hq : 351 ≤ q) : crFS S a up v g q = S q := by
  unfold crFS
  simp only [upd]
  rw [if_neg (by omega), if_neg (by omega)]
  exact crS_keep (by omega) (fun i hi => by have := hr i (by omega); omega)
theorem crFS_1 {S : Nat → Int32} {a : Nat} {up : Bool} {v : Int32} {g : Nat} (h : S 1 = nI a) : crFS S a up v g 1 = nI (rowAt a up g) := by
  unfold crFS
  simp only [upd]
  rw [if_neg (by decide), if_neg (by decide), crS_1 h]
theorem whyS_cases (n a : Nat) (up : Bool) (w g : Nat) : whyS n a up w g = 0 ∨ whyS n a up w g = 1 ∨ whyS n a up w g = 2 := by
  unfold whyS
  split
  · exact Or.inl rfl
  · split
    · exact Or.inr (Or.inl rfl)
    · exact Or.inr (Or.inr rfl)
