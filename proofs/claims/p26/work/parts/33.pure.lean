/-- all names of the text from f on, added to S with n rows: reason, cause, where the last one begins, the array then, how many -/
def aaR (tx : Nat → Int32) (t : Nat) : Nat → (Nat → Int32) → Nat → Nat → Int32 × Int32 × Nat × (Nat → Int32) × Nat
  | 0, S, _, f => (0, 0, f, S, 0)
  | w + 1, S, n, f => if nmR S n tx t f = 0 then (if fmE tx t f < t then ((aaR tx t w (addS S n tx f (fmE tx t f)) (n + 1) (fmE tx t f + 1)).1, (aaR tx t w (addS S n tx f (fmE tx t f)) (n + 1) (fmE tx t f + 1)).2.1, (aaR tx t w (addS S n tx f (fmE tx t f)) (n + 1) (fmE tx t f + 1)).2.2.1, (aaR tx t w (addS S n tx f (fmE tx t f)) (n + 1) (fmE tx t f + 1)).2.2.2.1, (aaR tx t w (addS S n tx f (fmE tx t f)) (n + 1) (fmE tx t f + 1)).2.2.2.2 + 1) else (0, 0, f, addS S n tx f (fmE tx t f), 1)) else (nmR S n tx t f, nmC S n tx t f, f, S, 1)
theorem addS_8 {S : Nat → Int32} {n f e : Nat} {tx : Nat → Int32} : addS S n tx f e 8 = S 8 := by
  unfold addS
  rw [if_neg (by decide), if_neg (by decide), if_neg (by omega), if_neg (by omega), if_neg (by omega), if_neg (by rw [rngB_f (by omega)]; decide)]
theorem addS_0 {S : Nat → Int32} {n f e : Nat} {tx : Nat → Int32} : addS S n tx f e 0 = nI (n + 1) := by
  unfold addS
  rw [if_neg (by decide), if_pos rfl]
theorem nmR_n {S : Nat → Int32} {n : Nat} {tx : Nat → Int32} {t f : Nat} (h : nmR S n tx t f = 0) : n ≠ 20 ∧ fmOk tx t f = true := by
  unfold nmR at h
  by_cases h1 : fmOk tx t f = false
  · rw [if_pos h1] at h; exact absurd h (by decide)
  · rw [if_neg h1] at h
    refine ⟨fun e => ?_, by cases hd : fmOk tx t f; exact absurd hd h1; rfl⟩
    rw [if_pos e] at h
    split at h <;> exact absurd h (by decide)
theorem addS_far {S : Nat → Int32} {n f e i : Nat} {tx : Nat → Int32} (hn : n < 20) (he : e - f ≤ 14) (hi : 351 ≤ i) : addS S n tx f e i = S i := by
  unfold addS
  rw [if_neg (by omega), if_neg (by omega), if_neg (by omega), if_neg (by omega), if_neg (by omega), if_neg (by rw [rngB_f (by omega)]; decide)]
theorem aaR_far {tx : Nat → Int32} {t : Nat} : ∀ (w : Nat) (S : Nat → Int32) (n f : Nat), n ≤ 20 → f ≤ t → ∀ i, 351 ≤ i → (aaR tx t w S n f).2.2.2.1 i = S i
  | 0, S, n, f, _, _, i, _ => rfl
  | w + 1, S, n, f, hn, hf, i, hi => by
    unfold aaR
    split
    · rename_i h0
      obtain ⟨h1, h2⟩ := nmR_n h0
      have h3 := fmE_14 hf h2
      split
      · rename_i h4
        show (aaR tx t w (addS S n tx f (fmE tx t f)) (n + 1) (fmE tx t f + 1)).2.2.2.1 i = S i
        rw [aaR_far w _ (n + 1) (fmE tx t f + 1) (by omega) (by omega) i hi, addS_far (by omega) h3.1 hi]
      · show addS S n tx f (fmE tx t f) i = S i
        rw [addS_far (by omega) h3.1 hi]
    · rfl
theorem xchg_pa {m sa pa h : Nat} {I J : xI} (h1 : J pa = I pa) (h2 : J sa = I sa) (hm : m ≠ pa) (hs : sa ≠ pa) : xchg m sa pa h J pa = xchg m sa pa h I pa := by
  funext k
  have hm' : pa ≠ m := fun e => hm e.symm
  have e1 : ∀ K : xI, xu K m 3 (nI 3) pa = K pa := fun K => xu_row hm'
  by_cases e : h = 4
  · simp only [xchg, if_pos e]
    rw [xu_row hm', xu_row hm']
    simp only [xput, true_and, xu_row hm']
    have g1 : xu (xshf pa 1107 J) m 3 (nI 3) sa = xu (xshf pa 1107 I) m 3 (nI 3) sa := by
      by_cases hsm : sa = m
      · subst hsm
        funext j
        simp only [xu, true_and, xshf, hs, false_and, if_false, h2]
      · rw [xu_row hsm, xu_row hsm]
        funext j
        simp only [xshf, hs, false_and, if_false, h2]
    rw [g1]
    simp only [xshf, true_and, h1]
  · simp only [xchg, if_neg e]
    rw [xu_row hm', xu_row hm']
    simp only [xput, true_and, h1, h2]
def aaA (S tx : Nat → Int32) (t : Nat) : Int32 × Int32 × Nat × (Nat → Int32) × Nat := aaR tx t (t + 1) S (cN S) 0
def aFault (S tx : Nat → Int32) (t : Nat) (w : Int32) : Int32 := if inr w 0 2 = 0 then -1000001 else if (aaA S tx t).1 = 0 then -1000004 else if w = 0 then nI (aaA S tx t).2.2.1 else if w = 1 then (aaA S tx t).1 else (aaA S tx t).2.1
def okAdd (S tx : Nat → Int32) (t : Nat) : Bool := decide ((aaA S tx t).1 = 0)
def aAdd (S tx : Nat → Int32) (t : Nat) : Int32 := if okAdd S tx t = true then nI (aaA S tx t).2.2.2.2 else -1000002
def sAdd (S tx : Nat → Int32) (t : Nat) : Nat → Int32 := if okAdd S tx t = true then (aaA S tx t).2.2.2.1 else S
theorem bI_nar (b : Bool) : narrow .boolean (.int (bI b)) = .int (bI b) := by cases b <;> rfl
