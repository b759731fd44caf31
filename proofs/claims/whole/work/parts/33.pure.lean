/-- all names of the text from f on, added to S with n rows: reason, cause, where the last one begins, the array then, how many -/
def aaR (tx : Nat → Int32) (t : Nat) : Nat → (Nat → Int32) → Nat → Nat → Int32 × Int32 × Nat × (Nat → Int32) × Nat
  | 0, S, _, f => (0, 0, f, S, 0)
  | w + 1, S, n, f => if nmR S n tx t f = 0 then (if fmE tx t f < t then ((aaR tx t w (addS S n tx f (fmE tx t f)) (n + 1) (fmE tx t f + 1)).1, (aaR tx t w (addS S n tx f (fmE tx t f)) (n + 1) (fmE tx t f + 1)).2.1, (aaR tx t w (addS S n tx f (fmE tx t f)) (n + 1) (fmE tx t f + 1)).2.2.1, (aaR tx t w (addS S n tx f (fmE tx t f)) (n + 1) (fmE tx t f + 1)).2.2.2.1, (aaR tx t w (addS S n tx f (fmE tx t f)) (n + 1) (fmE tx t f + 1)).2.2.2.2 + 1) else (0, 0, f, addS S n tx f (fmE tx t f), 1)) else (nmR S n tx t f, nmC S n tx t f, f, S, 1)
theorem addS_8 {S : Nat → Int32} {n f e : Nat} {tx : Nat → Int32} : addS S n tx f e 8 = S 8 := by
  unfold addS
  rw [if_neg (by decide), if_neg (by decide), if_neg (by omega), if_neg (by omega), if_neg (by omega), if_neg (by rw [rngB_f (by omega)]; decide)]
theorem addS_0 {S : Nat → Int32} {n f e : Nat} {tx : Nat → Int32} : addS S n tx f e 0 = nI (n + 1) := by
  unfold addS
  rw [if_neg (by decide), if_pos rfl]
theorem nmR_n {S : Nat → Int32} {n : Nat} {tx : Nat → Int32} {t f : Nat} (h : nmR S n tx t f = 0) : n ≠ 20 ∧ fmOk tx t f = true := by
  unfold nmR at h
  by_cases h1 : fmOk tx t f = false
  · rw [if_pos h1] at h; exact absurd h (by decide)
  · rw [if_neg h1] at h
    refine ⟨fun e => ?_, by cases hd : fmOk tx t f; exact absurd hd h1; rfl⟩
    rw [if_pos e] at h
    split at h <;> exact absurd h (by decide)
