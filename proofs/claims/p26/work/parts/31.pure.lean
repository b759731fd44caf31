/-! texts, as the model reads them: f where a name begins, s where it stands -/
def isEndT (tx : Nat → Int32) (t s : Nat) : Bool := decide (s = t) || decide (tx s = 47)
def isLetT (c : Int32) : Bool := decide (¬ inr c 65 90 = 0)
def mayT (tx : Nat → Int32) (f s : Nat) : Bool := decide (s - f < 14) && (isLetT (tx s) || (decide (tx s = 32) && (decide (f < s) && decide (¬ tx (s - 1) = 32))))
def fmP (tx : Nat → Int32) (t f s : Nat) : Bool := isEndT tx t s || !mayT tx f s
/-- where the model stops to read the name -/
def fmE (tx : Nat → Int32) (t f : Nat) : Nat := srch (fmP tx t f) (t - f) f
def fmOk (tx : Nat → Int32) (t f : Nat) : Bool := isEndT tx t (fmE tx t f) && (decide (f < fmE tx t f) && decide (¬ tx (fmE tx t f - 1) = 32))
def fmC (tx : Nat → Int32) (t f : Nat) : Nat := if isEndT tx t (fmE tx t f) = true then (if fmE tx t f = f then 0 else fmE tx t f - f - 1) else fmE tx t f - f
theorem fmE_le {tx : Nat → Int32} {t f : Nat} (h : f ≤ t) : f ≤ fmE tx t f ∧ fmE tx t f ≤ t := by
  have := srch_le (p := fmP tx t f) (t - f) f
  unfold fmE; omega
theorem fmE_p {tx : Nat → Int32} {t f : Nat} (h : f ≤ t) : fmP tx t f (fmE tx t f) = true := by
  rcases srch_end (p := fmP tx t f) (t - f) f with e | e
  · unfold fmE
    rw [e, show f + (t - f) = t by omega]
    simp [fmP, isEndT]
  · exact e
theorem fmE_b {tx : Nat → Int32} {t f i : Nat} (h1 : f ≤ i) (h2 : i < fmE tx t f) : fmP tx t f i = false := srch_lt (t - f) f i h1 h2
theorem fmE_at {tx : Nat → Int32} {t f s : Nat} (h1 : f ≤ s) (h2 : s ≤ t) (h3 : ∀ i, f ≤ i → i < s → fmP tx t f i = false) (h4 : fmP tx t f s = true) : fmE tx t f = s := srch_at (t - f) f s h1 (by omega) h3 (Or.inr h4)
theorem fmE_14 {tx : Nat → Int32} {t f : Nat} (h : f ≤ t) (ho : fmOk tx t f = true) : fmE tx t f - f ≤ 14 ∧ f < fmE tx t f := by
  simp only [fmOk, Bool.and_eq_true, decide_eq_true_eq] at ho
  refine ⟨?_, ho.2.1⟩
  have h2 : fmP tx t f (fmE tx t f - 1) = false := fmE_b (by omega) (by omega)
  simp only [fmP, mayT, Bool.or_eq_false_iff, Bool.not_eq_false', Bool.and_eq_true, decide_eq_true_eq] at h2
  omega
/-- the width of the name from f to e -/
def nmW (tx : Nat → Int32) (f e : Nat) : Int32 := wsum (fun j => tx (f + j)) (e - f)
/-- the model's array with the name from f to e added as row n -/
def addS (S : Nat → Int32) (n : Nat) (tx : Nat → Int32) (f e : Nat) : Nat → Int32 := fun i => if i = 1 then (if 0 ≤ S 1 then S 1 else 0) else if i = 0 then nI (n + 1) else if i = 11 + 17 * n then nI (e - f) else if i = 12 + 17 * n then 0 else if i = 13 + 17 * n then 0 else if rngB (14 + 17 * n) (e - f) i = true then tx (f + (i - (14 + 17 * n))) else S i
/-- why the name at f can't be added to S with n rows (0: it can), and by what -/
def nmR (S : Nat → Int32) (n : Nat) (tx : Nat → Int32) (t f : Nat) : Int32 := if fmOk tx t f = false then 1 else if sq (S 8) (nmW tx f (fmE tx t f)) ≤ 150 then (if n = 20 then 3 else 0) else 2
def nmC (S : Nat → Int32) (n : Nat) (tx : Nat → Int32) (t f : Nat) : Int32 := if fmOk tx t f = false then nI (fmC tx t f) else if sq (S 8) (nmW tx f (fmE tx t f)) ≤ 150 then nI (fmE tx t f - f) else sq (S 8) (nmW tx f (fmE tx t f))
/-- all that a model's method on texts leaves alone -/
def xTx (m sa : Nat) (I I' : xI) : Prop := (∀ a, a ≠ m → a ≠ sa → I' a = I a) ∧ ∀ k, k < 6 ∨ 10 < k → I' m k = I m k
theorem xTx.rf {m sa : Nat} {I : xI} : xTx m sa I I := ⟨fun _ _ _ => rfl, fun _ _ => rfl⟩
theorem xTx.tr {m sa : Nat} {I J K : xI} (h1 : xTx m sa I J) (h2 : xTx m sa J K) : xTx m sa I K := ⟨fun a b c => (h2.1 a b c).trans (h1.1 a b c), fun k hk => (h2.2 k hk).trans (h1.2 k hk)⟩
theorem xTx.u {m sa k : Nat} {I J : xI} {v : Int32} (h : xTx m sa I J) (hk : 6 ≤ k ∧ k ≤ 10) : xTx m sa I (xu J m k v) := ⟨fun a b c => by rw [xu_row b]; exact h.1 a b c, fun i hi => by rw [xu_ne (Or.inr (by omega))]; exact h.2 i hi⟩
theorem xTx.s {m sa k : Nat} {I J : xI} {v : Int32} (h : xTx m sa I J) (hm : m ≠ sa) : xTx m sa I (xu J sa k v) := ⟨fun a b c => by rw [xu_row c]; exact h.1 a b c, fun i hi => by rw [xu_row hm]; exact h.2 i hi⟩
