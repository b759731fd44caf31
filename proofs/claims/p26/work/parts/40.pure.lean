/-! the class: rows, routes, texts: what they answer -/
theorem ch_nar {x : Int32} (h : fits .char (.int x) = true) : vp_nar .char x = x := by
  have h1 : (0 : Int32) ≤ x ∧ x ≤ 65535 := by simpa [fits] using h
  obtain ⟨q, -, hq, rfl⟩ := nI_btw (lo := 0) (hi := 65535) h1.1 h1.2 (by decide) (by decide)
  have e := (pk_charN (q := q) (by omega)).1
  unfold vp_nar
  rw [e]
theorem xu_self {I : xI} {a k : Nat} : xu I a k (I a k) = I := by
  funext b j
  by_cases h : b = a ∧ j = k
  · obtain ⟨rfl, rfl⟩ := h; rw [xu_at]
  · unfold xu; rw [if_neg h]
theorem bit01 (x s : Int32) : x >>> s &&& 1 = 0 ∨ x >>> s &&& 1 = 1 := by
  obtain ⟨j, hj, e⟩ := pk_andE (x >>> s) (m := 1) 1 (by decide)
  rw [e]
  have : j = 0 ∨ j = 1 := by omega
  rcases this with rfl | rfl
  · exact Or.inl rfl
  · exact Or.inr rfl
/-- how many names end ahead of place k -/
def ncnt (tx : Nat → Int32) : Nat → Nat
  | 0 => 0
  | k + 1 => ncnt tx k + (if tx k = 47 then 1 else 0)
theorem ncnt_le (tx : Nat → Int32) : ∀ k, ncnt tx k ≤ k
  | 0 => Nat.le_refl 0
  | k + 1 => by have := ncnt_le tx k; rw [ncnt]; split <;> omega
/-- where the name that begins at f ends -/
def eon (tx : Nat → Int32) (t f : Nat) : Nat := srch (isEndT tx t) (t - f) f
def fitT (tx : Nat → Int32) (f e s : Nat) : Bool := if tx s = 32 then decide (f < s) && (decide (s + 1 < e) && decide (¬ tx (s - 1) = 32)) else decide (65 ≤ tx s) && decide (tx s ≤ 90)
def bkP (tx : Nat → Int32) (f e s : Nat) : Bool := decide (14 ≤ s - f) || !fitT tx f e s
def bkO (tx : Nat → Int32) (f e : Nat) : Int32 := if e ≤ f then 0 else if srch (bkP tx f e) (e - f) f = e then -1 else nI (srch (bkP tx f e) (e - f) f - f)
/-- a row in the middle of taking a name out of a text -/
def bgI (I : xI) (r la sg f k : Nat) : xI := xu (xmp la (rngB 0 k) (fun i => I sg (f + i)) I) r 1 (nI k)
theorem bgI_0 {I : xI} {r la sg f : Nat} : bgI I r la sg f 0 = xu I r 1 0 := by
  unfold bgI
  congr 1
  funext b i
  simp [xmp, rngB]
theorem bgI_succ {I : xI} {r la sg f k : Nat} (h : la ≠ r) : xu (xu (bgI I r la sg f k) la k (I sg (f + k))) r 1 (nI (k + 1)) = bgI I r la sg f (k + 1) := by
  unfold bgI
  funext b i
  by_cases hb : b = r
  · subst hb
    by_cases hi : i = 1
    · subst hi; rw [xu_at, xu_at]
    · rw [xu_ne (Or.inr hi), xu_ne (Or.inl (Ne.symm h)), xu_ne (Or.inr hi), xu_ne (Or.inr hi), xmp_o (Ne.symm h), xmp_o (Ne.symm h)]
  · rw [xu_ne (Or.inl hb), xu_ne (Or.inl hb)]
    by_cases hl : b = la
    · subst hl
      by_cases hi : i = k
      · subst hi
        rw [xu_at]
        simp [xmp, rngB]
      · rw [xu_ne (Or.inr hi), xu_ne (Or.inl hb)]
        have e : rngB 0 (k + 1) i = rngB 0 k i := by unfold rngB; congr 1; exact decide_eq_decide.mpr (by omega)
        simp only [xmp, e]
    · rw [xu_ne (Or.inl hl), xu_ne (Or.inl hb), xmp_o hl, xmp_o hl]
