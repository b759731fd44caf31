/-! cut, swap on the model's array -/
def xmp (sa : Nat) (c : Nat → Bool) (f : Nat → Int32) (J : xI) : xI := fun b i => if b = sa ∧ c i = true then f i else J b i
theorem xmp_step {sa k : Nat} {c c' : Nat → Bool} {f : Nat → Int32} {J : xI} {x : Int32} (hc : ∀ i, c' i = true ↔ (c i = true ∨ i = k)) (hx : f k = x) : xu (xmp sa c f J) sa k x = xmp sa c' f J := by
  funext b i
  by_cases hb : b = sa
  · subst hb
    by_cases hi : i = k
    · subst hi
      have h1 : c' i = true := (hc i).mpr (Or.inr rfl)
      simp [xu, xmp, h1, hx]
    · by_cases h1 : c i = true
      · have h2 : c' i = true := (hc i).mpr (Or.inl h1)
        simp [xu, xmp, hi, h1, h2]
      · have h2 : ¬ c' i = true := fun w => by rcases (hc i).mp w with y | y; exact h1 y; exact hi y
        simp [xu, xmp, hi, h1, h2]
  · simp [xu, xmp, hb]
theorem xmp_0 {sa : Nat} {c : Nat → Bool} {f : Nat → Int32} {J : xI} (h : ∀ i, c i = false) : xmp sa c f J = J := by funext b i; simp [xmp, h]
theorem xmp_o {sa b : Nat} {c : Nat → Bool} {f : Nat → Int32} {J : xI} (h : b ≠ sa) : xmp sa c f J b = J b := by funext i; simp [xmp, h]
theorem xmp_n {sa i : Nat} {c : Nat → Bool} {f : Nat → Int32} {J : xI} (h : c i = false) : xmp sa c f J sa i = J sa i := by simp [xmp, h]
def rngB (lo j i : Nat) : Bool := decide (lo ≤ i) && decide (i < lo + j)
def rouB (j i : Nat) : Bool := decide (351 ≤ i) && (decide (i < 351 + 3 * j) && decide (i % 3 = 0))
theorem rngB_s {lo j i : Nat} : rngB lo (j + 1) i = true ↔ (rngB lo j i = true ∨ i = lo + j) := by
  simp only [rngB, Bool.and_eq_true, decide_eq_true_eq]; omega
theorem rngB_0 {lo i : Nat} : rngB lo 0 i = false := by
  cases h : rngB lo 0 i
  · rfl
  · simp only [rngB, Bool.and_eq_true, decide_eq_true_eq] at h; omega
theorem rngB_f {lo j i : Nat} (h : i < lo ∨ lo + j ≤ i) : rngB lo j i = false := by
  cases h1 : rngB lo j i
  · rfl
  · simp only [rngB, Bool.and_eq_true, decide_eq_true_eq] at h1; omega
theorem rouB_s {j i : Nat} : rouB (j + 1) i = true ↔ (rouB j i = true ∨ i = 351 + 3 * j) := by
  simp only [rouB, Bool.and_eq_true, decide_eq_true_eq]; omega
theorem rouB_f {j i : Nat} (h : i < 351 ∨ 351 + 3 * j ≤ i) : rouB j i = false := by
  cases h1 : rouB j i
  · rfl
  · simp only [rouB, Bool.and_eq_true, decide_eq_true_eq] at h1; omega
theorem rouB_0 {i : Nat} : rouB 0 i = false := rouB_f (by omega)
def cutZ (S : Nat → Int32) (k n : Nat) : Int32 := if nI k < S 1 then 1 else if S 1 = nI (n - 1) then 1 else 0
def cutS (S : Nat → Int32) (k n q : Nat) : Nat → Int32 := fun i => if i = 1 then S 1 - cutZ S k n else if rouB q i = true then woS (S i) (nI k) else if rngB (11 + 17 * k) (17 * (n - 1 - k)) i = true then S (i + 17) else if i = 0 then nI (n - 1) else S i
def okRow (S : Nat → Int32) (r : Int32) : Bool := if isR r (S 0) = 0 then false else true
def cQn (S : Nat → Int32) : Nat := (S 2).toNatClampNeg
def sCut (S : Nat → Int32) (r : Int32) : Nat → Int32 := if okRow S r = true then cutS S r.toNatClampNeg (cN S) (cQn S) else S
def aCut (S : Nat → Int32) (r : Int32) : Int32 := if isR r (S 0) = 0 then -1000001 else S 1 - cutZ S r.toNatClampNeg (cN S)
def swS (x a b : Int32) : Int32 := if x >>> (a &&& 31) &&& 1 = x >>> (b &&& 31) &&& 1 then x else x ^^^ ((1 <<< (a &&& 31)) ||| (1 <<< (b &&& 31)))
def swapS (S : Nat → Int32) (a b q : Nat) : Nat → Int32 := fun i => if rouB q i = true then swS (S i) (nI a) (nI b) else if rngB (11 + 17 * a) 17 i = true then S (i - (11 + 17 * a) + (11 + 17 * b)) else if rngB (11 + 17 * b) 17 i = true then S (i - (11 + 17 * b) + (11 + 17 * a)) else S i
def okSwap (S : Nat → Int32) (a b : Int32) : Bool := if isR a (S 0) = 0 then false else if isR b (S 0) = 0 then false else if a = b then false else true
def sSwap (S : Nat → Int32) (a b : Int32) : Nat → Int32 := if okSwap S a b = true then swapS S a.toNatClampNeg b.toNatClampNeg (cQn S) else S
def aSwap (S : Nat → Int32) (a b : Int32) : Int32 := if okSwap S a b = true then S 1 else -1000001
/-- two rows of the model's array in the middle of their exchange -/
def xsw (sa a b j : Nat) (J : xI) : xI := fun c i => if c = sa ∧ rngB (11 + 17 * a) j i = true then J sa (i - (11 + 17 * a) + (11 + 17 * b)) else if c = sa ∧ rngB (11 + 17 * b) j i = true then J sa (i - (11 + 17 * b) + (11 + 17 * a)) else J c i
theorem xsw_o {sa a b j c : Nat} {J : xI} (h : c ≠ sa) : xsw sa a b j J c = J c := by funext i; simp [xsw, h]
theorem xsw_0 {sa a b : Nat} {J : xI} : xsw sa a b 0 J = J := by funext c i; simp [xsw, rngB_0]
theorem xsw_n {sa a b j i : Nat} {J : xI} (h1 : rngB (11 + 17 * a) j i = false) (h2 : rngB (11 + 17 * b) j i = false) : xsw sa a b j J sa i = J sa i := by simp [xsw, h1, h2]
theorem xsw_succ {sa a b j : Nat} {J : xI} (hab : a ≠ b) (hj : j < 17) : xu (xu (xsw sa a b j J) sa (11 + 17 * a + j) (J sa (11 + 17 * b + j))) sa (11 + 17 * b + j) (J sa (11 + 17 * a + j)) = xsw sa a b (j + 1) J := by
  funext c i
  by_cases hc : c = sa
  · subst hc
    by_cases h1 : i = 11 + 17 * b + j
    · subst h1
      have e1 : rngB (11 + 17 * a) (j + 1) (11 + 17 * b + j) = false := rngB_f (by omega)
      have e2 : rngB (11 + 17 * b) (j + 1) (11 + 17 * b + j) = true := rngB_s.mpr (Or.inr rfl)
      have e3 : 11 + 17 * b + j - (11 + 17 * b) + (11 + 17 * a) = 11 + 17 * a + j := by omega
      simp only [xu, xsw, e1, e2, e3, and_self, if_true, Bool.false_eq_true, and_false, if_false]
    · by_cases h2 : i = 11 + 17 * a + j
      · subst h2
        have e2 : rngB (11 + 17 * a) (j + 1) (11 + 17 * a + j) = true := rngB_s.mpr (Or.inr rfl)
        have e3 : 11 + 17 * a + j - (11 + 17 * a) + (11 + 17 * b) = 11 + 17 * b + j := by omega
        simp only [xu, xsw, h1, e2, e3, and_self, and_false, if_true, if_false]
      · have e1 : rngB (11 + 17 * a) (j + 1) i = rngB (11 + 17 * a) j i := by
          rw [Bool.eq_iff_iff, rngB_s]; exact ⟨fun w => w.resolve_right h2, Or.inl⟩
        have e2 : rngB (11 + 17 * b) (j + 1) i = rngB (11 + 17 * b) j i := by
          rw [Bool.eq_iff_iff, rngB_s]; exact ⟨fun w => w.resolve_right h1, Or.inl⟩
        simp [xu, xsw, h1, h2, e1, e2]
  · simp [xu, xsw, hc]
