/-! alike, find, read, nearest: what they answer -/
def pfxP (f g : Nat → Int32) (L1 L2 k : Nat) : Bool := decide (L1 ≤ k) || (decide (L2 ≤ k) || decide (f k ≠ g k))
def pfx (f g : Nat → Int32) (L1 L2 : Nat) : Nat := srch (pfxP f g L1 L2) 14 0
def aAlike (S : Nat → Int32) (a b : Int32) : Int32 := if isR a (S 0) = 0 then -1000001 else if isR b (S 0) = 0 then -1000001 else nI (pfx (sLet S a.toNatClampNeg) (sLet S b.toNatClampNeg) (sLen S a.toNatClampNeg) (sLen S b.toNatClampNeg))
def bI (b : Bool) : Int32 := if b then 1 else 0
theorem bI_0 {b : Bool} : bI b = 0 ↔ b = false := by cases b <;> decide
def eqN (f g : Nat → Int32) : Nat → Bool
  | 0 => true
  | k + 1 => eqN f g k && decide (f k = g k)
theorem eqN_mono {f g : Nat → Int32} {k : Nat} (h : eqN f g k = false) : ∀ {t : Nat}, k ≤ t → eqN f g t = false
  | 0, hk => by rw [show k = 0 by omega] at h; exact h
  | t + 1, hk => by
    rcases Nat.lt_or_ge k (t + 1) with h1 | h1
    · rw [eqN, eqN_mono h (show k ≤ t by omega)]; rfl
    · rw [show t + 1 = k by omega]; exact h
/-- whether row r has the text of t characters as its name -/
def isNm (S : Nat → Int32) (tx : Nat → Int32) (t r : Nat) : Bool := decide (sLen S r = t) && eqN (sLet S r) tx t
def aFind (S tx : Nat → Int32) (t n : Nat) : Int32 := if srch (isNm S tx t) n 0 = n then -1000004 else nI (srch (isNm S tx t) n 0)
/-- whether a letter is read from afar -/
def seen (S : Nat → Int32) (a : Nat) (d c : Int32) : Bool := decide (c = 32) || decide (d ≤ lw c * S 10 * 100 / sq (S 8) (sWid S a))
def rcount (p : Int32 → Bool) (f : Nat → Int32) : Nat → Int32
  | 0 => 0
  | k + 1 => rcount p f k + bI (p (f k))
def aRead (S : Nat → Int32) (d : Int32) : Int32 := if inr d 1 999 = 0 then -1000001 else if S 0 = 0 then -1000004 else if S (13 + 17 * cA S) = 1 then 0 else rcount (seen S (cA S) d) (sLet S (cA S)) (sLen S (cA S))
theorem lw_cases (c : Int32) : ∃ w, 1 ≤ w ∧ w ≤ 3 ∧ lw c = nI w := by
  unfold lw
  split
  · exact ⟨1, by omega, by omega, rfl⟩
  · split
    · exact ⟨1, by omega, by omega, rfl⟩
    · split
      · exact ⟨3, by omega, by omega, rfl⟩
      · split
        · exact ⟨3, by omega, by omega, rfl⟩
        · exact ⟨2, by omega, by omega, rfl⟩
theorem wsum_cases (f : Nat → Int32) : ∀ n, ∃ w, n ≤ w ∧ w ≤ 3 * n ∧ wsum f n = nI w
  | 0 => ⟨0, by omega, by omega, rfl⟩
  | n + 1 => by
    obtain ⟨w, h1, h2, h3⟩ := wsum_cases f n
    obtain ⟨v, h4, h5, h6⟩ := lw_cases (f n)
    exact ⟨w + v, by omega, by omega, by rw [wsum, h3, h6, nI_add]⟩
/-- an int between two literals is one of the numbers between them -/
theorem nI_btw {x : Int32} {lo hi : Nat} (h1 : nI lo ≤ x) (h2 : x ≤ nI hi) (hl : lo < 2 ^ 31) (hh : hi < 2 ^ 31) : ∃ k, lo ≤ k ∧ k ≤ hi ∧ x = nI k := by
  rw [Int32.le_iff_toInt_le, nI_toInt hl] at h1
  rw [Int32.le_iff_toInt_le, nI_toInt hh] at h2
  obtain ⟨k, hk, rfl⟩ := nI_of (x := x) (fun q => by rw [Int32.lt_iff_toInt_lt] at q; have e0 : (0 : Int32).toInt = 0 := by decide
                                                     omega)
  rw [nI_toInt hk] at h1 h2
  exact ⟨k, by omega, by omega, rfl⟩
/-- a name is squeezed by 100 percent at least -/
theorem sq_cases {B w : Nat} (hB : 4 ≤ B) (hB2 : B ≤ 60) (hw : w ≤ 60) : ∃ k, 100 ≤ k ∧ k ≤ 1500 ∧ sq (nI B) (nI w) = nI k := by
  unfold sq
  by_cases h : w ≤ B
  · rw [if_pos (nI_le h (by omega))]; exact ⟨100, by omega, by omega, rfl⟩
  · rw [if_neg (nI_ge (by omega) (by omega))]
    refine ⟨w * 100 / B, ?_, ?_, ?_⟩
    · rw [Nat.le_div_iff_mul_le (by omega)]; omega
    · rw [Nat.div_le_iff_le_mul_add_pred (by omega)]; omega
    · rw [show (100 : Int32) = nI 100 from rfl, pk_mul, pk_div (by omega) (by omega) (by omega)]
/-- in which way the nearest right name is met b rows off: 1 up, -1 down, 0 not there -/
def sgnS (S : Nat → Int32) (n a b : Nat) : Int32 := if a + b < n ∧ sWrong S (a + b) = 0 then 1 else if b ≤ a ∧ sWrong S (a - b) = 0 then -1 else 0
def nearB (S : Nat → Int32) (n a : Nat) : Nat := srch (fun b => decide (sgnS S n a b ≠ 0)) n 0
def aNear (S : Nat → Int32) (w : Int32) : Int32 := if inr w 0 1 = 0 then -1000001 else if nearB S (cN S) (cA S) = cN S then -1000004 else if w = 0 then S 1 + sgnS S (cN S) (cA S) (nearB S (cN S) (cA S)) * nI (nearB S (cN S) (cA S)) else sgnS S (cN S) (cA S) (nearB S (cN S) (cA S)) * nI (nearB S (cN S) (cA S))
theorem isR_out {k n : Nat} (h : n ≤ k) (hk : k < 2 ^ 31) : isR (nI k) (nI n) = 0 := by
  rw [isR, if_neg (nI_pos hk), if_pos (nI_le h hk)]
theorem isR_sub {a b n : Nat} (h : a < b) (hb : b < 2 ^ 30) : isR (nI a - nI b) (nI n) = 0 := by
  rw [isR, if_pos (pk_sneg hb h)]
