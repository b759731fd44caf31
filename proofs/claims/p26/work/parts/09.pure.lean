/-! pure rows: literals, small functions that both sides compute -/
theorem xlit (n : Nat) : (OfNat.ofNat n : Int32) = nI n := rfl
theorem xi_l {i : Int32} {k n m : Nat} (h : m = n) (h1 : i.toNatClampNeg = k) (h2 : ¬ i < 0) (h3 : k < n) : xi i k m := ⟨h1, h2, by omega⟩
theorem xi_e {i : Int32} {k n m : Nat} (hi : i = nI k) (hm : m = n) (h : k < n) (hn : n < 2 ^ 31) : xi i k m := by subst hi; subst hm; exact xi_n h hn
/-- a letter's width -/
def lw (c : Int32) : Int32 := if c = 73 then 1 else if c = 32 then 1 else if c = 77 then 3 else if c = 87 then 3 else 2
def wsum (f : Nat → Int32) : Nat → Int32
  | 0 => 0
  | n + 1 => wsum f n + lw (f n)
theorem wsum_congr {f g : Nat → Int32} : ∀ {n : Nat}, (∀ j, j < n → f j = g j) → wsum f n = wsum g n
  | 0, _ => rfl
  | n + 1, h => by rw [wsum, wsum, wsum_congr (fun j hj => h j (by omega)), h n (by omega)]
/-- how much a name of width w is squeezed on a blind of width b -/
def sq (b w : Int32) : Int32 := if w ≤ b then 100 else w * 100 / b
def inr (v a b : Int32) : Int32 := if v < a then 0 else if b < v then 0 else 1
def isR (r N : Int32) : Int32 := if r < 0 then 0 else if N ≤ r then 0 else 1
def setLo (w : Int32) : Int32 := if w = 0 then 4 else 1
def setHi (w : Int32) : Int32 := if w = 0 then 60 else if w = 1 then 200 else 50
/-- a set without a row, those behind it one lower -/
def woS (x r : Int32) : Int32 := (x &&& (1 <<< (r &&& 31) - 1)) ||| (x >>> ((r + 1) &&& 31) <<< (r &&& 31))
