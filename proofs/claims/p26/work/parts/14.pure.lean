/-! what both sides compute, out of the model's array S -/
/-- the set of the torn rows among the first n (f r: 1 if row r is torn) -/
def tset (f : Nat → Int32) : Nat → Int32
  | 0 => 0
  | n + 1 => tset f n ||| f n <<< (nI n &&& 31)
/-- the set of the routes (g k: the rows of route k) to which a row belongs -/
def rset (g : Nat → Int32) (r : Int32) : Nat → Int32
  | 0 => 0
  | n + 1 => rset g r n ||| (g n >>> (r &&& 31) &&& 1) <<< (nI n &&& 31)
/-- a name as a number to the base 32 -/
def nml (f : Nat → Int32) : Nat → Int64
  | 0 => 0
  | n + 1 => 32 * nml f n + (f n - f n / 32 * 32).toInt64
def kindL (f : Nat → Int32) (n : Nat) : Int32 := if nml f n = 4375028 then 1 else if nml f n = 20433497 then 2 else if nml f n = 17794008709 then 3 else if nI n = 1 then 4 else 0
def sLen (S : Nat → Int32) (r : Nat) : Nat := (S (11 + 17 * r)).toNatClampNeg
def sLet (S : Nat → Int32) (r : Nat) : Nat → Int32 := fun j => S (14 + 17 * r + j)
def sWid (S : Nat → Int32) (r : Nat) : Int32 := wsum (sLet S r) (sLen S r)
def sKind (S : Nat → Int32) (r : Nat) : Int32 := kindL (sLet S r) (sLen S r)
def sDrv (S : Nat → Int32) : Nat := (S 3).toNatClampNeg
def sOn (S : Nat → Int32) : Bool := decide (0 ≤ S 3)
/-- by what row r would be wrong at a stop -/
def sWrong (S : Nat → Int32) (r : Nat) : Int32 :=
  if S (13 + 17 * r) = 1 then 2
  else if sOn S = false ∧ sKind S r ≠ 1 ∧ sKind S r ≠ 2 then 3
  else if sOn S = true ∧ S (351 + 3 * sDrv S) >>> (nI r &&& 31) &&& 1 = 0 ∧ sKind S r ≠ 2 then 4
  else if sq (S 8) (sWid S r) ≤ 120 then 0 else 5
theorem sLen_of {S : Nat → Int32} {r n : Nat} (h : S (11 + 17 * r) = nI n) (hn : n < 2 ^ 31) : sLen S r = n := by rw [sLen, h, nI_clamp hn]
/-- the widest row, as the model looks for it: the row, its width -/
def wid1 (w : Nat → Int32) : Nat → Int32 × Int32
  | 0 => (-1000004, 0)
  | n + 1 => if w n ≤ (wid1 w n).2 then wid1 w n else (nI n, w n)
def msum (w : Nat → Int32) : Nat → Int32
  | 0 => 0
  | n + 1 => msum w n + w n
def mcr (r v n : Int32) : Int32 := if inr r (-20) 20 = 0 then -1000001 else if r = 0 then -1000001 else if inr v 1 3 = 0 then -1000001 else if n = 0 then -1000002 else 0
/-- what a row is when it is left at the speed v as the step-th one -/
def wear1 (S : Nat → Int32) (r : Nat) (v : Int32) : Int32 := S (12 + 17 * r) + v
def tear1 (S : Nat → Int32) (r : Nat) (v : Int32) : Int32 := if S (13 + 17 * r) = 1 then 0 else if wear1 S r v ≤ S 9 then 0 else 1
def torn1 (S : Nat → Int32) (r : Nat) (v : Int32) : Int32 := if S (13 + 17 * r) = 1 then 1 else tear1 S r v
def skip1 (g : Nat) (v : Int32) : Prop := v = 3 ∧ g % 2 = 1
