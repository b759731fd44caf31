/-! a blind of the class beside the model's array -/
/-- the kinds of what a blind holds -/
def bA (μ : xM) (P : xP) (b : Nat) : Prop := (μ.2.1 (P b 0) = 9 ∧ μ.2.2 (P b 0) = 20) ∧ (μ.2.1 (P b 3) = 10 ∧ μ.2.2 (P b 3) = 6) ∧ (μ.2.1 (P b 6) = 7 ∧ μ.2.2 (P b 6) = 3) ∧ (∀ i, i < 20 → μ.2.1 (P (P b 0) i) = 3 ∧ μ.2.1 (P (P (P b 0) i) 0) = 8 ∧ μ.2.2 (P (P (P b 0) i) 0) = 14) ∧ ∀ j, j < 6 → μ.2.1 (P (P b 3) j) = 2
/-- blind b holds what the model's array S tells; n rows, q routes -/
def bR (I : xI) (P : xP) (b : Nat) (S : Nat → Int32) (n q : Nat) : Prop := I b 1 = S 0 ∧ (I b 2 = if S 1 < 0 then 0 else S 1) ∧ I b 4 = S 2 ∧ I b 5 = S 3 ∧ I b 7 = S 4 ∧ I b 8 = S 5 ∧ I b 9 = S 6 ∧ I b 10 = S 7 ∧ (∀ k, k < 3 → I (P b 6) k = S (8 + k)) ∧ (∀ i, i < n → I (P (P b 0) i) 1 = S (11 + 17 * i) ∧ I (P (P b 0) i) 2 = S (12 + 17 * i) ∧ I (P (P b 0) i) 3 = S (13 + 17 * i) ∧ ∀ k, k < sLen S i → I (P (P (P b 0) i) 0) k = S (14 + 17 * i + k)) ∧ ∀ j, j < q → I (P (P b 3) j) 0 = S (351 + 3 * j) ∧ I (P (P b 3) j) 1 = S (352 + 3 * j) ∧ I (P (P b 3) j) 2 = S (353 + 3 * j)
theorem kindL_congr {f g : Nat → Int32} {n : Nat} (h : ∀ k, k < n → f k = g k) : kindL f n = kindL g n := by
  have e : ∀ m, m ≤ n → nml f m = nml g m := by
    intro m
    induction m with
    | zero => intro _; rfl
    | succ m ih => intro hm; rw [nml, nml, ih (by omega), h m (by omega)]
  unfold kindL
  rw [e n (Nat.le_refl n)]
theorem eqN_congr {f f' g : Nat → Int32} : ∀ {n : Nat}, (∀ k, k < n → f k = f' k) → eqN f g n = eqN f' g n
  | 0, _ => rfl
  | n + 1, h => by rw [eqN, eqN, eqN_congr (fun k hk => h k (by omega)), h n (by omega)]
theorem kindC_congr {f g : Nat → Int32} {n : Nat} (h : ∀ k, k < n → f k = g k) : kindC f n = kindC g n := by
  unfold kindC nmd
  rw [eqN_congr h, eqN_congr h, eqN_congr h]
/-- a row that there is -/
theorem bRow {I : xI} {P : xP} {b : Nat} {S : Nat → Int32} {n q i : Nat} (hB : bR I P b S n q) (hinv : invN S n q) (hi : i < n) : ∃ L, 1 ≤ L ∧ L ≤ 14 ∧ I (P (P b 0) i) 1 = nI L ∧ S (11 + 17 * i) = nI L ∧ sLen S i = L ∧ wsum (I (P (P (P b 0) i) 0)) L = sWid S i ∧ kindC (I (P (P (P b 0) i) 0)) L = sKind S i ∧ (∀ k, k < L → I (P (P (P b 0) i) 0) k = sLet S i k) ∧ I (P (P b 0) i) 2 = S (12 + 17 * i) ∧ I (P (P b 0) i) 3 = S (13 + 17 * i) ∧ (S (13 + 17 * i) = 0 ∨ S (13 + 17 * i) = 1) := by
  obtain ⟨-, -, -, -, -, -, -, -, -, brw, -⟩ := hB
  obtain ⟨-, -, -, -, -, -, -, -, -, hrows⟩ := hinv
  obtain ⟨L, h1, h2, h3, h4, h5⟩ := hrows i hi
  obtain ⟨r1, r2, r3, r4⟩ := brw i hi
  have hl : sLen S i = L := sLen_of h3 (by omega)
  rw [hl] at r4
  refine ⟨L, h1, h2, r1.trans h3, h3, hl, ?_, ?_, r4, r2, r3, h5⟩
  · rw [sWid, hl]; exact wsum_congr r4
  · rw [sKind, hl, kindC_congr (g := sLet S i) r4]; exact kind_eq h4 h1 h2
/-- by what a row would be wrong; the row any int -/
def wrC (S : Nat → Int32) (r : Int32) : Int32 := if isR r (S 0) = 0 then 1 else sWrong S r.toNatClampNeg
def dst (a k : Nat) : Nat := if a ≤ k then k - a else a - k
/-- the nearest right row, as the class looks for it -/
def nrB (a k : Nat) : Option Nat → Bool
  | none => true
  | some c => decide (dst a k ≤ dst a c)
def nrC (S : Nat → Int32) (a : Nat) : Nat → Option Nat
  | 0 => none
  | k + 1 => if nrB a k (nrC S a k) = true ∧ sWrong S k = 0 then some k else nrC S a k
def oI (o : Option Nat) : Int32 := match o with | none => -1 | some k => nI k
