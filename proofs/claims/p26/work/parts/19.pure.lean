/-! the model's public calls: what they answer and make of its array -/
theorem isR_of {r N : Int32} {n : Nat} (h : ¬ isR r N = 0) (hN : N = nI n) (hn : n < 2 ^ 31) : ∃ k, k < n ∧ r = nI k := by
  subst hN
  rcases pk_ix r hn with h1 | h1 | h1
  · exact absurd (by rw [isR, if_pos h1]) h
  · by_cases h0 : r < 0
    · exact absurd (by rw [isR, if_pos h0]) h
    · exact absurd (by rw [isR, if_neg h0, if_pos h1]) h
  · exact h1
theorem isR_nI {k n : Nat} (h : k < n) (hn : n < 2 ^ 31) : isR (nI k) (nI n) = 1 := by
  rw [isR, if_neg (nI_pos (by omega)), if_neg (nI_ge h hn)]
def nameOk (f : Nat → Int32) (L : Nat) : Prop := (∀ j, j < L → f j = 32 ∨ (65 ≤ f j ∧ f j ≤ 90)) ∧ f 0 ≠ 32 ∧ f (L - 1) ≠ 32 ∧ ∀ j, j + 1 < L → ¬ (f j = 32 ∧ f (j + 1) = 32)
def rowOk (S : Nat → Int32) (r : Nat) : Prop := ∃ L, 1 ≤ L ∧ L ≤ 14 ∧ S (11 + 17 * r) = nI L ∧ nameOk (sLet S r) L ∧ (S (13 + 17 * r) = 0 ∨ S (13 + 17 * r) = 1)
/-- what holds of the model's array at any time; n rows, q routes -/
def invN (S : Nat → Int32) (n q : Nat) : Prop := n ≤ 20 ∧ S 0 = nI n ∧ q ≤ 6 ∧ S 2 = nI q ∧ ((n = 0 ∧ S 1 = -1) ∨ ∃ a, a < n ∧ S 1 = nI a) ∧ (S 3 = -1 ∨ ∃ d, d < q ∧ S 3 = nI d) ∧ (4 ≤ S 8 ∧ S 8 ≤ 60) ∧ (1 ≤ S 9 ∧ S 9 ≤ 200) ∧ (1 ≤ S 10 ∧ S 10 ≤ 50) ∧ ∀ r, r < n → rowOk S r
/-- the model's heap behind a call, beside J: its array is S', its past and counts as in J, others as in I -/
def mQ (m sa pa ta : Nat) (I J I' : xI) (S' : Nat → Int32) : Prop := I' sa = S' ∧ I' pa = J pa ∧ I' m 3 = J m 3 ∧ I' m 5 = J m 5 ∧ ∀ a, a ≠ m → a ≠ sa → a ≠ pa → a ≠ ta → I' a = I a
theorem mQ_id {m sa pa ta : Nat} {I : xI} : mQ m sa pa ta I I I (I sa) := ⟨rfl, rfl, rfl, rfl, fun _ _ _ _ _ => rfl⟩
theorem mQ_chg {m sa pa ta h : Nat} {I J : xI} {S' : Nat → Int32} (hmp : m ≠ pa) (hms : m ≠ sa) (hsp : sa ≠ pa) (hS : J sa = S') (ho : ∀ a, a ≠ sa → J a = xchg m sa pa h I a) : mQ m sa pa ta I (xchg m sa pa h I) J S' :=
  ⟨hS, ho pa (Ne.symm hsp), by rw [ho m hms], by rw [ho m hms], fun a h1 h2 h3 _ => by rw [ho a h2, xchg_o h3 h1]⟩
def okDrive (S : Nat → Int32) (r : Int32) : Bool := if r = -1 then true else if isR r (S 2) = 0 then false else true
def aDrive (S : Nat → Int32) (r : Int32) : Int32 := if okDrive S r = true then S 3 else -1000001
def sDrive (S : Nat → Int32) (r : Int32) : Nat → Int32 := if okDrive S r = true then upd S 3 r else S
def okSet (w v : Int32) : Bool := if inr w 0 2 = 0 then false else if inr v (setLo w) (setHi w) = 0 then false else true
def aSet (S : Nat → Int32) (w v : Int32) : Int32 := if okSet w v = true then S (8 + w.toNatClampNeg) else -1000001
def sSet (S : Nat → Int32) (w v : Int32) : Nat → Int32 := if okSet w v = true then upd S (8 + w.toNatClampNeg) v else S
def okMend (S : Nat → Int32) (r : Int32) : Bool := if isR r (S 0) = 0 then false else if S (13 + 17 * r.toNatClampNeg) = 1 then true else false
def aMend (S : Nat → Int32) (r : Int32) : Int32 := if isR r (S 0) = 0 then -1000001 else if S (13 + 17 * r.toNatClampNeg) = 1 then S (12 + 17 * r.toNatClampNeg) / 2 else -1000002
def sMend (S : Nat → Int32) (r : Int32) : Nat → Int32 := if okMend S r = true then upd (upd S (12 + 17 * r.toNatClampNeg) (S (12 + 17 * r.toNatClampNeg) / 2)) (13 + 17 * r.toNatClampNeg) 0 else S
/-- a set of rows that there are -/
def inSet (r N : Int32) : Int32 := inr r 1 (1 <<< (N &&& 31) - 1)
def okRoute (S : Nat → Int32) (r : Int32) : Bool := if inSet r (S 0) = 0 then false else if S 2 = 6 then false else true
def aRoute (S : Nat → Int32) (r : Int32) : Int32 := if inSet r (S 0) = 0 then -1000001 else if S 2 = 6 then -1000003 else S 2
def sRoute (S : Nat → Int32) (r : Int32) : Nat → Int32 := if okRoute S r = true then upd (upd (upd (upd S (351 + 3 * (S 2).toNatClampNeg) r) (352 + 3 * (S 2).toNatClampNeg) 0) (353 + 3 * (S 2).toNatClampNeg) 0) 2 (S 2 + 1) else S
/-- by what the row that is shown would be wrong -/
def aWrong (S : Nat → Int32) : Int32 := if S 1 < 0 then 1 else sWrong S (S 1).toNatClampNeg
def xright (w : Int32) : Int32 := if w = 0 then 1 else 0
def sStop (S : Nat → Int32) : Nat → Int32 :=
  let T := upd (upd S 6 (S 6 + 1)) 7 (S 7 + xright (aWrong S))
  if S 3 < 0 then T else upd (upd T (352 + 3 * sDrv S) (S (352 + 3 * sDrv S) + 1)) (353 + 3 * sDrv S) (S (353 + 3 * sDrv S) + xright (aWrong S))
def aLetter (S : Nat → Int32) (r i : Int32) : Int32 := if isR r (S 0) = 0 then -1000001 else if 0 ≤ i then (if S (11 + 17 * r.toNatClampNeg) ≤ i then -1000004 else S (14 + 17 * r.toNatClampNeg + i.toNatClampNeg)) else -1000001
def aRowOf (S : Nat → Int32) (r w : Int32) : Int32 := if isR r (S 0) = 0 then -1000001 else if inr w 0 7 = 0 then -1000001 else if w = 0 then S (11 + 17 * r.toNatClampNeg) else if w = 1 then sWid S r.toNatClampNeg else if w = 2 then sq (S 8) (sWid S r.toNatClampNeg) else if w = 3 then sKind S r.toNatClampNeg else if w = 4 then S (12 + 17 * r.toNatClampNeg) else if w = 5 then S (13 + 17 * r.toNatClampNeg) else if w = 6 then rset (fun k => S (351 + 3 * k)) r (S 2).toNatClampNeg else (if S 1 = r then 1 else 0)
theorem tab_out {x : Int32} {hi : Nat} (hh : hi < 2 ^ 31 - 1) (h : ∀ k, k ≤ hi → x ≠ nI k) : x.toInt < 0 ∨ (hi : Int) < x.toInt := by
  rcases pk_ix x (n := hi + 1) (by omega) with h1 | h1 | ⟨j, h1, h2⟩
  · exact Or.inl (Int32.lt_iff_toInt_lt.mp h1)
  · right
    have h3 := Int32.le_iff_toInt_le.mp h1
    rw [nI_toInt (by omega)] at h3
    omega
  · exact absurd h2 (h j (by omega))
theorem inr_07 {w : Int32} (h : ¬ inr w 0 7 = 0) (h0 : ¬ w = 0) (h1 : ¬ w = 1) (h2 : ¬ w = 2) (h3 : ¬ w = 3) (h4 : ¬ w = 4) (h5 : ¬ w = 5) (h6 : ¬ w = 6) : w = 7 := by
  have h' : ¬ isR w (nI 8) = 0 := by
    intro e
    apply h
    unfold inr
    unfold isR at e
    by_cases c : w < 0
    · rw [if_pos c]
    · rw [if_neg c] at e ⊢
      by_cases c2 : nI 8 ≤ w
      · have : (7 : Int32) < w := by
          rw [Int32.lt_iff_toInt_lt]; rw [Int32.le_iff_toInt_le] at c2
          have e1 : (nI 8).toInt = 8 := by decide
          have e2 : (7 : Int32).toInt = 7 := by decide
          omega
        rw [if_pos this]
      · rw [if_neg c2] at e; exact absurd e (by decide)
  obtain ⟨k, hk, rfl⟩ := isR_of h' rfl (by decide)
  have hc : k = 0 ∨ k = 1 ∨ k = 2 ∨ k = 3 ∨ k = 4 ∨ k = 5 ∨ k = 6 ∨ k = 7 := by omega
  rcases hc with rfl | rfl | rfl | rfl | rfl | rfl | rfl | rfl
  · exact absurd rfl h0
  · exact absurd rfl h1
  · exact absurd rfl h2
  · exact absurd rfl h3
  · exact absurd rfl h4
  · exact absurd rfl h5
  · exact absurd rfl h6
  · rfl
theorem inr_02 {w : Int32} (h : ¬ inr w 0 2 = 0) : w.toNatClampNeg < 3 ∧ 8 + w = nI (8 + w.toNatClampNeg) := by
  have h' : ¬ isR w (nI 3) = 0 := by
    intro e
    apply h
    unfold inr
    unfold isR at e
    by_cases c : w < 0
    · rw [if_pos c]
    · rw [if_neg c] at e ⊢
      by_cases c2 : nI 3 ≤ w
      · have : (2 : Int32) < w := by
          rw [Int32.lt_iff_toInt_lt]; rw [Int32.le_iff_toInt_le] at c2
          have e1 : (nI 3).toInt = 3 := by decide
          have e2 : (2 : Int32).toInt = 2 := by decide
          omega
        rw [if_pos this]
      · rw [if_neg c2] at e; exact absurd e (by decide)
  obtain ⟨k, hk, rfl⟩ := isR_of h' rfl (by decide)
  rw [nI_clamp (by omega)]
  exact ⟨hk, nI_add 8 k⟩
def aCount (S : Nat → Int32) (ps ty w : Int32) : Int32 := if w = 0 then S 0 else if w = 1 then (if 0 ≤ S 1 then S 1 else -1000004) else if w = 2 then S 2 else if w = 3 then (if 0 ≤ S 3 then S 3 else -1000004) else if w = 4 then tset (fun r => S (13 + 17 * r)) (S 0).toNatClampNeg else if w = 5 then S 4 else if w = 6 then S 5 else if w = 7 then S 6 else if w = 8 then S 7 else if w = 9 then aWrong S else if w = 10 then (wid1 (sWid S) (S 0).toNatClampNeg).1 else if w = 11 then ps else if w = 12 then ty else if inr w 20 22 = 0 then -1000001 else S (8 + w - 20).toNatClampNeg
theorem inr_2022 {w : Int32} (h : ¬ inr w 20 22 = 0) : w = 20 ∨ w = 21 ∨ w = 22 := by
  have h0 : ¬ w < 20 := fun c => h (by rw [inr, if_pos c])
  have h1 : ¬ 22 < w := fun c => h (by rw [inr, if_neg h0, if_pos c])
  rw [Int32.lt_iff_toInt_lt] at h0 h1
  have e1 : (20 : Int32).toInt = 20 := by decide
  have e2 : (22 : Int32).toInt = 22 := by decide
  have e3 : (21 : Int32).toInt = 21 := by decide
  have h2 : w.toInt = 20 ∨ w.toInt = 21 ∨ w.toInt = 22 := by omega
  rcases h2 with h2 | h2 | h2
  · exact Or.inl (Int32.toInt_inj.mp (h2.trans e1.symm))
  · exact Or.inr (Or.inl (Int32.toInt_inj.mp (h2.trans e3.symm)))
  · exact Or.inr (Or.inr (Int32.toInt_inj.mp (h2.trans e2.symm)))
def okCrank (S : Nat → Int32) (r v : Int32) : Bool := if mcr r v (S 0) = 0 then true else false
/-- a cranking's way out of its number of rows: up, and how many -/
def cUp (r : Int32) : Bool := decide (0 < r)
def cW (r : Int32) : Nat := if 0 < r then r.toNatClampNeg else (-r).toNatClampNeg
def cA (S : Nat → Int32) : Nat := (S 1).toNatClampNeg
def cN (S : Nat → Int32) : Nat := (S 0).toNatClampNeg
def cG (S : Nat → Int32) (r : Int32) : Nat := stepsS S (cN S) (cA S) (cUp r) (cW r)
theorem mcr_0 {r v N : Int32} (h : mcr r v N = 0) : ¬ inr r (-20) 20 = 0 ∧ ¬ r = 0 ∧ ¬ inr v 1 3 = 0 ∧ ¬ N = 0 := by
  unfold mcr at h
  refine ⟨fun e => ?_, fun e => ?_, fun e => ?_, fun e => ?_⟩
  · rw [if_pos e] at h; exact absurd h (by decide)
  · by_cases c : inr r (-20) 20 = 0
    · rw [if_pos c] at h; exact absurd h (by decide)
    · rw [if_neg c, if_pos e] at h; exact absurd h (by decide)
  · by_cases c : inr r (-20) 20 = 0
    · rw [if_pos c] at h; exact absurd h (by decide)
    · by_cases c2 : r = 0
      · rw [if_neg c, if_pos c2] at h; exact absurd h (by decide)
      · rw [if_neg c, if_neg c2, if_pos e] at h; exact absurd h (by decide)
  · by_cases c : inr r (-20) 20 = 0
    · rw [if_pos c] at h; exact absurd h (by decide)
    · by_cases c2 : r = 0
      · rw [if_neg c, if_pos c2] at h; exact absurd h (by decide)
      · by_cases c3 : inr v 1 3 = 0
        · rw [if_neg c, if_neg c2, if_pos c3] at h; exact absurd h (by decide)
        · rw [if_neg c, if_neg c2, if_neg c3, if_pos e] at h; exact absurd h (by decide)
theorem mcr_neg {r v N : Int32} (h : ¬ mcr r v N = 0) : mcr r v N = -1000001 ∨ mcr r v N = -1000002 := by
  unfold mcr at h ⊢
  by_cases c : inr r (-20) 20 = 0
  · rw [if_pos c]; exact Or.inl rfl
  · by_cases c2 : r = 0
    · rw [if_neg c, if_pos c2]; exact Or.inl rfl
    · by_cases c3 : inr v 1 3 = 0
      · rw [if_neg c, if_neg c2, if_pos c3]; exact Or.inl rfl
      · by_cases c4 : N = 0
        · rw [if_neg c, if_neg c2, if_neg c3, if_pos c4]; exact Or.inr rfl
        · rw [if_neg c, if_neg c2, if_neg c3, if_neg c4] at h; exact absurd rfl h
/-- the number of rows of a cranking, as up and how many -/
theorem crank_way {r : Int32} (h : ¬ inr r (-20) 20 = 0) (h0 : ¬ r = 0) : r = (if cUp r then nI (cW r) else -nI (cW r)) ∧ 1 ≤ cW r ∧ cW r ≤ 20 := by
  have h1 : ¬ r < -20 := fun c => h (by rw [inr, if_pos c])
  have h2 : ¬ 20 < r := fun c => h (by rw [inr, if_neg h1, if_pos c])
  rw [Int32.lt_iff_toInt_lt] at h1 h2
  have e1 : (-20 : Int32).toInt = -20 := by decide
  have e2 : (20 : Int32).toInt = 20 := by decide
  have key : ∀ k : Fin 41, k.1 ≠ 20 → (Int32.ofInt ((k.1 : Int) - 20)) = (if cUp (Int32.ofInt ((k.1 : Int) - 20)) then nI (cW (Int32.ofInt ((k.1 : Int) - 20))) else -nI (cW (Int32.ofInt ((k.1 : Int) - 20)))) ∧ 1 ≤ cW (Int32.ofInt ((k.1 : Int) - 20)) ∧ cW (Int32.ofInt ((k.1 : Int) - 20)) ≤ 20 := by decide +kernel
  have hk : (r.toInt + 20).toNat < 41 := by omega
  have e3 : Int32.ofInt ((((r.toInt + 20).toNat : Nat) : Int) - 20) = r := by
    rw [show ((((r.toInt + 20).toNat : Nat) : Int) - 20) = r.toInt by omega, Int32.ofInt_toInt]
  have h3 := key ⟨_, hk⟩ (fun e => h0 (by
    have e' : (r.toInt + 20).toNat = 20 := e
    rw [e'] at e3; rw [← e3]; decide))
  rw [e3] at h3
  exact h3
theorem xlt_of {i N : Int32} {n : Nat} (h0 : 0 ≤ i) (h1 : ¬ N ≤ i) (hN : N = nI n) (hn : n < 2 ^ 31) : ∃ k, k < n ∧ i = nI k := by
  subst hN
  rcases pk_ix i hn with h2 | h2 | h2
  · exact absurd h0 (Int32.not_le.mpr h2)
  · exact absurd h2 h1
  · exact h2
def aCrank (S : Nat → Int32) (r v : Int32) : Int32 := if mcr r v (S 0) = 0 then nI (rowAt (cA S) (cUp r) (cG S r)) else mcr r v (S 0)
def sCrank (S : Nat → Int32) (r v : Int32) : Nat → Int32 := if okCrank S r v = true then crFS S (cA S) (cUp r) v (cG S r) else S
def aWould (S : Nat → Int32) (r v w : Int32) : Int32 := if inr w 0 3 = 0 then -1000001 else if mcr r v (S 0) = 0 then (if w = 0 then nI (rowAt (cA S) (cUp r) (cG S r)) else if w = 1 then crT S (cA S) (cUp r) v (cG S r) else if w = 2 then nI (cG S r) else whyS (cN S) (cA S) (cUp r) (cW r) (cG S r)) else mcr r v (S 0)
def okType (ty c : Int32) : Bool := if inr c 32 126 = 0 then false else if ty = 60 then false else true
def aType (ty c : Int32) : Int32 := if inr c 32 126 = 0 then -1000001 else if ty = 60 then -1000003 else ty + 1
