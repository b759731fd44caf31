/-! cranking in the class -/
theorem wd_le {w : Nat} {up : Bool} {wd : Int32} (hw : wd = if up then nI w else -nI w) (h1 : 1 ≤ w) (h20 : w ≤ 20) : wd ≤ 0 ↔ up = false := by
  subst hw
  have key : ∀ k : Fin 21, 1 ≤ k.1 → ¬ nI k.1 ≤ 0 ∧ -nI k.1 ≤ 0 := by decide
  obtain ⟨h2, h3⟩ := key ⟨w, by omega⟩ h1
  cases up
  · simpa using h3
  · simpa using h2
theorem wd_abs {w : Nat} {up : Bool} {wd : Int32} (hw : wd = if up then nI w else -nI w) (h1 : 1 ≤ w) (h20 : w ≤ 20) : (if 0 ≤ wd then wd else 0 - wd) = nI w := by
  subst hw
  have key : ∀ k : Fin 21, 1 ≤ k.1 → (if 0 ≤ nI k.1 then nI k.1 else 0 - nI k.1) = nI k.1 ∧ (if 0 ≤ -nI k.1 then -nI k.1 else 0 - -nI k.1) = nI k.1 := by decide
  obtain ⟨h2, h3⟩ := key ⟨w, by omega⟩ h1
  cases up
  · exact h3
  · exact h2
theorem rowC {w a k : Nat} {up : Bool} {wd : Int32} (hw : wd = if up then nI w else -nI w) (h1 : 1 ≤ w) (h20 : w ≤ 20) (hd : up = true ∨ k ≤ a) : (if wd ≤ 0 then nI a - nI k else nI a + nI k) = nI (rowAt a up k) := by
  unfold rowAt
  cases up
  · rw [if_pos ((wd_le hw h1 h20).mpr rfl), if_neg (by decide), pk_sub (hd.resolve_left (by decide))]
  · rw [if_neg (fun q => by have := (wd_le hw h1 h20).mp q; cases this), if_pos rfl, nI_add]
theorem endC {w r n : Nat} {up : Bool} {wd : Int32} (hw : wd = if up then nI w else -nI w) (h1 : 1 ≤ w) (h20 : w ≤ 20) (hr : r < n) (hn : n ≤ 20) : (if wd ≤ 0 then (if 0 < nI r then 0 else 1) else if nI r < nI n - 1 then 0 else 1) = bI (isEndS n up r) := by
  unfold isEndS
  cases up
  · rw [if_pos ((wd_le hw h1 h20).mpr rfl)]
    by_cases h : r = 0
    · subst h; rfl
    · rw [if_pos (show (0 : Int32) < nI r from nI_lt (a := 0) (by omega) (by omega))]; simp [h, bI]
  · rw [if_neg (fun q => by have := (wd_le hw h1 h20).mp q; cases this), show nI n - 1 = nI (n - 1) from by rw [show n = (n - 1) + 1 by omega]; exact nI_pred _]
    by_cases h : n ≤ r + 1
    · rw [if_neg (nI_nlt (by omega) (by omega))]; simp [h, bI]
    · rw [if_pos (nI_lt (by omega) (by omega))]; simp [h, bI]
theorem absd {k a : Nat} (hk : k < 21) (ha : a < 21) : (if 0 ≤ nI k - nI a then nI k - nI a else 0 - (nI k - nI a)) = nI (dst a k) := by
  have key : ∀ k a : Fin 21, (if 0 ≤ nI k.1 - nI a.1 then nI k.1 - nI a.1 else 0 - (nI k.1 - nI a.1)) = nI (dst a.1 k.1) := by decide +kernel
  exact key ⟨k, hk⟩ ⟨a, ha⟩
theorem skC {v : Int32} {g : Nat} (hg : g < 2 ^ 31) : (if v = 3 then (if nI g - nI g / 2 * 2 = 1 then 1 else 0) else 0) = bI (decide (v = 3 ∧ g % 2 = 1)) := by
  rw [show nI g - nI g / 2 * 2 = nI (g % 2) from pk_rem hg (by decide) (by decide)]
  have e : nI (g % 2) = 1 ↔ g % 2 = 1 := nI_eq (b := 1) (by omega) (by decide)
  simp only [e]
  by_cases h1 : v = 3
  · by_cases h2 : g % 2 = 1 <;> simp [h1, h2, bI]
  · simp [h1, bI]
theorem go_row {S : Nat → Int32} {n a k : Nat} {up : Bool} (ha : a < n) (h : ∀ i, i < k → stopS S n a up i = false) : rowAt a up k < n ∧ (up = true ∨ k ≤ a) := by
  have e : stepsS S n a up k = k := srch_at k 0 k (by omega) (by omega) (fun i _ hi => h i hi) (Or.inl (by omega))
  exact steps_row (S := S) (w := k) ha k (by omega)
theorem nrC_lt {S : Nat → Int32} {a : Nat} : ∀ {k c : Nat}, nrC S a k = some c → c < k
  | 0, c, h => by cases h
  | k + 1, c, h => by
    rw [nrC] at h
    by_cases hc : nrB a k (nrC S a k) = true ∧ sWrong S k = 0
    · rw [if_pos hc] at h; cases h; omega
    · rw [if_neg hc] at h; have := nrC_lt h; omega
theorem oI_neg {o : Option Nat} (ho : ∀ c, o = some c → c < 2 ^ 31) : oI o = -1 ↔ o = none := by
  cases o with
  | none => simp [oI]
  | some c =>
    simp only [oI, reduceCtorEq, iff_false]
    intro h
    have := nI_pos (ho c rfl)
    rw [h] at this
    exact this (by decide)
/-- whether a row is torn when it is left as the g-th one at speed v -/
def tearC (I : xI) (P : xP) (b r : Nat) (v : Int32) (g : Nat) : Int32 := if v = 3 ∧ g % 2 = 1 then 0 else if I r 3 = 0 then (if I r 2 + v ≤ I (P b 6) 1 then 0 else 1) else 0
theorem tearC_01 (I : xI) (P : xP) (b r : Nat) (v : Int32) (g : Nat) : tearC I P b r v g = 0 ∨ tearC I P b r v g = 1 := by
  unfold tearC
  split
  · exact Or.inl rfl
  · split
    · split
      · exact Or.inl rfl
      · exact Or.inr rfl
    · exact Or.inl rfl
theorem tearC_S {I : xI} {P : xP} {b r i : Nat} {S : Nat → Int32} {v : Int32} {g : Nat} (h2 : I r 2 = S (12 + 17 * i)) (h3 : I r 3 = S (13 + 17 * i)) (h01 : S (13 + 17 * i) = 0 ∨ S (13 + 17 * i) = 1) (h6 : I (P b 6) 1 = S 9) : tearC I P b r v g = if v = 3 ∧ g % 2 = 1 then 0 else tear1 S i v := by
  unfold tearC tear1 wear1
  rw [h2, h3, h6]
  rcases h01 with e | e <;> simp [e]
theorem tear_k {S : Nat → Int32} {a k : Nat} {up : Bool} {v : Int32} (hd : up = true ∨ k ≤ a) : tear1 (crS S a up v k) (rowAt a up k) v = tear1 S (rowAt a up k) v := by
  unfold tear1 wear1
  rw [crS_row hd (by omega) (by omega), crS_row hd (by omega) (by omega), crS_small (by decide) (by decide)]
/-- a row that is left -/
def lvC (P : xP) (b r : Nat) (v : Int32) (g : Nat) (J : xI) : xI := if v = 3 ∧ g % 2 = 1 then J else xu (xu (xu J r 3 (if tearC J P b r v g = 1 then 1 else J r 3)) b 7 (J b 7 + tearC J P b r v g)) r 2 (J r 2 + v)
def rlI (I : xI) (P : xP) (b a : Nat) (up : Bool) (v : Int32) : Nat → xI
  | 0 => I
  | k + 1 => lvC P b (P (P b 0) (rowAt a up k)) v k (rlI I P b a up v k)
