/-! copying: one array onto another, the model's history -/
theorem xcp_0 {I : xI} {a b : Nat} : xcp I a b 0 = I := by funext c j; simp [xcp]
theorem xcp_succ {I : xI} {a b k : Nat} (h : a ≠ b) : xu (xcp I a b k) b k (xcp I a b k a k) = xcp I a b (k + 1) := by
  funext c j
  by_cases hc : c = b
  · subst hc
    by_cases hj : j = k
    · subst hj; simp [xu, xcp, h]
    · by_cases h1 : j < k
      · have : j < k + 1 := by omega
        simp [xu, xcp, hj, h1, this]
      · have : ¬ j < k + 1 := by omega
        simp [xu, xcp, hj, h1, this]
  · simp [xu, xcp, hc]
/-- the model's past after its first k cells have been moved up by one state -/
def xshf (pa k : Nat) (I : xI) : xI := fun a j => if a = pa ∧ j < k then I pa (j + 369) else I a j
theorem xshf_0 {pa : Nat} {I : xI} : xshf pa 0 I = I := by funext a j; simp [xshf]
theorem xshf_succ {pa k : Nat} {I : xI} : xu (xshf pa k I) pa k (xshf pa k I pa (k + 369)) = xshf pa (k + 1) I := by
  funext a j
  have e : ¬ k + 369 < k := by omega
  by_cases ha : a = pa
  · subst ha
    by_cases hj : j = k
    · subst hj; simp [xu, xshf]; intro w; omega
    · by_cases h1 : j < k
      · have : j < k + 1 := by omega
        simp [xu, xshf, hj, h1, this]
      · have : ¬ j < k + 1 := by omega
        simp [xu, xshf, hj, h1, this]
  · simp [xu, xshf, ha]
/-- the model's past after the first k cells of the present state have been put at the place q -/
def xput (sa pa q k : Nat) (I : xI) : xI := fun a j => if a = pa ∧ q ≤ j ∧ j < q + k then I sa (j - q) else I a j
theorem xput_0 {sa pa q : Nat} {I : xI} : xput sa pa q 0 I = I := by
  funext a j
  have : ¬ (q ≤ j ∧ j < q + 0) := by omega
  simp only [xput]
  rw [if_neg (fun z => this z.2)]
theorem xput_succ {sa pa q k : Nat} {I : xI} (h : sa ≠ pa) : xu (xput sa pa q k I) pa (q + k) (xput sa pa q k I sa k) = xput sa pa q (k + 1) I := by
  funext a j
  have e0 : xput sa pa q k I sa k = I sa k := by simp [xput, h]
  rw [e0]
  by_cases ha : a = pa
  · subst ha
    by_cases hj : j = q + k
    · subst hj
      have e1 : q + k - q = k := by omega
      simp [xu, xput, e1]
    · by_cases h1 : q ≤ j ∧ j < q + k
      · have h2 : j < q + (k + 1) := by omega
        simp [xu, xput, hj, h1, h2]
      · have h2 : ¬ (q ≤ j ∧ j < q + (k + 1)) := by omega
        simp only [xu, xput]
        rw [if_neg (fun z => hj z.2), if_neg (fun z => h1 z.2), if_neg (fun z => h2 z.2)]
  · simp [xu, xput, ha]
def xph (h : Nat) : Nat := if h = 4 then 3 else h
/-- a change of the model is recorded -/
def xchg (m sa pa h : Nat) (I : xI) : xI := xu (xput sa pa (369 * xph h) 369 (if h = 4 then xu (xshf pa 1107 I) m 3 (nI 3) else I)) m 3 (nI (xph h + 1))
theorem xchg_s {m sa pa h : Nat} {I : xI} (h1 : sa ≠ pa) (h2 : sa ≠ m) : xchg m sa pa h I sa = I sa := by
  funext j
  by_cases e : h = 4 <;> simp [xchg, xu, xput, xshf, h1, h2, e]
theorem xchg_o {m sa pa h a : Nat} {I : xI} (h1 : a ≠ pa) (h2 : a ≠ m) : xchg m sa pa h I a = I a := by
  funext j
  by_cases e : h = 4 <;> simp [xchg, xu, xput, xshf, h1, h2, e]
theorem xchg_m {m sa pa h j : Nat} {I : xI} (h1 : m ≠ pa) (h2 : j ≠ 3) : xchg m sa pa h I m j = I m j := by
  by_cases e : h = 4 <;> simp [xchg, xu, xput, xshf, h1, h2, e]
theorem xchg_h {m sa pa h : Nat} {I : xI} : xchg m sa pa h I m 3 = nI (xph h + 1) := by simp [xchg, xu]
theorem xph_le {h : Nat} (hh : h ≤ 4) : xph h + 1 ≤ 4 := by unfold xph; split <;> omega
/-- the first k cells of the model's state are brought back from the place q of its past -/
def xres (sa pa q k : Nat) (I : xI) : xI := fun b j => if b = sa ∧ j < k then I pa (q + j) else I b j
theorem xres_0 {sa pa q : Nat} {I : xI} : xres sa pa q 0 I = I := by funext b j; simp [xres]
theorem xres_succ {sa pa q k : Nat} {I : xI} (h : pa ≠ sa) : xu (xres sa pa q k I) sa k (xres sa pa q k I pa (q + k)) = xres sa pa q (k + 1) I := by
  funext b j
  by_cases hb : b = sa
  · subst hb
    by_cases hj : j = k
    · subst hj; simp [xu, xres, h]
    · by_cases h1 : j < k
      · have : j < k + 1 := by omega
        simp [xu, xres, hj, h1, this]
      · have : ¬ j < k + 1 := by omega
        simp [xu, xres, hj, h1, this]
  · simp [xu, xres, hb]
theorem xres_o {sa pa q k b : Nat} {I : xI} (h : b ≠ sa) : xres sa pa q k I b = I b := by funext j; simp [xres, h]
