theorem vfd {r : UInt32} (h : decide (r &&& 0x7fffffff ≤ 0x7f800000) = true) : vf_n32 r := by
  have h1 : r &&& 0x7fffffff ≤ 0x7f800000 := of_decide_eq_true h
  exact h1
theorem mnQ_d {q : UInt32} (h : mnQ q = true) : vf_n32 q ∧ Op.cmpValue (FP.fcmp q q) .l = 0 ∧ fbOk 12 q 127 q.toInt32 = true := by
  rw [mnQ, Bool.and_eq_true, Bool.and_eq_true] at h
  exact ⟨vfd h.1, of_decide_eq_true h.2.1, h.2.2⟩
theorem mnZ : vf_n32 (FP.fdiv (FP.i2f 0) (FP.i2f 1)) := by
  have h : decide (FP.fdiv (FP.i2f 0) (FP.i2f 1) &&& 0x7fffffff ≤ 0x7f800000) = true := by decide +kernel
  exact vfd h
/-- the mean width's bits -/
def aMean (S : Nat → Int32) : Int32 := if S 0 = 0 then -1000004 else (FP.fdiv (FP.i2f (msum (sWid S) (cN S))) (FP.i2f (S 0))).toInt32
theorem msum_cases {S : Nat → Int32} {n q : Nat} (hi : invN S n q) : ∀ k, k ≤ n → ∃ s, k ≤ s ∧ s ≤ 42 * k ∧ msum (sWid S) k = nI s
  | 0, _ => ⟨0, by omega, by omega, rfl⟩
  | k + 1, h => by
    obtain ⟨s, h1, h2, h3⟩ := msum_cases hi k (by omega)
    obtain ⟨L, l1, l2, l3, -, -⟩ := hi.2.2.2.2.2.2.2.2.2 k (by omega)
    obtain ⟨w, w1, w2, w3⟩ := wsum_cases (sLet S k) L
    refine ⟨s + w, by omega, by omega, ?_⟩
    rw [msum, h3, sWid, sLen_of l3 (by omega), w3, nI_add]
