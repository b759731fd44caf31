theorem nI_zero {n : Nat} (h : n < 2 ^ 32) (e : nI n = 0) : n = 0 := by
  have := congrArg (fun x : Int32 => x.toBitVec.toNat) e
  simp only [pk_tn h] at this
  exact this
theorem ones_n {n : Nat} (h : n < 2 ^ 32) : ones (nI n) = nI (pcn 32 n) := by rw [ones, pk_tn h]
def aRouteOf (S : Nat → Int32) (r w : Int32) : Int32 := if isR r (S 2) = 0 then -1000001 else if inr w 0 4 = 0 then -1000001 else if w = 0 then S (351 + 3 * r.toNatClampNeg) else if w = 1 then ones (S (351 + 3 * r.toNatClampNeg)) else if w = 2 then S (351 + 3 * r.toNatClampNeg) &&& tset (fun i => S (13 + 17 * i)) (cN S) else S (349 + 3 * r.toNatClampNeg + w.toNatClampNeg)
theorem inr_04 {w : Int32} (h : ¬ inr w 0 4 = 0) (h0 : ¬ w = 0) (h1 : ¬ w = 1) (h2 : ¬ w = 2) : w = 3 ∨ w = 4 := by
  have h3 : ¬ w < 0 := fun c => h (by rw [inr, if_pos c])
  have h4 : ¬ 4 < w := fun c => h (by rw [inr, if_neg h3, if_pos c])
  obtain ⟨k, hk1, hk2, rfl⟩ := nI_btw (lo := 0) (hi := 4) (Int32.not_lt.mp h3) (Int32.not_lt.mp h4) (by decide) (by decide)
  have hc : k = 0 ∨ k = 1 ∨ k = 2 ∨ k = 3 ∨ k = 4 := by omega
  rcases hc with rfl | rfl | rfl | rfl | rfl
  · exact absurd rfl h0
  · exact absurd rfl h1
  · exact absurd rfl h2
  · exact Or.inl rfl
  · exact Or.inr rfl
