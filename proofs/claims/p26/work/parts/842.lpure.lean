/-! pure rows: long numbers by their parts, packed letters -/
theorem l_toNat (X : Nat) (h : X < 2 ^ 64) : (Int64.ofNat X).toBitVec.toNat = X := Nat.mod_eq_of_lt h
theorem l_cnt : ∀ j, j < 64 → (((nI j).toInt64 &&& 63).toBitVec.smod 64).toNat = j := by decide +kernel
theorem l_ext {x y : Int64} (h : x.toBitVec.toNat = y.toBitVec.toNat) : x = y := Int64.toBitVec_inj.mp (BitVec.eq_of_toNat_eq h)
theorem l_shr {X j : Nat} (hX : X < 2 ^ 63) (hj : j < 64) : Int64.ofNat X >>> ((nI j).toInt64 &&& 63) = Int64.ofNat (X / 2 ^ j) := by
  have hq : X / 2 ^ j < 2 ^ 64 := Nat.lt_of_le_of_lt (Nat.div_le_self _ _) (by omega)
  apply l_ext
  rw [l_toNat _ hq, Int64.toBitVec_shiftRight]
  show ((Int64.ofNat X).toBitVec.sshiftRight (((nI j).toInt64 &&& 63).toBitVec.smod 64).toNat).toNat = _
  rw [l_cnt j hj, BitVec.sshiftRight_eq_of_msb_false, BitVec.toNat_ushiftRight, l_toNat X (by omega), Nat.shiftRight_eq_div_pow]
  rw [BitVec.msb_eq_false_iff_two_mul_lt, l_toNat X (by omega)]; omega
theorem l_shl {X j : Nat} (hX : X * 2 ^ j < 2 ^ 64) (hj : j < 64) : Int64.ofNat X <<< ((nI j).toInt64 &&& 63) = Int64.ofNat (X * 2 ^ j) := by
  have h1 : X < 2 ^ 64 := Nat.lt_of_le_of_lt (Nat.le_mul_of_pos_right _ (Nat.two_pow_pos j)) hX
  apply l_ext
  rw [l_toNat _ hX, Int64.toBitVec_shiftLeft]
  show ((Int64.ofNat X).toBitVec <<< (((nI j).toInt64 &&& 63).toBitVec.smod 64).toNat).toNat = _
  rw [l_cnt j hj, BitVec.toNat_shiftLeft, l_toNat X h1, Nat.shiftLeft_eq, Nat.mod_eq_of_lt hX]
theorem l_or {X Y : Nat} (hX : X < 2 ^ 64) (hY : Y < 2 ^ 64) : Int64.ofNat X ||| Int64.ofNat Y = Int64.ofNat (X ||| Y) := by
  apply l_ext
  rw [Int64.toBitVec_or, BitVec.toNat_or, l_toNat X hX, l_toNat Y hY, l_toNat _ (Nat.or_lt_two_pow hX hY)]
theorem l_and {X k : Nat} {m : Int64} (hX : X < 2 ^ 64) (hm : m.toBitVec.toNat = 2 ^ k - 1) : Int64.ofNat X &&& m = Int64.ofNat (X % 2 ^ k) := by
  apply l_ext
  rw [Int64.toBitVec_and, BitVec.toNat_and, l_toNat X hX, hm, Nat.and_two_pow_sub_one_eq_mod, l_toNat _ (Nat.lt_of_le_of_lt (Nat.mod_le _ _) hX)]
theorem l_2i {X : Nat} : (Int64.ofNat X).toInt32 = nI X := Int64.toInt32_ofNat'
theorem l_i2l {X : Nat} (hX : X < 2 ^ 31) : (nI X).toInt64 = Int64.ofNat X := nI_l hX
theorem l_eq {X Y : Nat} (hX : X < 2 ^ 63) (hY : Y < 2 ^ 63) : Int64.ofNat X = Int64.ofNat Y ↔ X = Y := pk_lEQ hX hY
theorem l_cmp0 {x y : Int64} : lg_cmp x y = 0 ↔ x = y := lg_cmp_eq x y
/-- a letter's digit, letters packed -/
def dg (c : Int32) : Nat := c.toNatClampNeg - 31
def pkN (f : Nat → Int32) : Nat → Nat
  | 0 => 0
  | m + 1 => pkN f m + dg (f m) * 64 ^ m
theorem pkN_congr {f g : Nat → Int32} : ∀ {m : Nat}, (∀ k, k < m → f k = g k) → pkN f m = pkN g m
  | 0, _ => rfl
  | m + 1, h => by rw [pkN, pkN, pkN_congr (fun k hk => h k (by omega)), h m (by omega)]
theorem pkN_lt {f : Nat → Int32} : ∀ {m : Nat}, (∀ k, k < m → dg (f k) < 64) → pkN f m < 64 ^ m
  | 0, _ => Nat.zero_lt_one
  | m + 1, h => by
    have h1 := pkN_lt (f := f) (m := m) (fun k hk => h k (by omega))
    have h2 : dg (f m) * 64 ^ m ≤ 63 * 64 ^ m := Nat.mul_le_mul_right _ (by have := h m (by omega); omega)
    rw [pkN, Nat.pow_succ]
    omega
theorem pkN_dig {f : Nat → Int32} : ∀ {m k : Nat}, (∀ k, k < m → dg (f k) < 64) → k < m → pkN f m / 64 ^ k % 64 = dg (f k)
  | 0, k, _, hk => by omega
  | m + 1, k, h, hk => by
    have h1 := pkN_lt (f := f) (m := m) (fun k hk => h k (by omega))
    rw [pkN]
    rcases Nat.lt_or_ge k m with hkm | hkm
    · obtain ⟨d, rfl⟩ : ∃ d, m = k + (d + 1) := ⟨m - k - 1, by omega⟩
      have e : dg (f (k + (d + 1))) * 64 ^ (k + (d + 1)) = 64 ^ k * (64 * (dg (f (k + (d + 1))) * 64 ^ d)) := by
        rw [Nat.pow_add, Nat.pow_succ]
        rw [Nat.mul_comm (64 ^ d) 64, ← Nat.mul_assoc, ← Nat.mul_assoc, ← Nat.mul_assoc, ← Nat.mul_assoc]
        congr 1
        rw [Nat.mul_assoc, Nat.mul_comm (dg _), Nat.mul_assoc]
        
      rw [e, Nat.add_mul_div_left _ _ (Nat.pow_pos (by decide)), Nat.add_mul_mod_self_left]
      exact pkN_dig (fun k hk => h k (by omega)) hkm
    · have hk2 : k = m := by omega
      subst hk2
      rw [Nat.add_mul_div_right _ _ (Nat.pow_pos (by decide)), Nat.div_eq_of_lt h1, Nat.zero_add, Nat.mod_eq_of_lt (h k (by omega))]
theorem pkN_inj {f g : Nat → Int32} {m : Nat} (hf : ∀ k, k < m → dg (f k) < 64) (hg : ∀ k, k < m → dg (g k) < 64) (e : pkN f m = pkN g m) : ∀ k, k < m → dg (f k) = dg (g k) := fun k hk => by
  rw [← pkN_dig hf hk, e, pkN_dig hg hk]
/-- a digit more -/
theorem pkN_or {f : Nat → Int32} {m : Nat} (h : ∀ k, k < m → dg (f k) < 64) : pkN f m ||| dg (f m) * 2 ^ (6 * m) = pkN f (m + 1) := by
  have h1 := pkN_lt h
  have e : (64 : Nat) ^ m = 2 ^ (6 * m) := by rw [Nat.pow_mul]
  rw [e] at h1
  rw [pkN, e, Nat.or_comm, Nat.mul_comm (dg (f m)) (2 ^ (6 * m)), ← Nat.two_pow_add_eq_or_of_lt h1, Nat.add_comm]
/-- letters that may stand in a name -/
def okL (c : Int32) : Prop := c = 32 ∨ (65 ≤ c ∧ c ≤ 90)
theorem okL_n {c : Int32} (h : okL c) : ∃ j, c = nI j ∧ (j = 32 ∨ (65 ≤ j ∧ j ≤ 90)) ∧ dg c = j - 31 := by
  rcases h with rfl | ⟨h1, h2⟩
  · exact ⟨32, rfl, Or.inl rfl, by decide⟩
  · obtain ⟨j, hj1, hj2, rfl⟩ := nI_btw (lo := 65) (hi := 90) h1 h2 (by decide) (by decide)
    exact ⟨j, rfl, Or.inr ⟨hj1, hj2⟩, by unfold dg; rw [nI_clamp (by omega)]⟩
theorem okL_dg {c : Int32} (h : okL c) : dg c < 64 := by
  obtain ⟨j, -, h1, h2⟩ := okL_n h
  rw [h2]; omega
theorem okL_inj {c d : Int32} (hc : okL c) (hd : okL d) (e : dg c = dg d) : c = d := by
  obtain ⟨j, rfl, h1, h2⟩ := okL_n hc
  obtain ⟨k, rfl, h3, h4⟩ := okL_n hd
  rw [h2, h4] at e
  rw [show j = k by omega]
theorem okL_bk {c : Int32} (h : okL c) : nI (dg c) + 31 = c := by
  obtain ⟨j, rfl, h1, h2⟩ := okL_n h
  rw [h2, show (31 : Int32) = nI 31 from rfl, nI_add, show j - 31 + 31 = j by omega]
theorem okL_dn {c : Int32} (h : okL c) : c - 31 = nI (dg c) := by
  obtain ⟨j, rfl, h1, h2⟩ := okL_n h
  rw [h2, show (31 : Int32) = nI 31 from rfl, pk_sub (by omega)]
/-- the two packed numbers of a name of L letters -/
def pkA (f : Nat → Int32) (L : Nat) : Nat := pkN f (if L ≤ 10 then L else 10)
def pkB (f : Nat → Int32) (L : Nat) : Nat := pkN (fun k => f (10 + k)) (L - 10)
def pkX (f : Nat → Int32) (L b : Nat) : Nat := if b = 0 then pkA f L else pkB f L
theorem pk60 {m : Nat} (h : m ≤ 10) : (64 : Nat) ^ m ≤ 2 ^ 60 := by
  have : ∀ m : Fin 11, (64 : Nat) ^ m.1 ≤ 2 ^ 60 := by decide
  exact this ⟨m, by omega⟩
theorem pkX_lt {f : Nat → Int32} {L b : Nat} (h : ∀ k, k < L → okL (f k)) (hL : L ≤ 14) : pkX f L b < 2 ^ 60 := by
  unfold pkX
  split
  · unfold pkA
    split
    · exact Nat.lt_of_lt_of_le (pkN_lt (fun k hk => okL_dg (h k hk))) (pk60 (by assumption))
    · exact Nat.lt_of_lt_of_le (pkN_lt (fun k hk => okL_dg (h k (by omega)))) (pk60 (Nat.le_refl 10))
  · unfold pkB
    exact Nat.lt_of_lt_of_le (pkN_lt (fun k hk => okL_dg (h _ (by omega)))) (pk60 (by omega))
/-- a letter out of the packed numbers -/
theorem pkX_dig {f : Nat → Int32} {L k : Nat} (h : ∀ k, k < L → okL (f k)) (hL : L ≤ 14) (hk : k < L) : pkX f L (k / 10) / 2 ^ (6 * (k % 10)) % 64 = dg (f k) := by
  have e : ∀ m : Nat, (2 : Nat) ^ (6 * m) = 64 ^ m := fun m => by rw [Nat.pow_mul]
  rw [e]
  unfold pkX
  split
  · rename_i h0
    rw [show k % 10 = k by omega]
    unfold pkA
    split
    · exact pkN_dig (fun k hk => okL_dg (h k hk)) hk
    · exact pkN_dig (fun k hk => okL_dg (h k (by omega))) (by omega)
  · rename_i h0
    unfold pkB
    have h1 := pkN_dig (f := fun k => f (10 + k)) (m := L - 10) (k := k % 10) (fun k hk => okL_dg (h _ (by omega))) (by omega)
    rw [h1]
    show dg (f (10 + k % 10)) = _
    rw [show 10 + k % 10 = k by omega]
theorem pkX_congr {f g : Nat → Int32} {L b : Nat} (h : ∀ k, k < L → f k = g k) : pkX f L b = pkX g L b := by
  unfold pkX pkA pkB
  split
  · exact pkN_congr (fun k hk => h k (by split at hk <;> omega))
  · exact pkN_congr (fun k hk => h _ (by omega))
theorem pkX_inj {f g : Nat → Int32} {L : Nat} (hf : ∀ k, k < L → okL (f k)) (hg : ∀ k, k < L → okL (g k)) (hL : L ≤ 14) (h0 : pkX f L 0 = pkX g L 0) (h1 : pkX f L 1 = pkX g L 1) : ∀ k, k < L → f k = g k := fun k hk => by
  refine okL_inj (hf k hk) (hg k hk) ?_
  have e : pkX f L (k / 10) = pkX g L (k / 10) := by
    have : k / 10 = 0 ∨ k / 10 = 1 := by omega
    rcases this with w | w
    · rw [w]; exact h0
    · rw [w]; exact h1
  rw [← pkX_dig hf hL hk, e, pkX_dig hg hL hk]
/-- the packed numbers, letter by letter -/
theorem pkX_0 {f : Nat → Int32} {b : Nat} : pkX f 0 b = 0 := by
  unfold pkX pkA pkB
  split <;> rfl
theorem pkX_step {f : Nat → Int32} {k b : Nat} (h : ∀ j, j ≤ k → okL (f j)) (hk : k < 14) (hb : b < 2) : pkX f (k + 1) b = if b = k / 10 then pkX f k b ||| dg (f k) * 2 ^ (6 * (k % 10)) else pkX f k b := by
  have hc : b = 0 ∨ b = 1 := by omega
  rcases Nat.lt_or_ge k 10 with h10 | h10
  · rcases hc with rfl | rfl
    · rw [if_pos (by omega)]
      unfold pkX pkA
      rw [if_pos rfl, if_pos rfl, if_pos (by omega), if_pos (by omega), show k % 10 = k by omega, pkN_or (fun j hj => okL_dg (h j (by omega)))]
    · rw [if_neg (by omega)]
      unfold pkX pkB
      rw [if_neg (by decide), if_neg (by decide), show k + 1 - 10 = 0 by omega, show k - 10 = 0 by omega]
  · rcases hc with rfl | rfl
    · rw [if_neg (by omega)]
      unfold pkX pkA
      rw [if_pos rfl, if_pos rfl, if_neg (by omega)]
      by_cases e : k = 10
      · subst e; rfl
      · rw [if_neg (by omega)]
    · rw [if_pos (by omega)]
      unfold pkX pkB
      rw [if_neg (by decide), if_neg (by decide), show k + 1 - 10 = (k - 10) + 1 by omega, show k % 10 = k - 10 by omega]
      have z := pkN_or (f := fun j => f (10 + j)) (m := k - 10) (fun j hj => okL_dg (h (10 + j) (by omega)))
      simp only [show 10 + (k - 10) = k by omega] at z
      exact z.symm
