/-- what is told of the object is told by its cells alone -/
theorem oR_far {I J : xI} {P : xP} {h n q st t : Nat} {S tx : Nat → Int32} {H : Nat → Nat → Int32} (hp : oP P h) (hi : invN S n q) (hr : oR I P h S n q st H t tx) (hJ : ∀ c, h ≤ c → c < h + 254 → J c = I c) : oR J P h S n q st H t tx := by
  obtain ⟨p0, p1, p2, p3, p4, p5, p, hpp, hinj⟩ := hp
  obtain ⟨r1, r2, r3, r4, r5⟩ := hr
  refine ⟨bR_cong p4 hi.1 hi.2.2.1 r1 (fun c k1 k2 => hJ c (by omega) (by omega)) (fun c _ _ => rfl), by rw [hJ h (by omega) (by omega)]; exact r2, fun k hk => ?_, by rw [hJ _ (by omega) (by omega)]; exact r4, by rw [hJ _ (by omega) (by omega)]; exact r5⟩
  obtain ⟨n1, q1, h1, h2⟩ := r3 k hk
  obtain ⟨g1, g2⟩ := hpp k (by omega)
  refine ⟨n1, q1, h1, ?_⟩
  rw [g2] at h2 ⊢
  exact bR_cong (p5 _ g1) h1.1 h1.2.2.1 h2 (fun c k1 k2 => hJ c (by omega) (by omega)) (fun c _ _ => rfl)
theorem oS_far {μ μ' : xM} {h : Nat} (hs : oS μ h) (hc : ∀ c, h ≤ c → c < h + 254 → μ'.2.1 c = μ.2.1 c ∧ μ'.2.2 c = μ.2.2 c) : oS μ' h := by
  obtain ⟨s1, s2, s3, s4, s5⟩ := hs
  exact ⟨by rw [(hc _ (by omega) (by omega)).1]; exact s1, ⟨by rw [(hc _ (by omega) (by omega)).1]; exact s2.1, by rw [(hc _ (by omega) (by omega)).2]; exact s2.2⟩, bS_cong s3 (fun c h1 h2 => hc c (by omega) (by omega)), ⟨by rw [(hc _ (by omega) (by omega)).1]; exact s4.1, by rw [(hc _ (by omega) (by omega)).2]; exact s4.2⟩, fun i hi => bS_cong (s5 i hi) (fun c h1 h2 => hc c (by omega) (by omega))⟩
theorem oP_far {P Q : xP} {h : Nat} (hp : oP P h) (hc : ∀ c, h ≤ c → c < h + 254 → Q c = P c) : oP Q h := by
  obtain ⟨p0, p1, p2, p3, p4, p5, p, hpp, hinj⟩ := hp
  exact ⟨by rw [hc _ (by omega) (by omega)]; exact p0, by rw [hc _ (by omega) (by omega)]; exact p1, by rw [hc _ (by omega) (by omega)]; exact p2, by rw [hc _ (by omega) (by omega)]; exact p3, bP_cong p4 (fun c h1 h2 => hc c (by omega) (by omega)), fun i hi => bP_cong (p5 i hi) (fun c h1 h2 => hc c (by omega) (by omega)), p, fun i hi => by rw [hc _ (by omega) (by omega)]; exact hpp i hi, hinj⟩
theorem oR_farP {I : xI} {P Q : xP} {h n q st t : Nat} {S tx : Nat → Int32} {H : Nat → Nat → Int32} (hp : oP P h) (hi : invN S n q) (hr : oR I P h S n q st H t tx) (hc : ∀ c, h ≤ c → c < h + 254 → Q c = P c) : oR I Q h S n q st H t tx := by
  obtain ⟨p0, p1, p2, p3, p4, p5, p, hpp, hinj⟩ := hp
  obtain ⟨r1, r2, r3, r4, r5⟩ := hr
  refine ⟨bR_cong p4 hi.1 hi.2.2.1 r1 (fun c _ _ => rfl) (fun c k1 k2 => hc c (by omega) (by omega)), r2, fun k hk => ?_, r4, r5⟩
  obtain ⟨n1, q1, h1, h2⟩ := r3 k hk
  obtain ⟨g1, g2⟩ := hpp k (by omega)
  refine ⟨n1, q1, h1, ?_⟩
  rw [hc _ (by omega) (by omega)]
  rw [g2] at h2 ⊢
  exact bR_cong (p5 _ g1) h1.1 h1.2.2.1 h2 (fun c _ _ => rfl) (fun c k1 k2 => hc c (by omega) (by omega))

/-! the law's world -/
def sumF (f : Nat → Nat) : Nat → Nat
  | 0 => 0
  | k + 1 => sumF f k + f k
/-- stops and right stops, sets of rows: what the law's own counts keep -/
def lC (S : Nat → Int32) (n q c : Nat) : Prop := ∃ (s0 s1 : Nat) (X f g : Nat → Nat), S 6 = nI s0 ∧ S 7 = nI s1 ∧ s1 ≤ s0 ∧ s0 ≤ c ∧ sumF f q ≤ s0 ∧ ∀ j, j < q → S (351 + 3 * j) = nI (X j) ∧ X j < 2 ^ n ∧ S (352 + 3 * j) = nI (f j) ∧ S (353 + 3 * j) = nI (g j) ∧ g j ≤ f j
def lV (I : xI) (P : xP) (S : Nat → Int32) (n q c : Nat) : Prop := oP P 1 ∧ (∃ (st : Nat) (H : Nat → Nat → Int32) (tx : Nat → Int32), oR I P 1 S n q st H 0 tx) ∧ invN S n q ∧ lA I P S n q ∧ lC S n q c
theorem lA_cong {I J : xI} {P Q : xP} {S : Nat → Int32} {n q : Nat} (h : lA I P S n q) (hc : ∀ c, 255 ≤ c → c ≤ 260 → J c = I c) (hQ : Q 259 = P 259) : lA J Q S n q := by
  obtain ⟨h1, h2, h3⟩ := h
  refine ⟨fun k hk => by rw [hc 255 (by decide) (by decide)]; exact h1 k hk, fun i hi => ?_, fun j hj t ht => by rw [hc 260 (by decide) (by decide)]; exact h3 j hj t ht⟩
  rw [hc 256 (by decide) (by decide), hc 257 (by decide) (by decide), hc 258 (by decide) (by decide), hQ]
  exact h2 i hi
/-- the class' cells are no cells of the law's -/
theorem oR_law {I J : xI} {P Q : xP} {n q st t : Nat} {S tx : Nat → Int32} {H : Nat → Nat → Int32} (hp : oP P 1) (hi : invN S n q) (hr : oR I P 1 S n q st H t tx) (hJ : ∀ c, c < 255 → J c = I c) (hQ : ∀ c, c < 255 → Q c = P c) : oP Q 1 ∧ oR J Q 1 S n q st H t tx := by
  have hp2 := oP_far hp (fun c h1 h2 => hQ c (by omega))
  exact ⟨hp2, oR_far hp2 hi (oR_farP hp hi hr (fun c h1 h2 => hQ c (by omega))) (fun c h1 h2 => hJ c (by omega))⟩
/-- the counts behind a change that leaves stops and routes alone -/
theorem lC_keep {S S' : Nat → Int32} {n n' q c : Nat} (h : lC S n q c) (h6 : S' 6 = S 6) (h7 : S' 7 = S 7) (hf : ∀ i, 351 ≤ i → S' i = S i) (hn : n ≤ n') : lC S' n' q (c + 1) := by
  obtain ⟨s0, s1, X, f, g, a1, a2, a3, a4, a5, a6⟩ := h
  refine ⟨s0, s1, X, f, g, by rw [h6]; exact a1, by rw [h7]; exact a2, a3, by omega, a5, fun j hj => ?_⟩
  obtain ⟨b1, b2, b3, b4, b5⟩ := a6 j hj
  exact ⟨by rw [hf _ (by omega)]; exact b1, Nat.lt_of_lt_of_le b2 (Nat.pow_le_pow_right (by decide) hn), by rw [hf _ (by omega)]; exact b3, by rw [hf _ (by omega)]; exact b4, b5⟩
theorem sumF_le {f : Nat → Nat} : ∀ {q d : Nat}, d < q → f d ≤ sumF f q
  | 0, _, h => by omega
  | q + 1, d, h => by
    rw [sumF]
    rcases Nat.lt_or_ge d q with w | w
    · have := sumF_le (f := f) w; omega
    · rw [show d = q by omega]; omega
theorem sumF_congr {f g : Nat → Nat} : ∀ {q : Nat}, (∀ j, j < q → f j = g j) → sumF f q = sumF g q
  | 0, _ => rfl
  | q + 1, h => by rw [sumF, sumF, sumF_congr (fun j hj => h j (by omega)), h q (by omega)]
theorem sumF_inc {f : Nat → Nat} : ∀ {q d : Nat}, d < q → sumF (fun j => if j = d then f j + 1 else f j) q = sumF f q + 1
  | 0, _, h => by omega
  | q + 1, d, h => by
    rw [sumF, sumF]
    rcases Nat.lt_or_ge d q with w | w
    · rw [sumF_inc w, if_neg (by omega)]; omega
    · have e : d = q := by omega
      subst e
      rw [if_pos rfl, sumF_congr (g := f) (fun j hj => if_neg (by omega))]; omega
/-- bits of whole numbers -/
def bt (x : Int32) (i : Nat) : Bool := x.toBitVec.getLsbD i
theorem b_ext {x y : Int32} (h : ∀ i, i < 32 → bt x i = bt y i) : x = y := Int32.toBitVec_inj.mp (BitVec.eq_of_getLsbD_eq (fun i hi => h i hi))
theorem b_or (x y : Int32) (i : Nat) : bt (x ||| y) i = (bt x i || bt y i) := by unfold bt; rw [Int32.toBitVec_or, BitVec.getLsbD_or]
theorem b_and (x y : Int32) (i : Nat) : bt (x &&& y) i = (bt x i && bt y i) := by unfold bt; rw [Int32.toBitVec_and, BitVec.getLsbD_and]
theorem b_xor (x y : Int32) (i : Nat) : bt (x ^^^ y) i = (bt x i ^^ bt y i) := by unfold bt; rw [Int32.toBitVec_xor, BitVec.getLsbD_xor]
theorem b_big {x : Int32} {i : Nat} (h : 32 ≤ i) : bt x i = false := BitVec.getLsbD_of_ge _ _ h
theorem b_255 (i : Nat) : bt 255 i = decide (i < 8) := by
  rcases Nat.lt_or_ge i 32 with h | h
  · exact (by decide +kernel : ∀ i, i < 32 → bt 255 i = decide (i < 8)) i h
  · rw [b_big h, decide_eq_false (by omega)]
theorem b_65535 (i : Nat) : bt 65535 i = decide (i < 16) := by
  rcases Nat.lt_or_ge i 32 with h | h
  · exact (by decide +kernel : ∀ i, i < 32 → bt 65535 i = decide (i < 16)) i h
  · rw [b_big h, decide_eq_false (by omega)]
theorem b_m1 : ∀ i, i < 32 → bt (-1) i = true := by decide +kernel
theorem b_0 (i : Nat) : bt 0 i = false := BitVec.getLsbD_zero
theorem s_l : ∀ n, n < 32 → ((nI n &&& 31).toBitVec.smod 32).toNat = n := by decide +kernel
theorem s_u : ∀ n, n < 32 → (((nI n).toUInt32 &&& Int32.toUInt32 31).toBitVec % 32).toNat = n := by decide +kernel
theorem b_shl (n : Nat) (hn : n < 32) (x : Int32) {i : Nat} (hi : i < 32) : bt (x <<< (nI n &&& 31)) i = (decide (n ≤ i) && bt x (i - n)) := by
  unfold bt
  rw [Int32.toBitVec_shiftLeft]
  show (x.toBitVec <<< ((nI n &&& 31).toBitVec.smod 32).toNat).getLsbD i = _
  rw [s_l n hn, BitVec.getLsbD_shiftLeft]
  rcases Nat.lt_or_ge i n with h | h
  · simp [h, Nat.not_le.mpr h]
  · simp [hi, h, Nat.not_lt.mpr h]
theorem b_ushr (n : Nat) (hn : n < 32) (x : Int32) (i : Nat) : bt ((x.toUInt32 >>> ((nI n).toUInt32 &&& Int32.toUInt32 31)).toInt32) i = bt x (n + i) := by
  show (x.toUInt32 >>> ((nI n).toUInt32 &&& Int32.toUInt32 31)).toBitVec.getLsbD i = x.toUInt32.toBitVec.getLsbD (n + i)
  rw [UInt32.toBitVec_shiftRight]
  show (x.toUInt32.toBitVec >>> (((nI n).toUInt32 &&& Int32.toUInt32 31).toBitVec % 32).toNat).getLsbD i = _
  rw [s_u n hn, BitVec.getLsbD_ushiftRight]
theorem b_sshr (n : Nat) (hn : n < 32) (x : Int32) {i : Nat} (hi : i < 32) : bt (x >>> (nI n &&& 31)) i = if n + i < 32 then bt x (n + i) else bt x 31 := by
  unfold bt
  rw [Int32.toBitVec_shiftRight]
  show (x.toBitVec.sshiftRight ((nI n &&& 31).toBitVec.smod 32).toNat).getLsbD i = _
  rw [s_l n hn, BitVec.getLsbD_sshiftRight, BitVec.msb_eq_getLsbD_last]
  simp [hi]
theorem nx_xor (a b : Nat) : nI a ^^^ nI b = nI (a ^^^ b) := by
  apply Int32.toBitVec_inj.1
  show BitVec.ofNat 32 a ^^^ BitVec.ofNat 32 b = BitVec.ofNat 32 (a ^^^ b)
  apply BitVec.eq_of_getLsbD_eq
  intro i hi
  simp [hi]
theorem nx_or (a b : Nat) : nI a ||| nI b = nI (a ||| b) := by
  apply Int32.toBitVec_inj.1
  show BitVec.ofNat 32 a ||| BitVec.ofNat 32 b = BitVec.ofNat 32 (a ||| b)
  apply BitVec.eq_of_getLsbD_eq
  intro i hi
  simp [hi]
