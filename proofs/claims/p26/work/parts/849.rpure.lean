/-! sets of rows behind a cut and a change about: the law's sums are the class' bits -/
theorem xor_2 (a b r s : Nat) (hr : r < 2) (hs : s < 2) : (2 * a + r) ^^^ (2 * b + s) = 2 * (a ^^^ b) + (r ^^^ s) := by
  have h4 : (r ^^^ s) < 2 := by
    have : ∀ r s : Fin 2, (r.1 ^^^ s.1) < 2 := by decide
    exact this ⟨r, hr⟩ ⟨s, hs⟩
  apply Nat.eq_of_testBit_eq; intro i
  cases i with
  | zero =>
    rw [Nat.testBit_xor, Nat.testBit_zero, Nat.testBit_zero, Nat.testBit_zero, show (2 * a + r) % 2 = r by omega, show (2 * b + s) % 2 = s by omega, show (2 * (a ^^^ b) + (r ^^^ s)) % 2 = (r ^^^ s) by omega]
    have : ∀ r s : Fin 2, ((decide (r.1 = 1)) ^^ (decide (s.1 = 1))) = decide ((r.1 ^^^ s.1) = 1) := by decide
    exact this ⟨r, hr⟩ ⟨s, hs⟩
  | succ i =>
    rw [Nat.testBit_xor, Nat.testBit_succ, Nat.testBit_succ, Nat.testBit_succ, show (2 * a + r) / 2 = a by omega, show (2 * b + s) / 2 = b by omega, show (2 * (a ^^^ b) + (r ^^^ s)) / 2 = a ^^^ b by omega, Nat.testBit_xor]
/-- one bit turned -/
theorem xflip : ∀ (a X : Nat), X ^^^ 2 ^ a = if X / 2 ^ a % 2 = 1 then X - 2 ^ a else X + 2 ^ a
  | 0, X => by
    have h := xor_2 (X / 2) 0 (X % 2) 1 (Nat.mod_lt _ (by decide)) (by decide)
    rw [Nat.xor_zero, show 2 * (X / 2) + X % 2 = X by omega, show 2 * 0 + 1 = 1 from rfl] at h
    rw [Nat.pow_zero, h, Nat.div_one]
    rcases Nat.mod_two_eq_zero_or_one X with e | e
    · rw [e, if_neg (by decide), show (0 ^^^ 1 : Nat) = 1 from rfl]; omega
    · rw [e, if_pos rfl, show (1 ^^^ 1 : Nat) = 0 from rfl]; omega
  | a + 1, X => by
    have h := xor_2 (X / 2) (2 ^ a) (X % 2) 0 (Nat.mod_lt _ (by decide)) (by decide)
    rw [show 2 * (X / 2) + X % 2 = X by omega, Nat.add_zero, Nat.xor_zero, xflip a (X / 2)] at h
    have e : (2 : Nat) ^ (a + 1) = 2 * 2 ^ a := by rw [Nat.pow_succ]; omega
    have hd : X / (2 * 2 ^ a) = X / 2 / 2 ^ a := by rw [Nat.div_div_eq_div_mul]
    rw [e, h, hd]
    by_cases c : X / 2 / 2 ^ a % 2 = 1
    · rw [if_pos c, if_pos c]
      have h1 : 2 ^ a ≤ X / 2 := by
        rcases Nat.lt_or_ge (X / 2) (2 ^ a) with w | w
        · rw [Nat.div_eq_of_lt w] at c; omega
        · exact w
      omega
    · rw [if_neg c, if_neg c]; omega
theorem sml {r : Nat} (h : r < 32) : ((nI r &&& 31).toBitVec.smod 32).toNat = r := s_l r h
theorem p20 {r : Nat} (h : r ≤ 20) : (2 : Nat) ^ r ≤ 1048576 := by
  have : ∀ r : Fin 21, (2 : Nat) ^ r.1 ≤ 1048576 := by decide
  exact this ⟨r, by omega⟩
theorem b1s {r : Nat} (h : r ≤ 20) : (1 : Int32) <<< (nI r &&& 31) = nI (2 ^ r) := by
  have := p20 h
  have z := pk_shlN (n := 1) (nI r &&& 31) r (sml (by omega)) (by omega)
  rw [Nat.one_mul] at z; exact z
theorem bit_n {X r : Nat} (hX : X < 2 ^ 31) (hr : r ≤ 20) : nI X >>> (nI r &&& 31) &&& 1 = nI (X / 2 ^ r % 2) := by
  rw [pk_shrN hX _ r (sml (by omega))]
  exact pk_andN (Nat.lt_of_le_of_lt (Nat.div_le_self _ _) (by omega)) (m := 1) 1 (by decide)
theorem cut_n {X n r : Nat} (hX : X < 2 ^ n) (hr : r < n) : X / 2 ^ (r + 1) * 2 ^ r + X % 2 ^ r < 2 ^ (n - 1) := by
  obtain ⟨d, rfl⟩ : ∃ d, n = r + 1 + d := ⟨n - r - 1, by omega⟩
  have h1 : X / 2 ^ (r + 1) < 2 ^ d := by
    rw [Nat.div_lt_iff_lt_mul (Nat.two_pow_pos _), ← Nat.pow_add, Nat.add_comm d (r + 1)]; exact hX
  have h2 := Nat.mod_lt X (Nat.two_pow_pos r)
  have h3 : X / 2 ^ (r + 1) * 2 ^ r ≤ (2 ^ d - 1) * 2 ^ r := Nat.mul_le_mul_right _ (by omega)
  have e : (2 : Nat) ^ (d + r) = 2 ^ d * 2 ^ r := Nat.pow_add 2 d r
  rw [show r + 1 + d - 1 = d + r by omega, e]
  rw [Nat.sub_mul, Nat.one_mul] at h3
  have h4 : 2 ^ r ≤ 2 ^ d * 2 ^ r := Nat.le_mul_of_pos_left _ (Nat.two_pow_pos d)
  omega
theorem mvd_ok {X n r : Nat} (hX : X < 2 ^ n) (hr : r < n) (hn : n ≤ 20) : mvd (nI X) (nI r) = woS (nI X) (nI r) ∧ ∃ Y, woS (nI X) (nI r) = nI Y ∧ Y < 2 ^ (n - 1) := by
  have hp := p20 hn
  have hpr := p20 (show r ≤ 20 by omega)
  have hp0 := Nat.two_pow_pos r
  have hm : nI X &&& (nI (2 ^ r) - 1) = nI (X % 2 ^ r) := by
    rw [show (1 : Int32) = nI 1 from rfl, pk_sub hp0]
    exact pk_andN (by omega) r (pk_tn (by omega))
  have hml := Nat.mod_lt X hp0
  have hmx := Nat.mod_le X (2 ^ r)
  have hd0 : (X - X % 2 ^ r) / 2 ^ (r + 1) = X / 2 ^ (r + 1) := by
    have e : X - X % 2 ^ r = 2 ^ r * (X / 2 ^ r) := by have := Nat.div_add_mod X (2 ^ r); omega
    rw [e, Nat.pow_succ, Nat.mul_div_mul_left _ _ hp0, Nat.div_div_eq_div_mul]
  have hlim : X / 2 ^ (r + 1) * 2 ^ r < 2 ^ 31 := by
    have h1 := Nat.div_mul_le_self X (2 ^ (r + 1))
    have h2 : X / 2 ^ (r + 1) * 2 ^ r ≤ X / 2 ^ (r + 1) * 2 ^ (r + 1) := Nat.mul_le_mul_left _ (Nat.pow_le_pow_right (by decide) (by omega))
    omega
  have hw : woS (nI X) (nI r) = nI (X / 2 ^ (r + 1) * 2 ^ r + X % 2 ^ r) := by
    unfold woS
    rw [b1s (by omega), hm, nI_1, pk_shrN (by omega) _ (r + 1) (sml (by omega)), pk_shlN _ r (sml (by omega)) (by omega), nx_or, Nat.or_comm, Nat.mul_comm (X / 2 ^ (r + 1)) (2 ^ r), ← Nat.two_pow_add_eq_or_of_lt hml]
  refine ⟨?_, _, hw, cut_n hX hr⟩
  rw [hw]
  unfold mvd
  rw [b1s (by omega), hm, pk_sub hmx, nI_1, pk_shrN (by omega) _ (r + 1) (sml (by omega)), hd0, pk_shlN _ r (sml (by omega)) (by omega), nI_add, Nat.add_comm]
/-- the law's way to change two bits about -/
def mvs (x a b : Int32) : Int32 := x + (((x >>> (b &&& 31) &&& 1) - (x >>> (a &&& 31) &&& 1)) <<< (a &&& 31) + ((x >>> (a &&& 31) &&& 1) - (x >>> (b &&& 31) &&& 1)) <<< (b &&& 31))
theorem m1s : ∀ a : Fin 21, (nI 0 - nI 1) <<< (nI a.1 &&& 31) = 0 - nI (2 ^ a.1) := by decide +kernel
theorem z0s : ∀ a : Fin 21, (nI 0 - nI 0) <<< (nI a.1 &&& 31) = 0 ∧ (nI 1 - nI 1) <<< (nI a.1 &&& 31) = 0 ∧ (nI 1 - nI 0) <<< (nI a.1 &&& 31) = nI (2 ^ a.1) := by decide +kernel
theorem a_sub {x y : Int32} : x + (0 - y) = x - y := by rw [Int32.sub_eq_add_neg, Int32.sub_eq_add_neg, Int32.zero_add]
theorem pw_bit {a b : Nat} (h : a ≠ b) : 2 ^ a / 2 ^ b % 2 ≠ 1 := by
  rcases Nat.lt_or_ge a b with w | w
  · rw [Nat.div_eq_of_lt (Nat.pow_lt_pow_right (by decide) w)]; decide
  · obtain ⟨d, rfl⟩ : ∃ d, a = b + 1 + d := ⟨a - b - 1, by omega⟩
    rw [show b + 1 + d = b + (1 + d) by omega, Nat.pow_add, Nat.mul_div_cancel_left _ (Nat.two_pow_pos b), Nat.pow_add, Nat.pow_one, Nat.mul_mod_right]; decide
theorem pw_or {a b : Nat} (h : a ≠ b) : 2 ^ a ||| 2 ^ b = 2 ^ a ^^^ 2 ^ b := by
  rw [xflip b (2 ^ a), if_neg (pw_bit h)]
  rcases Nat.lt_or_ge a b with w | w
  · have z := Nat.two_pow_add_eq_or_of_lt (Nat.pow_lt_pow_right (a := 2) (by decide) w) 1
    rw [Nat.mul_one] at z
    rw [Nat.or_comm, ← z, Nat.add_comm]
  · have z := Nat.two_pow_add_eq_or_of_lt (Nat.pow_lt_pow_right (a := 2) (by decide) (show b < a by omega)) 1
    rw [Nat.mul_one] at z
    exact z.symm
theorem flip_bit {X a b : Nat} (h : a ≠ b) (ha : X / 2 ^ a % 2 = 1) : (X - 2 ^ a) / 2 ^ b % 2 = X / 2 ^ b % 2 := by
  have e : X - 2 ^ a = X ^^^ 2 ^ a := by rw [xflip, if_pos ha]
  have t : ∀ Z : Nat, (Z / 2 ^ b % 2 = 1) ↔ Z.testBit b = true := fun Z => by
    rw [Nat.testBit_eq_decide_div_mod_eq, decide_eq_true_eq]
  have k : ((X - 2 ^ a) / 2 ^ b % 2 = 1) ↔ X / 2 ^ b % 2 = 1 := by
    rw [t, t, e, Nat.testBit_xor, Nat.testBit_two_pow_of_ne h, Bool.xor_false]
  have := Nat.mod_two_eq_zero_or_one ((X - 2 ^ a) / 2 ^ b)
  have := Nat.mod_two_eq_zero_or_one (X / 2 ^ b)
  omega
theorem mvs_1 {X n a b : Nat} (hX : X < 2 ^ n) (hn : n ≤ 20) (ha : a < n) (hb : b < n) (hab : a ≠ b) (h1 : X / 2 ^ a % 2 = 1) (h0 : X / 2 ^ b % 2 = 0) : X ^^^ (2 ^ a ||| 2 ^ b) = X - 2 ^ a + 2 ^ b ∧ 2 ^ a ≤ X ∧ X - 2 ^ a + 2 ^ b < 2 ^ n := by
  have e : X ^^^ (2 ^ a ||| 2 ^ b) = X - 2 ^ a + 2 ^ b := by
    rw [pw_or hab, ← Nat.xor_assoc, xflip a X, if_pos h1, xflip b, if_neg (by rw [flip_bit hab h1, h0]; decide)]
  refine ⟨e, ?_, ?_⟩
  · rcases Nat.lt_or_ge X (2 ^ a) with w | w
    · rw [Nat.div_eq_of_lt w] at h1; omega
    · exact w
  · rw [← e]
    exact Nat.xor_lt_two_pow hX (Nat.or_lt_two_pow (Nat.pow_lt_pow_right (by decide) ha) (Nat.pow_lt_pow_right (by decide) hb))
theorem swS_1 {X n a b : Nat} (hX : X < 2 ^ n) (hn : n ≤ 20) (ha : a < n) (hb : b < n) : nI X ^^^ ((1 <<< (nI a &&& 31)) ||| (1 <<< (nI b &&& 31))) = nI (X ^^^ (2 ^ a ||| 2 ^ b)) := by
  rw [b1s (by omega), b1s (by omega), nx_or, nx_xor]
theorem mvs_ok {X n a b : Nat} (hX : X < 2 ^ n) (hn : n ≤ 20) (ha : a < n) (hb : b < n) (hab : a ≠ b) : mvs (nI X) (nI a) (nI b) = swS (nI X) (nI a) (nI b) ∧ ∃ Y, swS (nI X) (nI a) (nI b) = nI Y ∧ Y < 2 ^ n := by
  have hp := p20 hn
  have h31 : X < 2 ^ 31 := by omega
  have ea := bit_n h31 (show a ≤ 20 by omega)
  have eb := bit_n h31 (show b ≤ 20 by omega)
  unfold mvs swS
  rw [ea, eb, swS_1 hX hn ha hb]
  have za := z0s ⟨a, by omega⟩
  have zb := z0s ⟨b, by omega⟩
  have ma := m1s ⟨a, by omega⟩
  have mb := m1s ⟨b, by omega⟩
  simp only at za zb ma mb
  rcases Nat.mod_two_eq_zero_or_one (X / 2 ^ a) with xa | xa <;> rcases Nat.mod_two_eq_zero_or_one (X / 2 ^ b) with xb | xb
  · rw [xa, xb, if_pos rfl, za.1, zb.1]
    exact ⟨by rw [Int32.add_zero, Int32.add_zero], X, rfl, hX⟩
  · obtain ⟨g1, g2, g3⟩ := mvs_1 hX hn hb ha (Ne.symm hab) xb xa
    rw [Nat.or_comm] at g1
    rw [xa, xb, if_neg (by decide), za.2.2, mb, g1, Int32.add_comm (nI (2 ^ a)), ← Int32.add_assoc, a_sub, pk_sub g2, nI_add]
    exact ⟨rfl, _, rfl, g3⟩
  · obtain ⟨g1, g2, g3⟩ := mvs_1 hX hn ha hb hab xa xb
    rw [xa, xb, if_neg (by decide), zb.2.2, ma, g1, ← Int32.add_assoc, a_sub, pk_sub g2, nI_add]
    exact ⟨rfl, _, rfl, g3⟩
  · rw [xa, xb, if_pos rfl, za.2.1, zb.2.1]
    exact ⟨by rw [Int32.add_zero, Int32.add_zero], X, rfl, hX⟩
