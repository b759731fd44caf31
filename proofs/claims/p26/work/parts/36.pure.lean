/-! how many ones: the model's way (the lowest one away) and the library's way (sums of fields) -/
theorem land_ee (a b : Nat) : (2 * a) &&& (2 * b) = 2 * (a &&& b) := by
  apply Nat.eq_of_testBit_eq; intro i
  cases i with
  | zero => simp [Nat.testBit_and, Nat.testBit_zero]
  | succ i => rw [Nat.testBit_and, Nat.testBit_succ, Nat.testBit_succ, Nat.testBit_succ, show 2 * a / 2 = a by omega, show 2 * b / 2 = b by omega, show 2 * (a &&& b) / 2 = a &&& b by omega, Nat.testBit_and]
theorem land_eo (a b : Nat) : (2 * a) &&& (2 * b + 1) = 2 * (a &&& b) := by
  apply Nat.eq_of_testBit_eq; intro i
  cases i with
  | zero => simp [Nat.testBit_and, Nat.testBit_zero]
  | succ i => rw [Nat.testBit_and, Nat.testBit_succ, Nat.testBit_succ, Nat.testBit_succ, show 2 * a / 2 = a by omega, show (2 * b + 1) / 2 = b by omega, show 2 * (a &&& b) / 2 = a &&& b by omega, Nat.testBit_and]
theorem land_oe (a b : Nat) : (2 * a + 1) &&& (2 * b) = 2 * (a &&& b) := by rw [Nat.and_comm, land_eo, Nat.and_comm]
theorem land_oo (a b : Nat) : (2 * a + 1) &&& (2 * b + 1) = 2 * (a &&& b) + 1 := by
  apply Nat.eq_of_testBit_eq; intro i
  cases i with
  | zero => simp [Nat.testBit_and, Nat.testBit_zero]
  | succ i => rw [Nat.testBit_and, Nat.testBit_succ, Nat.testBit_succ, Nat.testBit_succ, show (2 * a + 1) / 2 = a by omega, show (2 * b + 1) / 2 = b by omega, show (2 * (a &&& b) + 1) / 2 = a &&& b by omega, Nat.testBit_and]
/-- the ones among the first w bits -/
def pcn : Nat → Nat → Nat
  | 0, _ => 0
  | w + 1, x => x % 2 + pcn w (x / 2)
theorem pcn_0 : ∀ w, pcn w 0 = 0
  | 0 => rfl
  | w + 1 => by rw [pcn]; simp [pcn_0 w]
/-- the lowest one away: one less -/
theorem pcn_low : ∀ (w x : Nat), x ≠ 0 → x < 2 ^ w → pcn w x = pcn w (x &&& (x - 1)) + 1
  | 0, x, h0, h1 => by omega
  | w + 1, x, h0, h1 => by
    rcases Nat.mod_two_eq_zero_or_one x with h | h
    · obtain ⟨y, rfl⟩ : ∃ y, x = 2 * y := ⟨x / 2, by omega⟩
      rw [show 2 * y - 1 = 2 * (y - 1) + 1 by omega, land_eo, pcn, pcn, show 2 * y / 2 = y by omega, show 2 * (y &&& (y - 1)) / 2 = y &&& (y - 1) by omega, show 2 * (y &&& (y - 1)) % 2 = 0 by omega, h, pcn_low w y (by omega) (by rw [Nat.pow_succ] at h1; omega)]
      omega
    · obtain ⟨y, rfl⟩ : ∃ y, x = 2 * y + 1 := ⟨x / 2, by omega⟩
      rw [show 2 * y + 1 - 1 = 2 * y by omega, land_oe, Nat.and_self, pcn, pcn, show (2 * y + 1) / 2 = y by omega, show 2 * y / 2 = y by omega, show 2 * y % 2 = 0 by omega, h]
      omega
theorem pcn_le : ∀ w x, pcn w x ≤ w
  | 0, _ => Nat.le_refl _
  | w + 1, x => by have := pcn_le w (x / 2); rw [pcn]; omega
def ones (x : Int32) : Int32 := nI (pcn 32 x.toBitVec.toNat)
theorem nI_nat (x : Int32) : nI x.toBitVec.toNat = x := by
  apply Int32.toBitVec_inj.mp
  apply BitVec.eq_of_toNat_eq
  rw [pk_tn x.toBitVec.isLt]
theorem nI_land (a b : Nat) : nI a &&& nI b = nI (a &&& b) := by
  apply Int32.toBitVec_inj.mp
  apply BitVec.eq_of_toNat_eq
  show (BitVec.ofNat 32 a &&& BitVec.ofNat 32 b).toNat = (BitVec.ofNat 32 (a &&& b)).toNat
  rw [← BitVec.ofNat_and]
/-! the sums of fields -/
theorem land_f2 {r s : Nat} (a b : Nat) (hr : r < 4) (hs : s < 4) : (4 * a + r) &&& (4 * b + s) = 4 * (a &&& b) + (r &&& s) := by
  have key : ∀ r s : Fin 4, ∀ a b : Nat, (4 * a + r.1) &&& (4 * b + s.1) = 4 * (a &&& b) + (r.1 &&& s.1) := by
    intro r s a b
    have e1 : 4 * a + r.1 = 2 * (2 * a + r.1 / 2) + r.1 % 2 := by omega
    have e2 : 4 * b + s.1 = 2 * (2 * b + s.1 / 2) + s.1 % 2 := by omega
    rw [e1, e2]
    match r, s with
    | ⟨0, _⟩, ⟨0, _⟩ => first | (simp [land_ee]; done) | (simp [land_ee]; omega)
    | ⟨0, _⟩, ⟨1, _⟩ => first | (simp [land_eo, land_ee]; done) | (simp [land_eo, land_ee]; omega)
    | ⟨0, _⟩, ⟨2, _⟩ => first | (simp [land_ee, land_eo]; done) | (simp [land_ee, land_eo]; omega)
    | ⟨0, _⟩, ⟨3, _⟩ => first | (simp [land_ee, land_eo]; done) | (simp [land_ee, land_eo]; omega)
    | ⟨1, _⟩, ⟨0, _⟩ => first | (simp [land_oe, land_ee]; done) | (simp [land_oe, land_ee]; omega)
    | ⟨1, _⟩, ⟨1, _⟩ => first | (simp [land_oo, land_ee]; done) | (simp [land_oo, land_ee]; omega)
    | ⟨1, _⟩, ⟨2, _⟩ => first | (simp [land_oe, land_eo]; done) | (simp [land_oe, land_eo]; omega)
    | ⟨1, _⟩, ⟨3, _⟩ => first | (simp [land_oo, land_eo]; done) | (simp [land_oo, land_eo]; omega)
    | ⟨2, _⟩, ⟨0, _⟩ => first | (simp [land_ee, land_oe]; done) | (simp [land_ee, land_oe]; omega)
    | ⟨2, _⟩, ⟨1, _⟩ => first | (simp [land_eo, land_oe]; done) | (simp [land_eo, land_oe]; omega)
    | ⟨2, _⟩, ⟨2, _⟩ => first | (simp [land_ee, land_oo]; done) | (simp [land_ee, land_oo]; omega)
    | ⟨2, _⟩, ⟨3, _⟩ => first | (simp [land_eo, land_oo]; done) | (simp [land_eo, land_oo]; omega)
    | ⟨3, _⟩, ⟨0, _⟩ => first | (simp [land_oe]; done) | (simp [land_oe]; omega)
    | ⟨3, _⟩, ⟨1, _⟩ => first | (simp [land_oo, land_oe]; done) | (simp [land_oo, land_oe]; omega)
    | ⟨3, _⟩, ⟨2, _⟩ => first | (simp [land_oe, land_oo]; done) | (simp [land_oe, land_oo]; omega)
    | ⟨3, _⟩, ⟨3, _⟩ => first | (simp [land_oo]; done) | (simp [land_oo]; omega)
  exact key ⟨r, hr⟩ ⟨s, hs⟩ a b
