theorem land_f4 {r s : Nat} (a b : Nat) (hr : r < 16) (hs : s < 16) : (16 * a + r) &&& (16 * b + s) = 16 * (a &&& b) + (r &&& s) := by
  have e1 : 16 * a + r = 4 * (4 * a + r / 4) + r % 4 := by omega
  have e2 : 16 * b + s = 4 * (4 * b + s / 4) + s % 4 := by omega
  have e3 : r &&& s = 4 * (r / 4 &&& s / 4) + (r % 4 &&& s % 4) := by
    have := land_f2 (r / 4) (s / 4) (Nat.mod_lt r (by decide : 4 > 0)) (Nat.mod_lt s (by decide : 4 > 0))
    rw [show 4 * (r / 4) + r % 4 = r by omega, show 4 * (s / 4) + s % 4 = s by omega] at this
    exact this
  rw [e1, e2, land_f2 _ _ (Nat.mod_lt r (by decide)) (Nat.mod_lt s (by decide)), land_f2 a b (by omega) (by omega), e3]
  omega
theorem land_f8 {r s : Nat} (a b : Nat) (hr : r < 256) (hs : s < 256) : (256 * a + r) &&& (256 * b + s) = 256 * (a &&& b) + (r &&& s) := by
  have e1 : 256 * a + r = 16 * (16 * a + r / 16) + r % 16 := by omega
  have e2 : 256 * b + s = 16 * (16 * b + s / 16) + s % 16 := by omega
  have e3 : r &&& s = 16 * (r / 16 &&& s / 16) + (r % 16 &&& s % 16) := by
    have := land_f4 (r / 16) (s / 16) (Nat.mod_lt r (by decide : 16 > 0)) (Nat.mod_lt s (by decide : 16 > 0))
    rw [show 16 * (r / 16) + r % 16 = r by omega, show 16 * (s / 16) + s % 16 = s by omega] at this
    exact this
  rw [e1, e2, land_f4 _ _ (Nat.mod_lt r (by decide)) (Nat.mod_lt s (by decide)), land_f4 a b (by omega) (by omega), e3]
  omega
def m5 : Nat → Nat
  | 0 => 0
  | k + 1 => 4 * m5 k + 1
def m3 : Nat → Nat
  | 0 => 0
  | k + 1 => 16 * m3 k + 3
def mf : Nat → Nat
  | 0 => 0
  | k + 1 => 256 * mf k + 15
/-- the two bits of each field, counted -/
def y2 : Nat → Nat → Nat
  | 0, _ => 0
  | k + 1, x => 4 * y2 k (x / 4) + (x % 2 + x / 2 % 2)
def z4 : Nat → Nat → Nat
  | 0, _ => 0
  | k + 1, y => 16 * z4 k (y / 16) + (y % 4 + y / 4 % 4)
def c8 : Nat → Nat → Nat
  | 0, _ => 0
  | k + 1, z => 256 * c8 k (z / 256) + (z % 16 + z / 16 % 16)
theorem sw_y : ∀ (k x : Nat), x < 4 ^ k → x - (x / 2 &&& m5 k) = y2 k x ∧ (x / 2 &&& m5 k) ≤ x
  | 0, x, h => by
    have : x = 0 := by simpa using h
    subst this; decide
  | k + 1, x, h => by
    obtain ⟨h1, h2⟩ := sw_y k (x / 4) (by rw [Nat.pow_succ] at h; omega)
    have e : x / 2 &&& m5 (k + 1) = 4 * (x / 4 / 2 &&& m5 k) + x / 2 % 2 := by
      have e1 : x / 2 = 4 * (x / 4 / 2) + (2 * (x / 4 % 2) + x / 2 % 2) := by omega
      rw [m5]
      conv => lhs; rw [e1]
      rw [land_f2 _ _ (by omega) (by decide)]
      congr 1
      have key : ∀ p q : Fin 2, (2 * p.1 + q.1) &&& 1 = q.1 := by decide
      exact key ⟨x / 4 % 2, by omega⟩ ⟨x / 2 % 2, by omega⟩
    rw [e, y2, ← h1]
    omega
theorem sw_z : ∀ (k y : Nat), y < 16 ^ k → (y &&& m3 k) + (y / 4 &&& m3 k) = z4 k y
  | 0, y, h => by
    have : y = 0 := by simpa using h
    subst this; decide
  | k + 1, y, h => by
    have h1 := sw_z k (y / 16) (by rw [Nat.pow_succ] at h; omega)
    have key : ∀ p q : Fin 4, (4 * p.1 + q.1) &&& 3 = q.1 := by decide
    have e1 : y &&& m3 (k + 1) = 16 * (y / 16 &&& m3 k) + y % 4 := by
      have e : y = 16 * (y / 16) + (4 * (y / 4 % 4) + y % 4) := by omega
      rw [m3]
      conv => lhs; rw [e]
      rw [land_f4 _ _ (by omega) (by decide)]
      congr 1
      exact key ⟨y / 4 % 4, by omega⟩ ⟨y % 4, by omega⟩
    have e2 : y / 4 &&& m3 (k + 1) = 16 * (y / 16 / 4 &&& m3 k) + y / 4 % 4 := by
      have e : y / 4 = 16 * (y / 16 / 4) + (4 * (y / 16 % 4) + y / 4 % 4) := by omega
      rw [m3]
      conv => lhs; rw [e]
      rw [land_f4 _ _ (by omega) (by decide)]
      congr 1
      exact key ⟨y / 16 % 4, by omega⟩ ⟨y / 4 % 4, by omega⟩
    rw [e1, e2, z4, ← h1]
    omega
/-- each nibble of k bytes is four at most -/
def nib : Nat → Nat → Prop
  | 0, z => z = 0
  | k + 1, z => z % 16 ≤ 4 ∧ z / 16 % 16 ≤ 4 ∧ nib k (z / 256)
theorem nib_lo : ∀ {k z : Nat}, nib k z → z % 16 ≤ 4
  | 0, z, h => by rw [show z = 0 from h]; decide
  | k + 1, z, h => h.1
theorem sw_c : ∀ (k z : Nat), nib k z → ((z + z / 16) &&& mf k) = c8 k z
  | 0, z, h => by
    rw [show z = 0 from h]; decide
  | k + 1, z, h => by
    obtain ⟨h1, h2, h3⟩ := h
    have h4 := sw_c k (z / 256) h3
    have h5 := nib_lo h3
    have e : z + z / 16 = 256 * (z / 256 + z / 256 / 16) + (16 * (z / 16 % 16 + z / 256 % 16) + (z % 16 + z / 16 % 16)) := by omega
    rw [mf, e, land_f8 _ _ (by omega) (by decide), h4, c8]
    congr 1
    have key : ∀ p q : Fin 9, (16 * p.1 + q.1) &&& 15 = q.1 := by decide
    exact key ⟨z / 16 % 16 + z / 256 % 16, by omega⟩ ⟨z % 16 + z / 16 % 16, by omega⟩
theorem y2_lt : ∀ (k x : Nat), y2 k x < 4 ^ k
  | 0, x => by simp [y2]
  | k + 1, x => by have := y2_lt k (x / 4); rw [y2, Nat.pow_succ]; omega
/-- the sum of k digits -/
def sdg (b : Nat) : Nat → Nat → Nat
  | 0, _ => 0
  | k + 1, y => y % b + sdg b k (y / b)
theorem pcn_y2 : ∀ (k x : Nat), pcn (2 * k) x = sdg 4 k (y2 k x)
  | 0, x => rfl
  | k + 1, x => by
    rw [show 2 * (k + 1) = (2 * k + 1) + 1 by omega, pcn, pcn, show x / 2 / 2 = x / 4 by omega, pcn_y2 k (x / 4), sdg, y2]
    rw [show (4 * y2 k (x / 4) + (x % 2 + x / 2 % 2)) / 4 = y2 k (x / 4) by omega, show (4 * y2 k (x / 4) + (x % 2 + x / 2 % 2)) % 4 = x % 2 + x / 2 % 2 by omega]
    omega
/-- each of k fields of two bits is two at most -/
def fld2 : Nat → Nat → Prop
  | 0, y => y = 0
  | k + 1, y => y % 4 ≤ 2 ∧ fld2 k (y / 4)
theorem y2_fld : ∀ (k x : Nat), fld2 k (y2 k x)
  | 0, x => rfl
  | k + 1, x => by
    rw [y2]
    refine ⟨by omega, ?_⟩
    rw [show (4 * y2 k (x / 4) + (x % 2 + x / 2 % 2)) / 4 = y2 k (x / 4) by omega]
    exact y2_fld k (x / 4)
theorem z4_sum : ∀ (k y : Nat), fld2 (2 * k) y → sdg 4 (2 * k) y = sdg 16 k (z4 k y)
  | 0, y, _ => rfl
  | k + 1, y, h => by
    rw [show 2 * (k + 1) = (2 * k + 1) + 1 by omega] at h ⊢
    obtain ⟨h1, h2, h3⟩ := h
    rw [show y / 4 / 4 = y / 16 by omega] at h3
    rw [sdg, sdg, show y / 4 / 4 = y / 16 by omega, z4_sum k (y / 16) h3, sdg, z4]
    rw [show (16 * z4 k (y / 16) + (y % 4 + y / 4 % 4)) / 16 = z4 k (y / 16) by omega, show (16 * z4 k (y / 16) + (y % 4 + y / 4 % 4)) % 16 = y % 4 + y / 4 % 4 by omega]
    omega
theorem z4_nib : ∀ (k y : Nat), fld2 (4 * k) y → nib k (z4 (2 * k) y)
  | 0, y, _ => rfl
  | k + 1, y, h => by
    rw [show 4 * (k + 1) = 4 * k + 1 + 1 + 1 + 1 by omega] at h
    obtain ⟨h1, h2, h3, h4, h5⟩ := h
    rw [show 2 * (k + 1) = 2 * k + 1 + 1 by omega, z4, z4]
    have e1 : y / 4 / 4 % 4 ≤ 2 := h3
    have e2 : y / 4 / 4 / 4 % 4 ≤ 2 := h4
    have h6 := z4_nib k (y / 16 / 16) (by rw [show y / 16 / 16 = y / 4 / 4 / 4 / 4 by omega]; exact h5)
    rw [show y / 16 = y / 4 / 4 by omega] at h6 ⊢
    generalize z4 (2 * k) (y / 4 / 4 / 16) = Z at h6 ⊢
    generalize y % 4 = d0 at h1 ⊢
    generalize y / 4 % 4 = d1 at h2 ⊢
    generalize y / 4 / 4 % 4 = d2 at e1 ⊢
    generalize y / 4 / 4 / 4 % 4 = d3 at e2 ⊢
    refine ⟨by omega, by omega, ?_⟩
    rw [show (16 * (16 * Z + (d2 + d3)) + (d0 + d1)) / 256 = Z by omega]
    exact h6
theorem c8_sum : ∀ (k z : Nat), nib k z → sdg 16 (2 * k) z = sdg 256 k (c8 k z) ∧ c8 k z < 256 ^ k
  | 0, z, _ => ⟨rfl, by simp [c8]⟩
  | k + 1, z, h => by
    obtain ⟨h1, h2, h3⟩ := h
    obtain ⟨h4, h5⟩ := c8_sum k (z / 256) h3
    refine ⟨?_, by rw [c8, Nat.pow_succ]; omega⟩
    rw [show 2 * (k + 1) = (2 * k + 1) + 1 by omega, sdg, sdg, show z / 16 / 16 = z / 256 by omega, h4, sdg, c8]
    rw [show (256 * c8 k (z / 256) + (z % 16 + z / 16 % 16)) / 256 = c8 k (z / 256) by omega, show (256 * c8 k (z / 256) + (z % 16 + z / 16 % 16)) % 256 = z % 16 + z / 16 % 16 by omega]
    omega
theorem c8_dig {z : Nat} (h : nib 4 z) : c8 4 z % 256 ≤ 8 ∧ c8 4 z / 256 % 256 ≤ 8 ∧ c8 4 z / 65536 % 256 ≤ 8 ∧ c8 4 z / 16777216 ≤ 8 := by
  obtain ⟨a1, a2, b1, b2, c1, c2, d1, d2, e⟩ := h
  simp only [c8]
  have p0 : z % 16 + z / 16 % 16 ≤ 8 := by omega
  have p1 : z / 256 % 16 + z / 256 / 16 % 16 ≤ 8 := by omega
  have p2 : z / 256 / 256 % 16 + z / 256 / 256 / 16 % 16 ≤ 8 := by omega
  have p3 : z / 256 / 256 / 256 % 16 + z / 256 / 256 / 256 / 16 % 16 ≤ 8 := by omega
  generalize z % 16 + z / 16 % 16 = q0 at p0 ⊢
  generalize z / 256 % 16 + z / 256 / 16 % 16 = q1 at p1 ⊢
  generalize z / 256 / 256 % 16 + z / 256 / 256 / 16 % 16 = q2 at p2 ⊢
  generalize z / 256 / 256 / 256 % 16 + z / 256 / 256 / 256 / 16 % 16 = q3 at p3 ⊢
  clear a1 a2 b1 b2 c1 c2 d1 d2 e
  omega
/-- the library's count of ones, in whole numbers -/
theorem sw_all {x : Nat} (hx : x < 2 ^ 32) (y z c w v : Nat) (hy : x - (x / 2 &&& 1431655765) = y) (hz : (y &&& 858993459) + (y / 4 &&& 858993459) = z) (hc : ((z + z / 16) &&& 252645135) = c) (hw : c + c / 256 = w) (hv : w + w / 65536 = v) : (v &&& 63) = pcn 32 x ∧ (x / 2 &&& 1431655765) ≤ x ∧ y < 2 ^ 32 ∧ z < 2 ^ 32 ∧ c < 2 ^ 32 ∧ w < 2 ^ 32 := by
  obtain ⟨h1, h2⟩ := sw_y 16 x (by omega)
  have e5 : m5 16 = 1431655765 := by decide
  have e3 : m3 8 = 858993459 := by decide
  have e15 : mf 4 = 252645135 := by decide
  rw [e5] at h1 h2
  have hy2 : y = y2 16 x := hy.symm.trans h1
  have hyl : y < 4 ^ 16 := by rw [hy2]; exact y2_lt 16 x
  have h3 := sw_z 8 y (by omega)
  rw [e3] at h3
  have hz2 : z = z4 8 y := hz.symm.trans h3
  have hfl : fld2 16 y := by rw [hy2]; exact y2_fld 16 x
  have hnib : nib 4 z := by rw [hz2]; exact z4_nib 4 y hfl
  have h4 := sw_c 4 z hnib
  rw [e15] at h4
  have hc2 : c = c8 4 z := hc.symm.trans h4
  obtain ⟨h5, h6⟩ := c8_sum 4 z hnib
  obtain ⟨g0, g1, g2, g3⟩ := c8_dig hnib
  rw [← hc2] at h5 h6 g0 g1 g2 g3
  have hp : pcn 32 x = sdg 256 4 c := by
    rw [show (32 : Nat) = 2 * 16 from rfl, pcn_y2, ← hy2, show (16 : Nat) = 2 * 8 from rfl, z4_sum 8 y hfl, ← hz2, show (8 : Nat) = 2 * 4 from rfl, h5]
  have hs : sdg 256 4 c = c % 256 + (c / 256 % 256 + (c / 256 / 256 % 256 + (c / 256 / 256 / 256 % 256 + 0))) := rfl
  have hzl : z < 2 ^ 32 := by
    have : ∀ k z, nib k z → z < 256 ^ k := by
      intro k
      induction k with
      | zero => intro z h; rw [show z = 0 from h]; decide
      | succ k ih => intro z h; have := ih _ h.2.2; rw [Nat.pow_succ]; omega
    have := this 4 z hnib
    omega
  have h63 : v &&& 63 = v % 64 := Nat.and_two_pow_sub_one_eq_mod v 6
  have hcl : c < 2 ^ 32 := by omega
  refine ⟨?_, h2, by omega, hzl, hcl, ?_⟩
  · rw [h63, hp, hs]
    clear hp hs h63 h5 h6 hc2 h4 hnib hfl hz2 h3 hyl hy2 h1 h2 hzl hc hz hy e5 e3 e15 hx
    generalize hq0 : c % 256 = q0 at g0 ⊢
    generalize hq1 : c / 256 % 256 = q1 at g1 ⊢
    rw [show c / 65536 % 256 = c / 256 / 256 % 256 by omega] at g2
    rw [show c / 16777216 = c / 256 / 256 / 256 by omega] at g3
    generalize hq2 : c / 256 / 256 % 256 = q2 at g2 ⊢
    rw [show c / 256 / 256 / 256 % 256 = c / 256 / 256 / 256 by omega]
    generalize hq3 : c / 256 / 256 / 256 = q3 at g3 ⊢
    have f0 : c / 256 = q1 + 256 * q2 + 65536 * q3 := by omega
    have f1 : c = q0 + 256 * q1 + 65536 * q2 + 16777216 * q3 := by omega
    have f2 : w = (q0 + q1) + 256 * (q1 + q2) + 65536 * (q2 + q3) + 16777216 * q3 := by omega
    have f3 : w / 65536 = (q2 + q3) + 256 * q3 := by omega
    have f4 : v = (q0 + q1 + q2 + q3) + 256 * (q1 + q2 + q3) + 65536 * (q2 + q3) + 16777216 * q3 := by omega
    omega
  · omega
