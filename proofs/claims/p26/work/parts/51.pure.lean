/-! where a blind's cells lie; cranking changes it as the model's array -/
def bS (μ : xM) (b : Nat) : Prop := μ.2.1 b = 1 ∧ (μ.2.1 (b + 1) = 9 ∧ μ.2.2 (b + 1) = 20) ∧ (∀ i, i < 20 → μ.2.1 (b + 2 + 2 * i) = 3 ∧ μ.2.1 (b + 3 + 2 * i) = 8 ∧ μ.2.2 (b + 3 + 2 * i) = 14) ∧ (μ.2.1 (b + 42) = 10 ∧ μ.2.2 (b + 42) = 6) ∧ (∀ j, j < 6 → μ.2.1 (b + 43 + j) = 2) ∧ (μ.2.1 (b + 49) = 7 ∧ μ.2.2 (b + 49) = 3)
def bP (P : xP) (b : Nat) : Prop := P b 0 = b + 1 ∧ P b 3 = b + 42 ∧ P b 6 = b + 49 ∧ (∀ j, j < 6 → P (b + 42) j = b + 43 + j) ∧ (∀ i, i < 20 → P (b + 2 + 2 * i) 0 = b + 3 + 2 * i) ∧ ∃ p : Nat → Nat, (∀ i, i < 20 → p i < 20 ∧ P (b + 1) i = b + 2 + 2 * p i) ∧ ∀ i j, i < 20 → j < 20 → p i = p j → i = j
theorem bA_of {μ : xM} {P : xP} {b : Nat} (hS : bS μ b) (hP : bP P b) : bA μ P b := by
  obtain ⟨-, s1, s2, s3, s4, s5⟩ := hS
  obtain ⟨p0, p3, p6, pj, pl, p, hp, -⟩ := hP
  unfold bA
  rw [p0, p3, p6]
  refine ⟨s1, s3, s5, fun i hi => ?_, fun j hj => ?_⟩
  · obtain ⟨h1, h2⟩ := hp i hi
    rw [h2, pl _ h1]
    exact s2 _ h1
  · rw [pj j hj]; exact s4 j hj
/-- what lies where -/
theorem bX {P : xP} {b : Nat} (hP : bP P b) : (∀ i, i < 20 → b + 2 ≤ P (P b 0) i ∧ P (P b 0) i < b + 41 ∧ P (P (P b 0) i) 0 = P (P b 0) i + 1) ∧ (∀ i j, i < 20 → j < 20 → i ≠ j → P (P b 0) i ≠ P (P b 0) j) ∧ (∀ i j, i < 20 → j < 20 → P (P b 0) i ≠ P (P (P b 0) j) 0) := by
  obtain ⟨p0, p3, p6, pj, pl, p, hp, hinj⟩ := hP
  rw [p0]
  refine ⟨fun i hi => ?_, fun i j hi hj hij => ?_, fun i j hi hj => ?_⟩
  · obtain ⟨h1, h2⟩ := hp i hi
    rw [h2, pl _ h1]; omega
  · obtain ⟨h1, h2⟩ := hp i hi
    obtain ⟨h3, h4⟩ := hp j hj
    rw [h2, h4]
    intro e
    exact hij (hinj i j hi hj (by omega))
  · obtain ⟨h1, h2⟩ := hp i hi
    obtain ⟨h3, h4⟩ := hp j hj
    rw [h2, h4, pl _ h3]; omega
theorem upd_at {f : Nat → Int32} {k : Nat} {v : Int32} : upd f k v k = v := by simp [upd]
theorem upd_ne {f : Nat → Int32} {k j : Nat} {v : Int32} (h : j ≠ k) : upd f k v j = f j := by simp [upd, h]
theorem tear1_01 (S : Nat → Int32) (r : Nat) (v : Int32) : tear1 S r v = 0 ∨ tear1 S r v = 1 := by
  unfold tear1
  split
  · exact Or.inl rfl
  · split
    · exact Or.inl rfl
    · exact Or.inr rfl
theorem rl_ok {I : xI} {P : xP} {b n a g : Nat} {S : Nat → Int32} {up : Bool} {v : Int32} (hne : ∀ i, i < n → P (P b 0) i ≠ b) (hinj : ∀ i j, i < n → j < n → i ≠ j → P (P b 0) i ≠ P (P b 0) j) (h6 : P b 6 ≠ b ∧ ∀ i, i < n → P b 6 ≠ P (P b 0) i) (hr : ∀ i, i < n → I (P (P b 0) i) 2 = S (12 + 17 * i) ∧ I (P (P b 0) i) 3 = S (13 + 17 * i) ∧ (S (13 + 17 * i) = 0 ∨ S (13 + 17 * i) = 1)) (h9 : I (P b 6) 1 = S 9) (hg : ∀ i, i ≤ g → rowAt a up i < n ∧ (up = true ∨ i ≤ a)) : ∀ k, k ≤ g →
    (∀ c, c ≠ b → (∀ i, i < n → c ≠ P (P b 0) i) → rlI I P b a up v k c = I c) ∧ (∀ j, j ≠ 7 → rlI I P b a up v k b j = I b j) ∧ rlI I P b a up v k b 7 = I b 7 + crT S a up v k ∧ (∀ i, i < n → rlI I P b a up v k (P (P b 0) i) 2 = crS S a up v k (12 + 17 * i) ∧ rlI I P b a up v k (P (P b 0) i) 3 = crS S a up v k (13 + 17 * i) ∧ ∀ j, j ≠ 2 → j ≠ 3 → rlI I P b a up v k (P (P b 0) i) j = I (P (P b 0) i) j) := by
  intro k
  induction k with
  | zero => exact fun _ => ⟨fun c _ _ => rfl, fun j _ => rfl, by rw [crT, Int32.add_zero]; rfl, fun i hi => ⟨(hr i hi).1, (hr i hi).2.1, fun j _ _ => rfl⟩⟩
  | succ k ih =>
    intro hk
    obtain ⟨iA, iB, i7, iC⟩ := ih (by omega)
    obtain ⟨hrk, hdk⟩ := hg k (by omega)
    obtain ⟨c2, c3, cj⟩ := iC _ hrk
    have e13 : crS S a up v k (13 + 17 * rowAt a up k) = S (13 + 17 * rowAt a up k) := crS_row hdk (by omega) (by omega)
    have e01 : crS S a up v k (13 + 17 * rowAt a up k) = 0 ∨ crS S a up v k (13 + 17 * rowAt a up k) = 1 := by rw [e13]; exact (hr _ hrk).2.2
    have e6 : rlI I P b a up v k (P b 6) 1 = crS S a up v k 9 := by rw [iA _ h6.1 h6.2, h9, crS_small (by decide) (by decide)]
    have ht : tearC (rlI I P b a up v k) P b (P (P b 0) (rowAt a up k)) v k = if v = 3 ∧ k % 2 = 1 then 0 else tear1 (crS S a up v k) (rowAt a up k) v := tearC_S c2 c3 e01 e6
    rw [rlI, crT, crS, lvC, lvS]
    by_cases hs : v = 3 ∧ k % 2 = 1
    · simp only [if_pos hs]
      refine ⟨iA, iB, by rw [i7, Int32.add_zero], fun i hi => ?_⟩
      rw [upd_ne (by omega), upd_ne (by omega)]
      exact iC i hi
    · simp only [if_neg hs] at ht ⊢
      rw [ht]
      have hrb := hne _ hrk
      refine ⟨fun c h1 h2 => ?_, fun j hj => ?_, ?_, fun i hi => ?_⟩
      · rw [xu_row (h2 _ hrk), xu_row h1, xu_row (h2 _ hrk)]; exact iA c h1 h2
      · rw [xu_row (Ne.symm hrb), xu_ne (Or.inr hj), xu_row (Ne.symm hrb)]; exact iB j hj
      · rw [xu_row (Ne.symm hrb), xu_at, i7, Int32.add_assoc]
      · by_cases hir : i = rowAt a up k
        · subst hir
          refine ⟨?_, ?_, fun j h2 h3 => ?_⟩
          · rw [xu_at, c2, upd_ne (by omega), upd_ne (by omega), upd_at]; rfl
          · rw [xu_ne (Or.inr (by decide)), xu_row hrb, xu_at, upd_ne (by omega), upd_at, c3]
            unfold torn1
            rcases e01 with e | e
            · rcases tear1_01 (crS S a up v k) (rowAt a up k) v with w | w <;> rw [e, w] <;> decide
            · rw [e, if_pos rfl, ite_self]
          · rw [xu_ne (Or.inr h2), xu_row hrb, xu_ne (Or.inr h3)]; exact cj j h2 h3
        · have hne2 := hinj i _ hi hrk hir
          rw [xu_row hne2, xu_row (hne i hi), xu_row hne2, upd_ne (by omega), upd_ne (by omega), upd_ne (by omega), upd_ne (by omega), upd_ne (by omega), upd_ne (by omega)]
          exact iC i hi
theorem crFS_q {S : Nat → Int32} {a q : Nat} {up : Bool} {v : Int32} {g : Nat} (h4 : q ≠ 4) (h5 : q ≠ 5) : crFS S a up v g q = crS S a up v g q := by
  unfold crFS; rw [upd_ne h5, upd_ne h4]
theorem crFS_lo {S : Nat → Int32} {a q : Nat} {up : Bool} {v : Int32} {g : Nat} (h1 : q ≠ 1) (h4 : q ≠ 4) (h5 : q ≠ 5) (h : q < 12) : crFS S a up v g q = S q := by
  rw [crFS_q h4 h5, crS_small h1 h]
theorem crFS_row {S : Nat → Int32} {a i k : Nat} {up : Bool} {v : Int32} {g : Nat} (h2 : k ≠ 1) (h3 : k ≠ 2) (hk : k < 17) : crFS S a up v g (11 + 17 * i + k) = S (11 + 17 * i + k) := by
  rw [crFS_q (by omega) (by omega)]
  exact crS_keep (by omega) (fun j _ => by omega)
theorem roll_ok {I : xI} {P : xP} {b n rq a g : Nat} {S : Nat → Int32} {up : Bool} {v : Int32} (hP : bP P b) (hB : bR I P b S n rq) (hinv : invN S n rq) (hg : ∀ i, i ≤ g → rowAt a up i < n ∧ (up = true ∨ i ≤ a)) (ha : S 1 = nI a) : bR (xu (xu (rlI I P b a up v g) b 8 (rlI I P b a up v g b 8 + nI g)) b 2 (nI (rowAt a up g))) P b (crFS S a up v g) n rq ∧ ∀ c, c < b ∨ b + 50 ≤ c → xu (xu (rlI I P b a up v g) b 8 (rlI I P b a up v g b 8 + nI g)) b 2 (nI (rowAt a up g)) c = I c := by
  obtain ⟨hX1, hX2, hX3⟩ := bX hP
  have hrowf := fun {i : Nat} (hi : i < n) => bRow hB hinv hi
  obtain ⟨b1, b2, b4, b5, b7, b8, b9, b10, bst, brw, brt⟩ := hB
  obtain ⟨hn20, hn, hq6, hq, hcur, hdr, h8, h9, h10, hrows⟩ := hinv
  obtain ⟨p0, p3, p6, pj, -⟩ := hP
  have pj' : ∀ j, j < 6 → P (P b 3) j = b + 43 + j := fun j hj => by rw [p3]; exact pj j hj
  have hne : ∀ i, i < n → P (P b 0) i ≠ b := fun i hi => by have := hX1 i (by omega); omega
  obtain ⟨rA, rB, r7, rC⟩ := rl_ok (I := I) (P := P) (b := b) (n := n) (a := a) (g := g) (S := S) (up := up) (v := v) hne (fun i j hi hj => hX2 i j (by omega) (by omega)) ⟨by omega, fun i hi => by have := hX1 i (by omega); omega⟩ (fun i hi => by
    obtain ⟨L, -, -, -, -, -, -, -, -, h2, h3, h01⟩ := hrowf hi
    exact ⟨h2, h3, h01⟩) (bst 1 (by decide)) hg g (Nat.le_refl g)
  have hgn := (hg g (Nat.le_refl g)).1
  refine ⟨⟨?_, ?_, ?_, ?_, ?_, ?_, ?_, ?_, fun k hk => ?_, fun i hi => ?_, fun j hj => ?_⟩, fun c hc => ?_⟩
  · rw [xu_ne (Or.inr (by decide)), xu_ne (Or.inr (by decide)), rB 1 (by decide), b1, crFS_lo (by decide) (by decide) (by decide) (by decide)]
  · rw [xu_at, crFS_1 ha, if_neg (nI_pos (by omega))]
  · rw [xu_ne (Or.inr (by decide)), xu_ne (Or.inr (by decide)), rB 4 (by decide), b4, crFS_lo (by decide) (by decide) (by decide) (by decide)]
  · rw [xu_ne (Or.inr (by decide)), xu_ne (Or.inr (by decide)), rB 5 (by decide), b5, crFS_lo (by decide) (by decide) (by decide) (by decide)]
  · rw [xu_ne (Or.inr (by decide)), xu_ne (Or.inr (by decide)), r7, b7]; unfold crFS; rw [upd_ne (by decide), upd_at]
  · rw [xu_ne (Or.inr (by decide)), xu_at, rB 8 (by decide), b8]; unfold crFS; rw [upd_at]
  · rw [xu_ne (Or.inr (by decide)), xu_ne (Or.inr (by decide)), rB 9 (by decide), b9, crFS_lo (by decide) (by decide) (by decide) (by decide)]
  · rw [xu_ne (Or.inr (by decide)), xu_ne (Or.inr (by decide)), rB 10 (by decide), b10, crFS_lo (by decide) (by decide) (by decide) (by decide)]
  · rw [xu_row (by omega), xu_row (by omega), rA _ (by omega) (fun i hi => by have := hX1 i (by omega); omega), bst k hk, crFS_lo (by omega) (by omega) (by omega) (by omega)]
  · have hx := hX1 i (by omega)
    obtain ⟨c2, c3, cj⟩ := rC i hi
    obtain ⟨r1, r2, r3, r4⟩ := brw i hi
    rw [xu_row (hne i hi), xu_row (hne i hi), c2, c3, cj 1 (by decide) (by decide), r1]
    refine ⟨(crFS_row (i := i) (k := 0) (by decide) (by decide) (by decide)).symm, (crFS_q (by omega) (by omega)).symm, (crFS_q (by omega) (by omega)).symm, fun k hk => ?_⟩
    have hl : sLen (crFS S a up v g) i = sLen S i := by unfold sLen; rw [show 11 + 17 * i = 11 + 17 * i + 0 from rfl, crFS_row (by decide) (by decide) (by decide)]
    obtain ⟨L, hL1, hL14, -, -, hLl, -⟩ := hrowf hi
    rw [hl] at hk
    rw [xu_row (by omega), xu_row (by omega), rA _ (by omega) (fun j hj => Ne.symm (hX3 j i (by omega) (by omega))), r4 k hk, show 14 + 17 * i + k = 11 + 17 * i + (k + 3) by omega, crFS_row (by omega) (by omega) (by omega)]
  · have e := pj' j (by omega)
    have ne : ∀ i, i < n → P (P b 3) j ≠ P (P b 0) i := fun i hi => by have := hX1 i (by omega); omega
    rw [xu_row (by omega), xu_row (by omega), rA _ (by omega) ne, crFS_far (fun i hi => (hg i hi).1) hn20 (by omega), crFS_far (fun i hi => (hg i hi).1) hn20 (by omega), crFS_far (fun i hi => (hg i hi).1) hn20 (by omega)]
    exact brt j hj
  · rw [xu_row (by omega), xu_row (by omega), rA c (by omega) (fun i hi => by have := hX1 i (by omega); omega)]
