/-! a blind whose rows or routes stay -/
def bRw (I : xI) (P : xP) (b : Nat) (S : Nat → Int32) (n : Nat) : Prop := ∀ i, i < n → I (P (P b 0) i) 1 = S (11 + 17 * i) ∧ I (P (P b 0) i) 2 = S (12 + 17 * i) ∧ I (P (P b 0) i) 3 = S (13 + 17 * i) ∧ ∀ k, k < sLen S i → I (P (P (P b 0) i) 0) k = S (14 + 17 * i + k)
def bRt (I : xI) (P : xP) (b : Nat) (S : Nat → Int32) (q : Nat) : Prop := ∀ j, j < q → I (P (P b 3) j) 0 = S (351 + 3 * j) ∧ I (P (P b 3) j) 1 = S (352 + 3 * j) ∧ I (P (P b 3) j) 2 = S (353 + 3 * j)
theorem bRw_keep {I I' : xI} {P : xP} {b n : Nat} {S S' : Nat → Int32} (h : bRw I P b S n) (hn : n ≤ 20) (hL : ∀ i, i < n → sLen S i ≤ 14) (hI : ∀ i, i < n → I' (P (P b 0) i) = I (P (P b 0) i) ∧ I' (P (P (P b 0) i) 0) = I (P (P (P b 0) i) 0)) (hS : ∀ q, 11 ≤ q → q < 351 → S' q = S q) : bRw I' P b S' n := by
  intro i hi
  obtain ⟨h1, h2, h3, h4⟩ := h i hi
  obtain ⟨e1, e2⟩ := hI i hi
  have hl : sLen S' i = sLen S i := by unfold sLen; rw [hS _ (by omega) (by omega)]
  have := hL i hi
  rw [e1, e2, hS _ (by omega) (by omega), hS _ (by omega) (by omega), hS _ (by omega) (by omega)]
  exact ⟨h1, h2, h3, fun k hk => by rw [hl] at hk; rw [hS _ (by omega) (by omega)]; exact h4 k hk⟩
theorem bRt_keep {I I' : xI} {P : xP} {b q : Nat} {S S' : Nat → Int32} (h : bRt I P b S q) (hI : ∀ j, j < q → I' (P (P b 3) j) = I (P (P b 3) j)) (hS : ∀ k, 351 ≤ k → S' k = S k) : bRt I' P b S' q := by
  intro j hj
  rw [hI j hj, hS _ (by omega), hS _ (by omega), hS _ (by omega)]
  exact h j hj
theorem inv_len {S : Nat → Int32} {n q : Nat} (hinv : invN S n q) : ∀ i, i < n → sLen S i ≤ 14 := by
  intro i hi
  obtain ⟨-, -, -, -, -, -, -, -, -, hrows⟩ := hinv
  obtain ⟨L, h1, h2, h3, -⟩ := hrows i hi
  rw [sLen_of h3 (by omega)]; exact h2
/-- the row that is shown is wrong by what the model says -/
theorem wr_shown {I : xI} {P : xP} {b n q : Nat} {S : Nat → Int32} (hB : bR I P b S n q) (hinv : invN S n q) : wrC S (I b 2) = aWrong S := by
  obtain ⟨-, b2, -⟩ := hB
  obtain ⟨hn20, hn, -, -, hcur, -⟩ := hinv
  rcases hcur with ⟨h1, h2⟩ | ⟨a, h1, h2⟩
  · rw [b2, h2, wrC, aWrong, hn, h1, h2]; rfl
  · rw [b2, h2, if_neg (nI_pos (by omega)), wrC, hn, if_neg (by rw [isR_nI h1 (by omega)]; decide), aWrong, h2, if_neg (nI_pos (by omega))]
theorem halt0 {I : xI} {P : xP} {b n q : Nat} {S : Nat → Int32} (hP : bP P b) (hB : bR I P b S n q) (hinv : invN S n q) (h3 : S 3 = -1) : bR (xu (xu I b 9 (I b 9 + 1)) b 10 (I b 10 + xright (aWrong S))) P b (sStop S) n q ∧ ∀ c, c < b ∨ b + 50 ≤ c → (xu (xu I b 9 (I b 9 + 1)) b 10 (I b 10 + xright (aWrong S))) c = I c := by
  obtain ⟨hX1, hX2, hX3⟩ := bX hP
  have hlen := inv_len hinv
  obtain ⟨b1, b2, b4, b5, b7, b8, b9, b10, bst, brw, brt⟩ := hB
  obtain ⟨hn20, hn, hq6, hq, hcur, hdr, h8, h9, h10, hrows⟩ := hinv
  obtain ⟨p0, p3, p6, pj, -⟩ := hP
  have eS : sStop S = upd (upd S 6 (S 6 + 1)) 7 (S 7 + xright (aWrong S)) := by
    unfold sStop
    exact if_pos (by rw [h3]; decide)
  have eq : ∀ k, k ≠ 6 → k ≠ 7 → sStop S k = S k := fun k h6 h7 => by rw [eS, upd_ne h7, upd_ne h6]
  have eI : ∀ c, c ≠ b → (xu (xu I b 9 (I b 9 + 1)) b 10 (I b 10 + xright (aWrong S))) c = I c := fun c hc => by rw [xu_row hc, xu_row hc]
  have eb : ∀ j, j ≠ 9 → j ≠ 10 → (xu (xu I b 9 (I b 9 + 1)) b 10 (I b 10 + xright (aWrong S))) b j = I b j := fun j h1 h2 => by rw [xu_ne (Or.inr h2), xu_ne (Or.inr h1)]
  refine ⟨⟨?_, ?_, ?_, ?_, ?_, ?_, ?_, ?_, fun k hk => ?_, ?_, ?_⟩, fun c hc => eI c (by omega)⟩
  · rw [eb 1 (by decide) (by decide), eq 0 (by decide) (by decide), b1]
  · rw [eb 2 (by decide) (by decide), eq 1 (by decide) (by decide), b2]
  · rw [eb 4 (by decide) (by decide), eq 2 (by decide) (by decide), b4]
  · rw [eb 5 (by decide) (by decide), eq 3 (by decide) (by decide), b5]
  · rw [eb 7 (by decide) (by decide), eq 4 (by decide) (by decide), b7]
  · rw [eb 8 (by decide) (by decide), eq 5 (by decide) (by decide), b8]
  · rw [xu_ne (Or.inr (by decide)), xu_at, eS, upd_ne (by decide), upd_at, b9]
  · rw [xu_at, eS, upd_at, b10]
  · rw [eI _ (by omega), eq _ (by omega) (by omega), bst k hk]
  · exact bRw_keep brw hn20 hlen (fun i hi => by
      have := hX1 i (by omega)
      exact ⟨eI _ (by omega), eI _ (by omega)⟩) (fun k h1 h2 => eq k (by omega) (by omega))
  · exact bRt_keep brt (fun j hj => eI _ (by rw [p3, pj j (by omega)]; omega)) (fun k h => eq k (by omega) (by omega))
theorem halt1 {I : xI} {P : xP} {b n q d : Nat} {S : Nat → Int32} (hP : bP P b) (hB : bR I P b S n q) (hinv : invN S n q) (h3 : S 3 = nI d) (hd : d < q) : bR (xu (xu (xu (xu I b 9 (I b 9 + 1)) b 10 (I b 10 + xright (aWrong S))) (P (P b 3) d) 1 (I (P (P b 3) d) 1 + 1)) (P (P b 3) d) 2 (I (P (P b 3) d) 2 + xright (aWrong S))) P b (sStop S) n q ∧ ∀ c, c < b ∨ b + 50 ≤ c → (xu (xu (xu (xu I b 9 (I b 9 + 1)) b 10 (I b 10 + xright (aWrong S))) (P (P b 3) d) 1 (I (P (P b 3) d) 1 + 1)) (P (P b 3) d) 2 (I (P (P b 3) d) 2 + xright (aWrong S))) c = I c := by
  obtain ⟨hX1, hX2, hX3⟩ := bX hP
  have hlen := inv_len hinv
  obtain ⟨b1, b2, b4, b5, b7, b8, b9, b10, bst, brw, brt⟩ := hB
  obtain ⟨hn20, hn, hq6, hq, hcur, hdr, h8, h9, h10, hrows⟩ := hinv
  obtain ⟨p0, p3, p6, pj, -⟩ := hP
  have pd : ∀ j, j < 6 → P (P b 3) j = b + 43 + j := fun j hj => by rw [p3]; exact pj j hj
  have hpd := pd d (by omega)
  have hsd : sDrv S = d := by rw [sDrv, h3, nI_clamp (by omega)]
  have eS : sStop S = upd (upd (upd (upd S 6 (S 6 + 1)) 7 (S 7 + xright (aWrong S))) (352 + 3 * d) (S (352 + 3 * d) + 1)) (353 + 3 * d) (S (353 + 3 * d) + xright (aWrong S)) := by
    unfold sStop
    rw [hsd]
    exact if_neg (by rw [h3]; exact nI_pos (by omega))
  have eq : ∀ k, k ≠ 6 → k ≠ 7 → k ≠ 352 + 3 * d → k ≠ 353 + 3 * d → sStop S k = S k := fun k h6 h7 h8 h9 => by rw [eS, upd_ne h9, upd_ne h8, upd_ne h7, upd_ne h6]
  have eI : ∀ c, c ≠ b → c ≠ P (P b 3) d → (xu (xu (xu (xu I b 9 (I b 9 + 1)) b 10 (I b 10 + xright (aWrong S))) (P (P b 3) d) 1 (I (P (P b 3) d) 1 + 1)) (P (P b 3) d) 2 (I (P (P b 3) d) 2 + xright (aWrong S))) c = I c := fun c hc h2 => by rw [xu_row h2, xu_row h2, xu_row hc, xu_row hc]
  have hbr : b ≠ P (P b 3) d := by omega
  have eb : ∀ j, j ≠ 9 → j ≠ 10 → (xu (xu (xu (xu I b 9 (I b 9 + 1)) b 10 (I b 10 + xright (aWrong S))) (P (P b 3) d) 1 (I (P (P b 3) d) 1 + 1)) (P (P b 3) d) 2 (I (P (P b 3) d) 2 + xright (aWrong S))) b j = I b j := fun j h1 h2 => by rw [xu_row hbr, xu_row hbr, xu_ne (Or.inr h2), xu_ne (Or.inr h1)]
  refine ⟨⟨?_, ?_, ?_, ?_, ?_, ?_, ?_, ?_, fun k hk => ?_, ?_, fun j hj => ?_⟩, fun c hc => eI c (by omega) (by omega)⟩
  · rw [eb 1 (by decide) (by decide), eq 0 (by decide) (by decide) (by omega) (by omega), b1]
  · rw [eb 2 (by decide) (by decide), eq 1 (by decide) (by decide) (by omega) (by omega), b2]
  · rw [eb 4 (by decide) (by decide), eq 2 (by decide) (by decide) (by omega) (by omega), b4]
  · rw [eb 5 (by decide) (by decide), eq 3 (by decide) (by decide) (by omega) (by omega), b5]
  · rw [eb 7 (by decide) (by decide), eq 4 (by decide) (by decide) (by omega) (by omega), b7]
  · rw [eb 8 (by decide) (by decide), eq 5 (by decide) (by decide) (by omega) (by omega), b8]
  · rw [xu_row hbr, xu_row hbr, xu_ne (Or.inr (by decide)), xu_at, eS, upd_ne (by omega), upd_ne (by omega), upd_ne (by decide), upd_at, b9]
  · rw [xu_row hbr, xu_row hbr, xu_at, eS, upd_ne (by omega), upd_ne (by omega), upd_at, b10]
  · rw [eI _ (by omega) (by omega), eq _ (by omega) (by omega) (by omega) (by omega), bst k hk]
  · exact bRw_keep brw hn20 hlen (fun i hi => by
      have := hX1 i (by omega)
      exact ⟨eI _ (by omega) (by omega), eI _ (by omega) (by omega)⟩) (fun k h1 h2 => eq k (by omega) (by omega) (by omega) (by omega))
  · obtain ⟨t0, t1, t2⟩ := brt j hj
    have hj' := pd j (by omega)
    by_cases hjd : j = d
    · subst hjd
      have hrb : P (P b 3) j ≠ b := by omega
      refine ⟨?_, ?_, ?_⟩
      · rw [xu_ne (Or.inr (by decide)), xu_ne (Or.inr (by decide)), xu_row hrb, xu_row hrb, eq _ (by omega) (by omega) (by omega) (by omega), t0]
      · rw [xu_ne (Or.inr (by decide)), xu_at, eS, upd_ne (by omega), upd_at, t1]
      · rw [xu_at, eS, upd_at, t2]
    · rw [eI _ (by omega) (by omega), eq _ (by omega) (by omega) (by omega) (by omega), eq _ (by omega) (by omega) (by omega) (by omega), eq _ (by omega) (by omega) (by omega) (by omega)]
      exact ⟨t0, t1, t2⟩
