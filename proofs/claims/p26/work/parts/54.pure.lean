/-! a blind that gets a route, a row -/
def rtS (S : Nat → Int32) (q : Nat) (x : Int32) : Nat → Int32 := upd (upd (upd (upd S (351 + 3 * q) x) (352 + 3 * q) 0) (353 + 3 * q) 0) 2 (S 2 + 1)
theorem appRt_ok {I J : xI} {P : xP} {b n q : Nat} {S : Nat → Int32} {x : Int32} (hP : bP P b) (hB : bR I P b S n q) (hinv : invN S n q) (h6 : q < 6) (hJ : J = xu (xu (xu (xu I (P (P b 3) q) 0 x) (P (P b 3) q) 1 0) (P (P b 3) q) 2 0) b 4 (nI (q + 1))) : bR J P b (rtS S q x) n (q + 1) ∧ ∀ c, c < b ∨ b + 50 ≤ c → J c = I c := by
  obtain ⟨hX1, hX2, hX3⟩ := bX hP
  have hlen := inv_len hinv
  obtain ⟨b1, b2, b4, b5, b7, b8, b9, b10, bst, brw, brt⟩ := hB
  obtain ⟨hn20, hn, hq6, hq, hcur, hdr, h8, h9, h10, hrows⟩ := hinv
  obtain ⟨p0, p3, p6, pj, -⟩ := hP
  have pd : ∀ j, j < 6 → P (P b 3) j = b + 43 + j := fun j hj => by rw [p3]; exact pj j hj
  have hpd := pd q h6
  have eq : ∀ k, k ≠ 2 → k ≠ 351 + 3 * q → k ≠ 352 + 3 * q → k ≠ 353 + 3 * q → rtS S q x k = S k := fun k h6 h7 h8 h9 => by unfold rtS; rw [upd_ne h6, upd_ne h9, upd_ne h8, upd_ne h7]
  have eI : ∀ c, c ≠ b → c ≠ P (P b 3) q → J c = I c := fun c hc h2 => by rw [hJ, xu_row hc, xu_row h2, xu_row h2, xu_row h2]
  have hbr : b ≠ P (P b 3) q := by omega
  have eb : ∀ j, j ≠ 4 → J b j = I b j := fun j h1 => by rw [hJ, xu_ne (Or.inr h1), xu_row hbr, xu_row hbr, xu_row hbr]
  refine ⟨⟨?_, ?_, ?_, ?_, ?_, ?_, ?_, ?_, fun k hk => ?_, ?_, fun j hj => ?_⟩, fun c hc => eI c (by omega) (by omega)⟩
  · rw [eb 1 (by decide), eq 0 (by decide) (by omega) (by omega) (by omega), b1]
  · rw [eb 2 (by decide), eq 1 (by decide) (by omega) (by omega) (by omega), b2]
  · rw [hJ, xu_at]; unfold rtS; rw [upd_at, hq, nI_1]
  · rw [eb 5 (by decide), eq 3 (by decide) (by omega) (by omega) (by omega), b5]
  · rw [eb 7 (by decide), eq 4 (by decide) (by omega) (by omega) (by omega), b7]
  · rw [eb 8 (by decide), eq 5 (by decide) (by omega) (by omega) (by omega), b8]
  · rw [eb 9 (by decide), eq 6 (by decide) (by omega) (by omega) (by omega), b9]
  · rw [eb 10 (by decide), eq 7 (by decide) (by omega) (by omega) (by omega), b10]
  · rw [eI _ (by omega) (by omega), eq _ (by omega) (by omega) (by omega) (by omega), bst k hk]
  · exact bRw_keep brw hn20 hlen (fun i hi => by
      have := hX1 i (by omega)
      exact ⟨eI _ (by omega) (by omega), eI _ (by omega) (by omega)⟩) (fun k h1 h2 => eq k (by omega) (by omega) (by omega) (by omega))
  · have hj' := pd j (by omega)
    by_cases hjd : j = q
    · subst hjd
      have hrb : P (P b 3) j ≠ b := by omega
      refine ⟨?_, ?_, ?_⟩
      · rw [hJ, xu_row hrb, xu_ne (Or.inr (by decide)), xu_ne (Or.inr (by decide)), xu_at]; unfold rtS; rw [upd_ne (by omega), upd_ne (by omega), upd_ne (by omega), upd_at]
      · rw [hJ, xu_row hrb, xu_ne (Or.inr (by decide)), xu_at]; unfold rtS; rw [upd_ne (by omega), upd_ne (by omega), upd_at]
      · rw [hJ, xu_row hrb, xu_at]; unfold rtS; rw [upd_ne (by omega), upd_at]
    · rw [eI _ (by omega) (by omega), eq _ (by omega) (by omega) (by omega) (by omega), eq _ (by omega) (by omega) (by omega) (by omega), eq _ (by omega) (by omega) (by omega) (by omega)]
      exact brt j (by omega)
theorem addS_q {S tx : Nat → Int32} {n f e q : Nat} (h0 : q ≠ 0) (h1 : q ≠ 1) (h : q < 11 + 17 * n ∨ 14 + 17 * n + (e - f) ≤ q) : addS S n tx f e q = S q := by
  unfold addS
  rw [if_neg h1, if_neg h0, if_neg (by omega), if_neg (by omega), if_neg (by omega), if_neg (by rw [rngB_f (by omega)]; decide)]
theorem app_ok {I J : xI} {P : xP} {b n q x f e : Nat} {S : Nat → Int32} (hP : bP P b) (hB : bR I P b S n q) (hinv : invN S n q) (h20 : n < 20) (hfe : f ≤ e) (he14 : e - f ≤ 14) (hxo : P x 0 < b ∨ b + 50 ≤ P x 0) (hJ : J = xu (xu (xu (bgI I (P (P b 0) n) (P (P (P b 0) n) 0) (P x 0) f (e - f)) (P (P b 0) n) 2 0) (P (P b 0) n) 3 0) b 1 (nI (n + 1))) : bR J P b (addS S n (I (P x 0)) f e) (n + 1) q ∧ ∀ c, c < b ∨ b + 50 ≤ c → J c = I c := by
  obtain ⟨hX1, hX2, hX3⟩ := bX hP
  have hlen := inv_len hinv
  obtain ⟨b1, b2, b4, b5, b7, b8, b9, b10, bst, brw, brt⟩ := hB
  obtain ⟨hn20, hn, hq6, hq, hcur, hdr, h8, h9, h10, hrows⟩ := hinv
  obtain ⟨p0, p3, p6, pj, -⟩ := hP
  have pd : ∀ j, j < 6 → P (P b 3) j = b + 43 + j := fun j hj => by rw [p3]; exact pj j hj
  obtain ⟨x1, x2, x3⟩ := hX1 n h20
  have hbr : b ≠ P (P b 0) n := by omega
  have hbl : b ≠ P (P (P b 0) n) 0 := by omega
  have eI : ∀ c, c ≠ b → c ≠ P (P b 0) n → c ≠ P (P (P b 0) n) 0 → J c = I c := fun c hc h2 h3 => by rw [hJ, xu_row hc, xu_row h2, xu_row h2]; unfold bgI; rw [xu_row h2, xmp_o h3]
  have eb : ∀ j, j ≠ 1 → J b j = I b j := fun j h1 => by rw [hJ, xu_ne (Or.inr h1), xu_row hbr, xu_row hbr]; unfold bgI; rw [xu_row hbr, xmp_o hbl]
  refine ⟨⟨?_, ?_, ?_, ?_, ?_, ?_, ?_, ?_, fun k hk => ?_, fun i hi => ?_, ?_⟩, fun c hc => eI c (by omega) (by omega) (by omega)⟩
  · rw [hJ, xu_at]; unfold addS; rw [if_neg (by decide), if_pos rfl]
  · rw [eb 2 (by decide), b2]
    unfold addS
    rw [if_pos rfl]
    by_cases h : S 1 < 0
    · rw [if_pos h, if_neg (Int32.not_le.mpr h)]; rfl
    · rw [if_neg h, if_pos (Int32.not_lt.mp h), if_neg h]
  · rw [eb 4 (by decide), addS_q (by decide) (by decide) (by omega), b4]
  · rw [eb 5 (by decide), addS_q (by decide) (by decide) (by omega), b5]
  · rw [eb 7 (by decide), addS_q (by decide) (by decide) (by omega), b7]
  · rw [eb 8 (by decide), addS_q (by decide) (by decide) (by omega), b8]
  · rw [eb 9 (by decide), addS_q (by decide) (by decide) (by omega), b9]
  · rw [eb 10 (by decide), addS_q (by decide) (by decide) (by omega), b10]
  · rw [eI _ (by omega) (by omega) (by omega), addS_q (by omega) (by omega) (by omega), bst k hk]
  · by_cases hin : i = n
    · subst hin
      have hrb : P (P b 0) i ≠ b := by omega
      have hl : sLen (addS S i (I (P x 0)) f e) i = e - f := by
        unfold sLen addS
        rw [if_neg (by omega), if_neg (by omega), if_pos rfl, nI_clamp (by omega)]
      refine ⟨?_, ?_, ?_, fun k hk => ?_⟩
      · rw [hJ, xu_row hrb, xu_ne (Or.inr (by decide)), xu_ne (Or.inr (by decide))]
        unfold bgI addS
        rw [xu_at, if_neg (by omega), if_neg (by omega), if_pos rfl]
      · rw [hJ, xu_row hrb, xu_ne (Or.inr (by decide)), xu_at]
        unfold addS
        rw [if_neg (by omega), if_neg (by omega), if_neg (by omega), if_pos rfl]
      · rw [hJ, xu_row hrb, xu_at]
        unfold addS
        rw [if_neg (by omega), if_neg (by omega), if_neg (by omega), if_neg (by omega), if_pos rfl]
      · rw [hl] at hk
        have hlr : P (P (P b 0) i) 0 ≠ P (P b 0) i := by omega
        rw [hJ, xu_row (by omega), xu_row hlr, xu_row hlr]
        unfold bgI addS
        rw [xu_row hlr, if_neg (by omega), if_neg (by omega), if_neg (by omega), if_neg (by omega), if_neg (by omega)]
        have e1 : rngB (14 + 17 * i) (e - f) (14 + 17 * i + k) = true := by simp [rngB]; omega
        have e2 : rngB 0 (e - f) k = true := by simp [rngB]; omega
        rw [if_pos e1]
        simp only [xmp, e2, and_self, if_true]
        congr 1; omega
    · obtain ⟨y1, y2, y3⟩ := hX1 i (by omega)
      have hne := hX2 i n (by omega) (by omega) hin
      have hne2 := hX3 i n (by omega) (by omega)
      have hne3 := hX3 n i (by omega) (by omega)
      have hi' : i < n := by omega
      have hl : sLen (addS S n (I (P x 0)) f e) i = sLen S i := by unfold sLen; rw [addS_q (by omega) (by omega) (by omega)]
      have := hlen i hi'
      rw [eI _ (by omega) hne hne2, eI _ (by omega) (Ne.symm hne3) (by omega), addS_q (by omega) (by omega) (by omega), addS_q (by omega) (by omega) (by omega), addS_q (by omega) (by omega) (by omega), hl]
      obtain ⟨r1, r2, r3, r4⟩ := brw i hi'
      exact ⟨r1, r2, r3, fun k hk => by rw [addS_q (by omega) (by omega) (by omega)]; exact r4 k hk⟩
  · exact bRt_keep brt (fun j hj => by
      have := pd j (by omega)
      exact eI _ (by omega) (by omega) (by omega)) (fun k hk => addS_q (by omega) (by omega) (by omega))
