/-! names that the law types: their letters, what the class answers of them -/
def nKd (y : Nat) : Nat := if y % 9 < 2 then y % 9 + 1 else 0
def nSz (y : Nat) : Nat := if 0 < nKd y then 5 else 1 + y / 7 % (if y % 4 = 0 then 14 else 7)
def nmF (y k : Nat) : Int32 := if nKd y = 0 then nI (nmL y k (nSz y)) else sch (nKd y - 1) k
theorem nKd_le (y : Nat) : nKd y ≤ 2 := by unfold nKd; split <;> omega
theorem nSz_le (y : Nat) : 1 ≤ nSz y ∧ nSz y ≤ 14 := by
  unfold nSz
  split
  · omega
  · split <;> omega
theorem nmL_c (y k s : Nat) : (nmL y k s = 32 ∧ 0 < k ∧ k + 1 < s ∧ k % 2 = 1) ∨ (65 ≤ nmL y k s ∧ nmL y k s ≤ 90) := by
  unfold nmL
  split
  · rename_i h; exact Or.inl ⟨rfl, h.1, h.2.1, h.2.2.1⟩
  · right
    split <;> omega
theorem nmF_ok (y : Nat) : nameOk (nmF y) (nSz y) := by
  have hs := nSz_le y
  by_cases hk : nKd y = 0
  · have hF : ∀ k, nmF y k = nI (nmL y k (nSz y)) := fun k => by unfold nmF; rw [if_pos hk]
    have h32 : ∀ k, nmF y k = 32 → 0 < k ∧ k + 1 < nSz y ∧ k % 2 = 1 := fun k h => by
      rw [hF] at h
      rcases nmL_c y k (nSz y) with w | w
      · exact w.2
      · have := (nI_eq (b := 32) (by omega) (by decide)).mp h; omega
    refine ⟨fun j hj => ?_, fun h => ?_, fun h => ?_, fun j hj h => ?_⟩
    · rw [hF]
      rcases nmL_c y j (nSz y) with w | w
      · rw [w.1]; exact Or.inl rfl
      · exact Or.inr ⟨nI_le (a := 65) w.1 (by omega), nI_le (b := 90) w.2 (by decide)⟩
    · have := h32 0 h; omega
    · have := h32 _ h; omega
    · have a := h32 _ h.1; have b := h32 _ h.2; omega
  · have h2 := nKd_le y
    have hz : nSz y = 5 := by unfold nSz; rw [if_pos (by omega)]
    have hF : nmF y = sch (nKd y - 1) := by funext k; unfold nmF; rw [if_neg hk]
    have key : ∀ i : Fin 2, (∀ j : Fin 5, sch i.1 j.1 = 32 ∨ (65 ≤ sch i.1 j.1 ∧ sch i.1 j.1 ≤ 90)) ∧ sch i.1 0 ≠ 32 ∧ sch i.1 4 ≠ 32 ∧ ∀ j : Fin 4, ¬ (sch i.1 j.1 = 32 ∧ sch i.1 (j.1 + 1) = 32) := by decide +kernel
    obtain ⟨k1, k2, k3, k4⟩ := key ⟨nKd y - 1, by omega⟩
    rw [hF, hz]
    exact ⟨fun j hj => k1 ⟨j, hj⟩, k2, k3, fun j hj => k4 ⟨j, by omega⟩⟩
theorem nmF_l {y k : Nat} (h : k < nSz y) : okL (nmF y k) := (nmF_ok y).1 k h
theorem okL_ty {t : Nat} {c : Int32} (h : okL c) (ht : t < 60) : okType (nI t) c = true ∧ aType (nI t) c = nI (t + 1) := by
  obtain ⟨j, rfl, h1, -⟩ := okL_n h
  have hi : ¬ inr (nI j) 32 126 = 0 := by
    unfold inr
    rw [if_neg (show ¬ nI j < 32 from nI_nlt (a := j) (b := 32) (by omega) (by omega)), if_neg (show ¬ 126 < nI j from nI_nlt (a := 126) (b := j) (by omega) (by decide))]
    decide
  have h6 : ¬ nI t = 60 := fun e => by have := (nI_eq (b := 60) (by omega) (by decide)).mp e; omega
  exact ⟨by rw [okType, if_neg hi, if_neg h6], by rw [aType, if_neg hi, if_neg h6, nI_1]⟩
theorem okL_47 {c : Int32} (h : okL c) : ¬ c = 47 := by
  obtain ⟨j, rfl, h1, -⟩ := okL_n h
  exact fun e => by have := (nI_eq (b := 47) (by omega) (by decide)).mp e; omega
theorem okL_let {c : Int32} (h : okL c) (h2 : ¬ c = 32) : isLetT c = true := by
  have h3 := h.resolve_left h2
  unfold isLetT inr
  rw [if_neg (Int32.not_lt.mpr h3.1), if_neg (Int32.not_lt.mpr h3.2)]
  decide
theorem tx_of {tx F : Nat → Int32} {s : Nat} (h : ∀ j, j < s → tx j = F j) (hn : nameOk F s) (h1 : 1 ≤ s) (h14 : s ≤ 14) : fmE tx s 0 = s ∧ fmOk tx s 0 = true ∧ nmW tx 0 s = wsum F s ∧ ncnt tx s = 0 := by
  obtain ⟨n1, n2, n3, n4⟩ := hn
  have hE : fmE tx s 0 = s := by
    refine fmE_at (Nat.zero_le _) (Nat.le_refl _) (fun i _ hi => ?_) (by simp [fmP, isEndT])
    have ho : okL (F i) := n1 i hi
    have hm : mayT tx 0 i = true := by
      unfold mayT
      rw [decide_eq_true (show i - 0 < 14 by omega), Bool.true_and]
      by_cases e : tx i = 32
      · have hi0 : 0 < i := by
          rcases Nat.eq_zero_or_pos i with w | w
          · rw [w, h 0 (by omega)] at e; exact absurd e n2
          · exact w
        have hp : ¬ tx (i - 1) = 32 := fun e2 => by
          rw [h _ (by omega)] at e2
          rw [h i hi] at e
          exact n4 (i - 1) (by omega) ⟨e2, by rw [show i - 1 + 1 = i by omega]; exact e⟩
        rw [decide_eq_true e, decide_eq_true hi0, decide_eq_true hp]; simp
      · rw [okL_let (by rw [h i hi]; exact ho) e, Bool.true_or]
    unfold fmP isEndT
    rw [decide_eq_false (show ¬ i = s by omega), decide_eq_false (by rw [h i hi]; exact okL_47 ho), hm]
    rfl
  refine ⟨hE, ?_, ?_, ?_⟩
  · unfold fmOk
    rw [hE, decide_eq_true (show 0 < s by omega), decide_eq_true (show ¬ tx (s - 1) = 32 by rw [h _ (by omega)]; exact n3)]
    simp [isEndT]
  · unfold nmW
    rw [Nat.sub_zero]
    exact wsum_congr (fun j hj => by rw [Nat.zero_add]; exact h j hj)
  · have key : ∀ k, k ≤ s → ncnt tx k = 0 := by
      intro k
      induction k with
      | zero => intro _; rfl
      | succ k ih =>
        intro hk
        rw [ncnt, ih (by omega), if_neg (by rw [h k (by omega)]; exact okL_47 (n1 k (by omega)))]
    exact key s (Nat.le_refl s)
theorem nm_red {S tx F : Nat → Int32} {n s : Nat} (h : ∀ j, j < s → tx j = F j) (hn : nameOk F s) (h1 : 1 ≤ s) (h14 : s ≤ 14) : nmR S n tx s 0 = (if sq (S 8) (wsum F s) ≤ 150 then (if n = 20 then 3 else 0) else 2) ∧ nmC S n tx s 0 = if sq (S 8) (wsum F s) ≤ 150 then nI s else sq (S 8) (wsum F s) := by
  obtain ⟨e1, e2, e3, -⟩ := tx_of h hn h1 h14
  unfold nmR nmC
  rw [e1, e2, e3, Nat.sub_zero, if_neg (show ¬ (true = false) by decide), if_neg (show ¬ (true = false) by decide)]
  exact ⟨rfl, rfl⟩
/-- a name that can't be added -/
theorem aa_no {S tx F : Nat → Int32} {n s : Nat} (hcn : cN S = n) (h : ∀ j, j < s → tx j = F j) (hn : nameOk F s) (h1 : 1 ≤ s) (h14 : s ≤ 14) {r z : Int32} (hr : nmR S n tx s 0 = r) (h0 : ¬ r = 0) (hz : nmC S n tx s 0 = z) : aFault S tx s 0 = 0 ∧ aFault S tx s 1 = r ∧ aFault S tx s 2 = z ∧ okAdd S tx s = false ∧ aAdd S tx s = -1000002 := by
  have e : aaA S tx s = (r, z, 0, S, 1) := by unfold aaA; rw [hcn, aaR_no (by rw [hr]; exact h0), hr, hz]
  have ho : okAdd S tx s = false := by unfold okAdd; rw [e]; exact decide_eq_false h0
  refine ⟨?_, ?_, ?_, ho, by rw [aAdd, if_neg (by rw [ho]; decide)]⟩
  · rw [aFault, if_neg (by decide), e, if_neg h0, if_pos rfl]; rfl
  · rw [aFault, if_neg (by decide), e, if_neg h0, if_neg (by decide), if_pos rfl]
  · rw [aFault, if_neg (by decide), e, if_neg h0, if_neg (by decide), if_neg (by decide)]
/-- a name that can be added -/
theorem aa_yes {S tx F : Nat → Int32} {n s : Nat} (hcn : cN S = n) (h : ∀ j, j < s → tx j = F j) (hn : nameOk F s) (h1 : 1 ≤ s) (h14 : s ≤ 14) (hr : nmR S n tx s 0 = 0) : aFault S tx s 0 = -1000004 ∧ aFault S tx s 1 = -1000004 ∧ aFault S tx s 2 = -1000004 ∧ okAdd S tx s = true ∧ aAdd S tx s = 1 ∧ sAdd S tx s = addS S n tx 0 s := by
  obtain ⟨e1, -⟩ := tx_of h hn h1 h14
  have e : aaA S tx s = (0, 0, 0, addS S n tx 0 s, 1) := by unfold aaA; rw [hcn, aaR_end hr (by rw [e1]; omega), e1]
  have ho : okAdd S tx s = true := by unfold okAdd; rw [e]; exact decide_eq_true rfl
  refine ⟨?_, ?_, ?_, ho, by rw [aAdd, if_pos ho, e]; rfl, by rw [sAdd, if_pos ho, e]⟩
  · rw [aFault, if_neg (by decide), e, if_pos rfl]
  · rw [aFault, if_neg (by decide), e, if_pos rfl]
  · rw [aFault, if_neg (by decide), e, if_pos rfl]
theorem eqN_iff {f g : Nat → Int32} : ∀ {k : Nat}, eqN f g k = true ↔ ∀ j, j < k → f j = g j
  | 0 => ⟨fun _ j hj => absurd hj (by omega), fun _ => rfl⟩
  | k + 1 => by
    rw [eqN, Bool.and_eq_true, decide_eq_true_eq, eqN_iff (k := k)]
    constructor
    · intro h j hj
      rcases Nat.lt_or_ge j k with w | w
      · exact h.1 j w
      · rw [show j = k by omega]; exact h.2
    · intro h
      exact ⟨fun j hj => h j (by omega), h k (by omega)⟩
theorem isNm_iff {S tx : Nat → Int32} {t r : Nat} : isNm S tx t r = true ↔ sLen S r = t ∧ ∀ j, j < t → sLet S r j = tx j := by
  unfold isNm
  rw [Bool.and_eq_true, decide_eq_true_eq, eqN_iff]
/-- the row that is added -/
theorem addS_row {S tx : Nat → Int32} {n s : Nat} (hs : s ≤ 14) : addS S n tx 0 s (11 + 17 * n) = nI s ∧ addS S n tx 0 s (12 + 17 * n) = 0 ∧ addS S n tx 0 s (13 + 17 * n) = 0 ∧ sLen (addS S n tx 0 s) n = s ∧ ∀ j, j < s → sLet (addS S n tx 0 s) n j = tx j := by
  have a : addS S n tx 0 s (11 + 17 * n) = nI s := by
    unfold addS
    rw [if_neg (by omega), if_neg (by omega), if_pos rfl, Nat.sub_zero]
  refine ⟨a, ?_, ?_, sLen_of a (by omega), fun j hj => ?_⟩
  · unfold addS
    rw [if_neg (by omega), if_neg (by omega), if_neg (by omega), if_pos rfl]
  · unfold addS
    rw [if_neg (by omega), if_neg (by omega), if_neg (by omega), if_neg (by omega), if_pos rfl]
  · unfold sLet addS
    rw [if_neg (by omega), if_neg (by omega), if_neg (by omega), if_neg (by omega), if_neg (by omega), if_pos (rngB_t (by omega)), Nat.zero_add, show 14 + 17 * n + j - (14 + 17 * n) = j by omega]
theorem lA_c {I : xI} {P : xP} {S : Nat → Int32} {n q m v : Nat} (h : lA I P S n q) (hm : 2 * n ≤ m) : lA I (xu P 259 m v) S n q := by
  obtain ⟨h1, h2, h3⟩ := h
  refine ⟨h1, fun i hi => ?_, h3⟩
  obtain ⟨a1, a2, a3, a4, a5⟩ := h2 i hi
  exact ⟨a1, a2, a3, a4, fun b hb => by rw [xu_ne (Or.inr (by omega))]; exact a5 b hb⟩
theorem lA_o {I : xI} {P : xP} {S : Nat → Int32} {n q c k : Nat} {v : Int32} (h : lA I P S n q) (hc : c = 256 ∨ c = 257 ∨ c = 258) (hk : n ≤ k) : lA (xu I c k v) P S n q := by
  obtain ⟨h1, h2, h3⟩ := h
  refine ⟨fun j hj => by rw [xu_row (by omega)]; exact h1 j hj, fun i hi => ?_, fun j hj t ht => by rw [xu_row (by omega)]; exact h3 j hj t ht⟩
  rw [xu_ne (j := i) (b := 256) (Or.inr (by omega)), xu_ne (j := i) (b := 257) (Or.inr (by omega)), xu_ne (j := i) (b := 258) (Or.inr (by omega))]
  exact h2 i hi
theorem lA_add {I : xI} {P : xP} {S tx F : Nat → Int32} {n q s : Nat} (h : lA I P S n q) (hn : n < 20) (hs : s ≤ 14) (htx : ∀ j, j < s → tx j = F j) (h1 : I 256 n = nI s) (h2 : I 257 n = 0) (h3 : I 258 n = 0) (hP : ∀ b, b < 2 → P 259 (2 * n + b) = pkX F s b) : lA (xu (xu I 255 0 (nI (n + 1))) 255 1 (if 0 ≤ S 1 then S 1 else 0)) P (addS S n tx 0 s) (n + 1) q := by
  obtain ⟨a1, a2, a3⟩ := h
  obtain ⟨r1, r2, r3, r4, r5⟩ := addS_row (S := S) (tx := tx) (n := n) hs
  refine ⟨fun k hk => ?_, fun i hi => ?_, fun j hj t ht => ?_⟩
  · by_cases e1 : k = 1
    · subst e1; rw [xu_at]; unfold addS; rw [if_pos rfl]
    · rw [xu_ne (Or.inr e1)]
      by_cases e0 : k = 0
      · subst e0; rw [xu_at, addS_0]
      · rw [xu_ne (Or.inr e0), addS_q e0 e1 (Or.inl (by omega))]; exact a1 k hk
  · rw [xu_row (b := 256) (by decide), xu_row (b := 256) (by decide), xu_row (b := 257) (by decide), xu_row (b := 257) (by decide), xu_row (b := 258) (by decide), xu_row (b := 258) (by decide)]
    by_cases e : i = n
    · subst e
      rw [r1, r2, r3, r4]
      exact ⟨h1, h2, h3, hs, fun b hb => by rw [hP b hb]; exact pkX_congr (fun k hk => by rw [r5 k hk, htx k hk])⟩
    · obtain ⟨b1, b2, b3, b4, b5⟩ := a2 i (by omega)
      have hq : ∀ k, k < 17 → addS S n tx 0 s (11 + 17 * i + k) = S (11 + 17 * i + k) := fun k hk => addS_r (by omega) hk
      have hl : sLen (addS S n tx 0 s) i = sLen S i := by unfold sLen; rw [show 11 + 17 * i = 11 + 17 * i + 0 by omega, hq 0 (by decide)]
      have hf : ∀ j, j < 14 → sLet (addS S n tx 0 s) i j = sLet S i j := fun j hj => by
        unfold sLet; rw [show 14 + 17 * i + j = 11 + 17 * i + (3 + j) by omega, hq _ (by omega)]
      have e12 := hq 1 (by decide)
      have e13 := hq 2 (by decide)
      have e11 := hq 0 (by decide)
      rw [show 11 + 17 * i + 1 = 12 + 17 * i by omega] at e12
      rw [show 11 + 17 * i + 2 = 13 + 17 * i by omega] at e13
      rw [Nat.add_zero] at e11
      rw [e11, e12, e13, hl]
      exact ⟨b1, b2, b3, b4, fun b hb => by rw [b5 b hb]; exact (pkX_far hf b4).symm⟩
  · rw [xu_row (by decide), xu_row (by decide), addS_far hn (by omega) (by omega)]; exact a3 j hj t ht
theorem wn_0 {k : Nat} (h : k < 5) : ((0x4445504f54 : Int64) >>> (((8 : Int32) * (4 - nI k)).toInt64 &&& 63) &&& 255).toInt32 = sch 0 k := by
  have key : ∀ k : Fin 5, ((0x4445504f54 : Int64) >>> (((8 : Int32) * (4 - nI k.1)).toInt64 &&& 63) &&& 255).toInt32 = sch 0 k.1 := by decide +kernel
  exact key ⟨k, h⟩
theorem wn_1 {k : Nat} (h : k < 5) : ((0x534f525259 : Int64) >>> (((8 : Int32) * (4 - nI k)).toInt64 &&& 63) &&& 255).toInt32 = sch 1 k := by
  have key : ∀ k : Fin 5, ((0x534f525259 : Int64) >>> (((8 : Int32) * (4 - nI k.1)).toInt64 &&& 63) &&& 255).toInt32 = sch 1 k.1 := by decide +kernel
  exact key ⟨k, h⟩
/-- a letter put among the packed ones -/
theorem pk_put {X k : Nat} {c : Int32} (hX : X < 2 ^ 60) (hc : okL c) : Int64.ofNat X ||| (c - 31).toInt64 <<< (((6 : Int32) * (nI k - nI k / 10 * 10)).toInt64 &&& 63) = Int64.ofNat (X ||| dg c * 2 ^ (6 * (k % 10))) ∨ 2 ^ 31 ≤ k := by
  rcases Nat.lt_or_ge k (2 ^ 31) with hk | hk
  · left
    have h1 := okL_dg hc
    have h2 : dg c * 2 ^ (6 * (k % 10)) < 2 ^ 60 := by
      have h3 : (2 : Nat) ^ (6 * (k % 10)) ≤ 2 ^ 54 := Nat.pow_le_pow_right (by decide) (by omega)
      have h4 := Nat.mul_le_mul_left (dg c) h3
      omega
    rw [sh_c hk, okL_dn hc, l_i2l (by omega), l_shl (by omega) (by omega), l_or (by omega) (by omega)]
  · exact Or.inr hk
theorem find_at {S tx : Nat → Int32} {t n f : Nat} (hf : f < n) (h1 : isNm S tx t f = true) (h2 : ∀ i, i < f → isNm S tx t i = false) : aFind S tx t n = nI f := by
  have e : srch (isNm S tx t) n 0 = f := srch_at n 0 f (Nat.zero_le _) (by omega) (fun i _ hi => h2 i hi) (Or.inr h1)
  rw [aFind, e, if_neg (by omega)]
theorem find_0 {S tx : Nat → Int32} {n q : Nat} (hi : invN S n q) : aFind S tx 0 n = -1000004 := by
  have e : srch (isNm S tx 0) n 0 = n := srch_at n 0 n (Nat.zero_le _) (by omega) (fun i _ h => by
    have := row_len hi h
    unfold isNm
    rw [decide_eq_false (by omega)]; rfl) (Or.inl (by omega))
  rw [aFind, if_pos e]
/-- the counts behind an added name -/
theorem lC_add {S tx : Nat → Int32} {n q c s : Nat} (h : lC S n q c) (hn : n < 20) (hs : s ≤ 14) : lC (addS S n tx 0 s) (n + 1) q (c + 1) := lC_keep h (addS_q (by decide) (by decide) (Or.inl (by omega))) (addS_q (by decide) (by decide) (Or.inl (by omega))) (fun i hi => addS_far hn (by omega) hi) (by omega)
