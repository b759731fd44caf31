/-! the class' way through a text's names against the model's -/
theorem aaR_no {tx S : Nat → Int32} {t w n f : Nat} (h : ¬ nmR S n tx t f = 0) : aaR tx t (w + 1) S n f = (nmR S n tx t f, nmC S n tx t f, f, S, 1) := by rw [aaR, if_neg h]
theorem aaR_end {tx S : Nat → Int32} {t w n f : Nat} (h : nmR S n tx t f = 0) (he : ¬ fmE tx t f < t) : aaR tx t (w + 1) S n f = (0, 0, f, addS S n tx f (fmE tx t f), 1) := by rw [aaR, if_pos h, if_neg he]
theorem aaR_go {tx S : Nat → Int32} {t w n f : Nat} (h : nmR S n tx t f = 0) (he : fmE tx t f < t) : aaR tx t (w + 1) S n f = ((aaR tx t w (addS S n tx f (fmE tx t f)) (n + 1) (fmE tx t f + 1)).1, (aaR tx t w (addS S n tx f (fmE tx t f)) (n + 1) (fmE tx t f + 1)).2.1, (aaR tx t w (addS S n tx f (fmE tx t f)) (n + 1) (fmE tx t f + 1)).2.2.1, (aaR tx t w (addS S n tx f (fmE tx t f)) (n + 1) (fmE tx t f + 1)).2.2.2.1, (aaR tx t w (addS S n tx f (fmE tx t f)) (n + 1) (fmE tx t f + 1)).2.2.2.2 + 1) := by rw [aaR, if_pos h, if_pos he]
/-- where the fault is, the class finds its reason and its cause -/
theorem aa_at {S tx : Nat → Int32} {t n : Nat} (h60 : t ≤ 60) : ∀ (w : Nat) (S' : Nat → Int32) (f : Nat), f ≤ t → S' 8 = S 8 → n + ncnt tx f ≤ 20 → t < w + f → ¬ (aaR tx t w S' (n + ncnt tx f) f).1 = 0 → (aaR tx t w S' (n + ncnt tx f) f).2.2.1 ≤ t ∧ frC S n tx t (aaR tx t w S' (n + ncnt tx f) f).2.2.1 = (aaR tx t w S' (n + ncnt tx f) f).1 ∧ fcC S n tx t (aaR tx t w S' (n + ncnt tx f) f).2.2.1 = (aaR tx t w S' (n + ncnt tx f) f).2.1
  | 0, S', f, hf, _, _, hw => by omega
  | w + 1, S', f, hf, h8, h20, hw => by
    by_cases h : nmR S' (n + ncnt tx f) tx t f = 0
    · obtain ⟨h1, h2⟩ := nmR_n h
      obtain ⟨he, -⟩ := fm_ok hf h2
      obtain ⟨q1, q2⟩ := ncnt_eon (tx := tx) hf
      have hel := eon_le (tx := tx) hf
      by_cases hl : eon tx t f < t
      · rw [aaR_go h (by rw [he]; exact hl), he]
        have ih := aa_at (S := S) (n := n) h60 w (addS S' (n + ncnt tx f) tx f (eon tx t f)) (eon tx t f + 1) (by omega) (by rw [addS_8]; exact h8) (by rw [q2 hl]; omega) (by omega)
        rw [q2 hl, ← Nat.add_assoc] at ih
        exact ih
      · rw [aaR_end h (by rw [he]; exact hl)]
        exact fun h0 => absurd rfl h0
    · rw [aaR_no h]
      exact fun _ => ⟨hf, frC_eq hf h60 h8 h20, fcC_eq hf h60 h8 h20⟩
/-- where the fault of the text is, -1 if there is none -/
def fpO (S tx : Nat → Int32) (t : Nat) : Int32 := if (aaA S tx t).1 = 0 then -1 else nI (aaA S tx t).2.2.1
theorem fpO_cases {S tx : Nat → Int32} {t n : Nat} (h60 : t ≤ 60) (hn : cN S = n) (h20 : n ≤ 20) : ((aaA S tx t).1 = 0 ∧ fpO S tx t = -1) ∨ (¬ (aaA S tx t).1 = 0 ∧ ∃ f, f ≤ t ∧ (aaA S tx t).2.2.1 = f ∧ fpO S tx t = nI f ∧ frC S n tx t f = (aaA S tx t).1 ∧ fcC S n tx t f = (aaA S tx t).2.1) := by
  by_cases h : (aaA S tx t).1 = 0
  · exact Or.inl ⟨h, by rw [fpO, if_pos h]⟩
  · refine Or.inr ⟨h, (aaA S tx t).2.2.1, ?_⟩
    have e : aaA S tx t = aaR tx t (t + 1) S (n + ncnt tx 0) 0 := by unfold aaA; rw [hn]; rfl
    have k := aa_at (S := S) (tx := tx) (n := n) h60 (t + 1) S 0 (Nat.zero_le t) rfl (by show n + 0 ≤ 20; omega) (by omega) (by rw [← e]; exact h)
    rw [← e] at k
    exact ⟨k.1, rfl, by rw [fpO, if_neg h], k.2.1, k.2.2⟩
/-- behind k names that can be added, at the place f -/
def fpI (S tx : Nat → Int32) (t n k f : Nat) : Prop := (f ≤ t ∧ ncnt tx f = k ∧ n + k ≤ 20 ∧ k ≤ ncnt tx t ∧ ∃ S' w, S' 8 = S 8 ∧ t < w + f ∧ (aaA S tx t).1 = (aaR tx t w S' (n + k) f).1 ∧ (aaA S tx t).2.2.1 = (aaR tx t w S' (n + k) f).2.2.1) ∨ (k = ncnt tx t + 1 ∧ (aaA S tx t).1 = 0 ∧ f ≤ t + 1)
theorem fpI_0 {S tx : Nat → Int32} {t n : Nat} (hn : cN S = n) (h20 : n ≤ 20) : fpI S tx t n 0 0 :=
  Or.inl ⟨Nat.zero_le _, rfl, by omega, Nat.zero_le _, S, t + 1, rfl, by omega, by unfold aaA; rw [hn]; rfl, by unfold aaA; rw [hn]; rfl⟩
theorem fpI_at {S tx : Nat → Int32} {t n k f : Nat} (h60 : t ≤ 60) (h : fpI S tx t n k f) (hk : k < ncnt tx t + 1) : f ≤ t ∧ (¬ frC S n tx t f = 0 → fpO S tx t = nI f) ∧ (frC S n tx t f = 0 → fpI S tx t n (k + 1) (eon tx t f + 1)) := by
  rcases h with ⟨hf, hc, h20, hct, S', w, h8, hw, e1, e3⟩ | ⟨h1, -⟩
  · subst hc
    have hfr := frC_eq (S := S) (S' := S') (tx := tx) hf h60 h8 h20
    obtain ⟨w, rfl⟩ : ∃ v, w = v + 1 := ⟨w - 1, by omega⟩
    refine ⟨hf, fun h => ?_, fun h => ?_⟩
    · rw [hfr] at h
      rw [aaR_no h] at e1 e3
      unfold fpO
      rw [if_neg (by rw [e1]; exact h), e3]
    · rw [hfr] at h
      obtain ⟨h1, h2⟩ := nmR_n h
      obtain ⟨he, -⟩ := fm_ok hf h2
      obtain ⟨q1, q2⟩ := ncnt_eon (tx := tx) hf
      have hel := eon_le (tx := tx) hf
      by_cases hl : eon tx t f < t
      · rw [aaR_go h (by rw [he]; exact hl), he] at e1 e3
        have hm := ncnt_mono (tx := tx) (show eon tx t f + 1 ≤ t by omega)
        rw [q2 hl] at hm
        exact Or.inl ⟨by omega, q2 hl, by omega, hm, addS S' (n + ncnt tx f) tx f (eon tx t f), w, by rw [addS_8]; exact h8, by omega, e1, e3⟩
      · rw [aaR_end h (by rw [he]; exact hl)] at e1
        have e : eon tx t f = t := by omega
        rw [e] at q1 ⊢
        exact Or.inr ⟨by omega, e1, by omega⟩
  · omega
theorem fpI_end {S tx : Nat → Int32} {t n f : Nat} (h : fpI S tx t n (ncnt tx t + 1) f) : fpO S tx t = -1 := by
  rcases h with ⟨-, -, -, h1, -⟩ | ⟨-, h1, -⟩
  · omega
  · rw [fpO, if_pos h1]
theorem fpI_le {S tx : Nat → Int32} {t n k f : Nat} (h : fpI S tx t n k f) : f ≤ t + 1 := by
  rcases h with ⟨h1, -⟩ | ⟨-, -, h1⟩ <;> omega
theorem let_btw {c : Int32} (h : isLetT c = true) : 65 ≤ c ∧ c ≤ 90 := by
  unfold isLetT inr at h
  simp only [decide_eq_true_eq] at h
  by_cases h1 : c < 65
  · rw [if_pos h1] at h; exact absurd rfl h
  · by_cases h2 : 90 < c
    · rw [if_neg h1, if_pos h2] at h; exact absurd rfl h
    · exact ⟨Int32.not_lt.mp h1, Int32.not_lt.mp h2⟩
theorem nm_ok {tx : Nat → Int32} {t f : Nat} (hf : f ≤ t) (ho : fmOk tx t f = true) : nameOk (fun j => tx (f + j)) (fmE tx t f - f) := by
  obtain ⟨h14, h1⟩ := fmE_14 hf ho
  have hq : ∀ i, f ≤ i → i < fmE tx t f → mayT tx f i = true := fun i h1 h2 => by
    have := fmE_b (tx := tx) (t := t) h1 h2
    simp only [fmP, Bool.or_eq_false_iff, Bool.not_eq_false'] at this
    exact this.2
  have hm : ∀ i, f ≤ i → i < fmE tx t f → isLetT (tx i) = true ∨ (tx i = 32 ∧ f < i ∧ ¬ tx (i - 1) = 32) := fun i h1 h2 => by
    have := hq i h1 h2
    simp only [mayT, Bool.and_eq_true, Bool.or_eq_true, decide_eq_true_eq] at this
    exact this.2
  have hl : ∀ c, isLetT c = true → c ≠ 32 := fun c h e => by
    rw [e] at h; exact absurd h (by decide)
  simp only [fmOk, Bool.and_eq_true, decide_eq_true_eq] at ho
  refine ⟨fun j hj => ?_, ?_, ?_, fun j hj => ?_⟩
  · rcases hm (f + j) (by omega) (by omega) with w | w
    · exact Or.inr (let_btw w)
    · exact Or.inl w.1
  · rcases hm f (by omega) (by omega) with w | w
    · exact hl _ w
    · omega
  · show tx (f + (fmE tx t f - f - 1)) ≠ 32
    rw [show f + (fmE tx t f - f - 1) = fmE tx t f - 1 by omega]
    exact ho.2.2
  · rcases hm (f + (j + 1)) (by omega) (by omega) with w | w
    · exact fun e => hl _ w e.2
    · exact fun e => w.2.2 (by rw [show f + (j + 1) - 1 = f + j by omega]; exact e.1)
theorem addS_r {S tx : Nat → Int32} {n f e r k : Nat} (hr : r < n) (hk : k < 17) : addS S n tx f e (11 + 17 * r + k) = S (11 + 17 * r + k) := addS_q (by omega) (by omega) (by omega)
theorem addS_inv {S tx : Nat → Int32} {n q t f : Nat} (hi : invN S n q) (hf : f ≤ t) (h : nmR S n tx t f = 0) : invN (addS S n tx f (fmE tx t f)) (n + 1) q := by
  obtain ⟨h1, h2⟩ := nmR_n h
  obtain ⟨h14, hlt⟩ := fmE_14 hf h2
  have hnm := nm_ok hf h2
  obtain ⟨hn20, hn, hq6, hq, hcur, hdr, h8, h9, h10, hrows⟩ := hi
  have e : ∀ k, k ≠ 0 → k ≠ 1 → k < 11 → addS S n tx f (fmE tx t f) k = S k := fun k k0 k1 k2 => addS_q k0 k1 (by omega)
  have e1 : addS S n tx f (fmE tx t f) 1 = if 0 ≤ S 1 then S 1 else 0 := by unfold addS; rw [if_pos rfl]
  refine ⟨by omega, addS_0, hq6, by rw [e 2 (by decide) (by decide) (by decide)]; exact hq, Or.inr ?_, by rw [e 3 (by decide) (by decide) (by decide)]; exact hdr, by rw [e 8 (by decide) (by decide) (by decide)]; exact h8, by rw [e 9 (by decide) (by decide) (by decide)]; exact h9, by rw [e 10 (by decide) (by decide) (by decide)]; exact h10, fun r hr => ?_⟩
  · rw [e1]
    rcases hcur with ⟨w1, w2⟩ | ⟨a, w1, w2⟩
    · exact ⟨0, by omega, by rw [w2, if_neg (by decide)]; rfl⟩
    · exact ⟨a, by omega, by rw [w2, if_pos (Int32.not_lt.mp (nI_pos (by omega)))]⟩
  · by_cases hrn : r < n
    · obtain ⟨L, l1, l2, l3, l4, l5⟩ := hrows r hrn
      have g0 : addS S n tx f (fmE tx t f) (11 + 17 * r) = S (11 + 17 * r) := addS_r (k := 0) hrn (by decide)
      have g2 : addS S n tx f (fmE tx t f) (13 + 17 * r) = S (13 + 17 * r) := by rw [show 13 + 17 * r = 11 + 17 * r + 2 by omega]; exact addS_r hrn (by decide)
      have gl : ∀ j, j < 14 → sLet (addS S n tx f (fmE tx t f)) r j = sLet S r j := fun j hj => by
        unfold sLet
        rw [show 14 + 17 * r + j = 11 + 17 * r + (j + 3) by omega]; exact addS_r hrn (by omega)
      refine ⟨L, l1, l2, by rw [g0]; exact l3, ?_, by rw [g2]; exact l5⟩
      obtain ⟨n1, n2, n3, n4⟩ := l4
      refine ⟨fun j hj => by rw [gl j (by omega)]; exact n1 j hj, by rw [gl 0 (by omega)]; exact n2, by rw [gl _ (by omega)]; exact n3, fun j hj => by rw [gl j (by omega), gl _ (by omega)]; exact n4 j hj⟩
    · have ern : r = n := by omega
      subst ern
      have g0 : addS S r tx f (fmE tx t f) (11 + 17 * r) = nI (fmE tx t f - f) := by
        unfold addS; rw [if_neg (by omega), if_neg (by omega), if_pos rfl]
      have g2 : addS S r tx f (fmE tx t f) (13 + 17 * r) = 0 := by
        unfold addS; rw [if_neg (by omega), if_neg (by omega), if_neg (by omega), if_neg (by omega), if_pos rfl]
      have gl : ∀ j, j < fmE tx t f - f → sLet (addS S r tx f (fmE tx t f)) r j = tx (f + j) := fun j hj => by
        unfold sLet addS
        rw [if_neg (by omega), if_neg (by omega), if_neg (by omega), if_neg (by omega), if_neg (by omega), if_pos (rngB_t ⟨by omega, by omega⟩)]
        congr 1; omega
      refine ⟨fmE tx t f - f, by omega, h14, g0, ?_, Or.inl g2⟩
      obtain ⟨n1, n2, n3, n4⟩ := hnm
      refine ⟨fun j hj => by rw [gl j (by omega)]; exact n1 j hj, by rw [gl 0 (by omega)]; exact n2, by rw [gl _ (by omega)]; exact n3, fun j hj => by rw [gl j (by omega), gl _ (by omega)]; exact n4 j hj⟩
/-- behind k names that have been added, at the place f, with the array S' -/
def adI (S tx : Nat → Int32) (t n k f : Nat) (S' : Nat → Int32) : Prop := n + k ≤ 20 ∧ ((f ≤ t ∧ ncnt tx f = k ∧ k ≤ ncnt tx t ∧ S' 8 = S 8 ∧ ∃ w, t < w + f ∧ (aaA S tx t).1 = (aaR tx t w S' (n + k) f).1 ∧ (aaA S tx t).2.2.2.1 = (aaR tx t w S' (n + k) f).2.2.2.1 ∧ (aaA S tx t).2.2.2.2 = (aaR tx t w S' (n + k) f).2.2.2.2 + k) ∨ (k = ncnt tx t + 1 ∧ (aaA S tx t).2.2.2.1 = S' ∧ (aaA S tx t).2.2.2.2 = k ∧ f ≤ t + 1))
theorem adI_0 {S tx : Nat → Int32} {t n : Nat} (hn : cN S = n) (h20 : n ≤ 20) : adI S tx t n 0 0 S :=
  ⟨by omega, Or.inl ⟨Nat.zero_le _, rfl, Nat.zero_le _, rfl, t + 1, by omega, by unfold aaA; rw [hn]; rfl, by unfold aaA; rw [hn]; rfl, by unfold aaA; rw [hn]; rfl⟩⟩
theorem adI_at {S tx S' : Nat → Int32} {t n q k f : Nat} (h : adI S tx t n k f S') (hk : k < ncnt tx t + 1) (h0 : (aaA S tx t).1 = 0) (hi : invN S' (n + k) q) : f ≤ t ∧ f ≤ eon tx t f ∧ eon tx t f ≤ t ∧ eon tx t f - f ≤ 14 ∧ n + k < 20 ∧ adI S tx t n (k + 1) (eon tx t f + 1) (addS S' (n + k) tx f (eon tx t f)) ∧ invN (addS S' (n + k) tx f (eon tx t f)) (n + (k + 1)) q := by
  obtain ⟨h20, ⟨hf, hc, hct, h8, w, hw, e1, e4, e5⟩ | ⟨h1, -⟩⟩ := h
  · subst hc
    obtain ⟨w, rfl⟩ : ∃ v, w = v + 1 := ⟨w - 1, by omega⟩
    have h : nmR S' (n + ncnt tx f) tx t f = 0 := Classical.byContradiction fun h => by
      rw [aaR_no h, h0] at e1; exact h e1.symm
    obtain ⟨h1, h2⟩ := nmR_n h
    obtain ⟨he, -⟩ := fm_ok hf h2
    obtain ⟨q1, q2⟩ := ncnt_eon (tx := tx) hf
    have hel := eon_le (tx := tx) hf
    have h14 := fmE_14 hf h2
    have hin := addS_inv hi hf h
    rw [he] at h14 hin
    refine ⟨hf, hel.1, hel.2, h14.1, by omega, ⟨by omega, ?_⟩, hin⟩
    by_cases hl : eon tx t f < t
    · rw [aaR_go h (by rw [he]; exact hl), he] at e1 e4 e5
      have hm := ncnt_mono (tx := tx) (show eon tx t f + 1 ≤ t by omega)
      rw [q2 hl] at hm
      exact Or.inl ⟨by omega, q2 hl, hm, by rw [addS_8]; exact h8, w, by omega, e1, e4, e5.trans ((Nat.add_assoc _ 1 _).trans (congrArg _ (Nat.add_comm 1 _)))⟩
    · rw [aaR_end h (by rw [he]; exact hl), he] at e4 e5
      have e : eon tx t f = t := by omega
      refine Or.inr ⟨?_, e4, by rw [e5]; exact Nat.add_comm _ _, by omega⟩
      rw [e] at q1; omega
  · omega
theorem adI_end {S tx S' : Nat → Int32} {t n f : Nat} (h : adI S tx t n (ncnt tx t + 1) f S') : (aaA S tx t).2.2.2.1 = S' ∧ (aaA S tx t).2.2.2.2 = ncnt tx t + 1 := by
  obtain ⟨-, ⟨-, -, h1, -⟩ | ⟨-, h1, h2, -⟩⟩ := h
  · omega
  · exact ⟨h1, h2⟩
theorem adI_le {S tx S' : Nat → Int32} {t n k f : Nat} (h : adI S tx t n k f S') : f ≤ t + 1 := by
  obtain ⟨-, ⟨h1, -⟩ | ⟨-, -, -, h1⟩⟩ := h <;> omega
