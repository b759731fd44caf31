/-! what holds of the model's array holds behind each call -/
theorem rowOk_of {S S' : Nat → Int32} {r r' : Nat} (h : rowOk S r') (h0 : S' (11 + 17 * r) = S (11 + 17 * r')) (hl : ∀ j, j < 14 → S' (14 + 17 * r + j) = S (14 + 17 * r' + j)) (ht : S' (13 + 17 * r) = 0 ∨ S' (13 + 17 * r) = 1) : rowOk S' r := by
  obtain ⟨L, l1, l2, l3, ⟨n1, n2, n3, n4⟩, -⟩ := h
  have gl : ∀ j, j < 14 → sLet S' r j = sLet S r' j := fun j hj => hl j hj
  exact ⟨L, l1, l2, h0.trans l3, ⟨fun j hj => by rw [gl j (by omega)]; exact n1 j hj, by rw [gl 0 (by omega)]; exact n2, by rw [gl _ (by omega)]; exact n3, fun j hj => by rw [gl j (by omega), gl _ (by omega)]; exact n4 j hj⟩, ht⟩
theorem rowOk_t {S : Nat → Int32} {r : Nat} (h : rowOk S r) : S (13 + 17 * r) = 0 ∨ S (13 + 17 * r) = 1 := by
  obtain ⟨L, -, -, -, -, h⟩ := h
  exact h
/-- the same rows, other marks -/
theorem inv_keep {S S' : Nat → Int32} {n q q' : Nat} (hi : invN S n q) (h0 : S' 0 = S 0) (hq : q' ≤ 6) (h2 : S' 2 = nI q') (h1 : (n = 0 ∧ S' 1 = -1) ∨ ∃ a, a < n ∧ S' 1 = nI a) (h3 : S' 3 = -1 ∨ ∃ d, d < q' ∧ S' 3 = nI d) (h8 : 4 ≤ S' 8 ∧ S' 8 ≤ 60) (h9 : 1 ≤ S' 9 ∧ S' 9 ≤ 200) (h10 : 1 ≤ S' 10 ∧ S' 10 ≤ 50) (hr : ∀ r, r < n → S' (11 + 17 * r) = S (11 + 17 * r) ∧ (∀ j, j < 14 → S' (14 + 17 * r + j) = S (14 + 17 * r + j)) ∧ (S' (13 + 17 * r) = 0 ∨ S' (13 + 17 * r) = 1)) : invN S' n q' := by
  obtain ⟨hn20, hn, hq6, hq2, hcur, hdr, g8, g9, g10, hrows⟩ := hi
  exact ⟨hn20, h0.trans hn, hq, h2, h1, h3, h8, h9, h10, fun r hrn => rowOk_of (hrows r hrn) (hr r hrn).1 (hr r hrn).2.1 (hr r hrn).2.2⟩
theorem inv_drive {S : Nat → Int32} {n q : Nat} {r : Int32} (hi : invN S n q) (hok : okDrive S r = true) : invN (sDrive S r) n q := by
  have hi0 := hi
  obtain ⟨hn20, hn, hq6, hq2, hcur, hdr, g8, g9, g10, hrows⟩ := hi
  rw [sDrive, if_pos hok]
  refine inv_keep hi0 (upd_ne (by decide)) hq6 (by rw [upd_ne (by decide)]; exact hq2) (by rw [upd_ne (by decide)]; exact hcur) ?_ (by rw [upd_ne (by decide)]; exact g8) (by rw [upd_ne (by decide)]; exact g9) (by rw [upd_ne (by decide)]; exact g10) (fun r hr => ⟨upd_ne (by omega), fun j _ => upd_ne (by omega), by rw [upd_ne (by omega)]; exact rowOk_t (hrows r hr)⟩)
  rw [upd_at]
  unfold okDrive at hok
  by_cases h1 : r = -1
  · exact Or.inl h1
  · rw [if_neg h1] at hok
    by_cases h2 : isR r (S 2) = 0
    · rw [if_pos h2] at hok; cases hok
    · exact Or.inr (isR_of h2 hq2 (by omega))
theorem inr_in {v a b : Int32} (h : ¬ inr v a b = 0) : a ≤ v ∧ v ≤ b := by
  unfold inr at h
  by_cases h1 : v < a
  · rw [if_pos h1] at h; exact absurd rfl h
  · by_cases h2 : b < v
    · rw [if_neg h1, if_pos h2] at h; exact absurd rfl h
    · exact ⟨Int32.not_lt.mp h1, Int32.not_lt.mp h2⟩
theorem inv_set {S : Nat → Int32} {n q : Nat} {w v : Int32} (hi : invN S n q) (hok : okSet w v = true) : invN (sSet S w v) n q := by
  have hi0 := hi
  obtain ⟨hn20, hn, hq6, hq2, hcur, hdr, g8, g9, g10, hrows⟩ := hi
  rw [sSet, if_pos hok]
  unfold okSet at hok
  by_cases h1 : inr w 0 2 = 0
  · rw [if_pos h1] at hok; cases hok
  · rw [if_neg h1] at hok
    by_cases h2 : inr v (setLo w) (setHi w) = 0
    · rw [if_pos h2] at hok; cases hok
    · have hv := inr_in h2
      have hw := inr_in h1
      obtain ⟨k, -, hk, rfl⟩ := nI_btw (lo := 0) (hi := 2) hw.1 hw.2 (by decide) (by decide)
      rw [nI_clamp (by omega)]
      refine inv_keep hi0 (upd_ne (by omega)) hq6 (by rw [upd_ne (by omega)]; exact hq2) (by rw [upd_ne (by omega)]; exact hcur) (by rw [upd_ne (by omega)]; exact hdr) ?_ ?_ ?_ (fun r hr => ⟨upd_ne (by omega), fun j _ => upd_ne (by omega), by rw [upd_ne (by omega)]; exact rowOk_t (hrows r hr)⟩)
      · by_cases e : k = 0
        · subst e; rw [upd_at]; exact hv
        · rw [upd_ne (by omega)]; exact g8
      · by_cases e : k = 1
        · subst e; rw [upd_at]; exact hv
        · rw [upd_ne (by omega)]; exact g9
      · by_cases e : k = 2
        · subst e; rw [upd_at]; exact hv
        · rw [upd_ne (by omega)]; exact g10
theorem inv_mend {S : Nat → Int32} {n q : Nat} {r : Int32} (hi : invN S n q) (hok : okMend S r = true) : invN (sMend S r) n q := by
  have hi0 := hi
  obtain ⟨hn20, hn, hq6, hq2, hcur, hdr, g8, g9, g10, hrows⟩ := hi
  rw [sMend, if_pos hok]
  generalize r.toNatClampNeg = k
  have e : ∀ i, i ≠ 12 + 17 * k → i ≠ 13 + 17 * k → upd (upd S (12 + 17 * k) (S (12 + 17 * k) / 2)) (13 + 17 * k) 0 i = S i := fun i h1 h2 => by rw [upd_ne h2, upd_ne h1]
  refine inv_keep hi0 (e _ (by omega) (by omega)) hq6 (by rw [e _ (by omega) (by omega)]; exact hq2) (by rw [e _ (by omega) (by omega)]; exact hcur) (by rw [e _ (by omega) (by omega)]; exact hdr) (by rw [e _ (by omega) (by omega)]; exact g8) (by rw [e _ (by omega) (by omega)]; exact g9) (by rw [e _ (by omega) (by omega)]; exact g10) (fun i hr => ⟨e _ (by omega) (by omega), fun j _ => e _ (by omega) (by omega), ?_⟩)
  by_cases h1 : i = k
  · subst h1; exact Or.inl upd_at
  · rw [e _ (by omega) (by omega)]; exact rowOk_t (hrows i hr)
theorem inv_route {S : Nat → Int32} {n q : Nat} {r : Int32} (hi : invN S n q) (hok : okRoute S r = true) : invN (sRoute S r) n (q + 1) := by
  have hi0 := hi
  obtain ⟨hn20, hn, hq6, hq2, hcur, hdr, g8, g9, g10, hrows⟩ := hi
  rw [sRoute, if_pos hok]
  have h6 : q < 6 := by
    rcases Nat.lt_or_ge q 6 with w | w
    · exact w
    · unfold okRoute at hok
      have : S 2 = 6 := by rw [hq2, show q = 6 by omega]; rfl
      rw [if_pos this] at hok
      split at hok <;> cases hok
  have hc : (S 2).toNatClampNeg = q := by rw [hq2, nI_clamp (by omega)]
  rw [hc]
  have e : ∀ i, i ≠ 2 → i < 351 → upd (upd (upd (upd S (351 + 3 * q) r) (352 + 3 * q) 0) (353 + 3 * q) 0) 2 (S 2 + 1) i = S i := fun i h1 h2 => by rw [upd_ne h1, upd_ne (by omega), upd_ne (by omega), upd_ne (by omega)]
  refine inv_keep hi0 (e _ (by omega) (by omega)) (by omega) (by rw [upd_at, hq2, nI_1]) (by rw [e _ (by omega) (by omega)]; exact hcur) ?_ (by rw [e _ (by omega) (by omega)]; exact g8) (by rw [e _ (by omega) (by omega)]; exact g9) (by rw [e _ (by omega) (by omega)]; exact g10) (fun i hr => ⟨e _ (by omega) (by omega), fun j _ => e _ (by omega) (by omega), by rw [e _ (by omega) (by omega)]; exact rowOk_t (hrows i hr)⟩)
  rw [e _ (by omega) (by omega)]
  rcases hdr with w | ⟨d, w1, w2⟩
  · exact Or.inl w
  · exact Or.inr ⟨d, by omega, w2⟩
theorem inv_stop {S : Nat → Int32} {n q : Nat} (hi : invN S n q) : invN (sStop S) n q := by
  have hi0 := hi
  obtain ⟨hn20, hn, hq6, hq2, hcur, hdr, g8, g9, g10, hrows⟩ := hi
  have e : ∀ i, i ≠ 6 → i ≠ 7 → i < 351 → sStop S i = S i := fun i h1 h2 h3 => by
    unfold sStop
    split
    · rw [upd_ne h2, upd_ne h1]
    · rw [upd_ne (by omega), upd_ne (by omega), upd_ne h2, upd_ne h1]
  refine inv_keep hi0 (e _ (by omega) (by omega) (by omega)) hq6 (by rw [e _ (by omega) (by omega) (by omega)]; exact hq2) (by rw [e _ (by omega) (by omega) (by omega)]; exact hcur) (by rw [e _ (by omega) (by omega) (by omega)]; exact hdr) (by rw [e _ (by omega) (by omega) (by omega)]; exact g8) (by rw [e _ (by omega) (by omega) (by omega)]; exact g9) (by rw [e _ (by omega) (by omega) (by omega)]; exact g10) (fun i hr => ⟨e _ (by omega) (by omega) (by omega), fun j _ => e _ (by omega) (by omega) (by omega), by rw [e _ (by omega) (by omega) (by omega)]; exact rowOk_t (hrows i hr)⟩)
theorem torn1_01 (S : Nat → Int32) (r : Nat) (v : Int32) : torn1 S r v = 0 ∨ torn1 S r v = 1 := by
  unfold torn1
  split
  · exact Or.inr rfl
  · exact tear1_01 S r v
theorem crS_t {S : Nat → Int32} {a i : Nat} {up : Bool} {v : Int32} (h : S (13 + 17 * i) = 0 ∨ S (13 + 17 * i) = 1) : ∀ g, crS S a up v g (13 + 17 * i) = 0 ∨ crS S a up v g (13 + 17 * i) = 1
  | 0 => h
  | g + 1 => by
    rw [crS, upd_ne (by omega)]
    unfold lvS
    split
    · exact crS_t h g
    · by_cases e : i = rowAt a up g
      · subst e; rw [upd_at]; exact torn1_01 _ _ _
      · rw [upd_ne (by omega), upd_ne (by omega)]; exact crS_t h g
theorem inv_crank {S : Nat → Int32} {n q : Nat} {r v : Int32} (hi : invN S n q) (hok : okCrank S r v = true) : invN (sCrank S r v) n q := by
  have hi0 := hi
  obtain ⟨hn20, hn, hq6, hq2, hcur, hdr, g8, g9, g10, hrows⟩ := hi
  rw [sCrank, if_pos hok]
  have hm : mcr r v (S 0) = 0 := by
    unfold okCrank at hok
    by_cases h : mcr r v (S 0) = 0
    · exact h
    · rw [if_neg h] at hok; cases hok
  obtain ⟨c1, c2, c3, c4⟩ := mcr_0 hm
  obtain ⟨a, ha, hs1⟩ : ∃ a, a < n ∧ S 1 = nI a := hcur.resolve_left (fun w => c4 (by rw [hn, w.1]; rfl))
  have hca : cA S = a := by rw [cA, hs1, nI_clamp (by omega)]
  have hcn : cN S = n := by rw [cN, hn, nI_clamp (by omega)]
  have hcg : cG S r = stepsS S n a (cUp r) (cW r) := by rw [cG, hcn, hca]
  rw [hca, hcg]
  have hrow := steps_row (S := S) (up := cUp r) (w := cW r) ha _ (Nat.le_refl _)
  refine inv_keep hi0 (crFS_lo (by decide) (by decide) (by decide) (by decide)) hq6 (by rw [crFS_lo (by decide) (by decide) (by decide) (by decide)]; exact hq2) (Or.inr ⟨_, hrow.1, crFS_1 hs1⟩) (by rw [crFS_lo (by decide) (by decide) (by decide) (by decide)]; exact hdr) (by rw [crFS_lo (by decide) (by decide) (by decide) (by decide)]; exact g8) (by rw [crFS_lo (by decide) (by decide) (by decide) (by decide)]; exact g9) (by rw [crFS_lo (by decide) (by decide) (by decide) (by decide)]; exact g10) (fun i hr => ⟨crFS_row (k := 0) (by decide) (by decide) (by decide), fun j hj => ?_, ?_⟩)
  · rw [show 14 + 17 * i + j = 11 + 17 * i + (j + 3) by omega]; exact crFS_row (by omega) (by omega) (by omega)
  · rw [crFS_q (by omega) (by omega)]; exact crS_t (rowOk_t (hrows i hr)) _
theorem inv_swap {S : Nat → Int32} {n q : Nat} {r w : Int32} (hi : invN S n q) (hok : okSwap S r w = true) : invN (sSwap S r w) n q := by
  obtain ⟨hn20, hn, hq6, hq2, hcur, hdr, g8, g9, g10, hrows⟩ := hi
  rw [sSwap, if_pos hok]
  unfold okSwap at hok
  by_cases h1 : isR r (S 0) = 0
  · rw [if_pos h1] at hok; cases hok
  · rw [if_neg h1] at hok
    by_cases h2 : isR w (S 0) = 0
    · rw [if_pos h2] at hok; cases hok
    · rw [if_neg h2] at hok
      obtain ⟨a, ha, rfl⟩ := isR_of h1 hn (by omega)
      obtain ⟨c, hc, rfl⟩ := isR_of h2 hn (by omega)
      have hac : a ≠ c := fun e => by rw [if_pos (by rw [e])] at hok; cases hok
      rw [nI_clamp (by omega), nI_clamp (by omega)]
      have hcq : cQn S = q := by rw [cQn, hq2, nI_clamp (by omega)]
      rw [hcq]
      have cS : ∀ i, i < 11 → swapS S a c q i = S i := fun i h2 => by
        unfold swapS
        rw [if_neg (by rw [rouB_m (Or.inl (by omega))]; decide), if_neg (by rw [rngB_f (Or.inl (by omega))]; decide), if_neg (by rw [rngB_f (Or.inl (by omega))]; decide)]
      have cU : ∀ i k, i < n → k < 17 → swapS S a c q (11 + 17 * i + k) = S (11 + 17 * swI a c i + k) := fun i k hi hk => by
        unfold swapS swI
        rw [if_neg (by rw [rouB_m (Or.inl (by omega))]; decide)]
        by_cases h1 : i = a
        · subst h1
          rw [if_pos (rngB_t ⟨by omega, by omega⟩), if_neg hac, if_pos rfl]
          congr 1; omega
        · rw [if_neg (by rw [rngB_f (by omega)]; decide)]
          by_cases h2 : i = c
          · subst h2
            rw [if_pos (rngB_t ⟨by omega, by omega⟩), if_pos rfl]
            congr 1; omega
          · rw [if_neg (by rw [rngB_f (by omega)]; decide), if_neg h2, if_neg h1]
      have hbn : ∀ i, i < n → swI a c i < n := fun i hi => by unfold swI; split <;> (try split) <;> omega
      refine ⟨hn20, by rw [cS _ (by omega)]; exact hn, hq6, by rw [cS _ (by omega)]; exact hq2, by rw [cS _ (by omega)]; exact hcur, by rw [cS _ (by omega)]; exact hdr, by rw [cS _ (by omega)]; exact g8, by rw [cS _ (by omega)]; exact g9, by rw [cS _ (by omega)]; exact g10, fun i hi => ?_⟩
      have hr := hrows _ (hbn i hi)
      have ht := rowOk_t hr
      refine rowOk_of hr (cU i 0 hi (by decide)) (fun j hj => ?_) ?_
      · rw [show 14 + 17 * i + j = 11 + 17 * i + (j + 3) by omega, cU i _ hi (by omega)]; congr 1; omega
      · rw [show 13 + 17 * i = 11 + 17 * i + 2 by omega, cU i 2 hi (by omega), show 11 + 17 * swI a c i + 2 = 13 + 17 * swI a c i by omega]; exact ht
theorem inv_cut {S : Nat → Int32} {n q : Nat} {r : Int32} (hi : invN S n q) (hok : okRow S r = true) : invN (sCut S r) (n - 1) q := by
  have hi0 := hi
  obtain ⟨hn20, hn, hq6, hq2, hcur, hdr, g8, g9, g10, hrows⟩ := hi
  rw [sCut, if_pos hok]
  unfold okRow at hok
  by_cases h1 : isR r (S 0) = 0
  · rw [if_pos h1] at hok; cases hok
  · obtain ⟨c, hc, rfl⟩ := isR_of h1 hn (by omega)
    have hcn : cN S = n := by rw [cN, hn, nI_clamp (by omega)]
    have hcq : cQn S = q := by rw [cQn, hq2, nI_clamp (by omega)]
    rw [nI_clamp (by omega), hcn, hcq]
    obtain ⟨a, ha, hs1⟩ : ∃ a, a < n ∧ S 1 = nI a := hcur.resolve_left (fun w => by omega)
    have e : ∀ i, 2 ≤ i → i < 11 + 17 * c → cutS S c n q i = S i := fun i h1 h2 => by
      unfold cutS
      rw [if_neg (by omega), if_neg (by rw [rouB_m (Or.inl (by omega))]; decide), if_neg (by rw [rngB_f (Or.inl (by omega))]; decide), if_neg (by omega)]
    have eU : ∀ i, 11 + 17 * c ≤ i → i < 11 + 17 * (n - 1) → cutS S c n q i = S (i + 17) := fun i h1 h2 => by
      unfold cutS
      rw [if_neg (by omega), if_neg (by rw [rouB_m (Or.inl (by omega))]; decide), if_pos (rngB_t ⟨by omega, by omega⟩)]
    refine ⟨by omega, cutS_0, hq6, by rw [e _ (by omega) (by omega)]; exact hq2, ?_, by rw [e _ (by omega) (by omega)]; exact hdr, by rw [e _ (by omega) (by omega)]; exact g8, by rw [e _ (by omega) (by omega)]; exact g9, by rw [e _ (by omega) (by omega)]; exact g10, fun i hr => ?_⟩
    · by_cases h0 : nI (n - 1) = 0
      · have hn1 := (nI_eq (a := n - 1) (b := 0) (by omega) (by decide)).mp h0
        exact Or.inl ⟨hn1, cut_end hi0 hc h0⟩
      · have hn1 : n - 1 ≠ 0 := fun e => h0 (by rw [e]; rfl)
        refine Or.inr ?_
        unfold cutS cutZ
        rw [if_pos rfl, hs1]
        by_cases h2 : nI c < nI a
        · have := (nI_ltI (by omega) (by omega)).mp h2
          rw [if_pos h2, show nI a - 1 = nI (a - 1) from by rw [show a = (a - 1) + 1 by omega]; exact nI_pred _]
          exact ⟨a - 1, by omega, rfl⟩
        · rw [if_neg h2]
          by_cases h3 : nI a = nI (n - 1)
          · have := (nI_eq (by omega) (by omega)).mp h3
            rw [if_pos h3, show nI a - 1 = nI (a - 1) from by rw [show a = (a - 1) + 1 by omega]; exact nI_pred _]
            exact ⟨a - 1, by omega, rfl⟩
          · rw [if_neg h3, Int32.sub_zero]
            have : a ≠ n - 1 := fun w => h3 (by rw [w])
            exact ⟨a, by omega, rfl⟩
    · rcases Nat.lt_or_ge i c with w | w
      · refine rowOk_of (hrows i (by omega)) (e _ (by omega) (by omega)) (fun j hj => e _ (by omega) (by omega)) ?_
        rw [e _ (by omega) (by omega)]; exact rowOk_t (hrows i (by omega))
      · refine rowOk_of (hrows (i + 1) (by omega)) (by rw [eU _ (by omega) (by omega)]; congr 1) (fun j hj => by rw [eU _ (by omega) (by omega)]; congr 1; omega) ?_
        rw [eU _ (by omega) (by omega), show 13 + 17 * i + 17 = 13 + 17 * (i + 1) by omega]; exact rowOk_t (hrows (i + 1) (by omega))
theorem inv_00 : invN S00 0 0 := ⟨by decide, rfl, by decide, rfl, Or.inl ⟨rfl, rfl⟩, Or.inl rfl, by decide, by decide, by decide, fun r hr => absurd hr (by omega)⟩
