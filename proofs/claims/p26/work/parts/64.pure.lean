/-! small changes of the blind that is used -/
theorem icr_0 {r v N : Int32} (h : (if r < -20 then (0 : Int32) else if 20 < r then 0 else if r = 0 then 0 else if v < 1 then 0 else if 3 < v then 0 else 1) = 0) : mcr r v N = -1000001 := by
  unfold mcr inr
  by_cases h1 : r < -20
  · simp [h1]
  · by_cases h2 : 20 < r
    · simp [h1, h2]
    · by_cases h3 : r = 0
      · simp [h1, h2, h3]
      · by_cases h4 : v < 1
        · simp [h1, h2, h3, h4]
        · by_cases h5 : 3 < v
          · simp [h1, h2, h3, h4, h5]
          · simp [h1, h2, h3, h4, h5] at h
theorem icr_1 {r v N : Int32} (h : ¬ (if r < -20 then (0 : Int32) else if 20 < r then 0 else if r = 0 then 0 else if v < 1 then 0 else if 3 < v then 0 else 1) = 0) : mcr r v N = if N = 0 then -1000002 else 0 := by
  unfold mcr inr
  by_cases h1 : r < -20
  · simp [h1] at h
  · by_cases h2 : 20 < r
    · simp [h1, h2] at h
    · by_cases h3 : r = 0
      · simp [h1, h2, h3] at h
      · by_cases h4 : v < 1
        · simp [h1, h2, h3, h4] at h
        · by_cases h5 : 3 < v
          · simp [h1, h2, h3, h4, h5] at h
          · simp [h1, h2, h3, h4, h5]
theorem drive_ok {I : xI} {P : xP} {b n q : Nat} {S : Nat → Int32} {r : Int32} (hP : bP P b) (hB : bR I P b S n q) (hinv : invN S n q) : bR (xu I b 5 r) P b (upd S 3 r) n q ∧ ∀ c, c < b ∨ b + 50 ≤ c → xu I b 5 r c = I c := by
  obtain ⟨hX1, hX2, hX3⟩ := bX hP
  have hlen := inv_len hinv
  obtain ⟨b1, b2, b4, b5, b7, b8, b9, b10, bst, brw, brt⟩ := hB
  obtain ⟨p0, p3, p6, pj, -⟩ := hP
  have hn := hinv.1
  have hq := hinv.2.2.1
  have eI : ∀ c, c ≠ b → xu I b 5 r c = I c := fun c hc => xu_row hc
  have eb : ∀ j, j ≠ 5 → xu I b 5 r b j = I b j := fun j h => xu_ne (Or.inr h)
  refine ⟨⟨by rw [eb 1 (by decide), upd_ne (by decide)]; exact b1, by rw [eb 2 (by decide), upd_ne (by decide)]; exact b2, by rw [eb 4 (by decide), upd_ne (by decide)]; exact b4, by rw [xu_at, upd_at], by rw [eb 7 (by decide), upd_ne (by decide)]; exact b7, by rw [eb 8 (by decide), upd_ne (by decide)]; exact b8, by rw [eb 9 (by decide), upd_ne (by decide)]; exact b9, by rw [eb 10 (by decide), upd_ne (by decide)]; exact b10, fun k hk => by rw [eI _ (by omega), upd_ne (by omega)]; exact bst k hk, bRw_keep brw hn hlen (fun i hi => ?_) (fun k h1 h2 => upd_ne (by omega)), bRt_keep brt (fun j hj => eI _ (by rw [p3, pj j (by omega)]; omega)) (fun k h => upd_ne (by omega))⟩, fun c hc => eI c (by omega)⟩
  have := hX1 i (by omega)
  exact ⟨eI _ (by omega), eI _ (by omega)⟩
theorem set_ok {I : xI} {P : xP} {b n q k : Nat} {S : Nat → Int32} {v : Int32} (hP : bP P b) (hB : bR I P b S n q) (hinv : invN S n q) (hk : k < 3) : bR (xu I (P b 6) k v) P b (upd S (8 + k) v) n q ∧ ∀ c, c < b ∨ b + 50 ≤ c → xu I (P b 6) k v c = I c := by
  obtain ⟨hX1, hX2, hX3⟩ := bX hP
  have hlen := inv_len hinv
  obtain ⟨b1, b2, b4, b5, b7, b8, b9, b10, bst, brw, brt⟩ := hB
  obtain ⟨p0, p3, p6, pj, -⟩ := hP
  have hn := hinv.1
  have hq := hinv.2.2.1
  have eI : ∀ c, c ≠ P b 6 → xu I (P b 6) k v c = I c := fun c hc => xu_row hc
  have eb : xu I (P b 6) k v b = I b := eI b (by omega)
  unfold bR
  rw [eb]
  refine ⟨⟨by rw [upd_ne (by omega)]; exact b1, by rw [upd_ne (by omega)]; exact b2, by rw [upd_ne (by omega)]; exact b4, by rw [upd_ne (by omega)]; exact b5, by rw [upd_ne (by omega)]; exact b7, by rw [upd_ne (by omega)]; exact b8, by rw [upd_ne (by omega)]; exact b9, by rw [upd_ne (by omega)]; exact b10, fun j hj => ?_, bRw_keep brw hn hlen (fun i hi => ?_) (fun j h1 h2 => upd_ne (by omega)), bRt_keep brt (fun j hj => eI _ (by rw [p3, pj j (by omega)]; omega)) (fun j h => upd_ne (by omega))⟩, fun c hc => eI c (by omega)⟩
  · by_cases e : j = k
    · subst e; rw [xu_at, upd_at]
    · rw [xu_ne (Or.inr e), upd_ne (by omega)]; exact bst j hj
  · have := hX1 i (by omega)
    exact ⟨eI _ (by omega), eI _ (by omega)⟩
theorem mend_ok {I : xI} {P : xP} {b n q i : Nat} {S : Nat → Int32} {w : Int32} (hP : bP P b) (hB : bR I P b S n q) (hinv : invN S n q) (hi : i < n) : bR (xu (xu I (P (P b 0) i) 2 w) (P (P b 0) i) 3 0) P b (upd (upd S (12 + 17 * i) w) (13 + 17 * i) 0) n q ∧ ∀ c, c < b ∨ b + 50 ≤ c → (xu (xu I (P (P b 0) i) 2 w) (P (P b 0) i) 3 0) c = I c := by
  obtain ⟨hX1, hX2, hX3⟩ := bX hP
  have hlen := inv_len hinv
  obtain ⟨b1, b2, b4, b5, b7, b8, b9, b10, bst, brw, brt⟩ := hB
  obtain ⟨p0, p3, p6, pj, -⟩ := hP
  have hn := hinv.1
  have hq := hinv.2.2.1
  have hx := hX1 i (by omega)
  have eI : ∀ c, c ≠ P (P b 0) i → (xu (xu I (P (P b 0) i) 2 w) (P (P b 0) i) 3 0) c = I c := fun c hc => by rw [xu_row hc, xu_row hc]
  have eb : (xu (xu I (P (P b 0) i) 2 w) (P (P b 0) i) 3 0) b = I b := eI b (by omega)
  have eq : ∀ k, k ≠ 12 + 17 * i → k ≠ 13 + 17 * i → upd (upd S (12 + 17 * i) w) (13 + 17 * i) 0 k = S k := fun k h1 h2 => by rw [upd_ne h2, upd_ne h1]
  unfold bR
  rw [eb]
  refine ⟨⟨by rw [eq _ (by omega) (by omega)]; exact b1, by rw [eq _ (by omega) (by omega)]; exact b2, by rw [eq _ (by omega) (by omega)]; exact b4, by rw [eq _ (by omega) (by omega)]; exact b5, by rw [eq _ (by omega) (by omega)]; exact b7, by rw [eq _ (by omega) (by omega)]; exact b8, by rw [eq _ (by omega) (by omega)]; exact b9, by rw [eq _ (by omega) (by omega)]; exact b10, fun j hj => by rw [eI _ (by omega), eq _ (by omega) (by omega)]; exact bst j hj, fun j hj => ?_, bRt_keep brt (fun j hj => eI _ (by rw [p3, pj j (by omega)]; omega)) (fun j h => eq _ (by omega) (by omega))⟩, fun c hc => eI c (by omega)⟩
  have hy := hX1 j (by omega)
  obtain ⟨r1, r2, r3, r4⟩ := brw j hj
  have hl : sLen (upd (upd S (12 + 17 * i) w) (13 + 17 * i) 0) j = sLen S j := by unfold sLen; rw [eq _ (by omega) (by omega)]
  have hlj := hlen j hj
  have hxl := hX3 i j (by omega) (by omega)
  rw [hl, eI (P (P (P b 0) j) 0) (Ne.symm hxl)]
  by_cases e : j = i
  · subst e
    refine ⟨?_, ?_, ?_, fun k hk => by rw [eq _ (by omega) (by omega)]; exact r4 k hk⟩
    · rw [xu_ne (Or.inr (by decide)), xu_ne (Or.inr (by decide)), eq _ (by omega) (by omega)]; exact r1
    · rw [xu_ne (Or.inr (by decide)), xu_at, upd_ne (by omega), upd_at]
    · rw [xu_at, upd_at]
  · have hne := hX2 j i (by omega) (by omega) e
    rw [eI _ hne, eq _ (by omega) (by omega), eq _ (by omega) (by omega), eq _ (by omega) (by omega)]
    exact ⟨r1, r2, r3, fun k hk => by rw [eq _ (by omega) (by omega)]; exact r4 k hk⟩
