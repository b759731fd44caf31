/-! the start: what the tables and the statics give -/
set_option maxRecDepth 100000 in
set_option maxHeartbeats 4000000 in
theorem xV_start {s : State} {b : Nat} (hts : ∀ w ∈ lw_tbl, w.before #[Value.ref b] s = true) (hgv : (Jvm.Cond.and given_1 narrow_1).before #[Value.ref b] s = true) (hb : b < s.heap.size) {L : Nat} {xs : Nat → Int32} (hL : L ≤ 260) (hX : va_X b L xs s s.heap) : ∃ G : xG, xZ G + 1 = s.heap.size ∧ xX G 9 = b ∧ xV G s s.heap := by
  have hf := flat_of_before _ hgv
  have hA : ∀ a : Nat, a < s.heap.size → ¬ (s.heap.size - 1 < a) := fun a h => by omega
  obtain ⟨c0, i0, k0⟩ := u_known (C := RX0) (T := TX0) (N := 11) (n := 11) hts inX0 (hts (.instantiable RX0 11) (List.mem_append_right _ (List.mem_of_getElem? (i := 38) (by decide +kernel))))
  obtain ⟨c1, i1, k1⟩ := u_known (C := RX1) (T := TX1) (N := 3) (n := 3) hts inX1 (hts (.instantiable RX1 3) (List.mem_append_right _ (List.mem_of_getElem? (i := 73) (by decide +kernel))))
  obtain ⟨c2, i2, k2⟩ := u_known (C := RX2) (T := TX2) (N := 4) (n := 4) hts inX2 (hts (.instantiable RX2 4) (List.mem_append_right _ (List.mem_of_getElem? (i := 45) (by decide +kernel))))
  obtain ⟨c3, i3, k3⟩ := u_known (C := RX3) (T := TX3) (N := 2) (n := 2) hts inX3 (hts (.instantiable RX3 2) (List.mem_append_right _ (List.mem_of_getElem? (i := 22) (by decide +kernel))))
  obtain ⟨c4, i4, k4⟩ := u_known (C := RX4) (T := TX4) (N := 4) (n := 4) hts inX4 (hts (.instantiable RX4 4) (List.mem_append_right _ (List.mem_of_getElem? (i := 14) (by decide +kernel))))
  obtain ⟨a0, ka0, co0, f0, g0, h0⟩ := Cond.arrayClass_spec (hts (.arrayClass .int) (List.mem_append_right _ (List.mem_of_getElem? (i := 144) (by decide +kernel))))
  obtain ⟨a1, ka1, co1, f1, g1, h1⟩ := Cond.arrayClass_spec (hts (.arrayClass .char) (List.mem_append_right _ (List.mem_of_getElem? (i := 36) (by decide +kernel))))
  obtain ⟨a5, ka5, co5, f5, g5, h5⟩ := Cond.arrayClass_spec (hts (.arrayClass .long) (List.mem_append_right _ (List.mem_of_getElem? (i := 542) (by decide +kernel))))
  have ao2 : va_AO RX2 s := va_AO.of (hts (.arrayOver (.object RX2)) (List.mem_append_right _ (List.mem_of_getElem? (i := 44) (by decide +kernel))))
  obtain ⟨co2, a2, ka2, f2, -, g2, h2, e2⟩ := Cond.arrayOver_spec (hts (.arrayOver (.object RX2)) (List.mem_append_right _ (List.mem_of_getElem? (i := 44) (by decide +kernel))))
  have ao3 : va_AO RX1 s := va_AO.of (hts (.arrayOver (.object RX1)) (List.mem_append_right _ (List.mem_of_getElem? (i := 72) (by decide +kernel))))
  obtain ⟨co3, a3, ka3, f3, -, g3, h3, e3⟩ := Cond.arrayOver_spec (hts (.arrayOver (.object RX1)) (List.mem_append_right _ (List.mem_of_getElem? (i := 72) (by decide +kernel))))
  have ao4 : va_AO RX0 s := va_AO.of (hts (.arrayOver (.object RX0)) (List.mem_append_right _ (List.mem_of_getElem? (i := 145) (by decide +kernel))))
  obtain ⟨co4, a4, ka4, f4, -, g4, h4, e4⟩ := Cond.arrayOver_spec (hts (.arrayOver (.object RX0)) (List.mem_append_right _ (List.mem_of_getElem? (i := 145) (by decide +kernel))))
  obtain ⟨t0, ht0, hT0⟩ := va_Tof (args := #[Value.ref b]) (s := s) (tm := (.static "HandBlinds" "FIRST" "[I")) (ty := .int) (N := 3) (f := fun j => .int (([24, 30, 10] : List Int32).getD j 0)) (A := fun q => s.heap.size - 1 < q) (by decide) (hf (.arrayOf (.static "HandBlinds" "FIRST" "[I") .int) (by decide +kernel)) (va_eqv (hf (.eq (.length (.static "HandBlinds" "FIRST" "[I")) (.int 3)) (by decide +kernel)) rfl) (fun j hj => by
    have hc : j = 0 ∨ j = 1 ∨ j = 2 := by omega
    rcases hc with rfl | rfl | rfl
    · exact va_eqv (hf (.eq (.elem (.static "HandBlinds" "FIRST" "[I") (.int 0)) (.int 24)) (by decide +kernel)) rfl
    · exact va_eqv (hf (.eq (.elem (.static "HandBlinds" "FIRST" "[I") (.int 1)) (.int 30)) (by decide +kernel)) rfl
    · exact va_eqv (hf (.eq (.elem (.static "HandBlinds" "FIRST" "[I") (.int 2)) (.int 10)) (by decide +kernel)) rfl) hA
  have hZ0 := va_Zof (A := fun q => s.heap.size - 1 < q) (hts (.laysStatic "HandBlinds" "FIRST" "[I") (List.mem_append_right _ (List.mem_of_getElem? (i := 95) (by decide +kernel)))) (hts (.initialized "HandBlinds") (List.mem_append_right _ (List.mem_of_getElem? (i := 1) (by decide +kernel)))) ht0 hA
  obtain ⟨t1, ht1, hT1⟩ := va_Tof (args := #[Value.ref b]) (s := s) (tm := (.static "HandBlinds" "LEAST" "[I")) (ty := .int) (N := 3) (f := fun j => .int (([4, 1, 1] : List Int32).getD j 0)) (A := fun q => s.heap.size - 1 < q) (by decide) (hf (.arrayOf (.static "HandBlinds" "LEAST" "[I") .int) (by decide +kernel)) (va_eqv (hf (.eq (.length (.static "HandBlinds" "LEAST" "[I")) (.int 3)) (by decide +kernel)) rfl) (fun j hj => by
    have hc : j = 0 ∨ j = 1 ∨ j = 2 := by omega
    rcases hc with rfl | rfl | rfl
    · exact va_eqv (hf (.eq (.elem (.static "HandBlinds" "LEAST" "[I") (.int 0)) (.int 4)) (by decide +kernel)) rfl
    · exact va_eqv (hf (.eq (.elem (.static "HandBlinds" "LEAST" "[I") (.int 1)) (.int 1)) (by decide +kernel)) rfl
    · exact va_eqv (hf (.eq (.elem (.static "HandBlinds" "LEAST" "[I") (.int 2)) (.int 1)) (by decide +kernel)) rfl) hA
  have hZ1 := va_Zof (A := fun q => s.heap.size - 1 < q) (hts (.laysStatic "HandBlinds" "LEAST" "[I") (List.mem_append_right _ (List.mem_of_getElem? (i := 506) (by decide +kernel)))) (hts (.initialized "HandBlinds") (List.mem_append_right _ (List.mem_of_getElem? (i := 1) (by decide +kernel)))) ht1 hA
  obtain ⟨t2, ht2, hT2⟩ := va_Tof (args := #[Value.ref b]) (s := s) (tm := (.static "HandBlinds" "MOST" "[I")) (ty := .int) (N := 3) (f := fun j => .int (([60, 200, 50] : List Int32).getD j 0)) (A := fun q => s.heap.size - 1 < q) (by decide) (hf (.arrayOf (.static "HandBlinds" "MOST" "[I") .int) (by decide +kernel)) (va_eqv (hf (.eq (.length (.static "HandBlinds" "MOST" "[I")) (.int 3)) (by decide +kernel)) rfl) (fun j hj => by
    have hc : j = 0 ∨ j = 1 ∨ j = 2 := by omega
    rcases hc with rfl | rfl | rfl
    · exact va_eqv (hf (.eq (.elem (.static "HandBlinds" "MOST" "[I") (.int 0)) (.int 60)) (by decide +kernel)) rfl
    · exact va_eqv (hf (.eq (.elem (.static "HandBlinds" "MOST" "[I") (.int 1)) (.int 200)) (by decide +kernel)) rfl
    · exact va_eqv (hf (.eq (.elem (.static "HandBlinds" "MOST" "[I") (.int 2)) (.int 50)) (by decide +kernel)) rfl) hA
  have hZ2 := va_Zof (A := fun q => s.heap.size - 1 < q) (hts (.laysStatic "HandBlinds" "MOST" "[I") (List.mem_append_right _ (List.mem_of_getElem? (i := 508) (by decide +kernel)))) (hts (.initialized "HandBlinds") (List.mem_append_right _ (List.mem_of_getElem? (i := 1) (by decide +kernel)))) ht2 hA
  have hco : va_Z "java/lang/String" "COMPACT_STRINGS" "Z" (.int 1) (fun q => s.heap.size - 1 < q) s s.heap := va_Zof (hts (.laysStatic "java/lang/String" "COMPACT_STRINGS" "Z") (List.mem_append_right _ (List.mem_of_getElem? (i := 194) (by decide +kernel)))) (hts (.initialized "java/lang/String") (List.mem_append_right _ (List.mem_of_getElem? (i := 7) (by decide +kernel)))) (va_eqv (hf (.eq (.static "java/lang/String" "COMPACT_STRINGS" "Z") (.int 1)) (by decide +kernel)) rfl) hA
  have hsi : va_Zq "jdk/internal/util/Preconditions" "SIOOBE_FORMATTER" "Ljava/util/function/BiFunction;" (fun q => s.heap.size - 1 < q) s s.heap := va_Zqof (hts (.laysStatic "jdk/internal/util/Preconditions" "SIOOBE_FORMATTER" "Ljava/util/function/BiFunction;") (List.mem_append_right _ (List.mem_of_getElem? (i := 210) (by decide +kernel)))) (hts (.initialized "jdk/internal/util/Preconditions") (List.mem_append_right _ (List.mem_of_getElem? (i := 9) (by decide +kernel)))) (hf (.isRef (.static "jdk/internal/util/Preconditions" "SIOOBE_FORMATTER" "Ljava/util/function/BiFunction;")) (by decide +kernel)) hA
  obtain ⟨adK, adV, hS, hev⟩ := vk_Sof (args := #[Value.ref b]) (s := s) (N := 3) (tm := (fun i : Nat => Term.string "HandBlinds$Row" (if i = 0 then 41 else if i = 1 then 47 else 49))) (len := [5, 5, 7]) (byt := [[68, 69, 80, 79, 84], [83, 79, 82, 82, 89], [80, 82, 73, 86, 65, 84, 69]]) (A := fun q => s.heap.size - 1 < q) (fun i hi => by
    have hc : i = 0 ∨ i = 1 ∨ i = 2 := by omega
    rcases hc with rfl | rfl | rfl <;> decide)
    (fun i hi => by
    have hc : i = 0 ∨ i = 1 ∨ i = 2 := by omega
    rcases hc with rfl | rfl | rfl
    · exact hf (.exactly (.string "HandBlinds$Row" 41) "java/lang/String") (by decide +kernel)
    · exact hf (.exactly (.string "HandBlinds$Row" 47) "java/lang/String") (by decide +kernel)
    · exact hf (.exactly (.string "HandBlinds$Row" 49) "java/lang/String") (by decide +kernel))
    (fun i hi => by
    have hc : i = 0 ∨ i = 1 ∨ i = 2 := by omega
    rcases hc with rfl | rfl | rfl
    · exact hf (.eq (.field (.string "HandBlinds$Row" 41) "java/lang/String" "coder" "B") (.int 0)) (by decide +kernel)
    · exact hf (.eq (.field (.string "HandBlinds$Row" 47) "java/lang/String" "coder" "B") (.int 0)) (by decide +kernel)
    · exact hf (.eq (.field (.string "HandBlinds$Row" 49) "java/lang/String" "coder" "B") (.int 0)) (by decide +kernel))
    (fun i hi => by
    have hc : i = 0 ∨ i = 1 ∨ i = 2 := by omega
    rcases hc with rfl | rfl | rfl
    · exact hf (.arrayOf (.field (.string "HandBlinds$Row" 41) "java/lang/String" "value" "[B") .byte) (by decide +kernel)
    · exact hf (.arrayOf (.field (.string "HandBlinds$Row" 47) "java/lang/String" "value" "[B") .byte) (by decide +kernel)
    · exact hf (.arrayOf (.field (.string "HandBlinds$Row" 49) "java/lang/String" "value" "[B") .byte) (by decide +kernel))
    (fun i hi => by
    have hc : i = 0 ∨ i = 1 ∨ i = 2 := by omega
    rcases hc with rfl | rfl | rfl
    · exact hf (.eq (.length (.field (.string "HandBlinds$Row" 41) "java/lang/String" "value" "[B")) (.int 5)) (by decide +kernel)
    · exact hf (.eq (.length (.field (.string "HandBlinds$Row" 47) "java/lang/String" "value" "[B")) (.int 5)) (by decide +kernel)
    · exact hf (.eq (.length (.field (.string "HandBlinds$Row" 49) "java/lang/String" "value" "[B")) (.int 7)) (by decide +kernel))
    (fun i hi j hj => by
    have hc : i = 0 ∨ i = 1 ∨ i = 2 := by omega
    rcases hc with rfl | rfl | rfl
    · have hj : j < 5 := hj
      have hd : j = 0 ∨ j = 1 ∨ j = 2 ∨ j = 3 ∨ j = 4 := by omega
      rcases hd with rfl | rfl | rfl | rfl | rfl
      · exact hf (.eq (.elem (.field (.string "HandBlinds$Row" 41) "java/lang/String" "value" "[B") (.int 0)) (.int 68)) (by decide +kernel)
      · exact hf (.eq (.elem (.field (.string "HandBlinds$Row" 41) "java/lang/String" "value" "[B") (.int 1)) (.int 69)) (by decide +kernel)
      · exact hf (.eq (.elem (.field (.string "HandBlinds$Row" 41) "java/lang/String" "value" "[B") (.int 2)) (.int 80)) (by decide +kernel)
      · exact hf (.eq (.elem (.field (.string "HandBlinds$Row" 41) "java/lang/String" "value" "[B") (.int 3)) (.int 79)) (by decide +kernel)
      · exact hf (.eq (.elem (.field (.string "HandBlinds$Row" 41) "java/lang/String" "value" "[B") (.int 4)) (.int 84)) (by decide +kernel)
    · have hj : j < 5 := hj
      have hd : j = 0 ∨ j = 1 ∨ j = 2 ∨ j = 3 ∨ j = 4 := by omega
      rcases hd with rfl | rfl | rfl | rfl | rfl
      · exact hf (.eq (.elem (.field (.string "HandBlinds$Row" 47) "java/lang/String" "value" "[B") (.int 0)) (.int 83)) (by decide +kernel)
      · exact hf (.eq (.elem (.field (.string "HandBlinds$Row" 47) "java/lang/String" "value" "[B") (.int 1)) (.int 79)) (by decide +kernel)
      · exact hf (.eq (.elem (.field (.string "HandBlinds$Row" 47) "java/lang/String" "value" "[B") (.int 2)) (.int 82)) (by decide +kernel)
      · exact hf (.eq (.elem (.field (.string "HandBlinds$Row" 47) "java/lang/String" "value" "[B") (.int 3)) (.int 82)) (by decide +kernel)
      · exact hf (.eq (.elem (.field (.string "HandBlinds$Row" 47) "java/lang/String" "value" "[B") (.int 4)) (.int 89)) (by decide +kernel)
    · have hj : j < 7 := hj
      have hd : j = 0 ∨ j = 1 ∨ j = 2 ∨ j = 3 ∨ j = 4 ∨ j = 5 ∨ j = 6 := by omega
      rcases hd with rfl | rfl | rfl | rfl | rfl | rfl | rfl
      · exact hf (.eq (.elem (.field (.string "HandBlinds$Row" 49) "java/lang/String" "value" "[B") (.int 0)) (.int 80)) (by decide +kernel)
      · exact hf (.eq (.elem (.field (.string "HandBlinds$Row" 49) "java/lang/String" "value" "[B") (.int 1)) (.int 82)) (by decide +kernel)
      · exact hf (.eq (.elem (.field (.string "HandBlinds$Row" 49) "java/lang/String" "value" "[B") (.int 2)) (.int 73)) (by decide +kernel)
      · exact hf (.eq (.elem (.field (.string "HandBlinds$Row" 49) "java/lang/String" "value" "[B") (.int 3)) (.int 86)) (by decide +kernel)
      · exact hf (.eq (.elem (.field (.string "HandBlinds$Row" 49) "java/lang/String" "value" "[B") (.int 4)) (.int 65)) (by decide +kernel)
      · exact hf (.eq (.elem (.field (.string "HandBlinds$Row" 49) "java/lang/String" "value" "[B") (.int 5)) (.int 84)) (by decide +kernel)
      · exact hf (.eq (.elem (.field (.string "HandBlinds$Row" 49) "java/lang/String" "value" "[B") (.int 6)) (.int 69)) (by decide +kernel))
    (fun i j hi hj hij => by
    have hc : (i = 0 ∧ j = 1) ∨ (i = 1 ∧ j = 0) ∨ (i = 0 ∧ j = 2) ∨ (i = 2 ∧ j = 0) ∨ (i = 1 ∧ j = 2) ∨ (i = 2 ∧ j = 1) := by omega
    rcases hc with ⟨rfl, rfl⟩ | ⟨rfl, rfl⟩ | ⟨rfl, rfl⟩ | ⟨rfl, rfl⟩ | ⟨rfl, rfl⟩ | ⟨rfl, rfl⟩
    · exact Or.inl (hf (.not (.eq (.string "HandBlinds$Row" 41) (.string "HandBlinds$Row" 47))) (by decide +kernel))
    · exact Or.inr (hf (.not (.eq (.string "HandBlinds$Row" 41) (.string "HandBlinds$Row" 47))) (by decide +kernel))
    · exact Or.inl (hf (.not (.eq (.string "HandBlinds$Row" 41) (.string "HandBlinds$Row" 49))) (by decide +kernel))
    · exact Or.inr (hf (.not (.eq (.string "HandBlinds$Row" 41) (.string "HandBlinds$Row" 49))) (by decide +kernel))
    · exact Or.inl (hf (.not (.eq (.string "HandBlinds$Row" 47) (.string "HandBlinds$Row" 49))) (by decide +kernel))
    · exact Or.inr (hf (.not (.eq (.string "HandBlinds$Row" 47) (.string "HandBlinds$Row" 49))) (by decide +kernel))) hA
  have hR0 : vk_R RX2 41 "DEPOT" (adK 0) s := vk_R.of (hts (.stringRef "HandBlinds$Row" 41 "DEPOT") (List.mem_append_right _ (List.mem_of_getElem? (i := 180) (by decide +kernel)))) (hev 0 (by decide))
  have hR1 : vk_R RX2 47 "SORRY" (adK 1) s := vk_R.of (hts (.stringRef "HandBlinds$Row" 47 "SORRY") (List.mem_append_right _ (List.mem_of_getElem? (i := 233) (by decide +kernel)))) (hev 1 (by decide))
  have hR2 : vk_R RX2 49 "PRIVATE" (adK 2) s := vk_R.of (hts (.stringRef "HandBlinds$Row" 49 "PRIVATE") (List.mem_append_right _ (List.mem_of_getElem? (i := 234) (by decide +kernel)))) (hev 2 (by decide))
  have w1 : va_Nw (.fieldLinkNest RX0 29 "HandBlinds" "FIRST" "[I" "HandBlinds") s := va_Nw.of rfl (hts (.fieldLinkNest RX0 29 "HandBlinds" "FIRST" "[I" "HandBlinds") (List.mem_append_right _ (List.mem_of_getElem? (i := 94) (by decide +kernel))))
  have w2 : va_Nw (.methodLinkNest RX0 24 yX1_init "HandBlinds") s := va_Nw.of rfl (hts (.methodLinkNest RX0 24 yX1_init "HandBlinds") (List.mem_append_right _ (List.mem_of_getElem? (i := 74) (by decide +kernel))))
  have w3 : va_Nw (.methodLinkNest RX3 23 yX4_letterWidth "HandBlinds") s := va_Nw.of rfl (hts (.methodLinkNest RX3 23 yX4_letterWidth "HandBlinds") (List.mem_append_right _ (List.mem_of_getElem? (i := 332) (by decide +kernel))))
  have w4 : va_Nw (.methodLinkNest RX2 37 yX4_letterWidth "HandBlinds") s := va_Nw.of rfl (hts (.methodLinkNest RX2 37 yX4_letterWidth "HandBlinds") (List.mem_append_right _ (List.mem_of_getElem? (i := 247) (by decide +kernel))))
  refine ⟨((fun k => if k = 0 then c0 else if k = 1 then c1 else if k = 2 then c2 else if k = 3 then c3 else c4, fun k => if k = 0 then i0 else if k = 1 then i1 else if k = 2 then i2 else if k = 3 then i3 else i4), (fun k => if k = 0 then a0 else if k = 1 then a1 else if k = 2 then a2 else if k = 3 then a3 else if k = 4 then a4 else a5), s.heap.size - 1, fun k => if k = 0 then t0 else if k = 1 then t1 else if k = 2 then t2 else if k < 6 then adK (k - 3) else if k < 9 then adV (k - 6) else if k = 9 then b else L), by show s.heap.size - 1 + 1 = _; omega, rfl, ⟨fun c q hq => ?_, fun k q hq => ?_⟩, ⟨w1, w2, w3, w4, trivial, ao2, ao3, ao4, hR0, hR1, hR2⟩, ⟨hZ0, hT0, hZ1, hT1, hZ2, hT2, ⟨fun i hi => ?_, fun i j hi hj e => ?_⟩, hco, hsi, ⟨⟨by show b ≤ s.heap.size - 1; omega, hL⟩, xs, hb, hX⟩⟩⟩
  · match c, hq with
    | 0, hq => cases hq; exact k0
    | 1, hq => cases hq; exact k1
    | 2, hq => cases hq; exact k2
    | 3, hq => cases hq; exact k3
    | 4, hq => cases hq; exact k4
    | n + 5, hq => simp [vwCl] at hq
  · match k, hq with
    | 0, hq => cases hq; exact ⟨fun n z => ⟨fun k h => (by cases h), ka0, g0, co0, h0⟩, f0⟩
    | 1, hq => cases hq; exact ⟨fun n z => ⟨fun k h => (by cases h), ka1, g1, co1, h1⟩, f1⟩
    | 2, hq => cases hq; exact ⟨fun n z => ⟨fun k h => (by cases h), ka2, g2, co2, h2⟩, ka2, co2, g2, h2, f2, e2⟩
    | 3, hq => cases hq; exact ⟨fun n z => ⟨fun k h => (by cases h), ka3, g3, co3, h3⟩, ka3, co3, g3, h3, f3, e3⟩
    | 4, hq => cases hq; exact ⟨fun n z => ⟨fun k h => (by cases h), ka4, g4, co4, h4⟩, ka4, co4, g4, h4, f4, e4⟩
    | 5, hq => cases hq; exact ⟨fun n z => ⟨fun k h => (by cases h), ka5, g5, co5, h5⟩, f5⟩
    | n + 6, hq => simp [xT] at hq
  · have hi1 := hS.1 i hi
    have e1 : (if 3 + i = 0 then t0 else if 3 + i = 1 then t1 else if 3 + i = 2 then t2 else if 3 + i < 6 then adK (3 + i - 3) else if 3 + i < 9 then adV (3 + i - 6) else if 3 + i = 9 then b else L) = adK i := by
      rw [if_neg (by omega), if_neg (by omega), if_neg (by omega), if_pos (by omega), show 3 + i - 3 = i by omega]
    have e2 : (if 6 + i = 0 then t0 else if 6 + i = 1 then t1 else if 6 + i = 2 then t2 else if 6 + i < 6 then adK (6 + i - 3) else if 6 + i < 9 then adV (6 + i - 6) else if 6 + i = 9 then b else L) = adV i := by
      rw [if_neg (by omega), if_neg (by omega), if_neg (by omega), if_neg (by omega), if_pos (by omega), show 6 + i - 6 = i by omega]
    rw [← e1, ← e2] at hi1
    exact hi1
  · refine hS.2 i j hi hj ?_
    have e1 : ∀ i : Nat, i < 3 → (if 3 + i = 0 then t0 else if 3 + i = 1 then t1 else if 3 + i = 2 then t2 else if 3 + i < 6 then adK (3 + i - 3) else if 3 + i < 9 then adV (3 + i - 6) else if 3 + i = 9 then b else L) = adK i := fun i hi => by
      rw [if_neg (by omega), if_neg (by omega), if_neg (by omega), if_pos (by omega), show 3 + i - 3 = i by omega]
    rw [← e1 i hi, ← e1 j hj]; exact e
