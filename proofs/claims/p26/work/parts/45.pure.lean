/-! the two ways to tell a name: by its number, by its letters -/
def dN (c : Int32) : Nat := if c = 32 then 0 else c.toNatClampNeg - 64
def vN (f : Nat → Int32) : Nat → Nat
  | 0 => 0
  | n + 1 => 32 * vN f n + dN (f n)
theorem dN_ok {c : Int32} (h : c = 32 ∨ (65 ≤ c ∧ c ≤ 90)) : (c - c / 32 * 32).toInt64 = Int64.ofNat (dN c) ∧ dN c ≤ 26 ∧ (dN c = 0 → c = 32) ∧ (1 ≤ dN c → c = nI (dN c + 64)) := by
  rcases h with rfl | ⟨h1, h2⟩
  · exact ⟨by decide, by decide, fun _ => rfl, fun w => absurd w (by decide)⟩
  · obtain ⟨k, hk1, hk2, rfl⟩ := nI_btw (lo := 65) (hi := 90) h1 h2 (by decide) (by decide)
    have key : ∀ j : Fin 26, (nI (j.1 + 65) - nI (j.1 + 65) / 32 * 32).toInt64 = Int64.ofNat (dN (nI (j.1 + 65))) ∧ dN (nI (j.1 + 65)) = j.1 + 1 := by decide +kernel
    obtain ⟨q1, q2⟩ := key ⟨k - 65, by omega⟩
    have e : k - 65 + 65 = k := by omega
    simp only [e] at q1 q2
    exact ⟨q1, by omega, fun w => by omega, fun _ => by rw [q2]; congr 1; omega⟩
theorem nml_vN {f : Nat → Int32} : ∀ {n : Nat}, (∀ j, j < n → f j = 32 ∨ (65 ≤ f j ∧ f j ≤ 90)) → nml f n = Int64.ofNat (vN f n)
  | 0, _ => rfl
  | n + 1, h => by
    rw [nml, vN, nml_vN (fun j hj => h j (by omega)), (dN_ok (h n (by omega))).1, Int64.ofNat_add, Int64.ofNat_mul]
    rfl
theorem o64 {a c : Nat} (h : Int64.ofNat a = Int64.ofNat c) : a % 18446744073709551616 = c % 18446744073709551616 := by
  have e1 : ∀ x : Nat, (Int64.ofNat x).toBitVec.toNat = x % 18446744073709551616 := fun x => rfl
  rw [← e1, ← e1, h]
theorem nml_0 {f : Nat → Int32} {n : Nat} (h : nameOk f n) (hn : 1 ≤ n) : nml f n = 4375028 ↔ nmd f n 0 = true := by
  constructor
  · intro e
    rw [nml_vN h.1] at e
    have e1 := o64 (c := 4375028) e
    have big : ¬ 7 ≤ n := fun w => by
      obtain ⟨m, rfl⟩ : ∃ m, n = m + 7 := ⟨n - 7, by omega⟩
      have d0 := (dN_ok (h.1 (m + 0) (by omega))).2
      have d1 := (dN_ok (h.1 (m + 1) (by omega))).2
      have d2 := (dN_ok (h.1 (m + 2) (by omega))).2
      have d3 := (dN_ok (h.1 (m + 3) (by omega))).2
      have d4 := (dN_ok (h.1 (m + 4) (by omega))).2
      have d5 := (dN_ok (h.1 (m + 5) (by omega))).2
      have d6 := (dN_ok (h.1 (m + 6) (by omega))).2
      have b0 := d0.1
      have b1 := d1.1
      have b2 := d2.1
      have b3 := d3.1
      have b4 := d4.1
      have b5 := d5.1
      have b6 := d6.1
      simp only [Nat.add_zero] at b0
      simp only [vN] at e1
      have z0 : dN (f m) = 0 := by
        omega
      have z1 : dN (f (m + 1)) = 0 := by
        omega
      have w0 := d0.2.1 z0
      have w1 := d1.2.1 z1
      exact h.2.2.2 m (by omega) ⟨w0, w1⟩
    have hc : n = 1 ∨ n = 2 ∨ n = 3 ∨ n = 4 ∨ n = 5 ∨ n = 6 := by omega
    rcases hc with rfl | rfl | rfl | rfl | rfl | rfl
    · exfalso
      have b0 := (dN_ok (h.1 0 (by omega))).2.1
      simp only [vN] at e1
      omega
    · exfalso
      have b0 := (dN_ok (h.1 0 (by omega))).2.1
      have b1 := (dN_ok (h.1 1 (by omega))).2.1
      simp only [vN] at e1
      omega
    · exfalso
      have b0 := (dN_ok (h.1 0 (by omega))).2.1
      have b1 := (dN_ok (h.1 1 (by omega))).2.1
      have b2 := (dN_ok (h.1 2 (by omega))).2.1
      simp only [vN] at e1
      omega
    · exfalso
      have b0 := (dN_ok (h.1 0 (by omega))).2.1
      have b1 := (dN_ok (h.1 1 (by omega))).2.1
      have b2 := (dN_ok (h.1 2 (by omega))).2.1
      have b3 := (dN_ok (h.1 3 (by omega))).2.1
      simp only [vN] at e1
      omega
    · skip
      have b0 := (dN_ok (h.1 0 (by omega))).2.1
      have b1 := (dN_ok (h.1 1 (by omega))).2.1
      have b2 := (dN_ok (h.1 2 (by omega))).2.1
      have b3 := (dN_ok (h.1 3 (by omega))).2.1
      have b4 := (dN_ok (h.1 4 (by omega))).2.1
      simp only [vN] at e1
      have z0 : dN (f 0) = 4 := by omega
      have y0 : f 0 = 68 := by have q := (dN_ok (h.1 0 (by omega))).2.2.2 (by omega); rw [z0] at q; exact q
      have z1 : dN (f 1) = 5 := by omega
      have y1 : f 1 = 69 := by have q := (dN_ok (h.1 1 (by omega))).2.2.2 (by omega); rw [z1] at q; exact q
      have z2 : dN (f 2) = 16 := by omega
      have y2 : f 2 = 80 := by have q := (dN_ok (h.1 2 (by omega))).2.2.2 (by omega); rw [z2] at q; exact q
      have z3 : dN (f 3) = 15 := by omega
      have y3 : f 3 = 79 := by have q := (dN_ok (h.1 3 (by omega))).2.2.2 (by omega); rw [z3] at q; exact q
      have z4 : dN (f 4) = 20 := by omega
      have y4 : f 4 = 84 := by have q := (dN_ok (h.1 4 (by omega))).2.2.2 (by omega); rw [z4] at q; exact q
      simp [nmd, eqN, slen, sch, sbyt, y0, y1, y2, y3, y4]
    · exfalso
      have b0 := (dN_ok (h.1 0 (by omega))).2.1
      have b1 := (dN_ok (h.1 1 (by omega))).2.1
      have b2 := (dN_ok (h.1 2 (by omega))).2.1
      have b3 := (dN_ok (h.1 3 (by omega))).2.1
      have b4 := (dN_ok (h.1 4 (by omega))).2.1
      have b5 := (dN_ok (h.1 5 (by omega))).2.1
      simp only [vN] at e1
      have z0 : dN (f 0) = 0 := by omega
      exact h.2.1 ((dN_ok (h.1 0 (by omega))).2.2.1 z0)
  · intro e
    simp only [nmd, Bool.and_eq_true, decide_eq_true_eq] at e
    obtain ⟨rfl, e⟩ := e
    simp only [show slen 0 = 5 from rfl, eqN, Bool.and_eq_true, decide_eq_true_eq, true_and] at e ⊢
    obtain ⟨⟨⟨⟨y0, y1⟩, y2⟩, y3⟩, y4⟩ := e
    simp only [nml, y0, y1, y2, y3, y4]
    decide +kernel
theorem nml_1 {f : Nat → Int32} {n : Nat} (h : nameOk f n) (hn : 1 ≤ n) : nml f n = 20433497 ↔ nmd f n 1 = true := by
  constructor
  · intro e
    rw [nml_vN h.1] at e
    have e1 := o64 (c := 20433497) e
    have big : ¬ 7 ≤ n := fun w => by
      obtain ⟨m, rfl⟩ : ∃ m, n = m + 7 := ⟨n - 7, by omega⟩
      have d0 := (dN_ok (h.1 (m + 0) (by omega))).2
      have d1 := (dN_ok (h.1 (m + 1) (by omega))).2
      have d2 := (dN_ok (h.1 (m + 2) (by omega))).2
      have d3 := (dN_ok (h.1 (m + 3) (by omega))).2
      have d4 := (dN_ok (h.1 (m + 4) (by omega))).2
      have d5 := (dN_ok (h.1 (m + 5) (by omega))).2
      have d6 := (dN_ok (h.1 (m + 6) (by omega))).2
      have b0 := d0.1
      have b1 := d1.1
      have b2 := d2.1
      have b3 := d3.1
      have b4 := d4.1
      have b5 := d5.1
      have b6 := d6.1
      simp only [Nat.add_zero] at b0
      simp only [vN] at e1
      have z0 : dN (f m) = 0 := by
        omega
      have z1 : dN (f (m + 1)) = 0 := by
        omega
      have w0 := d0.2.1 z0
      have w1 := d1.2.1 z1
      exact h.2.2.2 m (by omega) ⟨w0, w1⟩
    have hc : n = 1 ∨ n = 2 ∨ n = 3 ∨ n = 4 ∨ n = 5 ∨ n = 6 := by omega
    rcases hc with rfl | rfl | rfl | rfl | rfl | rfl
    · exfalso
      have b0 := (dN_ok (h.1 0 (by omega))).2.1
      simp only [vN] at e1
      omega
    · exfalso
      have b0 := (dN_ok (h.1 0 (by omega))).2.1
      have b1 := (dN_ok (h.1 1 (by omega))).2.1
      simp only [vN] at e1
      omega
    · exfalso
      have b0 := (dN_ok (h.1 0 (by omega))).2.1
      have b1 := (dN_ok (h.1 1 (by omega))).2.1
      have b2 := (dN_ok (h.1 2 (by omega))).2.1
      simp only [vN] at e1
      omega
    · exfalso
      have b0 := (dN_ok (h.1 0 (by omega))).2.1
      have b1 := (dN_ok (h.1 1 (by omega))).2.1
      have b2 := (dN_ok (h.1 2 (by omega))).2.1
      have b3 := (dN_ok (h.1 3 (by omega))).2.1
      simp only [vN] at e1
      omega
    · skip
      have b0 := (dN_ok (h.1 0 (by omega))).2.1
      have b1 := (dN_ok (h.1 1 (by omega))).2.1
      have b2 := (dN_ok (h.1 2 (by omega))).2.1
      have b3 := (dN_ok (h.1 3 (by omega))).2.1
      have b4 := (dN_ok (h.1 4 (by omega))).2.1
      simp only [vN] at e1
      have z0 : dN (f 0) = 19 := by omega
      have y0 : f 0 = 83 := by have q := (dN_ok (h.1 0 (by omega))).2.2.2 (by omega); rw [z0] at q; exact q
      have z1 : dN (f 1) = 15 := by omega
      have y1 : f 1 = 79 := by have q := (dN_ok (h.1 1 (by omega))).2.2.2 (by omega); rw [z1] at q; exact q
      have z2 : dN (f 2) = 18 := by omega
      have y2 : f 2 = 82 := by have q := (dN_ok (h.1 2 (by omega))).2.2.2 (by omega); rw [z2] at q; exact q
      have z3 : dN (f 3) = 18 := by omega
      have y3 : f 3 = 82 := by have q := (dN_ok (h.1 3 (by omega))).2.2.2 (by omega); rw [z3] at q; exact q
      have z4 : dN (f 4) = 25 := by omega
      have y4 : f 4 = 89 := by have q := (dN_ok (h.1 4 (by omega))).2.2.2 (by omega); rw [z4] at q; exact q
      simp [nmd, eqN, slen, sch, sbyt, y0, y1, y2, y3, y4]
    · exfalso
      have b0 := (dN_ok (h.1 0 (by omega))).2.1
      have b1 := (dN_ok (h.1 1 (by omega))).2.1
      have b2 := (dN_ok (h.1 2 (by omega))).2.1
      have b3 := (dN_ok (h.1 3 (by omega))).2.1
      have b4 := (dN_ok (h.1 4 (by omega))).2.1
      have b5 := (dN_ok (h.1 5 (by omega))).2.1
      simp only [vN] at e1
      have z0 : dN (f 0) = 0 := by omega
      exact h.2.1 ((dN_ok (h.1 0 (by omega))).2.2.1 z0)
  · intro e
    simp only [nmd, Bool.and_eq_true, decide_eq_true_eq] at e
    obtain ⟨rfl, e⟩ := e
    simp only [show slen 1 = 5 from rfl, eqN, Bool.and_eq_true, decide_eq_true_eq, true_and] at e ⊢
    obtain ⟨⟨⟨⟨y0, y1⟩, y2⟩, y3⟩, y4⟩ := e
    simp only [nml, y0, y1, y2, y3, y4]
    decide +kernel
theorem nml_2 {f : Nat → Int32} {n : Nat} (h : nameOk f n) (hn : 1 ≤ n) : nml f n = 17794008709 ↔ nmd f n 2 = true := by
  constructor
  · intro e
    rw [nml_vN h.1] at e
    have e1 := o64 (c := 17794008709) e
    have big : ¬ 9 ≤ n := fun w => by
      obtain ⟨m, rfl⟩ : ∃ m, n = m + 9 := ⟨n - 9, by omega⟩
      have d0 := (dN_ok (h.1 (m + 0) (by omega))).2
      have d1 := (dN_ok (h.1 (m + 1) (by omega))).2
      have d2 := (dN_ok (h.1 (m + 2) (by omega))).2
      have d3 := (dN_ok (h.1 (m + 3) (by omega))).2
      have d4 := (dN_ok (h.1 (m + 4) (by omega))).2
      have d5 := (dN_ok (h.1 (m + 5) (by omega))).2
      have d6 := (dN_ok (h.1 (m + 6) (by omega))).2
      have d7 := (dN_ok (h.1 (m + 7) (by omega))).2
      have d8 := (dN_ok (h.1 (m + 8) (by omega))).2
      have b0 := d0.1
      have b1 := d1.1
      have b2 := d2.1
      have b3 := d3.1
      have b4 := d4.1
      have b5 := d5.1
      have b6 := d6.1
      have b7 := d7.1
      have b8 := d8.1
      simp only [Nat.add_zero] at b0
      simp only [vN] at e1
      have z0 : dN (f m) = 0 := by
        omega
      have z1 : dN (f (m + 1)) = 0 := by
        omega
      have w0 := d0.2.1 z0
      have w1 := d1.2.1 z1
      exact h.2.2.2 m (by omega) ⟨w0, w1⟩
    have hc : n = 1 ∨ n = 2 ∨ n = 3 ∨ n = 4 ∨ n = 5 ∨ n = 6 ∨ n = 7 ∨ n = 8 := by omega
    rcases hc with rfl | rfl | rfl | rfl | rfl | rfl | rfl | rfl
    · exfalso
      have b0 := (dN_ok (h.1 0 (by omega))).2.1
      simp only [vN] at e1
      omega
    · exfalso
      have b0 := (dN_ok (h.1 0 (by omega))).2.1
      have b1 := (dN_ok (h.1 1 (by omega))).2.1
      simp only [vN] at e1
      omega
    · exfalso
      have b0 := (dN_ok (h.1 0 (by omega))).2.1
      have b1 := (dN_ok (h.1 1 (by omega))).2.1
      have b2 := (dN_ok (h.1 2 (by omega))).2.1
      simp only [vN] at e1
      omega
    · exfalso
      have b0 := (dN_ok (h.1 0 (by omega))).2.1
      have b1 := (dN_ok (h.1 1 (by omega))).2.1
      have b2 := (dN_ok (h.1 2 (by omega))).2.1
      have b3 := (dN_ok (h.1 3 (by omega))).2.1
      simp only [vN] at e1
      omega
    · exfalso
      have b0 := (dN_ok (h.1 0 (by omega))).2.1
      have b1 := (dN_ok (h.1 1 (by omega))).2.1
      have b2 := (dN_ok (h.1 2 (by omega))).2.1
      have b3 := (dN_ok (h.1 3 (by omega))).2.1
      have b4 := (dN_ok (h.1 4 (by omega))).2.1
      simp only [vN] at e1
      omega
    · exfalso
      have b0 := (dN_ok (h.1 0 (by omega))).2.1
      have b1 := (dN_ok (h.1 1 (by omega))).2.1
      have b2 := (dN_ok (h.1 2 (by omega))).2.1
      have b3 := (dN_ok (h.1 3 (by omega))).2.1
      have b4 := (dN_ok (h.1 4 (by omega))).2.1
      have b5 := (dN_ok (h.1 5 (by omega))).2.1
      simp only [vN] at e1
      omega
    · skip
      have b0 := (dN_ok (h.1 0 (by omega))).2.1
      have b1 := (dN_ok (h.1 1 (by omega))).2.1
      have b2 := (dN_ok (h.1 2 (by omega))).2.1
      have b3 := (dN_ok (h.1 3 (by omega))).2.1
      have b4 := (dN_ok (h.1 4 (by omega))).2.1
      have b5 := (dN_ok (h.1 5 (by omega))).2.1
      have b6 := (dN_ok (h.1 6 (by omega))).2.1
      simp only [vN] at e1
      have z0 : dN (f 0) = 16 := by omega
      have y0 : f 0 = 80 := by have q := (dN_ok (h.1 0 (by omega))).2.2.2 (by omega); rw [z0] at q; exact q
      have z1 : dN (f 1) = 18 := by omega
      have y1 : f 1 = 82 := by have q := (dN_ok (h.1 1 (by omega))).2.2.2 (by omega); rw [z1] at q; exact q
      have z2 : dN (f 2) = 9 := by omega
      have y2 : f 2 = 73 := by have q := (dN_ok (h.1 2 (by omega))).2.2.2 (by omega); rw [z2] at q; exact q
      have z3 : dN (f 3) = 22 := by omega
      have y3 : f 3 = 86 := by have q := (dN_ok (h.1 3 (by omega))).2.2.2 (by omega); rw [z3] at q; exact q
      have z4 : dN (f 4) = 1 := by omega
      have y4 : f 4 = 65 := by have q := (dN_ok (h.1 4 (by omega))).2.2.2 (by omega); rw [z4] at q; exact q
      have z5 : dN (f 5) = 20 := by omega
      have y5 : f 5 = 84 := by have q := (dN_ok (h.1 5 (by omega))).2.2.2 (by omega); rw [z5] at q; exact q
      have z6 : dN (f 6) = 5 := by omega
      have y6 : f 6 = 69 := by have q := (dN_ok (h.1 6 (by omega))).2.2.2 (by omega); rw [z6] at q; exact q
      simp [nmd, eqN, slen, sch, sbyt, y0, y1, y2, y3, y4, y5, y6]
    · exfalso
      have b0 := (dN_ok (h.1 0 (by omega))).2.1
      have b1 := (dN_ok (h.1 1 (by omega))).2.1
      have b2 := (dN_ok (h.1 2 (by omega))).2.1
      have b3 := (dN_ok (h.1 3 (by omega))).2.1
      have b4 := (dN_ok (h.1 4 (by omega))).2.1
      have b5 := (dN_ok (h.1 5 (by omega))).2.1
      have b6 := (dN_ok (h.1 6 (by omega))).2.1
      have b7 := (dN_ok (h.1 7 (by omega))).2.1
      simp only [vN] at e1
      have z0 : dN (f 0) = 0 := by omega
      exact h.2.1 ((dN_ok (h.1 0 (by omega))).2.2.1 z0)
  · intro e
    simp only [nmd, Bool.and_eq_true, decide_eq_true_eq] at e
    obtain ⟨rfl, e⟩ := e
    simp only [show slen 2 = 7 from rfl, eqN, Bool.and_eq_true, decide_eq_true_eq, true_and] at e ⊢
    obtain ⟨⟨⟨⟨⟨⟨y0, y1⟩, y2⟩, y3⟩, y4⟩, y5⟩, y6⟩ := e
    simp only [nml, y0, y1, y2, y3, y4, y5, y6]
    decide +kernel
theorem kind_eq {f : Nat → Int32} {n : Nat} (h : nameOk f n) (h1 : 1 ≤ n) (h14 : n ≤ 14) : kindC f n = kindL f n := by
  have n1 : nI n = 1 ↔ n = 1 := nI_eq (b := 1) (by omega) (by decide)
  unfold kindC kindL
  simp only [nml_0 h h1, nml_1 h h1, nml_2 h h1, n1]
  by_cases e : n = 1
  · subst e
    have q : ∀ i, i < 3 → ¬ nmd f 1 i = true := fun i hi => by
      have : i = 0 ∨ i = 1 ∨ i = 2 := by omega
      rcases this with rfl | rfl | rfl <;> simp [nmd, slen]
    rw [if_pos rfl, if_neg (q 0 (by decide)), if_neg (q 1 (by decide)), if_neg (q 2 (by decide)), if_pos rfl]
  · simp only [if_neg e]
