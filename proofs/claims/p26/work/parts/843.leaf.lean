/-! the law's arrays, beside the class' object; its small methods -/
def lK (μ : xM) : Prop := μ.2.1 1 = 5 ∧ oS μ 1 ∧ (μ.2.1 255 = 7 ∧ μ.2.2 255 = 11) ∧ (μ.2.1 256 = 7 ∧ μ.2.2 256 = 21) ∧ (μ.2.1 257 = 7 ∧ μ.2.2 257 = 21) ∧ (μ.2.1 258 = 7 ∧ μ.2.2 258 = 21) ∧ (μ.2.1 259 = 6 ∧ μ.2.2 259 = 42) ∧ (μ.2.1 260 = 7 ∧ μ.2.2 260 = 18)
/-- the law's arrays hold S: g, the rows l w u c, the routes r -/
def lA (I : xI) (P : xP) (S : Nat → Int32) (n q : Nat) : Prop := (∀ k, k < 11 → I 255 k = S k) ∧ (∀ i, i < n → I 256 i = S (11 + 17 * i) ∧ I 257 i = S (12 + 17 * i) ∧ I 258 i = S (13 + 17 * i) ∧ sLen S i ≤ 14 ∧ ∀ b, b < 2 → P 259 (2 * i + b) = pkX (sLet S i) (sLen S i) b) ∧ ∀ j, j < q → ∀ t, t < 3 → I 260 (3 * j + t) = S (351 + 3 * j + t)
theorem row_ok {S : Nat → Int32} {n q r : Nat} (hi : invN S n q) (hr : r < n) : ∃ L, 1 ≤ L ∧ L ≤ 14 ∧ sLen S r = L ∧ ∀ k, k < L → okL (sLet S r k) := by
  obtain ⟨L, h1, h2, h3, h4, -⟩ := hi.2.2.2.2.2.2.2.2.2 r hr
  exact ⟨L, h1, h2, sLen_of h3 (by omega), h4.1⟩
theorem row_len {S : Nat → Int32} {n q r : Nat} (hi : invN S n q) (hr : r < n) : S (11 + 17 * r) = nI (sLen S r) ∧ 1 ≤ sLen S r ∧ sLen S r ≤ 14 := by
  obtain ⟨L, h1, h2, h3, -⟩ := hi.2.2.2.2.2.2.2.2.2 r hr
  rw [sLen_of h3 (by omega)]
  exact ⟨h3, h1, h2⟩
def lowI (v m : Int32) : Int32 := (v &&& 2147483647) - (v &&& 2147483647) / m * m
theorem lowI_n {v : Int32} {m : Nat} (h0 : 0 < m) (hm : m < 2 ^ 31) : ∃ j, j < m ∧ lowI v (nI m) = nI j := by
  obtain ⟨j, hj, e⟩ := pk_andE v (m := 2147483647) 31 (by decide)
  refine ⟨j % m, Nat.mod_lt _ h0, ?_⟩
  unfold lowI
  rw [e, pk_rem hj h0 hm]
theorem ix_c {row k : Nat} (hk : k < 2 ^ 31) : (2 : Int32) * nI row + nI k / 10 = nI (2 * row + k / 10) := by
  rw [show (10 : Int32) = nI 10 from rfl, pk_div hk (by decide) (by decide), show (2 : Int32) = nI 2 from rfl, pk_mul, nI_add]
theorem sh_c {k : Nat} (hk : k < 2 ^ 31) : (6 : Int32) * (nI k - nI k / 10 * 10) = nI (6 * (k % 10)) := by
  rw [show (10 : Int32) = nI 10 from rfl, pk_rem hk (by decide) (by decide), show (6 : Int32) = nI 6 from rfl, pk_mul]
theorem sgn_ok {f : Nat → Int32} {L k X : Nat} (h : ∀ k, k < L → okL (f k)) (hL : L ≤ 14) (hk : k < L) (hX : X = pkX f L (k / 10)) : ((Int64.ofNat X >>> (((6 : Int32) * (nI k - nI k / 10 * 10)).toInt64 &&& 63)) &&& 63).toInt32 + 31 = f k := by
  have h1 : X < 2 ^ 60 := by rw [hX]; exact pkX_lt h hL
  have h2 : X / 2 ^ (6 * (k % 10)) < 2 ^ 64 := Nat.lt_of_le_of_lt (Nat.div_le_self _ _) (by omega)
  rw [sh_c (by omega), l_shr (by omega) (by omega), l_and (k := 6) h2 (by decide), l_2i, hX, pkX_dig h hL hk]
  exact okL_bk (h k hk)
theorem sq_ne {b : Int32} (h : 4 ≤ b ∧ b ≤ 60) : ¬ b = 0 := fun e => by rw [e] at h; exact absurd h.1 (by decide)
theorem sq_law {w : Nat} {b : Int32} (hw : w ≤ 60) (h : 4 ≤ b ∧ b ≤ 60) : (if 100 < 100 * nI w / b then 100 * nI w / b else 100) = sq b (nI w) := by
  obtain ⟨j, hj1, hj2, rfl⟩ := nI_btw (lo := 4) (hi := 60) h.1 h.2 (by decide) (by decide)
  have key : ∀ w : Fin 61, ∀ j : Fin 61, 4 ≤ j.1 → (if 100 < 100 * nI w.1 / nI j.1 then 100 * nI w.1 / nI j.1 else 100) = sq (nI j.1) (nI w.1) := by decide +kernel
  exact key ⟨w, by omega⟩ ⟨j, by omega⟩ hj1
/-- the law's letters -/
def nmL (y k s : Nat) : Nat := if 0 < k ∧ k + 1 < s ∧ k % 2 = 1 ∧ y / (5 + k) % 6 = 0 then 32 else 65 + y / (3 + 2 * k) % (if y % 3 = 0 then 26 else 4)
def nmJ (y k s : Int32) : Int32 := if k ≤ 0 then 65 + (y / (3 + 2 * k) - y / (3 + 2 * k) / (if ¬ (y - y / 3 * 3) = 0 then 4 else 26) * (if ¬ (y - y / 3 * 3) = 0 then 4 else 26)) else if s ≤ k + 1 then 65 + (y / (3 + 2 * k) - y / (3 + 2 * k) / (if ¬ (y - y / 3 * 3) = 0 then 4 else 26) * (if ¬ (y - y / 3 * 3) = 0 then 4 else 26)) else if ¬ k - k / 2 * 2 = 1 then 65 + (y / (3 + 2 * k) - y / (3 + 2 * k) / (if ¬ (y - y / 3 * 3) = 0 then 4 else 26) * (if ¬ (y - y / 3 * 3) = 0 then 4 else 26)) else if ¬ (y / (5 + k) - y / (5 + k) / 6 * 6) = 0 then 65 + (y / (3 + 2 * k) - y / (3 + 2 * k) / (if ¬ (y - y / 3 * 3) = 0 then 4 else 26) * (if ¬ (y - y / 3 * 3) = 0 then 4 else 26)) else 32
theorem nd_1 {k : Nat} (h : k < 2 ^ 30) : ¬ (5 : Int32) + nI k = 0 := by
  rw [show (5 : Int32) = nI 5 from rfl, nI_add]; exact nI_ne0 (by omega) (by omega)
theorem nd_2 {k : Nat} (h : k < 2 ^ 29) : ¬ (3 : Int32) + 2 * nI k = 0 := by
  rw [show (2 : Int32) = nI 2 from rfl, pk_mul, show (3 : Int32) = nI 3 from rfl, nI_add]; exact nI_ne0 (by omega) (by omega)
theorem nmL_ok {y k s : Nat} (hy : y < 10000000) (hk : k < 14) (hs : s ≤ 14) : nI (nmL y k s) = nmJ (nI y) (nI k) (nI s) := by
  have e3 : nI y - nI y / 3 * 3 = nI (y % 3) := pk_rem (d := 3) (by omega) (by decide) (by decide)
  have ek : nI k - nI k / 2 * 2 = nI (k % 2) := pk_rem (d := 2) (by omega) (by decide) (by decide)
  have e5 : (5 : Int32) + nI k = nI (5 + k) := nI_add 5 k
  have e23 : (3 : Int32) + 2 * nI k = nI (3 + 2 * k) := by rw [show (2 : Int32) = nI 2 from rfl, pk_mul]; exact nI_add 3 (2 * k)
  have e6 : nI y / nI (5 + k) - nI y / nI (5 + k) / 6 * 6 = nI (y / (5 + k) % 6) := by
    rw [pk_div (by omega) (by omega) (by omega)]
    exact pk_rem (d := 6) (Nat.lt_of_le_of_lt (Nat.div_le_self _ _) (by omega)) (by decide) (by decide)
  have h30 : (nI (y % 3) = 0) ↔ y % 3 = 0 := nI_eq (b := 0) (by omega) (by decide)
  have h60 : (nI (y / (5 + k) % 6) = 0) ↔ y / (5 + k) % 6 = 0 := nI_eq (b := 0) (by omega) (by decide)
  have h21 : (nI (k % 2) = 1) ↔ k % 2 = 1 := nI_eq (b := 1) (by omega) (by decide)
  have hk0 : (nI k ≤ 0) ↔ ¬ 0 < k := by rw [show (0 : Int32) = nI 0 from rfl, nI_leI (by omega) (by decide)]; omega
  have hs1 : (nI s ≤ nI k + 1) ↔ ¬ k + 1 < s := by rw [nI_1, nI_leI (by omega) (by omega)]; omega
  have big : (65 : Int32) + (nI y / nI (3 + 2 * k) - nI y / nI (3 + 2 * k) / (if ¬ nI (y % 3) = 0 then 4 else 26) * (if ¬ nI (y % 3) = 0 then 4 else 26)) = nI (65 + y / (3 + 2 * k) % (if y % 3 = 0 then 26 else 4)) := by
    rw [pk_div (by omega) (by omega) (by omega)]
    have hd : y / (3 + 2 * k) < 2 ^ 31 := Nat.lt_of_le_of_lt (Nat.div_le_self _ _) (by omega)
    by_cases h : y % 3 = 0
    · rw [if_neg (fun c => c (h30.mpr h)), if_pos h, show (26 : Int32) = nI 26 from rfl, pk_rem hd (by decide) (by decide)]
      exact nI_add 65 _
    · rw [if_pos (fun c => h (h30.mp c)), if_neg h, show (4 : Int32) = nI 4 from rfl, pk_rem hd (by decide) (by decide)]
      exact nI_add 65 _
  unfold nmL nmJ
  simp only [e3, ek, e5, e23, e6, big]
  generalize 65 + y / (3 + 2 * k) % (if y % 3 = 0 then 26 else 4) = B
  simp only [hk0, hs1, h21, h60]
  have e32 : nI 32 = 32 := rfl
  by_cases c1 : 0 < k
  · by_cases c2 : k + 1 < s
    · by_cases c3 : k % 2 = 1
      · by_cases c4 : y / (5 + k) % 6 = 0
        · simp only [c1, c2, c3, c4, and_self, not_true_eq_false, if_true, if_false, e32]
        · simp only [c1, c2, c3, c4, and_self, and_false, and_true, true_and, not_true_eq_false, not_false_eq_true, if_true, if_false]
      · simp only [c1, c2, c3, and_self, and_false, false_and, true_and, not_true_eq_false, not_false_eq_true, if_true, if_false]
    · simp only [c1, c2, and_false, false_and, true_and, not_true_eq_false, not_false_eq_true, if_true, if_false]
  · simp only [c1, false_and, not_false_eq_true, if_true, if_false]
def mvd (x r : Int32) : Int32 := (x &&& ((1 : Int32) <<< (r &&& 31) - 1)) + (x - (x &&& ((1 : Int32) <<< (r &&& 31) - 1))) >>> ((r + 1) &&& 31) <<< (r &&& 31)
abbrev rm_L_cell : Room := { frames := 0, cells := 0, slots := 0, locals := 0 }
theorem wl_L_cell_7 : Cond.constant RL 7 (40503) ∈ wsL_cell := List.mem_of_getElem? (i := 1) (by decide +kernel)
theorem hd_L_cell : yL_cell.cls = RL ∧ yL_cell.cls ≠ "java/lang/invoke/MethodHandle" ∧ yL_cell.cls ≠ "java/lang/invoke/VarHandle" ∧ (parseMethodDescriptor yL_cell.desc).map (fun d => d.parameters.length) = some 2 := ⟨rfl, by decide +kernel, by decide +kernel, by decide +kernel⟩
set_option maxHeartbeats 4000000 in
set_option maxRecDepth 100000 in
theorem c_L_cell (l : Launch) {G : xG} {μ : xM} {I : xI} {P : xP} {k : Nat} (hk : k < 1000) : Ct l yL_cell wsL_cell rm_L_cell G μ I P [.ref (xX G 9), .int (nI k)] 0 0 (fun vv μ' I' P' => (∃ v : Int32, vv = some (.int v)) ∧ μ' = μ ∧ I' = I ∧ P' = P) := by
  refine Ct.of (cc := cL_cell) (maxL := 2) (ret := (some .int)) [some (.ref (xX G 9)), some (.int (nI k))] (by decide) rfl rfl rfl (Nat.le_of_ble_eq_true rfl) ?_
  intro X hC hD h0 _
  refine r_iload_n (pc := 0) hC dL_cell_0 rfl ?_
  refine r_aload_n (pc := 1) hC dL_cell_1 rfl ?_
  refine r_scl (pc := 2) hC  dL_cell_2 ?_
  refine r_icmp_ge (pc := 3) (tgt := 12) hC dL_cell_3 (by decide) (fun bq3 => ?_) (fun bq3 => ?_)
  · skip
    refine r_ldc (pc := 12) (v := 40503) hC dL_cell_12 wl_L_cell_7 ?_
    refine r_iload_n (pc := 14) hC dL_cell_14 rfl ?_
    refine r_iconst (pc := 15) (v := 3) hC dL_cell_15 (by decide) ?_
    refine r_iadd (pc := 16) hC dL_cell_16 ?_
    refine r_imul (pc := 17) hC dL_cell_17 ?_
    refine r_iret (pc := 18) hC hD rfl dL_cell_18 rfl ?_
    exact ⟨⟨_, rfl⟩, rfl, rfl, rfl⟩
  · skip
    refine r_aload_n (pc := 6) hC dL_cell_6 rfl ?_
    refine r_iload_n (pc := 7) hC dL_cell_7 rfl ?_
    refine r_sld (pc := 8) hC (xi_n (k := k) (by have := (nI_ltI (b := xX G 10) (by omega) (by have := hC.2.2.2.2.2.1.2.2.2.2.2.2.2.2.2.2.2.1.2; omega)).mp (Int32.not_le.mp bq3); omega) (by have := hC.2.2.2.2.2.1.2.2.2.2.2.2.2.2.2.2.2.1.2; omega)) dL_cell_8 ?_
    intro v8
    refine r_goto (pc := 9) (tgt := 18) hC dL_cell_9 (by decide) ?_
    refine r_iret (pc := 18) hC hD rfl dL_cell_18 rfl ?_
    exact ⟨⟨_, rfl⟩, rfl, rfl, rfl⟩
theorem k_L_cell {X : xF} {G : xG} {cs : Nat × Nat} {μ : xM} {I : xI} {P : xP} {L : List (Option Value)} {pc : Nat} {rest : List Value} {cc : ByteArray} {Ts : List Cond} {own : String} {nL : Nat} {R : Room} (hC : xC X G cc Ts own nL R) {index : Nat} (hG : GoodIn Ts (va_wsS own index yL_cell wsL_cell)) (hR : rm_L_cell.frames + 1 ≤ R.frames ∧ 8 + (2 + 11) + rm_L_cell.locals ≤ R.locals) {k : Nat} (hk : k < 1000) (hW : (rest.map fun v => v.category).sum ≤ 8) (hL : L.length = nL) (hcs : cs.1 ≤ R.cells ∧ cs.2 ≤ R.slots) (hdec : decode cc pc = .ok (.invokestatic index, 3)) (kk : ∀ v : Int32, xg X G cs μ I P L (pc + 3) (.int v :: rest)) : xg X G cs μ I P L pc (.int (nI k) :: .ref (xX G 9) :: rest) :=
  r_callS hC (c_L_cell X.2.1 hk) hG rfl rfl rfl hd_L_cell.2 hR rfl rfl hW hL hcs hdec (by rintro vv μ' I' P' ⟨⟨v, rfl⟩, rfl, rfl, rfl⟩; exact kk v)
abbrev rm_L_low : Room := { frames := 0, cells := 0, slots := 0, locals := 0 }
theorem wl_L_low_8 : Cond.constant RL 8 (2147483647) ∈ wsL_low := List.mem_of_getElem? (i := 1) (by decide +kernel)
theorem hd_L_low : yL_low.cls = RL ∧ yL_low.cls ≠ "java/lang/invoke/MethodHandle" ∧ yL_low.cls ≠ "java/lang/invoke/VarHandle" ∧ (parseMethodDescriptor yL_low.desc).map (fun d => d.parameters.length) = some 2 := ⟨rfl, by decide +kernel, by decide +kernel, by decide +kernel⟩
set_option maxHeartbeats 4000000 in
set_option maxRecDepth 100000 in
theorem c_L_low (l : Launch) {G : xG} {μ : xM} {I : xI} {P : xP} {v m : Int32} (hm : ¬ m = 0) : Ct l yL_low wsL_low rm_L_low G μ I P [.int v, .int m] 0 0 (fun vv μ' I' P' => vv = some (.int (lowI v m)) ∧ μ' = μ ∧ I' = (I) ∧ P' = (P)) := by
  refine Ct.of (cc := cL_low) (maxL := 2) (ret := (some .int)) [some (.int v), some (.int m)] (by decide) rfl rfl rfl (Nat.le_of_ble_eq_true rfl) ?_
  intro X hC hD h0 _
  refine r_iload_n (pc := 0) hC dL_low_0 rfl ?_
  refine r_ldc (pc := 1) (v := 2147483647) hC dL_low_1 wl_L_low_8 ?_
  refine r_iand (pc := 3) hC dL_low_3 ?_
  refine r_iload_n (pc := 4) hC dL_low_4 rfl ?_
  refine r_irem (pc := 5) hC dL_low_5 hm ?_
  refine r_iret (pc := 6) hC hD rfl dL_low_6 rfl ?_
  exact ⟨rfl, rfl, rfl, rfl⟩
theorem k_L_low {X : xF} {G : xG} {cs : Nat × Nat} {μ : xM} {I : xI} {P : xP} {L : List (Option Value)} {pc : Nat} {rest : List Value} {cc : ByteArray} {Ts : List Cond} {own : String} {nL : Nat} {R : Room} (hC : xC X G cc Ts own nL R) {index : Nat} (hG : GoodIn Ts (va_wsS own index yL_low wsL_low)) (hR : rm_L_low.frames + 1 ≤ R.frames ∧ 8 + (2 + 11) + rm_L_low.locals ≤ R.locals) {v m : Int32} (hm : ¬ m = 0) (hW : (rest.map fun v => v.category).sum ≤ 8) (hL : L.length = nL) (hcs : cs.1 ≤ R.cells ∧ cs.2 ≤ R.slots) (hdec : decode cc pc = .ok (.invokestatic index, 3)) (kk : xg X G cs μ I P L (pc + 3) (.int (lowI v m) :: rest)) : xg X G cs μ I P L pc (.int m :: .int v :: rest) :=
  r_callS hC (c_L_low X.2.1 hm) hG rfl rfl rfl hd_L_low.2 hR rfl rfl hW hL hcs hdec (by rintro v μ' I' P' ⟨rfl, rfl, rfl, rfl⟩; exact kk)
abbrev rm_L_wide : Room := { frames := 0, cells := 0, slots := 0, locals := 0 }
theorem hd_L_wide : yL_wide.cls = RL ∧ yL_wide.cls ≠ "java/lang/invoke/MethodHandle" ∧ yL_wide.cls ≠ "java/lang/invoke/VarHandle" ∧ (parseMethodDescriptor yL_wide.desc).map (fun d => d.parameters.length) = some 1 := ⟨rfl, by decide +kernel, by decide +kernel, by decide +kernel⟩
set_option maxHeartbeats 4000000 in
set_option maxRecDepth 100000 in
theorem c_L_wide (l : Launch) {G : xG} {μ : xM} {I : xI} {P : xP} {c : Int32}  : Ct l yL_wide wsL_wide rm_L_wide G μ I P [.int c] 0 0 (fun vv μ' I' P' => vv = some (.int (lw c)) ∧ μ' = μ ∧ I' = (I) ∧ P' = (P)) := by
  refine Ct.of (cc := cL_wide) (maxL := 1) (ret := (some .int)) [some (.int c)] (by decide) rfl rfl rfl (Nat.le_of_ble_eq_true rfl) ?_
  intro X hC hD h0 _
  refine r_iload_n (pc := 0) hC dL_wide_0 rfl ?_
  refine r_bipush (pc := 1) (v := 32) hC dL_wide_1 (by decide) ?_
  refine r_icmp_eq (pc := 3) (tgt := 12) hC dL_wide_3 (by decide) (fun bq3 => ?_) (fun bq3 => ?_)
  · skip
    refine r_iconst (pc := 12) (v := 1) hC dL_wide_12 (by decide) ?_
    refine r_goto (pc := 13) (tgt := 33) hC dL_wide_13 (by decide) ?_
    refine r_iret (pc := 33) hC hD rfl dL_wide_33 rfl ?_
    exact ⟨by simp [lw, bq3], rfl, rfl, rfl⟩
  · skip
    refine r_iload_n (pc := 6) hC dL_wide_6 rfl ?_
    refine r_bipush (pc := 7) (v := 73) hC dL_wide_7 (by decide) ?_
    refine r_icmp_ne (pc := 9) (tgt := 16) hC dL_wide_9 (by decide) (fun bq9 => ?_) (fun bq9 => ?_)
    · skip
      refine r_iload_n (pc := 16) hC dL_wide_16 rfl ?_
      refine r_bipush (pc := 17) (v := 77) hC dL_wide_17 (by decide) ?_
      refine r_icmp_eq (pc := 19) (tgt := 28) hC dL_wide_19 (by decide) (fun bq19 => ?_) (fun bq19 => ?_)
      · skip
        refine r_iconst (pc := 28) (v := 3) hC dL_wide_28 (by decide) ?_
        refine r_goto (pc := 29) (tgt := 33) hC dL_wide_29 (by decide) ?_
        refine r_iret (pc := 33) hC hD rfl dL_wide_33 rfl ?_
        exact ⟨by simp [lw, bq3, bq9, bq19], rfl, rfl, rfl⟩
      · skip
        refine r_iload_n (pc := 22) hC dL_wide_22 rfl ?_
        refine r_bipush (pc := 23) (v := 87) hC dL_wide_23 (by decide) ?_
        refine r_icmp_ne (pc := 25) (tgt := 32) hC dL_wide_25 (by decide) (fun bq25 => ?_) (fun bq25 => ?_)
        · skip
          refine r_iconst (pc := 32) (v := 2) hC dL_wide_32 (by decide) ?_
          refine r_iret (pc := 33) hC hD rfl dL_wide_33 rfl ?_
          exact ⟨by simp [lw, bq3, bq9, bq19, bq25], rfl, rfl, rfl⟩
        · skip
          refine r_iconst (pc := 28) (v := 3) hC dL_wide_28 (by decide) ?_
          refine r_goto (pc := 29) (tgt := 33) hC dL_wide_29 (by decide) ?_
          refine r_iret (pc := 33) hC hD rfl dL_wide_33 rfl ?_
          exact ⟨by simp [lw, bq3, bq9, bq19, bq25], rfl, rfl, rfl⟩
    · skip
      refine r_iconst (pc := 12) (v := 1) hC dL_wide_12 (by decide) ?_
      refine r_goto (pc := 13) (tgt := 33) hC dL_wide_13 (by decide) ?_
      refine r_iret (pc := 33) hC hD rfl dL_wide_33 rfl ?_
      exact ⟨by simp [lw, bq3, bq9], rfl, rfl, rfl⟩
theorem k_L_wide {X : xF} {G : xG} {cs : Nat × Nat} {μ : xM} {I : xI} {P : xP} {L : List (Option Value)} {pc : Nat} {rest : List Value} {cc : ByteArray} {Ts : List Cond} {own : String} {nL : Nat} {R : Room} (hC : xC X G cc Ts own nL R) {index : Nat} (hG : GoodIn Ts (va_wsS own index yL_wide wsL_wide)) (hR : rm_L_wide.frames + 1 ≤ R.frames ∧ 8 + (1 + 11) + rm_L_wide.locals ≤ R.locals) {c : Int32}  (hW : (rest.map fun v => v.category).sum ≤ 8) (hL : L.length = nL) (hcs : cs.1 ≤ R.cells ∧ cs.2 ≤ R.slots) (hdec : decode cc pc = .ok (.invokestatic index, 3)) (kk : xg X G cs μ I P L (pc + 3) (.int (lw c) :: rest)) : xg X G cs μ I P L pc (.int c :: rest) :=
  r_callS hC (c_L_wide X.2.1 ) hG rfl rfl rfl hd_L_wide.2 hR rfl rfl hW hL hcs hdec (by rintro v μ' I' P' ⟨rfl, rfl, rfl, rfl⟩; exact kk)
abbrev rm_L_sign : Room := { frames := 0, cells := 0, slots := 0, locals := 0 }
theorem wl_L_sign_9 : Cond.constantLong RL 9 (63) ∈ wsL_sign := List.mem_of_getElem? (i := 1) (by decide +kernel)
theorem hd_L_sign : yL_sign.cls = RL ∧ yL_sign.cls ≠ "java/lang/invoke/MethodHandle" ∧ yL_sign.cls ≠ "java/lang/invoke/VarHandle" ∧ (parseMethodDescriptor yL_sign.desc).map (fun d => d.parameters.length) = some 3 := ⟨rfl, by decide +kernel, by decide +kernel, by decide +kernel⟩
set_option maxHeartbeats 4000000 in
set_option maxRecDepth 100000 in
theorem c_L_sign (l : Launch) {G : xG} {μ : xM} {I : xI} {P : xP} {n rq : Nat} {S : Nat → Int32} {row k : Nat} (hK : lK μ) (hA : lA I P S n rq) (hi : invN S n rq) (hr : row < n) (hk : k < sLen S row) : Ct l yL_sign wsL_sign rm_L_sign G μ I P [.ref (xZ G + 259), .int (nI row), .int (nI k)] 0 0 (fun vv μ' I' P' => vv = some (.int (sLet S row k)) ∧ μ' = μ ∧ I' = (I) ∧ P' = (P)) := by
  have hK0 := hK
  have hA0 := hA
  have hi0 := hi
  obtain ⟨ko, hS, ⟨kg, ng⟩, ⟨kl, nl⟩, ⟨kw, nw⟩, ⟨ku, nu⟩, ⟨kc, nc⟩, ⟨kr, nr⟩⟩ := hK
  obtain ⟨ag, ar, at_⟩ := hA
  obtain ⟨hn20, hn, hq6, hq, hcur, hdr, h8, h9, h10, hrows⟩ := hi
  obtain ⟨L, hL1, hL14, hLe, hok⟩ := row_ok hi0 hr
  rw [hLe] at hk
  refine Ct.of (cc := cL_sign) (maxL := 4) (ret := (some .int)) [some (.ref (xZ G + 259)), some (.int (nI row)), some (.int (nI k)), none] (by decide) rfl rfl rfl (Nat.le_of_ble_eq_true rfl) ?_
  intro X hC hD h0 _
  refine r_aload_n (pc := 0) hC dL_sign_0 rfl ?_
  refine r_iconst (pc := 1) (v := 2) hC dL_sign_1 (by decide) ?_
  refine r_iload_n (pc := 2) hC dL_sign_2 rfl ?_
  refine r_imul (pc := 3) hC dL_sign_3 ?_
  refine r_iload_n (pc := 4) hC dL_sign_4 rfl ?_
  refine r_bipush (pc := 5) (v := 10) hC dL_sign_5 (by decide) ?_
  refine r_idiv (pc := 7) hC dL_sign_7 (by decide) ?_
  refine r_iadd (pc := 8) hC dL_sign_8 ?_
  refine r_lald (pc := 9) hC kc (xi_e (k := 2 * row + k / 10) (ix_c (by omega)) nc (by omega) (by decide)) dL_sign_9 ?_
  refine r_bipush (pc := 10) (v := 6) hC dL_sign_10 (by decide) ?_
  refine r_iload_n (pc := 12) hC dL_sign_12 rfl ?_
  refine r_bipush (pc := 13) (v := 10) hC dL_sign_13 (by decide) ?_
  refine r_irem (pc := 15) hC dL_sign_15 (by decide) ?_
  refine r_imul (pc := 16) hC dL_sign_16 ?_
  refine r_lshr (pc := 17) hC dL_sign_17 ?_
  refine r_ldc2 (pc := 18) (v := 63) hC dL_sign_18 wl_L_sign_9 ?_
  refine r_land (pc := 21) hC dL_sign_21 ?_
  refine r_l2i (pc := 22) hC dL_sign_22 ?_
  refine r_istore_n (pc := 23) (L' := [_, _, _, _]) hC dL_sign_23 rfl (Nat.le_of_ble_eq_true rfl) rfl ?_
  refine r_iload_n (pc := 24) hC dL_sign_24 rfl ?_
  refine r_bipush (pc := 25) (v := 31) hC dL_sign_25 (by decide) ?_
  refine r_iadd (pc := 27) hC dL_sign_27 ?_
  refine r_iret (pc := 28) hC hD rfl dL_sign_28 rfl ?_
  exact ⟨by rw [sgn_ok hok hL14 hk (by rw [(ar row hr).2.2.2.2 (k / 10) (by omega), hLe])], rfl, rfl, rfl⟩
theorem k_L_sign {X : xF} {G : xG} {cs : Nat × Nat} {μ : xM} {I : xI} {P : xP} {L : List (Option Value)} {pc : Nat} {rest : List Value} {cc : ByteArray} {Ts : List Cond} {own : String} {nL : Nat} {R : Room} (hC : xC X G cc Ts own nL R) {index : Nat} (hG : GoodIn Ts (va_wsS own index yL_sign wsL_sign)) (hR : rm_L_sign.frames + 1 ≤ R.frames ∧ 8 + (4 + 11) + rm_L_sign.locals ≤ R.locals) {n rq : Nat} {S : Nat → Int32} {row k : Nat} (hK : lK μ) (hA : lA I P S n rq) (hi : invN S n rq) (hr : row < n) (hk : k < sLen S row) (hW : (rest.map fun v => v.category).sum ≤ 8) (hL : L.length = nL) (hcs : cs.1 ≤ R.cells ∧ cs.2 ≤ R.slots) (hdec : decode cc pc = .ok (.invokestatic index, 3)) (kk : xg X G cs μ I P L (pc + 3) (.int (sLet S row k) :: rest)) : xg X G cs μ I P L pc (.int (nI k) :: .int (nI row) :: .ref (xZ G + 259) :: rest) :=
  r_callS hC (c_L_sign X.2.1 hK hA hi hr hk) hG rfl rfl rfl hd_L_sign.2 hR rfl rfl hW hL hcs hdec (by rintro v μ' I' P' ⟨rfl, rfl, rfl, rfl⟩; exact kk)
abbrev rm_L_squeeze : Room := { frames := 0, cells := 0, slots := 0, locals := 0 }
theorem hd_L_squeeze : yL_squeeze.cls = RL ∧ yL_squeeze.cls ≠ "java/lang/invoke/MethodHandle" ∧ yL_squeeze.cls ≠ "java/lang/invoke/VarHandle" ∧ (parseMethodDescriptor yL_squeeze.desc).map (fun d => d.parameters.length) = some 2 := ⟨rfl, by decide +kernel, by decide +kernel, by decide +kernel⟩
set_option maxHeartbeats 4000000 in
set_option maxRecDepth 100000 in
theorem c_L_squeeze (l : Launch) {G : xG} {μ : xM} {I : xI} {P : xP} {n rq : Nat} {S : Nat → Int32} {w : Nat} (hK : lK μ) (hA : lA I P S n rq) (hi : invN S n rq) (hw : w ≤ 60) : Ct l yL_squeeze wsL_squeeze rm_L_squeeze G μ I P [.ref (xZ G + 255), .int (nI w)] 0 0 (fun vv μ' I' P' => vv = some (.int (sq (S 8) (nI w))) ∧ μ' = μ ∧ I' = (I) ∧ P' = (P)) := by
  have hK0 := hK
  have hA0 := hA
  have hi0 := hi
  obtain ⟨ko, hS, ⟨kg, ng⟩, ⟨kl, nl⟩, ⟨kw, nw⟩, ⟨ku, nu⟩, ⟨kc, nc⟩, ⟨kr, nr⟩⟩ := hK
  obtain ⟨ag, ar, at_⟩ := hA
  obtain ⟨hn20, hn, hq6, hq, hcur, hdr, h8, h9, h10, hrows⟩ := hi
  refine Ct.of (cc := cL_squeeze) (maxL := 3) (ret := (some .int)) [some (.ref (xZ G + 255)), some (.int (nI w)), none] (by decide) rfl rfl rfl (Nat.le_of_ble_eq_true rfl) ?_
  intro X hC hD h0 _
  refine r_bipush (pc := 0) (v := 100) hC dL_squeeze_0 (by decide) ?_
  refine r_iload_n (pc := 2) hC dL_squeeze_2 rfl ?_
  refine r_imul (pc := 3) hC dL_squeeze_3 ?_
  refine r_aload_n (pc := 4) hC dL_squeeze_4 rfl ?_
  refine r_bipush (pc := 5) (v := 8) hC dL_squeeze_5 (by decide) ?_
  refine r_iald (pc := 7) hC kg (xi_l (k := 8) ng (by decide) (by decide) (by decide)) dL_squeeze_7 ?_
  refine r_idiv (pc := 8) hC dL_squeeze_8 (by rw [ag 8 (by decide)]; exact sq_ne h8) ?_
  refine r_istore_n (pc := 9) (L' := [_, _, _]) hC dL_squeeze_9 rfl (Nat.le_of_ble_eq_true rfl) rfl ?_
  refine r_iload_n (pc := 10) hC dL_squeeze_10 rfl ?_
  refine r_bipush (pc := 11) (v := 100) hC dL_squeeze_11 (by decide) ?_
  refine r_icmp_le (pc := 13) (tgt := 20) hC dL_squeeze_13 (by decide) (fun bq13 => ?_) (fun bq13 => ?_)
  · skip
    refine r_bipush (pc := 20) (v := 100) hC dL_squeeze_20 (by decide) ?_
    refine r_iret (pc := 22) hC hD rfl dL_squeeze_22 rfl ?_
    exact ⟨by rw [← sq_law hw h8, ← ag 8 (by decide), if_neg (Int32.not_lt.mpr bq13)], rfl, rfl, rfl⟩
  · skip
    refine r_iload_n (pc := 16) hC dL_squeeze_16 rfl ?_
    refine r_goto (pc := 17) (tgt := 22) hC dL_squeeze_17 (by decide) ?_
    refine r_iret (pc := 22) hC hD rfl dL_squeeze_22 rfl ?_
    exact ⟨by rw [← sq_law hw h8, ← ag 8 (by decide), if_pos (Int32.not_le.mp bq13)], rfl, rfl, rfl⟩
theorem k_L_squeeze {X : xF} {G : xG} {cs : Nat × Nat} {μ : xM} {I : xI} {P : xP} {L : List (Option Value)} {pc : Nat} {rest : List Value} {cc : ByteArray} {Ts : List Cond} {own : String} {nL : Nat} {R : Room} (hC : xC X G cc Ts own nL R) {index : Nat} (hG : GoodIn Ts (va_wsS own index yL_squeeze wsL_squeeze)) (hR : rm_L_squeeze.frames + 1 ≤ R.frames ∧ 8 + (3 + 11) + rm_L_squeeze.locals ≤ R.locals) {n rq : Nat} {S : Nat → Int32} {w : Nat} (hK : lK μ) (hA : lA I P S n rq) (hi : invN S n rq) (hw : w ≤ 60) (hW : (rest.map fun v => v.category).sum ≤ 8) (hL : L.length = nL) (hcs : cs.1 ≤ R.cells ∧ cs.2 ≤ R.slots) (hdec : decode cc pc = .ok (.invokestatic index, 3)) (kk : xg X G cs μ I P L (pc + 3) (.int (sq (S 8) (nI w)) :: rest)) : xg X G cs μ I P L pc (.int (nI w) :: .ref (xZ G + 255) :: rest) :=
  r_callS hC (c_L_squeeze X.2.1 hK hA hi hw) hG rfl rfl rfl hd_L_squeeze.2 hR rfl rfl hW hL hcs hdec (by rintro v μ' I' P' ⟨rfl, rfl, rfl, rfl⟩; exact kk)
abbrev rm_L_name : Room := { frames := 0, cells := 0, slots := 0, locals := 0 }
theorem hd_L_name : yL_name.cls = RL ∧ yL_name.cls ≠ "java/lang/invoke/MethodHandle" ∧ yL_name.cls ≠ "java/lang/invoke/VarHandle" ∧ (parseMethodDescriptor yL_name.desc).map (fun d => d.parameters.length) = some 3 := ⟨rfl, by decide +kernel, by decide +kernel, by decide +kernel⟩
set_option maxHeartbeats 4000000 in
set_option maxRecDepth 100000 in
theorem c_L_name (l : Launch) {G : xG} {μ : xM} {I : xI} {P : xP} {y k s : Nat} (hy : y < 10000000) (hk : k < 14) (hs : s ≤ 14) : Ct l yL_name wsL_name rm_L_name G μ I P [.int (nI y), .int (nI k), .int (nI s)] 0 0 (fun vv μ' I' P' => vv = some (.int (nI (nmL y k s))) ∧ μ' = μ ∧ I' = (I) ∧ P' = (P)) := by
  refine Ct.of (cc := cL_name) (maxL := 3) (ret := (some .int)) [some (.int (nI y)), some (.int (nI k)), some (.int (nI s))] (by decide) rfl rfl rfl (Nat.le_of_ble_eq_true rfl) ?_
  intro X hC hD h0 _
  refine r_iload_n (pc := 0) hC dL_name_0 rfl ?_
  refine r_if_le (pc := 1) (tgt := 34) hC dL_name_1 (by decide) (fun bq1 => ?_) (fun bq1 => ?_)
  · skip
    refine r_bipush (pc := 34) (v := 65) hC dL_name_34 (by decide) ?_
    refine r_iload_n (pc := 36) hC dL_name_36 rfl ?_
    refine r_iconst (pc := 37) (v := 3) hC dL_name_37 (by decide) ?_
    refine r_iconst (pc := 38) (v := 2) hC dL_name_38 (by decide) ?_
    refine r_iload_n (pc := 39) hC dL_name_39 rfl ?_
    refine r_imul (pc := 40) hC dL_name_40 ?_
    refine r_iadd (pc := 41) hC dL_name_41 ?_
    refine r_idiv (pc := 42) hC dL_name_42 (nd_2 (by omega)) ?_
    refine r_iload_n (pc := 43) hC dL_name_43 rfl ?_
    refine r_iconst (pc := 44) (v := 3) hC dL_name_44 (by decide) ?_
    refine r_irem (pc := 45) hC dL_name_45 (by decide) ?_
    refine r_if_ne (pc := 46) (tgt := 54) hC dL_name_46 (by decide) (fun bq46 => ?_) (fun bq46 => ?_)
    · skip
      refine r_iconst (pc := 54) (v := 4) hC dL_name_54 (by decide) ?_
      refine r_irem (pc := 55) hC dL_name_55 (by decide) ?_
      refine r_iadd (pc := 56) hC dL_name_56 ?_
      refine r_iret (pc := 57) hC hD rfl dL_name_57 rfl ?_
      exact ⟨by rw [nmL_ok hy hk hs]; simp [nmJ, bq1, bq46], rfl, rfl, rfl⟩
    · skip
      refine r_bipush (pc := 49) (v := 26) hC dL_name_49 (by decide) ?_
      refine r_goto (pc := 51) (tgt := 55) hC dL_name_51 (by decide) ?_
      refine r_irem (pc := 55) hC dL_name_55 (by decide) ?_
      refine r_iadd (pc := 56) hC dL_name_56 ?_
      refine r_iret (pc := 57) hC hD rfl dL_name_57 rfl ?_
      exact ⟨by rw [nmL_ok hy hk hs]; simp [nmJ, bq1, bq46], rfl, rfl, rfl⟩
  · skip
    refine r_iload_n (pc := 4) hC dL_name_4 rfl ?_
    refine r_iconst (pc := 5) (v := 1) hC dL_name_5 (by decide) ?_
    refine r_iadd (pc := 6) hC dL_name_6 ?_
    refine r_iload_n (pc := 7) hC dL_name_7 rfl ?_
    refine r_icmp_ge (pc := 8) (tgt := 34) hC dL_name_8 (by decide) (fun bq8 => ?_) (fun bq8 => ?_)
    · skip
      refine r_bipush (pc := 34) (v := 65) hC dL_name_34 (by decide) ?_
      refine r_iload_n (pc := 36) hC dL_name_36 rfl ?_
      refine r_iconst (pc := 37) (v := 3) hC dL_name_37 (by decide) ?_
      refine r_iconst (pc := 38) (v := 2) hC dL_name_38 (by decide) ?_
      refine r_iload_n (pc := 39) hC dL_name_39 rfl ?_
      refine r_imul (pc := 40) hC dL_name_40 ?_
      refine r_iadd (pc := 41) hC dL_name_41 ?_
      refine r_idiv (pc := 42) hC dL_name_42 (nd_2 (by omega)) ?_
      refine r_iload_n (pc := 43) hC dL_name_43 rfl ?_
      refine r_iconst (pc := 44) (v := 3) hC dL_name_44 (by decide) ?_
      refine r_irem (pc := 45) hC dL_name_45 (by decide) ?_
      refine r_if_ne (pc := 46) (tgt := 54) hC dL_name_46 (by decide) (fun bq46 => ?_) (fun bq46 => ?_)
      · skip
        refine r_iconst (pc := 54) (v := 4) hC dL_name_54 (by decide) ?_
        refine r_irem (pc := 55) hC dL_name_55 (by decide) ?_
        refine r_iadd (pc := 56) hC dL_name_56 ?_
        refine r_iret (pc := 57) hC hD rfl dL_name_57 rfl ?_
        exact ⟨by rw [nmL_ok hy hk hs]; simp [nmJ, bq1, bq8, bq46], rfl, rfl, rfl⟩
      · skip
        refine r_bipush (pc := 49) (v := 26) hC dL_name_49 (by decide) ?_
        refine r_goto (pc := 51) (tgt := 55) hC dL_name_51 (by decide) ?_
        refine r_irem (pc := 55) hC dL_name_55 (by decide) ?_
        refine r_iadd (pc := 56) hC dL_name_56 ?_
        refine r_iret (pc := 57) hC hD rfl dL_name_57 rfl ?_
        exact ⟨by rw [nmL_ok hy hk hs]; simp [nmJ, bq1, bq8, bq46], rfl, rfl, rfl⟩
    · skip
      refine r_iload_n (pc := 11) hC dL_name_11 rfl ?_
      refine r_iconst (pc := 12) (v := 2) hC dL_name_12 (by decide) ?_
      refine r_irem (pc := 13) hC dL_name_13 (by decide) ?_
      refine r_iconst (pc := 14) (v := 1) hC dL_name_14 (by decide) ?_
      refine r_icmp_ne (pc := 15) (tgt := 34) hC dL_name_15 (by decide) (fun bq15 => ?_) (fun bq15 => ?_)
      · skip
        refine r_bipush (pc := 34) (v := 65) hC dL_name_34 (by decide) ?_
        refine r_iload_n (pc := 36) hC dL_name_36 rfl ?_
        refine r_iconst (pc := 37) (v := 3) hC dL_name_37 (by decide) ?_
        refine r_iconst (pc := 38) (v := 2) hC dL_name_38 (by decide) ?_
        refine r_iload_n (pc := 39) hC dL_name_39 rfl ?_
        refine r_imul (pc := 40) hC dL_name_40 ?_
        refine r_iadd (pc := 41) hC dL_name_41 ?_
        refine r_idiv (pc := 42) hC dL_name_42 (nd_2 (by omega)) ?_
        refine r_iload_n (pc := 43) hC dL_name_43 rfl ?_
        refine r_iconst (pc := 44) (v := 3) hC dL_name_44 (by decide) ?_
        refine r_irem (pc := 45) hC dL_name_45 (by decide) ?_
        refine r_if_ne (pc := 46) (tgt := 54) hC dL_name_46 (by decide) (fun bq46 => ?_) (fun bq46 => ?_)
        · skip
          refine r_iconst (pc := 54) (v := 4) hC dL_name_54 (by decide) ?_
          refine r_irem (pc := 55) hC dL_name_55 (by decide) ?_
          refine r_iadd (pc := 56) hC dL_name_56 ?_
          refine r_iret (pc := 57) hC hD rfl dL_name_57 rfl ?_
          exact ⟨by rw [nmL_ok hy hk hs]; simp [nmJ, bq1, bq8, bq15, bq46], rfl, rfl, rfl⟩
        · skip
          refine r_bipush (pc := 49) (v := 26) hC dL_name_49 (by decide) ?_
          refine r_goto (pc := 51) (tgt := 55) hC dL_name_51 (by decide) ?_
          refine r_irem (pc := 55) hC dL_name_55 (by decide) ?_
          refine r_iadd (pc := 56) hC dL_name_56 ?_
          refine r_iret (pc := 57) hC hD rfl dL_name_57 rfl ?_
          exact ⟨by rw [nmL_ok hy hk hs]; simp [nmJ, bq1, bq8, bq15, bq46], rfl, rfl, rfl⟩
      · skip
        refine r_iload_n (pc := 18) hC dL_name_18 rfl ?_
        refine r_iconst (pc := 19) (v := 5) hC dL_name_19 (by decide) ?_
        refine r_iload_n (pc := 20) hC dL_name_20 rfl ?_
        refine r_iadd (pc := 21) hC dL_name_21 ?_
        refine r_idiv (pc := 22) hC dL_name_22 (nd_1 (by omega)) ?_
        refine r_bipush (pc := 23) (v := 6) hC dL_name_23 (by decide) ?_
        refine r_irem (pc := 25) hC dL_name_25 (by decide) ?_
        refine r_if_ne (pc := 26) (tgt := 34) hC dL_name_26 (by decide) (fun bq26 => ?_) (fun bq26 => ?_)
        · skip
          refine r_bipush (pc := 34) (v := 65) hC dL_name_34 (by decide) ?_
          refine r_iload_n (pc := 36) hC dL_name_36 rfl ?_
          refine r_iconst (pc := 37) (v := 3) hC dL_name_37 (by decide) ?_
          refine r_iconst (pc := 38) (v := 2) hC dL_name_38 (by decide) ?_
          refine r_iload_n (pc := 39) hC dL_name_39 rfl ?_
          refine r_imul (pc := 40) hC dL_name_40 ?_
          refine r_iadd (pc := 41) hC dL_name_41 ?_
          refine r_idiv (pc := 42) hC dL_name_42 (nd_2 (by omega)) ?_
          refine r_iload_n (pc := 43) hC dL_name_43 rfl ?_
          refine r_iconst (pc := 44) (v := 3) hC dL_name_44 (by decide) ?_
          refine r_irem (pc := 45) hC dL_name_45 (by decide) ?_
          refine r_if_ne (pc := 46) (tgt := 54) hC dL_name_46 (by decide) (fun bq46 => ?_) (fun bq46 => ?_)
          · skip
            refine r_iconst (pc := 54) (v := 4) hC dL_name_54 (by decide) ?_
            refine r_irem (pc := 55) hC dL_name_55 (by decide) ?_
            refine r_iadd (pc := 56) hC dL_name_56 ?_
            refine r_iret (pc := 57) hC hD rfl dL_name_57 rfl ?_
            exact ⟨by rw [nmL_ok hy hk hs]; simp [nmJ, bq1, bq8, bq15, bq26, bq46], rfl, rfl, rfl⟩
          · skip
            refine r_bipush (pc := 49) (v := 26) hC dL_name_49 (by decide) ?_
            refine r_goto (pc := 51) (tgt := 55) hC dL_name_51 (by decide) ?_
            refine r_irem (pc := 55) hC dL_name_55 (by decide) ?_
            refine r_iadd (pc := 56) hC dL_name_56 ?_
            refine r_iret (pc := 57) hC hD rfl dL_name_57 rfl ?_
            exact ⟨by rw [nmL_ok hy hk hs]; simp [nmJ, bq1, bq8, bq15, bq26, bq46], rfl, rfl, rfl⟩
        · skip
          refine r_bipush (pc := 29) (v := 32) hC dL_name_29 (by decide) ?_
          refine r_goto (pc := 31) (tgt := 57) hC dL_name_31 (by decide) ?_
          refine r_iret (pc := 57) hC hD rfl dL_name_57 rfl ?_
          exact ⟨by rw [nmL_ok hy hk hs]; simp [nmJ, bq1, bq8, bq15, bq26], rfl, rfl, rfl⟩
theorem k_L_name {X : xF} {G : xG} {cs : Nat × Nat} {μ : xM} {I : xI} {P : xP} {L : List (Option Value)} {pc : Nat} {rest : List Value} {cc : ByteArray} {Ts : List Cond} {own : String} {nL : Nat} {R : Room} (hC : xC X G cc Ts own nL R) {index : Nat} (hG : GoodIn Ts (va_wsS own index yL_name wsL_name)) (hR : rm_L_name.frames + 1 ≤ R.frames ∧ 8 + (3 + 11) + rm_L_name.locals ≤ R.locals) {y k s : Nat} (hy : y < 10000000) (hk : k < 14) (hs : s ≤ 14) (hW : (rest.map fun v => v.category).sum ≤ 8) (hL : L.length = nL) (hcs : cs.1 ≤ R.cells ∧ cs.2 ≤ R.slots) (hdec : decode cc pc = .ok (.invokestatic index, 3)) (kk : xg X G cs μ I P L (pc + 3) (.int (nI (nmL y k s)) :: rest)) : xg X G cs μ I P L pc (.int (nI s) :: .int (nI k) :: .int (nI y) :: rest) :=
  r_callS hC (c_L_name X.2.1 hy hk hs) hG rfl rfl rfl hd_L_name.2 hR rfl rfl hW hL hcs hdec (by rintro v μ' I' P' ⟨rfl, rfl, rfl, rfl⟩; exact kk)
abbrev rm_L_moved : Room := { frames := 0, cells := 0, slots := 0, locals := 0 }
theorem hd_L_moved : yL_moved.cls = RL ∧ yL_moved.cls ≠ "java/lang/invoke/MethodHandle" ∧ yL_moved.cls ≠ "java/lang/invoke/VarHandle" ∧ (parseMethodDescriptor yL_moved.desc).map (fun d => d.parameters.length) = some 2 := ⟨rfl, by decide +kernel, by decide +kernel, by decide +kernel⟩
set_option maxHeartbeats 4000000 in
set_option maxRecDepth 100000 in
theorem c_L_moved (l : Launch) {G : xG} {μ : xM} {I : xI} {P : xP} {x r : Int32}  : Ct l yL_moved wsL_moved rm_L_moved G μ I P [.int x, .int r] 0 0 (fun vv μ' I' P' => vv = some (.int (mvd x r)) ∧ μ' = μ ∧ I' = (I) ∧ P' = (P)) := by
  refine Ct.of (cc := cL_moved) (maxL := 3) (ret := (some .int)) [some (.int x), some (.int r), none] (by decide) rfl rfl rfl (Nat.le_of_ble_eq_true rfl) ?_
  intro X hC hD h0 _
  refine r_iload_n (pc := 0) hC dL_moved_0 rfl ?_
  refine r_iconst (pc := 1) (v := 1) hC dL_moved_1 (by decide) ?_
  refine r_iload_n (pc := 2) hC dL_moved_2 rfl ?_
  refine r_ishl (pc := 3) hC dL_moved_3 ?_
  refine r_iconst (pc := 4) (v := 1) hC dL_moved_4 (by decide) ?_
  refine r_isub (pc := 5) hC dL_moved_5 ?_
  refine r_iand (pc := 6) hC dL_moved_6 ?_
  refine r_istore_n (pc := 7) (L' := [_, _, _]) hC dL_moved_7 rfl (Nat.le_of_ble_eq_true rfl) rfl ?_
  refine r_iload_n (pc := 8) hC dL_moved_8 rfl ?_
  refine r_iload_n (pc := 9) hC dL_moved_9 rfl ?_
  refine r_iload_n (pc := 10) hC dL_moved_10 rfl ?_
  refine r_isub (pc := 11) hC dL_moved_11 ?_
  refine r_iload_n (pc := 12) hC dL_moved_12 rfl ?_
  refine r_iconst (pc := 13) (v := 1) hC dL_moved_13 (by decide) ?_
  refine r_iadd (pc := 14) hC dL_moved_14 ?_
  refine r_ishr (pc := 15) hC dL_moved_15 ?_
  refine r_iload_n (pc := 16) hC dL_moved_16 rfl ?_
  refine r_ishl (pc := 17) hC dL_moved_17 ?_
  refine r_iadd (pc := 18) hC dL_moved_18 ?_
  refine r_iret (pc := 19) hC hD rfl dL_moved_19 rfl ?_
  exact ⟨rfl, rfl, rfl, rfl⟩
theorem k_L_moved {X : xF} {G : xG} {cs : Nat × Nat} {μ : xM} {I : xI} {P : xP} {L : List (Option Value)} {pc : Nat} {rest : List Value} {cc : ByteArray} {Ts : List Cond} {own : String} {nL : Nat} {R : Room} (hC : xC X G cc Ts own nL R) {index : Nat} (hG : GoodIn Ts (va_wsS own index yL_moved wsL_moved)) (hR : rm_L_moved.frames + 1 ≤ R.frames ∧ 8 + (3 + 11) + rm_L_moved.locals ≤ R.locals) {x r : Int32}  (hW : (rest.map fun v => v.category).sum ≤ 8) (hL : L.length = nL) (hcs : cs.1 ≤ R.cells ∧ cs.2 ≤ R.slots) (hdec : decode cc pc = .ok (.invokestatic index, 3)) (kk : xg X G cs μ I P L (pc + 3) (.int (mvd x r) :: rest)) : xg X G cs μ I P L pc (.int r :: .int x :: rest) :=
  r_callS hC (c_L_moved X.2.1 ) hG rfl rfl rfl hd_L_moved.2 hR rfl rfl hW hL hcs hdec (by rintro v μ' I' P' ⟨rfl, rfl, rfl, rfl⟩; exact kk)
