/-! floats: the bits by hand -/
/-- the class' loop on a float r with exponent e: no NaN is made, and x comes out -/
def fbOk : Nat → UInt32 → Nat → Int32 → Bool
  | 0, _, _, _ => false
  | w + 1, r, e, x => if Op.cmpValue (FP.fcmp r 0x40000000) .l < 0 then decide (FP.fsub r 0x3f800000 &&& 0x7fffffff ≤ 0x7f800000) && (decide (FP.fmul (FP.fsub r 0x3f800000) 1258291200 &&& 0x7fffffff ≤ 0x7f800000) && decide (nI e <<< (23 &&& 31) + FP.f2i (FP.fmul (FP.fsub r 0x3f800000) 1258291200) = x)) else decide (FP.fdiv r 0x40000000 &&& 0x7fffffff ≤ 0x7f800000) && fbOk w (FP.fdiv r 0x40000000) (e + 1) x
def mnQ (q : UInt32) : Bool := decide (q &&& 0x7fffffff ≤ 0x7f800000) && (decide (Op.cmpValue (FP.fcmp q q) .l = 0) && fbOk 12 q 127 q.toInt32)
def mnAll (n m : Nat) : Bool := (List.range m).all (fun d => mnQ (FP.fdiv (FP.i2f (nI (n + d))) (FP.i2f (nI n))))
set_option maxRecDepth 100000 in
theorem mn_1 : mnAll 1 42 = true := by decide +kernel
set_option maxRecDepth 100000 in
theorem mn_2 : mnAll 2 83 = true := by decide +kernel
set_option maxRecDepth 100000 in
theorem mn_3 : mnAll 3 124 = true := by decide +kernel
set_option maxRecDepth 100000 in
theorem mn_4 : mnAll 4 165 = true := by decide +kernel
set_option maxRecDepth 100000 in
theorem mn_5 : mnAll 5 206 = true := by decide +kernel
set_option maxRecDepth 100000 in
theorem mn_6 : mnAll 6 247 = true := by decide +kernel
set_option maxRecDepth 100000 in
theorem mn_7 : mnAll 7 288 = true := by decide +kernel
set_option maxRecDepth 100000 in
theorem mn_8 : mnAll 8 329 = true := by decide +kernel
set_option maxRecDepth 100000 in
theorem mn_9 : mnAll 9 370 = true := by decide +kernel
set_option maxRecDepth 100000 in
theorem mn_10 : mnAll 10 411 = true := by decide +kernel
set_option maxRecDepth 100000 in
theorem mn_11 : mnAll 11 452 = true := by decide +kernel
set_option maxRecDepth 100000 in
theorem mn_12 : mnAll 12 493 = true := by decide +kernel
set_option maxRecDepth 100000 in
theorem mn_13 : mnAll 13 534 = true := by decide +kernel
set_option maxRecDepth 100000 in
theorem mn_14 : mnAll 14 575 = true := by decide +kernel
set_option maxRecDepth 100000 in
theorem mn_15 : mnAll 15 616 = true := by decide +kernel
set_option maxRecDepth 100000 in
theorem mn_16 : mnAll 16 657 = true := by decide +kernel
set_option maxRecDepth 100000 in
theorem mn_17 : mnAll 17 698 = true := by decide +kernel
set_option maxRecDepth 100000 in
theorem mn_18 : mnAll 18 739 = true := by decide +kernel
set_option maxRecDepth 100000 in
theorem mn_19 : mnAll 19 780 = true := by decide +kernel
set_option maxRecDepth 100000 in
theorem mn_20 : mnAll 20 821 = true := by decide +kernel
theorem mn_all {n : Nat} (h1 : 1 ≤ n) (h2 : n ≤ 20) : mnAll n (41 * n + 1) = true := by
  have hc : n = 1 ∨ n = 2 ∨ n = 3 ∨ n = 4 ∨ n = 5 ∨ n = 6 ∨ n = 7 ∨ n = 8 ∨ n = 9 ∨ n = 10 ∨ n = 11 ∨ n = 12 ∨ n = 13 ∨ n = 14 ∨ n = 15 ∨ n = 16 ∨ n = 17 ∨ n = 18 ∨ n = 19 ∨ n = 20 := by omega
  rcases hc with rfl | rfl | rfl | rfl | rfl | rfl | rfl | rfl | rfl | rfl | rfl | rfl | rfl | rfl | rfl | rfl | rfl | rfl | rfl | rfl
  · exact mn_1
  · exact mn_2
  · exact mn_3
  · exact mn_4
  · exact mn_5
  · exact mn_6
  · exact mn_7
  · exact mn_8
  · exact mn_9
  · exact mn_10
  · exact mn_11
  · exact mn_12
  · exact mn_13
  · exact mn_14
  · exact mn_15
  · exact mn_16
  · exact mn_17
  · exact mn_18
  · exact mn_19
  · exact mn_20
theorem mean_ok {n s : Nat} (h1 : 1 ≤ n) (h2 : n ≤ 20) (h3 : n ≤ s) (h4 : s ≤ 42 * n) : mnQ (FP.fdiv (FP.i2f (nI s)) (FP.i2f (nI n))) = true := by
  have h := List.all_eq_true.mp (mn_all h1 h2) (s - n) (List.mem_range.mpr (by omega))
  rw [show n + (s - n) = s by omega] at h
  exact h
