section XROWS4
variable {X : xF} {G : xG} {cs : Nat × Nat} {μ : xM} {I : xI} {P : xP} {L : List (Option Value)} {pc : Nat} {st : List Value} {cc : ByteArray} {Ts : List Cond} {own : String} {nL : Nat} {R : Room}
theorem r_get (hC : xC X G cc Ts own nL R) {C : String} {T : u_T} {N ci k index a : Nat} {fs : List Value} {v : Value} (hin : ∀ w ∈ u_ws C T N, w ∈ Ts) (hlink : Cond.fieldLink own index (T k).1 (T k).2.1 (T k).2.2.1 ∈ Ts) (hc : vwCl[ci]? = some (C, T, N)) (hk : k < N) (hn : μ.2.1 a ≠ 0) (he : xe G μ I P a = .inr (ci, fs)) (hv : fs[k]? = some v) (d : decode cc pc = .ok (.getfield index, 3)) (kk : xg X G cs μ I P L (pc + 3) (v :: st)) : xg X G cs μ I P L (pc) (.ref (xZ G + a) :: st) := by
  intro H locs ls h0 hP hS hl
  obtain ⟨j, rfl, hj⟩ := xok_pos h0 hn
  have hw := xw_at (G := G) (I := I) (P := P) hj
  rw [he] at hw
  exact va_get hC.1 hC.2.1 hC.2.2.2.2.1 hin hC.2.2.2.1 hC.2.2.2.2.2.1.1 hP j hw hc k hk (hC.2.2.2.2.1 _ hlink) (fun x h => h) hv d (kk H locs ls h0 hP hS hl)
theorem r_put (hC : xC X G cc Ts own nL R) {C : String} {T : u_T} {N ci k index a : Nat} {fs : List Value} {v : Value} {ty0 : Nat → FieldType} {I' : xI} {P' : xP} (hin : ∀ w ∈ u_ws C T N, w ∈ Ts) (hlink : Cond.fieldLink own index (T k).1 (T k).2.1 (T k).2.2.1 ∈ Ts) (hc : vwCl[ci]? = some (C, T, N)) (hk : k < N) (hty : ∀ k, k < N → parseFieldDescriptor (T k).2.2.1 = some (ty0 k)) (hnm : ∀ a, a < N → ∀ b, b < N → a ≠ b → (T a).2.1 ≠ (T b).2.1) (hfin : (T k).2.2.2 = false) (hn0 : narrow (ty0 k) v = v) (hfit : fits (ty0 k) v = true) (hlen : k < fs.length) (hn : μ.2.1 a ≠ 0) (he : xe G μ I P a = .inr (ci, fs)) (he' : xe G μ I' P' a = .inr (ci, fs.set k v)) (hb : ∀ b, b ≠ a → xe G μ I' P' b = xe G μ I P b) (hT : xty μ I → xty μ I') (d : decode cc pc = .ok (.putfield index, 3)) (kk : xg X G cs μ I' P' L (pc + 3) (st)) : xg X G cs μ I P L (pc) (v :: .ref (xZ G + a) :: st) := by
  intro H locs ls h0 hP hS hl
  obtain ⟨j, rfl, hj⟩ := xok_pos h0 hn
  have hw := xw_at (G := G) (I := I) (P := P) hj
  rw [he] at hw
  refine va_put hC.1 hC.2.1 hC.2.2.2.2.1 hin ty0 hty hnm hC.2.2.2.1 hC.2.2.2.2.2.1.1 hP xw_D hS j hw hc k hk (hC.2.2.2.2.1 _ hlink) (fun x h => h) hfin (hty k hk) hn0 hfit hlen d (fun H1 locs1 hP1 _ hS1 => kk H1 locs1 ls ⟨h0.1, hT h0.2⟩ ?_ hS1 hl)
  rw [xw_set he' hb] at hP1
  exact hP1
theorem r_putF (hC : xC X G cc Ts own nL R) {C : String} {T : u_T} {N ci k index a : Nat} {fs : List Value} {v : Value} {ty0 : Nat → FieldType} {I' : xI} {P' : xP} (hnm2 : X.2.2.2.2.2.2.2.2.1.name = "<init>") (hin : ∀ w ∈ u_ws C T N, w ∈ Ts) (hlink : Cond.fieldLink own index (T k).1 (T k).2.1 (T k).2.2.1 ∈ Ts) (hc : vwCl[ci]? = some (C, T, N)) (hk : k < N) (hty : ∀ k, k < N → parseFieldDescriptor (T k).2.2.1 = some (ty0 k)) (hnm : ∀ a, a < N → ∀ b, b < N → a ≠ b → (T a).2.1 ≠ (T b).2.1) (hfin : (T k).2.2.2 = true) (hdecl : (T k).1 = own) (hn0 : narrow (ty0 k) v = v) (hfit : fits (ty0 k) v = true) (hlen : k < fs.length) (hn : μ.2.1 a ≠ 0) (he : xe G μ I P a = .inr (ci, fs)) (he' : xe G μ I' P' a = .inr (ci, fs.set k v)) (hb : ∀ b, b ≠ a → xe G μ I' P' b = xe G μ I P b) (hT : xty μ I → xty μ I') (d : decode cc pc = .ok (.putfield index, 3)) (kk : xg X G cs μ I' P' L (pc + 3) (st)) : xg X G cs μ I P L (pc) (v :: .ref (xZ G + a) :: st) := by
  intro H locs ls h0 hP hS hl
  obtain ⟨j, rfl, hj⟩ := xok_pos h0 hn
  have hw := xw_at (G := G) (I := I) (P := P) hj
  rw [he] at hw
  refine va_putF hC.1 hC.2.1 hC.2.2.2.2.1 hin ty0 hty hnm hC.2.2.2.1 hC.2.2.2.2.2.1.1 hP xw_D hS j hw hc k hk (hC.2.2.2.2.1 _ hlink) (fun x h => h) hfin hnm2 hdecl (hty k hk) hn0 hfit hlen d (fun H1 locs1 hP1 _ hS1 => kk H1 locs1 ls ⟨h0.1, hT h0.2⟩ ?_ hS1 hl)
  rw [xw_set he' hb] at hP1
  exact hP1
theorem xe_Blind {a : Nat} (hk : μ.2.1 a = 1) : xe G μ I P a = .inr (0, [va_rf (xr G (P a 0)), .int (I a 1), .int (I a 2), va_rf (xr G (P a 3)), .int (I a 4), .int (I a 5), va_rf (xr G (P a 6)), .int (I a 7), .int (I a 8), .int (I a 9), .int (I a 10)]) := by simp only [xe, hk]
theorem g_Blind_rows (hC : xC X G cc Ts own nL R) {a index : Nat} (hin : ∀ w ∈ wsX00, w ∈ Ts) (hlink : Cond.fieldLink own index "HandBlinds$Blind" "rows" "[LHandBlinds$Row;" ∈ Ts) (hk : μ.2.1 a = 1) {c2 : Nat} (hk2 : μ.2.1 (P a 0) = c2) (hc2 : c2 ≠ 0) (d : decode cc pc = .ok (.getfield index, 3)) (kk : xg X G cs μ I P L (pc + 3) (.ref (xZ G + P a 0) :: st)) : xg X G cs μ I P L (pc) (.ref (xZ G + a) :: st) := by
  refine r_get hC (T := TX0) (k := 0) (v := va_rf (xr G (P a 0))) hin hlink rfl (by decide) (by rw [hk]; decide) (xe_Blind hk) rfl d ?_
  intro H locs ls h0 hP hS hl
  rw [xr_ne (fun q => hc2 (by rw [← hk2, q]; exact h0.1.1))]
  exact kk H locs ls h0 hP hS hl
theorem p_Blind_rows (hC : xC X G cc Ts own nL R) {a index v : Nat} (hnm2 : X.2.2.2.2.2.2.2.2.1.name = "<init>") (hown : RX0 = own) (hin : ∀ w ∈ wsX00, w ∈ Ts) (hlink : Cond.fieldLink own index "HandBlinds$Blind" "rows" "[LHandBlinds$Row;" ∈ Ts) (hk : μ.2.1 a = 1) (hv : v ≠ 0) (d : decode cc pc = .ok (.putfield index, 3)) (kk : xg X G cs μ I (xu P a 0 v) L (pc + 3) (st)) : xg X G cs μ I P L (pc) (.ref (xZ G + v) :: .ref (xZ G + a) :: st) :=
  r_putF hC (T := TX0) (k := 0) hnm2 hin hlink rfl (by decide) tyX0_ok nmX0 rfl hown rfl rfl (Nat.le_of_ble_eq_true rfl) (by rw [hk]; decide) (xe_Blind hk) (by rw [xe_Blind hk]; simp [xu, xr, hv, va_rf]) (fun b hb => xe_congr rfl (xu_row hb)) (fun h => h) d kk
theorem g_Blind_rowCount (hC : xC X G cc Ts own nL R) {a index : Nat} (hin : ∀ w ∈ wsX00, w ∈ Ts) (hlink : Cond.fieldLink own index "HandBlinds$Blind" "rowCount" "I" ∈ Ts) (hk : μ.2.1 a = 1) (d : decode cc pc = .ok (.getfield index, 3)) (kk : xg X G cs μ I P L (pc + 3) (.int (I a 1) :: st)) : xg X G cs μ I P L (pc) (.ref (xZ G + a) :: st) := r_get hC (T := TX0) (k := 1) hin hlink rfl (by decide) (by rw [hk]; decide) (xe_Blind hk) rfl d kk
theorem p_Blind_rowCount (hC : xC X G cc Ts own nL R) {a index : Nat} {v : Int32} (hin : ∀ w ∈ wsX00, w ∈ Ts) (hlink : Cond.fieldLink own index "HandBlinds$Blind" "rowCount" "I" ∈ Ts) (hk : μ.2.1 a = 1) (d : decode cc pc = .ok (.putfield index, 3)) (kk : xg X G cs μ (xu I a 1 v) P L (pc + 3) (st)) : xg X G cs μ I P L (pc) (.int v :: .ref (xZ G + a) :: st) :=
  r_put hC (T := TX0) (k := 1) hin hlink rfl (by decide) tyX0_ok nmX0 rfl rfl rfl (Nat.le_of_ble_eq_true rfl) (by rw [hk]; decide) (xe_Blind hk) (by rw [xe_Blind hk]; simp [xu]) (fun b hb => xe_congr (xu_row hb) rfl) (xty_u hk (by decide) (Or.inl (by decide))) d kk
theorem g_Blind_shown (hC : xC X G cc Ts own nL R) {a index : Nat} (hin : ∀ w ∈ wsX00, w ∈ Ts) (hlink : Cond.fieldLink own index "HandBlinds$Blind" "shown" "I" ∈ Ts) (hk : μ.2.1 a = 1) (d : decode cc pc = .ok (.getfield index, 3)) (kk : xg X G cs μ I P L (pc + 3) (.int (I a 2) :: st)) : xg X G cs μ I P L (pc) (.ref (xZ G + a) :: st) := r_get hC (T := TX0) (k := 2) hin hlink rfl (by decide) (by rw [hk]; decide) (xe_Blind hk) rfl d kk
theorem p_Blind_shown (hC : xC X G cc Ts own nL R) {a index : Nat} {v : Int32} (hin : ∀ w ∈ wsX00, w ∈ Ts) (hlink : Cond.fieldLink own index "HandBlinds$Blind" "shown" "I" ∈ Ts) (hk : μ.2.1 a = 1) (d : decode cc pc = .ok (.putfield index, 3)) (kk : xg X G cs μ (xu I a 2 v) P L (pc + 3) (st)) : xg X G cs μ I P L (pc) (.int v :: .ref (xZ G + a) :: st) :=
  r_put hC (T := TX0) (k := 2) hin hlink rfl (by decide) tyX0_ok nmX0 rfl rfl rfl (Nat.le_of_ble_eq_true rfl) (by rw [hk]; decide) (xe_Blind hk) (by rw [xe_Blind hk]; simp [xu]) (fun b hb => xe_congr (xu_row hb) rfl) (xty_u hk (by decide) (Or.inl (by decide))) d kk
theorem g_Blind_routes (hC : xC X G cc Ts own nL R) {a index : Nat} (hin : ∀ w ∈ wsX00, w ∈ Ts) (hlink : Cond.fieldLink own index "HandBlinds$Blind" "routes" "[LHandBlinds$Route;" ∈ Ts) (hk : μ.2.1 a = 1) {c2 : Nat} (hk2 : μ.2.1 (P a 3) = c2) (hc2 : c2 ≠ 0) (d : decode cc pc = .ok (.getfield index, 3)) (kk : xg X G cs μ I P L (pc + 3) (.ref (xZ G + P a 3) :: st)) : xg X G cs μ I P L (pc) (.ref (xZ G + a) :: st) := by
  refine r_get hC (T := TX0) (k := 3) (v := va_rf (xr G (P a 3))) hin hlink rfl (by decide) (by rw [hk]; decide) (xe_Blind hk) rfl d ?_
  intro H locs ls h0 hP hS hl
  rw [xr_ne (fun q => hc2 (by rw [← hk2, q]; exact h0.1.1))]
  exact kk H locs ls h0 hP hS hl
theorem p_Blind_routes (hC : xC X G cc Ts own nL R) {a index v : Nat} (hnm2 : X.2.2.2.2.2.2.2.2.1.name = "<init>") (hown : RX0 = own) (hin : ∀ w ∈ wsX00, w ∈ Ts) (hlink : Cond.fieldLink own index "HandBlinds$Blind" "routes" "[LHandBlinds$Route;" ∈ Ts) (hk : μ.2.1 a = 1) (hv : v ≠ 0) (d : decode cc pc = .ok (.putfield index, 3)) (kk : xg X G cs μ I (xu P a 3 v) L (pc + 3) (st)) : xg X G cs μ I P L (pc) (.ref (xZ G + v) :: .ref (xZ G + a) :: st) :=
  r_putF hC (T := TX0) (k := 3) hnm2 hin hlink rfl (by decide) tyX0_ok nmX0 rfl hown rfl rfl (Nat.le_of_ble_eq_true rfl) (by rw [hk]; decide) (xe_Blind hk) (by rw [xe_Blind hk]; simp [xu, xr, hv, va_rf]) (fun b hb => xe_congr rfl (xu_row hb)) (fun h => h) d kk
theorem g_Blind_routeCount (hC : xC X G cc Ts own nL R) {a index : Nat} (hin : ∀ w ∈ wsX00, w ∈ Ts) (hlink : Cond.fieldLink own index "HandBlinds$Blind" "routeCount" "I" ∈ Ts) (hk : μ.2.1 a = 1) (d : decode cc pc = .ok (.getfield index, 3)) (kk : xg X G cs μ I P L (pc + 3) (.int (I a 4) :: st)) : xg X G cs μ I P L (pc) (.ref (xZ G + a) :: st) := r_get hC (T := TX0) (k := 4) hin hlink rfl (by decide) (by rw [hk]; decide) (xe_Blind hk) rfl d kk
theorem p_Blind_routeCount (hC : xC X G cc Ts own nL R) {a index : Nat} {v : Int32} (hin : ∀ w ∈ wsX00, w ∈ Ts) (hlink : Cond.fieldLink own index "HandBlinds$Blind" "routeCount" "I" ∈ Ts) (hk : μ.2.1 a = 1) (d : decode cc pc = .ok (.putfield index, 3)) (kk : xg X G cs μ (xu I a 4 v) P L (pc + 3) (st)) : xg X G cs μ I P L (pc) (.int v :: .ref (xZ G + a) :: st) :=
  r_put hC (T := TX0) (k := 4) hin hlink rfl (by decide) tyX0_ok nmX0 rfl rfl rfl (Nat.le_of_ble_eq_true rfl) (by rw [hk]; decide) (xe_Blind hk) (by rw [xe_Blind hk]; simp [xu]) (fun b hb => xe_congr (xu_row hb) rfl) (xty_u hk (by decide) (Or.inl (by decide))) d kk
theorem g_Blind_driven (hC : xC X G cc Ts own nL R) {a index : Nat} (hin : ∀ w ∈ wsX00, w ∈ Ts) (hlink : Cond.fieldLink own index "HandBlinds$Blind" "driven" "I" ∈ Ts) (hk : μ.2.1 a = 1) (d : decode cc pc = .ok (.getfield index, 3)) (kk : xg X G cs μ I P L (pc + 3) (.int (I a 5) :: st)) : xg X G cs μ I P L (pc) (.ref (xZ G + a) :: st) := r_get hC (T := TX0) (k := 5) hin hlink rfl (by decide) (by rw [hk]; decide) (xe_Blind hk) rfl d kk
theorem p_Blind_driven (hC : xC X G cc Ts own nL R) {a index : Nat} {v : Int32} (hin : ∀ w ∈ wsX00, w ∈ Ts) (hlink : Cond.fieldLink own index "HandBlinds$Blind" "driven" "I" ∈ Ts) (hk : μ.2.1 a = 1) (d : decode cc pc = .ok (.putfield index, 3)) (kk : xg X G cs μ (xu I a 5 v) P L (pc + 3) (st)) : xg X G cs μ I P L (pc) (.int v :: .ref (xZ G + a) :: st) :=
  r_put hC (T := TX0) (k := 5) hin hlink rfl (by decide) tyX0_ok nmX0 rfl rfl rfl (Nat.le_of_ble_eq_true rfl) (by rw [hk]; decide) (xe_Blind hk) (by rw [xe_Blind hk]; simp [xu]) (fun b hb => xe_congr (xu_row hb) rfl) (xty_u hk (by decide) (Or.inl (by decide))) d kk
theorem g_Blind_settings (hC : xC X G cc Ts own nL R) {a index : Nat} (hin : ∀ w ∈ wsX00, w ∈ Ts) (hlink : Cond.fieldLink own index "HandBlinds$Blind" "settings" "[I" ∈ Ts) (hk : μ.2.1 a = 1) {c2 : Nat} (hk2 : μ.2.1 (P a 6) = c2) (hc2 : c2 ≠ 0) (d : decode cc pc = .ok (.getfield index, 3)) (kk : xg X G cs μ I P L (pc + 3) (.ref (xZ G + P a 6) :: st)) : xg X G cs μ I P L (pc) (.ref (xZ G + a) :: st) := by
  refine r_get hC (T := TX0) (k := 6) (v := va_rf (xr G (P a 6))) hin hlink rfl (by decide) (by rw [hk]; decide) (xe_Blind hk) rfl d ?_
  intro H locs ls h0 hP hS hl
  rw [xr_ne (fun q => hc2 (by rw [← hk2, q]; exact h0.1.1))]
  exact kk H locs ls h0 hP hS hl
theorem p_Blind_settings (hC : xC X G cc Ts own nL R) {a index v : Nat} (hnm2 : X.2.2.2.2.2.2.2.2.1.name = "<init>") (hown : RX0 = own) (hin : ∀ w ∈ wsX00, w ∈ Ts) (hlink : Cond.fieldLink own index "HandBlinds$Blind" "settings" "[I" ∈ Ts) (hk : μ.2.1 a = 1) (hv : v ≠ 0) (d : decode cc pc = .ok (.putfield index, 3)) (kk : xg X G cs μ I (xu P a 6 v) L (pc + 3) (st)) : xg X G cs μ I P L (pc) (.ref (xZ G + v) :: .ref (xZ G + a) :: st) :=
  r_putF hC (T := TX0) (k := 6) hnm2 hin hlink rfl (by decide) tyX0_ok nmX0 rfl hown rfl rfl (Nat.le_of_ble_eq_true rfl) (by rw [hk]; decide) (xe_Blind hk) (by rw [xe_Blind hk]; simp [xu, xr, hv, va_rf]) (fun b hb => xe_congr rfl (xu_row hb)) (fun h => h) d kk
theorem g_Blind_tears (hC : xC X G cc Ts own nL R) {a index : Nat} (hin : ∀ w ∈ wsX00, w ∈ Ts) (hlink : Cond.fieldLink own index "HandBlinds$Blind" "tears" "I" ∈ Ts) (hk : μ.2.1 a = 1) (d : decode cc pc = .ok (.getfield index, 3)) (kk : xg X G cs μ I P L (pc + 3) (.int (I a 7) :: st)) : xg X G cs μ I P L (pc) (.ref (xZ G + a) :: st) := r_get hC (T := TX0) (k := 7) hin hlink rfl (by decide) (by rw [hk]; decide) (xe_Blind hk) rfl d kk
theorem p_Blind_tears (hC : xC X G cc Ts own nL R) {a index : Nat} {v : Int32} (hin : ∀ w ∈ wsX00, w ∈ Ts) (hlink : Cond.fieldLink own index "HandBlinds$Blind" "tears" "I" ∈ Ts) (hk : μ.2.1 a = 1) (d : decode cc pc = .ok (.putfield index, 3)) (kk : xg X G cs μ (xu I a 7 v) P L (pc + 3) (st)) : xg X G cs μ I P L (pc) (.int v :: .ref (xZ G + a) :: st) :=
  r_put hC (T := TX0) (k := 7) hin hlink rfl (by decide) tyX0_ok nmX0 rfl rfl rfl (Nat.le_of_ble_eq_true rfl) (by rw [hk]; decide) (xe_Blind hk) (by rw [xe_Blind hk]; simp [xu]) (fun b hb => xe_congr (xu_row hb) rfl) (xty_u hk (by decide) (Or.inl (by decide))) d kk
theorem g_Blind_passed (hC : xC X G cc Ts own nL R) {a index : Nat} (hin : ∀ w ∈ wsX00, w ∈ Ts) (hlink : Cond.fieldLink own index "HandBlinds$Blind" "passed" "I" ∈ Ts) (hk : μ.2.1 a = 1) (d : decode cc pc = .ok (.getfield index, 3)) (kk : xg X G cs μ I P L (pc + 3) (.int (I a 8) :: st)) : xg X G cs μ I P L (pc) (.ref (xZ G + a) :: st) := r_get hC (T := TX0) (k := 8) hin hlink rfl (by decide) (by rw [hk]; decide) (xe_Blind hk) rfl d kk
theorem p_Blind_passed (hC : xC X G cc Ts own nL R) {a index : Nat} {v : Int32} (hin : ∀ w ∈ wsX00, w ∈ Ts) (hlink : Cond.fieldLink own index "HandBlinds$Blind" "passed" "I" ∈ Ts) (hk : μ.2.1 a = 1) (d : decode cc pc = .ok (.putfield index, 3)) (kk : xg X G cs μ (xu I a 8 v) P L (pc + 3) (st)) : xg X G cs μ I P L (pc) (.int v :: .ref (xZ G + a) :: st) :=
  r_put hC (T := TX0) (k := 8) hin hlink rfl (by decide) tyX0_ok nmX0 rfl rfl rfl (Nat.le_of_ble_eq_true rfl) (by rw [hk]; decide) (xe_Blind hk) (by rw [xe_Blind hk]; simp [xu]) (fun b hb => xe_congr (xu_row hb) rfl) (xty_u hk (by decide) (Or.inl (by decide))) d kk
theorem g_Blind_stops (hC : xC X G cc Ts own nL R) {a index : Nat} (hin : ∀ w ∈ wsX00, w ∈ Ts) (hlink : Cond.fieldLink own index "HandBlinds$Blind" "stops" "I" ∈ Ts) (hk : μ.2.1 a = 1) (d : decode cc pc = .ok (.getfield index, 3)) (kk : xg X G cs μ I P L (pc + 3) (.int (I a 9) :: st)) : xg X G cs μ I P L (pc) (.ref (xZ G + a) :: st) := r_get hC (T := TX0) (k := 9) hin hlink rfl (by decide) (by rw [hk]; decide) (xe_Blind hk) rfl d kk
theorem p_Blind_stops (hC : xC X G cc Ts own nL R) {a index : Nat} {v : Int32} (hin : ∀ w ∈ wsX00, w ∈ Ts) (hlink : Cond.fieldLink own index "HandBlinds$Blind" "stops" "I" ∈ Ts) (hk : μ.2.1 a = 1) (d : decode cc pc = .ok (.putfield index, 3)) (kk : xg X G cs μ (xu I a 9 v) P L (pc + 3) (st)) : xg X G cs μ I P L (pc) (.int v :: .ref (xZ G + a) :: st) :=
  r_put hC (T := TX0) (k := 9) hin hlink rfl (by decide) tyX0_ok nmX0 rfl rfl rfl (Nat.le_of_ble_eq_true rfl) (by rw [hk]; decide) (xe_Blind hk) (by rw [xe_Blind hk]; simp [xu]) (fun b hb => xe_congr (xu_row hb) rfl) (xty_u hk (by decide) (Or.inl (by decide))) d kk
theorem g_Blind_rightStops (hC : xC X G cc Ts own nL R) {a index : Nat} (hin : ∀ w ∈ wsX00, w ∈ Ts) (hlink : Cond.fieldLink own index "HandBlinds$Blind" "rightStops" "I" ∈ Ts) (hk : μ.2.1 a = 1) (d : decode cc pc = .ok (.getfield index, 3)) (kk : xg X G cs μ I P L (pc + 3) (.int (I a 10) :: st)) : xg X G cs μ I P L (pc) (.ref (xZ G + a) :: st) := r_get hC (T := TX0) (k := 10) hin hlink rfl (by decide) (by rw [hk]; decide) (xe_Blind hk) rfl d kk
theorem p_Blind_rightStops (hC : xC X G cc Ts own nL R) {a index : Nat} {v : Int32} (hin : ∀ w ∈ wsX00, w ∈ Ts) (hlink : Cond.fieldLink own index "HandBlinds$Blind" "rightStops" "I" ∈ Ts) (hk : μ.2.1 a = 1) (d : decode cc pc = .ok (.putfield index, 3)) (kk : xg X G cs μ (xu I a 10 v) P L (pc + 3) (st)) : xg X G cs μ I P L (pc) (.int v :: .ref (xZ G + a) :: st) :=
  r_put hC (T := TX0) (k := 10) hin hlink rfl (by decide) tyX0_ok nmX0 rfl rfl rfl (Nat.le_of_ble_eq_true rfl) (by rw [hk]; decide) (xe_Blind hk) (by rw [xe_Blind hk]; simp [xu]) (fun b hb => xe_congr (xu_row hb) rfl) (xty_u hk (by decide) (Or.inl (by decide))) d kk
theorem xe_Route {a : Nat} (hk : μ.2.1 a = 2) : xe G μ I P a = .inr (1, [.int (I a 0), .int (I a 1), .int (I a 2)]) := by simp only [xe, hk]
theorem g_Route_rows (hC : xC X G cc Ts own nL R) {a index : Nat} (hin : ∀ w ∈ wsX10, w ∈ Ts) (hlink : Cond.fieldLink own index "HandBlinds$Route" "rows" "I" ∈ Ts) (hk : μ.2.1 a = 2) (d : decode cc pc = .ok (.getfield index, 3)) (kk : xg X G cs μ I P L (pc + 3) (.int (I a 0) :: st)) : xg X G cs μ I P L (pc) (.ref (xZ G + a) :: st) := r_get hC (T := TX1) (k := 0) hin hlink rfl (by decide) (by rw [hk]; decide) (xe_Route hk) rfl d kk
theorem p_Route_rows (hC : xC X G cc Ts own nL R) {a index : Nat} {v : Int32} (hin : ∀ w ∈ wsX10, w ∈ Ts) (hlink : Cond.fieldLink own index "HandBlinds$Route" "rows" "I" ∈ Ts) (hk : μ.2.1 a = 2) (d : decode cc pc = .ok (.putfield index, 3)) (kk : xg X G cs μ (xu I a 0 v) P L (pc + 3) (st)) : xg X G cs μ I P L (pc) (.int v :: .ref (xZ G + a) :: st) :=
  r_put hC (T := TX1) (k := 0) hin hlink rfl (by decide) tyX1_ok nmX1 rfl rfl rfl (Nat.le_of_ble_eq_true rfl) (by rw [hk]; decide) (xe_Route hk) (by rw [xe_Route hk]; simp [xu]) (fun b hb => xe_congr (xu_row hb) rfl) (xty_u hk (by decide) (Or.inl (by decide))) d kk
theorem g_Route_stops (hC : xC X G cc Ts own nL R) {a index : Nat} (hin : ∀ w ∈ wsX10, w ∈ Ts) (hlink : Cond.fieldLink own index "HandBlinds$Route" "stops" "I" ∈ Ts) (hk : μ.2.1 a = 2) (d : decode cc pc = .ok (.getfield index, 3)) (kk : xg X G cs μ I P L (pc + 3) (.int (I a 1) :: st)) : xg X G cs μ I P L (pc) (.ref (xZ G + a) :: st) := r_get hC (T := TX1) (k := 1) hin hlink rfl (by decide) (by rw [hk]; decide) (xe_Route hk) rfl d kk
theorem p_Route_stops (hC : xC X G cc Ts own nL R) {a index : Nat} {v : Int32} (hin : ∀ w ∈ wsX10, w ∈ Ts) (hlink : Cond.fieldLink own index "HandBlinds$Route" "stops" "I" ∈ Ts) (hk : μ.2.1 a = 2) (d : decode cc pc = .ok (.putfield index, 3)) (kk : xg X G cs μ (xu I a 1 v) P L (pc + 3) (st)) : xg X G cs μ I P L (pc) (.int v :: .ref (xZ G + a) :: st) :=
  r_put hC (T := TX1) (k := 1) hin hlink rfl (by decide) tyX1_ok nmX1 rfl rfl rfl (Nat.le_of_ble_eq_true rfl) (by rw [hk]; decide) (xe_Route hk) (by rw [xe_Route hk]; simp [xu]) (fun b hb => xe_congr (xu_row hb) rfl) (xty_u hk (by decide) (Or.inl (by decide))) d kk
theorem g_Route_rightStops (hC : xC X G cc Ts own nL R) {a index : Nat} (hin : ∀ w ∈ wsX10, w ∈ Ts) (hlink : Cond.fieldLink own index "HandBlinds$Route" "rightStops" "I" ∈ Ts) (hk : μ.2.1 a = 2) (d : decode cc pc = .ok (.getfield index, 3)) (kk : xg X G cs μ I P L (pc + 3) (.int (I a 2) :: st)) : xg X G cs μ I P L (pc) (.ref (xZ G + a) :: st) := r_get hC (T := TX1) (k := 2) hin hlink rfl (by decide) (by rw [hk]; decide) (xe_Route hk) rfl d kk
theorem p_Route_rightStops (hC : xC X G cc Ts own nL R) {a index : Nat} {v : Int32} (hin : ∀ w ∈ wsX10, w ∈ Ts) (hlink : Cond.fieldLink own index "HandBlinds$Route" "rightStops" "I" ∈ Ts) (hk : μ.2.1 a = 2) (d : decode cc pc = .ok (.putfield index, 3)) (kk : xg X G cs μ (xu I a 2 v) P L (pc + 3) (st)) : xg X G cs μ I P L (pc) (.int v :: .ref (xZ G + a) :: st) :=
  r_put hC (T := TX1) (k := 2) hin hlink rfl (by decide) tyX1_ok nmX1 rfl rfl rfl (Nat.le_of_ble_eq_true rfl) (by rw [hk]; decide) (xe_Route hk) (by rw [xe_Route hk]; simp [xu]) (fun b hb => xe_congr (xu_row hb) rfl) (xty_u hk (by decide) (Or.inl (by decide))) d kk
theorem xe_Row {a : Nat} (hk : μ.2.1 a = 3) : xe G μ I P a = .inr (2, [va_rf (xr G (P a 0)), .int (I a 1), .int (I a 2), .int (I a 3)]) := by simp only [xe, hk]
theorem g_Row_letters (hC : xC X G cc Ts own nL R) {a index : Nat} (hin : ∀ w ∈ wsX20, w ∈ Ts) (hlink : Cond.fieldLink own index "HandBlinds$Row" "letters" "[C" ∈ Ts) (hk : μ.2.1 a = 3) {c2 : Nat} (hk2 : μ.2.1 (P a 0) = c2) (hc2 : c2 ≠ 0) (d : decode cc pc = .ok (.getfield index, 3)) (kk : xg X G cs μ I P L (pc + 3) (.ref (xZ G + P a 0) :: st)) : xg X G cs μ I P L (pc) (.ref (xZ G + a) :: st) := by
  refine r_get hC (T := TX2) (k := 0) (v := va_rf (xr G (P a 0))) hin hlink rfl (by decide) (by rw [hk]; decide) (xe_Row hk) rfl d ?_
  intro H locs ls h0 hP hS hl
  rw [xr_ne (fun q => hc2 (by rw [← hk2, q]; exact h0.1.1))]
  exact kk H locs ls h0 hP hS hl
theorem p_Row_letters (hC : xC X G cc Ts own nL R) {a index v : Nat} (hnm2 : X.2.2.2.2.2.2.2.2.1.name = "<init>") (hown : RX2 = own) (hin : ∀ w ∈ wsX20, w ∈ Ts) (hlink : Cond.fieldLink own index "HandBlinds$Row" "letters" "[C" ∈ Ts) (hk : μ.2.1 a = 3) (hv : v ≠ 0) (d : decode cc pc = .ok (.putfield index, 3)) (kk : xg X G cs μ I (xu P a 0 v) L (pc + 3) (st)) : xg X G cs μ I P L (pc) (.ref (xZ G + v) :: .ref (xZ G + a) :: st) :=
  r_putF hC (T := TX2) (k := 0) hnm2 hin hlink rfl (by decide) tyX2_ok nmX2 rfl hown rfl rfl (Nat.le_of_ble_eq_true rfl) (by rw [hk]; decide) (xe_Row hk) (by rw [xe_Row hk]; simp [xu, xr, hv, va_rf]) (fun b hb => xe_congr rfl (xu_row hb)) (fun h => h) d kk
theorem g_Row_length (hC : xC X G cc Ts own nL R) {a index : Nat} (hin : ∀ w ∈ wsX20, w ∈ Ts) (hlink : Cond.fieldLink own index "HandBlinds$Row" "length" "I" ∈ Ts) (hk : μ.2.1 a = 3) (d : decode cc pc = .ok (.getfield index, 3)) (kk : xg X G cs μ I P L (pc + 3) (.int (I a 1) :: st)) : xg X G cs μ I P L (pc) (.ref (xZ G + a) :: st) := r_get hC (T := TX2) (k := 1) hin hlink rfl (by decide) (by rw [hk]; decide) (xe_Row hk) rfl d kk
theorem p_Row_length (hC : xC X G cc Ts own nL R) {a index : Nat} {v : Int32} (hin : ∀ w ∈ wsX20, w ∈ Ts) (hlink : Cond.fieldLink own index "HandBlinds$Row" "length" "I" ∈ Ts) (hk : μ.2.1 a = 3) (d : decode cc pc = .ok (.putfield index, 3)) (kk : xg X G cs μ (xu I a 1 v) P L (pc + 3) (st)) : xg X G cs μ I P L (pc) (.int v :: .ref (xZ G + a) :: st) :=
  r_put hC (T := TX2) (k := 1) hin hlink rfl (by decide) tyX2_ok nmX2 rfl rfl rfl (Nat.le_of_ble_eq_true rfl) (by rw [hk]; decide) (xe_Row hk) (by rw [xe_Row hk]; simp [xu]) (fun b hb => xe_congr (xu_row hb) rfl) (xty_u hk (by decide) (Or.inr (by decide))) d kk
theorem g_Row_wear (hC : xC X G cc Ts own nL R) {a index : Nat} (hin : ∀ w ∈ wsX20, w ∈ Ts) (hlink : Cond.fieldLink own index "HandBlinds$Row" "wear" "I" ∈ Ts) (hk : μ.2.1 a = 3) (d : decode cc pc = .ok (.getfield index, 3)) (kk : xg X G cs μ I P L (pc + 3) (.int (I a 2) :: st)) : xg X G cs μ I P L (pc) (.ref (xZ G + a) :: st) := r_get hC (T := TX2) (k := 2) hin hlink rfl (by decide) (by rw [hk]; decide) (xe_Row hk) rfl d kk
theorem p_Row_wear (hC : xC X G cc Ts own nL R) {a index : Nat} {v : Int32} (hin : ∀ w ∈ wsX20, w ∈ Ts) (hlink : Cond.fieldLink own index "HandBlinds$Row" "wear" "I" ∈ Ts) (hk : μ.2.1 a = 3) (d : decode cc pc = .ok (.putfield index, 3)) (kk : xg X G cs μ (xu I a 2 v) P L (pc + 3) (st)) : xg X G cs μ I P L (pc) (.int v :: .ref (xZ G + a) :: st) :=
  r_put hC (T := TX2) (k := 2) hin hlink rfl (by decide) tyX2_ok nmX2 rfl rfl rfl (Nat.le_of_ble_eq_true rfl) (by rw [hk]; decide) (xe_Row hk) (by rw [xe_Row hk]; simp [xu]) (fun b hb => xe_congr (xu_row hb) rfl) (xty_u hk (by decide) (Or.inr (by decide))) d kk
theorem g_Row_torn (hC : xC X G cc Ts own nL R) {a index : Nat} (hin : ∀ w ∈ wsX20, w ∈ Ts) (hlink : Cond.fieldLink own index "HandBlinds$Row" "torn" "Z" ∈ Ts) (hk : μ.2.1 a = 3) (d : decode cc pc = .ok (.getfield index, 3)) (kk : xg X G cs μ I P L (pc + 3) (.int (I a 3) :: st)) : xg X G cs μ I P L (pc) (.ref (xZ G + a) :: st) := r_get hC (T := TX2) (k := 3) hin hlink rfl (by decide) (by rw [hk]; decide) (xe_Row hk) rfl d kk
theorem p_Row_torn (hC : xC X G cc Ts own nL R) {a index : Nat} {v : Int32} (hv : v = 0 ∨ v = 1) (hin : ∀ w ∈ wsX20, w ∈ Ts) (hlink : Cond.fieldLink own index "HandBlinds$Row" "torn" "Z" ∈ Ts) (hk : μ.2.1 a = 3) (d : decode cc pc = .ok (.putfield index, 3)) (kk : xg X G cs μ (xu I a 3 v) P L (pc + 3) (st)) : xg X G cs μ I P L (pc) (.int v :: .ref (xZ G + a) :: st) :=
  r_put hC (T := TX2) (k := 3) hin hlink rfl (by decide) tyX2_ok nmX2 rfl (by rcases hv with rfl | rfl <;> rfl) (by rcases hv with rfl | rfl <;> rfl) (Nat.le_of_ble_eq_true rfl) (by rw [hk]; decide) (xe_Row hk) (by rw [xe_Row hk]; simp [xu]) (fun b hb => xe_congr (xu_row hb) rfl) (xty_t hk hv) d kk
theorem xe_Text {a : Nat} (hk : μ.2.1 a = 4) : xe G μ I P a = .inr (3, [va_rf (xr G (P a 0)), .int (I a 1)]) := by simp only [xe, hk]
theorem g_Text_signs (hC : xC X G cc Ts own nL R) {a index : Nat} (hin : ∀ w ∈ wsX30, w ∈ Ts) (hlink : Cond.fieldLink own index "HandBlinds$Text" "signs" "[C" ∈ Ts) (hk : μ.2.1 a = 4) {c2 : Nat} (hk2 : μ.2.1 (P a 0) = c2) (hc2 : c2 ≠ 0) (d : decode cc pc = .ok (.getfield index, 3)) (kk : xg X G cs μ I P L (pc + 3) (.ref (xZ G + P a 0) :: st)) : xg X G cs μ I P L (pc) (.ref (xZ G + a) :: st) := by
  refine r_get hC (T := TX3) (k := 0) (v := va_rf (xr G (P a 0))) hin hlink rfl (by decide) (by rw [hk]; decide) (xe_Text hk) rfl d ?_
  intro H locs ls h0 hP hS hl
  rw [xr_ne (fun q => hc2 (by rw [← hk2, q]; exact h0.1.1))]
  exact kk H locs ls h0 hP hS hl
theorem p_Text_signs (hC : xC X G cc Ts own nL R) {a index v : Nat} (hnm2 : X.2.2.2.2.2.2.2.2.1.name = "<init>") (hown : RX3 = own) (hin : ∀ w ∈ wsX30, w ∈ Ts) (hlink : Cond.fieldLink own index "HandBlinds$Text" "signs" "[C" ∈ Ts) (hk : μ.2.1 a = 4) (hv : v ≠ 0) (d : decode cc pc = .ok (.putfield index, 3)) (kk : xg X G cs μ I (xu P a 0 v) L (pc + 3) (st)) : xg X G cs μ I P L (pc) (.ref (xZ G + v) :: .ref (xZ G + a) :: st) :=
  r_putF hC (T := TX3) (k := 0) hnm2 hin hlink rfl (by decide) tyX3_ok nmX3 rfl hown rfl rfl (Nat.le_of_ble_eq_true rfl) (by rw [hk]; decide) (xe_Text hk) (by rw [xe_Text hk]; simp [xu, xr, hv, va_rf]) (fun b hb => xe_congr rfl (xu_row hb)) (fun h => h) d kk
theorem g_Text_length (hC : xC X G cc Ts own nL R) {a index : Nat} (hin : ∀ w ∈ wsX30, w ∈ Ts) (hlink : Cond.fieldLink own index "HandBlinds$Text" "length" "I" ∈ Ts) (hk : μ.2.1 a = 4) (d : decode cc pc = .ok (.getfield index, 3)) (kk : xg X G cs μ I P L (pc + 3) (.int (I a 1) :: st)) : xg X G cs μ I P L (pc) (.ref (xZ G + a) :: st) := r_get hC (T := TX3) (k := 1) hin hlink rfl (by decide) (by rw [hk]; decide) (xe_Text hk) rfl d kk
theorem p_Text_length (hC : xC X G cc Ts own nL R) {a index : Nat} {v : Int32} (hin : ∀ w ∈ wsX30, w ∈ Ts) (hlink : Cond.fieldLink own index "HandBlinds$Text" "length" "I" ∈ Ts) (hk : μ.2.1 a = 4) (d : decode cc pc = .ok (.putfield index, 3)) (kk : xg X G cs μ (xu I a 1 v) P L (pc + 3) (st)) : xg X G cs μ I P L (pc) (.int v :: .ref (xZ G + a) :: st) :=
  r_put hC (T := TX3) (k := 1) hin hlink rfl (by decide) tyX3_ok nmX3 rfl rfl rfl (Nat.le_of_ble_eq_true rfl) (by rw [hk]; decide) (xe_Text hk) (by rw [xe_Text hk]; simp [xu]) (fun b hb => xe_congr (xu_row hb) rfl) (xty_u hk (by decide) (Or.inl (by decide))) d kk
theorem xe_HB {a : Nat} (hk : μ.2.1 a = 5) : xe G μ I P a = .inr (4, [va_rf (xr G (P a 0)), va_rf (xr G (P a 1)), va_rf (xr G (P a 2)), .int (I a 3)]) := by simp only [xe, hk]
theorem g_HB_text (hC : xC X G cc Ts own nL R) {a index : Nat} (hin : ∀ w ∈ wsX40, w ∈ Ts) (hlink : Cond.fieldLink own index "HandBlinds" "text" "LHandBlinds$Text;" ∈ Ts) (hk : μ.2.1 a = 5) {c2 : Nat} (hk2 : μ.2.1 (P a 0) = c2) (hc2 : c2 ≠ 0) (d : decode cc pc = .ok (.getfield index, 3)) (kk : xg X G cs μ I P L (pc + 3) (.ref (xZ G + P a 0) :: st)) : xg X G cs μ I P L (pc) (.ref (xZ G + a) :: st) := by
  refine r_get hC (T := TX4) (k := 0) (v := va_rf (xr G (P a 0))) hin hlink rfl (by decide) (by rw [hk]; decide) (xe_HB hk) rfl d ?_
  intro H locs ls h0 hP hS hl
  rw [xr_ne (fun q => hc2 (by rw [← hk2, q]; exact h0.1.1))]
  exact kk H locs ls h0 hP hS hl
theorem p_HB_text (hC : xC X G cc Ts own nL R) {a index v : Nat} (hnm2 : X.2.2.2.2.2.2.2.2.1.name = "<init>") (hown : RX4 = own) (hin : ∀ w ∈ wsX40, w ∈ Ts) (hlink : Cond.fieldLink own index "HandBlinds" "text" "LHandBlinds$Text;" ∈ Ts) (hk : μ.2.1 a = 5) (hv : v ≠ 0) (d : decode cc pc = .ok (.putfield index, 3)) (kk : xg X G cs μ I (xu P a 0 v) L (pc + 3) (st)) : xg X G cs μ I P L (pc) (.ref (xZ G + v) :: .ref (xZ G + a) :: st) :=
  r_putF hC (T := TX4) (k := 0) hnm2 hin hlink rfl (by decide) tyX4_ok nmX4 rfl hown rfl rfl (Nat.le_of_ble_eq_true rfl) (by rw [hk]; decide) (xe_HB hk) (by rw [xe_HB hk]; simp [xu, xr, hv, va_rf]) (fun b hb => xe_congr rfl (xu_row hb)) (fun h => h) d kk
theorem g_HB_now (hC : xC X G cc Ts own nL R) {a index : Nat} (hin : ∀ w ∈ wsX40, w ∈ Ts) (hlink : Cond.fieldLink own index "HandBlinds" "now" "LHandBlinds$Blind;" ∈ Ts) (hk : μ.2.1 a = 5) {c2 : Nat} (hk2 : μ.2.1 (P a 1) = c2) (hc2 : c2 ≠ 0) (d : decode cc pc = .ok (.getfield index, 3)) (kk : xg X G cs μ I P L (pc + 3) (.ref (xZ G + P a 1) :: st)) : xg X G cs μ I P L (pc) (.ref (xZ G + a) :: st) := by
  refine r_get hC (T := TX4) (k := 1) (v := va_rf (xr G (P a 1))) hin hlink rfl (by decide) (by rw [hk]; decide) (xe_HB hk) rfl d ?_
  intro H locs ls h0 hP hS hl
  rw [xr_ne (fun q => hc2 (by rw [← hk2, q]; exact h0.1.1))]
  exact kk H locs ls h0 hP hS hl
theorem p_HB_now (hC : xC X G cc Ts own nL R) {a index v : Nat} (hnm2 : X.2.2.2.2.2.2.2.2.1.name = "<init>") (hown : RX4 = own) (hin : ∀ w ∈ wsX40, w ∈ Ts) (hlink : Cond.fieldLink own index "HandBlinds" "now" "LHandBlinds$Blind;" ∈ Ts) (hk : μ.2.1 a = 5) (hv : v ≠ 0) (d : decode cc pc = .ok (.putfield index, 3)) (kk : xg X G cs μ I (xu P a 1 v) L (pc + 3) (st)) : xg X G cs μ I P L (pc) (.ref (xZ G + v) :: .ref (xZ G + a) :: st) :=
  r_putF hC (T := TX4) (k := 1) hnm2 hin hlink rfl (by decide) tyX4_ok nmX4 rfl hown rfl rfl (Nat.le_of_ble_eq_true rfl) (by rw [hk]; decide) (xe_HB hk) (by rw [xe_HB hk]; simp [xu, xr, hv, va_rf]) (fun b hb => xe_congr rfl (xu_row hb)) (fun h => h) d kk
theorem g_HB_history (hC : xC X G cc Ts own nL R) {a index : Nat} (hin : ∀ w ∈ wsX40, w ∈ Ts) (hlink : Cond.fieldLink own index "HandBlinds" "history" "[LHandBlinds$Blind;" ∈ Ts) (hk : μ.2.1 a = 5) {c2 : Nat} (hk2 : μ.2.1 (P a 2) = c2) (hc2 : c2 ≠ 0) (d : decode cc pc = .ok (.getfield index, 3)) (kk : xg X G cs μ I P L (pc + 3) (.ref (xZ G + P a 2) :: st)) : xg X G cs μ I P L (pc) (.ref (xZ G + a) :: st) := by
  refine r_get hC (T := TX4) (k := 2) (v := va_rf (xr G (P a 2))) hin hlink rfl (by decide) (by rw [hk]; decide) (xe_HB hk) rfl d ?_
  intro H locs ls h0 hP hS hl
  rw [xr_ne (fun q => hc2 (by rw [← hk2, q]; exact h0.1.1))]
  exact kk H locs ls h0 hP hS hl
theorem p_HB_history (hC : xC X G cc Ts own nL R) {a index v : Nat} (hnm2 : X.2.2.2.2.2.2.2.2.1.name = "<init>") (hown : RX4 = own) (hin : ∀ w ∈ wsX40, w ∈ Ts) (hlink : Cond.fieldLink own index "HandBlinds" "history" "[LHandBlinds$Blind;" ∈ Ts) (hk : μ.2.1 a = 5) (hv : v ≠ 0) (d : decode cc pc = .ok (.putfield index, 3)) (kk : xg X G cs μ I (xu P a 2 v) L (pc + 3) (st)) : xg X G cs μ I P L (pc) (.ref (xZ G + v) :: .ref (xZ G + a) :: st) :=
  r_putF hC (T := TX4) (k := 2) hnm2 hin hlink rfl (by decide) tyX4_ok nmX4 rfl hown rfl rfl (Nat.le_of_ble_eq_true rfl) (by rw [hk]; decide) (xe_HB hk) (by rw [xe_HB hk]; simp [xu, xr, hv, va_rf]) (fun b hb => xe_congr rfl (xu_row hb)) (fun h => h) d kk
theorem g_HB_states (hC : xC X G cc Ts own nL R) {a index : Nat} (hin : ∀ w ∈ wsX40, w ∈ Ts) (hlink : Cond.fieldLink own index "HandBlinds" "states" "I" ∈ Ts) (hk : μ.2.1 a = 5) (d : decode cc pc = .ok (.getfield index, 3)) (kk : xg X G cs μ I P L (pc + 3) (.int (I a 3) :: st)) : xg X G cs μ I P L (pc) (.ref (xZ G + a) :: st) := r_get hC (T := TX4) (k := 3) hin hlink rfl (by decide) (by rw [hk]; decide) (xe_HB hk) rfl d kk
theorem p_HB_states (hC : xC X G cc Ts own nL R) {a index : Nat} {v : Int32} (hin : ∀ w ∈ wsX40, w ∈ Ts) (hlink : Cond.fieldLink own index "HandBlinds" "states" "I" ∈ Ts) (hk : μ.2.1 a = 5) (d : decode cc pc = .ok (.putfield index, 3)) (kk : xg X G cs μ (xu I a 3 v) P L (pc + 3) (st)) : xg X G cs μ I P L (pc) (.int v :: .ref (xZ G + a) :: st) :=
  r_put hC (T := TX4) (k := 3) hin hlink rfl (by decide) tyX4_ok nmX4 rfl rfl rfl (Nat.le_of_ble_eq_true rfl) (by rw [hk]; decide) (xe_HB hk) (by rw [xe_HB hk]; simp [xu]) (fun b hb => xe_congr (xu_row hb) rfl) (xty_u hk (by decide) (Or.inl (by decide))) d kk
def xcp (I : xI) (a b N : Nat) : xI := fun c j => if c = b ∧ j < N then I a j else I c j
theorem xcp_row {I : xI} {a b c N : Nat} (h : c ≠ b) : xcp I a b N c = I c := by funext j; simp [xcp, h]
theorem xty_cp {μ : xM} {I : xI} {a b N : Nat} (hk : μ.2.1 b = 7) (h : xty μ I) : xty μ (xcp I a b N) := by
  refine ⟨fun c j hc => ?_, fun c hc => ?_⟩
  · rw [xcp_row (fun e => by rw [e, hk] at hc; cases hc)]; exact h.1 c j hc
  · rw [xcp_row (fun e => by rw [e, hk] at hc; cases hc)]; exact h.2 c hc
theorem xty_cp8 {μ : xM} {I : xI} {a b N : Nat} (hk0 : μ.2.1 a = 8) (hk : μ.2.1 b = 8) (h : xty μ I) : xty μ (xcp I a b N) := by
  refine ⟨fun c j hc => ?_, fun c hc => ?_⟩
  · unfold xcp; split
    · exact h.1 a j hk0
    · exact h.1 c j hc
  · rw [xcp_row (fun e => by rw [e, hk] at hc; cases hc)]; exact h.2 c hc
def xi (i : Int32) (k n : Nat) : Prop := i.toNatClampNeg = k ∧ ¬ i < 0 ∧ k < n
theorem xi_n {k n : Nat} (h : k < n) (hn : n < 2 ^ 31) : xi (nI k) k n := ⟨nI_clamp (by omega), nI_pos (by omega), h⟩
theorem xi_in {i : Int32} {k n : Nat} (h : xi i k n) : vp_in i n := fun q => by
  rcases q with q | q
  · exact h.2.1 q
  · have := h.1; have := h.2.2; omega
theorem xu_upd {f : Nat → Nat → Int32} {a k : Nat} {v : Int32} : xu f a k v a = upd (f a) k v := by funext j; simp [xu, upd]
theorem xe_iarr {a : Nat} (hk : μ.2.1 a = 7) : xe G μ I P a = .inl (G.2.1 0, μ.2.2 a, .inl (I a)) := by simp only [xe, hk]
theorem r_iald (hC : xC X G cc Ts own nL R) {a k : Nat} {i : Int32} (hk : μ.2.1 a = 7) (hi : xi i k (μ.2.2 a)) (d : decode cc pc = .ok (.iaload, 1)) (kk : xg X G cs μ I P L (pc + 1) (.int (I a k) :: st)) : xg X G cs μ I P L (pc) (.int i :: .ref (xZ G + a) :: st) := by
  intro H locs ls h0 hP hS hl
  obtain ⟨j, rfl, hj⟩ := xok_pos (a := a) h0 (by rw [hk]; decide)
  have hw := xw_at (G := G) (I := I) (P := P) hj
  rw [xe_iarr hk] at hw
  refine va_iald hC.1 hC.2.1 hC.2.2.2.2.2.1.1 hP j 0 hw rfl (xi_in hi) d ?_
  rw [hi.1]
  exact kk H locs ls h0 hP hS hl
theorem r_iast (hC : xC X G cc Ts own nL R) {a k : Nat} {i x : Int32} (hk : μ.2.1 a = 7) (hi : xi i k (μ.2.2 a)) (d : decode cc pc = .ok (.iastore, 1)) (kk : xg X G cs μ (xu I a k x) P L (pc + 1) (st)) : xg X G cs μ I P L (pc) (.int x :: .int i :: .ref (xZ G + a) :: st) := by
  intro H locs ls h0 hP hS hl
  obtain ⟨j, rfl, hj⟩ := xok_pos (a := a) h0 (by rw [hk]; decide)
  have hw := xw_at (G := G) (I := I) (P := P) hj
  rw [xe_iarr hk] at hw
  refine va_iast hC.1 hC.2.1 hC.2.2.2.2.2.1.1 hP xw_D hS j 0 hw rfl (xi_in hi) d (fun H1 locs1 hP1 _ hS1 => kk H1 locs1 ls ⟨h0.1, xty_u hk (by decide) (Or.inl (by decide)) h0.2⟩ ?_ hS1 hl)
  rw [xw_set (I' := xu I (j + 1) k x) (P' := P) (by rw [xe_iarr hk, xu_upd, hi.1]) (fun b hb => xe_congr (xu_row hb) rfl)] at hP1
  exact hP1
theorem xe_carr {a : Nat} (hk : μ.2.1 a = 8) : xe G μ I P a = .inl (G.2.1 1, μ.2.2 a, .inl (I a)) := by simp only [xe, hk]
theorem r_cald (hC : xC X G cc Ts own nL R) {a k : Nat} {i : Int32} (hk : μ.2.1 a = 8) (hi : xi i k (μ.2.2 a)) (d : decode cc pc = .ok (.caload, 1)) (kk : xg X G cs μ I P L (pc + 1) (.int (I a k) :: st)) : xg X G cs μ I P L (pc) (.int i :: .ref (xZ G + a) :: st) := by
  intro H locs ls h0 hP hS hl
  obtain ⟨j, rfl, hj⟩ := xok_pos (a := a) h0 (by rw [hk]; decide)
  have hw := xw_at (G := G) (I := I) (P := P) hj
  rw [xe_carr hk] at hw
  refine va_cald hC.1 hC.2.1 hC.2.2.2.2.2.1.1 hP j 1 hw rfl (xi_in hi) d ?_
  rw [hi.1]
  exact kk H locs ls h0 hP hS hl
theorem r_cast (hC : xC X G cc Ts own nL R) {a k : Nat} {i x : Int32} (hk : μ.2.1 a = 8) (hi : xi i k (μ.2.2 a)) (d : decode cc pc = .ok (.castore, 1)) (kk : xg X G cs μ (xu I a k (vp_nar .char x)) P L (pc + 1) (st)) : xg X G cs μ I P L (pc) (.int x :: .int i :: .ref (xZ G + a) :: st) := by
  intro H locs ls h0 hP hS hl
  obtain ⟨j, rfl, hj⟩ := xok_pos (a := a) h0 (by rw [hk]; decide)
  have hw := xw_at (G := G) (I := I) (P := P) hj
  rw [xe_carr hk] at hw
  refine va_cast hC.1 hC.2.1 hC.2.2.2.2.2.1.1 hP xw_D hS j 1 hw rfl (xi_in hi) d (fun H1 locs1 hP1 _ hS1 => kk H1 locs1 ls ⟨h0.1, xty_c hk h0.2⟩ ?_ hS1 hl)
  rw [xw_set (I' := xu I (j + 1) k (vp_nar .char x)) (P' := P) (by rw [xe_carr hk, xu_upd, hi.1]) (fun b hb => xe_congr (xu_row hb) rfl)] at hP1
  exact hP1
theorem xe_Rows {a : Nat} (hk : μ.2.1 a = 9) : xe G μ I P a = .inl (G.2.1 2, μ.2.2 a, .inr (.inr (.inr (.inr (fun j => xr G (P a j)))))) := by simp only [xe, hk]
theorem r_aald_Row (hC : xC X G cc Ts own nL R) {a k : Nat} {i : Int32} (hk : μ.2.1 a = 9) (hi : xi i k (μ.2.2 a)) (hk2 : μ.2.1 (P a k) = 3) (d : decode cc pc = .ok (.aaload, 1)) (kk : xg X G cs μ I P L (pc + 1) (.ref (xZ G + P a k) :: st)) : xg X G cs μ I P L (pc) (.int i :: .ref (xZ G + a) :: st) := by
  intro H locs ls h0 hP hS hl
  obtain ⟨j, rfl, hj⟩ := xok_pos (a := a) h0 (by rw [hk]; decide)
  have hw := xw_at (G := G) (I := I) (P := P) hj
  rw [xe_Rows hk] at hw
  refine va_aldq hC.1 hC.2.1 hC.2.2.2.2.2.1.1 hP j 2 hw rfl (xi_in hi) d ?_
  rw [hi.1, xr_ne (fun q => by rw [q, h0.1.1] at hk2; cases hk2)]
  exact kk H locs ls h0 hP hS hl
theorem r_aast_Row (hC : xC X G cc Ts own nL R) {a k v : Nat} {i : Int32} (hk : μ.2.1 a = 9) (hi : xi i k (μ.2.2 a)) (hk2 : μ.2.1 v = 3) (d : decode cc pc = .ok (.aastore, 1)) (kk : xg X G cs μ I (xu P a k v) L (pc + 1) (st)) : xg X G cs μ I P L (pc) (.ref (xZ G + v) :: .int i :: .ref (xZ G + a) :: st) := by
  intro H locs ls h0 hP hS hl
  obtain ⟨j, rfl, hj⟩ := xok_pos (a := a) h0 (by rw [hk]; decide)
  obtain ⟨jv, rfl, hjv⟩ := xok_pos (a := v) h0 (by rw [hk2]; decide)
  have hw := xw_at (G := G) (I := I) (P := P) hj
  have hwv := xw_at (G := G) (I := I) (P := P) hjv
  rw [xe_Rows hk] at hw
  rw [xe_Row hk2] at hwv
  refine va_astq hC.1 hC.2.1 hC.2.2.2.2.2.1.1 hP xw_D hS j 2 jv 2 (r := (RX2, TX2, 4)) hw rfl hwv rfl (xi_in hi) d (fun H1 locs1 hP1 _ hS1 => kk H1 locs1 ls h0 ?_ hS1 hl)
  have he : xe G μ I (xu P (j + 1) k (jv + 1)) (j + 1) = .inl (G.2.1 2, μ.2.2 (j + 1), .inr (.inr (.inr (.inr (va_up (fun q => xr G (P (j + 1) q)) i.toNatClampNeg (some (xZ G + (jv + 1)))))))) := by
    rw [xe_Rows hk, hi.1]
    congr 7
    funext q
    by_cases hq : q = k
    · subst hq; simp [xu, va_up, xr]
    · simp [xu, va_up, hq]
  rw [xw_set he (fun b hb => xe_congr rfl (xu_row hb))] at hP1
  exact hP1
theorem xe_Routes {a : Nat} (hk : μ.2.1 a = 10) : xe G μ I P a = .inl (G.2.1 3, μ.2.2 a, .inr (.inr (.inr (.inr (fun j => xr G (P a j)))))) := by simp only [xe, hk]
theorem r_aald_Route (hC : xC X G cc Ts own nL R) {a k : Nat} {i : Int32} (hk : μ.2.1 a = 10) (hi : xi i k (μ.2.2 a)) (hk2 : μ.2.1 (P a k) = 2) (d : decode cc pc = .ok (.aaload, 1)) (kk : xg X G cs μ I P L (pc + 1) (.ref (xZ G + P a k) :: st)) : xg X G cs μ I P L (pc) (.int i :: .ref (xZ G + a) :: st) := by
  intro H locs ls h0 hP hS hl
  obtain ⟨j, rfl, hj⟩ := xok_pos (a := a) h0 (by rw [hk]; decide)
  have hw := xw_at (G := G) (I := I) (P := P) hj
  rw [xe_Routes hk] at hw
  refine va_aldq hC.1 hC.2.1 hC.2.2.2.2.2.1.1 hP j 3 hw rfl (xi_in hi) d ?_
  rw [hi.1, xr_ne (fun q => by rw [q, h0.1.1] at hk2; cases hk2)]
  exact kk H locs ls h0 hP hS hl
theorem r_aast_Route (hC : xC X G cc Ts own nL R) {a k v : Nat} {i : Int32} (hk : μ.2.1 a = 10) (hi : xi i k (μ.2.2 a)) (hk2 : μ.2.1 v = 2) (d : decode cc pc = .ok (.aastore, 1)) (kk : xg X G cs μ I (xu P a k v) L (pc + 1) (st)) : xg X G cs μ I P L (pc) (.ref (xZ G + v) :: .int i :: .ref (xZ G + a) :: st) := by
  intro H locs ls h0 hP hS hl
  obtain ⟨j, rfl, hj⟩ := xok_pos (a := a) h0 (by rw [hk]; decide)
  obtain ⟨jv, rfl, hjv⟩ := xok_pos (a := v) h0 (by rw [hk2]; decide)
  have hw := xw_at (G := G) (I := I) (P := P) hj
  have hwv := xw_at (G := G) (I := I) (P := P) hjv
  rw [xe_Routes hk] at hw
  rw [xe_Route hk2] at hwv
  refine va_astq hC.1 hC.2.1 hC.2.2.2.2.2.1.1 hP xw_D hS j 3 jv 1 (r := (RX1, TX1, 3)) hw rfl hwv rfl (xi_in hi) d (fun H1 locs1 hP1 _ hS1 => kk H1 locs1 ls h0 ?_ hS1 hl)
  have he : xe G μ I (xu P (j + 1) k (jv + 1)) (j + 1) = .inl (G.2.1 3, μ.2.2 (j + 1), .inr (.inr (.inr (.inr (va_up (fun q => xr G (P (j + 1) q)) i.toNatClampNeg (some (xZ G + (jv + 1)))))))) := by
    rw [xe_Routes hk, hi.1]
    congr 7
    funext q
    by_cases hq : q = k
    · subst hq; simp [xu, va_up, xr]
    · simp [xu, va_up, hq]
  rw [xw_set he (fun b hb => xe_congr rfl (xu_row hb))] at hP1
  exact hP1
theorem xe_Blinds {a : Nat} (hk : μ.2.1 a = 11) : xe G μ I P a = .inl (G.2.1 4, μ.2.2 a, .inr (.inr (.inr (.inr (fun j => xr G (P a j)))))) := by simp only [xe, hk]
theorem r_aald_Blind (hC : xC X G cc Ts own nL R) {a k : Nat} {i : Int32} (hk : μ.2.1 a = 11) (hi : xi i k (μ.2.2 a)) (hk2 : μ.2.1 (P a k) = 1) (d : decode cc pc = .ok (.aaload, 1)) (kk : xg X G cs μ I P L (pc + 1) (.ref (xZ G + P a k) :: st)) : xg X G cs μ I P L (pc) (.int i :: .ref (xZ G + a) :: st) := by
  intro H locs ls h0 hP hS hl
  obtain ⟨j, rfl, hj⟩ := xok_pos (a := a) h0 (by rw [hk]; decide)
  have hw := xw_at (G := G) (I := I) (P := P) hj
  rw [xe_Blinds hk] at hw
  refine va_aldq hC.1 hC.2.1 hC.2.2.2.2.2.1.1 hP j 4 hw rfl (xi_in hi) d ?_
  rw [hi.1, xr_ne (fun q => by rw [q, h0.1.1] at hk2; cases hk2)]
  exact kk H locs ls h0 hP hS hl
theorem r_aast_Blind (hC : xC X G cc Ts own nL R) {a k v : Nat} {i : Int32} (hk : μ.2.1 a = 11) (hi : xi i k (μ.2.2 a)) (hk2 : μ.2.1 v = 1) (d : decode cc pc = .ok (.aastore, 1)) (kk : xg X G cs μ I (xu P a k v) L (pc + 1) (st)) : xg X G cs μ I P L (pc) (.ref (xZ G + v) :: .int i :: .ref (xZ G + a) :: st) := by
  intro H locs ls h0 hP hS hl
  obtain ⟨j, rfl, hj⟩ := xok_pos (a := a) h0 (by rw [hk]; decide)
  obtain ⟨jv, rfl, hjv⟩ := xok_pos (a := v) h0 (by rw [hk2]; decide)
  have hw := xw_at (G := G) (I := I) (P := P) hj
  have hwv := xw_at (G := G) (I := I) (P := P) hjv
  rw [xe_Blinds hk] at hw
  rw [xe_Blind hk2] at hwv
  refine va_astq hC.1 hC.2.1 hC.2.2.2.2.2.1.1 hP xw_D hS j 4 jv 0 (r := (RX0, TX0, 11)) hw rfl hwv rfl (xi_in hi) d (fun H1 locs1 hP1 _ hS1 => kk H1 locs1 ls h0 ?_ hS1 hl)
  have he : xe G μ I (xu P (j + 1) k (jv + 1)) (j + 1) = .inl (G.2.1 4, μ.2.2 (j + 1), .inr (.inr (.inr (.inr (va_up (fun q => xr G (P (j + 1) q)) i.toNatClampNeg (some (xZ G + (jv + 1)))))))) := by
    rw [xe_Blinds hk, hi.1]
    congr 7
    funext q
    by_cases hq : q = k
    · subst hq; simp [xu, va_up, xr]
    · simp [xu, va_up, hq]
  rw [xw_set he (fun b hb => xe_congr rfl (xu_row hb))] at hP1
  exact hP1
theorem r_run {st0 rest : List Value} {mc ms : Nat} {Ps : xPost} {av : Array Value} (hr : ∀ (H : Heap) (locs : List Loc) (ls : Array Slot), xok μ I → va_P G.1 vwCl (xw G μ I P) H → va_S (xA G) X.2.2.2.2.1.heap H locs → lv_has ls L.length (xL 0 L) → va_Run X.1 X.2.1 X.2.2.1 X.2.2.2.1 X.2.2.2.2.1 X.2.2.2.2.2.1 X.2.2.2.2.2.2.1 X.2.2.2.2.2.2.2.1 X.2.2.2.2.2.2.2.2.1 X.2.2.2.2.2.2.2.2.2.1 H locs cs.1 cs.2 mc ms (F0 X.2.2.2.2.2.1 pc ls st0) rest (xQ G Ps av) (xA G)) (kk : ∀ (v : Option Value) (μ' : xM) (I' : xI) (P' : xP), Ps v μ' I' P' → xg X G (cs.1 + mc, cs.2 + ms) μ' I' P' L (pc + 3) (v.toList ++ rest)) : xg X G cs μ I P L (pc) (st0) := by
  intro H locs ls h0 hP hS hl T hT XX
  obtain ⟨v, st₀, t, T', Lc, e0, X', hL, e1, e2, ⟨⟨v', μ', I', P', hv, hp, ho, hb⟩, hz, hkp⟩, st⟩ := hr H locs ls h0 hP hS hl T hT XX
  cases hv
  rw [e0] at hz hkp
  obtain ⟨t2, a1, b1⟩ := kk v μ' I' P' hp T'.heap (locs ++ Lc) ls ho (by rw [e1]; exact hb) ⟨Nat.le_trans hS.1 (by rw [e1]; exact hz), fun q h1 h2 => by rw [e1, hkp q (Nat.lt_of_lt_of_le h1 hS.1) h2]; exact hS.2.1 q h1 h2, fun q hq => by
      rcases List.mem_append.mp hq with h | h
      · exact hS.2.2 q h
      · exact hL q h⟩ hl T' rfl X'
  exact ⟨t2, st t2 a1, b1⟩
theorem xPre.blind {mc : Nat} {av : List Value} : FrameBlind (va_Pc av (xPre G μ I P mc)) := fun a U g mk q => by
  obtain ⟨q0, q1, q2, q3, q4⟩ := q
  exact ⟨q0, q1, q2, q3, xV.blind (U := U) (V := U.calling g mk a) rfl rfl q4⟩
theorem r_callV (hC : xC X G cc Ts own nL R) {y : MethodName} {bytes : ByteArray} {maxL n index : Nat} {ret : Option FieldType} {ws ws' : List Cond} {rm : Room} {C : String} {Ps : xPost} {a : Nat} {As rest st0 : List Value} {T : u_T} {N ci : Nat} {fs : List Value} (hM : Ct X.2.1 y ws rm G μ I P (.ref (xZ G + a) :: As) 0 0 Ps) (hG : GoodIn Ts (wsV own index C y ws)) (hw : ws = Cond.code y bytes maxL ret :: ws') (hrc : rm.cells = 0) (hrs : rm.slots = 0) (hd : y.cls = C ∧ y.cls ≠ "java/lang/invoke/MethodHandle" ∧ y.cls ≠ "java/lang/invoke/VarHandle" ∧ (parseMethodDescriptor y.desc).map (fun d => d.parameters.length) = some n) (hR : rm.frames + 1 ≤ R.frames ∧ 8 + (maxL + 11) + rm.locals ≤ R.locals) (hn : μ.2.1 a ≠ 0) (he : xe G μ I P a = .inr (ci, fs)) (hc : vwCl[ci]? = some (C, T, N)) (hA : As.length = n) (hs : st0 = As.reverse ++ .ref (xZ G + a) :: rest) (hW : (rest.map fun v => v.category).sum ≤ 8) (hL : L.length = nL) (hcs : cs.1 ≤ R.cells ∧ cs.2 ≤ R.slots) (d : decode cc pc = .ok (.invokevirtual index, 3)) (kk : ∀ (v : Option Value) (μ' : xM) (I' : xI) (P' : xP), Ps v μ' I' P' → xg X G cs μ' I' P' L (pc + 3) (v.toList ++ rest)) : xg X G cs μ I P L (pc) (st0) := by
  refine r_run (mc := 0) (ms := 0) (rest := rest) (Ps := Ps) (av := (Value.ref (xZ G + a) :: As).toArray) (fun H locs ls h0 hP hS hl => ?_) kk
  obtain ⟨hx, hb, hml, hown, hts, hV, hRR⟩ := hC
  obtain ⟨j, rfl, hj⟩ := xok_pos h0 hn
  have hwj := xw_at (G := G) (I := I) (P := P) hj
  rw [he] at hwj
  exact va_runV (rest := rest) ⟨hx, hb, hml, hown, hts⟩ hM (cwV n hts hG hw hrc hrs hd (by rw [hRR]; exact hR)) ⟨xPre.blind, va_recv hV.1 hP hc hwj, fun U hU hW => ⟨rfl, h0, Or.inl rfl, by rw [hU]; exact hP, xV.call hV hW hS hU⟩⟩ rfl hA (hl.1.trans hL) hs (lv_room hW) d (by rw [hRR]; exact hcs)
theorem r_callS (hC : xC X G cc Ts own nL R) {y : MethodName} {bytes : ByteArray} {maxL n index : Nat} {ret : Option FieldType} {ws ws' : List Cond} {rm : Room} {Ps : xPost} {As rest st0 : List Value} (hM : Ct X.2.1 y ws rm G μ I P As 0 0 Ps) (hG : GoodIn Ts (va_wsS own index y ws)) (hw : ws = Cond.code y bytes maxL ret :: ws') (hrc : rm.cells = 0) (hrs : rm.slots = 0) (hd : y.cls ≠ "java/lang/invoke/MethodHandle" ∧ y.cls ≠ "java/lang/invoke/VarHandle" ∧ (parseMethodDescriptor y.desc).map (fun d => d.parameters.length) = some n) (hR : rm.frames + 1 ≤ R.frames ∧ 8 + (maxL + 11) + rm.locals ≤ R.locals) (hA : As.length = n) (hs : st0 = As.reverse ++ rest) (hW : (rest.map fun v => v.category).sum ≤ 8) (hL : L.length = nL) (hcs : cs.1 ≤ R.cells ∧ cs.2 ≤ R.slots) (d : decode cc pc = .ok (.invokestatic index, 3)) (kk : ∀ (v : Option Value) (μ' : xM) (I' : xI) (P' : xP), Ps v μ' I' P' → xg X G cs μ' I' P' L (pc + 3) (v.toList ++ rest)) : xg X G cs μ I P L (pc) (st0) := by
  refine r_run (mc := 0) (ms := 0) (rest := rest) (Ps := Ps) (av := As.toArray) (fun H locs ls h0 hP hS hl => ?_) kk
  obtain ⟨hx, hb, hml, hown, hts, hV, hRR⟩ := hC
  exact va_runS (rest := rest) ⟨hx, hb, hml, hown, hts⟩ hM (va_cwS n hts hG hw hrc hrs hd (by rw [hRR]; exact hR)) ⟨xPre.blind, fun U hU hW => ⟨rfl, h0, Or.inl rfl, by rw [hU]; exact hP, xV.call hV hW hS hU⟩⟩ rfl hA (hl.1.trans hL) hs (lv_room hW) d (by rw [hRR]; exact hcs)
theorem r_callSN (hC : xC X G cc Ts own nL R) {y : MethodName} {bytes : ByteArray} {maxL n index : Nat} {ret : Option FieldType} {ws ws' : List Cond} {rm : Room} {Ps : xPost} {As rest st0 : List Value} {host : String} (hN : xN G X.2.2.2.2.1 → va_Nw (.methodLinkNest own index y host) X.2.2.2.2.1) (hini : Cond.initialized y.cls ∈ Ts) (hsta : Cond.static y ∈ Ts) (hM : Ct X.2.1 y ws rm G μ I P As 0 0 Ps) (hG : GoodIn Ts ws) (hw : ws = Cond.code y bytes maxL ret :: ws') (hrc : rm.cells = 0) (hrs : rm.slots = 0) (hd : y.cls ≠ "java/lang/invoke/MethodHandle" ∧ y.cls ≠ "java/lang/invoke/VarHandle" ∧ (parseMethodDescriptor y.desc).map (fun d => d.parameters.length) = some n) (hR : rm.frames + 1 ≤ R.frames ∧ 8 + (maxL + 11) + rm.locals ≤ R.locals) (hA : As.length = n) (hs : st0 = As.reverse ++ rest) (hW : (rest.map fun v => v.category).sum ≤ 8) (hL : L.length = nL) (hcs : cs.1 ≤ R.cells ∧ cs.2 ≤ R.slots) (d : decode cc pc = .ok (.invokestatic index, 3)) (kk : ∀ (v : Option Value) (μ' : xM) (I' : xI) (P' : xP), Ps v μ' I' P' → xg X G cs μ' I' P' L (pc + 3) (v.toList ++ rest)) : xg X G cs μ I P L (pc) (st0) := by
  refine r_run (mc := 0) (ms := 0) (rest := rest) (Ps := Ps) (av := As.toArray) (fun H locs ls h0 hP hS hl => ?_) kk
  obtain ⟨hx, hb, hml, hown, hts, hV, hRR⟩ := hC
  exact va_runSN (rest := rest) ⟨hx, hb, hml, hown, hts⟩ hM ⟨va_cnB n hts hG hw hrc hrs (hN hV.2.1) (hts _ hini) hd (by rw [hRR]; exact hR), hts _ hsta, trivial⟩ ⟨xPre.blind, fun U hU hW => ⟨rfl, h0, Or.inl rfl, by rw [hU]; exact hP, xV.call hV hW hS hU⟩⟩ rfl hA (hl.1.trans hL) hs (lv_room hW) d (by rw [hRR]; exact hcs)
theorem r_mabs (hC : xC X G cc Ts own nL R) {index : Nat} {x : Int32} (hlink : Cond.methodLink own index Lib.Math.abs.name ∈ Ts) (hstat : Cond.static Lib.Math.abs.name ∈ Ts) (hini : Cond.initialized "java/lang/Math" ∈ Ts) (hcode : Cond.code Lib.Math.abs.name Lib.Math.abs.code 1 (some .int) ∈ Ts) (hR : 1 ≤ R.frames ∧ 21 ≤ R.locals) (hW : (st.map fun v => v.category).sum ≤ 8) (hL : L.length = nL) (hcs : cs.1 ≤ R.cells ∧ cs.2 ≤ R.slots) (d : decode cc pc = .ok (.invokestatic index, 3)) (kk : xg X G cs μ I P L (pc + 3) (.int (if 0 ≤ x then x else 0 - x) :: st)) : xg X G cs μ I P L (pc) (.int x :: st) := by
  intro H locs ls h0 hP hS hl
  obtain ⟨hx, hb, hml, hown, hts, hV, hRR⟩ := hC
  exact va_mabs hx hb (by rw [hml, hl.1, hL]) hown (hts _ hlink) (hts _ hstat) (hts _ hini) (hts _ hcode) (by rw [hRR]; exact hR.1) (by rw [hRR]; omega) (by rw [hRR]; exact hcs.1) (by rw [hRR]; exact hcs.2) d (kk H locs ls h0 hP hS hl)
theorem r_copyi (hC : xC X G cc Ts own nL R) {index a b : Nat} {n : Int32} {N : Nat} (hlink : Cond.methodLink own index arraycopyName ∈ Ts) (hnat : Cond.native arraycopyName ∈ Ts) (hstat : Cond.static arraycopyName ∈ Ts) (hini : Cond.initialized "java/lang/System" ∈ Ts) (hk0 : μ.2.1 a = 7) (hk1 : μ.2.1 b = 7) (hn : xi n N (N + 1)) (h4 : N ≤ μ.2.2 a) (h5 : N ≤ μ.2.2 b) (hR : 1 ≤ R.frames ∧ 8 + (nativeFrameWords "java/lang/System" "arraycopy" 5 + 11) ≤ R.locals) (hW : (st.map fun v => v.category).sum ≤ 8) (hL : L.length = nL) (d : decode cc pc = .ok (.invokestatic index, 3)) (kk : xg X G cs μ (xcp I a b N) P L (pc + 3) (st)) : xg X G cs μ I P L (pc) (.int n :: .int 0 :: .ref (xZ G + b) :: .int 0 :: .ref (xZ G + a) :: st) := by
  intro H locs ls h0 hP hS hl
  obtain ⟨hx, hb, hml, hown, hts, hV, hRR⟩ := hC
  obtain ⟨j, rfl, hj⟩ := xok_pos (a := a) h0 (by rw [hk0]; decide)
  obtain ⟨j1, rfl, hj1⟩ := xok_pos (a := b) h0 (by rw [hk1]; decide)
  have hw := xw_at (G := G) (I := I) (P := P) hj
  have hw1 := xw_at (G := G) (I := I) (P := P) hj1
  rw [xe_iarr hk0] at hw
  rw [xe_iarr hk1] at hw1
  have z0 : (0 : Int32).toNatClampNeg = 0 := by decide
  refine va_copyi hx hb (by rw [hml, hl.1, hL]) hown (hts _ hlink) (hts _ hnat) (hts _ hstat) (hts _ hini) hV.1 hP xw_D hS j j1 0 0 hw hw1 rfl rfl rfl (by decide) (by decide) hn.2.1 (by rw [z0, hn.1]; omega) (by rw [z0, hn.1]; omega) (fun i _ => rfl) (by rw [hRR]; exact hR.1) (by rw [hRR]; omega) d (fun H1 locs1 hP1 _ hS1 => kk H1 locs1 ls ⟨h0.1, xty_cp hk1 h0.2⟩ ?_ hS1 hl)
  rw [xw_set (I' := xcp I (j + 1) (j1 + 1) N) (P' := P) (by rw [xe_iarr hk1, z0, hn.1]; congr 4; funext q; simp [xcp, va_cpy]) (fun c hc => xe_congr (xcp_row hc) rfl)] at hP1
  exact hP1
theorem r_copyc (hC : xC X G cc Ts own nL R) {index a b : Nat} {n : Int32} {N : Nat} (hlink : Cond.methodLink own index arraycopyName ∈ Ts) (hnat : Cond.native arraycopyName ∈ Ts) (hstat : Cond.static arraycopyName ∈ Ts) (hini : Cond.initialized "java/lang/System" ∈ Ts) (hk0 : μ.2.1 a = 8) (hk1 : μ.2.1 b = 8) (hn : xi n N (N + 1)) (h4 : N ≤ μ.2.2 a) (h5 : N ≤ μ.2.2 b) (hR : 1 ≤ R.frames ∧ 8 + (nativeFrameWords "java/lang/System" "arraycopy" 5 + 11) ≤ R.locals) (hW : (st.map fun v => v.category).sum ≤ 8) (hL : L.length = nL) (d : decode cc pc = .ok (.invokestatic index, 3)) (kk : xg X G cs μ (xcp I a b N) P L (pc + 3) (st)) : xg X G cs μ I P L (pc) (.int n :: .int 0 :: .ref (xZ G + b) :: .int 0 :: .ref (xZ G + a) :: st) := by
  intro H locs ls h0 hP hS hl
  obtain ⟨hx, hb, hml, hown, hts, hV, hRR⟩ := hC
  obtain ⟨j, rfl, hj⟩ := xok_pos (a := a) h0 (by rw [hk0]; decide)
  obtain ⟨j1, rfl, hj1⟩ := xok_pos (a := b) h0 (by rw [hk1]; decide)
  have hw := xw_at (G := G) (I := I) (P := P) hj
  have hw1 := xw_at (G := G) (I := I) (P := P) hj1
  rw [xe_carr hk0] at hw
  rw [xe_carr hk1] at hw1
  have z0 : (0 : Int32).toNatClampNeg = 0 := by decide
  refine va_copyi hx hb (by rw [hml, hl.1, hL]) hown (hts _ hlink) (hts _ hnat) (hts _ hstat) (hts _ hini) hV.1 hP xw_D hS j j1 1 1 hw hw1 rfl rfl rfl (by decide) (by decide) hn.2.1 (by rw [z0, hn.1]; omega) (by rw [z0, hn.1]; omega) (fun i _ => h0.2.1 _ _ hk0) (by rw [hRR]; exact hR.1) (by rw [hRR]; omega) d (fun H1 locs1 hP1 _ hS1 => kk H1 locs1 ls ⟨h0.1, xty_cp8 hk0 hk1 h0.2⟩ ?_ hS1 hl)
  rw [xw_set (I' := xcp I (j + 1) (j1 + 1) N) (P' := P) (by rw [xe_carr hk1, z0, hn.1]; congr 4; funext q; simp [xcp, va_cpy]) (fun c hc => xe_congr (xcp_row hc) rfl)] at hP1
  exact hP1
theorem r_lcmp (hC : xC X G cc Ts own nL R) {x y : Int64} (d : decode cc pc = .ok (.lcmp, 1)) (kk : xg X G cs μ I P L (pc + 1) (.int (lg_cmp x y) :: st)) : xg X G cs μ I P L (pc) (.long y :: .long x :: st) := fun H locs ls h0 hP hS hl => W.lcmp hC.1 hC.2.1 d (kk H locs ls h0 hP hS hl)
theorem r_ldc_w (hC : xC X G cc Ts own nL R) {index : Nat} {v : Int32} (d : decode cc pc = .ok (.ldc_w index, 3)) (hw : Cond.constant own index v ∈ Ts) (kk : xg X G cs μ I P L (pc + 3) (.int v :: st)) : xg X G cs μ I P L (pc) (st) := fun H locs ls h0 hP hS hl => lv_ldcw hC.1 hC.2.1 hC.2.2.2.1 (hC.2.2.2.2.1 _ hw) d (kk H locs ls h0 hP hS hl)
end XROWS4
