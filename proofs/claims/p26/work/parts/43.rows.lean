/-! rows for strings, for the static arrays and for the JDK's statics -/
section XROWS43
variable {X : xF} {G : xG} {cs : Nat × Nat} {μ : xM} {I : xI} {P : xP} {L : List (Option Value)} {pc : Nat} {st : List Value} {cc : ByteArray} {Ts : List Cond} {own : String} {nL : Nat} {R : Room}
def slen (i : Nat) : Nat := ([5, 5, 7] : List Nat).getD i 0
def sbyt (i : Nat) : List Int32 := ([[68, 69, 80, 79, 84], [83, 79, 82, 82, 89], [80, 82, 73, 86, 65, 84, 69]] : List (List Int32)).getD i []
def sch (i k : Nat) : Int32 := (sbyt i).getD k 0
theorem r_ldcS (hC : xC X G cc Ts own nL R) {i index : Nat} {tx : String} (hR : xN G X.2.2.2.2.1 → vk_R own index tx (xX G (3 + i)) X.2.2.2.2.1) (d : decode cc pc = .ok (.ldc index, 2)) (kk : xg X G cs μ I P L (pc + 2) (.ref (xX G (3 + i)) :: st)) : xg X G cs μ I P L pc st := by
  intro H locs ls h0 hP hS hl
  exact va_ldcS hC.1 hC.2.1 hC.2.2.2.1 (hR hC.2.2.2.2.2.1.2.1) d (kk H locs ls h0 hP hS hl)
theorem g_String_value (hC : xC X G cc Ts own nL R) {i index : Nat} (hi : i < 3) (hlink : Cond.fieldLink own index "java/lang/String" "value" "[B" ∈ Ts) (d : decode cc pc = .ok (.getfield index, 3)) (kk : xg X G cs μ I P L (pc + 3) (.ref (xX G (6 + i)) :: st)) : xg X G cs μ I P L pc (.ref (xX G (3 + i)) :: st) := by
  intro H locs ls h0 hP hS hl
  exact vk_getf hC.1 hC.2.1 (hC.2.2.2.2.2.1.2.2.2.2.2.2.2.2.1.1 i hi).2.2.1 hS hC.2.2.2.1 (hC.2.2.2.2.1 _ hlink) (fun x h => h) d (kk H locs ls h0 hP hS hl)
theorem g_String_coder (hC : xC X G cc Ts own nL R) {i index : Nat} (hi : i < 3) (hlink : Cond.fieldLink own index "java/lang/String" "coder" "B" ∈ Ts) (d : decode cc pc = .ok (.getfield index, 3)) (kk : xg X G cs μ I P L (pc + 3) (.int 0 :: st)) : xg X G cs μ I P L pc (.ref (xX G (3 + i)) :: st) := by
  intro H locs ls h0 hP hS hl
  exact vk_getf hC.1 hC.2.1 (hC.2.2.2.2.2.1.2.2.2.2.2.2.2.2.1.1 i hi).2.1 hS hC.2.2.2.1 (hC.2.2.2.2.1 _ hlink) (fun x h => h) d (kk H locs ls h0 hP hS hl)
theorem r_slen (hC : xC X G cc Ts own nL R) {i : Nat} (hi : i < 3) (d : decode cc pc = .ok (.arraylength, 1)) (kk : xg X G cs μ I P L (pc + 1) (.int (nI (slen i)) :: st)) : xg X G cs μ I P L pc (.ref (xX G (6 + i)) :: st) := by
  intro H locs ls h0 hP hS hl
  exact va_tlen hC.1 hC.2.1 (hC.2.2.2.2.2.1.2.2.2.2.2.2.2.2.1.1 i hi).2.2.2 hS rfl d (kk H locs ls h0 hP hS hl)
theorem r_sbyte (hC : xC X G cc Ts own nL R) {i k : Nat} (hi : i < 3) (hk : k < slen i) (d : decode cc pc = .ok (.baload, 1)) (kk : xg X G cs μ I P L (pc + 1) (.int (sch i k) :: st)) : xg X G cs μ I P L pc (.int (nI k) :: .ref (xX G (6 + i)) :: st) := by
  intro H locs ls h0 hP hS hl
  have hs : slen i ≤ 7 := by
    have : i = 0 ∨ i = 1 ∨ i = 2 := by omega
    rcases this with rfl | rfl | rfl <;> decide
  exact va_tb hC.1 hC.2.1 (hC.2.2.2.2.2.1.2.2.2.2.2.2.2.2.1.1 i hi).2.2.2 hS (show vp_in (nI k) (slen i) from vp_in_nI hk (by omega)) (by rw [nI_clamp (by omega)]; rfl) d (kk H locs ls h0 hP hS hl)
theorem r_gCOMPACT (hC : xC X G cc Ts own nL R) {index : Nat} (hlink : Cond.fieldLink own index "java/lang/String" "COMPACT_STRINGS" "Z" ∈ Ts) (d : decode cc pc = .ok (.getstatic index, 3)) (kk : xg X G cs μ I P L (pc + 3) (.int 1 :: st)) : xg X G cs μ I P L pc st := by
  intro H locs ls h0 hP hS hl
  exact va_gets hC.1 hC.2.1 hC.2.2.2.2.2.1.2.2.2.2.2.2.2.2.2.1 hS hC.2.2.2.1 (hC.2.2.2.2.1 _ hlink) (fun x h => h) d (kk H locs ls h0 hP hS hl)
theorem r_gSIOOBE (hC : xC X G cc Ts own nL R) {index : Nat} (hlink : Cond.fieldLink own index "jdk/internal/util/Preconditions" "SIOOBE_FORMATTER" "Ljava/util/function/BiFunction;" ∈ Ts) (d : decode cc pc = .ok (.getstatic index, 3)) (k1 : xg X G cs μ I P L (pc + 3) (.null :: st)) (k2 : ∀ q, xg X G cs μ I P L (pc + 3) (.ref q :: st)) : xg X G cs μ I P L pc st := by
  intro H locs ls h0 hP hS hl
  rcases hC.2.2.2.2.2.1.2.2.2.2.2.2.2.2.2.2.1 with hZ | ⟨q, hZ⟩
  · exact va_gets hC.1 hC.2.1 hZ hS hC.2.2.2.1 (hC.2.2.2.2.1 _ hlink) (fun x h => h) d (k1 H locs ls h0 hP hS hl)
  · exact va_gets hC.1 hC.2.1 hZ hS hC.2.2.2.1 (hC.2.2.2.2.1 _ hlink) (fun x h => h) d (k2 q H locs ls h0 hP hS hl)
theorem r_gLEAST (hC : xC X G cc Ts own nL R) {index : Nat} (hlink : Cond.fieldLink own index "HandBlinds" "LEAST" "[I" ∈ Ts) (d : decode cc pc = .ok (.getstatic index, 3)) (kk : xg X G cs μ I P L (pc + 3) (.ref (xX G 1) :: st)) : xg X G cs μ I P L pc st := by
  intro H locs ls h0 hP hS hl
  exact va_gets hC.1 hC.2.1 hC.2.2.2.2.2.1.2.2.2.2.1 hS hC.2.2.2.1 (hC.2.2.2.2.1 _ hlink) (fun x h => h) d (kk H locs ls h0 hP hS hl)
theorem r_gMOST (hC : xC X G cc Ts own nL R) {index : Nat} (hlink : Cond.fieldLink own index "HandBlinds" "MOST" "[I" ∈ Ts) (d : decode cc pc = .ok (.getstatic index, 3)) (kk : xg X G cs μ I P L (pc + 3) (.ref (xX G 2) :: st)) : xg X G cs μ I P L pc st := by
  intro H locs ls h0 hP hS hl
  exact va_gets hC.1 hC.2.1 hC.2.2.2.2.2.1.2.2.2.2.2.2.1 hS hC.2.2.2.1 (hC.2.2.2.2.1 _ hlink) (fun x h => h) d (kk H locs ls h0 hP hS hl)
theorem r_tLEAST (hC : xC X G cc Ts own nL R) {k : Nat} (hk : k < 3) (d : decode cc pc = .ok (.iaload, 1)) (kk : xg X G cs μ I P L (pc + 1) (.int (setLo (nI k)) :: st)) : xg X G cs μ I P L pc (.int (nI k) :: .ref (xX G 1) :: st) := by
  intro H locs ls h0 hP hS hl
  refine va_ti hC.1 hC.2.1 hC.2.2.2.2.2.1.2.2.2.2.2.1 hS (vp_in_nI hk (by omega)) ?_ d (kk H locs ls h0 hP hS hl)
  rw [nI_clamp (by omega)]
  have : k = 0 ∨ k = 1 ∨ k = 2 := by omega
  rcases this with rfl | rfl | rfl <;> rfl
theorem r_tMOST (hC : xC X G cc Ts own nL R) {k : Nat} (hk : k < 3) (d : decode cc pc = .ok (.iaload, 1)) (kk : xg X G cs μ I P L (pc + 1) (.int (setHi (nI k)) :: st)) : xg X G cs μ I P L pc (.int (nI k) :: .ref (xX G 2) :: st) := by
  intro H locs ls h0 hP hS hl
  refine va_ti hC.1 hC.2.1 hC.2.2.2.2.2.1.2.2.2.2.2.2.2.1 hS (vp_in_nI hk (by omega)) ?_ d (kk H locs ls h0 hP hS hl)
  rw [nI_clamp (by omega)]
  have : k = 0 ∨ k = 1 ∨ k = 2 := by omega
  rcases this with rfl | rfl | rfl <;> rfl
theorem r_callVS (hC : xC X G cc Ts own nL R) {y : MethodName} {bytes : ByteArray} {maxL n index : Nat} {ret : Option FieldType} {ws ws' : List Cond} {rm : Room} {C : String} (hC2 : C = "java/lang/String") {Ps : xPost} {i : Nat} {As rest st0 : List Value} (hM : Ct X.2.1 y ws rm G μ I P (.ref (xX G (3 + i)) :: As) 0 0 Ps) (hG : GoodIn Ts (wsV own index C y ws)) (hw : ws = Cond.code y bytes maxL ret :: ws') (hrc : rm.cells = 0) (hrs : rm.slots = 0) (hd : y.cls = C ∧ y.cls ≠ "java/lang/invoke/MethodHandle" ∧ y.cls ≠ "java/lang/invoke/VarHandle" ∧ (parseMethodDescriptor y.desc).map (fun d => d.parameters.length) = some n) (hR : rm.frames + 1 ≤ R.frames ∧ 8 + (maxL + 11) + rm.locals ≤ R.locals) (hi : i < 3) (hA : As.length = n) (hs : st0 = As.reverse ++ .ref (xX G (3 + i)) :: rest) (hW : (rest.map fun v => v.category).sum ≤ 8) (hL : L.length = nL) (hcs : cs.1 ≤ R.cells ∧ cs.2 ≤ R.slots) (d : decode cc pc = .ok (.invokevirtual index, 3)) (kk : ∀ (v : Option Value) (μ' : xM) (I' : xI) (P' : xP), Ps v μ' I' P' → xg X G cs μ' I' P' L (pc + 3) (v.toList ++ rest)) : xg X G cs μ I P L (pc) (st0) := by
  subst hC2
  refine r_run (mc := 0) (ms := 0) (rest := rest) (Ps := Ps) (av := (Value.ref (xX G (3 + i)) :: As).toArray) (fun H locs ls h0 hP hS hl => ?_) kk
  obtain ⟨hx, hb, hml, hown, hts, hV, hRR⟩ := hC
  exact va_runV (rest := rest) ⟨hx, hb, hml, hown, hts⟩ hM (cwV n hts hG hw hrc hrs hd (by rw [hRR]; exact hR)) ⟨xPre.blind, vk_recv (adK := fun j => xX G (3 + j)) (i := i) hV.2.2.2.2.2.2.2.2.1 hi hS, fun U hU hW => ⟨rfl, h0, Or.inl rfl, by rw [hU]; exact hP, xV.call hV hW hS hU⟩⟩ rfl hA (hl.1.trans hL) hs (lv_room hW) d (by rw [hRR]; exact hcs)
end XROWS43
theorem slen_7 : ∀ {i : Nat}, slen i ≤ 7
  | 0 => by decide
  | 1 => by decide
  | 2 => by decide
  | i + 3 => by simp [slen]
theorem sch_ok {i k : Nat} (hi : i < 3) (hk : k < slen i) : ((sch i k &&& 255).toUInt32 % 65536).toInt32 = sch i k ∧ narrow .char (.int (sch i k)) = .int (sch i k) := by
  have key : ∀ i : Fin 3, ∀ k : Fin 7, ((sch i.1 k.1 &&& 255).toUInt32 % 65536).toInt32 = sch i.1 k.1 ∧ ∃ q : Fin 128, sch i.1 k.1 = nI q.1 := by decide +kernel
  obtain ⟨h1, q, h2⟩ := key ⟨i, hi⟩ ⟨k, Nat.lt_of_lt_of_le hk slen_7⟩
  exact ⟨h1, by rw [show sch i k = nI q.1 from h2]; exact (pk_charN (by have := q.2; omega)).1⟩
theorem slen_sh {i : Nat} (hi : i < 3) : nI (slen i) >>> ((0 : Int32) &&& 31) = nI (slen i) := by
  have : i = 0 ∨ i = 1 ∨ i = 2 := by omega
  rcases this with rfl | rfl | rfl <;> decide
/-- whether a row's name is the string i -/
def nmd (f : Nat → Int32) (n i : Nat) : Bool := decide (n = slen i) && eqN f (sch i) n
def kindC (f : Nat → Int32) (n : Nat) : Int32 := if n = 1 then 4 else if nmd f n 0 = true then 1 else if nmd f n 1 = true then 2 else if nmd f n 2 = true then 3 else 0
