/-! the small heap: cells have numbers 1 .. n; a cell's kind, an array's length, ints I and references P (0: null) by cell and place -/
abbrev xI : Type := Nat → Nat → Int32
abbrev xP : Type := Nat → Nat → Nat
abbrev xM : Type := Nat × (Nat → Nat) × (Nat → Nat)
abbrev xG : Type := va_G × (Nat → ClassId) × Nat × (Nat → Nat)
def xZ (G : xG) : Nat := G.2.2.1
def xA (G : xG) : Nat → Prop := fun q => xZ G < q
def xT (G : xG) : List (ClassId × FieldType) := [(G.2.1 0, .int), (G.2.1 1, .char), (G.2.1 2, .object RX2), (G.2.1 3, .object RX1), (G.2.1 4, .object RX0), (G.2.1 5, .long)]
def xr (G : xG) (a : Nat) : Option Nat := if a = 0 then none else some (xZ G + a)
theorem xr_ne {G : xG} {a : Nat} (h : a ≠ 0) : va_rf (xr G a) = .ref (xZ G + a) := by simp [xr, h, va_rf]
def xe (G : xG) (μ : xM) (I : xI) (P : xP) (a : Nat) : va_E := match μ.2.1 a with
  | 1 => .inr (0, [va_rf (xr G (P a 0)), .int (I a 1), .int (I a 2), va_rf (xr G (P a 3)), .int (I a 4), .int (I a 5), va_rf (xr G (P a 6)), .int (I a 7), .int (I a 8), .int (I a 9), .int (I a 10)])
  | 2 => .inr (1, [.int (I a 0), .int (I a 1), .int (I a 2)])
  | 3 => .inr (2, [va_rf (xr G (P a 0)), .int (I a 1), .int (I a 2), .int (I a 3)])
  | 4 => .inr (3, [va_rf (xr G (P a 0)), .int (I a 1)])
  | 5 => .inr (4, [va_rf (xr G (P a 0)), va_rf (xr G (P a 1)), va_rf (xr G (P a 2)), .int (I a 3)])
  | 6 => .inl (G.2.1 5, μ.2.2 a, .inr (.inl (fun j => Int64.ofNat (P a j))))
  | 7 => .inl (G.2.1 0, μ.2.2 a, .inl (I a))
  | 8 => .inl (G.2.1 1, μ.2.2 a, .inl (I a))
  | 9 => .inl (G.2.1 2, μ.2.2 a, .inr (.inr (.inr (.inr (fun j => xr G (P a j))))))
  | 10 => .inl (G.2.1 3, μ.2.2 a, .inr (.inr (.inr (.inr (fun j => xr G (P a j))))))
  | 11 => .inl (G.2.1 4, μ.2.2 a, .inr (.inr (.inr (.inr (fun j => xr G (P a j))))))
  | _ => .inr (1, [])
def xw (G : xG) (μ : xM) (I : xI) (P : xP) : va_W := (List.range μ.1).map (fun k => (xZ G + (k + 1), xe G μ I P (k + 1)))
/-- chars are chars, a row's torn is a boolean -/
def xty (μ : xM) (I : xI) : Prop := (∀ a k, μ.2.1 a = 8 → fits .char (.int (I a k)) = true) ∧ ∀ a, μ.2.1 a = 3 → I a 3 = 0 ∨ I a 3 = 1
def xok (μ : xM) (I : xI) : Prop := (μ.2.1 0 = 0 ∧ ∀ a, μ.1 < a → μ.2.1 a = 0) ∧ xty μ I
def xu {α : Type} (f : Nat → Nat → α) (a k : Nat) (v : α) : Nat → Nat → α := fun b j => if b = a ∧ j = k then v else f b j
theorem xu_row {α : Type} {f : Nat → Nat → α} {a b k : Nat} {v : α} (h : b ≠ a) : xu f a k v b = f b := by funext j; simp [xu, h]
theorem xu_at {α : Type} {f : Nat → Nat → α} {a k : Nat} {v : α} : xu f a k v a k = v := by simp [xu]
theorem xu_ne {α : Type} {f : Nat → Nat → α} {a b k j : Nat} {v : α} (h : b ≠ a ∨ j ≠ k) : xu f a k v b j = f b j := by
  unfold xu; rw [if_neg]; intro q; rcases h with h | h
  · exact h q.1
  · exact h q.2
theorem xok_pos {μ : xM} {I : xI} (ho : xok μ I) {a : Nat} (hk : μ.2.1 a ≠ 0) : ∃ k, a = k + 1 ∧ k < μ.1 := by
  obtain ⟨⟨h0, h1⟩, -⟩ := ho
  cases a with
  | zero => exact absurd h0 hk
  | succ k =>
    refine ⟨k, rfl, ?_⟩
    rcases Nat.lt_or_ge k μ.1 with h | h
    · exact h
    · exact absurd (h1 (k + 1) (by omega)) hk
theorem xw_at {G : xG} {μ : xM} {I : xI} {P : xP} {k : Nat} (h : k < μ.1) : (xw G μ I P)[k]? = some (xZ G + (k + 1), xe G μ I P (k + 1)) := by
  simp [xw, List.getElem?_map, List.getElem?_range h]
theorem xw_D {G : xG} {μ : xM} {I : xI} {P : xP} : va_D (xA G) (xw G μ I P) := by
  have key : ∀ (k : Nat) (q : Nat × va_E), (xw G μ I P)[k]? = some q → q.1 = xZ G + (k + 1) := by
    intro k q hk
    have hl : k < μ.1 := by
      have := (List.getElem?_eq_some_iff.mp hk).1
      simpa [xw] using this
    rw [xw_at hl] at hk
    cases hk
    rfl
  refine ⟨fun i j p q hi hj h => ?_, fun k q hk => ?_⟩
  · rw [key i p hi, key j q hj] at h; omega
  · show xZ G < q.1
    rw [key k q hk]; omega
theorem xw_set {G : xG} {μ : xM} {I I' : xI} {P P' : xP} {k : Nat} {e : va_E} (he : xe G μ I' P' (k + 1) = e) (hb : ∀ b, b ≠ k + 1 → xe G μ I' P' b = xe G μ I P b) : (xw G μ I P).set k (xZ G + (k + 1), e) = xw G μ I' P' := by
  apply List.ext_getElem?
  intro j
  rw [List.getElem?_set]
  by_cases hj : k = j
  · subst hj
    rw [if_pos rfl]
    by_cases hl : k < μ.1
    · rw [if_pos (by simpa [xw] using hl), xw_at hl, he]
    · rw [if_neg (by simpa [xw] using hl), List.getElem?_eq_none (by simp [xw]; omega)]
  · rw [if_neg hj]
    by_cases hl : j < μ.1
    · rw [xw_at hl, xw_at hl, hb (j + 1) (by omega)]
    · rw [List.getElem?_eq_none (by simp [xw]; omega), List.getElem?_eq_none (by simp [xw]; omega)]
theorem xty_u {μ : xM} {I : xI} {a k c : Nat} {v : Int32} (hk : μ.2.1 a = c) (h8 : c ≠ 8) (h3 : c ≠ 3 ∨ k ≠ 3) (h : xty μ I) : xty μ (xu I a k v) := by
  refine ⟨fun b j hb => ?_, fun b hb => ?_⟩
  · rw [xu_row (fun e => h8 (by rw [← hk, ← e, hb]))]; exact h.1 b j hb
  · rw [xu_ne]
    · exact h.2 b hb
    · rcases h3 with q | q
      · exact Or.inl (fun e => q (by rw [← hk, ← e, hb]))
      · exact Or.inr (fun e => q e.symm)
theorem xty_t {μ : xM} {I : xI} {a : Nat} {v : Int32} (hk : μ.2.1 a = 3) (hv : v = 0 ∨ v = 1) (h : xty μ I) : xty μ (xu I a 3 v) := by
  refine ⟨fun b j hb => ?_, fun b hb => ?_⟩
  · rw [xu_row (fun e => by rw [e, hk] at hb; cases hb)]; exact h.1 b j hb
  · by_cases e : b = a
    · subst e; rw [xu_at]; exact hv
    · rw [xu_row e]; exact h.2 b hb
theorem vp_narc (x : Int32) : vp_nar .char x = (x.toUInt32 % 65536).toInt32 := by rw [vp_nar_char]; simp
theorem xty_c {μ : xM} {I : xI} {a k : Nat} {x : Int32} (hk : μ.2.1 a = 8) (h : xty μ I) : xty μ (xu I a k (vp_nar .char x)) := by
  refine ⟨fun b j hb => ?_, fun b hb => ?_⟩
  · by_cases e : b = a ∧ j = k
    · obtain ⟨rfl, rfl⟩ := e
      rw [xu_at, vp_narc]; exact pk_fc x
    · rw [xu_ne]
      · exact h.1 b j hb
      · by_cases e1 : b = a
        · exact Or.inr (fun e2 => e ⟨e1, e2⟩)
        · exact Or.inl e1
  · rw [xu_row (fun e => by rw [e, hk] at hb; cases hb)]; exact h.2 b hb
theorem xe_congr {G : xG} {μ : xM} {I I' : xI} {P P' : xP} {a : Nat} (h1 : I' a = I a) (h2 : P' a = P a) : xe G μ I' P' a = xe G μ I P a := by
  unfold xe; rw [h1, h2]

/-! what lies outside the small heap and never changes: tables, static arrays, string constants, statics of the JDK -/
def xX (G : xG) : Nat → Nat := G.2.2.2
/-- the script: an int array that nobody writes -/
def xScr (G : xG) (U : State) (H : Heap) : Prop := (xX G 9 ≤ xZ G ∧ xX G 10 ≤ 260) ∧ ∃ xs : Nat → Int32, xX G 9 < H.size ∧ va_X (xX G 9) (xX G 10) xs U H
theorem xScr.moved {G : xG} {s U : State} {H : Heap} (hA : s.vm.Alike U.vm) (h : xScr G s H) : xScr G U H := ⟨h.1, h.2.choose, h.2.choose_spec.1, h.2.choose_spec.2.moved hA⟩
theorem xScr.kept {G : xG} {s : State} {H H1 : Heap} (h : xScr G s H) (hz : H.size ≤ H1.size) (hq : ∀ a : Nat, a < H.size → ¬ xA G a → H1[a]? = H[a]?) : xScr G s H1 := ⟨h.1, h.2.choose, Nat.lt_of_lt_of_le h.2.choose_spec.1 hz, h.2.choose_spec.2.kept (hq _ h.2.choose_spec.1 (fun q => absurd h.1.1 (Nat.not_le.mpr q)))⟩
def xN (G : xG) (U : State) : Prop := va_Nw (.fieldLinkNest RX0 29 "HandBlinds" "FIRST" "[I" "HandBlinds") U ∧ va_Nw (.methodLinkNest RX0 24 yX1_init "HandBlinds") U ∧ va_Nw (.methodLinkNest RX3 23 yX4_letterWidth "HandBlinds") U ∧ va_Nw (.methodLinkNest RX2 37 yX4_letterWidth "HandBlinds") U ∧ True ∧
  va_AO RX2 U ∧ va_AO RX1 U ∧ va_AO RX0 U ∧ vk_R RX2 41 "DEPOT" (xX G 3) U ∧ vk_R RX2 47 "SORRY" (xX G 4) U ∧ vk_R RX2 49 "PRIVATE" (xX G 5) U
def xS (G : xG) (U : State) (H : Heap) : Prop := va_Z "HandBlinds" "FIRST" "[I" (.ref (xX G 0)) (xA G) U H ∧ va_T .int (xX G 0) 3 (fun j => .int (([24, 30, 10] : List Int32).getD j 0)) (xA G) U H ∧
  va_Z "HandBlinds" "LEAST" "[I" (.ref (xX G 1)) (xA G) U H ∧ va_T .int (xX G 1) 3 (fun j => .int (([4, 1, 1] : List Int32).getD j 0)) (xA G) U H ∧
  va_Z "HandBlinds" "MOST" "[I" (.ref (xX G 2)) (xA G) U H ∧ va_T .int (xX G 2) 3 (fun j => .int (([60, 200, 50] : List Int32).getD j 0)) (xA G) U H ∧
  vk_S 3 [5, 5, 7] [[68, 69, 80, 79, 84], [83, 79, 82, 82, 89], [80, 82, 73, 86, 65, 84, 69]] (fun i => xX G (3 + i)) (fun i => xX G (6 + i)) (xA G) U H ∧
  va_Z "java/lang/String" "COMPACT_STRINGS" "Z" (.int 1) (xA G) U H ∧ va_Zq "jdk/internal/util/Preconditions" "SIOOBE_FORMATTER" "Ljava/util/function/BiFunction;" (xA G) U H ∧ xScr G U H
def xV (G : xG) (U : State) (H : Heap) : Prop := va_K G.1 vwCl (xT G) U ∧ xN G U ∧ xS G U H
theorem xN.warm {G : xG} {s U : State} (hW : s.WarmedH U.vm) (h : xN G s) : xN G U := by
  obtain ⟨h1, h2, h3, h4, h5, h6, h7, h8, h9, h10, h11⟩ := h
  exact ⟨va_Nw.warmF hW h1, va_Nw.warmM hW h2, va_Nw.warmM hW h3, va_Nw.warmM hW h4, h5, h6.moved hW.alike, h7.moved hW.alike, h8.moved hW.alike, h9.warm hW, h10.warm hW, h11.warm hW⟩
theorem xN.same {G : xG} {s U : State} (hv : s.vm = U.vm) (h : xN G s) : xN G U := by
  obtain ⟨h1, h2, h3, h4, h5, h6, h7, h8, h9, h10, h11⟩ := h
  have hA : s.vm.Alike U.vm := hv ▸ Vm.Alike.refl s.vm
  exact ⟨h1.same rfl hv, h2.same rfl hv, h3.same rfl hv, h4.same rfl hv, h5, h6.moved hA, h7.moved hA, h8.moved hA, h9.same hv.symm, h10.same hv.symm, h11.same hv.symm⟩
theorem xS.moved {G : xG} {s U : State} {H : Heap} (hA : s.vm.Alike U.vm) (h : xS G s H) : xS G U H := by
  obtain ⟨h1, h2, h3, h4, h5, h6, h7, h8, h9, h10⟩ := h
  exact ⟨h1.moved hA, h2.moved hA, h3.moved hA, h4.moved hA, h5.moved hA, h6.moved hA, h7.moved hA, h8.moved hA, h9.moved hA, h10.moved hA⟩
theorem xS.kept {G : xG} {s : State} {H H1 : Heap} (h : xS G s H) (hz : H.size ≤ H1.size) (hq : ∀ a : Nat, a < H.size → ¬ xA G a → H1[a]? = H[a]?) : xS G s H1 := by
  obtain ⟨h1, h2, h3, h4, h5, h6, h7, h8, h9, h10⟩ := h
  exact ⟨h1.kept hq, h2.kept hq, h3.kept hq, h4.kept hq, h5.kept hq, h6.kept hq, h7.kept hq, h8.kept hq, h9.kept hq, h10.kept hz hq⟩
theorem xV.call {G : xG} {s U : State} {H : Heap} {locs : List Loc} (h : xV G s s.heap) (hW : s.WarmedH U.vm) (hS : va_S (xA G) s.heap H locs) (hU : U.heap = H) : xV G U U.heap := by
  subst hU
  exact ⟨h.1.moved hW.alike, h.2.1.warm hW, (h.2.2.kept hS.1 hS.2.1).moved hW.alike⟩
theorem xV.blind {G : xG} {U V : State} (hv : U.vm = V.vm) (hh : U.heap = V.heap) (h : xV G U U.heap) : xV G V V.heap := by
  rw [← hh]
  have hA : U.vm.Alike V.vm := hv ▸ Vm.Alike.refl U.vm
  exact ⟨h.1.moved hA, h.2.1.same hv, h.2.2.moved hA⟩
/-! a method's standing: the machine's parts as one tuple; the goal over the small heap; contracts -/
abbrev xF : Type := Program × Launch × Env × Room × State × MethodId × Array Value × List Frame × Method × Code × (State → Prop)
def xL : Nat → List (Option Value) → List (Nat × Value)
  | _, [] => []
  | i, none :: r => xL (i + 1) r
  | i, some v :: r => (i, v) :: xL (i + 1) r
theorem xL_mem : ∀ (L : List (Option Value)) (b : Nat) (q : Nat × Value), q ∈ xL b L ↔ ∃ k, q.1 = b + k ∧ L[k]? = some (some q.2)
  | [], b, q => by simp [xL]
  | none :: r, b, q => by
    rw [xL, xL_mem r (b + 1) q]
    constructor
    · rintro ⟨k, h1, h2⟩
      exact ⟨k + 1, by omega, by simpa using h2⟩
    · rintro ⟨k, h1, h2⟩
      cases k with
      | zero => simp at h2
      | succ k => exact ⟨k, by omega, by simpa using h2⟩
  | some v :: r, b, q => by
    rw [xL, List.mem_cons, xL_mem r (b + 1) q]
    constructor
    · rintro (rfl | ⟨k, h1, h2⟩)
      · exact ⟨0, rfl, rfl⟩
      · exact ⟨k + 1, by omega, by simpa using h2⟩
    · rintro ⟨k, h1, h2⟩
      cases k with
      | zero =>
        left
        obtain ⟨q1, q2⟩ := q
        simp at h1 h2
        rw [h1, h2]
      | succ k => exact Or.inr ⟨k, by omega, by simpa using h2⟩
theorem xL_at {ls : Array Slot} {n : Nat} {L : List (Option Value)} {k : Nat} {v : Value} (h : lv_has ls n (xL 0 L)) (hk : L[k]? = some (some v)) : ls[k]? = some (.val v) := h.2.2 (k, v) ((xL_mem L 0 (k, v)).mpr ⟨k, by simp, hk⟩)
theorem lv_mono {ls : Array Slot} {n : Nat} {l l' : List (Nat × Value)} (h : lv_has ls n l) (hm : ∀ q ∈ l', q ∈ l) : lv_has ls n l' := ⟨h.1, h.2.1, fun q hq => h.2.2 q (hm q hq)⟩
def xc2 (L : List (Option Value)) (i : Nat) : Bool := i == 0 || match L[i - 1]? with
  | some (some (.long _)) => false
  | some (some (.double _)) => false
  | _ => true
theorem xL_store {L : List (Option Value)} {i : Nat} {v : Value} (h2 : xc2 L i = true) : ∀ q ∈ xL 0 (L.set i (some v)), q ∈ (i, v) :: (xL 0 L).filter (fun q => !(q.1 == i) && !(q.1 + 1 == i && q.2.category == 2)) := by
  intro q hq
  obtain ⟨k, h1, h3⟩ := (xL_mem _ 0 q).mp hq
  rw [List.getElem?_set] at h3
  by_cases hk : i = k
  · subst hk
    rw [if_pos rfl] at h3
    split at h3
    · obtain ⟨q1, q2⟩ := q
      simp at h1 h3
      rw [h1, h3]; exact List.mem_cons_self
    · cases h3
  · rw [if_neg hk] at h3
    refine List.mem_cons_of_mem _ (List.mem_filter.mpr ⟨(xL_mem L 0 q).mpr ⟨k, h1, h3⟩, ?_⟩)
    have hq1 : q.1 = k := by omega
    rw [hq1]
    have e1 : (k == i) = false := by simpa using fun e : k = i => hk e.symm
    rw [e1]
    by_cases e2 : k + 1 = i
    · subst e2
      simp only [xc2, Nat.add_sub_cancel, h3] at h2
      obtain ⟨q1, q2⟩ := q
      cases q2 <;> simp_all [Value.category]
    · have e3 : (k + 1 == i) = false := by simpa using e2
      rw [e3]; rfl
theorem xL_store2 {L : List (Option Value)} {i : Nat} {v : Value} (h2 : xc2 L i = true) : ∀ q ∈ xL 0 ((L.set i (some v)).set (i + 1) none), q ∈ (i, v) :: (xL 0 L).filter (fun q => !(q.1 == i) && (!(q.1 == i + 1) && !(q.1 + 1 == i && q.2.category == 2))) := by
  intro q hq
  obtain ⟨k, h1, h3⟩ := (xL_mem _ 0 q).mp hq
  rw [List.getElem?_set] at h3
  by_cases hk1 : i + 1 = k
  · subst hk1
    rw [if_pos rfl] at h3
    split at h3 <;> cases h3
  rw [if_neg hk1] at h3
  rw [List.getElem?_set] at h3
  by_cases hk : i = k
  · subst hk
    rw [if_pos rfl] at h3
    split at h3
    · obtain ⟨q1, q2⟩ := q
      simp at h1 h3
      rw [h1, h3]; exact List.mem_cons_self
    · cases h3
  · rw [if_neg hk] at h3
    refine List.mem_cons_of_mem _ (List.mem_filter.mpr ⟨(xL_mem L 0 q).mpr ⟨k, h1, h3⟩, ?_⟩)
    have hq1 : q.1 = k := by omega
    rw [hq1]
    have e1 : (k == i) = false := by simpa using fun e : k = i => hk e.symm
    have e0 : (k == i + 1) = false := by simpa using fun e : k = i + 1 => hk1 e.symm
    rw [e1, e0]
    by_cases e2 : k + 1 = i
    · subst e2
      simp only [xc2, Nat.add_sub_cancel, h3] at h2
      obtain ⟨q1, q2⟩ := q
      cases q2 <;> simp_all [Value.category]
    · have e3 : (k + 1 == i) = false := by simpa using e2
      rw [e3]; rfl
abbrev xPost : Type := Option Value → xM → xI → xP → Prop
def xQ (G : xG) (Ps : xPost) : Array Value → State → Outcome → State → Prop := fun _ st oc t => (∃ (v : Option Value) (μ : xM) (I : xI) (P : xP), oc = .returned v ∧ Ps v μ I P ∧ xok μ I ∧ va_P G.1 vwCl (xw G μ I P) t.heap) ∧ va_F (xA G) st t
def xPre (G : xG) (μ : xM) (I : xI) (P : xP) (mc : Nat) (U : State) : Prop := xok μ I ∧ (mc = 0 ∨ U.heap.size = xZ G + 1 + μ.1) ∧ va_P G.1 vwCl (xw G μ I P) U.heap ∧ xV G U U.heap
/-- a method's contract: from the small heap (μ, I, P) with these arguments it returns, and Ps holds of the answer and the small heap then -/
def Ct (l : Launch) (y : MethodName) (ws : List Cond) (rm : Room) (G : xG) (μ : xM) (I : xI) (P : xP) (av : List Value) (mc ms : Nat) (Ps : xPost) : Prop := Met l y ws rm (va_Pc av (xPre G μ I P mc)) (xQ G Ps) mc ms (xA G)
def xC (X : xF) (G : xG) (cc : ByteArray) (Ts : List Cond) (own : String) (nL : Nat) (R : Room) : Prop :=
  X.1.tables.exec = Jvm.exec ∧ X.2.2.2.2.2.2.2.2.2.1.code = cc ∧ X.2.2.2.2.2.2.2.2.2.1.maxLocals = nL ∧ X.2.2.2.2.1.vm.findClass own = some X.2.2.2.2.2.1.cls ∧ (∀ w ∈ Ts, w.before X.2.2.2.2.2.2.1 X.2.2.2.2.1 = true) ∧ xV G X.2.2.2.2.1 X.2.2.2.2.1.heap ∧ X.2.2.2.1 = R
def xD (X : xF) (G : xG) (nm : String) (ret : Option FieldType) (mc ms : Nat) (Ps : xPost) : Prop :=
  X.2.2.2.2.2.2.2.2.1.sig.returnType = ret ∧ X.2.2.2.2.2.2.2.2.1.locks = false ∧ X.2.2.2.2.2.2.2.2.1.name = nm ∧ X.2.2.2.2.2.2.2.2.2.2 = MQ X.2.2.2.2.2.2.2.1 (xQ G Ps) X.2.2.2.2.2.2.1 X.2.2.2.2.1 mc ms (xA G)
def xg (X : xF) (G : xG) (cs : Nat × Nat) (μ : xM) (I : xI) (P : xP) (L : List (Option Value)) (pc : Nat) (st : List Value) : Prop :=
  ∀ (H : Heap) (locs : List Loc) (ls : Array Slot), xok μ I → va_P G.1 vwCl (xw G μ I P) H → va_S (xA G) X.2.2.2.2.1.heap H locs → lv_has ls L.length (xL 0 L) →
    W X.1 X.2.1 X.2.2.1 X.2.2.2.1 X.2.2.2.2.1 X.2.2.2.2.2.1 X.2.2.2.2.2.2.1 X.2.2.2.2.2.2.2.1 X.2.2.2.2.2.2.2.2.1 X.2.2.2.2.2.2.2.2.2.1 H locs cs.1 cs.2 X.2.2.2.2.2.2.2.2.2.2 (F0 X.2.2.2.2.2.1 pc ls st)
theorem Ct.of {l : Launch} {y : MethodName} {ws ws' : List Cond} {rm : Room} {G : xG} {μ : xM} {I : xI} {P : xP} {av : List Value} {mc ms : Nat} {Ps : xPost} {cc : ByteArray} {maxL : Nat} {ret : Option FieldType} (L0 : List (Option Value)) (hy : plainName y.cls = true) (hw : ws = Cond.code y cc maxL ret :: ws') (hL : xL 0 L0 = lv_args 0 av) (hn : L0.length = maxL) (hlen : (lg_sl av).length ≤ maxL)
    (body : ∀ X : xF, xC X G cc ws y.cls maxL rm → xD X G y.name ret mc ms Ps → xok μ I → (mc = 0 ∨ X.2.2.2.2.1.heap.size = xZ G + 1 + μ.1) → xg X G (0, 0) μ I P L0 0 []) : Ct l y ws rm G μ I P av mc ms Ps := by
  refine Met.ofW (cc := cc) (maxL := maxL) (ret := ret) hy hw ?_
  intro p e s m args below meth c s₁ B hml hv
  obtain ⟨rfl, ho, hsz, hP, hV⟩ := hv
  have hts := atoms_spec (ws := ws) B.pre
  have hl := lv_entry av (n := maxL) hlen
  rw [lg_entry_eq]
  generalize (lg_sl av ++ List.replicate (maxL - (lg_sl av).length) Slot.unset).toArray = ls at hl ⊢
  have hl : lv_has ls L0.length (xL 0 L0) := by rw [hL, hn]; exact hl
  exact body (p, l, e, rm, s, m, av.toArray, below, meth, c, MQ below (xQ G Ps) av.toArray s mc ms (xA G)) ⟨B.exec, B.bytes, hml, findClass_of_methodNamed B.named, hts, hV, rfl⟩ ⟨B.returns, B.notSynchronized, (name_of_methodNamed B.named B.method).1, rfl⟩ ho hsz s.heap [] ls ho hP va_S.rf hl

section XROWS
variable {X : xF} {G : xG} {cs : Nat × Nat} {μ : xM} {I : xI} {P : xP} {L : List (Option Value)} {pc : Nat} {st : List Value} {cc : ByteArray} {Ts : List Cond} {own : String} {nL : Nat} {R : Room}
theorem r_iconst (hC : xC X G cc Ts own nL R) {n : Int} {v : Int32} (d : decode cc pc = .ok (.iconst n, 1))  (hv : Int32.ofInt n = v) (kk : xg X G cs μ I P L (pc + 1) (.int v :: st)) : xg X G cs μ I P L (pc) (st) := fun H locs ls h0 hP hS hl => lv_iconst hC.1 hC.2.1 d hv (kk H locs ls h0 hP hS hl)
theorem r_bipush (hC : xC X G cc Ts own nL R) {n : Int} {v : Int32} (d : decode cc pc = .ok (.bipush n, 2))  (hv : (Int8.ofInt n).toInt32 = v) (kk : xg X G cs μ I P L (pc + 2) (.int v :: st)) : xg X G cs μ I P L (pc) (st) := fun H locs ls h0 hP hS hl => lv_bipush hC.1 hC.2.1 d hv (kk H locs ls h0 hP hS hl)
theorem r_sipush (hC : xC X G cc Ts own nL R) {n : Int} {v : Int32} (d : decode cc pc = .ok (.sipush n, 3))  (hv : (Int16.ofInt n).toInt32 = v) (kk : xg X G cs μ I P L (pc + 3) (.int v :: st)) : xg X G cs μ I P L (pc) (st) := fun H locs ls h0 hP hS hl => lv_sipush hC.1 hC.2.1 d hv (kk H locs ls h0 hP hS hl)
theorem r_lconst (hC : xC X G cc Ts own nL R) {n : Fin 2} {v : Int64} (d : decode cc pc = .ok (.lconst n, 1))  (hv : Int64.ofNat (n : Nat) = v) (kk : xg X G cs μ I P L (pc + 1) (.long v :: st)) : xg X G cs μ I P L (pc) (st) := fun H locs ls h0 hP hS hl => lv_lconst hC.1 hC.2.1 d hv (kk H locs ls h0 hP hS hl)
theorem r_ldc (hC : xC X G cc Ts own nL R) {index : Nat} {v : Int32} (d : decode cc pc = .ok (.ldc index, 2)) (hw : Cond.constant own index v ∈ Ts) (kk : xg X G cs μ I P L (pc + 2) (.int v :: st)) : xg X G cs μ I P L (pc) (st) := fun H locs ls h0 hP hS hl => lv_ldc hC.1 hC.2.1 hC.2.2.2.1 (hC.2.2.2.2.1 _ hw) d (kk H locs ls h0 hP hS hl)
theorem r_ldcf (hC : xC X G cc Ts own nL R) {index : Nat} {v : UInt32} (d : decode cc pc = .ok (.ldc index, 2)) (hw : Cond.constantFloat own index v ∈ Ts) (kk : xg X G cs μ I P L (pc + 2) (.float v :: st)) : xg X G cs μ I P L (pc) (st) := fun H locs ls h0 hP hS hl => lv_ldcf hC.1 hC.2.1 hC.2.2.2.1 (hC.2.2.2.2.1 _ hw) d (kk H locs ls h0 hP hS hl)
theorem r_ldc2 (hC : xC X G cc Ts own nL R) {index : Nat} {v : Int64} (d : decode cc pc = .ok (.ldc2_w index, 3)) (hw : Cond.constantLong own index v ∈ Ts) (kk : xg X G cs μ I P L (pc + 3) (.long v :: st)) : xg X G cs μ I P L (pc) (st) := fun H locs ls h0 hP hS hl => lv_ldc2 hC.1 hC.2.1 hC.2.2.2.1 (hC.2.2.2.2.1 _ hw) d (kk H locs ls h0 hP hS hl)
theorem r_iadd (hC : xC X G cc Ts own nL R) {x y : Int32} (d : decode cc pc = .ok (.iadd, 1))  (kk : xg X G cs μ I P L (pc + 1) (.int (x + y) :: st)) : xg X G cs μ I P L (pc) (.int y :: .int x :: st) := fun H locs ls h0 hP hS hl => lv_iadd hC.1 hC.2.1 d (kk H locs ls h0 hP hS hl)
theorem r_isub (hC : xC X G cc Ts own nL R) {x y : Int32} (d : decode cc pc = .ok (.isub, 1))  (kk : xg X G cs μ I P L (pc + 1) (.int (x - y) :: st)) : xg X G cs μ I P L (pc) (.int y :: .int x :: st) := fun H locs ls h0 hP hS hl => lv_isub hC.1 hC.2.1 d (kk H locs ls h0 hP hS hl)
theorem r_imul (hC : xC X G cc Ts own nL R) {x y : Int32} (d : decode cc pc = .ok (.imul, 1))  (kk : xg X G cs μ I P L (pc + 1) (.int (x * y) :: st)) : xg X G cs μ I P L (pc) (.int y :: .int x :: st) := fun H locs ls h0 hP hS hl => lv_imul hC.1 hC.2.1 d (kk H locs ls h0 hP hS hl)
theorem r_iand (hC : xC X G cc Ts own nL R) {x y : Int32} (d : decode cc pc = .ok (.iand, 1))  (kk : xg X G cs μ I P L (pc + 1) (.int (x &&& y) :: st)) : xg X G cs μ I P L (pc) (.int y :: .int x :: st) := fun H locs ls h0 hP hS hl => lv_iand hC.1 hC.2.1 d (kk H locs ls h0 hP hS hl)
theorem r_ior (hC : xC X G cc Ts own nL R) {x y : Int32} (d : decode cc pc = .ok (.ior, 1))  (kk : xg X G cs μ I P L (pc + 1) (.int (x ||| y) :: st)) : xg X G cs μ I P L (pc) (.int y :: .int x :: st) := fun H locs ls h0 hP hS hl => lv_ior hC.1 hC.2.1 d (kk H locs ls h0 hP hS hl)
theorem r_ixor (hC : xC X G cc Ts own nL R) {x y : Int32} (d : decode cc pc = .ok (.ixor, 1))  (kk : xg X G cs μ I P L (pc + 1) (.int (x ^^^ y) :: st)) : xg X G cs μ I P L (pc) (.int y :: .int x :: st) := fun H locs ls h0 hP hS hl => lv_ixor hC.1 hC.2.1 d (kk H locs ls h0 hP hS hl)
theorem r_ishl (hC : xC X G cc Ts own nL R) {x y : Int32} (d : decode cc pc = .ok (.ishl, 1))  (kk : xg X G cs μ I P L (pc + 1) (.int (x <<< (y &&& 31)) :: st)) : xg X G cs μ I P L (pc) (.int y :: .int x :: st) := fun H locs ls h0 hP hS hl => lv_ishl hC.1 hC.2.1 d (kk H locs ls h0 hP hS hl)
theorem r_ishr (hC : xC X G cc Ts own nL R) {x y : Int32} (d : decode cc pc = .ok (.ishr, 1))  (kk : xg X G cs μ I P L (pc + 1) (.int (x >>> (y &&& 31)) :: st)) : xg X G cs μ I P L (pc) (.int y :: .int x :: st) := fun H locs ls h0 hP hS hl => lv_ishr hC.1 hC.2.1 d (kk H locs ls h0 hP hS hl)
theorem r_iushr (hC : xC X G cc Ts own nL R) {x y : Int32} (d : decode cc pc = .ok (.iushr, 1))  (kk : xg X G cs μ I P L (pc + 1) (.int ((x.toUInt32 >>> (y.toUInt32 &&& Int32.toUInt32 31)).toInt32) :: st)) : xg X G cs μ I P L (pc) (.int y :: .int x :: st) := fun H locs ls h0 hP hS hl => lv_iushr hC.1 hC.2.1 d rfl (kk H locs ls h0 hP hS hl)
theorem r_idiv (hC : xC X G cc Ts own nL R) {x y : Int32} (d : decode cc pc = .ok (.idiv, 1)) (hne : ¬ y = 0) (kk : xg X G cs μ I P L (pc + 1) (.int (x / y) :: st)) : xg X G cs μ I P L (pc) (.int y :: .int x :: st) := fun H locs ls h0 hP hS hl => lv_idiv hC.1 hC.2.1 d hne (kk H locs ls h0 hP hS hl)
theorem r_irem (hC : xC X G cc Ts own nL R) {x y : Int32} (d : decode cc pc = .ok (.irem, 1)) (hne : ¬ y = 0) (kk : xg X G cs μ I P L (pc + 1) (.int (x - (x / y) * y) :: st)) : xg X G cs μ I P L (pc) (.int y :: .int x :: st) := fun H locs ls h0 hP hS hl => lv_irem hC.1 hC.2.1 d hne (kk H locs ls h0 hP hS hl)
theorem r_ladd (hC : xC X G cc Ts own nL R) {x y : Int64} (d : decode cc pc = .ok (.ladd, 1))  (kk : xg X G cs μ I P L (pc + 1) (.long (x + y) :: st)) : xg X G cs μ I P L (pc) (.long y :: .long x :: st) := fun H locs ls h0 hP hS hl => lv_ladd hC.1 hC.2.1 d (kk H locs ls h0 hP hS hl)
theorem r_lmul (hC : xC X G cc Ts own nL R) {x y : Int64} (d : decode cc pc = .ok (.lmul, 1))  (kk : xg X G cs μ I P L (pc + 1) (.long (x * y) :: st)) : xg X G cs μ I P L (pc) (.long y :: .long x :: st) := fun H locs ls h0 hP hS hl => lv_lmul hC.1 hC.2.1 d (kk H locs ls h0 hP hS hl)
theorem r_i2l (hC : xC X G cc Ts own nL R) {x : Int32} (d : decode cc pc = .ok (.i2l, 1))  (kk : xg X G cs μ I P L (pc + 1) (.long x.toInt64 :: st)) : xg X G cs μ I P L (pc) (.int x :: st) := fun H locs ls h0 hP hS hl => lv_i2l hC.1 hC.2.1 d rfl (kk H locs ls h0 hP hS hl)
theorem r_i2c (hC : xC X G cc Ts own nL R) {x : Int32} (d : decode cc pc = .ok (.i2c, 1))  (kk : xg X G cs μ I P L (pc + 1) (.int ((x.toUInt32 % 65536).toInt32) :: st)) : xg X G cs μ I P L (pc) (.int x :: st) := fun H locs ls h0 hP hS hl => lv_i2c hC.1 hC.2.1 d rfl (kk H locs ls h0 hP hS hl)
theorem r_i2f (hC : xC X G cc Ts own nL R) {x : Int32} (d : decode cc pc = .ok (.i2f, 1))  (kk : xg X G cs μ I P L (pc + 1) (.float (FP.i2f x) :: st)) : xg X G cs μ I P L (pc) (.int x :: st) := fun H locs ls h0 hP hS hl => lv_i2f hC.1 hC.2.1 d (kk H locs ls h0 hP hS hl)
theorem r_f2i (hC : xC X G cc Ts own nL R) {x : UInt32} (d : decode cc pc = .ok (.f2i, 1))  (kk : xg X G cs μ I P L (pc + 1) (.int (FP.f2i x) :: st)) : xg X G cs μ I P L (pc) (.float x :: st) := fun H locs ls h0 hP hS hl => lv_f2i hC.1 hC.2.1 d (kk H locs ls h0 hP hS hl)
theorem r_fdiv (hC : xC X G cc Ts own nL R) {x y : UInt32} (d : decode cc pc = .ok (.fdiv, 1)) (hne : vf_n32 (FP.fdiv x y)) (kk : xg X G cs μ I P L (pc + 1) (.float (FP.fdiv x y) :: st)) : xg X G cs μ I P L (pc) (.float y :: .float x :: st) := fun H locs ls h0 hP hS hl => lv_fdiv hC.1 hC.2.1 d hne (kk H locs ls h0 hP hS hl)
theorem r_fsub (hC : xC X G cc Ts own nL R) {x y : UInt32} (d : decode cc pc = .ok (.fsub, 1)) (hne : vf_n32 (FP.fsub x y)) (kk : xg X G cs μ I P L (pc + 1) (.float (FP.fsub x y) :: st)) : xg X G cs μ I P L (pc) (.float y :: .float x :: st) := fun H locs ls h0 hP hS hl => lv_fsub hC.1 hC.2.1 d hne (kk H locs ls h0 hP hS hl)
theorem r_fmul (hC : xC X G cc Ts own nL R) {x y : UInt32} (d : decode cc pc = .ok (.fmul, 1)) (hne : vf_n32 (FP.fmul x y)) (kk : xg X G cs μ I P L (pc + 1) (.float (FP.fmul x y) :: st)) : xg X G cs μ I P L (pc) (.float y :: .float x :: st) := fun H locs ls h0 hP hS hl => lv_fmul hC.1 hC.2.1 d hne (kk H locs ls h0 hP hS hl)
theorem r_fcmp (hC : xC X G cc Ts own nL R) {x y : UInt32} {op : CmpOp} (d : decode cc pc = .ok (.fcmp op, 1))  (kk : xg X G cs μ I P L (pc + 1) (.int (Op.cmpValue (FP.fcmp x y) op) :: st)) : xg X G cs μ I P L (pc) (.float y :: .float x :: st) := fun H locs ls h0 hP hS hl => lv_fcmp hC.1 hC.2.1 d (kk H locs ls h0 hP hS hl)
theorem r_fconst1 (hC : xC X G cc Ts own nL R) (d : decode cc pc = .ok (.fconst 1, 1))  (kk : xg X G cs μ I P L (pc + 1) (.float 0x3f800000 :: st)) : xg X G cs μ I P L (pc) (st) := fun H locs ls h0 hP hS hl => lv_fconst1 hC.1 hC.2.1 d (kk H locs ls h0 hP hS hl)
theorem r_fconst2 (hC : xC X G cc Ts own nL R) (d : decode cc pc = .ok (.fconst 2, 1))  (kk : xg X G cs μ I P L (pc + 1) (.float 0x40000000 :: st)) : xg X G cs μ I P L (pc) (st) := fun H locs ls h0 hP hS hl => lv_fconst2 hC.1 hC.2.1 d (kk H locs ls h0 hP hS hl)
theorem r_dup (hC : xC X G cc Ts own nL R) {va : Value} (d : decode cc pc = .ok (.dup, 1)) (hva : va.category = 1) (kk : xg X G cs μ I P L (pc + 1) (va :: va :: st)) : xg X G cs μ I P L (pc) (va :: st) := fun H locs ls h0 hP hS hl => lv_dup hC.1 hC.2.1 d hva (kk H locs ls h0 hP hS hl)
theorem r_dup2 (hC : xC X G cc Ts own nL R) {va vb : Value} (d : decode cc pc = .ok (.dup2, 1)) (hva : va.category = 1) (hvb : vb.category = 1) (kk : xg X G cs μ I P L (pc + 1) (va :: vb :: va :: vb :: st)) : xg X G cs μ I P L (pc) (va :: vb :: st) := fun H locs ls h0 hP hS hl => lv_dup2_11 hC.1 hC.2.1 d hva hvb (kk H locs ls h0 hP hS hl)
theorem r_pop (hC : xC X G cc Ts own nL R) {va : Value} (d : decode cc pc = .ok (.pop, 1)) (hva : va.category = 1) (kk : xg X G cs μ I P L (pc + 1) (st)) : xg X G cs μ I P L (pc) (va :: st) := fun H locs ls h0 hP hS hl => lv_pop hC.1 hC.2.1 d hva (kk H locs ls h0 hP hS hl)
theorem r_iload_n (hC : xC X G cc Ts own nL R) {k : Fin 4} {x : Int32} (d : decode cc pc = .ok (.iload_n k, 1)) (hL : L[(k : Nat)]? = some (some (.int x))) (kk : xg X G cs μ I P L (pc + 1) (.int x :: st)) : xg X G cs μ I P L (pc) (st) := fun H locs ls h0 hP hS hl => lv_iload_n hC.1 hC.2.1 d rfl (xL_at hl hL) (kk H locs ls h0 hP hS hl)
theorem r_iload (hC : xC X G cc Ts own nL R) {k : Nat} {x : Int32} (d : decode cc pc = .ok (.iload k, 2)) (hL : L[k]? = some (some (.int x))) (kk : xg X G cs μ I P L (pc + 2) (.int x :: st)) : xg X G cs μ I P L (pc) (st) := fun H locs ls h0 hP hS hl => lv_iload hC.1 hC.2.1 d (xL_at hl hL) (kk H locs ls h0 hP hS hl)
theorem r_aload_n (hC : xC X G cc Ts own nL R) {k : Fin 4} {x : Nat} (d : decode cc pc = .ok (.aload_n k, 1)) (hL : L[(k : Nat)]? = some (some (.ref x))) (kk : xg X G cs μ I P L (pc + 1) (.ref x :: st)) : xg X G cs μ I P L (pc) (st) := fun H locs ls h0 hP hS hl => lv_aload_n hC.1 hC.2.1 d rfl (xL_at hl hL) (kk H locs ls h0 hP hS hl)
theorem r_aload (hC : xC X G cc Ts own nL R) {k : Nat} {x : Nat} (d : decode cc pc = .ok (.aload k, 2)) (hL : L[k]? = some (some (.ref x))) (kk : xg X G cs μ I P L (pc + 2) (.ref x :: st)) : xg X G cs μ I P L (pc) (st) := fun H locs ls h0 hP hS hl => lv_aload hC.1 hC.2.1 d (xL_at hl hL) (kk H locs ls h0 hP hS hl)
theorem r_lload_n (hC : xC X G cc Ts own nL R) {k : Fin 4} {x : Int64} (d : decode cc pc = .ok (.lload_n k, 1)) (hL : L[(k : Nat)]? = some (some (.long x))) (kk : xg X G cs μ I P L (pc + 1) (.long x :: st)) : xg X G cs μ I P L (pc) (st) := fun H locs ls h0 hP hS hl => lv_lload_n hC.1 hC.2.1 d rfl (xL_at hl hL) (kk H locs ls h0 hP hS hl)
theorem r_lload (hC : xC X G cc Ts own nL R) {k : Nat} {x : Int64} (d : decode cc pc = .ok (.lload k, 2)) (hL : L[k]? = some (some (.long x))) (kk : xg X G cs μ I P L (pc + 2) (.long x :: st)) : xg X G cs μ I P L (pc) (st) := fun H locs ls h0 hP hS hl => lv_lload hC.1 hC.2.1 d (xL_at hl hL) (kk H locs ls h0 hP hS hl)
theorem r_fload_n (hC : xC X G cc Ts own nL R) {k : Fin 4} {x : UInt32} (d : decode cc pc = .ok (.fload_n k, 1)) (hL : L[(k : Nat)]? = some (some (.float x))) (kk : xg X G cs μ I P L (pc + 1) (.float x :: st)) : xg X G cs μ I P L (pc) (st) := fun H locs ls h0 hP hS hl => lv_fload_n hC.1 hC.2.1 d rfl (xL_at hl hL) (kk H locs ls h0 hP hS hl)
theorem r_fload (hC : xC X G cc Ts own nL R) {k : Nat} {x : UInt32} (d : decode cc pc = .ok (.fload k, 2)) (hL : L[k]? = some (some (.float x))) (kk : xg X G cs μ I P L (pc + 2) (.float x :: st)) : xg X G cs μ I P L (pc) (st) := fun H locs ls h0 hP hS hl => lv_fload hC.1 hC.2.1 d (xL_at hl hL) (kk H locs ls h0 hP hS hl)
theorem r_istore_n (hC : xC X G cc Ts own nL R) {k : Fin 4} {x : Int32} {L' : List (Option Value)} (d : decode cc pc = .ok (.istore_n k, 1)) (hL : L.set (k : Nat) (some (.int x)) = L') (hk : (k : Nat) < L.length) (h2 : xc2 L (k : Nat) = true) (kk : xg X G cs μ I P L' (pc + 1) (st)) : xg X G cs μ I P L (pc) (.int x :: st) := fun H locs ls h0 hP hS hl => lv_istore_n hC.1 hC.2.1 d rfl hl hk rfl (fun ls1 hl1 => kk H locs ls1 h0 hP hS (by rw [← hL, List.length_set]; exact lv_mono hl1 (xL_store h2)))
theorem r_istore (hC : xC X G cc Ts own nL R) {k : Nat} {x : Int32} {L' : List (Option Value)} (d : decode cc pc = .ok (.istore k, 2)) (hL : L.set (k : Nat) (some (.int x)) = L') (hk : (k : Nat) < L.length) (h2 : xc2 L (k : Nat) = true) (kk : xg X G cs μ I P L' (pc + 2) (st)) : xg X G cs μ I P L (pc) (.int x :: st) := fun H locs ls h0 hP hS hl => lv_istore hC.1 hC.2.1 d hl hk rfl (fun ls1 hl1 => kk H locs ls1 h0 hP hS (by rw [← hL, List.length_set]; exact lv_mono hl1 (xL_store h2)))
theorem r_astore_n (hC : xC X G cc Ts own nL R) {k : Fin 4} {x : Nat} {L' : List (Option Value)} (d : decode cc pc = .ok (.astore_n k, 1)) (hL : L.set (k : Nat) (some (.ref x)) = L') (hk : (k : Nat) < L.length) (h2 : xc2 L (k : Nat) = true) (kk : xg X G cs μ I P L' (pc + 1) (st)) : xg X G cs μ I P L (pc) (.ref x :: st) := fun H locs ls h0 hP hS hl => lv_astore_n hC.1 hC.2.1 d rfl hl hk rfl (fun ls1 hl1 => kk H locs ls1 h0 hP hS (by rw [← hL, List.length_set]; exact lv_mono hl1 (xL_store h2)))
theorem r_astore (hC : xC X G cc Ts own nL R) {k : Nat} {x : Nat} {L' : List (Option Value)} (d : decode cc pc = .ok (.astore k, 2)) (hL : L.set (k : Nat) (some (.ref x)) = L') (hk : (k : Nat) < L.length) (h2 : xc2 L (k : Nat) = true) (kk : xg X G cs μ I P L' (pc + 2) (st)) : xg X G cs μ I P L (pc) (.ref x :: st) := fun H locs ls h0 hP hS hl => lv_astore hC.1 hC.2.1 d hl hk rfl (fun ls1 hl1 => kk H locs ls1 h0 hP hS (by rw [← hL, List.length_set]; exact lv_mono hl1 (xL_store h2)))
theorem r_fstore_n (hC : xC X G cc Ts own nL R) {k : Fin 4} {x : UInt32} {L' : List (Option Value)} (d : decode cc pc = .ok (.fstore_n k, 1)) (hL : L.set (k : Nat) (some (.float x)) = L') (hk : (k : Nat) < L.length) (h2 : xc2 L (k : Nat) = true) (kk : xg X G cs μ I P L' (pc + 1) (st)) : xg X G cs μ I P L (pc) (.float x :: st) := fun H locs ls h0 hP hS hl => lv_fstore_n hC.1 hC.2.1 d rfl hl hk rfl (fun ls1 hl1 => kk H locs ls1 h0 hP hS (by rw [← hL, List.length_set]; exact lv_mono hl1 (xL_store h2)))
theorem r_fstore (hC : xC X G cc Ts own nL R) {k : Nat} {x : UInt32} {L' : List (Option Value)} (d : decode cc pc = .ok (.fstore k, 2)) (hL : L.set (k : Nat) (some (.float x)) = L') (hk : (k : Nat) < L.length) (h2 : xc2 L (k : Nat) = true) (kk : xg X G cs μ I P L' (pc + 2) (st)) : xg X G cs μ I P L (pc) (.float x :: st) := fun H locs ls h0 hP hS hl => lv_fstore hC.1 hC.2.1 d hl hk rfl (fun ls1 hl1 => kk H locs ls1 h0 hP hS (by rw [← hL, List.length_set]; exact lv_mono hl1 (xL_store h2)))
theorem r_lstore (hC : xC X G cc Ts own nL R) {k : Nat} {x : Int64} {L' : List (Option Value)} (d : decode cc pc = .ok (.lstore k, 2)) (hL : (L.set k (some (.long x))).set (k + 1) none = L') (hk : k + 1 < L.length) (h2 : xc2 L k = true) (kk : xg X G cs μ I P L' (pc + 2) (st)) : xg X G cs μ I P L (pc) (.long x :: st) := fun H locs ls h0 hP hS hl => lv_lstore hC.1 hC.2.1 d hl hk rfl (fun ls1 hl1 => kk H locs ls1 h0 hP hS (by rw [← hL, List.length_set, List.length_set]; exact lv_mono hl1 (xL_store2 h2)))
theorem r_iinc (hC : xC X G cc Ts own nL R) {i : Nat} {n : Int} {x v : Int32} {L' : List (Option Value)} (d : decode cc pc = .ok (.iinc i n, 3)) (hx : L[i]? = some (some (.int x))) (hv : Int32.ofInt n = v) (hL : L.set i (some (.int (x + v))) = L') (h2 : xc2 L i = true) (kk : xg X G cs μ I P L' (pc + 3) (st)) : xg X G cs μ I P L (pc) (st) := by
  intro H locs ls h0 hP hS hl
  subst hv
  have hi : i < L.length := (List.getElem?_eq_some_iff.mp hx).1
  obtain ⟨k, hk⟩ := List.getElem?_of_mem ((xL_mem L 0 (i, Value.int x)).mpr ⟨i, by simp, hx⟩)
  exact lv_iinc hC.1 hC.2.1 d hl hk rfl hi rfl (fun ls1 hl1 => kk H locs ls1 h0 hP hS (by rw [← hL, List.length_set]; exact lv_mono hl1 (xL_store h2)))
theorem r_goto (hC : xC X G cc Ts own nL R) {off : Int} {tgt : Nat} (d : decode cc pc = .ok (.goto off, 3)) (ht : (pc : Int) + off = (tgt : Int)) (kk : xg X G cs μ I P L (tgt) (st)) : xg X G cs μ I P L (pc) (st) := fun H locs ls h0 hP hS hl => lv_goto hC.1 hC.2.1 d ht (kk H locs ls h0 hP hS hl)
theorem r_if_eq (hC : xC X G cc Ts own nL R) {x : Int32} {off : Int} {tgt : Nat} (d : decode cc pc = .ok (.ifCond .eq off, 3)) (ht : (pc : Int) + off = (tgt : Int)) (kt : x = 0 → xg X G cs μ I P L (tgt) (st)) (kf : ¬ x = 0 → xg X G cs μ I P L (pc + 3) (st)) : xg X G cs μ I P L (pc) (.int x :: st) := fun H locs ls h0 hP hS hl => lv_if_eq hC.1 hC.2.1 d ht (fun q => kt q H locs ls h0 hP hS hl) (fun q => kf q H locs ls h0 hP hS hl)
theorem r_icmp_eq (hC : xC X G cc Ts own nL R) {x y : Int32} {off : Int} {tgt : Nat} (d : decode cc pc = .ok (.if_icmp .eq off, 3)) (ht : (pc : Int) + off = (tgt : Int)) (kt : x = y → xg X G cs μ I P L (tgt) (st)) (kf : ¬ x = y → xg X G cs μ I P L (pc + 3) (st)) : xg X G cs μ I P L (pc) (.int y :: .int x :: st) := fun H locs ls h0 hP hS hl => lv_icmp_eq hC.1 hC.2.1 d ht (fun q => kt q H locs ls h0 hP hS hl) (fun q => kf q H locs ls h0 hP hS hl)
theorem r_if_ne (hC : xC X G cc Ts own nL R) {x : Int32} {off : Int} {tgt : Nat} (d : decode cc pc = .ok (.ifCond .ne off, 3)) (ht : (pc : Int) + off = (tgt : Int)) (kt : ¬ x = 0 → xg X G cs μ I P L (tgt) (st)) (kf : x = 0 → xg X G cs μ I P L (pc + 3) (st)) : xg X G cs μ I P L (pc) (.int x :: st) := fun H locs ls h0 hP hS hl => lv_if_ne hC.1 hC.2.1 d ht (fun q => kt q H locs ls h0 hP hS hl) (fun q => kf q H locs ls h0 hP hS hl)
theorem r_icmp_ne (hC : xC X G cc Ts own nL R) {x y : Int32} {off : Int} {tgt : Nat} (d : decode cc pc = .ok (.if_icmp .ne off, 3)) (ht : (pc : Int) + off = (tgt : Int)) (kt : ¬ x = y → xg X G cs μ I P L (tgt) (st)) (kf : x = y → xg X G cs μ I P L (pc + 3) (st)) : xg X G cs μ I P L (pc) (.int y :: .int x :: st) := fun H locs ls h0 hP hS hl => lv_icmp_ne hC.1 hC.2.1 d ht (fun q => kt q H locs ls h0 hP hS hl) (fun q => kf q H locs ls h0 hP hS hl)
theorem r_if_lt (hC : xC X G cc Ts own nL R) {x : Int32} {off : Int} {tgt : Nat} (d : decode cc pc = .ok (.ifCond .lt off, 3)) (ht : (pc : Int) + off = (tgt : Int)) (kt : x < 0 → xg X G cs μ I P L (tgt) (st)) (kf : ¬ x < 0 → xg X G cs μ I P L (pc + 3) (st)) : xg X G cs μ I P L (pc) (.int x :: st) := fun H locs ls h0 hP hS hl => lv_if_lt hC.1 hC.2.1 d ht (fun q => kt q H locs ls h0 hP hS hl) (fun q => kf q H locs ls h0 hP hS hl)
theorem r_icmp_lt (hC : xC X G cc Ts own nL R) {x y : Int32} {off : Int} {tgt : Nat} (d : decode cc pc = .ok (.if_icmp .lt off, 3)) (ht : (pc : Int) + off = (tgt : Int)) (kt : x < y → xg X G cs μ I P L (tgt) (st)) (kf : ¬ x < y → xg X G cs μ I P L (pc + 3) (st)) : xg X G cs μ I P L (pc) (.int y :: .int x :: st) := fun H locs ls h0 hP hS hl => lv_icmp_lt hC.1 hC.2.1 d ht (fun q => kt q H locs ls h0 hP hS hl) (fun q => kf q H locs ls h0 hP hS hl)
theorem r_if_ge (hC : xC X G cc Ts own nL R) {x : Int32} {off : Int} {tgt : Nat} (d : decode cc pc = .ok (.ifCond .ge off, 3)) (ht : (pc : Int) + off = (tgt : Int)) (kt : 0 ≤ x → xg X G cs μ I P L (tgt) (st)) (kf : ¬ 0 ≤ x → xg X G cs μ I P L (pc + 3) (st)) : xg X G cs μ I P L (pc) (.int x :: st) := fun H locs ls h0 hP hS hl => lv_if_ge hC.1 hC.2.1 d ht (fun q => kt q H locs ls h0 hP hS hl) (fun q => kf q H locs ls h0 hP hS hl)
theorem r_icmp_ge (hC : xC X G cc Ts own nL R) {x y : Int32} {off : Int} {tgt : Nat} (d : decode cc pc = .ok (.if_icmp .ge off, 3)) (ht : (pc : Int) + off = (tgt : Int)) (kt : y ≤ x → xg X G cs μ I P L (tgt) (st)) (kf : ¬ y ≤ x → xg X G cs μ I P L (pc + 3) (st)) : xg X G cs μ I P L (pc) (.int y :: .int x :: st) := fun H locs ls h0 hP hS hl => lv_icmp_ge hC.1 hC.2.1 d ht (fun q => kt q H locs ls h0 hP hS hl) (fun q => kf q H locs ls h0 hP hS hl)
theorem r_if_gt (hC : xC X G cc Ts own nL R) {x : Int32} {off : Int} {tgt : Nat} (d : decode cc pc = .ok (.ifCond .gt off, 3)) (ht : (pc : Int) + off = (tgt : Int)) (kt : 0 < x → xg X G cs μ I P L (tgt) (st)) (kf : ¬ 0 < x → xg X G cs μ I P L (pc + 3) (st)) : xg X G cs μ I P L (pc) (.int x :: st) := fun H locs ls h0 hP hS hl => lv_if_gt hC.1 hC.2.1 d ht (fun q => kt q H locs ls h0 hP hS hl) (fun q => kf q H locs ls h0 hP hS hl)
theorem r_icmp_gt (hC : xC X G cc Ts own nL R) {x y : Int32} {off : Int} {tgt : Nat} (d : decode cc pc = .ok (.if_icmp .gt off, 3)) (ht : (pc : Int) + off = (tgt : Int)) (kt : y < x → xg X G cs μ I P L (tgt) (st)) (kf : ¬ y < x → xg X G cs μ I P L (pc + 3) (st)) : xg X G cs μ I P L (pc) (.int y :: .int x :: st) := fun H locs ls h0 hP hS hl => lv_icmp_gt hC.1 hC.2.1 d ht (fun q => kt q H locs ls h0 hP hS hl) (fun q => kf q H locs ls h0 hP hS hl)
theorem r_if_le (hC : xC X G cc Ts own nL R) {x : Int32} {off : Int} {tgt : Nat} (d : decode cc pc = .ok (.ifCond .le off, 3)) (ht : (pc : Int) + off = (tgt : Int)) (kt : x ≤ 0 → xg X G cs μ I P L (tgt) (st)) (kf : ¬ x ≤ 0 → xg X G cs μ I P L (pc + 3) (st)) : xg X G cs μ I P L (pc) (.int x :: st) := fun H locs ls h0 hP hS hl => lv_if_le hC.1 hC.2.1 d ht (fun q => kt q H locs ls h0 hP hS hl) (fun q => kf q H locs ls h0 hP hS hl)
theorem r_icmp_le (hC : xC X G cc Ts own nL R) {x y : Int32} {off : Int} {tgt : Nat} (d : decode cc pc = .ok (.if_icmp .le off, 3)) (ht : (pc : Int) + off = (tgt : Int)) (kt : x ≤ y → xg X G cs μ I P L (tgt) (st)) (kf : ¬ x ≤ y → xg X G cs μ I P L (pc + 3) (st)) : xg X G cs μ I P L (pc) (.int y :: .int x :: st) := fun H locs ls h0 hP hS hl => lv_icmp_le hC.1 hC.2.1 d ht (fun q => kt q H locs ls h0 hP hS hl) (fun q => kf q H locs ls h0 hP hS hl)
theorem r_tableOut (hC : xC X G cc Ts own nL R) {dflt lo hi : Int} {offs : Array Int} {len : Nat} {x : Int32} {tgt : Nat} (d : decode cc pc = .ok (.tableswitch dflt lo hi offs, len)) (h : x.toInt < lo ∨ hi < x.toInt) (ht : (pc : Int) + dflt = (tgt : Int)) (kk : xg X G cs μ I P L (tgt) (st)) : xg X G cs μ I P L (pc) (.int x :: st) := fun H locs ls h0 hP hS hl => lv_tableOut hC.1 hC.2.1 d h ht (kk H locs ls h0 hP hS hl)
theorem r_tableIn (hC : xC X G cc Ts own nL R) {dflt lo hi : Int} {offs : Array Int} {len : Nat} {x : Int32} {off : Int} {tgt : Nat} (d : decode cc pc = .ok (.tableswitch dflt lo hi offs, len)) (h1 : ¬ x.toInt < lo) (h2 : ¬ hi < x.toInt) (ho : offs[(x.toInt - lo).toNat]? = some off) (ht : (pc : Int) + off = (tgt : Int)) (kk : xg X G cs μ I P L (tgt) (st)) : xg X G cs μ I P L (pc) (.int x :: st) := fun H locs ls h0 hP hS hl => lv_tableIn hC.1 hC.2.1 d h1 h2 ho ht (kk H locs ls h0 hP hS hl)
theorem r_lookup (hC : xC X G cc Ts own nL R) {dflt : Int} {ps : Array (Int × Int)} {len : Nat} {x : Int32} {off : Int} {tgt : Nat} (d : decode cc pc = .ok (.lookupswitch dflt ps, len)) (hp : (ps.toList.zip (ps.toList.drop 1)).all (fun (a, next) => a.1 < next.1) = true) (ho : Op.lookupswitch.offset ps.toList dflt x.toInt = off) (ht : (pc : Int) + off = (tgt : Int)) (kk : xg X G cs μ I P L (tgt) (st)) : xg X G cs μ I P L (pc) (.int x :: st) := fun H locs ls h0 hP hS hl => lv_lookup hC.1 hC.2.1 d hp ho ht (kk H locs ls h0 hP hS hl)
theorem xret {ret : Option FieldType} {mc ms : Nat} {Ps : xPost} {H : Heap} {locs : List Loc} {v : Option Value} (h0 : xok μ I) (hP : va_P G.1 vwCl (xw G μ I P) H) (hS : va_S (xA G) X.2.2.2.2.1.heap H locs) (hq : Ps v μ I P) (t : State) (ht : t.heap = H) : xQ G Ps X.2.2.2.2.2.2.1 X.2.2.2.2.1 (.returned v) t := by
  subst ht
  exact ⟨⟨v, μ, I, P, rfl, hq, h0, hP⟩, hS.F rfl⟩
theorem r_iret (hC : xC X G cc Ts own nL R) {ty : FieldType} {nm : String} {mc ms : Nat} {Ps : xPost} {v : Int32} (hD : xD X G nm (some ty) mc ms Ps) (hn : narrow ty (.int v) = .int v) (d : decode cc pc = .ok (.ireturn, 1)) (hcs : cs = (mc, ms)) (hq : Ps (some (.int v)) μ I P) : xg X G cs μ I P L (pc) ([.int v]) := by
  intro H locs ls h0 hP hS hl
  subst hcs
  obtain ⟨hr, hlk, -, hQ⟩ := hD
  rw [hQ]
  exact W.zret (ty := ty) hC.1 hC.2.1 hr hn (fun t ht _ => xret (ret := none) (mc := mc) (ms := ms) h0 hP hS hq t ht) hS.2.2 d (hlocks := hlk)
theorem r_vret (hC : xC X G cc Ts own nL R) {nm : String} {mc ms : Nat} {Ps : xPost} (hD : xD X G nm none mc ms Ps) (d : decode cc pc = .ok (.return_, 1)) (hcs : cs = (mc, ms)) (hq : Ps none μ I P) : xg X G cs μ I P L (pc) ([]) := by
  intro H locs ls h0 hP hS hl
  subst hcs
  obtain ⟨hr, hlk, -, hQ⟩ := hD
  rw [hQ]
  exact W.vret hC.1 hC.2.1 hr (fun t ht _ => xret (ret := none) (mc := mc) (ms := ms) h0 hP hS hq t ht) hS.2.2 d (hlocks := hlk)
end XROWS
