/-! cells that are made: the next number, all zero -/
def xn (μ : xM) (c n : Nat) : xM := (μ.1 + 1, fun a => if a = μ.1 + 1 then c else μ.2.1 a, fun a => if a = μ.1 + 1 then n else μ.2.2 a)
def xz {α : Type} (z : α) (f : Nat → Nat → α) (a : Nat) : Nat → Nat → α := fun b j => if b = a then z else f b j
theorem xz_at {α : Type} {z : α} {f : Nat → Nat → α} {a : Nat} : xz z f a a = fun _ => z := by funext j; simp [xz]
theorem xz_o {α : Type} {z : α} {f : Nat → Nat → α} {a b : Nat} (h : b ≠ a) : xz z f a b = f b := by funext j; simp [xz, h]
theorem xn_k {μ : xM} {c n : Nat} : (xn μ c n).2.1 (μ.1 + 1) = c := by simp [xn]
theorem xn_l {μ : xM} {c n : Nat} : (xn μ c n).2.2 (μ.1 + 1) = n := by simp [xn]
theorem xn_ko {μ : xM} {c n a : Nat} (h : a ≠ μ.1 + 1) : (xn μ c n).2.1 a = μ.2.1 a := by simp [xn, h]
theorem xn_lo {μ : xM} {c n a : Nat} (h : a ≠ μ.1 + 1) : (xn μ c n).2.2 a = μ.2.2 a := by simp [xn, h]
abbrev xI1 (μ : xM) (I : xI) : xI := xz (0 : Int32) I (μ.1 + 1)
abbrev xP1 (μ : xM) (P : xP) : xP := xz (0 : Nat) P (μ.1 + 1)
theorem xI1_at {μ : xM} {I : xI} : xI1 μ I (μ.1 + 1) = fun _ => 0 := xz_at
theorem xI1_o {μ : xM} {I : xI} {a : Nat} (h : a ≠ μ.1 + 1) : xI1 μ I a = I a := xz_o h
theorem xP1_at {μ : xM} {P : xP} : xP1 μ P (μ.1 + 1) = fun _ => 0 := xz_at
theorem xP1_o {μ : xM} {P : xP} {a : Nat} (h : a ≠ μ.1 + 1) : xP1 μ P a = P a := xz_o h
theorem xe_old {G : xG} {μ : xM} {I : xI} {P : xP} {c n a : Nat} (h : a ≠ μ.1 + 1) : xe G (xn μ c n) (xI1 μ I) (xP1 μ P) a = xe G μ I P a := by
  unfold xe
  rw [xn_ko h, xn_lo h, xI1_o h, xP1_o h]
theorem xw_new {G : xG} {μ : xM} {I : xI} {P : xP} {c n : Nat} {e : va_E} (he : xe G (xn μ c n) (xI1 μ I) (xP1 μ P) (μ.1 + 1) = e) : xw G (xn μ c n) (xI1 μ I) (xP1 μ P) = xw G μ I P ++ [(xZ G + (μ.1 + 1), e)] := by
  unfold xw
  show (List.range (μ.1 + 1)).map (fun k => (xZ G + (k + 1), xe G (xn μ c n) (xI1 μ I) (xP1 μ P) (k + 1))) = _
  rw [List.range_succ, List.map_append]
  congr 1
  · apply List.map_congr_left
    intro k hk
    have hk := List.mem_range.mp hk
    rw [xe_old (by omega)]
  · simp only [List.map_cons, List.map_nil]
    rw [he]
theorem xok_new {μ : xM} {I : xI} {c n : Nat} (h : xok μ I) : xok (xn μ c n) (xI1 μ I) := by
  obtain ⟨⟨h0, h1⟩, h2, h3⟩ := h
  refine ⟨⟨by rw [xn_ko (by omega)]; exact h0, fun a ha => ?_⟩, fun a k hk => ?_, fun a hk => ?_⟩
  · have ha : μ.1 + 1 < a := ha
    rw [xn_ko (by omega)]; exact h1 a (by omega)
  · by_cases e : a = μ.1 + 1
    · subst e; rw [xI1_at]; exact (by decide : fits .char (.int 0) = true)
    · rw [xn_ko e] at hk
      rw [xI1_o e]; exact h2 a k hk
  · by_cases e : a = μ.1 + 1
    · subst e; rw [xI1_at]; exact Or.inl rfl
    · rw [xn_ko e] at hk
      rw [xI1_o e]; exact h3 a hk
section XMAKE
variable {X : xF} {G : xG} {cs : Nat × Nat} {μ : xM} {I : xI} {P : xP} {L : List (Option Value)} {pc : Nat} {st : List Value} {cc : ByteArray} {Ts : List Cond} {own : String} {nL : Nat} {R : Room}
/-- where the heap ends: behind the small heap's last cell -/
theorem xsize {T : State} {H : Heap} {locs : List Loc} (XX : Stand X.1 X.2.1 X.2.2.1 X.2.2.2.1 X.2.2.2.2.1 X.2.2.2.2.2.1 X.2.2.2.2.2.2.1 X.2.2.2.2.2.2.2.1 X.2.2.2.2.2.2.2.2.1 X.2.2.2.2.2.2.2.2.2.1 T locs cs.1 cs.2) (hT : T.heap = H) (hP : va_P G.1 vwCl (xw G μ I P) H) (hS : va_S (xA G) X.2.2.2.2.1.heap H locs) (hz : X.2.2.2.2.1.heap.size + cs.1 = xZ G + 1 + μ.1) (h1 : μ.1 = 0 → cs.1 = 0) : H.size = xZ G + (μ.1 + 1) := by
  have hu : T.heap.size ≤ X.2.2.2.2.1.heap.size + cs.1 := XX.same.2.2.1
  rw [hT] at hu
  rcases Nat.eq_zero_or_pos μ.1 with h | h
  · have := h1 h
    have := hS.1
    omega
  · have hl := (hP (μ.1 - 1) _ (xw_at (by omega))).lt
    have hl : xZ G + (μ.1 - 1 + 1) < H.size := hl
    omega
theorem r_new (hC : xC X G cc Ts own nL R) {C : String} {T : u_T} {N ci kd index : Nat} {fs : List Value} (hin : ∀ w ∈ u_ws C T N, w ∈ Ts) (ty : Nat → FieldType) (hty : ∀ k, k < N → parseFieldDescriptor (T k).2.2.1 = some (ty k)) (hcl : Cond.classLink own index C ∈ Ts) (hinst : Cond.instantiable C N ∈ Ts) (hini : Cond.initialized C ∈ Ts) (hc : vwCl[ci]? = some (C, T, N)) (hfs : ∀ j, j < N → defaultValue (ty j) = vp_V fs j) (he : xe G (xn μ kd 0) (xI1 μ I) (xP1 μ P) (μ.1 + 1) = .inr (ci, fs)) (hz : X.2.2.2.2.1.heap.size + cs.1 = xZ G + 1 + μ.1) (h1 : μ.1 = 0 → cs.1 = 0) (hcs : cs.1 + 1 ≤ R.cells ∧ cs.2 + N ≤ R.slots) (d : decode cc pc = .ok (.new index, 3)) (kk : xg X G (cs.1 + 1, cs.2 + N) (xn μ kd 0) (xI1 μ I) (xP1 μ P) L (pc + 3) (.ref (xZ G + (μ.1 + 1)) :: st)) : xg X G cs μ I P L pc st := by
  intro H locs ls h0 hP hS hl T0 hT XX
  obtain ⟨hx, hb, hml, hown, hts, hV, hRR⟩ := hC
  have hsz := xsize XX hT hP hS hz h1
  have hKn := hV.1.1 ci _ hc
  suffices key : W X.1 X.2.1 X.2.2.1 X.2.2.2.1 X.2.2.2.2.1 X.2.2.2.2.2.1 X.2.2.2.2.2.2.1 X.2.2.2.2.2.2.2.1 X.2.2.2.2.2.2.2.2.1 X.2.2.2.2.2.2.2.2.2.1 H locs cs.1 cs.2 X.2.2.2.2.2.2.2.2.2.2 (F0 X.2.2.2.2.2.1 pc ls (st)) from key T0 hT XX
  refine W.newcK hx hb hown (hts _ hcl) (hts _ hinst) (hts _ hini) rfl d (by rw [hRR]; exact hcs.1) (by rw [hRR]; exact hcs.2) hKn.2.1 hsz (fun H1 kC hkC e1 z1 o1 => ?_)
  refine kk H1 locs ls (xok_new h0) ?_ ⟨Nat.le_trans hS.1 (by omega), fun x g1 g2 => (o1 x (by have := hS.1; omega)).trans (hS.2.1 x g1 g2), hS.2.2⟩ hl
  rw [xw_new he]
  refine (hP.kept (fun k x hx => o1 x.1 (by rw [← hsz]; exact (hP k x hx).lt))).app (fun k x hx => ?_)
  have hk1 : k < 1 := (List.getElem?_eq_some_iff.mp hx).1
  rw [show k = 0 by omega] at hx
  cases hx
  exact ⟨_, hc, (u_born ty hts hin hKn hkC e1 hty).to hfs⟩
theorem r_newi (hC : xC X G cc Ts own nL R) {n : Int32} {N : Nat} (harr : Cond.arrayClass .int ∈ Ts) (hn : ¬ n < 0) (hN : n.toNatClampNeg = N) (hbytes : N * componentBytes .int ≤ 536870912) (hz : X.2.2.2.2.1.heap.size + cs.1 = xZ G + 1 + μ.1) (h1 : μ.1 = 0 → cs.1 = 0) (hcs : cs.1 + 1 ≤ R.cells ∧ cs.2 + N ≤ R.slots) (d : decode cc pc = .ok (.newarray .int, 2)) (kk : xg X G (cs.1 + 1, cs.2 + N) (xn μ 7 N) (xI1 μ I) (xP1 μ P) L (pc + 2) (.ref (xZ G + (μ.1 + 1)) :: st)) : xg X G cs μ I P L pc (.int n :: st) := by
  intro H locs ls h0 hP hS hl T0 hT XX
  obtain ⟨hx, hb, hml, hown, hts, hV, hRR⟩ := hC
  have hsz := xsize XX hT hP hS hz h1
  suffices key : W X.1 X.2.1 X.2.2.1 X.2.2.2.1 X.2.2.2.2.1 X.2.2.2.2.2.1 X.2.2.2.2.2.2.1 X.2.2.2.2.2.2.2.1 X.2.2.2.2.2.2.2.2.1 X.2.2.2.2.2.2.2.2.2.1 H locs cs.1 cs.2 X.2.2.2.2.2.2.2.2.2.2 (F0 X.2.2.2.2.2.1 pc ls (.int n :: st)) from key T0 hT XX
  refine va_newaK (atype := .int) hx hb (hts _ harr) rfl d rfl hn hN hbytes (by rw [hRR]; exact hcs.1) (by rw [hRR]; exact hcs.2) hsz (fun H1 cA e1 z1 o1 hAr hNm => ?_)
  have hcA : cA = G.2.1 0 := Option.some.inj (hNm.symm.trans (hV.1.2 0 _ rfl).2)
  subst hcA
  refine kk H1 locs ls (xok_new h0) ?_ ⟨Nat.le_trans hS.1 (by omega), fun x g1 g2 => (o1 x (by have := hS.1; omega)).trans (hS.2.1 x g1 g2), hS.2.2⟩ hl
  rw [xw_new (e := .inl (G.2.1 0, N, .inl (fun _ => 0))) (by rw [xe_iarr xn_k, xn_l, xI1_at])]
  refine (hP.kept (fun k x hx => o1 x.1 (by rw [← hsz]; exact (hP k x hx).lt))).app (fun k x hx => ?_)
  have hk1 : k < 1 := (List.getElem?_eq_some_iff.mp hx).1
  rw [show k = 0 by omega] at hx
  cases hx
  exact e1
theorem r_newc (hC : xC X G cc Ts own nL R) {n : Int32} {N : Nat} (harr : Cond.arrayClass .char ∈ Ts) (hn : ¬ n < 0) (hN : n.toNatClampNeg = N) (hbytes : N * componentBytes .char ≤ 536870912) (hz : X.2.2.2.2.1.heap.size + cs.1 = xZ G + 1 + μ.1) (h1 : μ.1 = 0 → cs.1 = 0) (hcs : cs.1 + 1 ≤ R.cells ∧ cs.2 + N ≤ R.slots) (d : decode cc pc = .ok (.newarray .char, 2)) (kk : xg X G (cs.1 + 1, cs.2 + N) (xn μ 8 N) (xI1 μ I) (xP1 μ P) L (pc + 2) (.ref (xZ G + (μ.1 + 1)) :: st)) : xg X G cs μ I P L pc (.int n :: st) := by
  intro H locs ls h0 hP hS hl T0 hT XX
  obtain ⟨hx, hb, hml, hown, hts, hV, hRR⟩ := hC
  have hsz := xsize XX hT hP hS hz h1
  suffices key : W X.1 X.2.1 X.2.2.1 X.2.2.2.1 X.2.2.2.2.1 X.2.2.2.2.2.1 X.2.2.2.2.2.2.1 X.2.2.2.2.2.2.2.1 X.2.2.2.2.2.2.2.2.1 X.2.2.2.2.2.2.2.2.2.1 H locs cs.1 cs.2 X.2.2.2.2.2.2.2.2.2.2 (F0 X.2.2.2.2.2.1 pc ls (.int n :: st)) from key T0 hT XX
  refine va_newaK (atype := .char) hx hb (hts _ harr) rfl d rfl hn hN hbytes (by rw [hRR]; exact hcs.1) (by rw [hRR]; exact hcs.2) hsz (fun H1 cA e1 z1 o1 hAr hNm => ?_)
  have hcA : cA = G.2.1 1 := Option.some.inj (hNm.symm.trans (hV.1.2 1 _ rfl).2)
  subst hcA
  refine kk H1 locs ls (xok_new h0) ?_ ⟨Nat.le_trans hS.1 (by omega), fun x g1 g2 => (o1 x (by have := hS.1; omega)).trans (hS.2.1 x g1 g2), hS.2.2⟩ hl
  rw [xw_new (e := .inl (G.2.1 1, N, .inl (fun _ => 0))) (by rw [xe_carr xn_k, xn_l, xI1_at])]
  refine (hP.kept (fun k x hx => o1 x.1 (by rw [← hsz]; exact (hP k x hx).lt))).app (fun k x hx => ?_)
  have hk1 : k < 1 := (List.getElem?_eq_some_iff.mp hx).1
  rw [show k = 0 by omega] at hx
  cases hx
  exact e1
theorem r_newq (hC : xC X G cc Ts own nL R) {C : String} {n : Int32} {N kd t0 index : Nat} (hcl : Cond.classLink own index C ∈ Ts) (hover : xN G X.2.2.2.2.1 → va_AO C X.2.2.2.2.1) (ht : (xT G)[t0]? = some (G.2.1 t0, .object C)) (he : xe G (xn μ kd N) (xI1 μ I) (xP1 μ P) (μ.1 + 1) = .inl (G.2.1 t0, N, .inr (.inr (.inr (.inr (fun _ => none)))))) (hn : ¬ n < 0) (hN : n.toNatClampNeg = N) (hbytes : N * 4 ≤ 536870912) (hz : X.2.2.2.2.1.heap.size + cs.1 = xZ G + 1 + μ.1) (h1 : μ.1 = 0 → cs.1 = 0) (hcs : cs.1 + 1 ≤ R.cells ∧ cs.2 + N ≤ R.slots) (d : decode cc pc = .ok (.anewarray index, 3)) (kk : xg X G (cs.1 + 1, cs.2 + N) (xn μ kd N) (xI1 μ I) (xP1 μ P) L (pc + 3) (.ref (xZ G + (μ.1 + 1)) :: st)) : xg X G cs μ I P L pc (.int n :: st) := by
  intro H locs ls h0 hP hS hl T0 hT XX
  subst hN
  obtain ⟨hx, hb, hml, hown, hts, hV, hRR⟩ := hC
  have hsz := xsize XX hT hP hS hz h1
  suffices key : W X.1 X.2.1 X.2.2.1 X.2.2.2.1 X.2.2.2.2.1 X.2.2.2.2.2.1 X.2.2.2.2.2.2.1 X.2.2.2.2.2.2.2.1 X.2.2.2.2.2.2.2.2.1 X.2.2.2.2.2.2.2.2.2.1 H locs cs.1 cs.2 X.2.2.2.2.2.2.2.2.2.2 (F0 X.2.2.2.2.2.1 pc ls (.int n :: st)) from key T0 hT XX
  refine W.anew hx hb hown (hts _ hcl) (va_AO.use (hover hV.2.1)) rfl d rfl hn hbytes (by rw [hRR]; exact hcs.1) (by rw [hRR]; exact hcs.2) (fun cA kA comp f1 f2 f3 f4 => ?_)
  have hcA : cA = G.2.1 t0 := by
    obtain ⟨kA', comp', -, -, -, h2⟩ := (hV.1.2 t0 _ ht).2
    exact Option.some.inj (f1.symm.trans h2)
  subst hcA
  rw [hsz]
  generalize hH1 : H.push ({ cls := G.2.1 t0, slots := Array.replicate n.toNatClampNeg .null, vm := .none } : Cell) = H1
  have z1 : H1.size = H.size + 1 := by rw [← hH1, Array.size_push]
  have e1 : H1[xZ G + (μ.1 + 1)]? = some (arrV (G.2.1 t0) n.toNatClampNeg (fun _ => .null)) := by rw [← hH1, ← hsz, Array.getElem?_push_size, ← arrV_new]
  have o1 : ∀ q : Nat, q < H.size → H1[q]? = H[q]? := fun q hq => by rw [← hH1, Array.getElem?_push, if_neg (Nat.ne_of_lt hq)]
  refine kk H1 locs ls (xok_new h0) ?_ ⟨Nat.le_trans hS.1 (by omega), fun x g1 g2 => (o1 x (by have := hS.1; omega)).trans (hS.2.1 x g1 g2), hS.2.2⟩ hl
  rw [xw_new he]
  refine (hP.kept (fun k x hx => o1 x.1 (hP k x hx).lt)).app (fun k x hx => ?_)
  have hk1 : k < 1 := (List.getElem?_eq_some_iff.mp hx).1
  rw [show k = 0 by omega] at hx
  cases hx
  show H1[_]? = some (vp_cell _ _)
  rw [vp_cell_q]
  exact e1
theorem r_objInit (hC : xC X G cc Ts own nL R) {index a : Nat} (hlink : Cond.methodLink own index objectInit ∈ Ts) (hin : Cond.instanceMethod objectInit ∈ Ts) (hcd : Cond.code objectInit ⟨#[0xb1]⟩ 1 none ∈ Ts) (hR : 1 ≤ R.frames ∧ (st.map fun v => v.category).sum + 12 ≤ R.locals) (hL : L.length = nL) (d : decode cc pc = .ok (.invokespecial index, 3)) (kk : xg X G cs μ I P L (pc + 3) st) : xg X G cs μ I P L pc (.ref a :: st) := by
  intro H locs ls h0 hP hS hl
  obtain ⟨hx, hb, hml, hown, hts, hV, hRR⟩ := hC
  exact W.objInit hx hb hown (hts _ hlink) (hts _ hin) (hts _ hcd) rfl (hl.1.trans (hL.trans hml.symm)) rfl d (by rw [hRR]; exact hR.1) (by rw [hRR]; show 2 * 0 + _ + 12 ≤ _; omega) (kk H locs ls h0 hP hS hl)
theorem r_callI (hC : xC X G cc Ts own nL R) {y : MethodName} {bytes : ByteArray} {maxL n index mc ms a : Nat} {ws ws' : List Cond} {rm : Room} {Ps : xPost} {As rest st0 : List Value} (hM : Ct X.2.1 y ws rm G μ I P (.ref (xZ G + a) :: As) mc ms Ps) (hG : GoodIn Ts ws) (hw : ws = Cond.code y bytes maxL none :: ws') (hrc : rm.cells = mc) (hrs : rm.slots = ms) (hini : Cond.initialized y.cls ∈ Ts) (hlink : Cond.methodLink own index y ∈ Ts) (hins : Cond.instanceMethod y ∈ Ts) (hy1 : y.name = "<init>") (hd : y.cls ≠ "java/lang/invoke/MethodHandle" ∧ y.cls ≠ "java/lang/invoke/VarHandle" ∧ (parseMethodDescriptor y.desc).map (fun d => d.parameters.length) = some n) (hR : rm.frames + 1 ≤ R.frames ∧ 8 + (maxL + 11) + rm.locals ≤ R.locals) (hz : X.2.2.2.2.1.heap.size + cs.1 = xZ G + 1 + μ.1) (h1 : μ.1 = 0 → cs.1 = 0) (hA : As.length = n) (hs : st0 = As.reverse ++ .ref (xZ G + a) :: rest) (hW : (rest.map fun v => v.category).sum ≤ 8) (hL : L.length = nL) (hcs : cs.1 + mc ≤ R.cells ∧ cs.2 + ms ≤ R.slots) (d : decode cc pc = .ok (.invokespecial index, 3)) (kk : ∀ (v : Option Value) (μ' : xM) (I' : xI) (P' : xP), Ps v μ' I' P' → xg X G (cs.1 + mc, cs.2 + ms) μ' I' P' L (pc + 3) (v.toList ++ rest)) : xg X G cs μ I P L pc st0 := by
  refine r_run (mc := mc) (ms := ms) (rest := rest) (Ps := Ps) (av := (Value.ref (xZ G + a) :: As).toArray) (fun H locs ls h0 hP hS hl => ?_) kk
  intro T0 hT XX
  have hsz := xsize XX hT hP hS hz h1
  obtain ⟨hx, hb, hml, hown, hts, hV, hRR⟩ := hC
  exact va_runI (rest := rest) ⟨hx, hb, hml, hown, hts⟩ hM (cwI n hts hG hw hrc hrs (hts _ hini) (hts _ hlink) (hts _ hins) hy1 hd (by rw [hRR]; exact hR)) ⟨xPre.blind, fun U hU hW => ⟨rfl, h0, Or.inr (by rw [hU, hsz]; omega), by rw [hU]; exact hP, xV.call hV hW hS hU⟩⟩ rfl hA (hl.1.trans hL) hs (lv_room hW) d (by rw [hRR]; exact hcs) T0 hT XX
theorem r_callIN (hC : xC X G cc Ts own nL R) {y : MethodName} {bytes : ByteArray} {maxL n index mc ms a : Nat} {ws ws' : List Cond} {rm : Room} {Ps : xPost} {As rest st0 : List Value} {host : String} (hN : xN G X.2.2.2.2.1 → va_Nw (.methodLinkNest own index y host) X.2.2.2.2.1) (hM : Ct X.2.1 y ws rm G μ I P (.ref (xZ G + a) :: As) mc ms Ps) (hG : GoodIn Ts ws) (hw : ws = Cond.code y bytes maxL none :: ws') (hrc : rm.cells = mc) (hrs : rm.slots = ms) (hini : Cond.initialized y.cls ∈ Ts) (hins : Cond.instanceMethod y ∈ Ts) (hy1 : y.name = "<init>") (hd : y.cls ≠ "java/lang/invoke/MethodHandle" ∧ y.cls ≠ "java/lang/invoke/VarHandle" ∧ (parseMethodDescriptor y.desc).map (fun d => d.parameters.length) = some n) (hR : rm.frames + 1 ≤ R.frames ∧ 8 + (maxL + 11) + rm.locals ≤ R.locals) (hz : X.2.2.2.2.1.heap.size + cs.1 = xZ G + 1 + μ.1) (h1 : μ.1 = 0 → cs.1 = 0) (hA : As.length = n) (hs : st0 = As.reverse ++ .ref (xZ G + a) :: rest) (hW : (rest.map fun v => v.category).sum ≤ 8) (hL : L.length = nL) (hcs : cs.1 + mc ≤ R.cells ∧ cs.2 + ms ≤ R.slots) (d : decode cc pc = .ok (.invokespecial index, 3)) (kk : ∀ (v : Option Value) (μ' : xM) (I' : xI) (P' : xP), Ps v μ' I' P' → xg X G (cs.1 + mc, cs.2 + ms) μ' I' P' L (pc + 3) (v.toList ++ rest)) : xg X G cs μ I P L pc st0 := by
  refine r_run (mc := mc) (ms := ms) (rest := rest) (Ps := Ps) (av := (Value.ref (xZ G + a) :: As).toArray) (fun H locs ls h0 hP hS hl => ?_) kk
  intro T0 hT XX
  have hsz := xsize XX hT hP hS hz h1
  obtain ⟨hx, hb, hml, hown, hts, hV, hRR⟩ := hC
  exact va_runIN (rest := rest) ⟨hx, hb, hml, hown, hts⟩ hM ⟨va_cnB n hts hG hw hrc hrs (hN hV.2.1) (hts _ hini) hd (by rw [hRR]; exact hR), hy1, hts _ hins⟩ ⟨xPre.blind, fun U hU hW => ⟨rfl, h0, Or.inr (by rw [hU, hsz]; omega), by rw [hU]; exact hP, xV.call hV hW hS hU⟩⟩ rfl hA (hl.1.trans hL) hs (lv_room hW) d (by rw [hRR]; exact hcs) T0 hT XX
theorem r_gFIRST (hC : xC X G cc Ts RX0 nL R) (d : decode cc pc = .ok (.getstatic 29, 3)) (kk : xg X G cs μ I P L (pc + 3) (.ref (xX G 0) :: st)) : xg X G cs μ I P L pc st := by
  intro H locs ls h0 hP hS hl
  obtain ⟨hx, hb, hml, hown, hts, hV, hRR⟩ := hC
  exact va_getsN hx hb hV.2.2.1 hS hown (va_Nw.use rfl hV.2.1.1) (fun x h => h) d (kk H locs ls h0 hP hS hl)
/-- FIRST's three values are copied -/
def xfst (I : xI) (b : Nat) : xI := fun c j => if c = b ∧ j < 3 then ([24, 30, 10] : List Int32).getD j 0 else I c j
theorem xfst_o {I : xI} {b c : Nat} (h : c ≠ b) : xfst I b c = I c := by funext j; simp [xfst, h]
theorem xty_fst {μ : xM} {I : xI} {b : Nat} (hk : μ.2.1 b = 7) (h : xty μ I) : xty μ (xfst I b) := by
  refine ⟨fun a k ha => ?_, fun a ha => ?_⟩
  · rw [xfst_o (fun e => by rw [e, hk] at ha; cases ha)]; exact h.1 a k ha
  · rw [xfst_o (fun e => by rw [e, hk] at ha; cases ha)]; exact h.2 a ha
theorem r_copyF (hC : xC X G cc Ts own nL R) {index b : Nat} (hlink : Cond.methodLink own index arraycopyName ∈ Ts) (hnat : Cond.native arraycopyName ∈ Ts) (hstat : Cond.static arraycopyName ∈ Ts) (hini : Cond.initialized "java/lang/System" ∈ Ts) (hk1 : μ.2.1 b = 7) (h5 : μ.2.2 b = 3) (hR : 1 ≤ R.frames ∧ 8 + (nativeFrameWords "java/lang/System" "arraycopy" 5 + 11) ≤ R.locals) (hW : (st.map fun v => v.category).sum ≤ 8) (hL : L.length = nL) (d : decode cc pc = .ok (.invokestatic index, 3)) (kk : xg X G cs μ (xfst I b) P L (pc + 3) st) : xg X G cs μ I P L pc (.int 3 :: .int 0 :: .ref (xZ G + b) :: .int 0 :: .ref (xX G 0) :: st) := by
  intro H locs ls h0 hP hS hl T hT XX
  obtain ⟨hx, hb, hml, hown, hts, hV, hRR⟩ := hC
  obtain ⟨j1, rfl, hj1⟩ := xok_pos (a := b) h0 (by rw [hk1]; decide)
  have hw1 := xw_at (G := G) (I := I) (P := P) hj1
  rw [xe_iarr hk1, h5] at hw1
  obtain ⟨scr, hs1, hs2, hs3, hs4, -, hs5, hs6⟩ := hV.2.2.2.1
  have hc0 : H[xX G 0]? = some scr := by rw [hS.2.1 _ (Array.getElem?_eq_some_iff.mp hs1).1 hs6]; exact hs1
  have hc1 : H[xZ G + (j1 + 1)]? = some (vp_cell (G.2.1 0) (3, .inl (I (j1 + 1)))) := hP j1 _ hw1
  obtain ⟨hs7, k0, hk0, cm0, hkk0⟩ := hs2
  obtain ⟨-, k1, hk1', cm1, hkk1⟩ := (hV.1.2 0 _ rfl).1 3 (fun j => .int (I (j1 + 1) j))
  have z3 : (3 : Int32).toNatClampNeg = 3 := by decide
  have z0 : (0 : Int32).toNatClampNeg = 0 := by decide
  have i3 : (3 : Int32).toInt = 3 := by decide
  have i0 : (0 : Int32).toInt = 0 := by decide
  obtain ⟨vm', X', step⟩ := XX.arraycopy hx hown (hts _ hlink) (hts _ hnat) (hts _ hstat) (hts _ hini) (src := xX G 0) (dst := xZ G + (j1 + 1)) (cs := scr) (cd := vp_cell (G.2.1 0) (3, .inl (I (j1 + 1)))) (srcPos := 0) (destPos := 0) (n := 3) (by rw [hT]; exact hc0) (by rw [hT]; exact hc1)
    hs7 (fun _ h => by cases h) hs3 (fun h => by cases h) hk0 hk1' hkk0 hkk1 (by simp [refKind]) (by decide) (by decide) (by decide)
    (by rw [i0, i3]; omega)
    (by rw [i0, i3]; show ¬ _ > ((arrV (G.2.1 0) 3 (fun j => .int (I (j1 + 1) j))).slots.size : Int); rw [arrV_size]; omega)
    (fun vm₁ _ i hi => by
      rw [z3] at hi
      have e : scr.slots.getD ((0 : Int32).toNatClampNeg + i) .null = .int (([24, 30, 10] : List Int32).getD i 0) := by
        rw [z0, Nat.zero_add, Array.getD_eq_getD_getElem?, hs5 _ hi]
        rfl
      refine ⟨?_, ?_⟩
      · rw [e]
        rfl
      · rw [e]
        exact trivial)
    (g := F0 X.2.2.2.2.2.1 pc ls (.int 3 :: .int 0 :: .ref (xZ G + (j1 + 1)) :: .int 0 :: .ref (xX G 0) :: st)) rfl (by rw [hml]; exact (hl.1.trans hL)) (rest := st) rfl (by rw [hb]; exact d) (by rw [hRR]; exact hR.1) (by rw [hRR]; show 2 * 0 + _ + _ ≤ _; omega)
  have e1 : copied scr (vp_cell (G.2.1 0) (3, .inl (I (j1 + 1)))) 0 0 3 = vp_cell (G.2.1 0) (3, .inl (xfst I (j1 + 1) (j1 + 1))) := by
    have e2 := va_copiedX (n0 := 3) (n1 := 3) (sp := 0) (dp := 0) (n := 3) (fun z => .int z) scr (G.2.1 0) (fun i => ([24, 30, 10] : List Int32).getD i 0) (I (j1 + 1)) hs5 (by decide)
    have e3 : va_cpy (fun i => ([24, 30, 10] : List Int32).getD i 0) (I (j1 + 1)) 0 0 3 = xfst I (j1 + 1) (j1 + 1) := by
      funext i
      simp [va_cpy, xfst]
    rw [e3] at e2
    exact e2
  rw [e1] at X' step
  have hlt : xZ G + (j1 + 1) < H.size := (Array.getElem?_eq_some_iff.mp hc1).1
  generalize hcl : vp_cell (G.2.1 0) (3, .inl (xfst I (j1 + 1) (j1 + 1))) = cl at X' step
  have hheap : ((T.setVm vm').setCell (xZ G + (j1 + 1)) cl).heap = H.setIfInBounds (xZ G + (j1 + 1)) cl := by rw [← hT]; rfl
  have oq : ∀ q : Nat, q ≠ xZ G + (j1 + 1) → (H.setIfInBounds (xZ G + (j1 + 1)) cl)[q]? = H[q]? := fun q hq => by simp [Array.getElem?_setIfInBounds, Ne.symm hq]
  have hA1 : xA G (xZ G + (j1 + 1)) := by show xZ G < _; omega
  have hP1 := hP.set (e := .inl (G.2.1 0, 3, .inl (xfst I (j1 + 1) (j1 + 1)))) xw_D hw1 (H1 := H.setIfInBounds (xZ G + (j1 + 1)) cl) (by show (H.setIfInBounds _ _)[_]? = some (vp_cell _ _); rw [hcl]; simp [Array.getElem?_setIfInBounds, hlt]) oq
  rw [xw_set (I' := xfst I (j1 + 1)) (P' := P) (by rw [xe_iarr hk1, h5]) (fun c hc => xe_congr (xfst_o hc) rfl)] at hP1
  obtain ⟨t, a1, b1⟩ := kk _ _ ls ⟨h0.1, xty_fst hk1 h0.2⟩ hP1 ⟨by simp; exact hS.1, fun q g1 g2 => by
      rw [oq q (fun e => g2 (by rw [e]; exact hA1))]
      exact hS.2.1 q g1 g2, fun q hq => by
      rcases List.mem_append.mp hq with h | h
      · exact hS.2.2 q h
      · obtain ⟨z, -, hz⟩ := List.mem_map.mp h
        rw [← hz]
        exact hA1⟩ hl _ hheap X'
  exact ⟨t, step t a1, b1⟩
end XMAKE
