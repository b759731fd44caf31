section
-- ===== PART A: goes FIRST, ahead of the names: the tables' words, and 'selects' of the private methods out of them =====
/-- a private method of a class that the tables say can be made, by its rows of tables_1 -/
def lw_okq (q : MethodName × Nat) : Prop := (q.1.cls ≠ "java/lang/invoke/MethodHandle" ∧ q.1.cls ≠ "java/lang/invoke/VarHandle") ∧ Cond.instantiable q.1.cls q.2 ∈ tables_1 ∧ Cond.privateMethod q.1 ∈ tables_1 ∧ Cond.instanceMethod q.1 ∈ tables_1
theorem lw_p0 : lw_okq (⟨"HandBlinds", "faultPlace", "()I"⟩, 4) := ⟨⟨by decide +kernel, by decide +kernel⟩, List.mem_of_getElem? (i := 16) (by decide +kernel), List.mem_of_getElem? (i := 168) (by decide +kernel), List.mem_of_getElem? (i := 169) (by decide +kernel)⟩
theorem lw_p1 : lw_okq (⟨"HandBlinds", "faultReason", "(I)I"⟩, 4) := ⟨⟨by decide +kernel, by decide +kernel⟩, List.mem_of_getElem? (i := 16) (by decide +kernel), List.mem_of_getElem? (i := 176) (by decide +kernel), List.mem_of_getElem? (i := 177) (by decide +kernel)⟩
theorem lw_p2 : lw_okq (⟨"HandBlinds", "remember", "()V"⟩, 4) := ⟨⟨by decide +kernel, by decide +kernel⟩, List.mem_of_getElem? (i := 16) (by decide +kernel), List.mem_of_getElem? (i := 204) (by decide +kernel), List.mem_of_getElem? (i := 205) (by decide +kernel)⟩
theorem lw_p3 : lw_okq (⟨"HandBlinds", "faultCause", "(I)I"⟩, 4) := ⟨⟨by decide +kernel, by decide +kernel⟩, List.mem_of_getElem? (i := 16) (by decide +kernel), List.mem_of_getElem? (i := 532) (by decide +kernel), List.mem_of_getElem? (i := 533) (by decide +kernel)⟩
theorem lw_p4 : lw_okq (⟨"HandBlindsModel", "addsAll", "()Z"⟩, 13) := ⟨⟨by decide +kernel, by decide +kernel⟩, List.mem_of_getElem? (i := 536) (by decide +kernel), List.mem_of_getElem? (i := 593) (by decide +kernel), List.mem_of_getElem? (i := 594) (by decide +kernel)⟩
theorem lw_p5 : lw_okq (⟨"HandBlindsModel", "adds", "()Z"⟩, 13) := ⟨⟨by decide +kernel, by decide +kernel⟩, List.mem_of_getElem? (i := 536) (by decide +kernel), List.mem_of_getElem? (i := 597) (by decide +kernel), List.mem_of_getElem? (i := 598) (by decide +kernel)⟩
theorem lw_p6 : lw_okq (⟨"HandBlindsModel", "isFormed", "()Z"⟩, 13) := ⟨⟨by decide +kernel, by decide +kernel⟩, List.mem_of_getElem? (i := 536) (by decide +kernel), List.mem_of_getElem? (i := 601) (by decide +kernel), List.mem_of_getElem? (i := 602) (by decide +kernel)⟩
theorem lw_p7 : lw_okq (⟨"HandBlindsModel", "isEnd", "()Z"⟩, 13) := ⟨⟨by decide +kernel, by decide +kernel⟩, List.mem_of_getElem? (i := 536) (by decide +kernel), List.mem_of_getElem? (i := 605) (by decide +kernel), List.mem_of_getElem? (i := 606) (by decide +kernel)⟩
theorem lw_p8 : lw_okq (⟨"HandBlindsModel", "mayStand", "()Z"⟩, 13) := ⟨⟨by decide +kernel, by decide +kernel⟩, List.mem_of_getElem? (i := 536) (by decide +kernel), List.mem_of_getElem? (i := 609) (by decide +kernel), List.mem_of_getElem? (i := 610) (by decide +kernel)⟩
theorem lw_p9 : lw_okq (⟨"HandBlindsModel", "fails", "(II)Z"⟩, 13) := ⟨⟨by decide +kernel, by decide +kernel⟩, List.mem_of_getElem? (i := 536) (by decide +kernel), List.mem_of_getElem? (i := 613) (by decide +kernel), List.mem_of_getElem? (i := 614) (by decide +kernel)⟩
theorem lw_p10 : lw_okq (⟨"HandBlindsModel", "squeezed", "(I)I"⟩, 13) := ⟨⟨by decide +kernel, by decide +kernel⟩, List.mem_of_getElem? (i := 536) (by decide +kernel), List.mem_of_getElem? (i := 620) (by decide +kernel), List.mem_of_getElem? (i := 621) (by decide +kernel)⟩
theorem lw_p11 : lw_okq (⟨"HandBlindsModel", "sets", "(III)V"⟩, 13) := ⟨⟨by decide +kernel, by decide +kernel⟩, List.mem_of_getElem? (i := 536) (by decide +kernel), List.mem_of_getElem? (i := 624) (by decide +kernel), List.mem_of_getElem? (i := 625) (by decide +kernel)⟩
theorem lw_p12 : lw_okq (⟨"HandBlindsModel", "changes", "()V"⟩, 13) := ⟨⟨by decide +kernel, by decide +kernel⟩, List.mem_of_getElem? (i := 536) (by decide +kernel), List.mem_of_getElem? (i := 634) (by decide +kernel), List.mem_of_getElem? (i := 635) (by decide +kernel)⟩
theorem lw_p13 : lw_okq (⟨"HandBlindsModel", "isRow", "(I)Z"⟩, 13) := ⟨⟨by decide +kernel, by decide +kernel⟩, List.mem_of_getElem? (i := 536) (by decide +kernel), List.mem_of_getElem? (i := 642) (by decide +kernel), List.mem_of_getElem? (i := 643) (by decide +kernel)⟩
theorem lw_p14 : lw_okq (⟨"HandBlindsModel", "ofRoute", "(II)I"⟩, 13) := ⟨⟨by decide +kernel, by decide +kernel⟩, List.mem_of_getElem? (i := 536) (by decide +kernel), List.mem_of_getElem? (i := 646) (by decide +kernel), List.mem_of_getElem? (i := 647) (by decide +kernel)⟩
theorem lw_p15 : lw_okq (⟨"HandBlindsModel", "of", "(II)I"⟩, 13) := ⟨⟨by decide +kernel, by decide +kernel⟩, List.mem_of_getElem? (i := 536) (by decide +kernel), List.mem_of_getElem? (i := 657) (by decide +kernel), List.mem_of_getElem? (i := 658) (by decide +kernel)⟩
def lw_privs_1 : List (MethodName × Nat) := [(⟨"HandBlinds", "faultPlace", "()I"⟩, 4), (⟨"HandBlinds", "faultReason", "(I)I"⟩, 4), (⟨"HandBlinds", "remember", "()V"⟩, 4), (⟨"HandBlinds", "faultCause", "(I)I"⟩, 4), (⟨"HandBlindsModel", "addsAll", "()Z"⟩, 13), (⟨"HandBlindsModel", "adds", "()Z"⟩, 13), (⟨"HandBlindsModel", "isFormed", "()Z"⟩, 13), (⟨"HandBlindsModel", "isEnd", "()Z"⟩, 13), (⟨"HandBlindsModel", "mayStand", "()Z"⟩, 13), (⟨"HandBlindsModel", "fails", "(II)Z"⟩, 13), (⟨"HandBlindsModel", "squeezed", "(I)I"⟩, 13), (⟨"HandBlindsModel", "sets", "(III)V"⟩, 13), (⟨"HandBlindsModel", "changes", "()V"⟩, 13), (⟨"HandBlindsModel", "isRow", "(I)Z"⟩, 13), (⟨"HandBlindsModel", "ofRoute", "(II)I"⟩, 13), (⟨"HandBlindsModel", "of", "(II)I"⟩, 13)]
theorem lw_r1 : ∀ q ∈ lw_privs_1, lw_okq q := List.forall_mem_cons.mpr ⟨lw_p0, List.forall_mem_cons.mpr ⟨lw_p1, List.forall_mem_cons.mpr ⟨lw_p2, List.forall_mem_cons.mpr ⟨lw_p3, List.forall_mem_cons.mpr ⟨lw_p4, List.forall_mem_cons.mpr ⟨lw_p5, List.forall_mem_cons.mpr ⟨lw_p6, List.forall_mem_cons.mpr ⟨lw_p7, List.forall_mem_cons.mpr ⟨lw_p8, List.forall_mem_cons.mpr ⟨lw_p9, List.forall_mem_cons.mpr ⟨lw_p10, List.forall_mem_cons.mpr ⟨lw_p11, List.forall_mem_cons.mpr ⟨lw_p12, List.forall_mem_cons.mpr ⟨lw_p13, List.forall_mem_cons.mpr ⟨lw_p14, List.forall_mem_cons.mpr ⟨lw_p15, fun _ h => absurd h List.not_mem_nil⟩⟩⟩⟩⟩⟩⟩⟩⟩⟩⟩⟩⟩⟩⟩⟩
theorem lw_p16 : lw_okq (⟨"HandBlindsModel", "isTorn", "(I)Z"⟩, 13) := ⟨⟨by decide +kernel, by decide +kernel⟩, List.mem_of_getElem? (i := 536) (by decide +kernel), List.mem_of_getElem? (i := 665) (by decide +kernel), List.mem_of_getElem? (i := 666) (by decide +kernel)⟩
theorem lw_p17 : lw_okq (⟨"HandBlindsModel", "mayCrank", "(II)I"⟩, 13) := ⟨⟨by decide +kernel, by decide +kernel⟩, List.mem_of_getElem? (i := 536) (by decide +kernel), List.mem_of_getElem? (i := 673) (by decide +kernel), List.mem_of_getElem? (i := 674) (by decide +kernel)⟩
theorem lw_p18 : lw_okq (⟨"HandBlindsModel", "cranks", "(II)I"⟩, 13) := ⟨⟨by decide +kernel, by decide +kernel⟩, List.mem_of_getElem? (i := 536) (by decide +kernel), List.mem_of_getElem? (i := 677) (by decide +kernel), List.mem_of_getElem? (i := 678) (by decide +kernel)⟩
theorem lw_p19 : lw_okq (⟨"HandBlindsModel", "leaves", "(II)V"⟩, 13) := ⟨⟨by decide +kernel, by decide +kernel⟩, List.mem_of_getElem? (i := 536) (by decide +kernel), List.mem_of_getElem? (i := 681) (by decide +kernel), List.mem_of_getElem? (i := 682) (by decide +kernel)⟩
theorem lw_p20 : lw_okq (⟨"HandBlindsModel", "isRoute", "(I)Z"⟩, 13) := ⟨⟨by decide +kernel, by decide +kernel⟩, List.mem_of_getElem? (i := 536) (by decide +kernel), List.mem_of_getElem? (i := 694) (by decide +kernel), List.mem_of_getElem? (i := 695) (by decide +kernel)⟩
theorem lw_p21 : lw_okq (⟨"HandBlindsModel", "wrongBy", "(I)I"⟩, 13) := ⟨⟨by decide +kernel, by decide +kernel⟩, List.mem_of_getElem? (i := 536) (by decide +kernel), List.mem_of_getElem? (i := 702) (by decide +kernel), List.mem_of_getElem? (i := 703) (by decide +kernel)⟩
theorem lw_p22 : lw_okq (⟨"HandBlindsModel", "kind", "(I)I"⟩, 13) := ⟨⟨by decide +kernel, by decide +kernel⟩, List.mem_of_getElem? (i := 536) (by decide +kernel), List.mem_of_getElem? (i := 706) (by decide +kernel), List.mem_of_getElem? (i := 707) (by decide +kernel)⟩
theorem lw_p23 : lw_okq (⟨"HandBlindsModel", "isName", "(IJ)Z"⟩, 13) := ⟨⟨by decide +kernel, by decide +kernel⟩, List.mem_of_getElem? (i := 536) (by decide +kernel), List.mem_of_getElem? (i := 711) (by decide +kernel), List.mem_of_getElem? (i := 712) (by decide +kernel)⟩
theorem lw_p24 : lw_okq (⟨"HandBlindsModel", "width", "(I)I"⟩, 13) := ⟨⟨by decide +kernel, by decide +kernel⟩, List.mem_of_getElem? (i := 536) (by decide +kernel), List.mem_of_getElem? (i := 718) (by decide +kernel), List.mem_of_getElem? (i := 719) (by decide +kernel)⟩
theorem lw_p25 : lw_okq (⟨"HandBlindsModel", "routesOf", "(I)I"⟩, 13) := ⟨⟨by decide +kernel, by decide +kernel⟩, List.mem_of_getElem? (i := 536) (by decide +kernel), List.mem_of_getElem? (i := 733) (by decide +kernel), List.mem_of_getElem? (i := 734) (by decide +kernel)⟩
theorem lw_p26 : lw_okq (⟨"HandBlindsModel", "tornOnes", "()I"⟩, 13) := ⟨⟨by decide +kernel, by decide +kernel⟩, List.mem_of_getElem? (i := 536) (by decide +kernel), List.mem_of_getElem? (i := 748) (by decide +kernel), List.mem_of_getElem? (i := 749) (by decide +kernel)⟩
theorem lw_p27 : lw_okq (⟨"HandBlindsModel", "widest", "()I"⟩, 13) := ⟨⟨by decide +kernel, by decide +kernel⟩, List.mem_of_getElem? (i := 536) (by decide +kernel), List.mem_of_getElem? (i := 793) (by decide +kernel), List.mem_of_getElem? (i := 794) (by decide +kernel)⟩
def lw_privs_2 : List (MethodName × Nat) := [(⟨"HandBlindsModel", "isTorn", "(I)Z"⟩, 13), (⟨"HandBlindsModel", "mayCrank", "(II)I"⟩, 13), (⟨"HandBlindsModel", "cranks", "(II)I"⟩, 13), (⟨"HandBlindsModel", "leaves", "(II)V"⟩, 13), (⟨"HandBlindsModel", "isRoute", "(I)Z"⟩, 13), (⟨"HandBlindsModel", "wrongBy", "(I)I"⟩, 13), (⟨"HandBlindsModel", "kind", "(I)I"⟩, 13), (⟨"HandBlindsModel", "isName", "(IJ)Z"⟩, 13), (⟨"HandBlindsModel", "width", "(I)I"⟩, 13), (⟨"HandBlindsModel", "routesOf", "(I)I"⟩, 13), (⟨"HandBlindsModel", "tornOnes", "()I"⟩, 13), (⟨"HandBlindsModel", "widest", "()I"⟩, 13)]
theorem lw_r2 : ∀ q ∈ lw_privs_2, lw_okq q := List.forall_mem_cons.mpr ⟨lw_p16, List.forall_mem_cons.mpr ⟨lw_p17, List.forall_mem_cons.mpr ⟨lw_p18, List.forall_mem_cons.mpr ⟨lw_p19, List.forall_mem_cons.mpr ⟨lw_p20, List.forall_mem_cons.mpr ⟨lw_p21, List.forall_mem_cons.mpr ⟨lw_p22, List.forall_mem_cons.mpr ⟨lw_p23, List.forall_mem_cons.mpr ⟨lw_p24, List.forall_mem_cons.mpr ⟨lw_p25, List.forall_mem_cons.mpr ⟨lw_p26, List.forall_mem_cons.mpr ⟨lw_p27, fun _ h => absurd h List.not_mem_nil⟩⟩⟩⟩⟩⟩⟩⟩⟩⟩⟩⟩
def lw_privs : List (MethodName × Nat) := lw_privs_1 ++ (lw_privs_2)
def lw_tbl : List Cond := k2_sels lw_privs ++ tables_1
theorem lw_privs_ok : ∀ q ∈ lw_privs, lw_okq q := by
  show ∀ q ∈ lw_privs_1 ++ (lw_privs_2), lw_okq q
  exact List.forall_mem_append.mpr ⟨lw_r1, lw_r2⟩
/-- the streams that the claim lets the run draw from -/
abbrev lw_cs : List Choice := [Jvm.Choice.named "NaN.bits"]
theorem lw_bits : nanBits ∈ lw_cs := by first | decide | exact List.mem_cons_self | simp [lw_cs, nanBits]
-- ===== end of PART A; then your names; then what follows =====
end
section
/-! ===== BEGIN words of one list among another's, by their places ===== -/
theorem goodIn_r {big : List Cond} (ws : List Cond) (ps : List Nat) (hp : ws = ps.filterMap (fun i => big[i]?)) (h : ws.all goodWord = true) : GoodIn big ws := by
  intro w hw
  have h1 := List.all_eq_true.mp h w hw
  rw [hp] at hw
  obtain ⟨i, -, hi⟩ := List.mem_filterMap.mp hw
  have hm : w ∈ big := by first | exact List.mem_of_getElem? hi | exact List.getElem?_mem hi
  exact ⟨hm, good_of_word h1⟩
theorem goodIn_app {big a b : List Cond} (ha : GoodIn big a) (hb : GoodIn big b) : GoodIn big (a ++ b) := fun w h => (List.mem_append.mp h).elim (ha w) (hb w)
theorem goodIn_ca {big a b : List Cond} {c : Cond} (ha : GoodIn big (c :: a)) (hb : GoodIn big b) : GoodIn big (c :: (a ++ b)) := fun w h => (List.mem_cons.mp h).elim (fun e => ha w (List.mem_cons.mpr (Or.inl e))) (fun h => (List.mem_append.mp h).elim (fun h => ha w (List.mem_cons.mpr (Or.inr h))) (hb w))
theorem goodIn_sub {big ws : List Cond} (hm : ∀ w ∈ ws, w ∈ big) (h : ws.all goodWord = true) : GoodIn big ws := fun w hw => ⟨hm w hw, good_of_word (List.all_eq_true.mp h w hw)⟩
/-! ===== END ===== -/

/-! ===== BEGIN printed: names, fields, word lists, decode rows ===== -/
def RX0 : String := "HandBlinds$Blind"
def TX0 : u_T := fun k => match k with
  | 0 => ("HandBlinds$Blind", "rows", "[LHandBlinds$Row;", true)
  | 1 => ("HandBlinds$Blind", "rowCount", "I", false)
  | 2 => ("HandBlinds$Blind", "shown", "I", false)
  | 3 => ("HandBlinds$Blind", "routes", "[LHandBlinds$Route;", true)
  | 4 => ("HandBlinds$Blind", "routeCount", "I", false)
  | 5 => ("HandBlinds$Blind", "driven", "I", false)
  | 6 => ("HandBlinds$Blind", "settings", "[I", true)
  | 7 => ("HandBlinds$Blind", "tears", "I", false)
  | 8 => ("HandBlinds$Blind", "passed", "I", false)
  | 9 => ("HandBlinds$Blind", "stops", "I", false)
  | _ => ("HandBlinds$Blind", "rightStops", "I", false)
def tyX0 : Nat → FieldType := fun k => match k with
  | 0 => .array (.object "HandBlinds$Row")
  | 1 => .int
  | 2 => .int
  | 3 => .array (.object "HandBlinds$Route")
  | 4 => .int
  | 5 => .int
  | 6 => .array .int
  | 7 => .int
  | 8 => .int
  | 9 => .int
  | _ => .int
abbrev wsX00 : List Cond := u_ws RX0 TX0 11
theorem nmX0 : ∀ a, a < 11 → ∀ b, b < 11 → a ≠ b → (TX0 a).2.1 ≠ (TX0 b).2.1 := by decide +kernel
theorem tyX0_ok : ∀ k, k < 11 → parseFieldDescriptor (TX0 k).2.2.1 = some (tyX0 k) := by decide +kernel
abbrev cX0_init : ByteArray := prog_2_method_1_code
def yX0_init : MethodName := ⟨RX0, "<init>", "()V"⟩
abbrev cX0_become : ByteArray := prog_2_method_2_code
def yX0_become : MethodName := ⟨RX0, "become", "(LHandBlinds$Blind;)V"⟩
abbrev cX0_hasRow : ByteArray := prog_2_method_3_code
def yX0_hasRow : MethodName := ⟨RX0, "hasRow", "(I)Z"⟩
abbrev cX0_hasRoute : ByteArray := prog_2_method_4_code
def yX0_hasRoute : MethodName := ⟨RX0, "hasRoute", "(I)Z"⟩
abbrev cX0_append : ByteArray := prog_2_method_5_code
def yX0_append : MethodName := ⟨RX0, "append", "(LHandBlinds$Text;II)V"⟩
abbrev cX0_remove : ByteArray := prog_2_method_6_code
def yX0_remove : MethodName := ⟨RX0, "remove", "(I)V"⟩
abbrev cX0_exchange : ByteArray := prog_2_method_7_code
def yX0_exchange : MethodName := ⟨RX0, "exchange", "(II)V"⟩
abbrev cX0_appendRoute : ByteArray := prog_2_method_8_code
def yX0_appendRoute : MethodName := ⟨RX0, "appendRoute", "(I)I"⟩
abbrev cX0_routesOf : ByteArray := prog_2_method_9_code
def yX0_routesOf : MethodName := ⟨RX0, "routesOf", "(I)I"⟩
abbrev cX0_tornRows : ByteArray := prog_2_method_10_code
def yX0_tornRows : MethodName := ⟨RX0, "tornRows", "()I"⟩
abbrev cX0_squeezed : ByteArray := prog_2_method_11_code
def yX0_squeezed : MethodName := ⟨RX0, "squeezed", "(I)I"⟩
abbrev cX0_widthOfAll : ByteArray := prog_2_method_12_code
def yX0_widthOfAll : MethodName := ⟨RX0, "widthOfAll", "()I"⟩
abbrev cX0_widest : ByteArray := prog_2_method_13_code
def yX0_widest : MethodName := ⟨RX0, "widest", "()I"⟩
abbrev cX0_rowAfter : ByteArray := prog_2_method_14_code
def yX0_rowAfter : MethodName := ⟨RX0, "rowAfter", "(II)I"⟩
abbrev cX0_isEnd : ByteArray := prog_2_method_15_code
def yX0_isEnd : MethodName := ⟨RX0, "isEnd", "(II)Z"⟩
abbrev cX0_stepsOf : ByteArray := prog_2_method_16_code
def yX0_stepsOf : MethodName := ⟨RX0, "stepsOf", "(I)I"⟩
abbrev cX0_endOf : ByteArray := prog_2_method_17_code
def yX0_endOf : MethodName := ⟨RX0, "endOf", "(II)I"⟩
abbrev cX0_isSkipped : ByteArray := prog_2_method_18_code
def yX0_isSkipped : MethodName := ⟨RX0, "isSkipped", "(II)Z"⟩
abbrev cX0_tearsAt : ByteArray := prog_2_method_19_code
def yX0_tearsAt : MethodName := ⟨RX0, "tearsAt", "(LHandBlinds$Row;II)Z"⟩
abbrev cX0_tearsOf : ByteArray := prog_2_method_20_code
def yX0_tearsOf : MethodName := ⟨RX0, "tearsOf", "(II)I"⟩
abbrev cX0_roll : ByteArray := prog_2_method_21_code
def yX0_roll : MethodName := ⟨RX0, "roll", "(II)V"⟩
abbrev cX0_leave : ByteArray := prog_2_method_22_code
def yX0_leave : MethodName := ⟨RX0, "leave", "(LHandBlinds$Row;II)V"⟩
abbrev cX0_halt : ByteArray := prog_2_method_23_code
def yX0_halt : MethodName := ⟨RX0, "halt", "()I"⟩
abbrev cX0_wrongOf : ByteArray := prog_2_method_24_code
def yX0_wrongOf : MethodName := ⟨RX0, "wrongOf", "(I)I"⟩
abbrev cX0_nearestRight : ByteArray := prog_2_method_25_code
def yX0_nearestRight : MethodName := ⟨RX0, "nearestRight", "()I"⟩
abbrev cX0_legible : ByteArray := prog_2_method_26_code
def yX0_legible : MethodName := ⟨RX0, "legible", "(LHandBlinds$Row;I)I"⟩
def RX1 : String := "HandBlinds$Route"
def TX1 : u_T := fun k => match k with
  | 0 => ("HandBlinds$Route", "rows", "I", false)
  | 1 => ("HandBlinds$Route", "stops", "I", false)
  | _ => ("HandBlinds$Route", "rightStops", "I", false)
def tyX1 : Nat → FieldType := fun k => match k with
  | 0 => .int
  | 1 => .int
  | _ => .int
abbrev wsX10 : List Cond := u_ws RX1 TX1 3
theorem nmX1 : ∀ a, a < 3 → ∀ b, b < 3 → a ≠ b → (TX1 a).2.1 ≠ (TX1 b).2.1 := by decide +kernel
theorem tyX1_ok : ∀ k, k < 3 → parseFieldDescriptor (TX1 k).2.2.1 = some (tyX1 k) := by decide +kernel
abbrev cX1_init : ByteArray := prog_3_method_1_code
def yX1_init : MethodName := ⟨RX1, "<init>", "()V"⟩
abbrev cX1_copyRoute : ByteArray := prog_3_method_2_code
def yX1_copyRoute : MethodName := ⟨RX1, "copyRoute", "(LHandBlinds$Route;)V"⟩
abbrev cX1_owns : ByteArray := prog_3_method_3_code
def yX1_owns : MethodName := ⟨RX1, "owns", "(I)Z"⟩
abbrev cX1_forget : ByteArray := prog_3_method_4_code
def yX1_forget : MethodName := ⟨RX1, "forget", "(I)V"⟩
abbrev cX1_changeAbout : ByteArray := prog_3_method_5_code
def yX1_changeAbout : MethodName := ⟨RX1, "changeAbout", "(II)V"⟩
def RX2 : String := "HandBlinds$Row"
def TX2 : u_T := fun k => match k with
  | 0 => ("HandBlinds$Row", "letters", "[C", true)
  | 1 => ("HandBlinds$Row", "length", "I", false)
  | 2 => ("HandBlinds$Row", "wear", "I", false)
  | _ => ("HandBlinds$Row", "torn", "Z", false)
def tyX2 : Nat → FieldType := fun k => match k with
  | 0 => .array .char
  | 1 => .int
  | 2 => .int
  | _ => .boolean
abbrev wsX20 : List Cond := u_ws RX2 TX2 4
theorem nmX2 : ∀ a, a < 4 → ∀ b, b < 4 → a ≠ b → (TX2 a).2.1 ≠ (TX2 b).2.1 := by decide +kernel
theorem tyX2_ok : ∀ k, k < 4 → parseFieldDescriptor (TX2 k).2.2.1 = some (tyX2 k) := by decide +kernel
abbrev cX2_init : ByteArray := prog_4_method_1_code
def yX2_init : MethodName := ⟨RX2, "<init>", "()V"⟩
abbrev cX2_copyRow : ByteArray := prog_4_method_2_code
def yX2_copyRow : MethodName := ⟨RX2, "copyRow", "(LHandBlinds$Row;)V"⟩
abbrev cX2_begin : ByteArray := prog_4_method_3_code
def yX2_begin : MethodName := ⟨RX2, "begin", "(LHandBlinds$Text;II)V"⟩
abbrev cX2_patch : ByteArray := prog_4_method_4_code
def yX2_patch : MethodName := ⟨RX2, "patch", "()V"⟩
abbrev cX2_width : ByteArray := prog_4_method_5_code
def yX2_width : MethodName := ⟨RX2, "width", "()I"⟩
abbrev cX2_kind : ByteArray := prog_4_method_6_code
def yX2_kind : MethodName := ⟨RX2, "kind", "()I"⟩
abbrev cX2_isNamed : ByteArray := prog_4_method_7_code
def yX2_isNamed : MethodName := ⟨RX2, "isNamed", "(Ljava/lang/String;)Z"⟩
abbrev cX2_sharedStart : ByteArray := prog_4_method_8_code
def yX2_sharedStart : MethodName := ⟨RX2, "sharedStart", "(LHandBlinds$Row;)I"⟩
def RX3 : String := "HandBlinds$Text"
def TX3 : u_T := fun k => match k with
  | 0 => ("HandBlinds$Text", "signs", "[C", true)
  | _ => ("HandBlinds$Text", "length", "I", false)
def tyX3 : Nat → FieldType := fun k => match k with
  | 0 => .array .char
  | _ => .int
abbrev wsX30 : List Cond := u_ws RX3 TX3 2
theorem nmX3 : ∀ a, a < 2 → ∀ b, b < 2 → a ≠ b → (TX3 a).2.1 ≠ (TX3 b).2.1 := by decide +kernel
theorem tyX3_ok : ∀ k, k < 2 → parseFieldDescriptor (TX3 k).2.2.1 = some (tyX3 k) := by decide +kernel
abbrev cX3_init : ByteArray := prog_5_method_1_code
def yX3_init : MethodName := ⟨RX3, "<init>", "()V"⟩
abbrev cX3_append : ByteArray := prog_5_method_2_code
def yX3_append : MethodName := ⟨RX3, "append", "(C)V"⟩
abbrev cX3_namesAhead : ByteArray := prog_5_method_3_code
def yX3_namesAhead : MethodName := ⟨RX3, "namesAhead", "(I)I"⟩
abbrev cX3_endOfName : ByteArray := prog_5_method_4_code
def yX3_endOfName : MethodName := ⟨RX3, "endOfName", "(I)I"⟩
abbrev cX3_breakOf : ByteArray := prog_5_method_5_code
def yX3_breakOf : MethodName := ⟨RX3, "breakOf", "(II)I"⟩
abbrev cX3_fits : ByteArray := prog_5_method_6_code
def yX3_fits : MethodName := ⟨RX3, "fits", "(III)Z"⟩
abbrev cX3_width : ByteArray := prog_5_method_7_code
def yX3_width : MethodName := ⟨RX3, "width", "(II)I"⟩
abbrev cX3_isNameOf : ByteArray := prog_5_method_8_code
def yX3_isNameOf : MethodName := ⟨RX3, "isNameOf", "(LHandBlinds$Row;)Z"⟩
def RX4 : String := "HandBlinds"
def TX4 : u_T := fun k => match k with
  | 0 => ("HandBlinds", "text", "LHandBlinds$Text;", true)
  | 1 => ("HandBlinds", "now", "LHandBlinds$Blind;", true)
  | 2 => ("HandBlinds", "history", "[LHandBlinds$Blind;", true)
  | _ => ("HandBlinds", "states", "I", false)
def tyX4 : Nat → FieldType := fun k => match k with
  | 0 => .object "HandBlinds$Text"
  | 1 => .object "HandBlinds$Blind"
  | 2 => .array (.object "HandBlinds$Blind")
  | _ => .int
abbrev wsX40 : List Cond := u_ws RX4 TX4 4
theorem nmX4 : ∀ a, a < 4 → ∀ b, b < 4 → a ≠ b → (TX4 a).2.1 ≠ (TX4 b).2.1 := by decide +kernel
theorem tyX4_ok : ∀ k, k < 4 → parseFieldDescriptor (TX4 k).2.2.1 = some (tyX4 k) := by decide +kernel
abbrev cX4_init : ByteArray := prog_1_method_1_code
def yX4_init : MethodName := ⟨RX4, "<init>", "()V"⟩
abbrev cX4_add : ByteArray := prog_1_method_2_code
def yX4_add : MethodName := ⟨RX4, "add", "()I"⟩
abbrev cX4_cut : ByteArray := prog_1_method_3_code
def yX4_cut : MethodName := ⟨RX4, "cut", "(I)I"⟩
abbrev cX4_swap : ByteArray := prog_1_method_4_code
def yX4_swap : MethodName := ⟨RX4, "swap", "(II)I"⟩
abbrev cX4_mend : ByteArray := prog_1_method_5_code
def yX4_mend : MethodName := ⟨RX4, "mend", "(I)I"⟩
abbrev cX4_crank : ByteArray := prog_1_method_6_code
def yX4_crank : MethodName := ⟨RX4, "crank", "(II)I"⟩
abbrev cX4_route : ByteArray := prog_1_method_7_code
def yX4_route : MethodName := ⟨RX4, "route", "(I)I"⟩
abbrev cX4_drive : ByteArray := prog_1_method_8_code
def yX4_drive : MethodName := ⟨RX4, "drive", "(I)I"⟩
abbrev cX4_stop : ByteArray := prog_1_method_9_code
def yX4_stop : MethodName := ⟨RX4, "stop", "()I"⟩
abbrev cX4_set : ByteArray := prog_1_method_10_code
def yX4_set : MethodName := ⟨RX4, "set", "(II)I"⟩
abbrev cX4_rowOf : ByteArray := prog_1_method_11_code
def yX4_rowOf : MethodName := ⟨RX4, "rowOf", "(II)I"⟩
abbrev cX4_letter : ByteArray := prog_1_method_12_code
def yX4_letter : MethodName := ⟨RX4, "letter", "(II)I"⟩
abbrev cX4_routeOf : ByteArray := prog_1_method_13_code
def yX4_routeOf : MethodName := ⟨RX4, "routeOf", "(II)I"⟩
abbrev cX4_would : ByteArray := prog_1_method_14_code
def yX4_would : MethodName := ⟨RX4, "would", "(III)I"⟩
abbrev cX4_nearest : ByteArray := prog_1_method_15_code
def yX4_nearest : MethodName := ⟨RX4, "nearest", "(I)I"⟩
abbrev cX4_alike : ByteArray := prog_1_method_16_code
def yX4_alike : MethodName := ⟨RX4, "alike", "(II)I"⟩
abbrev cX4_read : ByteArray := prog_1_method_17_code
def yX4_read : MethodName := ⟨RX4, "read", "(I)I"⟩
abbrev cX4_find : ByteArray := prog_1_method_18_code
def yX4_find : MethodName := ⟨RX4, "find", "()I"⟩
abbrev cX4_mean : ByteArray := prog_1_method_19_code
def yX4_mean : MethodName := ⟨RX4, "mean", "()I"⟩
abbrev cX4_count : ByteArray := prog_1_method_20_code
def yX4_count : MethodName := ⟨RX4, "count", "(I)I"⟩
abbrev cX4_undo : ByteArray := prog_1_method_21_code
def yX4_undo : MethodName := ⟨RX4, "undo", "()I"⟩
abbrev cX4_type : ByteArray := prog_1_method_22_code
def yX4_type : MethodName := ⟨RX4, "type", "(I)I"⟩
abbrev cX4_clearText : ByteArray := prog_1_method_23_code
def yX4_clearText : MethodName := ⟨RX4, "clearText", "()I"⟩
abbrev cX4_fault : ByteArray := prog_1_method_24_code
def yX4_fault : MethodName := ⟨RX4, "fault", "(I)I"⟩
abbrev cX4_isCranking : ByteArray := prog_1_method_25_code
def yX4_isCranking : MethodName := ⟨RX4, "isCranking", "(II)Z"⟩
abbrev cX4_remember : ByteArray := prog_1_method_26_code
def yX4_remember : MethodName := ⟨RX4, "remember", "()V"⟩
abbrev cX4_faultPlace : ByteArray := prog_1_method_27_code
def yX4_faultPlace : MethodName := ⟨RX4, "faultPlace", "()I"⟩
abbrev cX4_faultReason : ByteArray := prog_1_method_28_code
def yX4_faultReason : MethodName := ⟨RX4, "faultReason", "(I)I"⟩
abbrev cX4_faultCause : ByteArray := prog_1_method_29_code
def yX4_faultCause : MethodName := ⟨RX4, "faultCause", "(I)I"⟩
abbrev cX4_letterWidth : ByteArray := prog_1_method_30_code
def yX4_letterWidth : MethodName := ⟨RX4, "letterWidth", "(C)I"⟩
abbrev cX4_floatBits : ByteArray := prog_1_method_31_code
def yX4_floatBits : MethodName := ⟨RX4, "floatBits", "(F)I"⟩
def RX5 : String := "HandBlindsModel"
def TX5 : u_T := fun k => match k with
  | 0 => ("HandBlindsModel", "s", "[I", true)
  | 1 => ("HandBlindsModel", "past", "[I", true)
  | 2 => ("HandBlindsModel", "tried", "[I", true)
  | 3 => ("HandBlindsModel", "pasts", "I", false)
  | 4 => ("HandBlindsModel", "text", "[I", true)
  | 5 => ("HandBlindsModel", "typed", "I", false)
  | 6 => ("HandBlindsModel", "spot", "I", false)
  | 7 => ("HandBlindsModel", "from", "I", false)
  | 8 => ("HandBlindsModel", "reason", "I", false)
  | 9 => ("HandBlindsModel", "cause", "I", false)
  | 10 => ("HandBlindsModel", "names", "I", false)
  | 11 => ("HandBlindsModel", "gone", "I", false)
  | _ => ("HandBlindsModel", "torn", "I", false)
def tyX5 : Nat → FieldType := fun k => match k with
  | 0 => .array .int
  | 1 => .array .int
  | 2 => .array .int
  | 3 => .int
  | 4 => .array .int
  | 5 => .int
  | 6 => .int
  | 7 => .int
  | 8 => .int
  | 9 => .int
  | 10 => .int
  | 11 => .int
  | _ => .int
abbrev wsX50 : List Cond := u_ws RX5 TX5 13
theorem nmX5 : ∀ a, a < 13 → ∀ b, b < 13 → a ≠ b → (TX5 a).2.1 ≠ (TX5 b).2.1 := by decide +kernel
theorem tyX5_ok : ∀ k, k < 13 → parseFieldDescriptor (TX5 k).2.2.1 = some (tyX5 k) := by decide +kernel
abbrev cX5_init : ByteArray := prog_7_method_1_code
def yX5_init : MethodName := ⟨RX5, "<init>", "()V"⟩
abbrev cX5_in : ByteArray := prog_7_method_3_code
def yX5_in : MethodName := ⟨RX5, "in", "(III)Z"⟩
abbrev cX5_copies : ByteArray := prog_7_method_4_code
def yX5_copies : MethodName := ⟨RX5, "copies", "([I[I)V"⟩
abbrev cX5_changes : ByteArray := prog_7_method_5_code
def yX5_changes : MethodName := ⟨RX5, "changes", "()V"⟩
abbrev cX5_ones : ByteArray := prog_7_method_6_code
def yX5_ones : MethodName := ⟨RX5, "ones", "(I)I"⟩
abbrev cX5_isRow : ByteArray := prog_7_method_7_code
def yX5_isRow : MethodName := ⟨RX5, "isRow", "(I)Z"⟩
abbrev cX5_isRoute : ByteArray := prog_7_method_8_code
def yX5_isRoute : MethodName := ⟨RX5, "isRoute", "(I)Z"⟩
abbrev cX5_of : ByteArray := prog_7_method_9_code
def yX5_of : MethodName := ⟨RX5, "of", "(II)I"⟩
abbrev cX5_sets : ByteArray := prog_7_method_10_code
def yX5_sets : MethodName := ⟨RX5, "sets", "(III)V"⟩
abbrev cX5_ofRoute : ByteArray := prog_7_method_11_code
def yX5_ofRoute : MethodName := ⟨RX5, "ofRoute", "(II)I"⟩
abbrev cX5_wide : ByteArray := prog_7_method_12_code
def yX5_wide : MethodName := ⟨RX5, "wide", "(I)I"⟩
abbrev cX5_width : ByteArray := prog_7_method_13_code
def yX5_width : MethodName := ⟨RX5, "width", "(I)I"⟩
abbrev cX5_squeezed : ByteArray := prog_7_method_14_code
def yX5_squeezed : MethodName := ⟨RX5, "squeezed", "(I)I"⟩
abbrev cX5_isName : ByteArray := prog_7_method_15_code
def yX5_isName : MethodName := ⟨RX5, "isName", "(IJ)Z"⟩
abbrev cX5_kind : ByteArray := prog_7_method_16_code
def yX5_kind : MethodName := ⟨RX5, "kind", "(I)I"⟩
abbrev cX5_fails : ByteArray := prog_7_method_17_code
def yX5_fails : MethodName := ⟨RX5, "fails", "(II)Z"⟩
abbrev cX5_isEnd : ByteArray := prog_7_method_18_code
def yX5_isEnd : MethodName := ⟨RX5, "isEnd", "()Z"⟩
abbrev cX5_mayStand : ByteArray := prog_7_method_19_code
def yX5_mayStand : MethodName := ⟨RX5, "mayStand", "()Z"⟩
abbrev cX5_isFormed : ByteArray := prog_7_method_20_code
def yX5_isFormed : MethodName := ⟨RX5, "isFormed", "()Z"⟩
abbrev cX5_adds : ByteArray := prog_7_method_21_code
def yX5_adds : MethodName := ⟨RX5, "adds", "()Z"⟩
abbrev cX5_addsAll : ByteArray := prog_7_method_22_code
def yX5_addsAll : MethodName := ⟨RX5, "addsAll", "()Z"⟩
abbrev cX5_fault : ByteArray := prog_7_method_23_code
def yX5_fault : MethodName := ⟨RX5, "fault", "(I)I"⟩
abbrev cX5_add : ByteArray := prog_7_method_24_code
def yX5_add : MethodName := ⟨RX5, "add", "()I"⟩
abbrev cX5_without : ByteArray := prog_7_method_25_code
def yX5_without : MethodName := ⟨RX5, "without", "(II)I"⟩
abbrev cX5_cut : ByteArray := prog_7_method_26_code
def yX5_cut : MethodName := ⟨RX5, "cut", "(I)I"⟩
abbrev cX5_swap : ByteArray := prog_7_method_27_code
def yX5_swap : MethodName := ⟨RX5, "swap", "(II)I"⟩
abbrev cX5_isTorn : ByteArray := prog_7_method_28_code
def yX5_isTorn : MethodName := ⟨RX5, "isTorn", "(I)Z"⟩
abbrev cX5_mend : ByteArray := prog_7_method_29_code
def yX5_mend : MethodName := ⟨RX5, "mend", "(I)I"⟩
abbrev cX5_leaves : ByteArray := prog_7_method_30_code
def yX5_leaves : MethodName := ⟨RX5, "leaves", "(II)V"⟩
abbrev cX5_cranks : ByteArray := prog_7_method_31_code
def yX5_cranks : MethodName := ⟨RX5, "cranks", "(II)I"⟩
abbrev cX5_mayCrank : ByteArray := prog_7_method_32_code
def yX5_mayCrank : MethodName := ⟨RX5, "mayCrank", "(II)I"⟩
abbrev cX5_crank : ByteArray := prog_7_method_33_code
def yX5_crank : MethodName := ⟨RX5, "crank", "(II)I"⟩
abbrev cX5_route : ByteArray := prog_7_method_34_code
def yX5_route : MethodName := ⟨RX5, "route", "(I)I"⟩
abbrev cX5_drive : ByteArray := prog_7_method_35_code
def yX5_drive : MethodName := ⟨RX5, "drive", "(I)I"⟩
abbrev cX5_wrongBy : ByteArray := prog_7_method_36_code
def yX5_wrongBy : MethodName := ⟨RX5, "wrongBy", "(I)I"⟩
abbrev cX5_stop : ByteArray := prog_7_method_37_code
def yX5_stop : MethodName := ⟨RX5, "stop", "()I"⟩
abbrev cX5_mostOf : ByteArray := prog_7_method_38_code
def yX5_mostOf : MethodName := ⟨RX5, "mostOf", "(I)I"⟩
abbrev cX5_set : ByteArray := prog_7_method_39_code
def yX5_set : MethodName := ⟨RX5, "set", "(II)I"⟩
abbrev cX5_routesOf : ByteArray := prog_7_method_40_code
def yX5_routesOf : MethodName := ⟨RX5, "routesOf", "(I)I"⟩
abbrev cX5_rowOf : ByteArray := prog_7_method_41_code
def yX5_rowOf : MethodName := ⟨RX5, "rowOf", "(II)I"⟩
abbrev cX5_letter : ByteArray := prog_7_method_42_code
def yX5_letter : MethodName := ⟨RX5, "letter", "(II)I"⟩
abbrev cX5_tornOnes : ByteArray := prog_7_method_43_code
def yX5_tornOnes : MethodName := ⟨RX5, "tornOnes", "()I"⟩
abbrev cX5_routeOf : ByteArray := prog_7_method_44_code
def yX5_routeOf : MethodName := ⟨RX5, "routeOf", "(II)I"⟩
abbrev cX5_would : ByteArray := prog_7_method_45_code
def yX5_would : MethodName := ⟨RX5, "would", "(III)I"⟩
abbrev cX5_nearest : ByteArray := prog_7_method_46_code
def yX5_nearest : MethodName := ⟨RX5, "nearest", "(I)I"⟩
abbrev cX5_alike : ByteArray := prog_7_method_47_code
def yX5_alike : MethodName := ⟨RX5, "alike", "(II)I"⟩
abbrev cX5_read : ByteArray := prog_7_method_48_code
def yX5_read : MethodName := ⟨RX5, "read", "(I)I"⟩
abbrev cX5_find : ByteArray := prog_7_method_49_code
def yX5_find : MethodName := ⟨RX5, "find", "()I"⟩
abbrev cX5_mean : ByteArray := prog_7_method_50_code
def yX5_mean : MethodName := ⟨RX5, "mean", "()I"⟩
abbrev cX5_widest : ByteArray := prog_7_method_51_code
def yX5_widest : MethodName := ⟨RX5, "widest", "()I"⟩
abbrev cX5_told : ByteArray := prog_7_method_52_code
def yX5_told : MethodName := ⟨RX5, "told", "(I)I"⟩
abbrev cX5_count : ByteArray := prog_7_method_53_code
def yX5_count : MethodName := ⟨RX5, "count", "(I)I"⟩
abbrev cX5_undo : ByteArray := prog_7_method_54_code
def yX5_undo : MethodName := ⟨RX5, "undo", "()I"⟩
abbrev cX5_type : ByteArray := prog_7_method_55_code
def yX5_type : MethodName := ⟨RX5, "type", "(I)I"⟩
abbrev cX5_clearText : ByteArray := prog_7_method_56_code
def yX5_clearText : MethodName := ⟨RX5, "clearText", "()I"⟩
def RJxf58ca : String := "java/lang/Float"
def TJxf58ca : u_T := fun k => match k with
  | _ => ("", "", "", false)
def tyJxf58ca : Nat → FieldType := fun k => match k with
  | _ => .int
abbrev wsJxf58ca0 : List Cond := u_ws RJxf58ca TJxf58ca 0
theorem nmJxf58ca : ∀ a, a < 0 → ∀ b, b < 0 → a ≠ b → (TJxf58ca a).2.1 ≠ (TJxf58ca b).2.1 := by decide +kernel
theorem tyJxf58ca_ok : ∀ k, k < 0 → parseFieldDescriptor (TJxf58ca k).2.2.1 = some (tyJxf58ca k) := by decide +kernel
abbrev cJxf58ca_isNaN_12338 : ByteArray := prog_8_method_6_code
def yJxf58ca_isNaN_12338 : MethodName := ⟨RJxf58ca, "isNaN", "(F)Z"⟩
abbrev cJxf58ca_floatToIntBits_5c35a : ByteArray := prog_8_method_24_code
def yJxf58ca_floatToIntBits_5c35a : MethodName := ⟨RJxf58ca, "floatToIntBits", "(F)I"⟩
def RJ6 : String := "java/lang/Integer"
def TJ6 : u_T := fun k => match k with
  | _ => ("", "", "", false)
def tyJ6 : Nat → FieldType := fun k => match k with
  | _ => .int
abbrev wsJ60 : List Cond := u_ws RJ6 TJ6 0
theorem nmJ6 : ∀ a, a < 0 → ∀ b, b < 0 → a ≠ b → (TJ6 a).2.1 ≠ (TJ6 b).2.1 := by decide +kernel
theorem tyJ6_ok : ∀ k, k < 0 → parseFieldDescriptor (TJ6 k).2.2.1 = some (tyJ6 k) := by decide +kernel
abbrev cJ6_bitCount_0f7a4 : ByteArray := prog_9_method_49_code
def yJ6_bitCount_0f7a4 : MethodName := ⟨RJ6, "bitCount", "(I)I"⟩
def RJ9 : String := "java/lang/Math"
def TJ9 : u_T := fun k => match k with
  | _ => ("", "", "", false)
def tyJ9 : Nat → FieldType := fun k => match k with
  | _ => .int
abbrev wsJ90 : List Cond := u_ws RJ9 TJ9 0
theorem nmJ9 : ∀ a, a < 0 → ∀ b, b < 0 → a ≠ b → (TJ9 a).2.1 ≠ (TJ9 b).2.1 := by decide +kernel
theorem tyJ9_ok : ∀ k, k < 0 → parseFieldDescriptor (TJ9 k).2.2.1 = some (tyJ9 k) := by decide +kernel
abbrev cJ9_abs_0f7a4 : ByteArray := prog_10_method_59_code
def yJ9_abs_0f7a4 : MethodName := ⟨RJ9, "abs", "(I)I"⟩
def RJ0 : String := "java/lang/String"
def TJ0 : u_T := fun k => match k with
  | _ => ("", "", "", false)
def tyJ0 : Nat → FieldType := fun k => match k with
  | _ => .int
abbrev wsJ00 : List Cond := u_ws RJ0 TJ0 0
theorem nmJ0 : ∀ a, a < 0 → ∀ b, b < 0 → a ≠ b → (TJ0 a).2.1 ≠ (TJ0 b).2.1 := by decide +kernel
theorem tyJ0_ok : ∀ k, k < 0 → parseFieldDescriptor (TJ0 k).2.2.1 = some (tyJ0 k) := by decide +kernel
abbrev cJ0_length_8abf5 : ByteArray := prog_11_method_54_code
def yJ0_length_8abf5 : MethodName := ⟨RJ0, "length", "()I"⟩
abbrev cJ0_charAt_5068e : ByteArray := prog_11_method_56_code
def yJ0_charAt_5068e : MethodName := ⟨RJ0, "charAt", "(I)C"⟩
abbrev cJ0_coder_7d493 : ByteArray := prog_11_method_152_code
def yJ0_coder_7d493 : MethodName := ⟨RJ0, "coder", "()B"⟩
abbrev cJ0_isLatin1_aae02 : ByteArray := prog_11_method_154_code
def yJ0_isLatin1_aae02 : MethodName := ⟨RJ0, "isLatin1", "()Z"⟩
abbrev cJ0_checkIndex_df160 : ByteArray := prog_11_method_155_code
def yJ0_checkIndex_df160 : MethodName := ⟨RJ0, "checkIndex", "(II)V"⟩
def RJ1 : String := "java/lang/StringLatin1"
def TJ1 : u_T := fun k => match k with
  | _ => ("", "", "", false)
def tyJ1 : Nat → FieldType := fun k => match k with
  | _ => .int
abbrev wsJ10 : List Cond := u_ws RJ1 TJ1 0
theorem nmJ1 : ∀ a, a < 0 → ∀ b, b < 0 → a ≠ b → (TJ1 a).2.1 ≠ (TJ1 b).2.1 := by decide +kernel
theorem tyJ1_ok : ∀ k, k < 0 → parseFieldDescriptor (TJ1 k).2.2.1 = some (tyJ1 k) := by decide +kernel
abbrev cJ1_charAt_3b067 : ByteArray := prog_12_method_2_code
def yJ1_charAt_3b067 : MethodName := ⟨RJ1, "charAt", "([BI)C"⟩
def RJ2 : String := "java/lang/StringUTF16"
def TJ2 : u_T := fun k => match k with
  | _ => ("", "", "", false)
def tyJ2 : Nat → FieldType := fun k => match k with
  | _ => .int
abbrev wsJ20 : List Cond := u_ws RJ2 TJ2 0
theorem nmJ2 : ∀ a, a < 0 → ∀ b, b < 0 → a ≠ b → (TJ2 a).2.1 ≠ (TJ2 b).2.1 := by decide +kernel
theorem tyJ2_ok : ∀ k, k < 0 → parseFieldDescriptor (TJ2 k).2.2.1 = some (tyJ2 k) := by decide +kernel
abbrev cJ2_getChar_3b067 : ByteArray := prog_13_method_5_code
def yJ2_getChar_3b067 : MethodName := ⟨RJ2, "getChar", "([BI)C"⟩
abbrev cJ2_length_9d52b : ByteArray := prog_13_method_6_code
def yJ2_length_9d52b : MethodName := ⟨RJ2, "length", "([B)I"⟩
abbrev cJ2_charAt_3b067 : ByteArray := prog_13_method_83_code
def yJ2_charAt_3b067 : MethodName := ⟨RJ2, "charAt", "([BI)C"⟩
abbrev cJ2_checkIndex_2214a : ByteArray := prog_13_method_91_code
def yJ2_checkIndex_2214a : MethodName := ⟨RJ2, "checkIndex", "(I[B)V"⟩
def RJ10 : String := "java/lang/System"
def TJ10 : u_T := fun k => match k with
  | _ => ("", "", "", false)
def tyJ10 : Nat → FieldType := fun k => match k with
  | _ => .int
abbrev wsJ100 : List Cond := u_ws RJ10 TJ10 0
theorem nmJ10 : ∀ a, a < 0 → ∀ b, b < 0 → a ≠ b → (TJ10 a).2.1 ≠ (TJ10 b).2.1 := by decide +kernel
theorem tyJ10_ok : ∀ k, k < 0 → parseFieldDescriptor (TJ10 k).2.2.1 = some (tyJ10 k) := by decide +kernel
def RJ3 : String := "jdk/internal/util/Preconditions"
def TJ3 : u_T := fun k => match k with
  | _ => ("", "", "", false)
def tyJ3 : Nat → FieldType := fun k => match k with
  | _ => .int
abbrev wsJ30 : List Cond := u_ws RJ3 TJ3 0
theorem nmJ3 : ∀ a, a < 0 → ∀ b, b < 0 → a ≠ b → (TJ3 a).2.1 ≠ (TJ3 b).2.1 := by decide +kernel
theorem tyJ3_ok : ∀ k, k < 0 → parseFieldDescriptor (TJ3 k).2.2.1 = some (tyJ3 k) := by decide +kernel
abbrev cJ3_checkIndex_8e157 : ByteArray := prog_15_method_11_code
def yJ3_checkIndex_8e157 : MethodName := ⟨RJ3, "checkIndex", "(IILjava/util/function/BiFunction;)I"⟩
def RL : String := "HandBlindsLaw"
abbrev cL_law : ByteArray := code
def yL_law : MethodName := ⟨RL, "law", "([I)Z"⟩
def wsX2_init : List Cond := .code yX2_init cX2_init 1 none :: ([.methodLink RX2 3 objectInit, .instanceMethod objectInit, .code objectInit ⟨#[0xb1]⟩ 1 none, .arrayClass .char, .fieldLink RX2 9 "HandBlinds$Row" "letters" "[C"] ++ wsX20)
def wsX1_init : List Cond := .code yX1_init cX1_init 1 none :: ([.methodLink RX1 1 objectInit, .instanceMethod objectInit, .code objectInit ⟨#[0xb1]⟩ 1 none])
def wsX0_init_r1 : List Cond := [Cond.methodLink RX0 3 objectInit, Cond.instanceMethod objectInit, Cond.code objectInit ⟨#[0xb1]⟩ 1 none, Cond.classLink RX0 9 RX2, Cond.fieldLink RX0 11 "HandBlinds$Blind" "rows" "[LHandBlinds$Row;", Cond.instantiable RX2 4, Cond.initialized RX2, Cond.classLink RX0 18 RX1, Cond.fieldLink RX0 20 "HandBlinds$Blind" "routes" "[LHandBlinds$Route;", Cond.instantiable RX1 3, Cond.initialized RX1, Cond.arrayClass .int, Cond.fieldLink RX0 25 "HandBlinds$Blind" "settings" "[I", Cond.methodLink RX0 32 arraycopyName, Cond.native arraycopyName, Cond.static arraycopyName, Cond.initialized "java/lang/System", Cond.fieldLink RX0 38 "HandBlinds$Blind" "driven" "I", Cond.methodLink RX0 17 yX2_init, Cond.instanceMethod yX2_init, Cond.code yX2_init cX2_init 1 none, Cond.methodLink RX2 3 objectInit, Cond.arrayClass .char, Cond.fieldLink RX2 9 "HandBlinds$Row" "letters" "[C"]
def wsX0_init_r2 : List Cond := [Cond.instanceMethod yX1_init, Cond.code yX1_init cX1_init 1 none, Cond.methodLink RX1 1 objectInit]
def wsX0_init : List Cond := .code yX0_init cX0_init 2 none :: ((wsX0_init_r1 ++ wsX0_init_r2) ++ wsX00 ++ wsX20 ++ wsX10)
def wsX2_copyRow : List Cond := .code yX2_copyRow cX2_copyRow 2 none :: ([.fieldLink RX2 9 "HandBlinds$Row" "letters" "[C", .methodLink RX2 15 arraycopyName, .native arraycopyName, .static arraycopyName, .initialized "java/lang/System", .fieldLink RX2 21 "HandBlinds$Row" "length" "I", .fieldLink RX2 25 "HandBlinds$Row" "wear" "I", .fieldLink RX2 28 "HandBlinds$Row" "torn" "Z"] ++ wsX20)
def wsX1_copyRoute : List Cond := .code yX1_copyRoute cX1_copyRoute 2 none :: ([.fieldLink RX1 7 "HandBlinds$Route" "rows" "I", .fieldLink RX1 13 "HandBlinds$Route" "stops" "I", .fieldLink RX1 16 "HandBlinds$Route" "rightStops" "I"] ++ wsX10)
def wsX0_become_r1 : List Cond := [Cond.fieldLink RX0 11 "HandBlinds$Blind" "rows" "[LHandBlinds$Row;", Cond.fieldLink RX0 20 "HandBlinds$Blind" "routes" "[LHandBlinds$Route;", Cond.fieldLink RX0 25 "HandBlinds$Blind" "settings" "[I", Cond.methodLink RX0 32 arraycopyName, Cond.native arraycopyName, Cond.static arraycopyName, Cond.initialized "java/lang/System", Cond.fieldLink RX0 50 "HandBlinds$Blind" "rowCount" "I", Cond.fieldLink RX0 53 "HandBlinds$Blind" "shown" "I", Cond.fieldLink RX0 56 "HandBlinds$Blind" "routeCount" "I", Cond.fieldLink RX0 38 "HandBlinds$Blind" "driven" "I", Cond.fieldLink RX0 59 "HandBlinds$Blind" "tears" "I", Cond.fieldLink RX0 62 "HandBlinds$Blind" "passed" "I", Cond.fieldLink RX0 65 "HandBlinds$Blind" "stops" "I", Cond.fieldLink RX0 68 "HandBlinds$Blind" "rightStops" "I", Cond.methodLink RX0 42 yX2_copyRow, Cond.instanceMethod yX2_copyRow, Cond.selects RX2 yX2_copyRow yX2_copyRow, Cond.initialized RX2, Cond.code yX2_copyRow cX2_copyRow 2 none, Cond.fieldLink RX2 9 "HandBlinds$Row" "letters" "[C", Cond.methodLink RX2 15 arraycopyName, Cond.fieldLink RX2 21 "HandBlinds$Row" "length" "I", Cond.fieldLink RX2 25 "HandBlinds$Row" "wear" "I"]
def wsX0_become_r2 : List Cond := [Cond.fieldLink RX2 28 "HandBlinds$Row" "torn" "Z", Cond.methodLink RX0 46 yX1_copyRoute, Cond.instanceMethod yX1_copyRoute, Cond.selects RX1 yX1_copyRoute yX1_copyRoute, Cond.initialized RX1, Cond.code yX1_copyRoute cX1_copyRoute 2 none, Cond.fieldLink RX1 7 "HandBlinds$Route" "rows" "I", Cond.fieldLink RX1 13 "HandBlinds$Route" "stops" "I", Cond.fieldLink RX1 16 "HandBlinds$Route" "rightStops" "I"]
def wsX0_become : List Cond := .code yX0_become cX0_become 3 none :: ((wsX0_become_r1 ++ wsX0_become_r2) ++ wsX00 ++ wsX20 ++ wsX10)
def wsX0_hasRow : List Cond := .code yX0_hasRow cX0_hasRow 2 (some .boolean) :: ([.fieldLink RX0 50 "HandBlinds$Blind" "rowCount" "I"] ++ wsX00)
def wsX0_hasRoute : List Cond := .code yX0_hasRoute cX0_hasRoute 2 (some .boolean) :: ([.fieldLink RX0 56 "HandBlinds$Blind" "routeCount" "I"] ++ wsX00)
def wsX2_begin : List Cond := .code yX2_begin cX2_begin 5 none :: ([.fieldLink RX2 21 "HandBlinds$Row" "length" "I", .fieldLink RX2 9 "HandBlinds$Row" "letters" "[C", .fieldLink RX2 32 "HandBlinds$Text" "signs" "[C", .fieldLink RX2 25 "HandBlinds$Row" "wear" "I", .fieldLink RX2 28 "HandBlinds$Row" "torn" "Z"] ++ wsX20 ++ wsX30)
def wsX0_append : List Cond := .code yX0_append cX0_append 4 none :: ([.fieldLink RX0 50 "HandBlinds$Blind" "rowCount" "I", .fieldLink RX0 11 "HandBlinds$Blind" "rows" "[LHandBlinds$Row;", .methodLink RX0 71 yX2_begin, .instanceMethod yX2_begin, .selects RX2 yX2_begin yX2_begin, .initialized RX2, .code yX2_begin cX2_begin 5 none, .fieldLink RX2 21 "HandBlinds$Row" "length" "I", .fieldLink RX2 9 "HandBlinds$Row" "letters" "[C", .fieldLink RX2 32 "HandBlinds$Text" "signs" "[C", .fieldLink RX2 25 "HandBlinds$Row" "wear" "I", .fieldLink RX2 28 "HandBlinds$Row" "torn" "Z"] ++ wsX00 ++ wsX20 ++ wsX30)
def wsX1_forget : List Cond := .code yX1_forget cX1_forget 4 none :: ([.fieldLink RX1 7 "HandBlinds$Route" "rows" "I"] ++ wsX10)
def wsX0_remove : List Cond := .code yX0_remove cX0_remove 4 none :: ([.fieldLink RX0 11 "HandBlinds$Blind" "rows" "[LHandBlinds$Row;", .fieldLink RX0 50 "HandBlinds$Blind" "rowCount" "I", .fieldLink RX0 56 "HandBlinds$Blind" "routeCount" "I", .fieldLink RX0 20 "HandBlinds$Blind" "routes" "[LHandBlinds$Route;", .fieldLink RX0 53 "HandBlinds$Blind" "shown" "I", .methodLink RX0 75 yX1_forget, .instanceMethod yX1_forget, .selects RX1 yX1_forget yX1_forget, .initialized RX1, .code yX1_forget cX1_forget 4 none, .fieldLink RX1 7 "HandBlinds$Route" "rows" "I"] ++ wsX00 ++ wsX10)
def wsX1_owns : List Cond := .code yX1_owns cX1_owns 2 (some .boolean) :: ([.fieldLink RX1 7 "HandBlinds$Route" "rows" "I"] ++ wsX10)
def wsX1_changeAbout : List Cond := .code yX1_changeAbout cX1_changeAbout 3 none :: ([.fieldLink RX1 7 "HandBlinds$Route" "rows" "I", .methodLink RX1 19 yX1_owns, .instanceMethod yX1_owns, .selects RX1 yX1_owns yX1_owns, .initialized RX1, .code yX1_owns cX1_owns 2 (some .boolean)] ++ wsX10)
def wsX0_exchange : List Cond := .code yX0_exchange cX0_exchange 5 none :: ([.fieldLink RX0 11 "HandBlinds$Blind" "rows" "[LHandBlinds$Row;", .fieldLink RX0 56 "HandBlinds$Blind" "routeCount" "I", .fieldLink RX0 20 "HandBlinds$Blind" "routes" "[LHandBlinds$Route;", .methodLink RX0 79 yX1_changeAbout, .instanceMethod yX1_changeAbout, .selects RX1 yX1_changeAbout yX1_changeAbout, .initialized RX1, .code yX1_changeAbout cX1_changeAbout 3 none, .fieldLink RX1 7 "HandBlinds$Route" "rows" "I", .methodLink RX1 19 yX1_owns, .instanceMethod yX1_owns, .selects RX1 yX1_owns yX1_owns, .code yX1_owns cX1_owns 2 (some .boolean)] ++ wsX00 ++ wsX10)
def wsX0_appendRoute : List Cond := .code yX0_appendRoute cX0_appendRoute 2 (some .int) :: ([.fieldLink RX0 56 "HandBlinds$Blind" "routeCount" "I", .constant RX0 83 (-1000003), .fieldLink RX0 20 "HandBlinds$Blind" "routes" "[LHandBlinds$Route;", .fieldLink RX0 84 "HandBlinds$Route" "rows" "I", .fieldLink RX0 86 "HandBlinds$Route" "stops" "I", .fieldLink RX0 87 "HandBlinds$Route" "rightStops" "I"] ++ wsX00 ++ wsX10)
def wsX0_routesOf : List Cond := .code yX0_routesOf cX0_routesOf 4 (some .int) :: ([.fieldLink RX0 56 "HandBlinds$Blind" "routeCount" "I", .fieldLink RX0 20 "HandBlinds$Blind" "routes" "[LHandBlinds$Route;", .methodLink RX0 88 yX1_owns, .instanceMethod yX1_owns, .selects RX1 yX1_owns yX1_owns, .initialized RX1, .code yX1_owns cX1_owns 2 (some .boolean), .fieldLink RX1 7 "HandBlinds$Route" "rows" "I"] ++ wsX00 ++ wsX10)
def wsX0_tornRows : List Cond := .code yX0_tornRows cX0_tornRows 3 (some .int) :: ([.fieldLink RX0 50 "HandBlinds$Blind" "rowCount" "I", .fieldLink RX0 11 "HandBlinds$Blind" "rows" "[LHandBlinds$Row;", .fieldLink RX0 92 "HandBlinds$Row" "torn" "Z"] ++ wsX00 ++ wsX20)
def wsX0_squeezed : List Cond := .code yX0_squeezed cX0_squeezed 3 (some .int) :: ([.fieldLink RX0 25 "HandBlinds$Blind" "settings" "[I"] ++ wsX00)
def wsX4_letterWidth : List Cond := .code yX4_letterWidth cX4_letterWidth 1 (some .int) :: ([])
def wsX2_width : List Cond := .code yX2_width cX2_width 3 (some .int) :: ([.fieldLink RX2 21 "HandBlinds$Row" "length" "I", .fieldLink RX2 9 "HandBlinds$Row" "letters" "[C", .static yX4_letterWidth, .initialized RX4, .code yX4_letterWidth cX4_letterWidth 1 (some .int)] ++ wsX20)
def wsX0_widthOfAll : List Cond := .code yX0_widthOfAll cX0_widthOfAll 3 (some .int) :: ([.fieldLink RX0 50 "HandBlinds$Blind" "rowCount" "I", .fieldLink RX0 11 "HandBlinds$Blind" "rows" "[LHandBlinds$Row;", .methodLink RX0 96 yX2_width, .instanceMethod yX2_width, .selects RX2 yX2_width yX2_width, .initialized RX2, .code yX2_width cX2_width 3 (some .int), .fieldLink RX2 21 "HandBlinds$Row" "length" "I", .fieldLink RX2 9 "HandBlinds$Row" "letters" "[C", .static yX4_letterWidth, .initialized RX4, .code yX4_letterWidth cX4_letterWidth 1 (some .int)] ++ wsX00 ++ wsX20)
def wsX0_widest : List Cond := .code yX0_widest cX0_widest 3 (some .int) :: ([.fieldLink RX0 50 "HandBlinds$Blind" "rowCount" "I", .fieldLink RX0 11 "HandBlinds$Blind" "rows" "[LHandBlinds$Row;", .methodLink RX0 96 yX2_width, .instanceMethod yX2_width, .selects RX2 yX2_width yX2_width, .initialized RX2, .code yX2_width cX2_width 3 (some .int), .fieldLink RX2 21 "HandBlinds$Row" "length" "I", .fieldLink RX2 9 "HandBlinds$Row" "letters" "[C", .static yX4_letterWidth, .initialized RX4, .code yX4_letterWidth cX4_letterWidth 1 (some .int)] ++ wsX00 ++ wsX20)
def wsX0_rowAfter : List Cond := .code yX0_rowAfter cX0_rowAfter 3 (some .int) :: ([.fieldLink RX0 53 "HandBlinds$Blind" "shown" "I"] ++ wsX00)
def wsX0_isEnd : List Cond := .code yX0_isEnd cX0_isEnd 3 (some .boolean) :: ([.fieldLink RX0 50 "HandBlinds$Blind" "rowCount" "I"] ++ wsX00)
def wsX0_stepsOf : List Cond := .code yX0_stepsOf cX0_stepsOf 5 (some .int) :: ([.methodLink RX0 100 Lib.Math.abs.name, .static Lib.Math.abs.name, .initialized "java/lang/Math", .code Lib.Math.abs.name Lib.Math.abs.code 1 (some .int), .fieldLink RX0 11 "HandBlinds$Blind" "rows" "[LHandBlinds$Row;", .fieldLink RX0 92 "HandBlinds$Row" "torn" "Z", .methodLink RX0 106 yX0_rowAfter, .instanceMethod yX0_rowAfter, .selects RX0 yX0_rowAfter yX0_rowAfter, .initialized RX0, .code yX0_rowAfter cX0_rowAfter 3 (some .int), .fieldLink RX0 53 "HandBlinds$Blind" "shown" "I", .methodLink RX0 110 yX0_isEnd, .instanceMethod yX0_isEnd, .selects RX0 yX0_isEnd yX0_isEnd, .code yX0_isEnd cX0_isEnd 3 (some .boolean), .fieldLink RX0 50 "HandBlinds$Blind" "rowCount" "I"] ++ wsX00 ++ wsX20)
def wsX0_endOf : List Cond := .code yX0_endOf cX0_endOf 3 (some .int) :: ([.methodLink RX0 100 Lib.Math.abs.name, .static Lib.Math.abs.name, .initialized "java/lang/Math", .code Lib.Math.abs.name Lib.Math.abs.code 1 (some .int), .methodLink RX0 106 yX0_rowAfter, .instanceMethod yX0_rowAfter, .selects RX0 yX0_rowAfter yX0_rowAfter, .initialized RX0, .code yX0_rowAfter cX0_rowAfter 3 (some .int), .fieldLink RX0 53 "HandBlinds$Blind" "shown" "I", .methodLink RX0 110 yX0_isEnd, .instanceMethod yX0_isEnd, .selects RX0 yX0_isEnd yX0_isEnd, .code yX0_isEnd cX0_isEnd 3 (some .boolean), .fieldLink RX0 50 "HandBlinds$Blind" "rowCount" "I"] ++ wsX00)
def wsX0_isSkipped : List Cond := .code yX0_isSkipped cX0_isSkipped 3 (some .boolean) :: ([])
def wsX0_tearsAt : List Cond := .code yX0_tearsAt cX0_tearsAt 4 (some .boolean) :: ([.fieldLink RX0 92 "HandBlinds$Row" "torn" "Z", .fieldLink RX0 117 "HandBlinds$Row" "wear" "I", .fieldLink RX0 25 "HandBlinds$Blind" "settings" "[I", .methodLink RX0 114 yX0_isSkipped, .instanceMethod yX0_isSkipped, .selects RX0 yX0_isSkipped yX0_isSkipped, .initialized RX0, .code yX0_isSkipped cX0_isSkipped 3 (some .boolean)] ++ wsX20 ++ wsX00)
def wsX0_tearsOf_r1 : List Cond := [Cond.fieldLink RX0 11 "HandBlinds$Blind" "rows" "[LHandBlinds$Row;", Cond.methodLink RX0 120 yX0_stepsOf, Cond.instanceMethod yX0_stepsOf, Cond.selects RX0 yX0_stepsOf yX0_stepsOf, Cond.initialized RX0, Cond.code yX0_stepsOf cX0_stepsOf 5 (some .int), Cond.methodLink RX0 100 Lib.Math.abs.name, Cond.static Lib.Math.abs.name, Cond.initialized "java/lang/Math", Cond.code Lib.Math.abs.name Lib.Math.abs.code 1 (some .int), Cond.fieldLink RX0 92 "HandBlinds$Row" "torn" "Z", Cond.methodLink RX0 106 yX0_rowAfter, Cond.instanceMethod yX0_rowAfter, Cond.selects RX0 yX0_rowAfter yX0_rowAfter, Cond.code yX0_rowAfter cX0_rowAfter 3 (some .int), Cond.fieldLink RX0 53 "HandBlinds$Blind" "shown" "I", Cond.methodLink RX0 110 yX0_isEnd, Cond.instanceMethod yX0_isEnd, Cond.selects RX0 yX0_isEnd yX0_isEnd, Cond.code yX0_isEnd cX0_isEnd 3 (some .boolean), Cond.fieldLink RX0 50 "HandBlinds$Blind" "rowCount" "I", Cond.methodLink RX0 123 yX0_tearsAt, Cond.instanceMethod yX0_tearsAt, Cond.selects RX0 yX0_tearsAt yX0_tearsAt]
def wsX0_tearsOf_r2 : List Cond := [Cond.code yX0_tearsAt cX0_tearsAt 4 (some .boolean), Cond.fieldLink RX0 117 "HandBlinds$Row" "wear" "I", Cond.fieldLink RX0 25 "HandBlinds$Blind" "settings" "[I", Cond.methodLink RX0 114 yX0_isSkipped, Cond.instanceMethod yX0_isSkipped, Cond.selects RX0 yX0_isSkipped yX0_isSkipped, Cond.code yX0_isSkipped cX0_isSkipped 3 (some .boolean)]
def wsX0_tearsOf : List Cond := .code yX0_tearsOf cX0_tearsOf 6 (some .int) :: ((wsX0_tearsOf_r1 ++ wsX0_tearsOf_r2) ++ wsX00 ++ wsX20)
def wsX0_leave : List Cond := .code yX0_leave cX0_leave 4 none :: ([.fieldLink RX0 92 "HandBlinds$Row" "torn" "Z", .fieldLink RX0 59 "HandBlinds$Blind" "tears" "I", .fieldLink RX0 117 "HandBlinds$Row" "wear" "I", .methodLink RX0 123 yX0_tearsAt, .instanceMethod yX0_tearsAt, .selects RX0 yX0_tearsAt yX0_tearsAt, .initialized RX0, .code yX0_tearsAt cX0_tearsAt 4 (some .boolean), .fieldLink RX0 25 "HandBlinds$Blind" "settings" "[I", .methodLink RX0 114 yX0_isSkipped, .instanceMethod yX0_isSkipped, .selects RX0 yX0_isSkipped yX0_isSkipped, .code yX0_isSkipped cX0_isSkipped 3 (some .boolean)] ++ wsX20 ++ wsX00)
def wsX0_roll_r1 : List Cond := [Cond.fieldLink RX0 11 "HandBlinds$Blind" "rows" "[LHandBlinds$Row;", Cond.fieldLink RX0 62 "HandBlinds$Blind" "passed" "I", Cond.fieldLink RX0 53 "HandBlinds$Blind" "shown" "I", Cond.methodLink RX0 120 yX0_stepsOf, Cond.instanceMethod yX0_stepsOf, Cond.selects RX0 yX0_stepsOf yX0_stepsOf, Cond.initialized RX0, Cond.code yX0_stepsOf cX0_stepsOf 5 (some .int), Cond.methodLink RX0 100 Lib.Math.abs.name, Cond.static Lib.Math.abs.name, Cond.initialized "java/lang/Math", Cond.code Lib.Math.abs.name Lib.Math.abs.code 1 (some .int), Cond.fieldLink RX0 92 "HandBlinds$Row" "torn" "Z", Cond.methodLink RX0 106 yX0_rowAfter, Cond.instanceMethod yX0_rowAfter, Cond.selects RX0 yX0_rowAfter yX0_rowAfter, Cond.code yX0_rowAfter cX0_rowAfter 3 (some .int), Cond.methodLink RX0 110 yX0_isEnd, Cond.instanceMethod yX0_isEnd, Cond.selects RX0 yX0_isEnd yX0_isEnd, Cond.code yX0_isEnd cX0_isEnd 3 (some .boolean), Cond.fieldLink RX0 50 "HandBlinds$Blind" "rowCount" "I", Cond.methodLink RX0 127 yX0_leave, Cond.instanceMethod yX0_leave]
def wsX0_roll_r2 : List Cond := [Cond.selects RX0 yX0_leave yX0_leave, Cond.code yX0_leave cX0_leave 4 none, Cond.fieldLink RX0 59 "HandBlinds$Blind" "tears" "I", Cond.fieldLink RX0 117 "HandBlinds$Row" "wear" "I", Cond.methodLink RX0 123 yX0_tearsAt, Cond.instanceMethod yX0_tearsAt, Cond.selects RX0 yX0_tearsAt yX0_tearsAt, Cond.code yX0_tearsAt cX0_tearsAt 4 (some .boolean), Cond.fieldLink RX0 25 "HandBlinds$Blind" "settings" "[I", Cond.methodLink RX0 114 yX0_isSkipped, Cond.instanceMethod yX0_isSkipped, Cond.selects RX0 yX0_isSkipped yX0_isSkipped, Cond.code yX0_isSkipped cX0_isSkipped 3 (some .boolean)]
def wsX0_roll : List Cond := .code yX0_roll cX0_roll 5 none :: ((wsX0_roll_r1 ++ wsX0_roll_r2) ++ wsX00 ++ wsX20)
def wsJ0_coder_7d493 : List Cond := .code yJ0_coder_7d493 cJ0_coder_7d493 1 (some .byte) :: ([.fieldLink RJ0 38 "java/lang/String" "COMPACT_STRINGS" "Z", .fieldLink RJ0 15 "java/lang/String" "coder" "B"])
def wsJ0_length_8abf5 : List Cond := .code yJ0_length_8abf5 cJ0_length_8abf5 1 (some .int) :: ([.fieldLink RJ0 9 "java/lang/String" "value" "[B", .methodLink RJ0 335 yJ0_coder_7d493, .instanceMethod yJ0_coder_7d493, .selects RJ0 yJ0_coder_7d493 yJ0_coder_7d493, .initialized RJ0, .code yJ0_coder_7d493 cJ0_coder_7d493 1 (some .byte), .fieldLink RJ0 38 "java/lang/String" "COMPACT_STRINGS" "Z", .fieldLink RJ0 15 "java/lang/String" "coder" "B"])
def wsJ0_isLatin1_aae02 : List Cond := .code yJ0_isLatin1_aae02 cJ0_isLatin1_aae02 1 (some .boolean) :: ([.fieldLink RJ0 38 "java/lang/String" "COMPACT_STRINGS" "Z", .fieldLink RJ0 15 "java/lang/String" "coder" "B"])
def wsJ3_checkIndex_8e157 : List Cond := .code yJ3_checkIndex_8e157 cJ3_checkIndex_8e157 3 (some .int) :: ([])
def wsJ0_checkIndex_df160 : List Cond := .code yJ0_checkIndex_df160 cJ0_checkIndex_df160 2 none :: ([.fieldLink RJ0 1053 "jdk/internal/util/Preconditions" "SIOOBE_FORMATTER" "Ljava/util/function/BiFunction;", .methodLink RJ0 1059 yJ3_checkIndex_8e157, .static yJ3_checkIndex_8e157, .initialized RJ3, .code yJ3_checkIndex_8e157 cJ3_checkIndex_8e157 3 (some .int)])
def wsJ1_charAt_3b067 : List Cond := .code yJ1_charAt_3b067 cJ1_charAt_3b067 2 (some .char) :: ([.methodLink RJ1 9 yJ0_checkIndex_df160, .static yJ0_checkIndex_df160, .initialized RJ0, .code yJ0_checkIndex_df160 cJ0_checkIndex_df160 2 none, .fieldLink RJ0 1053 "jdk/internal/util/Preconditions" "SIOOBE_FORMATTER" "Ljava/util/function/BiFunction;", .methodLink RJ0 1059 yJ3_checkIndex_8e157, .static yJ3_checkIndex_8e157, .initialized RJ3, .code yJ3_checkIndex_8e157 cJ3_checkIndex_8e157 3 (some .int)])
def wsJ2_length_9d52b : List Cond := .code yJ2_length_9d52b cJ2_length_9d52b 1 (some .int) :: ([])
def wsJ2_checkIndex_2214a : List Cond := .code yJ2_checkIndex_2214a cJ2_checkIndex_2214a 2 none :: ([.methodLink RJ2 48 yJ2_length_9d52b, .static yJ2_length_9d52b, .initialized RJ2, .code yJ2_length_9d52b cJ2_length_9d52b 1 (some .int), .methodLink RJ2 414 yJ0_checkIndex_df160, .static yJ0_checkIndex_df160, .initialized RJ0, .code yJ0_checkIndex_df160 cJ0_checkIndex_df160 2 none, .fieldLink RJ0 1053 "jdk/internal/util/Preconditions" "SIOOBE_FORMATTER" "Ljava/util/function/BiFunction;", .methodLink RJ0 1059 yJ3_checkIndex_8e157, .static yJ3_checkIndex_8e157, .initialized RJ3, .code yJ3_checkIndex_8e157 cJ3_checkIndex_8e157 3 (some .int)])
def wsJ2_getChar_3b067 : List Cond := .code yJ2_getChar_3b067 cJ2_getChar_3b067 2 (some .char) :: ([.fieldLink RJ2 44 "java/lang/StringUTF16" "$assertionsDisabled" "Z", .fieldLink RJ2 59 "java/lang/StringUTF16" "HI_BYTE_SHIFT" "I", .fieldLink RJ2 63 "java/lang/StringUTF16" "LO_BYTE_SHIFT" "I", .methodLink RJ2 48 yJ2_length_9d52b, .static yJ2_length_9d52b, .initialized RJ2, .code yJ2_length_9d52b cJ2_length_9d52b 1 (some .int)])
def wsJ2_charAt_3b067 : List Cond := .code yJ2_charAt_3b067 cJ2_charAt_3b067 2 (some .char) :: ([.methodLink RJ2 67 yJ2_checkIndex_2214a, .static yJ2_checkIndex_2214a, .initialized RJ2, .code yJ2_checkIndex_2214a cJ2_checkIndex_2214a 2 none, .methodLink RJ2 48 yJ2_length_9d52b, .static yJ2_length_9d52b, .code yJ2_length_9d52b cJ2_length_9d52b 1 (some .int), .methodLink RJ2 414 yJ0_checkIndex_df160, .static yJ0_checkIndex_df160, .initialized RJ0, .code yJ0_checkIndex_df160 cJ0_checkIndex_df160 2 none, .fieldLink RJ0 1053 "jdk/internal/util/Preconditions" "SIOOBE_FORMATTER" "Ljava/util/function/BiFunction;", .methodLink RJ0 1059 yJ3_checkIndex_8e157, .static yJ3_checkIndex_8e157, .initialized RJ3, .code yJ3_checkIndex_8e157 cJ3_checkIndex_8e157 3 (some .int), .methodLink RJ2 71 yJ2_getChar_3b067, .static yJ2_getChar_3b067, .code yJ2_getChar_3b067 cJ2_getChar_3b067 2 (some .char), .fieldLink RJ2 44 "java/lang/StringUTF16" "$assertionsDisabled" "Z", .fieldLink RJ2 59 "java/lang/StringUTF16" "HI_BYTE_SHIFT" "I", .fieldLink RJ2 63 "java/lang/StringUTF16" "LO_BYTE_SHIFT" "I"])
def wsJ0_charAt_5068e_r1 : List Cond := [Cond.fieldLink RJ0 9 "java/lang/String" "value" "[B", Cond.methodLink RJ0 492 yJ0_isLatin1_aae02, Cond.instanceMethod yJ0_isLatin1_aae02, Cond.selects RJ0 yJ0_isLatin1_aae02 yJ0_isLatin1_aae02, Cond.initialized RJ0, Cond.code yJ0_isLatin1_aae02 cJ0_isLatin1_aae02 1 (some .boolean), Cond.fieldLink RJ0 38 "java/lang/String" "COMPACT_STRINGS" "Z", Cond.fieldLink RJ0 15 "java/lang/String" "coder" "B", Cond.methodLink RJ0 495 yJ1_charAt_3b067, Cond.static yJ1_charAt_3b067, Cond.initialized RJ1, Cond.code yJ1_charAt_3b067 cJ1_charAt_3b067 2 (some .char), Cond.methodLink RJ1 9 yJ0_checkIndex_df160, Cond.static yJ0_checkIndex_df160, Cond.code yJ0_checkIndex_df160 cJ0_checkIndex_df160 2 none, Cond.fieldLink RJ0 1053 "jdk/internal/util/Preconditions" "SIOOBE_FORMATTER" "Ljava/util/function/BiFunction;", Cond.methodLink RJ0 1059 yJ3_checkIndex_8e157, Cond.static yJ3_checkIndex_8e157, Cond.initialized RJ3, Cond.code yJ3_checkIndex_8e157 cJ3_checkIndex_8e157 3 (some .int), Cond.methodLink RJ0 498 yJ2_charAt_3b067, Cond.static yJ2_charAt_3b067, Cond.initialized RJ2, Cond.code yJ2_charAt_3b067 cJ2_charAt_3b067 2 (some .char)]
def wsJ0_charAt_5068e_r2 : List Cond := [Cond.methodLink RJ2 67 yJ2_checkIndex_2214a, Cond.static yJ2_checkIndex_2214a, Cond.code yJ2_checkIndex_2214a cJ2_checkIndex_2214a 2 none, Cond.methodLink RJ2 48 yJ2_length_9d52b, Cond.static yJ2_length_9d52b, Cond.code yJ2_length_9d52b cJ2_length_9d52b 1 (some .int), Cond.methodLink RJ2 414 yJ0_checkIndex_df160, Cond.methodLink RJ2 71 yJ2_getChar_3b067, Cond.static yJ2_getChar_3b067, Cond.code yJ2_getChar_3b067 cJ2_getChar_3b067 2 (some .char), Cond.fieldLink RJ2 44 "java/lang/StringUTF16" "$assertionsDisabled" "Z", Cond.fieldLink RJ2 59 "java/lang/StringUTF16" "HI_BYTE_SHIFT" "I", Cond.fieldLink RJ2 63 "java/lang/StringUTF16" "LO_BYTE_SHIFT" "I"]
def wsJ0_charAt_5068e : List Cond := .code yJ0_charAt_5068e cJ0_charAt_5068e 2 (some .char) :: ((wsJ0_charAt_5068e_r1 ++ wsJ0_charAt_5068e_r2))
def wsX2_isNamed_r1 : List Cond := [Cond.fieldLink RX2 21 "HandBlinds$Row" "length" "I", Cond.fieldLink RX2 9 "HandBlinds$Row" "letters" "[C", Cond.methodLink RX2 51 yJ0_length_8abf5, Cond.instanceMethod yJ0_length_8abf5, Cond.selects RJ0 yJ0_length_8abf5 yJ0_length_8abf5, Cond.initialized RJ0, Cond.code yJ0_length_8abf5 cJ0_length_8abf5 1 (some .int), Cond.fieldLink RJ0 9 "java/lang/String" "value" "[B", Cond.methodLink RJ0 335 yJ0_coder_7d493, Cond.instanceMethod yJ0_coder_7d493, Cond.selects RJ0 yJ0_coder_7d493 yJ0_coder_7d493, Cond.code yJ0_coder_7d493 cJ0_coder_7d493 1 (some .byte), Cond.fieldLink RJ0 38 "java/lang/String" "COMPACT_STRINGS" "Z", Cond.fieldLink RJ0 15 "java/lang/String" "coder" "B", Cond.methodLink RX2 56 yJ0_charAt_5068e, Cond.instanceMethod yJ0_charAt_5068e, Cond.selects RJ0 yJ0_charAt_5068e yJ0_charAt_5068e, Cond.code yJ0_charAt_5068e cJ0_charAt_5068e 2 (some .char), Cond.methodLink RJ0 492 yJ0_isLatin1_aae02, Cond.instanceMethod yJ0_isLatin1_aae02, Cond.selects RJ0 yJ0_isLatin1_aae02 yJ0_isLatin1_aae02, Cond.code yJ0_isLatin1_aae02 cJ0_isLatin1_aae02 1 (some .boolean), Cond.methodLink RJ0 495 yJ1_charAt_3b067, Cond.static yJ1_charAt_3b067]
def wsX2_isNamed_r2 : List Cond := [Cond.initialized RJ1, Cond.code yJ1_charAt_3b067 cJ1_charAt_3b067 2 (some .char), Cond.methodLink RJ1 9 yJ0_checkIndex_df160, Cond.static yJ0_checkIndex_df160, Cond.code yJ0_checkIndex_df160 cJ0_checkIndex_df160 2 none, Cond.fieldLink RJ0 1053 "jdk/internal/util/Preconditions" "SIOOBE_FORMATTER" "Ljava/util/function/BiFunction;", Cond.methodLink RJ0 1059 yJ3_checkIndex_8e157, Cond.static yJ3_checkIndex_8e157, Cond.initialized RJ3, Cond.code yJ3_checkIndex_8e157 cJ3_checkIndex_8e157 3 (some .int), Cond.methodLink RJ0 498 yJ2_charAt_3b067, Cond.static yJ2_charAt_3b067, Cond.initialized RJ2, Cond.code yJ2_charAt_3b067 cJ2_charAt_3b067 2 (some .char), Cond.methodLink RJ2 67 yJ2_checkIndex_2214a, Cond.static yJ2_checkIndex_2214a, Cond.code yJ2_checkIndex_2214a cJ2_checkIndex_2214a 2 none, Cond.methodLink RJ2 48 yJ2_length_9d52b, Cond.static yJ2_length_9d52b, Cond.code yJ2_length_9d52b cJ2_length_9d52b 1 (some .int), Cond.methodLink RJ2 414 yJ0_checkIndex_df160, Cond.methodLink RJ2 71 yJ2_getChar_3b067, Cond.static yJ2_getChar_3b067, Cond.code yJ2_getChar_3b067 cJ2_getChar_3b067 2 (some .char)]
def wsX2_isNamed_r3 : List Cond := [Cond.fieldLink RJ2 44 "java/lang/StringUTF16" "$assertionsDisabled" "Z", Cond.fieldLink RJ2 59 "java/lang/StringUTF16" "HI_BYTE_SHIFT" "I", Cond.fieldLink RJ2 63 "java/lang/StringUTF16" "LO_BYTE_SHIFT" "I"]
def wsX2_isNamed : List Cond := .code yX2_isNamed cX2_isNamed 3 (some .boolean) :: ((wsX2_isNamed_r1 ++ (wsX2_isNamed_r2 ++ wsX2_isNamed_r3)) ++ wsX20)
def wsX2_kind_r1 : List Cond := [Cond.fieldLink RX2 21 "HandBlinds$Row" "length" "I", Cond.methodLink RX2 43 yX2_isNamed, Cond.instanceMethod yX2_isNamed, Cond.selects RX2 yX2_isNamed yX2_isNamed, Cond.initialized RX2, Cond.code yX2_isNamed cX2_isNamed 3 (some .boolean), Cond.fieldLink RX2 9 "HandBlinds$Row" "letters" "[C", Cond.methodLink RX2 51 yJ0_length_8abf5, Cond.instanceMethod yJ0_length_8abf5, Cond.selects RJ0 yJ0_length_8abf5 yJ0_length_8abf5, Cond.initialized RJ0, Cond.code yJ0_length_8abf5 cJ0_length_8abf5 1 (some .int), Cond.fieldLink RJ0 9 "java/lang/String" "value" "[B", Cond.methodLink RJ0 335 yJ0_coder_7d493, Cond.instanceMethod yJ0_coder_7d493, Cond.selects RJ0 yJ0_coder_7d493 yJ0_coder_7d493, Cond.code yJ0_coder_7d493 cJ0_coder_7d493 1 (some .byte), Cond.fieldLink RJ0 38 "java/lang/String" "COMPACT_STRINGS" "Z", Cond.fieldLink RJ0 15 "java/lang/String" "coder" "B", Cond.methodLink RX2 56 yJ0_charAt_5068e, Cond.instanceMethod yJ0_charAt_5068e, Cond.selects RJ0 yJ0_charAt_5068e yJ0_charAt_5068e, Cond.code yJ0_charAt_5068e cJ0_charAt_5068e 2 (some .char), Cond.methodLink RJ0 492 yJ0_isLatin1_aae02]
def wsX2_kind_r2 : List Cond := [Cond.instanceMethod yJ0_isLatin1_aae02, Cond.selects RJ0 yJ0_isLatin1_aae02 yJ0_isLatin1_aae02, Cond.code yJ0_isLatin1_aae02 cJ0_isLatin1_aae02 1 (some .boolean), Cond.methodLink RJ0 495 yJ1_charAt_3b067, Cond.static yJ1_charAt_3b067, Cond.initialized RJ1, Cond.code yJ1_charAt_3b067 cJ1_charAt_3b067 2 (some .char), Cond.methodLink RJ1 9 yJ0_checkIndex_df160, Cond.static yJ0_checkIndex_df160, Cond.code yJ0_checkIndex_df160 cJ0_checkIndex_df160 2 none, Cond.fieldLink RJ0 1053 "jdk/internal/util/Preconditions" "SIOOBE_FORMATTER" "Ljava/util/function/BiFunction;", Cond.methodLink RJ0 1059 yJ3_checkIndex_8e157, Cond.static yJ3_checkIndex_8e157, Cond.initialized RJ3, Cond.code yJ3_checkIndex_8e157 cJ3_checkIndex_8e157 3 (some .int), Cond.methodLink RJ0 498 yJ2_charAt_3b067, Cond.static yJ2_charAt_3b067, Cond.initialized RJ2, Cond.code yJ2_charAt_3b067 cJ2_charAt_3b067 2 (some .char), Cond.methodLink RJ2 67 yJ2_checkIndex_2214a, Cond.static yJ2_checkIndex_2214a, Cond.code yJ2_checkIndex_2214a cJ2_checkIndex_2214a 2 none, Cond.methodLink RJ2 48 yJ2_length_9d52b, Cond.static yJ2_length_9d52b]
def wsX2_kind_r3 : List Cond := [Cond.code yJ2_length_9d52b cJ2_length_9d52b 1 (some .int), Cond.methodLink RJ2 414 yJ0_checkIndex_df160, Cond.methodLink RJ2 71 yJ2_getChar_3b067, Cond.static yJ2_getChar_3b067, Cond.code yJ2_getChar_3b067 cJ2_getChar_3b067 2 (some .char), Cond.fieldLink RJ2 44 "java/lang/StringUTF16" "$assertionsDisabled" "Z", Cond.fieldLink RJ2 59 "java/lang/StringUTF16" "HI_BYTE_SHIFT" "I", Cond.fieldLink RJ2 63 "java/lang/StringUTF16" "LO_BYTE_SHIFT" "I"]
def wsX2_kind : List Cond := .code yX2_kind cX2_kind 1 (some .int) :: ((wsX2_kind_r1 ++ (wsX2_kind_r2 ++ wsX2_kind_r3)) ++ wsX20)
def wsX0_wrongOf_r1 : List Cond := [Cond.fieldLink RX0 11 "HandBlinds$Blind" "rows" "[LHandBlinds$Row;", Cond.fieldLink RX0 92 "HandBlinds$Row" "torn" "Z", Cond.fieldLink RX0 38 "HandBlinds$Blind" "driven" "I", Cond.fieldLink RX0 20 "HandBlinds$Blind" "routes" "[LHandBlinds$Route;", Cond.methodLink RX0 137 yX0_hasRow, Cond.instanceMethod yX0_hasRow, Cond.selects RX0 yX0_hasRow yX0_hasRow, Cond.initialized RX0, Cond.code yX0_hasRow cX0_hasRow 2 (some .boolean), Cond.fieldLink RX0 50 "HandBlinds$Blind" "rowCount" "I", Cond.methodLink RX0 140 yX2_kind, Cond.instanceMethod yX2_kind, Cond.selects RX2 yX2_kind yX2_kind, Cond.initialized RX2, Cond.code yX2_kind cX2_kind 1 (some .int), Cond.fieldLink RX2 21 "HandBlinds$Row" "length" "I", Cond.methodLink RX2 43 yX2_isNamed, Cond.instanceMethod yX2_isNamed, Cond.selects RX2 yX2_isNamed yX2_isNamed, Cond.code yX2_isNamed cX2_isNamed 3 (some .boolean), Cond.fieldLink RX2 9 "HandBlinds$Row" "letters" "[C", Cond.methodLink RX2 51 yJ0_length_8abf5, Cond.instanceMethod yJ0_length_8abf5, Cond.selects RJ0 yJ0_length_8abf5 yJ0_length_8abf5]
def wsX0_wrongOf_r2 : List Cond := [Cond.initialized RJ0, Cond.code yJ0_length_8abf5 cJ0_length_8abf5 1 (some .int), Cond.fieldLink RJ0 9 "java/lang/String" "value" "[B", Cond.methodLink RJ0 335 yJ0_coder_7d493, Cond.instanceMethod yJ0_coder_7d493, Cond.selects RJ0 yJ0_coder_7d493 yJ0_coder_7d493, Cond.code yJ0_coder_7d493 cJ0_coder_7d493 1 (some .byte), Cond.fieldLink RJ0 38 "java/lang/String" "COMPACT_STRINGS" "Z", Cond.fieldLink RJ0 15 "java/lang/String" "coder" "B", Cond.methodLink RX2 56 yJ0_charAt_5068e, Cond.instanceMethod yJ0_charAt_5068e, Cond.selects RJ0 yJ0_charAt_5068e yJ0_charAt_5068e, Cond.code yJ0_charAt_5068e cJ0_charAt_5068e 2 (some .char), Cond.methodLink RJ0 492 yJ0_isLatin1_aae02, Cond.instanceMethod yJ0_isLatin1_aae02, Cond.selects RJ0 yJ0_isLatin1_aae02 yJ0_isLatin1_aae02, Cond.code yJ0_isLatin1_aae02 cJ0_isLatin1_aae02 1 (some .boolean), Cond.methodLink RJ0 495 yJ1_charAt_3b067, Cond.static yJ1_charAt_3b067, Cond.initialized RJ1, Cond.code yJ1_charAt_3b067 cJ1_charAt_3b067 2 (some .char), Cond.methodLink RJ1 9 yJ0_checkIndex_df160, Cond.static yJ0_checkIndex_df160, Cond.code yJ0_checkIndex_df160 cJ0_checkIndex_df160 2 none]
def wsX0_wrongOf_r3 : List Cond := [Cond.fieldLink RJ0 1053 "jdk/internal/util/Preconditions" "SIOOBE_FORMATTER" "Ljava/util/function/BiFunction;", Cond.methodLink RJ0 1059 yJ3_checkIndex_8e157, Cond.static yJ3_checkIndex_8e157, Cond.initialized RJ3, Cond.code yJ3_checkIndex_8e157 cJ3_checkIndex_8e157 3 (some .int), Cond.methodLink RJ0 498 yJ2_charAt_3b067, Cond.static yJ2_charAt_3b067, Cond.initialized RJ2, Cond.code yJ2_charAt_3b067 cJ2_charAt_3b067 2 (some .char), Cond.methodLink RJ2 67 yJ2_checkIndex_2214a, Cond.static yJ2_checkIndex_2214a, Cond.code yJ2_checkIndex_2214a cJ2_checkIndex_2214a 2 none, Cond.methodLink RJ2 48 yJ2_length_9d52b, Cond.static yJ2_length_9d52b, Cond.code yJ2_length_9d52b cJ2_length_9d52b 1 (some .int), Cond.methodLink RJ2 414 yJ0_checkIndex_df160, Cond.methodLink RJ2 71 yJ2_getChar_3b067, Cond.static yJ2_getChar_3b067, Cond.code yJ2_getChar_3b067 cJ2_getChar_3b067 2 (some .char), Cond.fieldLink RJ2 44 "java/lang/StringUTF16" "$assertionsDisabled" "Z", Cond.fieldLink RJ2 59 "java/lang/StringUTF16" "HI_BYTE_SHIFT" "I", Cond.fieldLink RJ2 63 "java/lang/StringUTF16" "LO_BYTE_SHIFT" "I", Cond.methodLink RX0 134 yX0_hasRoute, Cond.instanceMethod yX0_hasRoute]
def wsX0_wrongOf_r4 : List Cond := [Cond.selects RX0 yX0_hasRoute yX0_hasRoute, Cond.code yX0_hasRoute cX0_hasRoute 2 (some .boolean), Cond.fieldLink RX0 56 "HandBlinds$Blind" "routeCount" "I", Cond.methodLink RX0 88 yX1_owns, Cond.instanceMethod yX1_owns, Cond.selects RX1 yX1_owns yX1_owns, Cond.initialized RX1, Cond.code yX1_owns cX1_owns 2 (some .boolean), Cond.fieldLink RX1 7 "HandBlinds$Route" "rows" "I", Cond.methodLink RX0 96 yX2_width, Cond.instanceMethod yX2_width, Cond.selects RX2 yX2_width yX2_width, Cond.code yX2_width cX2_width 3 (some .int), Cond.static yX4_letterWidth, Cond.initialized RX4, Cond.code yX4_letterWidth cX4_letterWidth 1 (some .int), Cond.methodLink RX0 143 yX0_squeezed, Cond.instanceMethod yX0_squeezed, Cond.selects RX0 yX0_squeezed yX0_squeezed, Cond.code yX0_squeezed cX0_squeezed 3 (some .int), Cond.fieldLink RX0 25 "HandBlinds$Blind" "settings" "[I"]
def wsX0_wrongOf : List Cond := .code yX0_wrongOf cX0_wrongOf 3 (some .int) :: ((wsX0_wrongOf_r1 ++ (wsX0_wrongOf_r2 ++ (wsX0_wrongOf_r3 ++ wsX0_wrongOf_r4))) ++ wsX00 ++ wsX20 ++ wsX10)
def wsX0_halt_r1 : List Cond := [Cond.fieldLink RX0 53 "HandBlinds$Blind" "shown" "I", Cond.fieldLink RX0 65 "HandBlinds$Blind" "stops" "I", Cond.fieldLink RX0 68 "HandBlinds$Blind" "rightStops" "I", Cond.fieldLink RX0 38 "HandBlinds$Blind" "driven" "I", Cond.fieldLink RX0 20 "HandBlinds$Blind" "routes" "[LHandBlinds$Route;", Cond.fieldLink RX0 86 "HandBlinds$Route" "stops" "I", Cond.fieldLink RX0 87 "HandBlinds$Route" "rightStops" "I", Cond.methodLink RX0 131 yX0_wrongOf, Cond.instanceMethod yX0_wrongOf, Cond.selects RX0 yX0_wrongOf yX0_wrongOf, Cond.initialized RX0, Cond.code yX0_wrongOf cX0_wrongOf 3 (some .int), Cond.fieldLink RX0 11 "HandBlinds$Blind" "rows" "[LHandBlinds$Row;", Cond.fieldLink RX0 92 "HandBlinds$Row" "torn" "Z", Cond.methodLink RX0 137 yX0_hasRow, Cond.instanceMethod yX0_hasRow, Cond.selects RX0 yX0_hasRow yX0_hasRow, Cond.code yX0_hasRow cX0_hasRow 2 (some .boolean), Cond.fieldLink RX0 50 "HandBlinds$Blind" "rowCount" "I", Cond.methodLink RX0 140 yX2_kind, Cond.instanceMethod yX2_kind, Cond.selects RX2 yX2_kind yX2_kind, Cond.initialized RX2, Cond.code yX2_kind cX2_kind 1 (some .int)]
def wsX0_halt_r2 : List Cond := [Cond.fieldLink RX2 21 "HandBlinds$Row" "length" "I", Cond.methodLink RX2 43 yX2_isNamed, Cond.instanceMethod yX2_isNamed, Cond.selects RX2 yX2_isNamed yX2_isNamed, Cond.code yX2_isNamed cX2_isNamed 3 (some .boolean), Cond.fieldLink RX2 9 "HandBlinds$Row" "letters" "[C", Cond.methodLink RX2 51 yJ0_length_8abf5, Cond.instanceMethod yJ0_length_8abf5, Cond.selects RJ0 yJ0_length_8abf5 yJ0_length_8abf5, Cond.initialized RJ0, Cond.code yJ0_length_8abf5 cJ0_length_8abf5 1 (some .int), Cond.fieldLink RJ0 9 "java/lang/String" "value" "[B", Cond.methodLink RJ0 335 yJ0_coder_7d493, Cond.instanceMethod yJ0_coder_7d493, Cond.selects RJ0 yJ0_coder_7d493 yJ0_coder_7d493, Cond.code yJ0_coder_7d493 cJ0_coder_7d493 1 (some .byte), Cond.fieldLink RJ0 38 "java/lang/String" "COMPACT_STRINGS" "Z", Cond.fieldLink RJ0 15 "java/lang/String" "coder" "B", Cond.methodLink RX2 56 yJ0_charAt_5068e, Cond.instanceMethod yJ0_charAt_5068e, Cond.selects RJ0 yJ0_charAt_5068e yJ0_charAt_5068e, Cond.code yJ0_charAt_5068e cJ0_charAt_5068e 2 (some .char), Cond.methodLink RJ0 492 yJ0_isLatin1_aae02, Cond.instanceMethod yJ0_isLatin1_aae02]
def wsX0_halt_r3 : List Cond := [Cond.selects RJ0 yJ0_isLatin1_aae02 yJ0_isLatin1_aae02, Cond.code yJ0_isLatin1_aae02 cJ0_isLatin1_aae02 1 (some .boolean), Cond.methodLink RJ0 495 yJ1_charAt_3b067, Cond.static yJ1_charAt_3b067, Cond.initialized RJ1, Cond.code yJ1_charAt_3b067 cJ1_charAt_3b067 2 (some .char), Cond.methodLink RJ1 9 yJ0_checkIndex_df160, Cond.static yJ0_checkIndex_df160, Cond.code yJ0_checkIndex_df160 cJ0_checkIndex_df160 2 none, Cond.fieldLink RJ0 1053 "jdk/internal/util/Preconditions" "SIOOBE_FORMATTER" "Ljava/util/function/BiFunction;", Cond.methodLink RJ0 1059 yJ3_checkIndex_8e157, Cond.static yJ3_checkIndex_8e157, Cond.initialized RJ3, Cond.code yJ3_checkIndex_8e157 cJ3_checkIndex_8e157 3 (some .int), Cond.methodLink RJ0 498 yJ2_charAt_3b067, Cond.static yJ2_charAt_3b067, Cond.initialized RJ2, Cond.code yJ2_charAt_3b067 cJ2_charAt_3b067 2 (some .char), Cond.methodLink RJ2 67 yJ2_checkIndex_2214a, Cond.static yJ2_checkIndex_2214a, Cond.code yJ2_checkIndex_2214a cJ2_checkIndex_2214a 2 none, Cond.methodLink RJ2 48 yJ2_length_9d52b, Cond.static yJ2_length_9d52b, Cond.code yJ2_length_9d52b cJ2_length_9d52b 1 (some .int)]
def wsX0_halt_r4 : List Cond := [Cond.methodLink RJ2 414 yJ0_checkIndex_df160, Cond.methodLink RJ2 71 yJ2_getChar_3b067, Cond.static yJ2_getChar_3b067, Cond.code yJ2_getChar_3b067 cJ2_getChar_3b067 2 (some .char), Cond.fieldLink RJ2 44 "java/lang/StringUTF16" "$assertionsDisabled" "Z", Cond.fieldLink RJ2 59 "java/lang/StringUTF16" "HI_BYTE_SHIFT" "I", Cond.fieldLink RJ2 63 "java/lang/StringUTF16" "LO_BYTE_SHIFT" "I", Cond.methodLink RX0 134 yX0_hasRoute, Cond.instanceMethod yX0_hasRoute, Cond.selects RX0 yX0_hasRoute yX0_hasRoute, Cond.code yX0_hasRoute cX0_hasRoute 2 (some .boolean), Cond.fieldLink RX0 56 "HandBlinds$Blind" "routeCount" "I", Cond.methodLink RX0 88 yX1_owns, Cond.instanceMethod yX1_owns, Cond.selects RX1 yX1_owns yX1_owns, Cond.initialized RX1, Cond.code yX1_owns cX1_owns 2 (some .boolean), Cond.fieldLink RX1 7 "HandBlinds$Route" "rows" "I", Cond.methodLink RX0 96 yX2_width, Cond.instanceMethod yX2_width, Cond.selects RX2 yX2_width yX2_width, Cond.code yX2_width cX2_width 3 (some .int), Cond.static yX4_letterWidth, Cond.initialized RX4]
def wsX0_halt_r5 : List Cond := [Cond.code yX4_letterWidth cX4_letterWidth 1 (some .int), Cond.methodLink RX0 143 yX0_squeezed, Cond.instanceMethod yX0_squeezed, Cond.selects RX0 yX0_squeezed yX0_squeezed, Cond.code yX0_squeezed cX0_squeezed 3 (some .int), Cond.fieldLink RX0 25 "HandBlinds$Blind" "settings" "[I"]
def wsX0_halt : List Cond := .code yX0_halt cX0_halt 3 (some .int) :: ((wsX0_halt_r1 ++ (wsX0_halt_r2 ++ (wsX0_halt_r3 ++ (wsX0_halt_r4 ++ wsX0_halt_r5)))) ++ wsX00 ++ wsX10 ++ wsX20)
def wsX0_nearestRight_r1 : List Cond := [Cond.fieldLink RX0 50 "HandBlinds$Blind" "rowCount" "I", Cond.fieldLink RX0 53 "HandBlinds$Blind" "shown" "I", Cond.methodLink RX0 100 Lib.Math.abs.name, Cond.static Lib.Math.abs.name, Cond.initialized "java/lang/Math", Cond.code Lib.Math.abs.name Lib.Math.abs.code 1 (some .int), Cond.methodLink RX0 131 yX0_wrongOf, Cond.instanceMethod yX0_wrongOf, Cond.selects RX0 yX0_wrongOf yX0_wrongOf, Cond.initialized RX0, Cond.code yX0_wrongOf cX0_wrongOf 3 (some .int), Cond.fieldLink RX0 11 "HandBlinds$Blind" "rows" "[LHandBlinds$Row;", Cond.fieldLink RX0 92 "HandBlinds$Row" "torn" "Z", Cond.fieldLink RX0 38 "HandBlinds$Blind" "driven" "I", Cond.fieldLink RX0 20 "HandBlinds$Blind" "routes" "[LHandBlinds$Route;", Cond.methodLink RX0 137 yX0_hasRow, Cond.instanceMethod yX0_hasRow, Cond.selects RX0 yX0_hasRow yX0_hasRow, Cond.code yX0_hasRow cX0_hasRow 2 (some .boolean), Cond.methodLink RX0 140 yX2_kind, Cond.instanceMethod yX2_kind, Cond.selects RX2 yX2_kind yX2_kind, Cond.initialized RX2, Cond.code yX2_kind cX2_kind 1 (some .int)]
def wsX0_nearestRight_r2 : List Cond := [Cond.fieldLink RX2 21 "HandBlinds$Row" "length" "I", Cond.methodLink RX2 43 yX2_isNamed, Cond.instanceMethod yX2_isNamed, Cond.selects RX2 yX2_isNamed yX2_isNamed, Cond.code yX2_isNamed cX2_isNamed 3 (some .boolean), Cond.fieldLink RX2 9 "HandBlinds$Row" "letters" "[C", Cond.methodLink RX2 51 yJ0_length_8abf5, Cond.instanceMethod yJ0_length_8abf5, Cond.selects RJ0 yJ0_length_8abf5 yJ0_length_8abf5, Cond.initialized RJ0, Cond.code yJ0_length_8abf5 cJ0_length_8abf5 1 (some .int), Cond.fieldLink RJ0 9 "java/lang/String" "value" "[B", Cond.methodLink RJ0 335 yJ0_coder_7d493, Cond.instanceMethod yJ0_coder_7d493, Cond.selects RJ0 yJ0_coder_7d493 yJ0_coder_7d493, Cond.code yJ0_coder_7d493 cJ0_coder_7d493 1 (some .byte), Cond.fieldLink RJ0 38 "java/lang/String" "COMPACT_STRINGS" "Z", Cond.fieldLink RJ0 15 "java/lang/String" "coder" "B", Cond.methodLink RX2 56 yJ0_charAt_5068e, Cond.instanceMethod yJ0_charAt_5068e, Cond.selects RJ0 yJ0_charAt_5068e yJ0_charAt_5068e, Cond.code yJ0_charAt_5068e cJ0_charAt_5068e 2 (some .char), Cond.methodLink RJ0 492 yJ0_isLatin1_aae02, Cond.instanceMethod yJ0_isLatin1_aae02]
def wsX0_nearestRight_r3 : List Cond := [Cond.selects RJ0 yJ0_isLatin1_aae02 yJ0_isLatin1_aae02, Cond.code yJ0_isLatin1_aae02 cJ0_isLatin1_aae02 1 (some .boolean), Cond.methodLink RJ0 495 yJ1_charAt_3b067, Cond.static yJ1_charAt_3b067, Cond.initialized RJ1, Cond.code yJ1_charAt_3b067 cJ1_charAt_3b067 2 (some .char), Cond.methodLink RJ1 9 yJ0_checkIndex_df160, Cond.static yJ0_checkIndex_df160, Cond.code yJ0_checkIndex_df160 cJ0_checkIndex_df160 2 none, Cond.fieldLink RJ0 1053 "jdk/internal/util/Preconditions" "SIOOBE_FORMATTER" "Ljava/util/function/BiFunction;", Cond.methodLink RJ0 1059 yJ3_checkIndex_8e157, Cond.static yJ3_checkIndex_8e157, Cond.initialized RJ3, Cond.code yJ3_checkIndex_8e157 cJ3_checkIndex_8e157 3 (some .int), Cond.methodLink RJ0 498 yJ2_charAt_3b067, Cond.static yJ2_charAt_3b067, Cond.initialized RJ2, Cond.code yJ2_charAt_3b067 cJ2_charAt_3b067 2 (some .char), Cond.methodLink RJ2 67 yJ2_checkIndex_2214a, Cond.static yJ2_checkIndex_2214a, Cond.code yJ2_checkIndex_2214a cJ2_checkIndex_2214a 2 none, Cond.methodLink RJ2 48 yJ2_length_9d52b, Cond.static yJ2_length_9d52b, Cond.code yJ2_length_9d52b cJ2_length_9d52b 1 (some .int)]
def wsX0_nearestRight_r4 : List Cond := [Cond.methodLink RJ2 414 yJ0_checkIndex_df160, Cond.methodLink RJ2 71 yJ2_getChar_3b067, Cond.static yJ2_getChar_3b067, Cond.code yJ2_getChar_3b067 cJ2_getChar_3b067 2 (some .char), Cond.fieldLink RJ2 44 "java/lang/StringUTF16" "$assertionsDisabled" "Z", Cond.fieldLink RJ2 59 "java/lang/StringUTF16" "HI_BYTE_SHIFT" "I", Cond.fieldLink RJ2 63 "java/lang/StringUTF16" "LO_BYTE_SHIFT" "I", Cond.methodLink RX0 134 yX0_hasRoute, Cond.instanceMethod yX0_hasRoute, Cond.selects RX0 yX0_hasRoute yX0_hasRoute, Cond.code yX0_hasRoute cX0_hasRoute 2 (some .boolean), Cond.fieldLink RX0 56 "HandBlinds$Blind" "routeCount" "I", Cond.methodLink RX0 88 yX1_owns, Cond.instanceMethod yX1_owns, Cond.selects RX1 yX1_owns yX1_owns, Cond.initialized RX1, Cond.code yX1_owns cX1_owns 2 (some .boolean), Cond.fieldLink RX1 7 "HandBlinds$Route" "rows" "I", Cond.methodLink RX0 96 yX2_width, Cond.instanceMethod yX2_width, Cond.selects RX2 yX2_width yX2_width, Cond.code yX2_width cX2_width 3 (some .int), Cond.static yX4_letterWidth, Cond.initialized RX4]
def wsX0_nearestRight_r5 : List Cond := [Cond.code yX4_letterWidth cX4_letterWidth 1 (some .int), Cond.methodLink RX0 143 yX0_squeezed, Cond.instanceMethod yX0_squeezed, Cond.selects RX0 yX0_squeezed yX0_squeezed, Cond.code yX0_squeezed cX0_squeezed 3 (some .int), Cond.fieldLink RX0 25 "HandBlinds$Blind" "settings" "[I"]
def wsX0_nearestRight : List Cond := .code yX0_nearestRight cX0_nearestRight 4 (some .int) :: ((wsX0_nearestRight_r1 ++ (wsX0_nearestRight_r2 ++ (wsX0_nearestRight_r3 ++ (wsX0_nearestRight_r4 ++ wsX0_nearestRight_r5)))) ++ wsX00 ++ wsX20 ++ wsX10)
def wsX0_legible : List Cond := .code yX0_legible cX0_legible 7 (some .int) :: ([.fieldLink RX0 92 "HandBlinds$Row" "torn" "Z", .fieldLink RX0 146 "HandBlinds$Row" "length" "I", .fieldLink RX0 149 "HandBlinds$Row" "letters" "[C", .fieldLink RX0 25 "HandBlinds$Blind" "settings" "[I", .methodLink RX0 96 yX2_width, .instanceMethod yX2_width, .selects RX2 yX2_width yX2_width, .initialized RX2, .code yX2_width cX2_width 3 (some .int), .fieldLink RX2 21 "HandBlinds$Row" "length" "I", .fieldLink RX2 9 "HandBlinds$Row" "letters" "[C", .static yX4_letterWidth, .initialized RX4, .code yX4_letterWidth cX4_letterWidth 1 (some .int), .methodLink RX0 143 yX0_squeezed, .instanceMethod yX0_squeezed, .selects RX0 yX0_squeezed yX0_squeezed, .initialized RX0, .code yX0_squeezed cX0_squeezed 3 (some .int)] ++ wsX20 ++ wsX00)
def wsX2_patch : List Cond := .code yX2_patch cX2_patch 1 none :: ([.fieldLink RX2 25 "HandBlinds$Row" "wear" "I", .fieldLink RX2 28 "HandBlinds$Row" "torn" "Z"] ++ wsX20)
def wsX2_sharedStart : List Cond := .code yX2_sharedStart cX2_sharedStart 3 (some .int) :: ([.fieldLink RX2 21 "HandBlinds$Row" "length" "I", .fieldLink RX2 9 "HandBlinds$Row" "letters" "[C"] ++ wsX20)
def wsX3_init : List Cond := .code yX3_init cX3_init 1 none :: ([.methodLink RX3 3 objectInit, .instanceMethod objectInit, .code objectInit ⟨#[0xb1]⟩ 1 none, .arrayClass .char, .fieldLink RX3 9 "HandBlinds$Text" "signs" "[C", .fieldLink RX3 15 "HandBlinds$Text" "length" "I"] ++ wsX30)
def wsX3_append : List Cond := .code yX3_append cX3_append 2 none :: ([.fieldLink RX3 15 "HandBlinds$Text" "length" "I", .fieldLink RX3 9 "HandBlinds$Text" "signs" "[C"] ++ wsX30)
def wsX3_namesAhead : List Cond := .code yX3_namesAhead cX3_namesAhead 4 (some .int) :: ([.fieldLink RX3 15 "HandBlinds$Text" "length" "I", .fieldLink RX3 9 "HandBlinds$Text" "signs" "[C"] ++ wsX30)
def wsX3_endOfName : List Cond := .code yX3_endOfName cX3_endOfName 3 (some .int) :: ([.fieldLink RX3 15 "HandBlinds$Text" "length" "I", .fieldLink RX3 9 "HandBlinds$Text" "signs" "[C"] ++ wsX30)
def wsX3_fits : List Cond := .code yX3_fits cX3_fits 4 (some .boolean) :: ([.fieldLink RX3 9 "HandBlinds$Text" "signs" "[C"] ++ wsX30)
def wsX3_breakOf : List Cond := .code yX3_breakOf cX3_breakOf 4 (some .int) :: ([.methodLink RX3 19 yX3_fits, .instanceMethod yX3_fits, .selects RX3 yX3_fits yX3_fits, .initialized RX3, .code yX3_fits cX3_fits 4 (some .boolean), .fieldLink RX3 9 "HandBlinds$Text" "signs" "[C"] ++ wsX30)
def wsX3_width : List Cond := .code yX3_width cX3_width 5 (some .int) :: ([.fieldLink RX3 9 "HandBlinds$Text" "signs" "[C", .static yX4_letterWidth, .initialized RX4, .code yX4_letterWidth cX4_letterWidth 1 (some .int)] ++ wsX30)
def wsX3_isNameOf : List Cond := .code yX3_isNameOf cX3_isNameOf 3 (some .boolean) :: ([.fieldLink RX3 27 "HandBlinds$Row" "length" "I", .fieldLink RX3 15 "HandBlinds$Text" "length" "I", .fieldLink RX3 30 "HandBlinds$Row" "letters" "[C", .fieldLink RX3 9 "HandBlinds$Text" "signs" "[C"] ++ wsX20 ++ wsX30)
def wsX4_init_r1 : List Cond := [Cond.methodLink RX4 1 objectInit, Cond.instanceMethod objectInit, Cond.code objectInit ⟨#[0xb1]⟩ 1 none, Cond.classLink RX4 7 RX3, Cond.instantiable RX3 2, Cond.initialized RX3, Cond.fieldLink RX4 10 "HandBlinds" "text" "LHandBlinds$Text;", Cond.classLink RX4 16 RX0, Cond.instantiable RX0 11, Cond.initialized RX0, Cond.fieldLink RX4 19 "HandBlinds" "now" "LHandBlinds$Blind;", Cond.fieldLink RX4 23 "HandBlinds" "history" "[LHandBlinds$Blind;", Cond.fieldLink RX4 27 "HandBlinds" "states" "I", Cond.methodLink RX4 9 yX3_init, Cond.instanceMethod yX3_init, Cond.code yX3_init cX3_init 1 none, Cond.methodLink RX3 3 objectInit, Cond.arrayClass .char, Cond.fieldLink RX3 9 "HandBlinds$Text" "signs" "[C", Cond.fieldLink RX3 15 "HandBlinds$Text" "length" "I", Cond.methodLink RX4 18 yX0_init, Cond.instanceMethod yX0_init, Cond.code yX0_init cX0_init 2 none, Cond.methodLink RX0 3 objectInit]
def wsX4_init_r2 : List Cond := [Cond.classLink RX0 9 RX2, Cond.fieldLink RX0 11 "HandBlinds$Blind" "rows" "[LHandBlinds$Row;", Cond.instantiable RX2 4, Cond.initialized RX2, Cond.classLink RX0 18 RX1, Cond.fieldLink RX0 20 "HandBlinds$Blind" "routes" "[LHandBlinds$Route;", Cond.instantiable RX1 3, Cond.initialized RX1, Cond.arrayClass .int, Cond.fieldLink RX0 25 "HandBlinds$Blind" "settings" "[I", Cond.methodLink RX0 32 arraycopyName, Cond.native arraycopyName, Cond.static arraycopyName, Cond.initialized "java/lang/System", Cond.fieldLink RX0 38 "HandBlinds$Blind" "driven" "I", Cond.methodLink RX0 17 yX2_init, Cond.instanceMethod yX2_init, Cond.code yX2_init cX2_init 1 none, Cond.methodLink RX2 3 objectInit, Cond.fieldLink RX2 9 "HandBlinds$Row" "letters" "[C", Cond.instanceMethod yX1_init, Cond.code yX1_init cX1_init 1 none, Cond.methodLink RX1 1 objectInit]
def wsX4_init : List Cond := .code yX4_init cX4_init 2 none :: ((wsX4_init_r1 ++ wsX4_init_r2) ++ wsX30 ++ wsX40 ++ wsX00 ++ wsX20 ++ wsX10)
def wsX4_faultReason_r1 : List Cond := [Cond.fieldLink RX4 10 "HandBlinds" "text" "LHandBlinds$Text;", Cond.fieldLink RX4 19 "HandBlinds" "now" "LHandBlinds$Blind;", Cond.fieldLink RX4 62 "HandBlinds$Blind" "rowCount" "I", Cond.methodLink RX4 46 yX3_endOfName, Cond.instanceMethod yX3_endOfName, Cond.selects RX3 yX3_endOfName yX3_endOfName, Cond.initialized RX3, Cond.code yX3_endOfName cX3_endOfName 3 (some .int), Cond.fieldLink RX3 15 "HandBlinds$Text" "length" "I", Cond.fieldLink RX3 9 "HandBlinds$Text" "signs" "[C", Cond.methodLink RX4 223 yX3_breakOf, Cond.instanceMethod yX3_breakOf, Cond.selects RX3 yX3_breakOf yX3_breakOf, Cond.code yX3_breakOf cX3_breakOf 4 (some .int), Cond.methodLink RX3 19 yX3_fits, Cond.instanceMethod yX3_fits, Cond.selects RX3 yX3_fits yX3_fits, Cond.code yX3_fits cX3_fits 4 (some .boolean), Cond.methodLink RX4 226 yX3_width, Cond.instanceMethod yX3_width, Cond.selects RX3 yX3_width yX3_width, Cond.code yX3_width cX3_width 5 (some .int), Cond.static yX4_letterWidth, Cond.initialized RX4]
def wsX4_faultReason_r2 : List Cond := [Cond.code yX4_letterWidth cX4_letterWidth 1 (some .int), Cond.methodLink RX4 125 yX0_squeezed, Cond.instanceMethod yX0_squeezed, Cond.selects RX0 yX0_squeezed yX0_squeezed, Cond.initialized RX0, Cond.code yX0_squeezed cX0_squeezed 3 (some .int), Cond.fieldLink RX0 25 "HandBlinds$Blind" "settings" "[I", Cond.methodLink RX4 42 yX3_namesAhead, Cond.instanceMethod yX3_namesAhead, Cond.selects RX3 yX3_namesAhead yX3_namesAhead, Cond.code yX3_namesAhead cX3_namesAhead 4 (some .int)]
def wsX4_faultReason : List Cond := .code yX4_faultReason cX4_faultReason 3 (some .int) :: ((wsX4_faultReason_r1 ++ wsX4_faultReason_r2) ++ wsX40 ++ wsX00 ++ wsX30)
def wsX4_faultPlace_r1 : List Cond := [Cond.fieldLink RX4 10 "HandBlinds" "text" "LHandBlinds$Text;", Cond.fieldLink RX4 39 "HandBlinds$Text" "length" "I", Cond.methodLink RX4 42 yX3_namesAhead, Cond.instanceMethod yX3_namesAhead, Cond.selects RX3 yX3_namesAhead yX3_namesAhead, Cond.initialized RX3, Cond.code yX3_namesAhead cX3_namesAhead 4 (some .int), Cond.fieldLink RX3 15 "HandBlinds$Text" "length" "I", Cond.fieldLink RX3 9 "HandBlinds$Text" "signs" "[C", Cond.methodLink RX4 217 yX4_faultReason, Cond.instanceMethod yX4_faultReason, Cond.selects RX4 yX4_faultReason yX4_faultReason, Cond.initialized RX4, Cond.code yX4_faultReason cX4_faultReason 3 (some .int), Cond.fieldLink RX4 19 "HandBlinds" "now" "LHandBlinds$Blind;", Cond.fieldLink RX4 62 "HandBlinds$Blind" "rowCount" "I", Cond.methodLink RX4 46 yX3_endOfName, Cond.instanceMethod yX3_endOfName, Cond.selects RX3 yX3_endOfName yX3_endOfName, Cond.code yX3_endOfName cX3_endOfName 3 (some .int), Cond.methodLink RX4 223 yX3_breakOf, Cond.instanceMethod yX3_breakOf, Cond.selects RX3 yX3_breakOf yX3_breakOf, Cond.code yX3_breakOf cX3_breakOf 4 (some .int)]
def wsX4_faultPlace_r2 : List Cond := [Cond.methodLink RX3 19 yX3_fits, Cond.instanceMethod yX3_fits, Cond.selects RX3 yX3_fits yX3_fits, Cond.code yX3_fits cX3_fits 4 (some .boolean), Cond.methodLink RX4 226 yX3_width, Cond.instanceMethod yX3_width, Cond.selects RX3 yX3_width yX3_width, Cond.code yX3_width cX3_width 5 (some .int), Cond.static yX4_letterWidth, Cond.code yX4_letterWidth cX4_letterWidth 1 (some .int), Cond.methodLink RX4 125 yX0_squeezed, Cond.instanceMethod yX0_squeezed, Cond.selects RX0 yX0_squeezed yX0_squeezed, Cond.initialized RX0, Cond.code yX0_squeezed cX0_squeezed 3 (some .int), Cond.fieldLink RX0 25 "HandBlinds$Blind" "settings" "[I"]
def wsX4_faultPlace : List Cond := .code yX4_faultPlace cX4_faultPlace 4 (some .int) :: ((wsX4_faultPlace_r1 ++ wsX4_faultPlace_r2) ++ wsX40 ++ wsX30 ++ wsX00)
def wsX4_remember_r1 : List Cond := [Cond.fieldLink RX4 27 "HandBlinds" "states" "I", Cond.fieldLink RX4 23 "HandBlinds" "history" "[LHandBlinds$Blind;", Cond.fieldLink RX4 19 "HandBlinds" "now" "LHandBlinds$Blind;", Cond.methodLink RX4 210 yX0_become, Cond.instanceMethod yX0_become, Cond.selects RX0 yX0_become yX0_become, Cond.initialized RX0, Cond.code yX0_become cX0_become 3 none, Cond.fieldLink RX0 11 "HandBlinds$Blind" "rows" "[LHandBlinds$Row;", Cond.fieldLink RX0 20 "HandBlinds$Blind" "routes" "[LHandBlinds$Route;", Cond.fieldLink RX0 25 "HandBlinds$Blind" "settings" "[I", Cond.methodLink RX0 32 arraycopyName, Cond.native arraycopyName, Cond.static arraycopyName, Cond.initialized "java/lang/System", Cond.fieldLink RX0 50 "HandBlinds$Blind" "rowCount" "I", Cond.fieldLink RX0 53 "HandBlinds$Blind" "shown" "I", Cond.fieldLink RX0 56 "HandBlinds$Blind" "routeCount" "I", Cond.fieldLink RX0 38 "HandBlinds$Blind" "driven" "I", Cond.fieldLink RX0 59 "HandBlinds$Blind" "tears" "I", Cond.fieldLink RX0 62 "HandBlinds$Blind" "passed" "I", Cond.fieldLink RX0 65 "HandBlinds$Blind" "stops" "I", Cond.fieldLink RX0 68 "HandBlinds$Blind" "rightStops" "I", Cond.methodLink RX0 42 yX2_copyRow]
def wsX4_remember_r2 : List Cond := [Cond.instanceMethod yX2_copyRow, Cond.selects RX2 yX2_copyRow yX2_copyRow, Cond.initialized RX2, Cond.code yX2_copyRow cX2_copyRow 2 none, Cond.fieldLink RX2 9 "HandBlinds$Row" "letters" "[C", Cond.methodLink RX2 15 arraycopyName, Cond.fieldLink RX2 21 "HandBlinds$Row" "length" "I", Cond.fieldLink RX2 25 "HandBlinds$Row" "wear" "I", Cond.fieldLink RX2 28 "HandBlinds$Row" "torn" "Z", Cond.methodLink RX0 46 yX1_copyRoute, Cond.instanceMethod yX1_copyRoute, Cond.selects RX1 yX1_copyRoute yX1_copyRoute, Cond.initialized RX1, Cond.code yX1_copyRoute cX1_copyRoute 2 none, Cond.fieldLink RX1 7 "HandBlinds$Route" "rows" "I", Cond.fieldLink RX1 13 "HandBlinds$Route" "stops" "I", Cond.fieldLink RX1 16 "HandBlinds$Route" "rightStops" "I"]
def wsX4_remember : List Cond := .code yX4_remember cX4_remember 3 none :: ((wsX4_remember_r1 ++ wsX4_remember_r2) ++ wsX40 ++ wsX00 ++ wsX20 ++ wsX10)
def wsX4_add_r1 : List Cond := [Cond.constant RX4 35 (-1000002), Cond.fieldLink RX4 10 "HandBlinds" "text" "LHandBlinds$Text;", Cond.fieldLink RX4 39 "HandBlinds$Text" "length" "I", Cond.fieldLink RX4 19 "HandBlinds" "now" "LHandBlinds$Blind;", Cond.methodLink RX4 31 yX4_faultPlace, Cond.instanceMethod yX4_faultPlace, Cond.selects RX4 yX4_faultPlace yX4_faultPlace, Cond.initialized RX4, Cond.code yX4_faultPlace cX4_faultPlace 4 (some .int), Cond.methodLink RX4 42 yX3_namesAhead, Cond.instanceMethod yX3_namesAhead, Cond.selects RX3 yX3_namesAhead yX3_namesAhead, Cond.initialized RX3, Cond.code yX3_namesAhead cX3_namesAhead 4 (some .int), Cond.fieldLink RX3 15 "HandBlinds$Text" "length" "I", Cond.fieldLink RX3 9 "HandBlinds$Text" "signs" "[C", Cond.methodLink RX4 217 yX4_faultReason, Cond.instanceMethod yX4_faultReason, Cond.selects RX4 yX4_faultReason yX4_faultReason, Cond.code yX4_faultReason cX4_faultReason 3 (some .int), Cond.fieldLink RX4 62 "HandBlinds$Blind" "rowCount" "I", Cond.methodLink RX4 46 yX3_endOfName, Cond.instanceMethod yX3_endOfName, Cond.selects RX3 yX3_endOfName yX3_endOfName]
def wsX4_add_r2 : List Cond := [Cond.code yX3_endOfName cX3_endOfName 3 (some .int), Cond.methodLink RX4 223 yX3_breakOf, Cond.instanceMethod yX3_breakOf, Cond.selects RX3 yX3_breakOf yX3_breakOf, Cond.code yX3_breakOf cX3_breakOf 4 (some .int), Cond.methodLink RX3 19 yX3_fits, Cond.instanceMethod yX3_fits, Cond.selects RX3 yX3_fits yX3_fits, Cond.code yX3_fits cX3_fits 4 (some .boolean), Cond.methodLink RX4 226 yX3_width, Cond.instanceMethod yX3_width, Cond.selects RX3 yX3_width yX3_width, Cond.code yX3_width cX3_width 5 (some .int), Cond.static yX4_letterWidth, Cond.code yX4_letterWidth cX4_letterWidth 1 (some .int), Cond.methodLink RX4 125 yX0_squeezed, Cond.instanceMethod yX0_squeezed, Cond.selects RX0 yX0_squeezed yX0_squeezed, Cond.initialized RX0, Cond.code yX0_squeezed cX0_squeezed 3 (some .int), Cond.fieldLink RX0 25 "HandBlinds$Blind" "settings" "[I", Cond.methodLink RX4 36 yX4_remember, Cond.instanceMethod yX4_remember, Cond.selects RX4 yX4_remember yX4_remember]
def wsX4_add_r3 : List Cond := [Cond.code yX4_remember cX4_remember 3 none, Cond.fieldLink RX4 27 "HandBlinds" "states" "I", Cond.fieldLink RX4 23 "HandBlinds" "history" "[LHandBlinds$Blind;", Cond.methodLink RX4 210 yX0_become, Cond.instanceMethod yX0_become, Cond.selects RX0 yX0_become yX0_become, Cond.code yX0_become cX0_become 3 none, Cond.fieldLink RX0 11 "HandBlinds$Blind" "rows" "[LHandBlinds$Row;", Cond.fieldLink RX0 20 "HandBlinds$Blind" "routes" "[LHandBlinds$Route;", Cond.methodLink RX0 32 arraycopyName, Cond.native arraycopyName, Cond.static arraycopyName, Cond.initialized "java/lang/System", Cond.fieldLink RX0 50 "HandBlinds$Blind" "rowCount" "I", Cond.fieldLink RX0 53 "HandBlinds$Blind" "shown" "I", Cond.fieldLink RX0 56 "HandBlinds$Blind" "routeCount" "I", Cond.fieldLink RX0 38 "HandBlinds$Blind" "driven" "I", Cond.fieldLink RX0 59 "HandBlinds$Blind" "tears" "I", Cond.fieldLink RX0 62 "HandBlinds$Blind" "passed" "I", Cond.fieldLink RX0 65 "HandBlinds$Blind" "stops" "I", Cond.fieldLink RX0 68 "HandBlinds$Blind" "rightStops" "I", Cond.methodLink RX0 42 yX2_copyRow, Cond.instanceMethod yX2_copyRow, Cond.selects RX2 yX2_copyRow yX2_copyRow]
def wsX4_add_r4 : List Cond := [Cond.initialized RX2, Cond.code yX2_copyRow cX2_copyRow 2 none, Cond.fieldLink RX2 9 "HandBlinds$Row" "letters" "[C", Cond.methodLink RX2 15 arraycopyName, Cond.fieldLink RX2 21 "HandBlinds$Row" "length" "I", Cond.fieldLink RX2 25 "HandBlinds$Row" "wear" "I", Cond.fieldLink RX2 28 "HandBlinds$Row" "torn" "Z", Cond.methodLink RX0 46 yX1_copyRoute, Cond.instanceMethod yX1_copyRoute, Cond.selects RX1 yX1_copyRoute yX1_copyRoute, Cond.initialized RX1, Cond.code yX1_copyRoute cX1_copyRoute 2 none, Cond.fieldLink RX1 7 "HandBlinds$Route" "rows" "I", Cond.fieldLink RX1 13 "HandBlinds$Route" "stops" "I", Cond.fieldLink RX1 16 "HandBlinds$Route" "rightStops" "I", Cond.methodLink RX4 49 yX0_append, Cond.instanceMethod yX0_append, Cond.selects RX0 yX0_append yX0_append, Cond.code yX0_append cX0_append 4 none, Cond.methodLink RX0 71 yX2_begin, Cond.instanceMethod yX2_begin, Cond.selects RX2 yX2_begin yX2_begin, Cond.code yX2_begin cX2_begin 5 none, Cond.fieldLink RX2 32 "HandBlinds$Text" "signs" "[C"]
def wsX4_add : List Cond := .code yX4_add cX4_add 5 (some .int) :: ((wsX4_add_r1 ++ (wsX4_add_r2 ++ (wsX4_add_r3 ++ wsX4_add_r4))) ++ wsX40 ++ wsX30 ++ wsX00 ++ wsX20 ++ wsX10)
def wsX4_cut_r1 : List Cond := [Cond.fieldLink RX4 19 "HandBlinds" "now" "LHandBlinds$Blind;", Cond.constant RX4 57 (-1000001), Cond.fieldLink RX4 62 "HandBlinds$Blind" "rowCount" "I", Cond.fieldLink RX4 65 "HandBlinds$Blind" "shown" "I", Cond.methodLink RX4 53 yX0_hasRow, Cond.instanceMethod yX0_hasRow, Cond.selects RX0 yX0_hasRow yX0_hasRow, Cond.initialized RX0, Cond.code yX0_hasRow cX0_hasRow 2 (some .boolean), Cond.fieldLink RX0 50 "HandBlinds$Blind" "rowCount" "I", Cond.methodLink RX4 36 yX4_remember, Cond.instanceMethod yX4_remember, Cond.selects RX4 yX4_remember yX4_remember, Cond.initialized RX4, Cond.code yX4_remember cX4_remember 3 none, Cond.fieldLink RX4 27 "HandBlinds" "states" "I", Cond.fieldLink RX4 23 "HandBlinds" "history" "[LHandBlinds$Blind;", Cond.methodLink RX4 210 yX0_become, Cond.instanceMethod yX0_become, Cond.selects RX0 yX0_become yX0_become, Cond.code yX0_become cX0_become 3 none, Cond.fieldLink RX0 11 "HandBlinds$Blind" "rows" "[LHandBlinds$Row;", Cond.fieldLink RX0 20 "HandBlinds$Blind" "routes" "[LHandBlinds$Route;", Cond.fieldLink RX0 25 "HandBlinds$Blind" "settings" "[I"]
def wsX4_cut_r2 : List Cond := [Cond.methodLink RX0 32 arraycopyName, Cond.native arraycopyName, Cond.static arraycopyName, Cond.initialized "java/lang/System", Cond.fieldLink RX0 53 "HandBlinds$Blind" "shown" "I", Cond.fieldLink RX0 56 "HandBlinds$Blind" "routeCount" "I", Cond.fieldLink RX0 38 "HandBlinds$Blind" "driven" "I", Cond.fieldLink RX0 59 "HandBlinds$Blind" "tears" "I", Cond.fieldLink RX0 62 "HandBlinds$Blind" "passed" "I", Cond.fieldLink RX0 65 "HandBlinds$Blind" "stops" "I", Cond.fieldLink RX0 68 "HandBlinds$Blind" "rightStops" "I", Cond.methodLink RX0 42 yX2_copyRow, Cond.instanceMethod yX2_copyRow, Cond.selects RX2 yX2_copyRow yX2_copyRow, Cond.initialized RX2, Cond.code yX2_copyRow cX2_copyRow 2 none, Cond.fieldLink RX2 9 "HandBlinds$Row" "letters" "[C", Cond.methodLink RX2 15 arraycopyName, Cond.fieldLink RX2 21 "HandBlinds$Row" "length" "I", Cond.fieldLink RX2 25 "HandBlinds$Row" "wear" "I", Cond.fieldLink RX2 28 "HandBlinds$Row" "torn" "Z", Cond.methodLink RX0 46 yX1_copyRoute, Cond.instanceMethod yX1_copyRoute, Cond.selects RX1 yX1_copyRoute yX1_copyRoute]
def wsX4_cut_r3 : List Cond := [Cond.initialized RX1, Cond.code yX1_copyRoute cX1_copyRoute 2 none, Cond.fieldLink RX1 7 "HandBlinds$Route" "rows" "I", Cond.fieldLink RX1 13 "HandBlinds$Route" "stops" "I", Cond.fieldLink RX1 16 "HandBlinds$Route" "rightStops" "I", Cond.methodLink RX4 58 yX0_remove, Cond.instanceMethod yX0_remove, Cond.selects RX0 yX0_remove yX0_remove, Cond.code yX0_remove cX0_remove 4 none, Cond.methodLink RX0 75 yX1_forget, Cond.instanceMethod yX1_forget, Cond.selects RX1 yX1_forget yX1_forget, Cond.code yX1_forget cX1_forget 4 none]
def wsX4_cut : List Cond := .code yX4_cut cX4_cut 2 (some .int) :: ((wsX4_cut_r1 ++ (wsX4_cut_r2 ++ wsX4_cut_r3)) ++ wsX40 ++ wsX00 ++ wsX20 ++ wsX10)
def wsX4_swap_r1 : List Cond := [Cond.fieldLink RX4 19 "HandBlinds" "now" "LHandBlinds$Blind;", Cond.constant RX4 57 (-1000001), Cond.fieldLink RX4 65 "HandBlinds$Blind" "shown" "I", Cond.methodLink RX4 53 yX0_hasRow, Cond.instanceMethod yX0_hasRow, Cond.selects RX0 yX0_hasRow yX0_hasRow, Cond.initialized RX0, Cond.code yX0_hasRow cX0_hasRow 2 (some .boolean), Cond.fieldLink RX0 50 "HandBlinds$Blind" "rowCount" "I", Cond.methodLink RX4 36 yX4_remember, Cond.instanceMethod yX4_remember, Cond.selects RX4 yX4_remember yX4_remember, Cond.initialized RX4, Cond.code yX4_remember cX4_remember 3 none, Cond.fieldLink RX4 27 "HandBlinds" "states" "I", Cond.fieldLink RX4 23 "HandBlinds" "history" "[LHandBlinds$Blind;", Cond.methodLink RX4 210 yX0_become, Cond.instanceMethod yX0_become, Cond.selects RX0 yX0_become yX0_become, Cond.code yX0_become cX0_become 3 none, Cond.fieldLink RX0 11 "HandBlinds$Blind" "rows" "[LHandBlinds$Row;", Cond.fieldLink RX0 20 "HandBlinds$Blind" "routes" "[LHandBlinds$Route;", Cond.fieldLink RX0 25 "HandBlinds$Blind" "settings" "[I", Cond.methodLink RX0 32 arraycopyName]
def wsX4_swap_r2 : List Cond := [Cond.native arraycopyName, Cond.static arraycopyName, Cond.initialized "java/lang/System", Cond.fieldLink RX0 53 "HandBlinds$Blind" "shown" "I", Cond.fieldLink RX0 56 "HandBlinds$Blind" "routeCount" "I", Cond.fieldLink RX0 38 "HandBlinds$Blind" "driven" "I", Cond.fieldLink RX0 59 "HandBlinds$Blind" "tears" "I", Cond.fieldLink RX0 62 "HandBlinds$Blind" "passed" "I", Cond.fieldLink RX0 65 "HandBlinds$Blind" "stops" "I", Cond.fieldLink RX0 68 "HandBlinds$Blind" "rightStops" "I", Cond.methodLink RX0 42 yX2_copyRow, Cond.instanceMethod yX2_copyRow, Cond.selects RX2 yX2_copyRow yX2_copyRow, Cond.initialized RX2, Cond.code yX2_copyRow cX2_copyRow 2 none, Cond.fieldLink RX2 9 "HandBlinds$Row" "letters" "[C", Cond.methodLink RX2 15 arraycopyName, Cond.fieldLink RX2 21 "HandBlinds$Row" "length" "I", Cond.fieldLink RX2 25 "HandBlinds$Row" "wear" "I", Cond.fieldLink RX2 28 "HandBlinds$Row" "torn" "Z", Cond.methodLink RX0 46 yX1_copyRoute, Cond.instanceMethod yX1_copyRoute, Cond.selects RX1 yX1_copyRoute yX1_copyRoute, Cond.initialized RX1]
def wsX4_swap_r3 : List Cond := [Cond.code yX1_copyRoute cX1_copyRoute 2 none, Cond.fieldLink RX1 7 "HandBlinds$Route" "rows" "I", Cond.fieldLink RX1 13 "HandBlinds$Route" "stops" "I", Cond.fieldLink RX1 16 "HandBlinds$Route" "rightStops" "I", Cond.methodLink RX4 68 yX0_exchange, Cond.instanceMethod yX0_exchange, Cond.selects RX0 yX0_exchange yX0_exchange, Cond.code yX0_exchange cX0_exchange 5 none, Cond.methodLink RX0 79 yX1_changeAbout, Cond.instanceMethod yX1_changeAbout, Cond.selects RX1 yX1_changeAbout yX1_changeAbout, Cond.code yX1_changeAbout cX1_changeAbout 3 none, Cond.methodLink RX1 19 yX1_owns, Cond.instanceMethod yX1_owns, Cond.selects RX1 yX1_owns yX1_owns, Cond.code yX1_owns cX1_owns 2 (some .boolean)]
def wsX4_swap : List Cond := .code yX4_swap cX4_swap 3 (some .int) :: ((wsX4_swap_r1 ++ (wsX4_swap_r2 ++ wsX4_swap_r3)) ++ wsX40 ++ wsX00 ++ wsX20 ++ wsX10)
def wsX4_mend_r1 : List Cond := [Cond.fieldLink RX4 19 "HandBlinds" "now" "LHandBlinds$Blind;", Cond.constant RX4 57 (-1000001), Cond.fieldLink RX4 72 "HandBlinds$Blind" "rows" "[LHandBlinds$Row;", Cond.fieldLink RX4 76 "HandBlinds$Row" "torn" "Z", Cond.constant RX4 35 (-1000002), Cond.fieldLink RX4 85 "HandBlinds$Row" "wear" "I", Cond.methodLink RX4 53 yX0_hasRow, Cond.instanceMethod yX0_hasRow, Cond.selects RX0 yX0_hasRow yX0_hasRow, Cond.initialized RX0, Cond.code yX0_hasRow cX0_hasRow 2 (some .boolean), Cond.fieldLink RX0 50 "HandBlinds$Blind" "rowCount" "I", Cond.methodLink RX4 36 yX4_remember, Cond.instanceMethod yX4_remember, Cond.selects RX4 yX4_remember yX4_remember, Cond.initialized RX4, Cond.code yX4_remember cX4_remember 3 none, Cond.fieldLink RX4 27 "HandBlinds" "states" "I", Cond.fieldLink RX4 23 "HandBlinds" "history" "[LHandBlinds$Blind;", Cond.methodLink RX4 210 yX0_become, Cond.instanceMethod yX0_become, Cond.selects RX0 yX0_become yX0_become, Cond.code yX0_become cX0_become 3 none, Cond.fieldLink RX0 11 "HandBlinds$Blind" "rows" "[LHandBlinds$Row;"]
def wsX4_mend_r2 : List Cond := [Cond.fieldLink RX0 20 "HandBlinds$Blind" "routes" "[LHandBlinds$Route;", Cond.fieldLink RX0 25 "HandBlinds$Blind" "settings" "[I", Cond.methodLink RX0 32 arraycopyName, Cond.native arraycopyName, Cond.static arraycopyName, Cond.initialized "java/lang/System", Cond.fieldLink RX0 53 "HandBlinds$Blind" "shown" "I", Cond.fieldLink RX0 56 "HandBlinds$Blind" "routeCount" "I", Cond.fieldLink RX0 38 "HandBlinds$Blind" "driven" "I", Cond.fieldLink RX0 59 "HandBlinds$Blind" "tears" "I", Cond.fieldLink RX0 62 "HandBlinds$Blind" "passed" "I", Cond.fieldLink RX0 65 "HandBlinds$Blind" "stops" "I", Cond.fieldLink RX0 68 "HandBlinds$Blind" "rightStops" "I", Cond.methodLink RX0 42 yX2_copyRow, Cond.instanceMethod yX2_copyRow, Cond.selects RX2 yX2_copyRow yX2_copyRow, Cond.initialized RX2, Cond.code yX2_copyRow cX2_copyRow 2 none, Cond.fieldLink RX2 9 "HandBlinds$Row" "letters" "[C", Cond.methodLink RX2 15 arraycopyName, Cond.fieldLink RX2 21 "HandBlinds$Row" "length" "I", Cond.fieldLink RX2 25 "HandBlinds$Row" "wear" "I", Cond.fieldLink RX2 28 "HandBlinds$Row" "torn" "Z", Cond.methodLink RX0 46 yX1_copyRoute]
def wsX4_mend_r3 : List Cond := [Cond.instanceMethod yX1_copyRoute, Cond.selects RX1 yX1_copyRoute yX1_copyRoute, Cond.initialized RX1, Cond.code yX1_copyRoute cX1_copyRoute 2 none, Cond.fieldLink RX1 7 "HandBlinds$Route" "rows" "I", Cond.fieldLink RX1 13 "HandBlinds$Route" "stops" "I", Cond.fieldLink RX1 16 "HandBlinds$Route" "rightStops" "I", Cond.methodLink RX4 82 yX2_patch, Cond.instanceMethod yX2_patch, Cond.selects RX2 yX2_patch yX2_patch, Cond.code yX2_patch cX2_patch 1 none]
def wsX4_mend : List Cond := .code yX4_mend cX4_mend 2 (some .int) :: ((wsX4_mend_r1 ++ (wsX4_mend_r2 ++ wsX4_mend_r3)) ++ wsX40 ++ wsX00 ++ wsX20 ++ wsX10)
def wsX4_isCranking : List Cond := .code yX4_isCranking cX4_isCranking 2 (some .boolean) :: ([])
def wsX4_crank_r1 : List Cond := [Cond.constant RX4 57 (-1000001), Cond.fieldLink RX4 19 "HandBlinds" "now" "LHandBlinds$Blind;", Cond.fieldLink RX4 62 "HandBlinds$Blind" "rowCount" "I", Cond.constant RX4 35 (-1000002), Cond.fieldLink RX4 65 "HandBlinds$Blind" "shown" "I", Cond.methodLink RX4 88 yX4_isCranking, Cond.static yX4_isCranking, Cond.initialized RX4, Cond.code yX4_isCranking cX4_isCranking 2 (some .boolean), Cond.methodLink RX4 36 yX4_remember, Cond.instanceMethod yX4_remember, Cond.selects RX4 yX4_remember yX4_remember, Cond.code yX4_remember cX4_remember 3 none, Cond.fieldLink RX4 27 "HandBlinds" "states" "I", Cond.fieldLink RX4 23 "HandBlinds" "history" "[LHandBlinds$Blind;", Cond.methodLink RX4 210 yX0_become, Cond.instanceMethod yX0_become, Cond.selects RX0 yX0_become yX0_become, Cond.initialized RX0, Cond.code yX0_become cX0_become 3 none, Cond.fieldLink RX0 11 "HandBlinds$Blind" "rows" "[LHandBlinds$Row;", Cond.fieldLink RX0 20 "HandBlinds$Blind" "routes" "[LHandBlinds$Route;", Cond.fieldLink RX0 25 "HandBlinds$Blind" "settings" "[I", Cond.methodLink RX0 32 arraycopyName]
def wsX4_crank_r2 : List Cond := [Cond.native arraycopyName, Cond.static arraycopyName, Cond.initialized "java/lang/System", Cond.fieldLink RX0 50 "HandBlinds$Blind" "rowCount" "I", Cond.fieldLink RX0 53 "HandBlinds$Blind" "shown" "I", Cond.fieldLink RX0 56 "HandBlinds$Blind" "routeCount" "I", Cond.fieldLink RX0 38 "HandBlinds$Blind" "driven" "I", Cond.fieldLink RX0 59 "HandBlinds$Blind" "tears" "I", Cond.fieldLink RX0 62 "HandBlinds$Blind" "passed" "I", Cond.fieldLink RX0 65 "HandBlinds$Blind" "stops" "I", Cond.fieldLink RX0 68 "HandBlinds$Blind" "rightStops" "I", Cond.methodLink RX0 42 yX2_copyRow, Cond.instanceMethod yX2_copyRow, Cond.selects RX2 yX2_copyRow yX2_copyRow, Cond.initialized RX2, Cond.code yX2_copyRow cX2_copyRow 2 none, Cond.fieldLink RX2 9 "HandBlinds$Row" "letters" "[C", Cond.methodLink RX2 15 arraycopyName, Cond.fieldLink RX2 21 "HandBlinds$Row" "length" "I", Cond.fieldLink RX2 25 "HandBlinds$Row" "wear" "I", Cond.fieldLink RX2 28 "HandBlinds$Row" "torn" "Z", Cond.methodLink RX0 46 yX1_copyRoute, Cond.instanceMethod yX1_copyRoute, Cond.selects RX1 yX1_copyRoute yX1_copyRoute]
def wsX4_crank_r3 : List Cond := [Cond.initialized RX1, Cond.code yX1_copyRoute cX1_copyRoute 2 none, Cond.fieldLink RX1 7 "HandBlinds$Route" "rows" "I", Cond.fieldLink RX1 13 "HandBlinds$Route" "stops" "I", Cond.fieldLink RX1 16 "HandBlinds$Route" "rightStops" "I", Cond.methodLink RX4 92 yX0_roll, Cond.instanceMethod yX0_roll, Cond.selects RX0 yX0_roll yX0_roll, Cond.code yX0_roll cX0_roll 5 none, Cond.methodLink RX0 120 yX0_stepsOf, Cond.instanceMethod yX0_stepsOf, Cond.selects RX0 yX0_stepsOf yX0_stepsOf, Cond.code yX0_stepsOf cX0_stepsOf 5 (some .int), Cond.methodLink RX0 100 Lib.Math.abs.name, Cond.static Lib.Math.abs.name, Cond.initialized "java/lang/Math", Cond.code Lib.Math.abs.name Lib.Math.abs.code 1 (some .int), Cond.fieldLink RX0 92 "HandBlinds$Row" "torn" "Z", Cond.methodLink RX0 106 yX0_rowAfter, Cond.instanceMethod yX0_rowAfter, Cond.selects RX0 yX0_rowAfter yX0_rowAfter, Cond.code yX0_rowAfter cX0_rowAfter 3 (some .int), Cond.methodLink RX0 110 yX0_isEnd, Cond.instanceMethod yX0_isEnd]
def wsX4_crank_r4 : List Cond := [Cond.selects RX0 yX0_isEnd yX0_isEnd, Cond.code yX0_isEnd cX0_isEnd 3 (some .boolean), Cond.methodLink RX0 127 yX0_leave, Cond.instanceMethod yX0_leave, Cond.selects RX0 yX0_leave yX0_leave, Cond.code yX0_leave cX0_leave 4 none, Cond.fieldLink RX0 117 "HandBlinds$Row" "wear" "I", Cond.methodLink RX0 123 yX0_tearsAt, Cond.instanceMethod yX0_tearsAt, Cond.selects RX0 yX0_tearsAt yX0_tearsAt, Cond.code yX0_tearsAt cX0_tearsAt 4 (some .boolean), Cond.methodLink RX0 114 yX0_isSkipped, Cond.instanceMethod yX0_isSkipped, Cond.selects RX0 yX0_isSkipped yX0_isSkipped, Cond.code yX0_isSkipped cX0_isSkipped 3 (some .boolean)]
def wsX4_crank : List Cond := .code yX4_crank cX4_crank 3 (some .int) :: ((wsX4_crank_r1 ++ (wsX4_crank_r2 ++ (wsX4_crank_r3 ++ wsX4_crank_r4))) ++ wsX40 ++ wsX00 ++ wsX20 ++ wsX10)
def wsX4_route_r1 : List Cond := [Cond.fieldLink RX4 19 "HandBlinds" "now" "LHandBlinds$Blind;", Cond.fieldLink RX4 62 "HandBlinds$Blind" "rowCount" "I", Cond.constant RX4 57 (-1000001), Cond.fieldLink RX4 95 "HandBlinds$Blind" "routeCount" "I", Cond.constant RX4 98 (-1000003), Cond.methodLink RX4 36 yX4_remember, Cond.instanceMethod yX4_remember, Cond.selects RX4 yX4_remember yX4_remember, Cond.initialized RX4, Cond.code yX4_remember cX4_remember 3 none, Cond.fieldLink RX4 27 "HandBlinds" "states" "I", Cond.fieldLink RX4 23 "HandBlinds" "history" "[LHandBlinds$Blind;", Cond.methodLink RX4 210 yX0_become, Cond.instanceMethod yX0_become, Cond.selects RX0 yX0_become yX0_become, Cond.initialized RX0, Cond.code yX0_become cX0_become 3 none, Cond.fieldLink RX0 11 "HandBlinds$Blind" "rows" "[LHandBlinds$Row;", Cond.fieldLink RX0 20 "HandBlinds$Blind" "routes" "[LHandBlinds$Route;", Cond.fieldLink RX0 25 "HandBlinds$Blind" "settings" "[I", Cond.methodLink RX0 32 arraycopyName, Cond.native arraycopyName, Cond.static arraycopyName, Cond.initialized "java/lang/System"]
def wsX4_route_r2 : List Cond := [Cond.fieldLink RX0 50 "HandBlinds$Blind" "rowCount" "I", Cond.fieldLink RX0 53 "HandBlinds$Blind" "shown" "I", Cond.fieldLink RX0 56 "HandBlinds$Blind" "routeCount" "I", Cond.fieldLink RX0 38 "HandBlinds$Blind" "driven" "I", Cond.fieldLink RX0 59 "HandBlinds$Blind" "tears" "I", Cond.fieldLink RX0 62 "HandBlinds$Blind" "passed" "I", Cond.fieldLink RX0 65 "HandBlinds$Blind" "stops" "I", Cond.fieldLink RX0 68 "HandBlinds$Blind" "rightStops" "I", Cond.methodLink RX0 42 yX2_copyRow, Cond.instanceMethod yX2_copyRow, Cond.selects RX2 yX2_copyRow yX2_copyRow, Cond.initialized RX2, Cond.code yX2_copyRow cX2_copyRow 2 none, Cond.fieldLink RX2 9 "HandBlinds$Row" "letters" "[C", Cond.methodLink RX2 15 arraycopyName, Cond.fieldLink RX2 21 "HandBlinds$Row" "length" "I", Cond.fieldLink RX2 25 "HandBlinds$Row" "wear" "I", Cond.fieldLink RX2 28 "HandBlinds$Row" "torn" "Z", Cond.methodLink RX0 46 yX1_copyRoute, Cond.instanceMethod yX1_copyRoute, Cond.selects RX1 yX1_copyRoute yX1_copyRoute, Cond.initialized RX1, Cond.code yX1_copyRoute cX1_copyRoute 2 none, Cond.fieldLink RX1 7 "HandBlinds$Route" "rows" "I"]
def wsX4_route_r3 : List Cond := [Cond.fieldLink RX1 13 "HandBlinds$Route" "stops" "I", Cond.fieldLink RX1 16 "HandBlinds$Route" "rightStops" "I", Cond.methodLink RX4 99 yX0_appendRoute, Cond.instanceMethod yX0_appendRoute, Cond.selects RX0 yX0_appendRoute yX0_appendRoute, Cond.code yX0_appendRoute cX0_appendRoute 2 (some .int), Cond.constant RX0 83 (-1000003), Cond.fieldLink RX0 84 "HandBlinds$Route" "rows" "I", Cond.fieldLink RX0 86 "HandBlinds$Route" "stops" "I", Cond.fieldLink RX0 87 "HandBlinds$Route" "rightStops" "I"]
def wsX4_route : List Cond := .code yX4_route cX4_route 2 (some .int) :: ((wsX4_route_r1 ++ (wsX4_route_r2 ++ wsX4_route_r3)) ++ wsX40 ++ wsX00 ++ wsX20 ++ wsX10)
def wsX4_drive_r1 : List Cond := [Cond.fieldLink RX4 19 "HandBlinds" "now" "LHandBlinds$Blind;", Cond.constant RX4 57 (-1000001), Cond.fieldLink RX4 105 "HandBlinds$Blind" "driven" "I", Cond.methodLink RX4 102 yX0_hasRoute, Cond.instanceMethod yX0_hasRoute, Cond.selects RX0 yX0_hasRoute yX0_hasRoute, Cond.initialized RX0, Cond.code yX0_hasRoute cX0_hasRoute 2 (some .boolean), Cond.fieldLink RX0 56 "HandBlinds$Blind" "routeCount" "I", Cond.methodLink RX4 36 yX4_remember, Cond.instanceMethod yX4_remember, Cond.selects RX4 yX4_remember yX4_remember, Cond.initialized RX4, Cond.code yX4_remember cX4_remember 3 none, Cond.fieldLink RX4 27 "HandBlinds" "states" "I", Cond.fieldLink RX4 23 "HandBlinds" "history" "[LHandBlinds$Blind;", Cond.methodLink RX4 210 yX0_become, Cond.instanceMethod yX0_become, Cond.selects RX0 yX0_become yX0_become, Cond.code yX0_become cX0_become 3 none, Cond.fieldLink RX0 11 "HandBlinds$Blind" "rows" "[LHandBlinds$Row;", Cond.fieldLink RX0 20 "HandBlinds$Blind" "routes" "[LHandBlinds$Route;", Cond.fieldLink RX0 25 "HandBlinds$Blind" "settings" "[I", Cond.methodLink RX0 32 arraycopyName]
def wsX4_drive_r2 : List Cond := [Cond.native arraycopyName, Cond.static arraycopyName, Cond.initialized "java/lang/System", Cond.fieldLink RX0 50 "HandBlinds$Blind" "rowCount" "I", Cond.fieldLink RX0 53 "HandBlinds$Blind" "shown" "I", Cond.fieldLink RX0 38 "HandBlinds$Blind" "driven" "I", Cond.fieldLink RX0 59 "HandBlinds$Blind" "tears" "I", Cond.fieldLink RX0 62 "HandBlinds$Blind" "passed" "I", Cond.fieldLink RX0 65 "HandBlinds$Blind" "stops" "I", Cond.fieldLink RX0 68 "HandBlinds$Blind" "rightStops" "I", Cond.methodLink RX0 42 yX2_copyRow, Cond.instanceMethod yX2_copyRow, Cond.selects RX2 yX2_copyRow yX2_copyRow, Cond.initialized RX2, Cond.code yX2_copyRow cX2_copyRow 2 none, Cond.fieldLink RX2 9 "HandBlinds$Row" "letters" "[C", Cond.methodLink RX2 15 arraycopyName, Cond.fieldLink RX2 21 "HandBlinds$Row" "length" "I", Cond.fieldLink RX2 25 "HandBlinds$Row" "wear" "I", Cond.fieldLink RX2 28 "HandBlinds$Row" "torn" "Z", Cond.methodLink RX0 46 yX1_copyRoute, Cond.instanceMethod yX1_copyRoute, Cond.selects RX1 yX1_copyRoute yX1_copyRoute, Cond.initialized RX1]
def wsX4_drive_r3 : List Cond := [Cond.code yX1_copyRoute cX1_copyRoute 2 none, Cond.fieldLink RX1 7 "HandBlinds$Route" "rows" "I", Cond.fieldLink RX1 13 "HandBlinds$Route" "stops" "I", Cond.fieldLink RX1 16 "HandBlinds$Route" "rightStops" "I"]
def wsX4_drive : List Cond := .code yX4_drive cX4_drive 3 (some .int) :: ((wsX4_drive_r1 ++ (wsX4_drive_r2 ++ wsX4_drive_r3)) ++ wsX40 ++ wsX00 ++ wsX20 ++ wsX10)
def wsX4_stop_r1 : List Cond := [Cond.fieldLink RX4 19 "HandBlinds" "now" "LHandBlinds$Blind;", Cond.methodLink RX4 36 yX4_remember, Cond.instanceMethod yX4_remember, Cond.selects RX4 yX4_remember yX4_remember, Cond.initialized RX4, Cond.code yX4_remember cX4_remember 3 none, Cond.fieldLink RX4 27 "HandBlinds" "states" "I", Cond.fieldLink RX4 23 "HandBlinds" "history" "[LHandBlinds$Blind;", Cond.methodLink RX4 210 yX0_become, Cond.instanceMethod yX0_become, Cond.selects RX0 yX0_become yX0_become, Cond.initialized RX0, Cond.code yX0_become cX0_become 3 none, Cond.fieldLink RX0 11 "HandBlinds$Blind" "rows" "[LHandBlinds$Row;", Cond.fieldLink RX0 20 "HandBlinds$Blind" "routes" "[LHandBlinds$Route;", Cond.fieldLink RX0 25 "HandBlinds$Blind" "settings" "[I", Cond.methodLink RX0 32 arraycopyName, Cond.native arraycopyName, Cond.static arraycopyName, Cond.initialized "java/lang/System", Cond.fieldLink RX0 50 "HandBlinds$Blind" "rowCount" "I", Cond.fieldLink RX0 53 "HandBlinds$Blind" "shown" "I", Cond.fieldLink RX0 56 "HandBlinds$Blind" "routeCount" "I", Cond.fieldLink RX0 38 "HandBlinds$Blind" "driven" "I"]
def wsX4_stop_r2 : List Cond := [Cond.fieldLink RX0 59 "HandBlinds$Blind" "tears" "I", Cond.fieldLink RX0 62 "HandBlinds$Blind" "passed" "I", Cond.fieldLink RX0 65 "HandBlinds$Blind" "stops" "I", Cond.fieldLink RX0 68 "HandBlinds$Blind" "rightStops" "I", Cond.methodLink RX0 42 yX2_copyRow, Cond.instanceMethod yX2_copyRow, Cond.selects RX2 yX2_copyRow yX2_copyRow, Cond.initialized RX2, Cond.code yX2_copyRow cX2_copyRow 2 none, Cond.fieldLink RX2 9 "HandBlinds$Row" "letters" "[C", Cond.methodLink RX2 15 arraycopyName, Cond.fieldLink RX2 21 "HandBlinds$Row" "length" "I", Cond.fieldLink RX2 25 "HandBlinds$Row" "wear" "I", Cond.fieldLink RX2 28 "HandBlinds$Row" "torn" "Z", Cond.methodLink RX0 46 yX1_copyRoute, Cond.instanceMethod yX1_copyRoute, Cond.selects RX1 yX1_copyRoute yX1_copyRoute, Cond.initialized RX1, Cond.code yX1_copyRoute cX1_copyRoute 2 none, Cond.fieldLink RX1 7 "HandBlinds$Route" "rows" "I", Cond.fieldLink RX1 13 "HandBlinds$Route" "stops" "I", Cond.fieldLink RX1 16 "HandBlinds$Route" "rightStops" "I", Cond.methodLink RX4 108 yX0_halt, Cond.instanceMethod yX0_halt]
def wsX4_stop_r3 : List Cond := [Cond.selects RX0 yX0_halt yX0_halt, Cond.code yX0_halt cX0_halt 3 (some .int), Cond.fieldLink RX0 86 "HandBlinds$Route" "stops" "I", Cond.fieldLink RX0 87 "HandBlinds$Route" "rightStops" "I", Cond.methodLink RX0 131 yX0_wrongOf, Cond.instanceMethod yX0_wrongOf, Cond.selects RX0 yX0_wrongOf yX0_wrongOf, Cond.code yX0_wrongOf cX0_wrongOf 3 (some .int), Cond.fieldLink RX0 92 "HandBlinds$Row" "torn" "Z", Cond.methodLink RX0 137 yX0_hasRow, Cond.instanceMethod yX0_hasRow, Cond.selects RX0 yX0_hasRow yX0_hasRow, Cond.code yX0_hasRow cX0_hasRow 2 (some .boolean), Cond.methodLink RX0 140 yX2_kind, Cond.instanceMethod yX2_kind, Cond.selects RX2 yX2_kind yX2_kind, Cond.code yX2_kind cX2_kind 1 (some .int), Cond.methodLink RX2 43 yX2_isNamed, Cond.instanceMethod yX2_isNamed, Cond.selects RX2 yX2_isNamed yX2_isNamed, Cond.code yX2_isNamed cX2_isNamed 3 (some .boolean), Cond.methodLink RX2 51 yJ0_length_8abf5, Cond.instanceMethod yJ0_length_8abf5, Cond.selects RJ0 yJ0_length_8abf5 yJ0_length_8abf5]
def wsX4_stop_r4 : List Cond := [Cond.initialized RJ0, Cond.code yJ0_length_8abf5 cJ0_length_8abf5 1 (some .int), Cond.fieldLink RJ0 9 "java/lang/String" "value" "[B", Cond.methodLink RJ0 335 yJ0_coder_7d493, Cond.instanceMethod yJ0_coder_7d493, Cond.selects RJ0 yJ0_coder_7d493 yJ0_coder_7d493, Cond.code yJ0_coder_7d493 cJ0_coder_7d493 1 (some .byte), Cond.fieldLink RJ0 38 "java/lang/String" "COMPACT_STRINGS" "Z", Cond.fieldLink RJ0 15 "java/lang/String" "coder" "B", Cond.methodLink RX2 56 yJ0_charAt_5068e, Cond.instanceMethod yJ0_charAt_5068e, Cond.selects RJ0 yJ0_charAt_5068e yJ0_charAt_5068e, Cond.code yJ0_charAt_5068e cJ0_charAt_5068e 2 (some .char), Cond.methodLink RJ0 492 yJ0_isLatin1_aae02, Cond.instanceMethod yJ0_isLatin1_aae02, Cond.selects RJ0 yJ0_isLatin1_aae02 yJ0_isLatin1_aae02, Cond.code yJ0_isLatin1_aae02 cJ0_isLatin1_aae02 1 (some .boolean), Cond.methodLink RJ0 495 yJ1_charAt_3b067, Cond.static yJ1_charAt_3b067, Cond.initialized RJ1, Cond.code yJ1_charAt_3b067 cJ1_charAt_3b067 2 (some .char), Cond.methodLink RJ1 9 yJ0_checkIndex_df160, Cond.static yJ0_checkIndex_df160, Cond.code yJ0_checkIndex_df160 cJ0_checkIndex_df160 2 none]
def wsX4_stop_r5 : List Cond := [Cond.fieldLink RJ0 1053 "jdk/internal/util/Preconditions" "SIOOBE_FORMATTER" "Ljava/util/function/BiFunction;", Cond.methodLink RJ0 1059 yJ3_checkIndex_8e157, Cond.static yJ3_checkIndex_8e157, Cond.initialized RJ3, Cond.code yJ3_checkIndex_8e157 cJ3_checkIndex_8e157 3 (some .int), Cond.methodLink RJ0 498 yJ2_charAt_3b067, Cond.static yJ2_charAt_3b067, Cond.initialized RJ2, Cond.code yJ2_charAt_3b067 cJ2_charAt_3b067 2 (some .char), Cond.methodLink RJ2 67 yJ2_checkIndex_2214a, Cond.static yJ2_checkIndex_2214a, Cond.code yJ2_checkIndex_2214a cJ2_checkIndex_2214a 2 none, Cond.methodLink RJ2 48 yJ2_length_9d52b, Cond.static yJ2_length_9d52b, Cond.code yJ2_length_9d52b cJ2_length_9d52b 1 (some .int), Cond.methodLink RJ2 414 yJ0_checkIndex_df160, Cond.methodLink RJ2 71 yJ2_getChar_3b067, Cond.static yJ2_getChar_3b067, Cond.code yJ2_getChar_3b067 cJ2_getChar_3b067 2 (some .char), Cond.fieldLink RJ2 44 "java/lang/StringUTF16" "$assertionsDisabled" "Z", Cond.fieldLink RJ2 59 "java/lang/StringUTF16" "HI_BYTE_SHIFT" "I", Cond.fieldLink RJ2 63 "java/lang/StringUTF16" "LO_BYTE_SHIFT" "I", Cond.methodLink RX0 134 yX0_hasRoute, Cond.instanceMethod yX0_hasRoute]
def wsX4_stop_r6 : List Cond := [Cond.selects RX0 yX0_hasRoute yX0_hasRoute, Cond.code yX0_hasRoute cX0_hasRoute 2 (some .boolean), Cond.methodLink RX0 88 yX1_owns, Cond.instanceMethod yX1_owns, Cond.selects RX1 yX1_owns yX1_owns, Cond.code yX1_owns cX1_owns 2 (some .boolean), Cond.methodLink RX0 96 yX2_width, Cond.instanceMethod yX2_width, Cond.selects RX2 yX2_width yX2_width, Cond.code yX2_width cX2_width 3 (some .int), Cond.static yX4_letterWidth, Cond.code yX4_letterWidth cX4_letterWidth 1 (some .int), Cond.methodLink RX0 143 yX0_squeezed, Cond.instanceMethod yX0_squeezed, Cond.selects RX0 yX0_squeezed yX0_squeezed, Cond.code yX0_squeezed cX0_squeezed 3 (some .int)]
def wsX4_stop : List Cond := .code yX4_stop cX4_stop 1 (some .int) :: ((wsX4_stop_r1 ++ (wsX4_stop_r2 ++ (wsX4_stop_r3 ++ (wsX4_stop_r4 ++ (wsX4_stop_r5 ++ wsX4_stop_r6))))) ++ wsX40 ++ wsX00 ++ wsX20 ++ wsX10)
def wsX4_set_r1 : List Cond := [Cond.fieldLink RX4 111 "HandBlinds" "LEAST" "[I", Cond.fieldLink RX4 115 "HandBlinds" "MOST" "[I", Cond.constant RX4 57 (-1000001), Cond.fieldLink RX4 19 "HandBlinds" "now" "LHandBlinds$Blind;", Cond.fieldLink RX4 118 "HandBlinds$Blind" "settings" "[I", Cond.methodLink RX4 36 yX4_remember, Cond.instanceMethod yX4_remember, Cond.selects RX4 yX4_remember yX4_remember, Cond.initialized RX4, Cond.code yX4_remember cX4_remember 3 none, Cond.fieldLink RX4 27 "HandBlinds" "states" "I", Cond.fieldLink RX4 23 "HandBlinds" "history" "[LHandBlinds$Blind;", Cond.methodLink RX4 210 yX0_become, Cond.instanceMethod yX0_become, Cond.selects RX0 yX0_become yX0_become, Cond.initialized RX0, Cond.code yX0_become cX0_become 3 none, Cond.fieldLink RX0 11 "HandBlinds$Blind" "rows" "[LHandBlinds$Row;", Cond.fieldLink RX0 20 "HandBlinds$Blind" "routes" "[LHandBlinds$Route;", Cond.fieldLink RX0 25 "HandBlinds$Blind" "settings" "[I", Cond.methodLink RX0 32 arraycopyName, Cond.native arraycopyName, Cond.static arraycopyName, Cond.initialized "java/lang/System"]
def wsX4_set_r2 : List Cond := [Cond.fieldLink RX0 50 "HandBlinds$Blind" "rowCount" "I", Cond.fieldLink RX0 53 "HandBlinds$Blind" "shown" "I", Cond.fieldLink RX0 56 "HandBlinds$Blind" "routeCount" "I", Cond.fieldLink RX0 38 "HandBlinds$Blind" "driven" "I", Cond.fieldLink RX0 59 "HandBlinds$Blind" "tears" "I", Cond.fieldLink RX0 62 "HandBlinds$Blind" "passed" "I", Cond.fieldLink RX0 65 "HandBlinds$Blind" "stops" "I", Cond.fieldLink RX0 68 "HandBlinds$Blind" "rightStops" "I", Cond.methodLink RX0 42 yX2_copyRow, Cond.instanceMethod yX2_copyRow, Cond.selects RX2 yX2_copyRow yX2_copyRow, Cond.initialized RX2, Cond.code yX2_copyRow cX2_copyRow 2 none, Cond.fieldLink RX2 9 "HandBlinds$Row" "letters" "[C", Cond.methodLink RX2 15 arraycopyName, Cond.fieldLink RX2 21 "HandBlinds$Row" "length" "I", Cond.fieldLink RX2 25 "HandBlinds$Row" "wear" "I", Cond.fieldLink RX2 28 "HandBlinds$Row" "torn" "Z", Cond.methodLink RX0 46 yX1_copyRoute, Cond.instanceMethod yX1_copyRoute, Cond.selects RX1 yX1_copyRoute yX1_copyRoute, Cond.initialized RX1, Cond.code yX1_copyRoute cX1_copyRoute 2 none, Cond.fieldLink RX1 7 "HandBlinds$Route" "rows" "I"]
def wsX4_set_r3 : List Cond := [Cond.fieldLink RX1 13 "HandBlinds$Route" "stops" "I", Cond.fieldLink RX1 16 "HandBlinds$Route" "rightStops" "I"]
def wsX4_set : List Cond := .code yX4_set cX4_set 4 (some .int) :: ((wsX4_set_r1 ++ (wsX4_set_r2 ++ wsX4_set_r3)) ++ wsX40 ++ wsX00 ++ wsX20 ++ wsX10)
def wsX4_rowOf_r1 : List Cond := [Cond.fieldLink RX4 19 "HandBlinds" "now" "LHandBlinds$Blind;", Cond.constant RX4 57 (-1000001), Cond.fieldLink RX4 72 "HandBlinds$Blind" "rows" "[LHandBlinds$Row;", Cond.fieldLink RX4 121 "HandBlinds$Row" "length" "I", Cond.fieldLink RX4 85 "HandBlinds$Row" "wear" "I", Cond.fieldLink RX4 76 "HandBlinds$Row" "torn" "Z", Cond.fieldLink RX4 65 "HandBlinds$Blind" "shown" "I", Cond.methodLink RX4 53 yX0_hasRow, Cond.instanceMethod yX0_hasRow, Cond.selects RX0 yX0_hasRow yX0_hasRow, Cond.initialized RX0, Cond.code yX0_hasRow cX0_hasRow 2 (some .boolean), Cond.fieldLink RX0 50 "HandBlinds$Blind" "rowCount" "I", Cond.methodLink RX4 122 yX2_width, Cond.instanceMethod yX2_width, Cond.selects RX2 yX2_width yX2_width, Cond.initialized RX2, Cond.code yX2_width cX2_width 3 (some .int), Cond.fieldLink RX2 21 "HandBlinds$Row" "length" "I", Cond.fieldLink RX2 9 "HandBlinds$Row" "letters" "[C", Cond.static yX4_letterWidth, Cond.initialized RX4, Cond.code yX4_letterWidth cX4_letterWidth 1 (some .int), Cond.methodLink RX4 125 yX0_squeezed]
def wsX4_rowOf_r2 : List Cond := [Cond.instanceMethod yX0_squeezed, Cond.selects RX0 yX0_squeezed yX0_squeezed, Cond.code yX0_squeezed cX0_squeezed 3 (some .int), Cond.fieldLink RX0 25 "HandBlinds$Blind" "settings" "[I", Cond.methodLink RX4 128 yX2_kind, Cond.instanceMethod yX2_kind, Cond.selects RX2 yX2_kind yX2_kind, Cond.code yX2_kind cX2_kind 1 (some .int), Cond.methodLink RX2 43 yX2_isNamed, Cond.instanceMethod yX2_isNamed, Cond.selects RX2 yX2_isNamed yX2_isNamed, Cond.code yX2_isNamed cX2_isNamed 3 (some .boolean), Cond.methodLink RX2 51 yJ0_length_8abf5, Cond.instanceMethod yJ0_length_8abf5, Cond.selects RJ0 yJ0_length_8abf5 yJ0_length_8abf5, Cond.initialized RJ0, Cond.code yJ0_length_8abf5 cJ0_length_8abf5 1 (some .int), Cond.fieldLink RJ0 9 "java/lang/String" "value" "[B", Cond.methodLink RJ0 335 yJ0_coder_7d493, Cond.instanceMethod yJ0_coder_7d493, Cond.selects RJ0 yJ0_coder_7d493 yJ0_coder_7d493, Cond.code yJ0_coder_7d493 cJ0_coder_7d493 1 (some .byte), Cond.fieldLink RJ0 38 "java/lang/String" "COMPACT_STRINGS" "Z", Cond.fieldLink RJ0 15 "java/lang/String" "coder" "B"]
def wsX4_rowOf_r3 : List Cond := [Cond.methodLink RX2 56 yJ0_charAt_5068e, Cond.instanceMethod yJ0_charAt_5068e, Cond.selects RJ0 yJ0_charAt_5068e yJ0_charAt_5068e, Cond.code yJ0_charAt_5068e cJ0_charAt_5068e 2 (some .char), Cond.methodLink RJ0 492 yJ0_isLatin1_aae02, Cond.instanceMethod yJ0_isLatin1_aae02, Cond.selects RJ0 yJ0_isLatin1_aae02 yJ0_isLatin1_aae02, Cond.code yJ0_isLatin1_aae02 cJ0_isLatin1_aae02 1 (some .boolean), Cond.methodLink RJ0 495 yJ1_charAt_3b067, Cond.static yJ1_charAt_3b067, Cond.initialized RJ1, Cond.code yJ1_charAt_3b067 cJ1_charAt_3b067 2 (some .char), Cond.methodLink RJ1 9 yJ0_checkIndex_df160, Cond.static yJ0_checkIndex_df160, Cond.code yJ0_checkIndex_df160 cJ0_checkIndex_df160 2 none, Cond.fieldLink RJ0 1053 "jdk/internal/util/Preconditions" "SIOOBE_FORMATTER" "Ljava/util/function/BiFunction;", Cond.methodLink RJ0 1059 yJ3_checkIndex_8e157, Cond.static yJ3_checkIndex_8e157, Cond.initialized RJ3, Cond.code yJ3_checkIndex_8e157 cJ3_checkIndex_8e157 3 (some .int), Cond.methodLink RJ0 498 yJ2_charAt_3b067, Cond.static yJ2_charAt_3b067, Cond.initialized RJ2, Cond.code yJ2_charAt_3b067 cJ2_charAt_3b067 2 (some .char)]
def wsX4_rowOf_r4 : List Cond := [Cond.methodLink RJ2 67 yJ2_checkIndex_2214a, Cond.static yJ2_checkIndex_2214a, Cond.code yJ2_checkIndex_2214a cJ2_checkIndex_2214a 2 none, Cond.methodLink RJ2 48 yJ2_length_9d52b, Cond.static yJ2_length_9d52b, Cond.code yJ2_length_9d52b cJ2_length_9d52b 1 (some .int), Cond.methodLink RJ2 414 yJ0_checkIndex_df160, Cond.methodLink RJ2 71 yJ2_getChar_3b067, Cond.static yJ2_getChar_3b067, Cond.code yJ2_getChar_3b067 cJ2_getChar_3b067 2 (some .char), Cond.fieldLink RJ2 44 "java/lang/StringUTF16" "$assertionsDisabled" "Z", Cond.fieldLink RJ2 59 "java/lang/StringUTF16" "HI_BYTE_SHIFT" "I", Cond.fieldLink RJ2 63 "java/lang/StringUTF16" "LO_BYTE_SHIFT" "I", Cond.methodLink RX4 131 yX0_routesOf, Cond.instanceMethod yX0_routesOf, Cond.selects RX0 yX0_routesOf yX0_routesOf, Cond.code yX0_routesOf cX0_routesOf 4 (some .int), Cond.fieldLink RX0 56 "HandBlinds$Blind" "routeCount" "I", Cond.fieldLink RX0 20 "HandBlinds$Blind" "routes" "[LHandBlinds$Route;", Cond.methodLink RX0 88 yX1_owns, Cond.instanceMethod yX1_owns, Cond.selects RX1 yX1_owns yX1_owns, Cond.initialized RX1, Cond.code yX1_owns cX1_owns 2 (some .boolean)]
def wsX4_rowOf_r5 : List Cond := [Cond.fieldLink RX1 7 "HandBlinds$Route" "rows" "I"]
def wsX4_rowOf : List Cond := .code yX4_rowOf cX4_rowOf 4 (some .int) :: ((wsX4_rowOf_r1 ++ (wsX4_rowOf_r2 ++ (wsX4_rowOf_r3 ++ (wsX4_rowOf_r4 ++ wsX4_rowOf_r5)))) ++ wsX40 ++ wsX00 ++ wsX20 ++ wsX10)
def wsX4_letter : List Cond := .code yX4_letter cX4_letter 4 (some .int) :: ([.fieldLink RX4 19 "HandBlinds" "now" "LHandBlinds$Blind;", .constant RX4 57 (-1000001), .fieldLink RX4 72 "HandBlinds$Blind" "rows" "[LHandBlinds$Row;", .fieldLink RX4 121 "HandBlinds$Row" "length" "I", .fieldLink RX4 134 "HandBlinds$Row" "letters" "[C", .constant RX4 138 (-1000004), .methodLink RX4 53 yX0_hasRow, .instanceMethod yX0_hasRow, .selects RX0 yX0_hasRow yX0_hasRow, .initialized RX0, .code yX0_hasRow cX0_hasRow 2 (some .boolean), .fieldLink RX0 50 "HandBlinds$Blind" "rowCount" "I"] ++ wsX40 ++ wsX00 ++ wsX20)
def wsJ6_bitCount_0f7a4 : List Cond := .code yJ6_bitCount_0f7a4 cJ6_bitCount_0f7a4 1 (some .int) :: ([.constant RJ6 265 (1431655765), .constant RJ6 266 (858993459), .constant RJ6 267 (252645135)])
def wsX4_routeOf_r1 : List Cond := [Cond.fieldLink RX4 19 "HandBlinds" "now" "LHandBlinds$Blind;", Cond.constant RX4 57 (-1000001), Cond.fieldLink RX4 139 "HandBlinds$Blind" "routes" "[LHandBlinds$Route;", Cond.fieldLink RX4 143 "HandBlinds$Route" "rows" "I", Cond.fieldLink RX4 155 "HandBlinds$Route" "stops" "I", Cond.fieldLink RX4 158 "HandBlinds$Route" "rightStops" "I", Cond.methodLink RX4 102 yX0_hasRoute, Cond.instanceMethod yX0_hasRoute, Cond.selects RX0 yX0_hasRoute yX0_hasRoute, Cond.initialized RX0, Cond.code yX0_hasRoute cX0_hasRoute 2 (some .boolean), Cond.fieldLink RX0 56 "HandBlinds$Blind" "routeCount" "I", Cond.methodLink RX4 147 yJ6_bitCount_0f7a4, Cond.static yJ6_bitCount_0f7a4, Cond.initialized RJ6, Cond.code yJ6_bitCount_0f7a4 cJ6_bitCount_0f7a4 1 (some .int), Cond.constant RJ6 265 (1431655765), Cond.constant RJ6 266 (858993459), Cond.constant RJ6 267 (252645135), Cond.methodLink RX4 152 yX0_tornRows, Cond.instanceMethod yX0_tornRows, Cond.selects RX0 yX0_tornRows yX0_tornRows, Cond.code yX0_tornRows cX0_tornRows 3 (some .int), Cond.fieldLink RX0 50 "HandBlinds$Blind" "rowCount" "I"]
def wsX4_routeOf_r2 : List Cond := [Cond.fieldLink RX0 11 "HandBlinds$Blind" "rows" "[LHandBlinds$Row;", Cond.fieldLink RX0 92 "HandBlinds$Row" "torn" "Z"]
def wsX4_routeOf : List Cond := .code yX4_routeOf cX4_routeOf 4 (some .int) :: ((wsX4_routeOf_r1 ++ wsX4_routeOf_r2) ++ wsX40 ++ wsX00 ++ wsX10 ++ wsX20)
def wsX4_would_r1 : List Cond := [Cond.constant RX4 57 (-1000001), Cond.fieldLink RX4 19 "HandBlinds" "now" "LHandBlinds$Blind;", Cond.fieldLink RX4 62 "HandBlinds$Blind" "rowCount" "I", Cond.constant RX4 35 (-1000002), Cond.methodLink RX4 88 yX4_isCranking, Cond.static yX4_isCranking, Cond.initialized RX4, Cond.code yX4_isCranking cX4_isCranking 2 (some .boolean), Cond.methodLink RX4 161 yX0_stepsOf, Cond.instanceMethod yX0_stepsOf, Cond.selects RX0 yX0_stepsOf yX0_stepsOf, Cond.initialized RX0, Cond.code yX0_stepsOf cX0_stepsOf 5 (some .int), Cond.methodLink RX0 100 Lib.Math.abs.name, Cond.static Lib.Math.abs.name, Cond.initialized "java/lang/Math", Cond.code Lib.Math.abs.name Lib.Math.abs.code 1 (some .int), Cond.fieldLink RX0 11 "HandBlinds$Blind" "rows" "[LHandBlinds$Row;", Cond.fieldLink RX0 92 "HandBlinds$Row" "torn" "Z", Cond.methodLink RX0 106 yX0_rowAfter, Cond.instanceMethod yX0_rowAfter, Cond.selects RX0 yX0_rowAfter yX0_rowAfter, Cond.code yX0_rowAfter cX0_rowAfter 3 (some .int), Cond.fieldLink RX0 53 "HandBlinds$Blind" "shown" "I"]
def wsX4_would_r2 : List Cond := [Cond.methodLink RX0 110 yX0_isEnd, Cond.instanceMethod yX0_isEnd, Cond.selects RX0 yX0_isEnd yX0_isEnd, Cond.code yX0_isEnd cX0_isEnd 3 (some .boolean), Cond.fieldLink RX0 50 "HandBlinds$Blind" "rowCount" "I", Cond.methodLink RX4 164 yX0_rowAfter, Cond.methodLink RX4 168 yX0_tearsOf, Cond.instanceMethod yX0_tearsOf, Cond.selects RX0 yX0_tearsOf yX0_tearsOf, Cond.code yX0_tearsOf cX0_tearsOf 6 (some .int), Cond.methodLink RX0 120 yX0_stepsOf, Cond.methodLink RX0 123 yX0_tearsAt, Cond.instanceMethod yX0_tearsAt, Cond.selects RX0 yX0_tearsAt yX0_tearsAt, Cond.code yX0_tearsAt cX0_tearsAt 4 (some .boolean), Cond.fieldLink RX0 117 "HandBlinds$Row" "wear" "I", Cond.fieldLink RX0 25 "HandBlinds$Blind" "settings" "[I", Cond.methodLink RX0 114 yX0_isSkipped, Cond.instanceMethod yX0_isSkipped, Cond.selects RX0 yX0_isSkipped yX0_isSkipped, Cond.code yX0_isSkipped cX0_isSkipped 3 (some .boolean), Cond.methodLink RX4 171 yX0_endOf, Cond.instanceMethod yX0_endOf, Cond.selects RX0 yX0_endOf yX0_endOf]
def wsX4_would_r3 : List Cond := [Cond.code yX0_endOf cX0_endOf 3 (some .int)]
def wsX4_would : List Cond := .code yX4_would cX4_would 5 (some .int) :: ((wsX4_would_r1 ++ (wsX4_would_r2 ++ wsX4_would_r3)) ++ wsX40 ++ wsX00 ++ wsX20)
def wsX4_nearest_r1 : List Cond := [Cond.constant RX4 57 (-1000001), Cond.fieldLink RX4 19 "HandBlinds" "now" "LHandBlinds$Blind;", Cond.constant RX4 138 (-1000004), Cond.fieldLink RX4 65 "HandBlinds$Blind" "shown" "I", Cond.methodLink RX4 174 yX0_nearestRight, Cond.instanceMethod yX0_nearestRight, Cond.selects RX0 yX0_nearestRight yX0_nearestRight, Cond.initialized RX0, Cond.code yX0_nearestRight cX0_nearestRight 4 (some .int), Cond.fieldLink RX0 50 "HandBlinds$Blind" "rowCount" "I", Cond.fieldLink RX0 53 "HandBlinds$Blind" "shown" "I", Cond.methodLink RX0 100 Lib.Math.abs.name, Cond.static Lib.Math.abs.name, Cond.initialized "java/lang/Math", Cond.code Lib.Math.abs.name Lib.Math.abs.code 1 (some .int), Cond.methodLink RX0 131 yX0_wrongOf, Cond.instanceMethod yX0_wrongOf, Cond.selects RX0 yX0_wrongOf yX0_wrongOf, Cond.code yX0_wrongOf cX0_wrongOf 3 (some .int), Cond.fieldLink RX0 11 "HandBlinds$Blind" "rows" "[LHandBlinds$Row;", Cond.fieldLink RX0 92 "HandBlinds$Row" "torn" "Z", Cond.fieldLink RX0 38 "HandBlinds$Blind" "driven" "I", Cond.fieldLink RX0 20 "HandBlinds$Blind" "routes" "[LHandBlinds$Route;", Cond.methodLink RX0 137 yX0_hasRow]
def wsX4_nearest_r2 : List Cond := [Cond.instanceMethod yX0_hasRow, Cond.selects RX0 yX0_hasRow yX0_hasRow, Cond.code yX0_hasRow cX0_hasRow 2 (some .boolean), Cond.methodLink RX0 140 yX2_kind, Cond.instanceMethod yX2_kind, Cond.selects RX2 yX2_kind yX2_kind, Cond.initialized RX2, Cond.code yX2_kind cX2_kind 1 (some .int), Cond.fieldLink RX2 21 "HandBlinds$Row" "length" "I", Cond.methodLink RX2 43 yX2_isNamed, Cond.instanceMethod yX2_isNamed, Cond.selects RX2 yX2_isNamed yX2_isNamed, Cond.code yX2_isNamed cX2_isNamed 3 (some .boolean), Cond.fieldLink RX2 9 "HandBlinds$Row" "letters" "[C", Cond.methodLink RX2 51 yJ0_length_8abf5, Cond.instanceMethod yJ0_length_8abf5, Cond.selects RJ0 yJ0_length_8abf5 yJ0_length_8abf5, Cond.initialized RJ0, Cond.code yJ0_length_8abf5 cJ0_length_8abf5 1 (some .int), Cond.fieldLink RJ0 9 "java/lang/String" "value" "[B", Cond.methodLink RJ0 335 yJ0_coder_7d493, Cond.instanceMethod yJ0_coder_7d493, Cond.selects RJ0 yJ0_coder_7d493 yJ0_coder_7d493, Cond.code yJ0_coder_7d493 cJ0_coder_7d493 1 (some .byte)]
def wsX4_nearest_r3 : List Cond := [Cond.fieldLink RJ0 38 "java/lang/String" "COMPACT_STRINGS" "Z", Cond.fieldLink RJ0 15 "java/lang/String" "coder" "B", Cond.methodLink RX2 56 yJ0_charAt_5068e, Cond.instanceMethod yJ0_charAt_5068e, Cond.selects RJ0 yJ0_charAt_5068e yJ0_charAt_5068e, Cond.code yJ0_charAt_5068e cJ0_charAt_5068e 2 (some .char), Cond.methodLink RJ0 492 yJ0_isLatin1_aae02, Cond.instanceMethod yJ0_isLatin1_aae02, Cond.selects RJ0 yJ0_isLatin1_aae02 yJ0_isLatin1_aae02, Cond.code yJ0_isLatin1_aae02 cJ0_isLatin1_aae02 1 (some .boolean), Cond.methodLink RJ0 495 yJ1_charAt_3b067, Cond.static yJ1_charAt_3b067, Cond.initialized RJ1, Cond.code yJ1_charAt_3b067 cJ1_charAt_3b067 2 (some .char), Cond.methodLink RJ1 9 yJ0_checkIndex_df160, Cond.static yJ0_checkIndex_df160, Cond.code yJ0_checkIndex_df160 cJ0_checkIndex_df160 2 none, Cond.fieldLink RJ0 1053 "jdk/internal/util/Preconditions" "SIOOBE_FORMATTER" "Ljava/util/function/BiFunction;", Cond.methodLink RJ0 1059 yJ3_checkIndex_8e157, Cond.static yJ3_checkIndex_8e157, Cond.initialized RJ3, Cond.code yJ3_checkIndex_8e157 cJ3_checkIndex_8e157 3 (some .int), Cond.methodLink RJ0 498 yJ2_charAt_3b067, Cond.static yJ2_charAt_3b067]
def wsX4_nearest_r4 : List Cond := [Cond.initialized RJ2, Cond.code yJ2_charAt_3b067 cJ2_charAt_3b067 2 (some .char), Cond.methodLink RJ2 67 yJ2_checkIndex_2214a, Cond.static yJ2_checkIndex_2214a, Cond.code yJ2_checkIndex_2214a cJ2_checkIndex_2214a 2 none, Cond.methodLink RJ2 48 yJ2_length_9d52b, Cond.static yJ2_length_9d52b, Cond.code yJ2_length_9d52b cJ2_length_9d52b 1 (some .int), Cond.methodLink RJ2 414 yJ0_checkIndex_df160, Cond.methodLink RJ2 71 yJ2_getChar_3b067, Cond.static yJ2_getChar_3b067, Cond.code yJ2_getChar_3b067 cJ2_getChar_3b067 2 (some .char), Cond.fieldLink RJ2 44 "java/lang/StringUTF16" "$assertionsDisabled" "Z", Cond.fieldLink RJ2 59 "java/lang/StringUTF16" "HI_BYTE_SHIFT" "I", Cond.fieldLink RJ2 63 "java/lang/StringUTF16" "LO_BYTE_SHIFT" "I", Cond.methodLink RX0 134 yX0_hasRoute, Cond.instanceMethod yX0_hasRoute, Cond.selects RX0 yX0_hasRoute yX0_hasRoute, Cond.code yX0_hasRoute cX0_hasRoute 2 (some .boolean), Cond.fieldLink RX0 56 "HandBlinds$Blind" "routeCount" "I", Cond.methodLink RX0 88 yX1_owns, Cond.instanceMethod yX1_owns, Cond.selects RX1 yX1_owns yX1_owns, Cond.initialized RX1]
def wsX4_nearest_r5 : List Cond := [Cond.code yX1_owns cX1_owns 2 (some .boolean), Cond.fieldLink RX1 7 "HandBlinds$Route" "rows" "I", Cond.methodLink RX0 96 yX2_width, Cond.instanceMethod yX2_width, Cond.selects RX2 yX2_width yX2_width, Cond.code yX2_width cX2_width 3 (some .int), Cond.static yX4_letterWidth, Cond.initialized RX4, Cond.code yX4_letterWidth cX4_letterWidth 1 (some .int), Cond.methodLink RX0 143 yX0_squeezed, Cond.instanceMethod yX0_squeezed, Cond.selects RX0 yX0_squeezed yX0_squeezed, Cond.code yX0_squeezed cX0_squeezed 3 (some .int), Cond.fieldLink RX0 25 "HandBlinds$Blind" "settings" "[I"]
def wsX4_nearest : List Cond := .code yX4_nearest cX4_nearest 3 (some .int) :: ((wsX4_nearest_r1 ++ (wsX4_nearest_r2 ++ (wsX4_nearest_r3 ++ (wsX4_nearest_r4 ++ wsX4_nearest_r5)))) ++ wsX40 ++ wsX00 ++ wsX20 ++ wsX10)
def wsX4_alike : List Cond := .code yX4_alike cX4_alike 3 (some .int) :: ([.fieldLink RX4 19 "HandBlinds" "now" "LHandBlinds$Blind;", .constant RX4 57 (-1000001), .fieldLink RX4 72 "HandBlinds$Blind" "rows" "[LHandBlinds$Row;", .methodLink RX4 53 yX0_hasRow, .instanceMethod yX0_hasRow, .selects RX0 yX0_hasRow yX0_hasRow, .initialized RX0, .code yX0_hasRow cX0_hasRow 2 (some .boolean), .fieldLink RX0 50 "HandBlinds$Blind" "rowCount" "I", .methodLink RX4 177 yX2_sharedStart, .instanceMethod yX2_sharedStart, .selects RX2 yX2_sharedStart yX2_sharedStart, .initialized RX2, .code yX2_sharedStart cX2_sharedStart 3 (some .int), .fieldLink RX2 21 "HandBlinds$Row" "length" "I", .fieldLink RX2 9 "HandBlinds$Row" "letters" "[C"] ++ wsX40 ++ wsX00 ++ wsX20)
def wsX4_read_r1 : List Cond := [Cond.constant RX4 57 (-1000001), Cond.fieldLink RX4 19 "HandBlinds" "now" "LHandBlinds$Blind;", Cond.fieldLink RX4 65 "HandBlinds$Blind" "shown" "I", Cond.constant RX4 138 (-1000004), Cond.fieldLink RX4 72 "HandBlinds$Blind" "rows" "[LHandBlinds$Row;", Cond.methodLink RX4 53 yX0_hasRow, Cond.instanceMethod yX0_hasRow, Cond.selects RX0 yX0_hasRow yX0_hasRow, Cond.initialized RX0, Cond.code yX0_hasRow cX0_hasRow 2 (some .boolean), Cond.fieldLink RX0 50 "HandBlinds$Blind" "rowCount" "I", Cond.methodLink RX4 181 yX0_legible, Cond.instanceMethod yX0_legible, Cond.selects RX0 yX0_legible yX0_legible, Cond.code yX0_legible cX0_legible 7 (some .int), Cond.fieldLink RX0 92 "HandBlinds$Row" "torn" "Z", Cond.fieldLink RX0 146 "HandBlinds$Row" "length" "I", Cond.fieldLink RX0 149 "HandBlinds$Row" "letters" "[C", Cond.fieldLink RX0 25 "HandBlinds$Blind" "settings" "[I", Cond.methodLink RX0 96 yX2_width, Cond.instanceMethod yX2_width, Cond.selects RX2 yX2_width yX2_width, Cond.initialized RX2, Cond.code yX2_width cX2_width 3 (some .int)]
def wsX4_read_r2 : List Cond := [Cond.fieldLink RX2 21 "HandBlinds$Row" "length" "I", Cond.fieldLink RX2 9 "HandBlinds$Row" "letters" "[C", Cond.static yX4_letterWidth, Cond.initialized RX4, Cond.code yX4_letterWidth cX4_letterWidth 1 (some .int), Cond.methodLink RX0 143 yX0_squeezed, Cond.instanceMethod yX0_squeezed, Cond.selects RX0 yX0_squeezed yX0_squeezed, Cond.code yX0_squeezed cX0_squeezed 3 (some .int)]
def wsX4_read : List Cond := .code yX4_read cX4_read 2 (some .int) :: ((wsX4_read_r1 ++ wsX4_read_r2) ++ wsX40 ++ wsX00 ++ wsX20)
def wsX4_find : List Cond := .code yX4_find cX4_find 2 (some .int) :: ([.fieldLink RX4 19 "HandBlinds" "now" "LHandBlinds$Blind;", .fieldLink RX4 62 "HandBlinds$Blind" "rowCount" "I", .fieldLink RX4 10 "HandBlinds" "text" "LHandBlinds$Text;", .fieldLink RX4 72 "HandBlinds$Blind" "rows" "[LHandBlinds$Row;", .constant RX4 138 (-1000004), .methodLink RX4 185 yX3_isNameOf, .instanceMethod yX3_isNameOf, .selects RX3 yX3_isNameOf yX3_isNameOf, .initialized RX3, .code yX3_isNameOf cX3_isNameOf 3 (some .boolean), .fieldLink RX3 27 "HandBlinds$Row" "length" "I", .fieldLink RX3 15 "HandBlinds$Text" "length" "I", .fieldLink RX3 30 "HandBlinds$Row" "letters" "[C", .fieldLink RX3 9 "HandBlinds$Text" "signs" "[C"] ++ wsX40 ++ wsX00 ++ wsX20 ++ wsX30)
def wsX4_floatBits : List Cond := .code yX4_floatBits cX4_floatBits 4 (some .int) :: ([.constantFloat RX4 228 (1258291200)])
def wsX4_mean : List Cond := .code yX4_mean cX4_mean 1 (some .int) :: ([.fieldLink RX4 19 "HandBlinds" "now" "LHandBlinds$Blind;", .fieldLink RX4 62 "HandBlinds$Blind" "rowCount" "I", .constant RX4 138 (-1000004), .methodLink RX4 189 yX0_widthOfAll, .instanceMethod yX0_widthOfAll, .selects RX0 yX0_widthOfAll yX0_widthOfAll, .initialized RX0, .code yX0_widthOfAll cX0_widthOfAll 3 (some .int), .fieldLink RX0 50 "HandBlinds$Blind" "rowCount" "I", .fieldLink RX0 11 "HandBlinds$Blind" "rows" "[LHandBlinds$Row;", .methodLink RX0 96 yX2_width, .instanceMethod yX2_width, .selects RX2 yX2_width yX2_width, .initialized RX2, .code yX2_width cX2_width 3 (some .int), .fieldLink RX2 21 "HandBlinds$Row" "length" "I", .fieldLink RX2 9 "HandBlinds$Row" "letters" "[C", .static yX4_letterWidth, .initialized RX4, .code yX4_letterWidth cX4_letterWidth 1 (some .int), .methodLink RX4 192 yX4_floatBits, .static yX4_floatBits, .code yX4_floatBits cX4_floatBits 4 (some .int), .constantFloat RX4 228 (1258291200)] ++ wsX40 ++ wsX00 ++ wsX20)
def wsX4_count_r1 : List Cond := [Cond.fieldLink RX4 19 "HandBlinds" "now" "LHandBlinds$Blind;", Cond.fieldLink RX4 62 "HandBlinds$Blind" "rowCount" "I", Cond.constant RX4 138 (-1000004), Cond.fieldLink RX4 65 "HandBlinds$Blind" "shown" "I", Cond.fieldLink RX4 95 "HandBlinds$Blind" "routeCount" "I", Cond.fieldLink RX4 105 "HandBlinds$Blind" "driven" "I", Cond.fieldLink RX4 196 "HandBlinds$Blind" "tears" "I", Cond.fieldLink RX4 199 "HandBlinds$Blind" "passed" "I", Cond.fieldLink RX4 202 "HandBlinds$Blind" "stops" "I", Cond.fieldLink RX4 203 "HandBlinds$Blind" "rightStops" "I", Cond.fieldLink RX4 27 "HandBlinds" "states" "I", Cond.fieldLink RX4 10 "HandBlinds" "text" "LHandBlinds$Text;", Cond.fieldLink RX4 39 "HandBlinds$Text" "length" "I", Cond.fieldLink RX4 118 "HandBlinds$Blind" "settings" "[I", Cond.constant RX4 57 (-1000001), Cond.methodLink RX4 152 yX0_tornRows, Cond.instanceMethod yX0_tornRows, Cond.selects RX0 yX0_tornRows yX0_tornRows, Cond.initialized RX0, Cond.code yX0_tornRows cX0_tornRows 3 (some .int), Cond.fieldLink RX0 50 "HandBlinds$Blind" "rowCount" "I", Cond.fieldLink RX0 11 "HandBlinds$Blind" "rows" "[LHandBlinds$Row;", Cond.fieldLink RX0 92 "HandBlinds$Row" "torn" "Z", Cond.methodLink RX4 204 yX0_wrongOf]
def wsX4_count_r2 : List Cond := [Cond.instanceMethod yX0_wrongOf, Cond.selects RX0 yX0_wrongOf yX0_wrongOf, Cond.code yX0_wrongOf cX0_wrongOf 3 (some .int), Cond.fieldLink RX0 38 "HandBlinds$Blind" "driven" "I", Cond.fieldLink RX0 20 "HandBlinds$Blind" "routes" "[LHandBlinds$Route;", Cond.methodLink RX0 137 yX0_hasRow, Cond.instanceMethod yX0_hasRow, Cond.selects RX0 yX0_hasRow yX0_hasRow, Cond.code yX0_hasRow cX0_hasRow 2 (some .boolean), Cond.methodLink RX0 140 yX2_kind, Cond.instanceMethod yX2_kind, Cond.selects RX2 yX2_kind yX2_kind, Cond.initialized RX2, Cond.code yX2_kind cX2_kind 1 (some .int), Cond.fieldLink RX2 21 "HandBlinds$Row" "length" "I", Cond.methodLink RX2 43 yX2_isNamed, Cond.instanceMethod yX2_isNamed, Cond.selects RX2 yX2_isNamed yX2_isNamed, Cond.code yX2_isNamed cX2_isNamed 3 (some .boolean), Cond.fieldLink RX2 9 "HandBlinds$Row" "letters" "[C", Cond.methodLink RX2 51 yJ0_length_8abf5, Cond.instanceMethod yJ0_length_8abf5, Cond.selects RJ0 yJ0_length_8abf5 yJ0_length_8abf5, Cond.initialized RJ0]
def wsX4_count_r3 : List Cond := [Cond.code yJ0_length_8abf5 cJ0_length_8abf5 1 (some .int), Cond.fieldLink RJ0 9 "java/lang/String" "value" "[B", Cond.methodLink RJ0 335 yJ0_coder_7d493, Cond.instanceMethod yJ0_coder_7d493, Cond.selects RJ0 yJ0_coder_7d493 yJ0_coder_7d493, Cond.code yJ0_coder_7d493 cJ0_coder_7d493 1 (some .byte), Cond.fieldLink RJ0 38 "java/lang/String" "COMPACT_STRINGS" "Z", Cond.fieldLink RJ0 15 "java/lang/String" "coder" "B", Cond.methodLink RX2 56 yJ0_charAt_5068e, Cond.instanceMethod yJ0_charAt_5068e, Cond.selects RJ0 yJ0_charAt_5068e yJ0_charAt_5068e, Cond.code yJ0_charAt_5068e cJ0_charAt_5068e 2 (some .char), Cond.methodLink RJ0 492 yJ0_isLatin1_aae02, Cond.instanceMethod yJ0_isLatin1_aae02, Cond.selects RJ0 yJ0_isLatin1_aae02 yJ0_isLatin1_aae02, Cond.code yJ0_isLatin1_aae02 cJ0_isLatin1_aae02 1 (some .boolean), Cond.methodLink RJ0 495 yJ1_charAt_3b067, Cond.static yJ1_charAt_3b067, Cond.initialized RJ1, Cond.code yJ1_charAt_3b067 cJ1_charAt_3b067 2 (some .char), Cond.methodLink RJ1 9 yJ0_checkIndex_df160, Cond.static yJ0_checkIndex_df160, Cond.code yJ0_checkIndex_df160 cJ0_checkIndex_df160 2 none, Cond.fieldLink RJ0 1053 "jdk/internal/util/Preconditions" "SIOOBE_FORMATTER" "Ljava/util/function/BiFunction;"]
def wsX4_count_r4 : List Cond := [Cond.methodLink RJ0 1059 yJ3_checkIndex_8e157, Cond.static yJ3_checkIndex_8e157, Cond.initialized RJ3, Cond.code yJ3_checkIndex_8e157 cJ3_checkIndex_8e157 3 (some .int), Cond.methodLink RJ0 498 yJ2_charAt_3b067, Cond.static yJ2_charAt_3b067, Cond.initialized RJ2, Cond.code yJ2_charAt_3b067 cJ2_charAt_3b067 2 (some .char), Cond.methodLink RJ2 67 yJ2_checkIndex_2214a, Cond.static yJ2_checkIndex_2214a, Cond.code yJ2_checkIndex_2214a cJ2_checkIndex_2214a 2 none, Cond.methodLink RJ2 48 yJ2_length_9d52b, Cond.static yJ2_length_9d52b, Cond.code yJ2_length_9d52b cJ2_length_9d52b 1 (some .int), Cond.methodLink RJ2 414 yJ0_checkIndex_df160, Cond.methodLink RJ2 71 yJ2_getChar_3b067, Cond.static yJ2_getChar_3b067, Cond.code yJ2_getChar_3b067 cJ2_getChar_3b067 2 (some .char), Cond.fieldLink RJ2 44 "java/lang/StringUTF16" "$assertionsDisabled" "Z", Cond.fieldLink RJ2 59 "java/lang/StringUTF16" "HI_BYTE_SHIFT" "I", Cond.fieldLink RJ2 63 "java/lang/StringUTF16" "LO_BYTE_SHIFT" "I", Cond.methodLink RX0 134 yX0_hasRoute, Cond.instanceMethod yX0_hasRoute, Cond.selects RX0 yX0_hasRoute yX0_hasRoute]
def wsX4_count_r5 : List Cond := [Cond.code yX0_hasRoute cX0_hasRoute 2 (some .boolean), Cond.fieldLink RX0 56 "HandBlinds$Blind" "routeCount" "I", Cond.methodLink RX0 88 yX1_owns, Cond.instanceMethod yX1_owns, Cond.selects RX1 yX1_owns yX1_owns, Cond.initialized RX1, Cond.code yX1_owns cX1_owns 2 (some .boolean), Cond.fieldLink RX1 7 "HandBlinds$Route" "rows" "I", Cond.methodLink RX0 96 yX2_width, Cond.instanceMethod yX2_width, Cond.selects RX2 yX2_width yX2_width, Cond.code yX2_width cX2_width 3 (some .int), Cond.static yX4_letterWidth, Cond.initialized RX4, Cond.code yX4_letterWidth cX4_letterWidth 1 (some .int), Cond.methodLink RX0 143 yX0_squeezed, Cond.instanceMethod yX0_squeezed, Cond.selects RX0 yX0_squeezed yX0_squeezed, Cond.code yX0_squeezed cX0_squeezed 3 (some .int), Cond.fieldLink RX0 25 "HandBlinds$Blind" "settings" "[I", Cond.methodLink RX4 207 yX0_widest, Cond.instanceMethod yX0_widest, Cond.selects RX0 yX0_widest yX0_widest, Cond.code yX0_widest cX0_widest 3 (some .int)]
def wsX4_count : List Cond := .code yX4_count cX4_count 2 (some .int) :: ((wsX4_count_r1 ++ (wsX4_count_r2 ++ (wsX4_count_r3 ++ (wsX4_count_r4 ++ wsX4_count_r5)))) ++ wsX40 ++ wsX00 ++ wsX30 ++ wsX20 ++ wsX10)
def wsX4_undo_r1 : List Cond := [Cond.fieldLink RX4 27 "HandBlinds" "states" "I", Cond.constant RX4 35 (-1000002), Cond.fieldLink RX4 19 "HandBlinds" "now" "LHandBlinds$Blind;", Cond.fieldLink RX4 23 "HandBlinds" "history" "[LHandBlinds$Blind;", Cond.methodLink RX4 210 yX0_become, Cond.instanceMethod yX0_become, Cond.selects RX0 yX0_become yX0_become, Cond.initialized RX0, Cond.code yX0_become cX0_become 3 none, Cond.fieldLink RX0 11 "HandBlinds$Blind" "rows" "[LHandBlinds$Row;", Cond.fieldLink RX0 20 "HandBlinds$Blind" "routes" "[LHandBlinds$Route;", Cond.fieldLink RX0 25 "HandBlinds$Blind" "settings" "[I", Cond.methodLink RX0 32 arraycopyName, Cond.native arraycopyName, Cond.static arraycopyName, Cond.initialized "java/lang/System", Cond.fieldLink RX0 50 "HandBlinds$Blind" "rowCount" "I", Cond.fieldLink RX0 53 "HandBlinds$Blind" "shown" "I", Cond.fieldLink RX0 56 "HandBlinds$Blind" "routeCount" "I", Cond.fieldLink RX0 38 "HandBlinds$Blind" "driven" "I", Cond.fieldLink RX0 59 "HandBlinds$Blind" "tears" "I", Cond.fieldLink RX0 62 "HandBlinds$Blind" "passed" "I", Cond.fieldLink RX0 65 "HandBlinds$Blind" "stops" "I", Cond.fieldLink RX0 68 "HandBlinds$Blind" "rightStops" "I"]
def wsX4_undo_r2 : List Cond := [Cond.methodLink RX0 42 yX2_copyRow, Cond.instanceMethod yX2_copyRow, Cond.selects RX2 yX2_copyRow yX2_copyRow, Cond.initialized RX2, Cond.code yX2_copyRow cX2_copyRow 2 none, Cond.fieldLink RX2 9 "HandBlinds$Row" "letters" "[C", Cond.methodLink RX2 15 arraycopyName, Cond.fieldLink RX2 21 "HandBlinds$Row" "length" "I", Cond.fieldLink RX2 25 "HandBlinds$Row" "wear" "I", Cond.fieldLink RX2 28 "HandBlinds$Row" "torn" "Z", Cond.methodLink RX0 46 yX1_copyRoute, Cond.instanceMethod yX1_copyRoute, Cond.selects RX1 yX1_copyRoute yX1_copyRoute, Cond.initialized RX1, Cond.code yX1_copyRoute cX1_copyRoute 2 none, Cond.fieldLink RX1 7 "HandBlinds$Route" "rows" "I", Cond.fieldLink RX1 13 "HandBlinds$Route" "stops" "I", Cond.fieldLink RX1 16 "HandBlinds$Route" "rightStops" "I"]
def wsX4_undo : List Cond := .code yX4_undo cX4_undo 1 (some .int) :: ((wsX4_undo_r1 ++ wsX4_undo_r2) ++ wsX40 ++ wsX00 ++ wsX20 ++ wsX10)
def wsX4_type : List Cond := .code yX4_type cX4_type 2 (some .int) :: ([.constant RX4 57 (-1000001), .fieldLink RX4 10 "HandBlinds" "text" "LHandBlinds$Text;", .fieldLink RX4 39 "HandBlinds$Text" "length" "I", .constant RX4 98 (-1000003), .methodLink RX4 214 yX3_append, .instanceMethod yX3_append, .selects RX3 yX3_append yX3_append, .initialized RX3, .code yX3_append cX3_append 2 none, .fieldLink RX3 15 "HandBlinds$Text" "length" "I", .fieldLink RX3 9 "HandBlinds$Text" "signs" "[C"] ++ wsX40 ++ wsX30)
def wsX4_clearText : List Cond := .code yX4_clearText cX4_clearText 2 (some .int) :: ([.fieldLink RX4 10 "HandBlinds" "text" "LHandBlinds$Text;", .fieldLink RX4 39 "HandBlinds$Text" "length" "I"] ++ wsX40 ++ wsX30)
def wsX4_faultCause_r1 : List Cond := [Cond.fieldLink RX4 10 "HandBlinds" "text" "LHandBlinds$Text;", Cond.fieldLink RX4 19 "HandBlinds" "now" "LHandBlinds$Blind;", Cond.methodLink RX4 46 yX3_endOfName, Cond.instanceMethod yX3_endOfName, Cond.selects RX3 yX3_endOfName yX3_endOfName, Cond.initialized RX3, Cond.code yX3_endOfName cX3_endOfName 3 (some .int), Cond.fieldLink RX3 15 "HandBlinds$Text" "length" "I", Cond.fieldLink RX3 9 "HandBlinds$Text" "signs" "[C", Cond.methodLink RX4 217 yX4_faultReason, Cond.instanceMethod yX4_faultReason, Cond.selects RX4 yX4_faultReason yX4_faultReason, Cond.initialized RX4, Cond.code yX4_faultReason cX4_faultReason 3 (some .int), Cond.fieldLink RX4 62 "HandBlinds$Blind" "rowCount" "I", Cond.methodLink RX4 223 yX3_breakOf, Cond.instanceMethod yX3_breakOf, Cond.selects RX3 yX3_breakOf yX3_breakOf, Cond.code yX3_breakOf cX3_breakOf 4 (some .int), Cond.methodLink RX3 19 yX3_fits, Cond.instanceMethod yX3_fits, Cond.selects RX3 yX3_fits yX3_fits, Cond.code yX3_fits cX3_fits 4 (some .boolean), Cond.methodLink RX4 226 yX3_width]
def wsX4_faultCause_r2 : List Cond := [Cond.instanceMethod yX3_width, Cond.selects RX3 yX3_width yX3_width, Cond.code yX3_width cX3_width 5 (some .int), Cond.static yX4_letterWidth, Cond.code yX4_letterWidth cX4_letterWidth 1 (some .int), Cond.methodLink RX4 125 yX0_squeezed, Cond.instanceMethod yX0_squeezed, Cond.selects RX0 yX0_squeezed yX0_squeezed, Cond.initialized RX0, Cond.code yX0_squeezed cX0_squeezed 3 (some .int), Cond.fieldLink RX0 25 "HandBlinds$Blind" "settings" "[I", Cond.methodLink RX4 42 yX3_namesAhead, Cond.instanceMethod yX3_namesAhead, Cond.selects RX3 yX3_namesAhead yX3_namesAhead, Cond.code yX3_namesAhead cX3_namesAhead 4 (some .int)]
def wsX4_faultCause : List Cond := .code yX4_faultCause cX4_faultCause 3 (some .int) :: ((wsX4_faultCause_r1 ++ wsX4_faultCause_r2) ++ wsX40 ++ wsX30 ++ wsX00)
def wsX4_fault_r1 : List Cond := [Cond.constant RX4 57 (-1000001), Cond.constant RX4 138 (-1000004), Cond.methodLink RX4 31 yX4_faultPlace, Cond.instanceMethod yX4_faultPlace, Cond.selects RX4 yX4_faultPlace yX4_faultPlace, Cond.initialized RX4, Cond.code yX4_faultPlace cX4_faultPlace 4 (some .int), Cond.fieldLink RX4 10 "HandBlinds" "text" "LHandBlinds$Text;", Cond.fieldLink RX4 39 "HandBlinds$Text" "length" "I", Cond.methodLink RX4 42 yX3_namesAhead, Cond.instanceMethod yX3_namesAhead, Cond.selects RX3 yX3_namesAhead yX3_namesAhead, Cond.initialized RX3, Cond.code yX3_namesAhead cX3_namesAhead 4 (some .int), Cond.fieldLink RX3 15 "HandBlinds$Text" "length" "I", Cond.fieldLink RX3 9 "HandBlinds$Text" "signs" "[C", Cond.methodLink RX4 217 yX4_faultReason, Cond.instanceMethod yX4_faultReason, Cond.selects RX4 yX4_faultReason yX4_faultReason, Cond.code yX4_faultReason cX4_faultReason 3 (some .int), Cond.fieldLink RX4 19 "HandBlinds" "now" "LHandBlinds$Blind;", Cond.fieldLink RX4 62 "HandBlinds$Blind" "rowCount" "I", Cond.methodLink RX4 46 yX3_endOfName, Cond.instanceMethod yX3_endOfName]
def wsX4_fault_r2 : List Cond := [Cond.selects RX3 yX3_endOfName yX3_endOfName, Cond.code yX3_endOfName cX3_endOfName 3 (some .int), Cond.methodLink RX4 223 yX3_breakOf, Cond.instanceMethod yX3_breakOf, Cond.selects RX3 yX3_breakOf yX3_breakOf, Cond.code yX3_breakOf cX3_breakOf 4 (some .int), Cond.methodLink RX3 19 yX3_fits, Cond.instanceMethod yX3_fits, Cond.selects RX3 yX3_fits yX3_fits, Cond.code yX3_fits cX3_fits 4 (some .boolean), Cond.methodLink RX4 226 yX3_width, Cond.instanceMethod yX3_width, Cond.selects RX3 yX3_width yX3_width, Cond.code yX3_width cX3_width 5 (some .int), Cond.static yX4_letterWidth, Cond.code yX4_letterWidth cX4_letterWidth 1 (some .int), Cond.methodLink RX4 125 yX0_squeezed, Cond.instanceMethod yX0_squeezed, Cond.selects RX0 yX0_squeezed yX0_squeezed, Cond.initialized RX0, Cond.code yX0_squeezed cX0_squeezed 3 (some .int), Cond.fieldLink RX0 25 "HandBlinds$Blind" "settings" "[I", Cond.methodLink RX4 220 yX4_faultCause, Cond.instanceMethod yX4_faultCause]
def wsX4_fault_r3 : List Cond := [Cond.selects RX4 yX4_faultCause yX4_faultCause, Cond.code yX4_faultCause cX4_faultCause 3 (some .int)]
def wsX4_fault : List Cond := .code yX4_fault cX4_fault 3 (some .int) :: ((wsX4_fault_r1 ++ (wsX4_fault_r2 ++ wsX4_fault_r3)) ++ wsX40 ++ wsX30 ++ wsX00)
def wsX5_init : List Cond := .code yX5_init cX5_init 1 none :: ([.methodLink RX5 1 objectInit, .instanceMethod objectInit, .code objectInit ⟨#[0xb1]⟩ 1 none, .arrayClass .int, .fieldLink RX5 7 "HandBlindsModel" "s" "[I", .fieldLink RX5 13 "HandBlindsModel" "past" "[I", .fieldLink RX5 16 "HandBlindsModel" "tried" "[I", .fieldLink RX5 19 "HandBlindsModel" "text" "[I"] ++ wsX50)
def wsX5_in : List Cond := .code yX5_in cX5_in 3 (some .boolean) :: ([])
def wsX5_copies : List Cond := .code yX5_copies cX5_copies 3 none :: ([])
def wsX5_changes : List Cond := .code yX5_changes cX5_changes 2 none :: ([.fieldLink RX5 22 "HandBlindsModel" "pasts" "I", .fieldLink RX5 13 "HandBlindsModel" "past" "[I", .fieldLink RX5 7 "HandBlindsModel" "s" "[I"] ++ wsX50)
def wsX5_ones : List Cond := .code yX5_ones cX5_ones 3 (some .int) :: ([])
def wsX5_isRow : List Cond := .code yX5_isRow cX5_isRow 2 (some .boolean) :: ([.fieldLink RX5 7 "HandBlindsModel" "s" "[I"] ++ wsX50)
def wsX5_isRoute : List Cond := .code yX5_isRoute cX5_isRoute 2 (some .boolean) :: ([.fieldLink RX5 7 "HandBlindsModel" "s" "[I"] ++ wsX50)
def wsX5_of : List Cond := .code yX5_of cX5_of 3 (some .int) :: ([.fieldLink RX5 7 "HandBlindsModel" "s" "[I"] ++ wsX50)
def wsX5_sets : List Cond := .code yX5_sets cX5_sets 4 none :: ([.fieldLink RX5 7 "HandBlindsModel" "s" "[I"] ++ wsX50)
def wsX5_ofRoute : List Cond := .code yX5_ofRoute cX5_ofRoute 3 (some .int) :: ([.fieldLink RX5 7 "HandBlindsModel" "s" "[I"] ++ wsX50)
def wsX5_wide : List Cond := .code yX5_wide cX5_wide 1 (some .int) :: ([])
def wsX5_width : List Cond := .code yX5_width cX5_width 4 (some .int) :: ([.methodLink RX5 26 yX5_of, .instanceMethod yX5_of, .selects RX5 yX5_of yX5_of, .initialized RX5, .code yX5_of cX5_of 3 (some .int), .fieldLink RX5 7 "HandBlindsModel" "s" "[I", .methodLink RX5 30 yX5_wide, .static yX5_wide, .code yX5_wide cX5_wide 1 (some .int)] ++ wsX50)
def wsX5_squeezed : List Cond := .code yX5_squeezed cX5_squeezed 2 (some .int) :: ([.fieldLink RX5 7 "HandBlindsModel" "s" "[I"] ++ wsX50)
def wsX5_isName : List Cond := .code yX5_isName cX5_isName 7 (some .boolean) :: ([.constantLong RX5 34 (32), .methodLink RX5 26 yX5_of, .instanceMethod yX5_of, .selects RX5 yX5_of yX5_of, .initialized RX5, .code yX5_of cX5_of 3 (some .int), .fieldLink RX5 7 "HandBlindsModel" "s" "[I"] ++ wsX50)
def wsX5_kind : List Cond := .code yX5_kind cX5_kind 2 (some .int) :: ([.constantLong RX5 36 (4375028), .constantLong RX5 42 (20433497), .constantLong RX5 44 (17794008709), .methodLink RX5 38 yX5_isName, .instanceMethod yX5_isName, .selects RX5 yX5_isName yX5_isName, .initialized RX5, .code yX5_isName cX5_isName 7 (some .boolean), .constantLong RX5 34 (32), .methodLink RX5 26 yX5_of, .instanceMethod yX5_of, .selects RX5 yX5_of yX5_of, .code yX5_of cX5_of 3 (some .int), .fieldLink RX5 7 "HandBlindsModel" "s" "[I"] ++ wsX50)
def wsX5_fails : List Cond := .code yX5_fails cX5_fails 3 (some .boolean) :: ([.fieldLink RX5 46 "HandBlindsModel" "reason" "I", .fieldLink RX5 49 "HandBlindsModel" "cause" "I"] ++ wsX50)
def wsX5_isEnd : List Cond := .code yX5_isEnd cX5_isEnd 1 (some .boolean) :: ([.fieldLink RX5 52 "HandBlindsModel" "spot" "I", .fieldLink RX5 55 "HandBlindsModel" "typed" "I", .fieldLink RX5 19 "HandBlindsModel" "text" "[I"] ++ wsX50)
def wsX5_mayStand : List Cond := .code yX5_mayStand cX5_mayStand 3 (some .boolean) :: ([.fieldLink RX5 52 "HandBlindsModel" "spot" "I", .fieldLink RX5 58 "HandBlindsModel" "from" "I", .fieldLink RX5 19 "HandBlindsModel" "text" "[I", .methodLink RX5 61 yX5_in, .static yX5_in, .initialized RX5, .code yX5_in cX5_in 3 (some .boolean)] ++ wsX50)
def wsX5_isFormed : List Cond := .code yX5_isFormed cX5_isFormed 2 (some .boolean) :: ([.fieldLink RX5 52 "HandBlindsModel" "spot" "I", .fieldLink RX5 58 "HandBlindsModel" "from" "I", .fieldLink RX5 19 "HandBlindsModel" "text" "[I", .methodLink RX5 65 yX5_isEnd, .instanceMethod yX5_isEnd, .selects RX5 yX5_isEnd yX5_isEnd, .initialized RX5, .code yX5_isEnd cX5_isEnd 1 (some .boolean), .fieldLink RX5 55 "HandBlindsModel" "typed" "I", .methodLink RX5 69 yX5_mayStand, .instanceMethod yX5_mayStand, .selects RX5 yX5_mayStand yX5_mayStand, .code yX5_mayStand cX5_mayStand 3 (some .boolean), .methodLink RX5 61 yX5_in, .static yX5_in, .code yX5_in cX5_in 3 (some .boolean), .methodLink RX5 72 yX5_fails, .instanceMethod yX5_fails, .selects RX5 yX5_fails yX5_fails, .code yX5_fails cX5_fails 3 (some .boolean), .fieldLink RX5 46 "HandBlindsModel" "reason" "I", .fieldLink RX5 49 "HandBlindsModel" "cause" "I"] ++ wsX50)
def wsX5_adds_r1 : List Cond := [Cond.fieldLink RX5 52 "HandBlindsModel" "spot" "I", Cond.fieldLink RX5 58 "HandBlindsModel" "from" "I", Cond.fieldLink RX5 19 "HandBlindsModel" "text" "[I", Cond.fieldLink RX5 7 "HandBlindsModel" "s" "[I", Cond.methodLink RX5 76 yX5_isFormed, Cond.instanceMethod yX5_isFormed, Cond.selects RX5 yX5_isFormed yX5_isFormed, Cond.initialized RX5, Cond.code yX5_isFormed cX5_isFormed 2 (some .boolean), Cond.methodLink RX5 65 yX5_isEnd, Cond.instanceMethod yX5_isEnd, Cond.selects RX5 yX5_isEnd yX5_isEnd, Cond.code yX5_isEnd cX5_isEnd 1 (some .boolean), Cond.fieldLink RX5 55 "HandBlindsModel" "typed" "I", Cond.methodLink RX5 69 yX5_mayStand, Cond.instanceMethod yX5_mayStand, Cond.selects RX5 yX5_mayStand yX5_mayStand, Cond.code yX5_mayStand cX5_mayStand 3 (some .boolean), Cond.methodLink RX5 61 yX5_in, Cond.static yX5_in, Cond.code yX5_in cX5_in 3 (some .boolean), Cond.methodLink RX5 72 yX5_fails, Cond.instanceMethod yX5_fails, Cond.selects RX5 yX5_fails yX5_fails]
def wsX5_adds_r2 : List Cond := [Cond.code yX5_fails cX5_fails 3 (some .boolean), Cond.fieldLink RX5 46 "HandBlindsModel" "reason" "I", Cond.fieldLink RX5 49 "HandBlindsModel" "cause" "I", Cond.methodLink RX5 30 yX5_wide, Cond.static yX5_wide, Cond.code yX5_wide cX5_wide 1 (some .int), Cond.methodLink RX5 79 yX5_squeezed, Cond.instanceMethod yX5_squeezed, Cond.selects RX5 yX5_squeezed yX5_squeezed, Cond.code yX5_squeezed cX5_squeezed 2 (some .int), Cond.methodLink RX5 82 yX5_sets, Cond.instanceMethod yX5_sets, Cond.selects RX5 yX5_sets yX5_sets, Cond.code yX5_sets cX5_sets 4 none]
def wsX5_adds : List Cond := .code yX5_adds cX5_adds 5 (some .boolean) :: ((wsX5_adds_r1 ++ wsX5_adds_r2) ++ wsX50)
def wsX5_addsAll_r1 : List Cond := [Cond.fieldLink RX5 52 "HandBlindsModel" "spot" "I", Cond.fieldLink RX5 86 "HandBlindsModel" "names" "I", Cond.fieldLink RX5 55 "HandBlindsModel" "typed" "I", Cond.methodLink RX5 89 yX5_adds, Cond.instanceMethod yX5_adds, Cond.selects RX5 yX5_adds yX5_adds, Cond.initialized RX5, Cond.code yX5_adds cX5_adds 5 (some .boolean), Cond.fieldLink RX5 58 "HandBlindsModel" "from" "I", Cond.fieldLink RX5 19 "HandBlindsModel" "text" "[I", Cond.fieldLink RX5 7 "HandBlindsModel" "s" "[I", Cond.methodLink RX5 76 yX5_isFormed, Cond.instanceMethod yX5_isFormed, Cond.selects RX5 yX5_isFormed yX5_isFormed, Cond.code yX5_isFormed cX5_isFormed 2 (some .boolean), Cond.methodLink RX5 65 yX5_isEnd, Cond.instanceMethod yX5_isEnd, Cond.selects RX5 yX5_isEnd yX5_isEnd, Cond.code yX5_isEnd cX5_isEnd 1 (some .boolean), Cond.methodLink RX5 69 yX5_mayStand, Cond.instanceMethod yX5_mayStand, Cond.selects RX5 yX5_mayStand yX5_mayStand, Cond.code yX5_mayStand cX5_mayStand 3 (some .boolean), Cond.methodLink RX5 61 yX5_in]
def wsX5_addsAll_r2 : List Cond := [Cond.static yX5_in, Cond.code yX5_in cX5_in 3 (some .boolean), Cond.methodLink RX5 72 yX5_fails, Cond.instanceMethod yX5_fails, Cond.selects RX5 yX5_fails yX5_fails, Cond.code yX5_fails cX5_fails 3 (some .boolean), Cond.fieldLink RX5 46 "HandBlindsModel" "reason" "I", Cond.fieldLink RX5 49 "HandBlindsModel" "cause" "I", Cond.methodLink RX5 30 yX5_wide, Cond.static yX5_wide, Cond.code yX5_wide cX5_wide 1 (some .int), Cond.methodLink RX5 79 yX5_squeezed, Cond.instanceMethod yX5_squeezed, Cond.selects RX5 yX5_squeezed yX5_squeezed, Cond.code yX5_squeezed cX5_squeezed 2 (some .int), Cond.methodLink RX5 82 yX5_sets, Cond.instanceMethod yX5_sets, Cond.selects RX5 yX5_sets yX5_sets, Cond.code yX5_sets cX5_sets 4 none]
def wsX5_addsAll : List Cond := .code yX5_addsAll cX5_addsAll 2 (some .boolean) :: ((wsX5_addsAll_r1 ++ wsX5_addsAll_r2) ++ wsX50)
def wsX5_fault_r1 : List Cond := [Cond.constant RX5 92 (-1000001), Cond.fieldLink RX5 7 "HandBlindsModel" "s" "[I", Cond.fieldLink RX5 16 "HandBlindsModel" "tried" "[I", Cond.constant RX5 100 (-1000004), Cond.fieldLink RX5 58 "HandBlindsModel" "from" "I", Cond.fieldLink RX5 46 "HandBlindsModel" "reason" "I", Cond.fieldLink RX5 49 "HandBlindsModel" "cause" "I", Cond.methodLink RX5 61 yX5_in, Cond.static yX5_in, Cond.initialized RX5, Cond.code yX5_in cX5_in 3 (some .boolean), Cond.methodLink RX5 93 yX5_copies, Cond.static yX5_copies, Cond.code yX5_copies cX5_copies 3 none, Cond.methodLink RX5 97 yX5_addsAll, Cond.instanceMethod yX5_addsAll, Cond.selects RX5 yX5_addsAll yX5_addsAll, Cond.code yX5_addsAll cX5_addsAll 2 (some .boolean), Cond.fieldLink RX5 52 "HandBlindsModel" "spot" "I", Cond.fieldLink RX5 86 "HandBlindsModel" "names" "I", Cond.fieldLink RX5 55 "HandBlindsModel" "typed" "I", Cond.methodLink RX5 89 yX5_adds, Cond.instanceMethod yX5_adds, Cond.selects RX5 yX5_adds yX5_adds]
def wsX5_fault_r2 : List Cond := [Cond.code yX5_adds cX5_adds 5 (some .boolean), Cond.fieldLink RX5 19 "HandBlindsModel" "text" "[I", Cond.methodLink RX5 76 yX5_isFormed, Cond.instanceMethod yX5_isFormed, Cond.selects RX5 yX5_isFormed yX5_isFormed, Cond.code yX5_isFormed cX5_isFormed 2 (some .boolean), Cond.methodLink RX5 65 yX5_isEnd, Cond.instanceMethod yX5_isEnd, Cond.selects RX5 yX5_isEnd yX5_isEnd, Cond.code yX5_isEnd cX5_isEnd 1 (some .boolean), Cond.methodLink RX5 69 yX5_mayStand, Cond.instanceMethod yX5_mayStand, Cond.selects RX5 yX5_mayStand yX5_mayStand, Cond.code yX5_mayStand cX5_mayStand 3 (some .boolean), Cond.methodLink RX5 72 yX5_fails, Cond.instanceMethod yX5_fails, Cond.selects RX5 yX5_fails yX5_fails, Cond.code yX5_fails cX5_fails 3 (some .boolean), Cond.methodLink RX5 30 yX5_wide, Cond.static yX5_wide, Cond.code yX5_wide cX5_wide 1 (some .int), Cond.methodLink RX5 79 yX5_squeezed, Cond.instanceMethod yX5_squeezed, Cond.selects RX5 yX5_squeezed yX5_squeezed]
def wsX5_fault_r3 : List Cond := [Cond.code yX5_squeezed cX5_squeezed 2 (some .int), Cond.methodLink RX5 82 yX5_sets, Cond.instanceMethod yX5_sets, Cond.selects RX5 yX5_sets yX5_sets, Cond.code yX5_sets cX5_sets 4 none]
def wsX5_fault : List Cond := .code yX5_fault cX5_fault 3 (some .int) :: ((wsX5_fault_r1 ++ (wsX5_fault_r2 ++ wsX5_fault_r3)) ++ wsX50)
def wsX5_add_r1 : List Cond := [Cond.fieldLink RX5 7 "HandBlindsModel" "s" "[I", Cond.fieldLink RX5 16 "HandBlindsModel" "tried" "[I", Cond.constant RX5 101 (-1000002), Cond.fieldLink RX5 86 "HandBlindsModel" "names" "I", Cond.constant RX5 100 (-1000004), Cond.methodLink RX5 93 yX5_copies, Cond.static yX5_copies, Cond.initialized RX5, Cond.code yX5_copies cX5_copies 3 none, Cond.methodLink RX5 97 yX5_addsAll, Cond.instanceMethod yX5_addsAll, Cond.selects RX5 yX5_addsAll yX5_addsAll, Cond.code yX5_addsAll cX5_addsAll 2 (some .boolean), Cond.fieldLink RX5 52 "HandBlindsModel" "spot" "I", Cond.fieldLink RX5 55 "HandBlindsModel" "typed" "I", Cond.methodLink RX5 89 yX5_adds, Cond.instanceMethod yX5_adds, Cond.selects RX5 yX5_adds yX5_adds, Cond.code yX5_adds cX5_adds 5 (some .boolean), Cond.fieldLink RX5 58 "HandBlindsModel" "from" "I", Cond.fieldLink RX5 19 "HandBlindsModel" "text" "[I", Cond.methodLink RX5 76 yX5_isFormed, Cond.instanceMethod yX5_isFormed, Cond.selects RX5 yX5_isFormed yX5_isFormed]
def wsX5_add_r2 : List Cond := [Cond.code yX5_isFormed cX5_isFormed 2 (some .boolean), Cond.methodLink RX5 65 yX5_isEnd, Cond.instanceMethod yX5_isEnd, Cond.selects RX5 yX5_isEnd yX5_isEnd, Cond.code yX5_isEnd cX5_isEnd 1 (some .boolean), Cond.methodLink RX5 69 yX5_mayStand, Cond.instanceMethod yX5_mayStand, Cond.selects RX5 yX5_mayStand yX5_mayStand, Cond.code yX5_mayStand cX5_mayStand 3 (some .boolean), Cond.methodLink RX5 61 yX5_in, Cond.static yX5_in, Cond.code yX5_in cX5_in 3 (some .boolean), Cond.methodLink RX5 72 yX5_fails, Cond.instanceMethod yX5_fails, Cond.selects RX5 yX5_fails yX5_fails, Cond.code yX5_fails cX5_fails 3 (some .boolean), Cond.fieldLink RX5 46 "HandBlindsModel" "reason" "I", Cond.fieldLink RX5 49 "HandBlindsModel" "cause" "I", Cond.methodLink RX5 30 yX5_wide, Cond.static yX5_wide, Cond.code yX5_wide cX5_wide 1 (some .int), Cond.methodLink RX5 79 yX5_squeezed, Cond.instanceMethod yX5_squeezed, Cond.selects RX5 yX5_squeezed yX5_squeezed]
def wsX5_add_r3 : List Cond := [Cond.code yX5_squeezed cX5_squeezed 2 (some .int), Cond.methodLink RX5 82 yX5_sets, Cond.instanceMethod yX5_sets, Cond.selects RX5 yX5_sets yX5_sets, Cond.code yX5_sets cX5_sets 4 none, Cond.methodLink RX5 102 yX5_changes, Cond.instanceMethod yX5_changes, Cond.selects RX5 yX5_changes yX5_changes, Cond.code yX5_changes cX5_changes 2 none, Cond.fieldLink RX5 22 "HandBlindsModel" "pasts" "I", Cond.fieldLink RX5 13 "HandBlindsModel" "past" "[I"]
def wsX5_add : List Cond := .code yX5_add cX5_add 2 (some .int) :: ((wsX5_add_r1 ++ (wsX5_add_r2 ++ wsX5_add_r3)) ++ wsX50)
def wsX5_without : List Cond := .code yX5_without cX5_without 3 (some .int) :: ([])
def wsX5_cut : List Cond := .code yX5_cut cX5_cut 3 (some .int) :: ([.constant RX5 92 (-1000001), .fieldLink RX5 7 "HandBlindsModel" "s" "[I", .methodLink RX5 105 yX5_isRow, .instanceMethod yX5_isRow, .selects RX5 yX5_isRow yX5_isRow, .initialized RX5, .code yX5_isRow cX5_isRow 2 (some .boolean), .methodLink RX5 102 yX5_changes, .instanceMethod yX5_changes, .selects RX5 yX5_changes yX5_changes, .code yX5_changes cX5_changes 2 none, .fieldLink RX5 22 "HandBlindsModel" "pasts" "I", .fieldLink RX5 13 "HandBlindsModel" "past" "[I", .methodLink RX5 109 yX5_ofRoute, .instanceMethod yX5_ofRoute, .selects RX5 yX5_ofRoute yX5_ofRoute, .code yX5_ofRoute cX5_ofRoute 3 (some .int), .methodLink RX5 112 yX5_without, .static yX5_without, .code yX5_without cX5_without 3 (some .int)] ++ wsX50)
def wsX5_swap_r1 : List Cond := [Cond.constant RX5 92 (-1000001), Cond.fieldLink RX5 7 "HandBlindsModel" "s" "[I", Cond.methodLink RX5 105 yX5_isRow, Cond.instanceMethod yX5_isRow, Cond.selects RX5 yX5_isRow yX5_isRow, Cond.initialized RX5, Cond.code yX5_isRow cX5_isRow 2 (some .boolean), Cond.methodLink RX5 102 yX5_changes, Cond.instanceMethod yX5_changes, Cond.selects RX5 yX5_changes yX5_changes, Cond.code yX5_changes cX5_changes 2 none, Cond.fieldLink RX5 22 "HandBlindsModel" "pasts" "I", Cond.fieldLink RX5 13 "HandBlindsModel" "past" "[I", Cond.methodLink RX5 26 yX5_of, Cond.instanceMethod yX5_of, Cond.selects RX5 yX5_of yX5_of, Cond.code yX5_of cX5_of 3 (some .int), Cond.methodLink RX5 82 yX5_sets, Cond.instanceMethod yX5_sets, Cond.selects RX5 yX5_sets yX5_sets, Cond.code yX5_sets cX5_sets 4 none, Cond.methodLink RX5 109 yX5_ofRoute, Cond.instanceMethod yX5_ofRoute, Cond.selects RX5 yX5_ofRoute yX5_ofRoute]
def wsX5_swap_r2 : List Cond := [Cond.code yX5_ofRoute cX5_ofRoute 3 (some .int)]
def wsX5_swap : List Cond := .code yX5_swap cX5_swap 6 (some .int) :: ((wsX5_swap_r1 ++ wsX5_swap_r2) ++ wsX50)
def wsX5_isTorn : List Cond := .code yX5_isTorn cX5_isTorn 2 (some .boolean) :: ([.methodLink RX5 26 yX5_of, .instanceMethod yX5_of, .selects RX5 yX5_of yX5_of, .initialized RX5, .code yX5_of cX5_of 3 (some .int), .fieldLink RX5 7 "HandBlindsModel" "s" "[I"] ++ wsX50)
def wsX5_mend_r1 : List Cond := [Cond.constant RX5 92 (-1000001), Cond.constant RX5 101 (-1000002), Cond.methodLink RX5 105 yX5_isRow, Cond.instanceMethod yX5_isRow, Cond.selects RX5 yX5_isRow yX5_isRow, Cond.initialized RX5, Cond.code yX5_isRow cX5_isRow 2 (some .boolean), Cond.fieldLink RX5 7 "HandBlindsModel" "s" "[I", Cond.methodLink RX5 115 yX5_isTorn, Cond.instanceMethod yX5_isTorn, Cond.selects RX5 yX5_isTorn yX5_isTorn, Cond.code yX5_isTorn cX5_isTorn 2 (some .boolean), Cond.methodLink RX5 26 yX5_of, Cond.instanceMethod yX5_of, Cond.selects RX5 yX5_of yX5_of, Cond.code yX5_of cX5_of 3 (some .int), Cond.methodLink RX5 102 yX5_changes, Cond.instanceMethod yX5_changes, Cond.selects RX5 yX5_changes yX5_changes, Cond.code yX5_changes cX5_changes 2 none, Cond.fieldLink RX5 22 "HandBlindsModel" "pasts" "I", Cond.fieldLink RX5 13 "HandBlindsModel" "past" "[I", Cond.methodLink RX5 82 yX5_sets, Cond.instanceMethod yX5_sets]
def wsX5_mend_r2 : List Cond := [Cond.selects RX5 yX5_sets yX5_sets, Cond.code yX5_sets cX5_sets 4 none]
def wsX5_mend : List Cond := .code yX5_mend cX5_mend 2 (some .int) :: ((wsX5_mend_r1 ++ wsX5_mend_r2) ++ wsX50)
def wsX5_leaves : List Cond := .code yX5_leaves cX5_leaves 4 none :: ([.fieldLink RX5 118 "HandBlindsModel" "gone" "I", .fieldLink RX5 7 "HandBlindsModel" "s" "[I", .fieldLink RX5 121 "HandBlindsModel" "torn" "I", .methodLink RX5 26 yX5_of, .instanceMethod yX5_of, .selects RX5 yX5_of yX5_of, .initialized RX5, .code yX5_of cX5_of 3 (some .int), .methodLink RX5 82 yX5_sets, .instanceMethod yX5_sets, .selects RX5 yX5_sets yX5_sets, .code yX5_sets cX5_sets 4 none, .methodLink RX5 115 yX5_isTorn, .instanceMethod yX5_isTorn, .selects RX5 yX5_isTorn yX5_isTorn, .code yX5_isTorn cX5_isTorn 2 (some .boolean)] ++ wsX50)
def wsX5_cranks : List Cond := .code yX5_cranks cX5_cranks 5 (some .int) :: ([.fieldLink RX5 118 "HandBlindsModel" "gone" "I", .fieldLink RX5 121 "HandBlindsModel" "torn" "I", .fieldLink RX5 7 "HandBlindsModel" "s" "[I", .methodLink RX5 105 yX5_isRow, .instanceMethod yX5_isRow, .selects RX5 yX5_isRow yX5_isRow, .initialized RX5, .code yX5_isRow cX5_isRow 2 (some .boolean), .methodLink RX5 124 yX5_leaves, .instanceMethod yX5_leaves, .selects RX5 yX5_leaves yX5_leaves, .code yX5_leaves cX5_leaves 4 none, .methodLink RX5 26 yX5_of, .instanceMethod yX5_of, .selects RX5 yX5_of yX5_of, .code yX5_of cX5_of 3 (some .int), .methodLink RX5 82 yX5_sets, .instanceMethod yX5_sets, .selects RX5 yX5_sets yX5_sets, .code yX5_sets cX5_sets 4 none, .methodLink RX5 115 yX5_isTorn, .instanceMethod yX5_isTorn, .selects RX5 yX5_isTorn yX5_isTorn, .code yX5_isTorn cX5_isTorn 2 (some .boolean)] ++ wsX50)
def wsX5_mayCrank : List Cond := .code yX5_mayCrank cX5_mayCrank 3 (some .int) :: ([.constant RX5 92 (-1000001), .fieldLink RX5 7 "HandBlindsModel" "s" "[I", .constant RX5 101 (-1000002), .methodLink RX5 61 yX5_in, .static yX5_in, .initialized RX5, .code yX5_in cX5_in 3 (some .boolean)] ++ wsX50)
def wsX5_crank_r1 : List Cond := [Cond.constant RX5 100 (-1000004), Cond.fieldLink RX5 7 "HandBlindsModel" "s" "[I", Cond.methodLink RX5 128 yX5_mayCrank, Cond.instanceMethod yX5_mayCrank, Cond.selects RX5 yX5_mayCrank yX5_mayCrank, Cond.initialized RX5, Cond.code yX5_mayCrank cX5_mayCrank 3 (some .int), Cond.constant RX5 92 (-1000001), Cond.constant RX5 101 (-1000002), Cond.methodLink RX5 61 yX5_in, Cond.static yX5_in, Cond.code yX5_in cX5_in 3 (some .boolean), Cond.methodLink RX5 102 yX5_changes, Cond.instanceMethod yX5_changes, Cond.selects RX5 yX5_changes yX5_changes, Cond.code yX5_changes cX5_changes 2 none, Cond.fieldLink RX5 22 "HandBlindsModel" "pasts" "I", Cond.fieldLink RX5 13 "HandBlindsModel" "past" "[I", Cond.methodLink RX5 131 yX5_cranks, Cond.instanceMethod yX5_cranks, Cond.selects RX5 yX5_cranks yX5_cranks, Cond.code yX5_cranks cX5_cranks 5 (some .int), Cond.fieldLink RX5 118 "HandBlindsModel" "gone" "I", Cond.fieldLink RX5 121 "HandBlindsModel" "torn" "I"]
def wsX5_crank_r2 : List Cond := [Cond.methodLink RX5 105 yX5_isRow, Cond.instanceMethod yX5_isRow, Cond.selects RX5 yX5_isRow yX5_isRow, Cond.code yX5_isRow cX5_isRow 2 (some .boolean), Cond.methodLink RX5 124 yX5_leaves, Cond.instanceMethod yX5_leaves, Cond.selects RX5 yX5_leaves yX5_leaves, Cond.code yX5_leaves cX5_leaves 4 none, Cond.methodLink RX5 26 yX5_of, Cond.instanceMethod yX5_of, Cond.selects RX5 yX5_of yX5_of, Cond.code yX5_of cX5_of 3 (some .int), Cond.methodLink RX5 82 yX5_sets, Cond.instanceMethod yX5_sets, Cond.selects RX5 yX5_sets yX5_sets, Cond.code yX5_sets cX5_sets 4 none, Cond.methodLink RX5 115 yX5_isTorn, Cond.instanceMethod yX5_isTorn, Cond.selects RX5 yX5_isTorn yX5_isTorn, Cond.code yX5_isTorn cX5_isTorn 2 (some .boolean)]
def wsX5_crank : List Cond := .code yX5_crank cX5_crank 5 (some .int) :: ((wsX5_crank_r1 ++ wsX5_crank_r2) ++ wsX50)
def wsX5_route : List Cond := .code yX5_route cX5_route 3 (some .int) :: ([.fieldLink RX5 7 "HandBlindsModel" "s" "[I", .constant RX5 92 (-1000001), .constant RX5 134 (-1000003), .methodLink RX5 61 yX5_in, .static yX5_in, .initialized RX5, .code yX5_in cX5_in 3 (some .boolean), .methodLink RX5 102 yX5_changes, .instanceMethod yX5_changes, .selects RX5 yX5_changes yX5_changes, .code yX5_changes cX5_changes 2 none, .fieldLink RX5 22 "HandBlindsModel" "pasts" "I", .fieldLink RX5 13 "HandBlindsModel" "past" "[I"] ++ wsX50)
def wsX5_drive : List Cond := .code yX5_drive cX5_drive 3 (some .int) :: ([.constant RX5 92 (-1000001), .fieldLink RX5 7 "HandBlindsModel" "s" "[I", .methodLink RX5 135 yX5_isRoute, .instanceMethod yX5_isRoute, .selects RX5 yX5_isRoute yX5_isRoute, .initialized RX5, .code yX5_isRoute cX5_isRoute 2 (some .boolean), .methodLink RX5 102 yX5_changes, .instanceMethod yX5_changes, .selects RX5 yX5_changes yX5_changes, .code yX5_changes cX5_changes 2 none, .fieldLink RX5 22 "HandBlindsModel" "pasts" "I", .fieldLink RX5 13 "HandBlindsModel" "past" "[I"] ++ wsX50)
def wsX5_wrongBy_r1 : List Cond := [Cond.fieldLink RX5 7 "HandBlindsModel" "s" "[I", Cond.methodLink RX5 115 yX5_isTorn, Cond.instanceMethod yX5_isTorn, Cond.selects RX5 yX5_isTorn yX5_isTorn, Cond.initialized RX5, Cond.code yX5_isTorn cX5_isTorn 2 (some .boolean), Cond.methodLink RX5 26 yX5_of, Cond.instanceMethod yX5_of, Cond.selects RX5 yX5_of yX5_of, Cond.code yX5_of cX5_of 3 (some .int), Cond.methodLink RX5 138 yX5_kind, Cond.instanceMethod yX5_kind, Cond.selects RX5 yX5_kind yX5_kind, Cond.code yX5_kind cX5_kind 2 (some .int), Cond.constantLong RX5 36 (4375028), Cond.constantLong RX5 42 (20433497), Cond.constantLong RX5 44 (17794008709), Cond.methodLink RX5 38 yX5_isName, Cond.instanceMethod yX5_isName, Cond.selects RX5 yX5_isName yX5_isName, Cond.code yX5_isName cX5_isName 7 (some .boolean), Cond.constantLong RX5 34 (32), Cond.methodLink RX5 109 yX5_ofRoute, Cond.instanceMethod yX5_ofRoute]
def wsX5_wrongBy_r2 : List Cond := [Cond.selects RX5 yX5_ofRoute yX5_ofRoute, Cond.code yX5_ofRoute cX5_ofRoute 3 (some .int), Cond.methodLink RX5 141 yX5_width, Cond.instanceMethod yX5_width, Cond.selects RX5 yX5_width yX5_width, Cond.code yX5_width cX5_width 4 (some .int), Cond.methodLink RX5 30 yX5_wide, Cond.static yX5_wide, Cond.code yX5_wide cX5_wide 1 (some .int), Cond.methodLink RX5 79 yX5_squeezed, Cond.instanceMethod yX5_squeezed, Cond.selects RX5 yX5_squeezed yX5_squeezed, Cond.code yX5_squeezed cX5_squeezed 2 (some .int)]
def wsX5_wrongBy : List Cond := .code yX5_wrongBy cX5_wrongBy 2 (some .int) :: ((wsX5_wrongBy_r1 ++ wsX5_wrongBy_r2) ++ wsX50)
def wsX5_stop_r1 : List Cond := [Cond.fieldLink RX5 7 "HandBlindsModel" "s" "[I", Cond.methodLink RX5 102 yX5_changes, Cond.instanceMethod yX5_changes, Cond.selects RX5 yX5_changes yX5_changes, Cond.initialized RX5, Cond.code yX5_changes cX5_changes 2 none, Cond.fieldLink RX5 22 "HandBlindsModel" "pasts" "I", Cond.fieldLink RX5 13 "HandBlindsModel" "past" "[I", Cond.methodLink RX5 144 yX5_wrongBy, Cond.instanceMethod yX5_wrongBy, Cond.selects RX5 yX5_wrongBy yX5_wrongBy, Cond.code yX5_wrongBy cX5_wrongBy 2 (some .int), Cond.methodLink RX5 115 yX5_isTorn, Cond.instanceMethod yX5_isTorn, Cond.selects RX5 yX5_isTorn yX5_isTorn, Cond.code yX5_isTorn cX5_isTorn 2 (some .boolean), Cond.methodLink RX5 26 yX5_of, Cond.instanceMethod yX5_of, Cond.selects RX5 yX5_of yX5_of, Cond.code yX5_of cX5_of 3 (some .int), Cond.methodLink RX5 138 yX5_kind, Cond.instanceMethod yX5_kind, Cond.selects RX5 yX5_kind yX5_kind, Cond.code yX5_kind cX5_kind 2 (some .int)]
def wsX5_stop_r2 : List Cond := [Cond.constantLong RX5 36 (4375028), Cond.constantLong RX5 42 (20433497), Cond.constantLong RX5 44 (17794008709), Cond.methodLink RX5 38 yX5_isName, Cond.instanceMethod yX5_isName, Cond.selects RX5 yX5_isName yX5_isName, Cond.code yX5_isName cX5_isName 7 (some .boolean), Cond.constantLong RX5 34 (32), Cond.methodLink RX5 109 yX5_ofRoute, Cond.instanceMethod yX5_ofRoute, Cond.selects RX5 yX5_ofRoute yX5_ofRoute, Cond.code yX5_ofRoute cX5_ofRoute 3 (some .int), Cond.methodLink RX5 141 yX5_width, Cond.instanceMethod yX5_width, Cond.selects RX5 yX5_width yX5_width, Cond.code yX5_width cX5_width 4 (some .int), Cond.methodLink RX5 30 yX5_wide, Cond.static yX5_wide, Cond.code yX5_wide cX5_wide 1 (some .int), Cond.methodLink RX5 79 yX5_squeezed, Cond.instanceMethod yX5_squeezed, Cond.selects RX5 yX5_squeezed yX5_squeezed, Cond.code yX5_squeezed cX5_squeezed 2 (some .int)]
def wsX5_stop : List Cond := .code yX5_stop cX5_stop 3 (some .int) :: ((wsX5_stop_r1 ++ wsX5_stop_r2) ++ wsX50)
def wsX5_mostOf : List Cond := .code yX5_mostOf cX5_mostOf 1 (some .int) :: ([])
def wsX5_set : List Cond := .code yX5_set cX5_set 4 (some .int) :: ([.constant RX5 92 (-1000001), .fieldLink RX5 7 "HandBlindsModel" "s" "[I", .methodLink RX5 61 yX5_in, .static yX5_in, .initialized RX5, .code yX5_in cX5_in 3 (some .boolean), .methodLink RX5 147 yX5_mostOf, .static yX5_mostOf, .code yX5_mostOf cX5_mostOf 1 (some .int), .methodLink RX5 102 yX5_changes, .instanceMethod yX5_changes, .selects RX5 yX5_changes yX5_changes, .code yX5_changes cX5_changes 2 none, .fieldLink RX5 22 "HandBlindsModel" "pasts" "I", .fieldLink RX5 13 "HandBlindsModel" "past" "[I"] ++ wsX50)
def wsX5_routesOf : List Cond := .code yX5_routesOf cX5_routesOf 4 (some .int) :: ([.fieldLink RX5 7 "HandBlindsModel" "s" "[I", .methodLink RX5 109 yX5_ofRoute, .instanceMethod yX5_ofRoute, .selects RX5 yX5_ofRoute yX5_ofRoute, .initialized RX5, .code yX5_ofRoute cX5_ofRoute 3 (some .int)] ++ wsX50)
def wsX5_rowOf_r1 : List Cond := [Cond.constant RX5 92 (-1000001), Cond.fieldLink RX5 7 "HandBlindsModel" "s" "[I", Cond.methodLink RX5 105 yX5_isRow, Cond.instanceMethod yX5_isRow, Cond.selects RX5 yX5_isRow yX5_isRow, Cond.initialized RX5, Cond.code yX5_isRow cX5_isRow 2 (some .boolean), Cond.methodLink RX5 61 yX5_in, Cond.static yX5_in, Cond.code yX5_in cX5_in 3 (some .boolean), Cond.methodLink RX5 26 yX5_of, Cond.instanceMethod yX5_of, Cond.selects RX5 yX5_of yX5_of, Cond.code yX5_of cX5_of 3 (some .int), Cond.methodLink RX5 141 yX5_width, Cond.instanceMethod yX5_width, Cond.selects RX5 yX5_width yX5_width, Cond.code yX5_width cX5_width 4 (some .int), Cond.methodLink RX5 30 yX5_wide, Cond.static yX5_wide, Cond.code yX5_wide cX5_wide 1 (some .int), Cond.methodLink RX5 79 yX5_squeezed, Cond.instanceMethod yX5_squeezed, Cond.selects RX5 yX5_squeezed yX5_squeezed]
def wsX5_rowOf_r2 : List Cond := [Cond.code yX5_squeezed cX5_squeezed 2 (some .int), Cond.methodLink RX5 138 yX5_kind, Cond.instanceMethod yX5_kind, Cond.selects RX5 yX5_kind yX5_kind, Cond.code yX5_kind cX5_kind 2 (some .int), Cond.constantLong RX5 36 (4375028), Cond.constantLong RX5 42 (20433497), Cond.constantLong RX5 44 (17794008709), Cond.methodLink RX5 38 yX5_isName, Cond.instanceMethod yX5_isName, Cond.selects RX5 yX5_isName yX5_isName, Cond.code yX5_isName cX5_isName 7 (some .boolean), Cond.constantLong RX5 34 (32), Cond.methodLink RX5 150 yX5_routesOf, Cond.instanceMethod yX5_routesOf, Cond.selects RX5 yX5_routesOf yX5_routesOf, Cond.code yX5_routesOf cX5_routesOf 4 (some .int), Cond.methodLink RX5 109 yX5_ofRoute, Cond.instanceMethod yX5_ofRoute, Cond.selects RX5 yX5_ofRoute yX5_ofRoute, Cond.code yX5_ofRoute cX5_ofRoute 3 (some .int)]
def wsX5_rowOf : List Cond := .code yX5_rowOf cX5_rowOf 3 (some .int) :: ((wsX5_rowOf_r1 ++ wsX5_rowOf_r2) ++ wsX50)
def wsX5_letter : List Cond := .code yX5_letter cX5_letter 3 (some .int) :: ([.constant RX5 92 (-1000001), .constant RX5 100 (-1000004), .methodLink RX5 105 yX5_isRow, .instanceMethod yX5_isRow, .selects RX5 yX5_isRow yX5_isRow, .initialized RX5, .code yX5_isRow cX5_isRow 2 (some .boolean), .fieldLink RX5 7 "HandBlindsModel" "s" "[I", .methodLink RX5 26 yX5_of, .instanceMethod yX5_of, .selects RX5 yX5_of yX5_of, .code yX5_of cX5_of 3 (some .int)] ++ wsX50)
def wsX5_tornOnes : List Cond := .code yX5_tornOnes cX5_tornOnes 3 (some .int) :: ([.fieldLink RX5 7 "HandBlindsModel" "s" "[I", .methodLink RX5 26 yX5_of, .instanceMethod yX5_of, .selects RX5 yX5_of yX5_of, .initialized RX5, .code yX5_of cX5_of 3 (some .int)] ++ wsX50)
def wsX5_routeOf_r1 : List Cond := [Cond.constant RX5 92 (-1000001), Cond.methodLink RX5 135 yX5_isRoute, Cond.instanceMethod yX5_isRoute, Cond.selects RX5 yX5_isRoute yX5_isRoute, Cond.initialized RX5, Cond.code yX5_isRoute cX5_isRoute 2 (some .boolean), Cond.fieldLink RX5 7 "HandBlindsModel" "s" "[I", Cond.methodLink RX5 61 yX5_in, Cond.static yX5_in, Cond.code yX5_in cX5_in 3 (some .boolean), Cond.methodLink RX5 109 yX5_ofRoute, Cond.instanceMethod yX5_ofRoute, Cond.selects RX5 yX5_ofRoute yX5_ofRoute, Cond.code yX5_ofRoute cX5_ofRoute 3 (some .int), Cond.methodLink RX5 153 yX5_ones, Cond.static yX5_ones, Cond.code yX5_ones cX5_ones 3 (some .int), Cond.methodLink RX5 156 yX5_tornOnes, Cond.instanceMethod yX5_tornOnes, Cond.selects RX5 yX5_tornOnes yX5_tornOnes, Cond.code yX5_tornOnes cX5_tornOnes 3 (some .int), Cond.methodLink RX5 26 yX5_of, Cond.instanceMethod yX5_of, Cond.selects RX5 yX5_of yX5_of]
def wsX5_routeOf_r2 : List Cond := [Cond.code yX5_of cX5_of 3 (some .int)]
def wsX5_routeOf : List Cond := .code yX5_routeOf cX5_routeOf 4 (some .int) :: ((wsX5_routeOf_r1 ++ wsX5_routeOf_r2) ++ wsX50)
def wsX5_would_r1 : List Cond := [Cond.constant RX5 92 (-1000001), Cond.fieldLink RX5 7 "HandBlindsModel" "s" "[I", Cond.fieldLink RX5 16 "HandBlindsModel" "tried" "[I", Cond.fieldLink RX5 121 "HandBlindsModel" "torn" "I", Cond.fieldLink RX5 118 "HandBlindsModel" "gone" "I", Cond.methodLink RX5 61 yX5_in, Cond.static yX5_in, Cond.initialized RX5, Cond.code yX5_in cX5_in 3 (some .boolean), Cond.methodLink RX5 128 yX5_mayCrank, Cond.instanceMethod yX5_mayCrank, Cond.selects RX5 yX5_mayCrank yX5_mayCrank, Cond.code yX5_mayCrank cX5_mayCrank 3 (some .int), Cond.constant RX5 101 (-1000002), Cond.methodLink RX5 93 yX5_copies, Cond.static yX5_copies, Cond.code yX5_copies cX5_copies 3 none, Cond.methodLink RX5 131 yX5_cranks, Cond.instanceMethod yX5_cranks, Cond.selects RX5 yX5_cranks yX5_cranks, Cond.code yX5_cranks cX5_cranks 5 (some .int), Cond.methodLink RX5 105 yX5_isRow, Cond.instanceMethod yX5_isRow, Cond.selects RX5 yX5_isRow yX5_isRow]
def wsX5_would_r2 : List Cond := [Cond.code yX5_isRow cX5_isRow 2 (some .boolean), Cond.methodLink RX5 124 yX5_leaves, Cond.instanceMethod yX5_leaves, Cond.selects RX5 yX5_leaves yX5_leaves, Cond.code yX5_leaves cX5_leaves 4 none, Cond.methodLink RX5 26 yX5_of, Cond.instanceMethod yX5_of, Cond.selects RX5 yX5_of yX5_of, Cond.code yX5_of cX5_of 3 (some .int), Cond.methodLink RX5 82 yX5_sets, Cond.instanceMethod yX5_sets, Cond.selects RX5 yX5_sets yX5_sets, Cond.code yX5_sets cX5_sets 4 none, Cond.methodLink RX5 115 yX5_isTorn, Cond.instanceMethod yX5_isTorn, Cond.selects RX5 yX5_isTorn yX5_isTorn, Cond.code yX5_isTorn cX5_isTorn 2 (some .boolean)]
def wsX5_would : List Cond := .code yX5_would cX5_would 7 (some .int) :: ((wsX5_would_r1 ++ wsX5_would_r2) ++ wsX50)
def wsX5_nearest_r1 : List Cond := [Cond.constant RX5 92 (-1000001), Cond.fieldLink RX5 7 "HandBlindsModel" "s" "[I", Cond.constant RX5 100 (-1000004), Cond.methodLink RX5 61 yX5_in, Cond.static yX5_in, Cond.initialized RX5, Cond.code yX5_in cX5_in 3 (some .boolean), Cond.methodLink RX5 105 yX5_isRow, Cond.instanceMethod yX5_isRow, Cond.selects RX5 yX5_isRow yX5_isRow, Cond.code yX5_isRow cX5_isRow 2 (some .boolean), Cond.methodLink RX5 144 yX5_wrongBy, Cond.instanceMethod yX5_wrongBy, Cond.selects RX5 yX5_wrongBy yX5_wrongBy, Cond.code yX5_wrongBy cX5_wrongBy 2 (some .int), Cond.methodLink RX5 115 yX5_isTorn, Cond.instanceMethod yX5_isTorn, Cond.selects RX5 yX5_isTorn yX5_isTorn, Cond.code yX5_isTorn cX5_isTorn 2 (some .boolean), Cond.methodLink RX5 26 yX5_of, Cond.instanceMethod yX5_of, Cond.selects RX5 yX5_of yX5_of, Cond.code yX5_of cX5_of 3 (some .int), Cond.methodLink RX5 138 yX5_kind]
def wsX5_nearest_r2 : List Cond := [Cond.instanceMethod yX5_kind, Cond.selects RX5 yX5_kind yX5_kind, Cond.code yX5_kind cX5_kind 2 (some .int), Cond.constantLong RX5 36 (4375028), Cond.constantLong RX5 42 (20433497), Cond.constantLong RX5 44 (17794008709), Cond.methodLink RX5 38 yX5_isName, Cond.instanceMethod yX5_isName, Cond.selects RX5 yX5_isName yX5_isName, Cond.code yX5_isName cX5_isName 7 (some .boolean), Cond.constantLong RX5 34 (32), Cond.methodLink RX5 109 yX5_ofRoute, Cond.instanceMethod yX5_ofRoute, Cond.selects RX5 yX5_ofRoute yX5_ofRoute, Cond.code yX5_ofRoute cX5_ofRoute 3 (some .int), Cond.methodLink RX5 141 yX5_width, Cond.instanceMethod yX5_width, Cond.selects RX5 yX5_width yX5_width, Cond.code yX5_width cX5_width 4 (some .int), Cond.methodLink RX5 30 yX5_wide, Cond.static yX5_wide, Cond.code yX5_wide cX5_wide 1 (some .int), Cond.methodLink RX5 79 yX5_squeezed, Cond.instanceMethod yX5_squeezed]
def wsX5_nearest_r3 : List Cond := [Cond.selects RX5 yX5_squeezed yX5_squeezed, Cond.code yX5_squeezed cX5_squeezed 2 (some .int)]
def wsX5_nearest : List Cond := .code yX5_nearest cX5_nearest 4 (some .int) :: ((wsX5_nearest_r1 ++ (wsX5_nearest_r2 ++ wsX5_nearest_r3)) ++ wsX50)
def wsX5_alike : List Cond := .code yX5_alike cX5_alike 4 (some .int) :: ([.constant RX5 92 (-1000001), .methodLink RX5 105 yX5_isRow, .instanceMethod yX5_isRow, .selects RX5 yX5_isRow yX5_isRow, .initialized RX5, .code yX5_isRow cX5_isRow 2 (some .boolean), .fieldLink RX5 7 "HandBlindsModel" "s" "[I", .methodLink RX5 26 yX5_of, .instanceMethod yX5_of, .selects RX5 yX5_of yX5_of, .code yX5_of cX5_of 3 (some .int)] ++ wsX50)
def wsX5_read_r1 : List Cond := [Cond.constant RX5 92 (-1000001), Cond.fieldLink RX5 7 "HandBlindsModel" "s" "[I", Cond.constant RX5 100 (-1000004), Cond.methodLink RX5 61 yX5_in, Cond.static yX5_in, Cond.initialized RX5, Cond.code yX5_in cX5_in 3 (some .boolean), Cond.methodLink RX5 26 yX5_of, Cond.instanceMethod yX5_of, Cond.selects RX5 yX5_of yX5_of, Cond.code yX5_of cX5_of 3 (some .int), Cond.methodLink RX5 115 yX5_isTorn, Cond.instanceMethod yX5_isTorn, Cond.selects RX5 yX5_isTorn yX5_isTorn, Cond.code yX5_isTorn cX5_isTorn 2 (some .boolean), Cond.methodLink RX5 30 yX5_wide, Cond.static yX5_wide, Cond.code yX5_wide cX5_wide 1 (some .int), Cond.methodLink RX5 141 yX5_width, Cond.instanceMethod yX5_width, Cond.selects RX5 yX5_width yX5_width, Cond.code yX5_width cX5_width 4 (some .int), Cond.methodLink RX5 79 yX5_squeezed, Cond.instanceMethod yX5_squeezed]
def wsX5_read_r2 : List Cond := [Cond.selects RX5 yX5_squeezed yX5_squeezed, Cond.code yX5_squeezed cX5_squeezed 2 (some .int)]
def wsX5_read : List Cond := .code yX5_read cX5_read 7 (some .int) :: ((wsX5_read_r1 ++ wsX5_read_r2) ++ wsX50)
def wsX5_find : List Cond := .code yX5_find cX5_find 4 (some .int) :: ([.fieldLink RX5 7 "HandBlindsModel" "s" "[I", .fieldLink RX5 55 "HandBlindsModel" "typed" "I", .fieldLink RX5 19 "HandBlindsModel" "text" "[I", .constant RX5 100 (-1000004), .methodLink RX5 26 yX5_of, .instanceMethod yX5_of, .selects RX5 yX5_of yX5_of, .initialized RX5, .code yX5_of cX5_of 3 (some .int)] ++ wsX50)
def wsJxf58ca_isNaN_12338 : List Cond := .code yJxf58ca_isNaN_12338 cJxf58ca_isNaN_12338 1 (some .boolean) :: ([])
def wsJxf58ca_floatToIntBits_5c35a : List Cond := .code yJxf58ca_floatToIntBits_5c35a cJxf58ca_floatToIntBits_5c35a 1 (some .int) :: ([.methodLink RJxf58ca 74 ⟨"java/lang/Float", "floatToRawIntBits", "(F)I"⟩, .native ⟨"java/lang/Float", "floatToRawIntBits", "(F)I"⟩, .static ⟨"java/lang/Float", "floatToRawIntBits", "(F)I"⟩, .initialized "java/lang/Float", .constant RJxf58ca 77 (2143289344), .methodLink RJxf58ca 59 yJxf58ca_isNaN_12338, .static yJxf58ca_isNaN_12338, .initialized RJxf58ca, .code yJxf58ca_isNaN_12338 cJxf58ca_isNaN_12338 1 (some .boolean)])
def wsX5_mean_r1 : List Cond := [Cond.fieldLink RX5 7 "HandBlindsModel" "s" "[I", Cond.constant RX5 100 (-1000004), Cond.methodLink RX5 141 yX5_width, Cond.instanceMethod yX5_width, Cond.selects RX5 yX5_width yX5_width, Cond.initialized RX5, Cond.code yX5_width cX5_width 4 (some .int), Cond.methodLink RX5 26 yX5_of, Cond.instanceMethod yX5_of, Cond.selects RX5 yX5_of yX5_of, Cond.code yX5_of cX5_of 3 (some .int), Cond.methodLink RX5 30 yX5_wide, Cond.static yX5_wide, Cond.code yX5_wide cX5_wide 1 (some .int), Cond.methodLink RX5 160 yJxf58ca_floatToIntBits_5c35a, Cond.static yJxf58ca_floatToIntBits_5c35a, Cond.initialized RJxf58ca, Cond.code yJxf58ca_floatToIntBits_5c35a cJxf58ca_floatToIntBits_5c35a 1 (some .int), Cond.methodLink RJxf58ca 74 ⟨"java/lang/Float", "floatToRawIntBits", "(F)I"⟩, Cond.native ⟨"java/lang/Float", "floatToRawIntBits", "(F)I"⟩, Cond.static ⟨"java/lang/Float", "floatToRawIntBits", "(F)I"⟩, Cond.initialized "java/lang/Float", Cond.constant RJxf58ca 77 (2143289344), Cond.methodLink RJxf58ca 59 yJxf58ca_isNaN_12338]
def wsX5_mean_r2 : List Cond := [Cond.static yJxf58ca_isNaN_12338, Cond.code yJxf58ca_isNaN_12338 cJxf58ca_isNaN_12338 1 (some .boolean)]
def wsX5_mean : List Cond := .code yX5_mean cX5_mean 3 (some .int) :: ((wsX5_mean_r1 ++ wsX5_mean_r2) ++ wsX50)
def wsX5_widest : List Cond := .code yX5_widest cX5_widest 4 (some .int) :: ([.constant RX5 100 (-1000004), .fieldLink RX5 7 "HandBlindsModel" "s" "[I", .methodLink RX5 141 yX5_width, .instanceMethod yX5_width, .selects RX5 yX5_width yX5_width, .initialized RX5, .code yX5_width cX5_width 4 (some .int), .methodLink RX5 26 yX5_of, .instanceMethod yX5_of, .selects RX5 yX5_of yX5_of, .code yX5_of cX5_of 3 (some .int), .methodLink RX5 30 yX5_wide, .static yX5_wide, .code yX5_wide cX5_wide 1 (some .int)] ++ wsX50)
def wsX5_told : List Cond := .code yX5_told cX5_told 1 (some .int) :: ([.constant RX5 100 (-1000004)])
def wsX5_count_r1 : List Cond := [Cond.fieldLink RX5 7 "HandBlindsModel" "s" "[I", Cond.fieldLink RX5 22 "HandBlindsModel" "pasts" "I", Cond.fieldLink RX5 55 "HandBlindsModel" "typed" "I", Cond.constant RX5 92 (-1000001), Cond.methodLink RX5 166 yX5_told, Cond.static yX5_told, Cond.initialized RX5, Cond.code yX5_told cX5_told 1 (some .int), Cond.constant RX5 100 (-1000004), Cond.methodLink RX5 156 yX5_tornOnes, Cond.instanceMethod yX5_tornOnes, Cond.selects RX5 yX5_tornOnes yX5_tornOnes, Cond.code yX5_tornOnes cX5_tornOnes 3 (some .int), Cond.methodLink RX5 26 yX5_of, Cond.instanceMethod yX5_of, Cond.selects RX5 yX5_of yX5_of, Cond.code yX5_of cX5_of 3 (some .int), Cond.methodLink RX5 144 yX5_wrongBy, Cond.instanceMethod yX5_wrongBy, Cond.selects RX5 yX5_wrongBy yX5_wrongBy, Cond.code yX5_wrongBy cX5_wrongBy 2 (some .int), Cond.methodLink RX5 115 yX5_isTorn, Cond.instanceMethod yX5_isTorn, Cond.selects RX5 yX5_isTorn yX5_isTorn]
def wsX5_count_r2 : List Cond := [Cond.code yX5_isTorn cX5_isTorn 2 (some .boolean), Cond.methodLink RX5 138 yX5_kind, Cond.instanceMethod yX5_kind, Cond.selects RX5 yX5_kind yX5_kind, Cond.code yX5_kind cX5_kind 2 (some .int), Cond.constantLong RX5 36 (4375028), Cond.constantLong RX5 42 (20433497), Cond.constantLong RX5 44 (17794008709), Cond.methodLink RX5 38 yX5_isName, Cond.instanceMethod yX5_isName, Cond.selects RX5 yX5_isName yX5_isName, Cond.code yX5_isName cX5_isName 7 (some .boolean), Cond.constantLong RX5 34 (32), Cond.methodLink RX5 109 yX5_ofRoute, Cond.instanceMethod yX5_ofRoute, Cond.selects RX5 yX5_ofRoute yX5_ofRoute, Cond.code yX5_ofRoute cX5_ofRoute 3 (some .int), Cond.methodLink RX5 141 yX5_width, Cond.instanceMethod yX5_width, Cond.selects RX5 yX5_width yX5_width, Cond.code yX5_width cX5_width 4 (some .int), Cond.methodLink RX5 30 yX5_wide, Cond.static yX5_wide, Cond.code yX5_wide cX5_wide 1 (some .int)]
def wsX5_count_r3 : List Cond := [Cond.methodLink RX5 79 yX5_squeezed, Cond.instanceMethod yX5_squeezed, Cond.selects RX5 yX5_squeezed yX5_squeezed, Cond.code yX5_squeezed cX5_squeezed 2 (some .int), Cond.methodLink RX5 169 yX5_widest, Cond.instanceMethod yX5_widest, Cond.selects RX5 yX5_widest yX5_widest, Cond.code yX5_widest cX5_widest 4 (some .int), Cond.methodLink RX5 61 yX5_in, Cond.static yX5_in, Cond.code yX5_in cX5_in 3 (some .boolean)]
def wsX5_count : List Cond := .code yX5_count cX5_count 2 (some .int) :: ((wsX5_count_r1 ++ (wsX5_count_r2 ++ wsX5_count_r3)) ++ wsX50)
def wsX5_undo : List Cond := .code yX5_undo cX5_undo 2 (some .int) :: ([.fieldLink RX5 22 "HandBlindsModel" "pasts" "I", .constant RX5 101 (-1000002), .fieldLink RX5 7 "HandBlindsModel" "s" "[I", .fieldLink RX5 13 "HandBlindsModel" "past" "[I"] ++ wsX50)
def wsX5_type : List Cond := .code yX5_type cX5_type 2 (some .int) :: ([.constant RX5 92 (-1000001), .fieldLink RX5 55 "HandBlindsModel" "typed" "I", .constant RX5 134 (-1000003), .fieldLink RX5 19 "HandBlindsModel" "text" "[I", .methodLink RX5 61 yX5_in, .static yX5_in, .initialized RX5, .code yX5_in cX5_in 3 (some .boolean)] ++ wsX50)
def wsX5_clearText : List Cond := .code yX5_clearText cX5_clearText 2 (some .int) :: ([.fieldLink RX5 55 "HandBlindsModel" "typed" "I"] ++ wsX50)
def wsJ9_abs_0f7a4 : List Cond := .code yJ9_abs_0f7a4 cJ9_abs_0f7a4 1 (some .int) :: ([])
def wsL_law_r1 : List Cond := [Cond.classLink RL 7 RX4, Cond.instantiable RX4 4, Cond.initialized RX4, Cond.classLink RL 10 RX5, Cond.instantiable RX5 13, Cond.initialized RX5, Cond.methodLink RL 9 yX4_init, Cond.instanceMethod yX4_init, Cond.code yX4_init cX4_init 2 none, Cond.methodLink RX4 1 objectInit, Cond.instanceMethod objectInit, Cond.code objectInit ⟨#[0xb1]⟩ 1 none, Cond.classLink RX4 7 RX3, Cond.instantiable RX3 2, Cond.initialized RX3, Cond.fieldLink RX4 10 "HandBlinds" "text" "LHandBlinds$Text;", Cond.classLink RX4 16 RX0, Cond.instantiable RX0 11, Cond.initialized RX0, Cond.fieldLink RX4 19 "HandBlinds" "now" "LHandBlinds$Blind;", Cond.fieldLink RX4 23 "HandBlinds" "history" "[LHandBlinds$Blind;", Cond.fieldLink RX4 27 "HandBlinds" "states" "I", Cond.methodLink RX4 9 yX3_init, Cond.instanceMethod yX3_init]
def wsL_law_r2 : List Cond := [Cond.code yX3_init cX3_init 1 none, Cond.methodLink RX3 3 objectInit, Cond.arrayClass .char, Cond.fieldLink RX3 9 "HandBlinds$Text" "signs" "[C", Cond.fieldLink RX3 15 "HandBlinds$Text" "length" "I", Cond.methodLink RX4 18 yX0_init, Cond.instanceMethod yX0_init, Cond.code yX0_init cX0_init 2 none, Cond.methodLink RX0 3 objectInit, Cond.classLink RX0 9 RX2, Cond.fieldLink RX0 11 "HandBlinds$Blind" "rows" "[LHandBlinds$Row;", Cond.instantiable RX2 4, Cond.initialized RX2, Cond.classLink RX0 18 RX1, Cond.fieldLink RX0 20 "HandBlinds$Blind" "routes" "[LHandBlinds$Route;", Cond.instantiable RX1 3, Cond.initialized RX1, Cond.arrayClass .int, Cond.fieldLink RX0 25 "HandBlinds$Blind" "settings" "[I", Cond.methodLink RX0 32 arraycopyName, Cond.native arraycopyName, Cond.static arraycopyName, Cond.initialized "java/lang/System", Cond.fieldLink RX0 38 "HandBlinds$Blind" "driven" "I"]
def wsL_law_r3 : List Cond := [Cond.methodLink RX0 17 yX2_init, Cond.instanceMethod yX2_init, Cond.code yX2_init cX2_init 1 none, Cond.methodLink RX2 3 objectInit, Cond.fieldLink RX2 9 "HandBlinds$Row" "letters" "[C", Cond.instanceMethod yX1_init, Cond.code yX1_init cX1_init 1 none, Cond.methodLink RX1 1 objectInit, Cond.methodLink RL 12 yX5_init, Cond.instanceMethod yX5_init, Cond.code yX5_init cX5_init 1 none, Cond.methodLink RX5 1 objectInit, Cond.fieldLink RX5 7 "HandBlindsModel" "s" "[I", Cond.fieldLink RX5 13 "HandBlindsModel" "past" "[I", Cond.fieldLink RX5 16 "HandBlindsModel" "tried" "[I", Cond.fieldLink RX5 19 "HandBlindsModel" "text" "[I", Cond.methodLink RL 13 yX4_add, Cond.instanceMethod yX4_add, Cond.selects RX4 yX4_add yX4_add, Cond.code yX4_add cX4_add 5 (some .int), Cond.constant RX4 35 (-1000002), Cond.fieldLink RX4 39 "HandBlinds$Text" "length" "I", Cond.methodLink RX4 31 yX4_faultPlace, Cond.instanceMethod yX4_faultPlace]
def wsL_law_r4 : List Cond := [Cond.selects RX4 yX4_faultPlace yX4_faultPlace, Cond.code yX4_faultPlace cX4_faultPlace 4 (some .int), Cond.methodLink RX4 42 yX3_namesAhead, Cond.instanceMethod yX3_namesAhead, Cond.selects RX3 yX3_namesAhead yX3_namesAhead, Cond.code yX3_namesAhead cX3_namesAhead 4 (some .int), Cond.methodLink RX4 217 yX4_faultReason, Cond.instanceMethod yX4_faultReason, Cond.selects RX4 yX4_faultReason yX4_faultReason, Cond.code yX4_faultReason cX4_faultReason 3 (some .int), Cond.fieldLink RX4 62 "HandBlinds$Blind" "rowCount" "I", Cond.methodLink RX4 46 yX3_endOfName, Cond.instanceMethod yX3_endOfName, Cond.selects RX3 yX3_endOfName yX3_endOfName, Cond.code yX3_endOfName cX3_endOfName 3 (some .int), Cond.methodLink RX4 223 yX3_breakOf, Cond.instanceMethod yX3_breakOf, Cond.selects RX3 yX3_breakOf yX3_breakOf, Cond.code yX3_breakOf cX3_breakOf 4 (some .int), Cond.methodLink RX3 19 yX3_fits, Cond.instanceMethod yX3_fits, Cond.selects RX3 yX3_fits yX3_fits, Cond.code yX3_fits cX3_fits 4 (some .boolean), Cond.methodLink RX4 226 yX3_width]
def wsL_law_r5 : List Cond := [Cond.instanceMethod yX3_width, Cond.selects RX3 yX3_width yX3_width, Cond.code yX3_width cX3_width 5 (some .int), Cond.static yX4_letterWidth, Cond.code yX4_letterWidth cX4_letterWidth 1 (some .int), Cond.methodLink RX4 125 yX0_squeezed, Cond.instanceMethod yX0_squeezed, Cond.selects RX0 yX0_squeezed yX0_squeezed, Cond.code yX0_squeezed cX0_squeezed 3 (some .int), Cond.methodLink RX4 36 yX4_remember, Cond.instanceMethod yX4_remember, Cond.selects RX4 yX4_remember yX4_remember, Cond.code yX4_remember cX4_remember 3 none, Cond.methodLink RX4 210 yX0_become, Cond.instanceMethod yX0_become, Cond.selects RX0 yX0_become yX0_become, Cond.code yX0_become cX0_become 3 none, Cond.fieldLink RX0 50 "HandBlinds$Blind" "rowCount" "I", Cond.fieldLink RX0 53 "HandBlinds$Blind" "shown" "I", Cond.fieldLink RX0 56 "HandBlinds$Blind" "routeCount" "I", Cond.fieldLink RX0 59 "HandBlinds$Blind" "tears" "I", Cond.fieldLink RX0 62 "HandBlinds$Blind" "passed" "I", Cond.fieldLink RX0 65 "HandBlinds$Blind" "stops" "I", Cond.fieldLink RX0 68 "HandBlinds$Blind" "rightStops" "I"]
def wsL_law_r6 : List Cond := [Cond.methodLink RX0 42 yX2_copyRow, Cond.instanceMethod yX2_copyRow, Cond.selects RX2 yX2_copyRow yX2_copyRow, Cond.code yX2_copyRow cX2_copyRow 2 none, Cond.methodLink RX2 15 arraycopyName, Cond.fieldLink RX2 21 "HandBlinds$Row" "length" "I", Cond.fieldLink RX2 25 "HandBlinds$Row" "wear" "I", Cond.fieldLink RX2 28 "HandBlinds$Row" "torn" "Z", Cond.methodLink RX0 46 yX1_copyRoute, Cond.instanceMethod yX1_copyRoute, Cond.selects RX1 yX1_copyRoute yX1_copyRoute, Cond.code yX1_copyRoute cX1_copyRoute 2 none, Cond.fieldLink RX1 7 "HandBlinds$Route" "rows" "I", Cond.fieldLink RX1 13 "HandBlinds$Route" "stops" "I", Cond.fieldLink RX1 16 "HandBlinds$Route" "rightStops" "I", Cond.methodLink RX4 49 yX0_append, Cond.instanceMethod yX0_append, Cond.selects RX0 yX0_append yX0_append, Cond.code yX0_append cX0_append 4 none, Cond.methodLink RX0 71 yX2_begin, Cond.instanceMethod yX2_begin, Cond.selects RX2 yX2_begin yX2_begin, Cond.code yX2_begin cX2_begin 5 none, Cond.fieldLink RX2 32 "HandBlinds$Text" "signs" "[C"]
def wsL_law_r7 : List Cond := [Cond.methodLink RL 17 yX5_add, Cond.instanceMethod yX5_add, Cond.selects RX5 yX5_add yX5_add, Cond.code yX5_add cX5_add 2 (some .int), Cond.constant RX5 101 (-1000002), Cond.fieldLink RX5 86 "HandBlindsModel" "names" "I", Cond.constant RX5 100 (-1000004), Cond.methodLink RX5 93 yX5_copies, Cond.static yX5_copies, Cond.code yX5_copies cX5_copies 3 none, Cond.methodLink RX5 97 yX5_addsAll, Cond.instanceMethod yX5_addsAll, Cond.selects RX5 yX5_addsAll yX5_addsAll, Cond.code yX5_addsAll cX5_addsAll 2 (some .boolean), Cond.fieldLink RX5 52 "HandBlindsModel" "spot" "I", Cond.fieldLink RX5 55 "HandBlindsModel" "typed" "I", Cond.methodLink RX5 89 yX5_adds, Cond.instanceMethod yX5_adds, Cond.selects RX5 yX5_adds yX5_adds, Cond.code yX5_adds cX5_adds 5 (some .boolean), Cond.fieldLink RX5 58 "HandBlindsModel" "from" "I", Cond.methodLink RX5 76 yX5_isFormed, Cond.instanceMethod yX5_isFormed, Cond.selects RX5 yX5_isFormed yX5_isFormed]
def wsL_law_r8 : List Cond := [Cond.code yX5_isFormed cX5_isFormed 2 (some .boolean), Cond.methodLink RX5 65 yX5_isEnd, Cond.instanceMethod yX5_isEnd, Cond.selects RX5 yX5_isEnd yX5_isEnd, Cond.code yX5_isEnd cX5_isEnd 1 (some .boolean), Cond.methodLink RX5 69 yX5_mayStand, Cond.instanceMethod yX5_mayStand, Cond.selects RX5 yX5_mayStand yX5_mayStand, Cond.code yX5_mayStand cX5_mayStand 3 (some .boolean), Cond.methodLink RX5 61 yX5_in, Cond.static yX5_in, Cond.code yX5_in cX5_in 3 (some .boolean), Cond.methodLink RX5 72 yX5_fails, Cond.instanceMethod yX5_fails, Cond.selects RX5 yX5_fails yX5_fails, Cond.code yX5_fails cX5_fails 3 (some .boolean), Cond.fieldLink RX5 46 "HandBlindsModel" "reason" "I", Cond.fieldLink RX5 49 "HandBlindsModel" "cause" "I", Cond.methodLink RX5 30 yX5_wide, Cond.static yX5_wide, Cond.code yX5_wide cX5_wide 1 (some .int), Cond.methodLink RX5 79 yX5_squeezed, Cond.instanceMethod yX5_squeezed, Cond.selects RX5 yX5_squeezed yX5_squeezed]
def wsL_law_r9 : List Cond := [Cond.code yX5_squeezed cX5_squeezed 2 (some .int), Cond.methodLink RX5 82 yX5_sets, Cond.instanceMethod yX5_sets, Cond.selects RX5 yX5_sets yX5_sets, Cond.code yX5_sets cX5_sets 4 none, Cond.methodLink RX5 102 yX5_changes, Cond.instanceMethod yX5_changes, Cond.selects RX5 yX5_changes yX5_changes, Cond.code yX5_changes cX5_changes 2 none, Cond.fieldLink RX5 22 "HandBlindsModel" "pasts" "I", Cond.methodLink RL 18 yX4_cut, Cond.instanceMethod yX4_cut, Cond.selects RX4 yX4_cut yX4_cut, Cond.code yX4_cut cX4_cut 2 (some .int), Cond.constant RX4 57 (-1000001), Cond.fieldLink RX4 65 "HandBlinds$Blind" "shown" "I", Cond.methodLink RX4 53 yX0_hasRow, Cond.instanceMethod yX0_hasRow, Cond.selects RX0 yX0_hasRow yX0_hasRow, Cond.code yX0_hasRow cX0_hasRow 2 (some .boolean), Cond.methodLink RX4 58 yX0_remove, Cond.instanceMethod yX0_remove, Cond.selects RX0 yX0_remove yX0_remove, Cond.code yX0_remove cX0_remove 4 none]
def wsL_law_r10 : List Cond := [Cond.methodLink RX0 75 yX1_forget, Cond.instanceMethod yX1_forget, Cond.selects RX1 yX1_forget yX1_forget, Cond.code yX1_forget cX1_forget 4 none, Cond.methodLink RL 22 yX5_cut, Cond.instanceMethod yX5_cut, Cond.selects RX5 yX5_cut yX5_cut, Cond.code yX5_cut cX5_cut 3 (some .int), Cond.constant RX5 92 (-1000001), Cond.methodLink RX5 105 yX5_isRow, Cond.instanceMethod yX5_isRow, Cond.selects RX5 yX5_isRow yX5_isRow, Cond.code yX5_isRow cX5_isRow 2 (some .boolean), Cond.methodLink RX5 109 yX5_ofRoute, Cond.instanceMethod yX5_ofRoute, Cond.selects RX5 yX5_ofRoute yX5_ofRoute, Cond.code yX5_ofRoute cX5_ofRoute 3 (some .int), Cond.methodLink RX5 112 yX5_without, Cond.static yX5_without, Cond.code yX5_without cX5_without 3 (some .int), Cond.methodLink RL 23 yX4_swap, Cond.instanceMethod yX4_swap, Cond.selects RX4 yX4_swap yX4_swap, Cond.code yX4_swap cX4_swap 3 (some .int)]
def wsL_law_r11 : List Cond := [Cond.methodLink RX4 68 yX0_exchange, Cond.instanceMethod yX0_exchange, Cond.selects RX0 yX0_exchange yX0_exchange, Cond.code yX0_exchange cX0_exchange 5 none, Cond.methodLink RX0 79 yX1_changeAbout, Cond.instanceMethod yX1_changeAbout, Cond.selects RX1 yX1_changeAbout yX1_changeAbout, Cond.code yX1_changeAbout cX1_changeAbout 3 none, Cond.methodLink RX1 19 yX1_owns, Cond.instanceMethod yX1_owns, Cond.selects RX1 yX1_owns yX1_owns, Cond.code yX1_owns cX1_owns 2 (some .boolean), Cond.methodLink RL 27 yX5_swap, Cond.instanceMethod yX5_swap, Cond.selects RX5 yX5_swap yX5_swap, Cond.code yX5_swap cX5_swap 6 (some .int), Cond.methodLink RX5 26 yX5_of, Cond.instanceMethod yX5_of, Cond.selects RX5 yX5_of yX5_of, Cond.code yX5_of cX5_of 3 (some .int), Cond.methodLink RL 28 yX4_mend, Cond.instanceMethod yX4_mend, Cond.selects RX4 yX4_mend yX4_mend, Cond.code yX4_mend cX4_mend 2 (some .int)]
def wsL_law_r12 : List Cond := [Cond.fieldLink RX4 72 "HandBlinds$Blind" "rows" "[LHandBlinds$Row;", Cond.fieldLink RX4 76 "HandBlinds$Row" "torn" "Z", Cond.fieldLink RX4 85 "HandBlinds$Row" "wear" "I", Cond.methodLink RX4 82 yX2_patch, Cond.instanceMethod yX2_patch, Cond.selects RX2 yX2_patch yX2_patch, Cond.code yX2_patch cX2_patch 1 none, Cond.methodLink RL 31 yX5_mend, Cond.instanceMethod yX5_mend, Cond.selects RX5 yX5_mend yX5_mend, Cond.code yX5_mend cX5_mend 2 (some .int), Cond.methodLink RX5 115 yX5_isTorn, Cond.instanceMethod yX5_isTorn, Cond.selects RX5 yX5_isTorn yX5_isTorn, Cond.code yX5_isTorn cX5_isTorn 2 (some .boolean), Cond.methodLink RL 32 yX4_crank, Cond.instanceMethod yX4_crank, Cond.selects RX4 yX4_crank yX4_crank, Cond.code yX4_crank cX4_crank 3 (some .int), Cond.methodLink RX4 88 yX4_isCranking, Cond.static yX4_isCranking, Cond.code yX4_isCranking cX4_isCranking 2 (some .boolean), Cond.methodLink RX4 92 yX0_roll, Cond.instanceMethod yX0_roll]
def wsL_law_r13 : List Cond := [Cond.selects RX0 yX0_roll yX0_roll, Cond.code yX0_roll cX0_roll 5 none, Cond.methodLink RX0 120 yX0_stepsOf, Cond.instanceMethod yX0_stepsOf, Cond.selects RX0 yX0_stepsOf yX0_stepsOf, Cond.code yX0_stepsOf cX0_stepsOf 5 (some .int), Cond.methodLink RX0 100 Lib.Math.abs.name, Cond.static Lib.Math.abs.name, Cond.initialized "java/lang/Math", Cond.code Lib.Math.abs.name Lib.Math.abs.code 1 (some .int), Cond.fieldLink RX0 92 "HandBlinds$Row" "torn" "Z", Cond.methodLink RX0 106 yX0_rowAfter, Cond.instanceMethod yX0_rowAfter, Cond.selects RX0 yX0_rowAfter yX0_rowAfter, Cond.code yX0_rowAfter cX0_rowAfter 3 (some .int), Cond.methodLink RX0 110 yX0_isEnd, Cond.instanceMethod yX0_isEnd, Cond.selects RX0 yX0_isEnd yX0_isEnd, Cond.code yX0_isEnd cX0_isEnd 3 (some .boolean), Cond.methodLink RX0 127 yX0_leave, Cond.instanceMethod yX0_leave, Cond.selects RX0 yX0_leave yX0_leave, Cond.code yX0_leave cX0_leave 4 none, Cond.fieldLink RX0 117 "HandBlinds$Row" "wear" "I"]
def wsL_law_r14 : List Cond := [Cond.methodLink RX0 123 yX0_tearsAt, Cond.instanceMethod yX0_tearsAt, Cond.selects RX0 yX0_tearsAt yX0_tearsAt, Cond.code yX0_tearsAt cX0_tearsAt 4 (some .boolean), Cond.methodLink RX0 114 yX0_isSkipped, Cond.instanceMethod yX0_isSkipped, Cond.selects RX0 yX0_isSkipped yX0_isSkipped, Cond.code yX0_isSkipped cX0_isSkipped 3 (some .boolean), Cond.methodLink RL 35 yX5_crank, Cond.instanceMethod yX5_crank, Cond.selects RX5 yX5_crank yX5_crank, Cond.code yX5_crank cX5_crank 5 (some .int), Cond.methodLink RX5 128 yX5_mayCrank, Cond.instanceMethod yX5_mayCrank, Cond.selects RX5 yX5_mayCrank yX5_mayCrank, Cond.code yX5_mayCrank cX5_mayCrank 3 (some .int), Cond.methodLink RX5 131 yX5_cranks, Cond.instanceMethod yX5_cranks, Cond.selects RX5 yX5_cranks yX5_cranks, Cond.code yX5_cranks cX5_cranks 5 (some .int), Cond.fieldLink RX5 118 "HandBlindsModel" "gone" "I", Cond.fieldLink RX5 121 "HandBlindsModel" "torn" "I", Cond.methodLink RX5 124 yX5_leaves, Cond.instanceMethod yX5_leaves]
def wsL_law_r15 : List Cond := [Cond.selects RX5 yX5_leaves yX5_leaves, Cond.code yX5_leaves cX5_leaves 4 none, Cond.methodLink RL 36 yX4_route, Cond.instanceMethod yX4_route, Cond.selects RX4 yX4_route yX4_route, Cond.code yX4_route cX4_route 2 (some .int), Cond.fieldLink RX4 95 "HandBlinds$Blind" "routeCount" "I", Cond.constant RX4 98 (-1000003), Cond.methodLink RX4 99 yX0_appendRoute, Cond.instanceMethod yX0_appendRoute, Cond.selects RX0 yX0_appendRoute yX0_appendRoute, Cond.code yX0_appendRoute cX0_appendRoute 2 (some .int), Cond.constant RX0 83 (-1000003), Cond.fieldLink RX0 84 "HandBlinds$Route" "rows" "I", Cond.fieldLink RX0 86 "HandBlinds$Route" "stops" "I", Cond.fieldLink RX0 87 "HandBlinds$Route" "rightStops" "I", Cond.methodLink RL 39 yX5_route, Cond.instanceMethod yX5_route, Cond.selects RX5 yX5_route yX5_route, Cond.code yX5_route cX5_route 3 (some .int), Cond.constant RX5 134 (-1000003), Cond.methodLink RL 40 yX4_drive, Cond.instanceMethod yX4_drive, Cond.selects RX4 yX4_drive yX4_drive]
def wsL_law_r16 : List Cond := [Cond.code yX4_drive cX4_drive 3 (some .int), Cond.fieldLink RX4 105 "HandBlinds$Blind" "driven" "I", Cond.methodLink RX4 102 yX0_hasRoute, Cond.instanceMethod yX0_hasRoute, Cond.selects RX0 yX0_hasRoute yX0_hasRoute, Cond.code yX0_hasRoute cX0_hasRoute 2 (some .boolean), Cond.methodLink RL 43 yX5_drive, Cond.instanceMethod yX5_drive, Cond.selects RX5 yX5_drive yX5_drive, Cond.code yX5_drive cX5_drive 3 (some .int), Cond.methodLink RX5 135 yX5_isRoute, Cond.instanceMethod yX5_isRoute, Cond.selects RX5 yX5_isRoute yX5_isRoute, Cond.code yX5_isRoute cX5_isRoute 2 (some .boolean), Cond.methodLink RL 44 yX4_stop, Cond.instanceMethod yX4_stop, Cond.selects RX4 yX4_stop yX4_stop, Cond.code yX4_stop cX4_stop 1 (some .int), Cond.methodLink RX4 108 yX0_halt, Cond.instanceMethod yX0_halt, Cond.selects RX0 yX0_halt yX0_halt, Cond.code yX0_halt cX0_halt 3 (some .int), Cond.methodLink RX0 131 yX0_wrongOf, Cond.instanceMethod yX0_wrongOf]
def wsL_law_r17 : List Cond := [Cond.selects RX0 yX0_wrongOf yX0_wrongOf, Cond.code yX0_wrongOf cX0_wrongOf 3 (some .int), Cond.methodLink RX0 137 yX0_hasRow, Cond.methodLink RX0 140 yX2_kind, Cond.instanceMethod yX2_kind, Cond.selects RX2 yX2_kind yX2_kind, Cond.code yX2_kind cX2_kind 1 (some .int), Cond.methodLink RX2 43 yX2_isNamed, Cond.instanceMethod yX2_isNamed, Cond.selects RX2 yX2_isNamed yX2_isNamed, Cond.code yX2_isNamed cX2_isNamed 3 (some .boolean), Cond.methodLink RX2 51 yJ0_length_8abf5, Cond.instanceMethod yJ0_length_8abf5, Cond.selects RJ0 yJ0_length_8abf5 yJ0_length_8abf5, Cond.initialized RJ0, Cond.code yJ0_length_8abf5 cJ0_length_8abf5 1 (some .int), Cond.fieldLink RJ0 9 "java/lang/String" "value" "[B", Cond.methodLink RJ0 335 yJ0_coder_7d493, Cond.instanceMethod yJ0_coder_7d493, Cond.selects RJ0 yJ0_coder_7d493 yJ0_coder_7d493, Cond.code yJ0_coder_7d493 cJ0_coder_7d493 1 (some .byte), Cond.fieldLink RJ0 38 "java/lang/String" "COMPACT_STRINGS" "Z", Cond.fieldLink RJ0 15 "java/lang/String" "coder" "B", Cond.methodLink RX2 56 yJ0_charAt_5068e]
def wsL_law_r18 : List Cond := [Cond.instanceMethod yJ0_charAt_5068e, Cond.selects RJ0 yJ0_charAt_5068e yJ0_charAt_5068e, Cond.code yJ0_charAt_5068e cJ0_charAt_5068e 2 (some .char), Cond.methodLink RJ0 492 yJ0_isLatin1_aae02, Cond.instanceMethod yJ0_isLatin1_aae02, Cond.selects RJ0 yJ0_isLatin1_aae02 yJ0_isLatin1_aae02, Cond.code yJ0_isLatin1_aae02 cJ0_isLatin1_aae02 1 (some .boolean), Cond.methodLink RJ0 495 yJ1_charAt_3b067, Cond.static yJ1_charAt_3b067, Cond.initialized RJ1, Cond.code yJ1_charAt_3b067 cJ1_charAt_3b067 2 (some .char), Cond.methodLink RJ1 9 yJ0_checkIndex_df160, Cond.static yJ0_checkIndex_df160, Cond.code yJ0_checkIndex_df160 cJ0_checkIndex_df160 2 none, Cond.fieldLink RJ0 1053 "jdk/internal/util/Preconditions" "SIOOBE_FORMATTER" "Ljava/util/function/BiFunction;", Cond.methodLink RJ0 1059 yJ3_checkIndex_8e157, Cond.static yJ3_checkIndex_8e157, Cond.initialized RJ3, Cond.code yJ3_checkIndex_8e157 cJ3_checkIndex_8e157 3 (some .int), Cond.methodLink RJ0 498 yJ2_charAt_3b067, Cond.static yJ2_charAt_3b067, Cond.initialized RJ2, Cond.code yJ2_charAt_3b067 cJ2_charAt_3b067 2 (some .char), Cond.methodLink RJ2 67 yJ2_checkIndex_2214a]
def wsL_law_r19 : List Cond := [Cond.static yJ2_checkIndex_2214a, Cond.code yJ2_checkIndex_2214a cJ2_checkIndex_2214a 2 none, Cond.methodLink RJ2 48 yJ2_length_9d52b, Cond.static yJ2_length_9d52b, Cond.code yJ2_length_9d52b cJ2_length_9d52b 1 (some .int), Cond.methodLink RJ2 414 yJ0_checkIndex_df160, Cond.methodLink RJ2 71 yJ2_getChar_3b067, Cond.static yJ2_getChar_3b067, Cond.code yJ2_getChar_3b067 cJ2_getChar_3b067 2 (some .char), Cond.fieldLink RJ2 44 "java/lang/StringUTF16" "$assertionsDisabled" "Z", Cond.fieldLink RJ2 59 "java/lang/StringUTF16" "HI_BYTE_SHIFT" "I", Cond.fieldLink RJ2 63 "java/lang/StringUTF16" "LO_BYTE_SHIFT" "I", Cond.methodLink RX0 134 yX0_hasRoute, Cond.methodLink RX0 88 yX1_owns, Cond.methodLink RX0 96 yX2_width, Cond.instanceMethod yX2_width, Cond.selects RX2 yX2_width yX2_width, Cond.code yX2_width cX2_width 3 (some .int), Cond.methodLink RX0 143 yX0_squeezed, Cond.methodLink RL 47 yX5_stop, Cond.instanceMethod yX5_stop, Cond.selects RX5 yX5_stop yX5_stop, Cond.code yX5_stop cX5_stop 3 (some .int), Cond.methodLink RX5 144 yX5_wrongBy]
def wsL_law_r20 : List Cond := [Cond.instanceMethod yX5_wrongBy, Cond.selects RX5 yX5_wrongBy yX5_wrongBy, Cond.code yX5_wrongBy cX5_wrongBy 2 (some .int), Cond.methodLink RX5 138 yX5_kind, Cond.instanceMethod yX5_kind, Cond.selects RX5 yX5_kind yX5_kind, Cond.code yX5_kind cX5_kind 2 (some .int), Cond.constantLong RX5 36 (4375028), Cond.constantLong RX5 42 (20433497), Cond.constantLong RX5 44 (17794008709), Cond.methodLink RX5 38 yX5_isName, Cond.instanceMethod yX5_isName, Cond.selects RX5 yX5_isName yX5_isName, Cond.code yX5_isName cX5_isName 7 (some .boolean), Cond.constantLong RX5 34 (32), Cond.methodLink RX5 141 yX5_width, Cond.instanceMethod yX5_width, Cond.selects RX5 yX5_width yX5_width, Cond.code yX5_width cX5_width 4 (some .int), Cond.methodLink RL 48 yX4_set, Cond.instanceMethod yX4_set, Cond.selects RX4 yX4_set yX4_set, Cond.code yX4_set cX4_set 4 (some .int), Cond.fieldLink RX4 111 "HandBlinds" "LEAST" "[I"]
def wsL_law_r21 : List Cond := [Cond.fieldLink RX4 115 "HandBlinds" "MOST" "[I", Cond.fieldLink RX4 118 "HandBlinds$Blind" "settings" "[I", Cond.methodLink RL 51 yX5_set, Cond.instanceMethod yX5_set, Cond.selects RX5 yX5_set yX5_set, Cond.code yX5_set cX5_set 4 (some .int), Cond.methodLink RX5 147 yX5_mostOf, Cond.static yX5_mostOf, Cond.code yX5_mostOf cX5_mostOf 1 (some .int), Cond.methodLink RL 52 yX4_rowOf, Cond.instanceMethod yX4_rowOf, Cond.selects RX4 yX4_rowOf yX4_rowOf, Cond.code yX4_rowOf cX4_rowOf 4 (some .int), Cond.fieldLink RX4 121 "HandBlinds$Row" "length" "I", Cond.methodLink RX4 122 yX2_width, Cond.methodLink RX4 128 yX2_kind, Cond.methodLink RX4 131 yX0_routesOf, Cond.instanceMethod yX0_routesOf, Cond.selects RX0 yX0_routesOf yX0_routesOf, Cond.code yX0_routesOf cX0_routesOf 4 (some .int), Cond.methodLink RL 55 yX5_rowOf, Cond.instanceMethod yX5_rowOf, Cond.selects RX5 yX5_rowOf yX5_rowOf, Cond.code yX5_rowOf cX5_rowOf 3 (some .int)]
def wsL_law_r22 : List Cond := [Cond.methodLink RX5 150 yX5_routesOf, Cond.instanceMethod yX5_routesOf, Cond.selects RX5 yX5_routesOf yX5_routesOf, Cond.code yX5_routesOf cX5_routesOf 4 (some .int), Cond.methodLink RL 56 yX4_letter, Cond.instanceMethod yX4_letter, Cond.selects RX4 yX4_letter yX4_letter, Cond.code yX4_letter cX4_letter 4 (some .int), Cond.fieldLink RX4 134 "HandBlinds$Row" "letters" "[C", Cond.constant RX4 138 (-1000004), Cond.methodLink RL 59 yX5_letter, Cond.instanceMethod yX5_letter, Cond.selects RX5 yX5_letter yX5_letter, Cond.code yX5_letter cX5_letter 3 (some .int), Cond.methodLink RL 60 yX4_routeOf, Cond.instanceMethod yX4_routeOf, Cond.selects RX4 yX4_routeOf yX4_routeOf, Cond.code yX4_routeOf cX4_routeOf 4 (some .int), Cond.fieldLink RX4 139 "HandBlinds$Blind" "routes" "[LHandBlinds$Route;", Cond.fieldLink RX4 143 "HandBlinds$Route" "rows" "I", Cond.fieldLink RX4 155 "HandBlinds$Route" "stops" "I", Cond.fieldLink RX4 158 "HandBlinds$Route" "rightStops" "I", Cond.methodLink RX4 147 yJ6_bitCount_0f7a4, Cond.static yJ6_bitCount_0f7a4]
def wsL_law_r23 : List Cond := [Cond.initialized RJ6, Cond.code yJ6_bitCount_0f7a4 cJ6_bitCount_0f7a4 1 (some .int), Cond.constant RJ6 265 (1431655765), Cond.constant RJ6 266 (858993459), Cond.constant RJ6 267 (252645135), Cond.methodLink RX4 152 yX0_tornRows, Cond.instanceMethod yX0_tornRows, Cond.selects RX0 yX0_tornRows yX0_tornRows, Cond.code yX0_tornRows cX0_tornRows 3 (some .int), Cond.methodLink RL 63 yX5_routeOf, Cond.instanceMethod yX5_routeOf, Cond.selects RX5 yX5_routeOf yX5_routeOf, Cond.code yX5_routeOf cX5_routeOf 4 (some .int), Cond.methodLink RX5 153 yX5_ones, Cond.static yX5_ones, Cond.code yX5_ones cX5_ones 3 (some .int), Cond.methodLink RX5 156 yX5_tornOnes, Cond.instanceMethod yX5_tornOnes, Cond.selects RX5 yX5_tornOnes yX5_tornOnes, Cond.code yX5_tornOnes cX5_tornOnes 3 (some .int), Cond.methodLink RL 64 yX4_would, Cond.instanceMethod yX4_would, Cond.selects RX4 yX4_would yX4_would, Cond.code yX4_would cX4_would 5 (some .int)]
def wsL_law_r24 : List Cond := [Cond.methodLink RX4 161 yX0_stepsOf, Cond.methodLink RX4 164 yX0_rowAfter, Cond.methodLink RX4 168 yX0_tearsOf, Cond.instanceMethod yX0_tearsOf, Cond.selects RX0 yX0_tearsOf yX0_tearsOf, Cond.code yX0_tearsOf cX0_tearsOf 6 (some .int), Cond.methodLink RX4 171 yX0_endOf, Cond.instanceMethod yX0_endOf, Cond.selects RX0 yX0_endOf yX0_endOf, Cond.code yX0_endOf cX0_endOf 3 (some .int), Cond.methodLink RL 68 yX5_would, Cond.instanceMethod yX5_would, Cond.selects RX5 yX5_would yX5_would, Cond.code yX5_would cX5_would 7 (some .int), Cond.methodLink RL 69 yX4_nearest, Cond.instanceMethod yX4_nearest, Cond.selects RX4 yX4_nearest yX4_nearest, Cond.code yX4_nearest cX4_nearest 3 (some .int), Cond.methodLink RX4 174 yX0_nearestRight, Cond.instanceMethod yX0_nearestRight, Cond.selects RX0 yX0_nearestRight yX0_nearestRight, Cond.code yX0_nearestRight cX0_nearestRight 4 (some .int), Cond.methodLink RL 72 yX5_nearest, Cond.instanceMethod yX5_nearest]
def wsL_law_r25 : List Cond := [Cond.selects RX5 yX5_nearest yX5_nearest, Cond.code yX5_nearest cX5_nearest 4 (some .int), Cond.methodLink RL 73 yX4_alike, Cond.instanceMethod yX4_alike, Cond.selects RX4 yX4_alike yX4_alike, Cond.code yX4_alike cX4_alike 3 (some .int), Cond.methodLink RX4 177 yX2_sharedStart, Cond.instanceMethod yX2_sharedStart, Cond.selects RX2 yX2_sharedStart yX2_sharedStart, Cond.code yX2_sharedStart cX2_sharedStart 3 (some .int), Cond.methodLink RL 76 yX5_alike, Cond.instanceMethod yX5_alike, Cond.selects RX5 yX5_alike yX5_alike, Cond.code yX5_alike cX5_alike 4 (some .int), Cond.methodLink RL 77 yX4_read, Cond.instanceMethod yX4_read, Cond.selects RX4 yX4_read yX4_read, Cond.code yX4_read cX4_read 2 (some .int), Cond.methodLink RX4 181 yX0_legible, Cond.instanceMethod yX0_legible, Cond.selects RX0 yX0_legible yX0_legible, Cond.code yX0_legible cX0_legible 7 (some .int), Cond.fieldLink RX0 146 "HandBlinds$Row" "length" "I", Cond.fieldLink RX0 149 "HandBlinds$Row" "letters" "[C"]
def wsL_law_r26 : List Cond := [Cond.methodLink RL 80 yX5_read, Cond.instanceMethod yX5_read, Cond.selects RX5 yX5_read yX5_read, Cond.code yX5_read cX5_read 7 (some .int), Cond.methodLink RL 81 yX4_find, Cond.instanceMethod yX4_find, Cond.selects RX4 yX4_find yX4_find, Cond.code yX4_find cX4_find 2 (some .int), Cond.methodLink RX4 185 yX3_isNameOf, Cond.instanceMethod yX3_isNameOf, Cond.selects RX3 yX3_isNameOf yX3_isNameOf, Cond.code yX3_isNameOf cX3_isNameOf 3 (some .boolean), Cond.fieldLink RX3 27 "HandBlinds$Row" "length" "I", Cond.fieldLink RX3 30 "HandBlinds$Row" "letters" "[C", Cond.methodLink RL 84 yX5_find, Cond.instanceMethod yX5_find, Cond.selects RX5 yX5_find yX5_find, Cond.code yX5_find cX5_find 4 (some .int), Cond.methodLink RL 85 yX4_mean, Cond.instanceMethod yX4_mean, Cond.selects RX4 yX4_mean yX4_mean, Cond.code yX4_mean cX4_mean 1 (some .int), Cond.methodLink RX4 189 yX0_widthOfAll, Cond.instanceMethod yX0_widthOfAll]
def wsL_law_r27 : List Cond := [Cond.selects RX0 yX0_widthOfAll yX0_widthOfAll, Cond.code yX0_widthOfAll cX0_widthOfAll 3 (some .int), Cond.methodLink RX4 192 yX4_floatBits, Cond.static yX4_floatBits, Cond.code yX4_floatBits cX4_floatBits 4 (some .int), Cond.constantFloat RX4 228 (1258291200), Cond.methodLink RL 88 yX5_mean, Cond.instanceMethod yX5_mean, Cond.selects RX5 yX5_mean yX5_mean, Cond.code yX5_mean cX5_mean 3 (some .int), Cond.methodLink RX5 160 yJxf58ca_floatToIntBits_5c35a, Cond.static yJxf58ca_floatToIntBits_5c35a, Cond.initialized RJxf58ca, Cond.code yJxf58ca_floatToIntBits_5c35a cJxf58ca_floatToIntBits_5c35a 1 (some .int), Cond.methodLink RJxf58ca 74 ⟨"java/lang/Float", "floatToRawIntBits", "(F)I"⟩, Cond.native ⟨"java/lang/Float", "floatToRawIntBits", "(F)I"⟩, Cond.static ⟨"java/lang/Float", "floatToRawIntBits", "(F)I"⟩, Cond.initialized "java/lang/Float", Cond.constant RJxf58ca 77 (2143289344), Cond.methodLink RJxf58ca 59 yJxf58ca_isNaN_12338, Cond.static yJxf58ca_isNaN_12338, Cond.code yJxf58ca_isNaN_12338 cJxf58ca_isNaN_12338 1 (some .boolean), Cond.methodLink RL 89 yX4_count, Cond.instanceMethod yX4_count]
def wsL_law_r28 : List Cond := [Cond.selects RX4 yX4_count yX4_count, Cond.code yX4_count cX4_count 2 (some .int), Cond.fieldLink RX4 196 "HandBlinds$Blind" "tears" "I", Cond.fieldLink RX4 199 "HandBlinds$Blind" "passed" "I", Cond.fieldLink RX4 202 "HandBlinds$Blind" "stops" "I", Cond.fieldLink RX4 203 "HandBlinds$Blind" "rightStops" "I", Cond.methodLink RX4 204 yX0_wrongOf, Cond.methodLink RX4 207 yX0_widest, Cond.instanceMethod yX0_widest, Cond.selects RX0 yX0_widest yX0_widest, Cond.code yX0_widest cX0_widest 3 (some .int), Cond.methodLink RL 92 yX5_count, Cond.instanceMethod yX5_count, Cond.selects RX5 yX5_count yX5_count, Cond.code yX5_count cX5_count 2 (some .int), Cond.methodLink RX5 166 yX5_told, Cond.static yX5_told, Cond.code yX5_told cX5_told 1 (some .int), Cond.methodLink RX5 169 yX5_widest, Cond.instanceMethod yX5_widest, Cond.selects RX5 yX5_widest yX5_widest, Cond.code yX5_widest cX5_widest 4 (some .int), Cond.methodLink RL 93 yX4_undo, Cond.instanceMethod yX4_undo]
def wsL_law_r29 : List Cond := [Cond.selects RX4 yX4_undo yX4_undo, Cond.code yX4_undo cX4_undo 1 (some .int), Cond.methodLink RL 96 yX5_undo, Cond.instanceMethod yX5_undo, Cond.selects RX5 yX5_undo yX5_undo, Cond.code yX5_undo cX5_undo 2 (some .int), Cond.methodLink RL 97 yX4_type, Cond.instanceMethod yX4_type, Cond.selects RX4 yX4_type yX4_type, Cond.code yX4_type cX4_type 2 (some .int), Cond.methodLink RX4 214 yX3_append, Cond.instanceMethod yX3_append, Cond.selects RX3 yX3_append yX3_append, Cond.code yX3_append cX3_append 2 none, Cond.methodLink RL 100 yX5_type, Cond.instanceMethod yX5_type, Cond.selects RX5 yX5_type yX5_type, Cond.code yX5_type cX5_type 2 (some .int), Cond.methodLink RL 101 yX4_clearText, Cond.instanceMethod yX4_clearText, Cond.selects RX4 yX4_clearText yX4_clearText, Cond.code yX4_clearText cX4_clearText 2 (some .int), Cond.methodLink RL 104 yX5_clearText, Cond.instanceMethod yX5_clearText]
def wsL_law_r30 : List Cond := [Cond.selects RX5 yX5_clearText yX5_clearText, Cond.code yX5_clearText cX5_clearText 2 (some .int), Cond.methodLink RL 105 yX4_fault, Cond.instanceMethod yX4_fault, Cond.selects RX4 yX4_fault yX4_fault, Cond.code yX4_fault cX4_fault 3 (some .int), Cond.methodLink RX4 220 yX4_faultCause, Cond.instanceMethod yX4_faultCause, Cond.selects RX4 yX4_faultCause yX4_faultCause, Cond.code yX4_faultCause cX4_faultCause 3 (some .int), Cond.methodLink RL 108 yX5_fault, Cond.instanceMethod yX5_fault, Cond.selects RX5 yX5_fault yX5_fault, Cond.code yX5_fault cX5_fault 3 (some .int)]
def wsL_law : List Cond := (wsL_law_r1 ++ (wsL_law_r2 ++ (wsL_law_r3 ++ (wsL_law_r4 ++ (wsL_law_r5 ++ (wsL_law_r6 ++ (wsL_law_r7 ++ (wsL_law_r8 ++ (wsL_law_r9 ++ (wsL_law_r10 ++ (wsL_law_r11 ++ (wsL_law_r12 ++ (wsL_law_r13 ++ (wsL_law_r14 ++ (wsL_law_r15 ++ (wsL_law_r16 ++ (wsL_law_r17 ++ (wsL_law_r18 ++ (wsL_law_r19 ++ (wsL_law_r20 ++ (wsL_law_r21 ++ (wsL_law_r22 ++ (wsL_law_r23 ++ (wsL_law_r24 ++ (wsL_law_r25 ++ (wsL_law_r26 ++ (wsL_law_r27 ++ (wsL_law_r28 ++ (wsL_law_r29 ++ wsL_law_r30))))))))))))))))))))))))))))) ++ wsX40 ++ wsX50 ++ wsX30 ++ wsX00 ++ wsX20 ++ wsX10 ++ ([] : List Cond)
set_option maxRecDepth 20000 in
abbrev vwCl : List vw_C := [(RX0, TX0, 11), (RX1, TX1, 3), (RX2, TX2, 4), (RX3, TX3, 2), (RX4, TX4, 4), (RX5, TX5, 13)]
end
section
set_option maxRecDepth 20000 in
theorem ggX0_init_X2_init : GoodIn wsX0_init wsX2_init := goodIn_r _ [21, 22, 2, 3, 23, 24, 39, 40, 41, 42] (by decide +kernel) (by decide +kernel)
set_option maxRecDepth 20000 in
theorem gX0_init_X2_init : GoodIn wsX0_init (wsX2_init) := ggX0_init_X2_init
set_option maxRecDepth 20000 in
theorem ggX0_init_X1_init : GoodIn wsX0_init wsX1_init := goodIn_r _ [26, 27, 2, 3] (by decide +kernel) (by decide +kernel)
set_option maxRecDepth 20000 in
theorem gX0_init_X1_init_n24 : GoodIn wsX0_init (wsX1_init) := ggX0_init_X1_init
theorem dX0_init_0 : decode cX0_init 0 = .ok (.aload_n 0, 1) := by decide +kernel
theorem dX0_init_1 : decode cX0_init 1 = .ok (.invokespecial 3, 3) := by decide +kernel
theorem dX0_init_4 : decode cX0_init 4 = .ok (.aload_n 0, 1) := by decide +kernel
theorem dX0_init_5 : decode cX0_init 5 = .ok (.bipush 20, 2) := by decide +kernel
theorem dX0_init_7 : decode cX0_init 7 = .ok (.anewarray 9, 3) := by decide +kernel
theorem dX0_init_10 : decode cX0_init 10 = .ok (.putfield 11, 3) := by decide +kernel
theorem dX0_init_13 : decode cX0_init 13 = .ok (.iconst 0, 1) := by decide +kernel
theorem dX0_init_14 : decode cX0_init 14 = .ok (.istore_n 1, 1) := by decide +kernel
theorem dX0_init_15 : decode cX0_init 15 = .ok (.iload_n 1, 1) := by decide +kernel
theorem dX0_init_16 : decode cX0_init 16 = .ok (.bipush 20, 2) := by decide +kernel
theorem dX0_init_18 : decode cX0_init 18 = .ok (.if_icmp .ge 22, 3) := by decide +kernel
theorem dX0_init_21 : decode cX0_init 21 = .ok (.aload_n 0, 1) := by decide +kernel
theorem dX0_init_22 : decode cX0_init 22 = .ok (.getfield 11, 3) := by decide +kernel
theorem dX0_init_25 : decode cX0_init 25 = .ok (.iload_n 1, 1) := by decide +kernel
theorem dX0_init_26 : decode cX0_init 26 = .ok (.new 9, 3) := by decide +kernel
theorem dX0_init_29 : decode cX0_init 29 = .ok (.dup, 1) := by decide +kernel
theorem dX0_init_30 : decode cX0_init 30 = .ok (.invokespecial 17, 3) := by decide +kernel
theorem dX0_init_33 : decode cX0_init 33 = .ok (.aastore, 1) := by decide +kernel
theorem dX0_init_34 : decode cX0_init 34 = .ok (.iinc 1 1, 3) := by decide +kernel
theorem dX0_init_37 : decode cX0_init 37 = .ok (.goto (-22), 3) := by decide +kernel
theorem dX0_init_40 : decode cX0_init 40 = .ok (.aload_n 0, 1) := by decide +kernel
theorem dX0_init_41 : decode cX0_init 41 = .ok (.bipush 6, 2) := by decide +kernel
theorem dX0_init_43 : decode cX0_init 43 = .ok (.anewarray 18, 3) := by decide +kernel
theorem dX0_init_46 : decode cX0_init 46 = .ok (.putfield 20, 3) := by decide +kernel
theorem dX0_init_49 : decode cX0_init 49 = .ok (.iconst 0, 1) := by decide +kernel
theorem dX0_init_50 : decode cX0_init 50 = .ok (.istore_n 1, 1) := by decide +kernel
theorem dX0_init_51 : decode cX0_init 51 = .ok (.iload_n 1, 1) := by decide +kernel
theorem dX0_init_52 : decode cX0_init 52 = .ok (.bipush 6, 2) := by decide +kernel
theorem dX0_init_54 : decode cX0_init 54 = .ok (.if_icmp .ge 22, 3) := by decide +kernel
theorem dX0_init_57 : decode cX0_init 57 = .ok (.aload_n 0, 1) := by decide +kernel
theorem dX0_init_58 : decode cX0_init 58 = .ok (.getfield 20, 3) := by decide +kernel
theorem dX0_init_61 : decode cX0_init 61 = .ok (.iload_n 1, 1) := by decide +kernel
theorem dX0_init_62 : decode cX0_init 62 = .ok (.new 18, 3) := by decide +kernel
theorem dX0_init_65 : decode cX0_init 65 = .ok (.dup, 1) := by decide +kernel
theorem dX0_init_66 : decode cX0_init 66 = .ok (.invokespecial 24, 3) := by decide +kernel
theorem dX0_init_69 : decode cX0_init 69 = .ok (.aastore, 1) := by decide +kernel
theorem dX0_init_70 : decode cX0_init 70 = .ok (.iinc 1 1, 3) := by decide +kernel
theorem dX0_init_73 : decode cX0_init 73 = .ok (.goto (-22), 3) := by decide +kernel
theorem dX0_init_76 : decode cX0_init 76 = .ok (.aload_n 0, 1) := by decide +kernel
theorem dX0_init_77 : decode cX0_init 77 = .ok (.iconst 3, 1) := by decide +kernel
theorem dX0_init_78 : decode cX0_init 78 = .ok (.newarray .int, 2) := by decide +kernel
theorem dX0_init_80 : decode cX0_init 80 = .ok (.putfield 25, 3) := by decide +kernel
theorem dX0_init_83 : decode cX0_init 83 = .ok (.getstatic 29, 3) := by decide +kernel
theorem dX0_init_86 : decode cX0_init 86 = .ok (.iconst 0, 1) := by decide +kernel
theorem dX0_init_87 : decode cX0_init 87 = .ok (.aload_n 0, 1) := by decide +kernel
theorem dX0_init_88 : decode cX0_init 88 = .ok (.getfield 25, 3) := by decide +kernel
theorem dX0_init_91 : decode cX0_init 91 = .ok (.iconst 0, 1) := by decide +kernel
theorem dX0_init_92 : decode cX0_init 92 = .ok (.iconst 3, 1) := by decide +kernel
theorem dX0_init_93 : decode cX0_init 93 = .ok (.invokestatic 32, 3) := by decide +kernel
theorem dX0_init_96 : decode cX0_init 96 = .ok (.aload_n 0, 1) := by decide +kernel
theorem dX0_init_97 : decode cX0_init 97 = .ok (.iconst (-1), 1) := by decide +kernel
theorem dX0_init_98 : decode cX0_init 98 = .ok (.putfield 38, 3) := by decide +kernel
theorem dX0_init_101 : decode cX0_init 101 = .ok (.return_, 1) := by decide +kernel
set_option maxRecDepth 20000 in
theorem ggX0_become_X2_copyRow : GoodIn wsX0_become wsX2_copyRow := goodIn_r _ [20, 21, 22, 5, 6, 7, 23, 24, 25, 45, 46, 47, 48] (by decide +kernel) (by decide +kernel)
set_option maxRecDepth 20000 in
theorem gX0_become_X2_copyRow : GoodIn wsX0_become (wsV RX0 42 RX2 yX2_copyRow wsX2_copyRow) := goodIn_app (goodIn_of _ (by decide +kernel)) ggX0_become_X2_copyRow
set_option maxRecDepth 20000 in
theorem ggX0_become_X1_copyRoute : GoodIn wsX0_become wsX1_copyRoute := goodIn_r _ [30, 31, 32, 33, 49, 50, 51] (by decide +kernel) (by decide +kernel)
set_option maxRecDepth 20000 in
theorem gX0_become_X1_copyRoute : GoodIn wsX0_become (wsV RX0 46 RX1 yX1_copyRoute wsX1_copyRoute) := goodIn_app (goodIn_of _ (by decide +kernel)) ggX0_become_X1_copyRoute
theorem dX0_become_0 : decode cX0_become 0 = .ok (.iconst 0, 1) := by decide +kernel
theorem dX0_become_1 : decode cX0_become 1 = .ok (.istore_n 2, 1) := by decide +kernel
theorem dX0_become_2 : decode cX0_become 2 = .ok (.iload_n 2, 1) := by decide +kernel
theorem dX0_become_3 : decode cX0_become 3 = .ok (.bipush 20, 2) := by decide +kernel
theorem dX0_become_5 : decode cX0_become 5 = .ok (.if_icmp .ge 24, 3) := by decide +kernel
theorem dX0_become_8 : decode cX0_become 8 = .ok (.aload_n 0, 1) := by decide +kernel
theorem dX0_become_9 : decode cX0_become 9 = .ok (.getfield 11, 3) := by decide +kernel
theorem dX0_become_12 : decode cX0_become 12 = .ok (.iload_n 2, 1) := by decide +kernel
theorem dX0_become_13 : decode cX0_become 13 = .ok (.aaload, 1) := by decide +kernel
theorem dX0_become_14 : decode cX0_become 14 = .ok (.aload_n 1, 1) := by decide +kernel
theorem dX0_become_15 : decode cX0_become 15 = .ok (.getfield 11, 3) := by decide +kernel
theorem dX0_become_18 : decode cX0_become 18 = .ok (.iload_n 2, 1) := by decide +kernel
theorem dX0_become_19 : decode cX0_become 19 = .ok (.aaload, 1) := by decide +kernel
theorem dX0_become_20 : decode cX0_become 20 = .ok (.invokevirtual 42, 3) := by decide +kernel
theorem dX0_become_23 : decode cX0_become 23 = .ok (.iinc 2 1, 3) := by decide +kernel
theorem dX0_become_26 : decode cX0_become 26 = .ok (.goto (-24), 3) := by decide +kernel
theorem dX0_become_29 : decode cX0_become 29 = .ok (.iconst 0, 1) := by decide +kernel
theorem dX0_become_30 : decode cX0_become 30 = .ok (.istore_n 2, 1) := by decide +kernel
theorem dX0_become_31 : decode cX0_become 31 = .ok (.iload_n 2, 1) := by decide +kernel
theorem dX0_become_32 : decode cX0_become 32 = .ok (.bipush 6, 2) := by decide +kernel
theorem dX0_become_34 : decode cX0_become 34 = .ok (.if_icmp .ge 24, 3) := by decide +kernel
theorem dX0_become_37 : decode cX0_become 37 = .ok (.aload_n 0, 1) := by decide +kernel
theorem dX0_become_38 : decode cX0_become 38 = .ok (.getfield 20, 3) := by decide +kernel
theorem dX0_become_41 : decode cX0_become 41 = .ok (.iload_n 2, 1) := by decide +kernel
theorem dX0_become_42 : decode cX0_become 42 = .ok (.aaload, 1) := by decide +kernel
theorem dX0_become_43 : decode cX0_become 43 = .ok (.aload_n 1, 1) := by decide +kernel
theorem dX0_become_44 : decode cX0_become 44 = .ok (.getfield 20, 3) := by decide +kernel
theorem dX0_become_47 : decode cX0_become 47 = .ok (.iload_n 2, 1) := by decide +kernel
theorem dX0_become_48 : decode cX0_become 48 = .ok (.aaload, 1) := by decide +kernel
theorem dX0_become_49 : decode cX0_become 49 = .ok (.invokevirtual 46, 3) := by decide +kernel
theorem dX0_become_52 : decode cX0_become 52 = .ok (.iinc 2 1, 3) := by decide +kernel
theorem dX0_become_55 : decode cX0_become 55 = .ok (.goto (-24), 3) := by decide +kernel
theorem dX0_become_58 : decode cX0_become 58 = .ok (.aload_n 1, 1) := by decide +kernel
theorem dX0_become_59 : decode cX0_become 59 = .ok (.getfield 25, 3) := by decide +kernel
theorem dX0_become_62 : decode cX0_become 62 = .ok (.iconst 0, 1) := by decide +kernel
theorem dX0_become_63 : decode cX0_become 63 = .ok (.aload_n 0, 1) := by decide +kernel
theorem dX0_become_64 : decode cX0_become 64 = .ok (.getfield 25, 3) := by decide +kernel
theorem dX0_become_67 : decode cX0_become 67 = .ok (.iconst 0, 1) := by decide +kernel
theorem dX0_become_68 : decode cX0_become 68 = .ok (.iconst 3, 1) := by decide +kernel
theorem dX0_become_69 : decode cX0_become 69 = .ok (.invokestatic 32, 3) := by decide +kernel
theorem dX0_become_72 : decode cX0_become 72 = .ok (.aload_n 0, 1) := by decide +kernel
theorem dX0_become_73 : decode cX0_become 73 = .ok (.aload_n 1, 1) := by decide +kernel
theorem dX0_become_74 : decode cX0_become 74 = .ok (.getfield 50, 3) := by decide +kernel
theorem dX0_become_77 : decode cX0_become 77 = .ok (.putfield 50, 3) := by decide +kernel
theorem dX0_become_80 : decode cX0_become 80 = .ok (.aload_n 0, 1) := by decide +kernel
theorem dX0_become_81 : decode cX0_become 81 = .ok (.aload_n 1, 1) := by decide +kernel
theorem dX0_become_82 : decode cX0_become 82 = .ok (.getfield 53, 3) := by decide +kernel
theorem dX0_become_85 : decode cX0_become 85 = .ok (.putfield 53, 3) := by decide +kernel
theorem dX0_become_88 : decode cX0_become 88 = .ok (.aload_n 0, 1) := by decide +kernel
theorem dX0_become_89 : decode cX0_become 89 = .ok (.aload_n 1, 1) := by decide +kernel
theorem dX0_become_90 : decode cX0_become 90 = .ok (.getfield 56, 3) := by decide +kernel
theorem dX0_become_93 : decode cX0_become 93 = .ok (.putfield 56, 3) := by decide +kernel
theorem dX0_become_96 : decode cX0_become 96 = .ok (.aload_n 0, 1) := by decide +kernel
theorem dX0_become_97 : decode cX0_become 97 = .ok (.aload_n 1, 1) := by decide +kernel
theorem dX0_become_98 : decode cX0_become 98 = .ok (.getfield 38, 3) := by decide +kernel
theorem dX0_become_101 : decode cX0_become 101 = .ok (.putfield 38, 3) := by decide +kernel
theorem dX0_become_104 : decode cX0_become 104 = .ok (.aload_n 0, 1) := by decide +kernel
theorem dX0_become_105 : decode cX0_become 105 = .ok (.aload_n 1, 1) := by decide +kernel
theorem dX0_become_106 : decode cX0_become 106 = .ok (.getfield 59, 3) := by decide +kernel
theorem dX0_become_109 : decode cX0_become 109 = .ok (.putfield 59, 3) := by decide +kernel
theorem dX0_become_112 : decode cX0_become 112 = .ok (.aload_n 0, 1) := by decide +kernel
theorem dX0_become_113 : decode cX0_become 113 = .ok (.aload_n 1, 1) := by decide +kernel
theorem dX0_become_114 : decode cX0_become 114 = .ok (.getfield 62, 3) := by decide +kernel
theorem dX0_become_117 : decode cX0_become 117 = .ok (.putfield 62, 3) := by decide +kernel
theorem dX0_become_120 : decode cX0_become 120 = .ok (.aload_n 0, 1) := by decide +kernel
theorem dX0_become_121 : decode cX0_become 121 = .ok (.aload_n 1, 1) := by decide +kernel
theorem dX0_become_122 : decode cX0_become 122 = .ok (.getfield 65, 3) := by decide +kernel
theorem dX0_become_125 : decode cX0_become 125 = .ok (.putfield 65, 3) := by decide +kernel
theorem dX0_become_128 : decode cX0_become 128 = .ok (.aload_n 0, 1) := by decide +kernel
theorem dX0_become_129 : decode cX0_become 129 = .ok (.aload_n 1, 1) := by decide +kernel
theorem dX0_become_130 : decode cX0_become 130 = .ok (.getfield 68, 3) := by decide +kernel
theorem dX0_become_133 : decode cX0_become 133 = .ok (.putfield 68, 3) := by decide +kernel
theorem dX0_become_136 : decode cX0_become 136 = .ok (.return_, 1) := by decide +kernel
theorem dX0_hasRow_0 : decode cX0_hasRow 0 = .ok (.iload_n 1, 1) := by decide +kernel
theorem dX0_hasRow_1 : decode cX0_hasRow 1 = .ok (.ifCond .lt 15, 3) := by decide +kernel
theorem dX0_hasRow_4 : decode cX0_hasRow 4 = .ok (.iload_n 1, 1) := by decide +kernel
theorem dX0_hasRow_5 : decode cX0_hasRow 5 = .ok (.aload_n 0, 1) := by decide +kernel
theorem dX0_hasRow_6 : decode cX0_hasRow 6 = .ok (.getfield 50, 3) := by decide +kernel
theorem dX0_hasRow_9 : decode cX0_hasRow 9 = .ok (.if_icmp .ge 7, 3) := by decide +kernel
theorem dX0_hasRow_12 : decode cX0_hasRow 12 = .ok (.iconst 1, 1) := by decide +kernel
theorem dX0_hasRow_13 : decode cX0_hasRow 13 = .ok (.goto 4, 3) := by decide +kernel
theorem dX0_hasRow_16 : decode cX0_hasRow 16 = .ok (.iconst 0, 1) := by decide +kernel
theorem dX0_hasRow_17 : decode cX0_hasRow 17 = .ok (.ireturn, 1) := by decide +kernel
theorem dX0_hasRoute_0 : decode cX0_hasRoute 0 = .ok (.iload_n 1, 1) := by decide +kernel
theorem dX0_hasRoute_1 : decode cX0_hasRoute 1 = .ok (.ifCond .lt 15, 3) := by decide +kernel
theorem dX0_hasRoute_4 : decode cX0_hasRoute 4 = .ok (.iload_n 1, 1) := by decide +kernel
theorem dX0_hasRoute_5 : decode cX0_hasRoute 5 = .ok (.aload_n 0, 1) := by decide +kernel
theorem dX0_hasRoute_6 : decode cX0_hasRoute 6 = .ok (.getfield 56, 3) := by decide +kernel
theorem dX0_hasRoute_9 : decode cX0_hasRoute 9 = .ok (.if_icmp .ge 7, 3) := by decide +kernel
theorem dX0_hasRoute_12 : decode cX0_hasRoute 12 = .ok (.iconst 1, 1) := by decide +kernel
theorem dX0_hasRoute_13 : decode cX0_hasRoute 13 = .ok (.goto 4, 3) := by decide +kernel
theorem dX0_hasRoute_16 : decode cX0_hasRoute 16 = .ok (.iconst 0, 1) := by decide +kernel
theorem dX0_hasRoute_17 : decode cX0_hasRoute 17 = .ok (.ireturn, 1) := by decide +kernel
set_option maxRecDepth 20000 in
theorem ggX0_append_X2_begin : GoodIn wsX0_append wsX2_begin := goodIn_r _ [7, 8, 9, 10, 11, 12, 24, 25, 26, 27, 28, 29] (by decide +kernel) (by decide +kernel)
set_option maxRecDepth 20000 in
theorem gX0_append_X2_begin : GoodIn wsX0_append (wsV RX0 71 RX2 yX2_begin wsX2_begin) := goodIn_app (goodIn_of _ (by decide +kernel)) ggX0_append_X2_begin
theorem dX0_append_0 : decode cX0_append 0 = .ok (.aload_n 0, 1) := by decide +kernel
theorem dX0_append_1 : decode cX0_append 1 = .ok (.getfield 50, 3) := by decide +kernel
theorem dX0_append_4 : decode cX0_append 4 = .ok (.bipush 20, 2) := by decide +kernel
theorem dX0_append_6 : decode cX0_append 6 = .ok (.if_icmp .ge 28, 3) := by decide +kernel
theorem dX0_append_9 : decode cX0_append 9 = .ok (.aload_n 0, 1) := by decide +kernel
theorem dX0_append_10 : decode cX0_append 10 = .ok (.getfield 11, 3) := by decide +kernel
theorem dX0_append_13 : decode cX0_append 13 = .ok (.aload_n 0, 1) := by decide +kernel
theorem dX0_append_14 : decode cX0_append 14 = .ok (.getfield 50, 3) := by decide +kernel
theorem dX0_append_17 : decode cX0_append 17 = .ok (.aaload, 1) := by decide +kernel
theorem dX0_append_18 : decode cX0_append 18 = .ok (.aload_n 1, 1) := by decide +kernel
theorem dX0_append_19 : decode cX0_append 19 = .ok (.iload_n 2, 1) := by decide +kernel
theorem dX0_append_20 : decode cX0_append 20 = .ok (.iload_n 3, 1) := by decide +kernel
theorem dX0_append_21 : decode cX0_append 21 = .ok (.invokevirtual 71, 3) := by decide +kernel
theorem dX0_append_24 : decode cX0_append 24 = .ok (.aload_n 0, 1) := by decide +kernel
theorem dX0_append_25 : decode cX0_append 25 = .ok (.dup, 1) := by decide +kernel
theorem dX0_append_26 : decode cX0_append 26 = .ok (.getfield 50, 3) := by decide +kernel
theorem dX0_append_29 : decode cX0_append 29 = .ok (.iconst 1, 1) := by decide +kernel
theorem dX0_append_30 : decode cX0_append 30 = .ok (.iadd, 1) := by decide +kernel
theorem dX0_append_31 : decode cX0_append 31 = .ok (.putfield 50, 3) := by decide +kernel
theorem dX0_append_34 : decode cX0_append 34 = .ok (.return_, 1) := by decide +kernel
set_option maxRecDepth 20000 in
theorem ggX0_remove_X1_forget : GoodIn wsX0_remove wsX1_forget := goodIn_r _ [10, 11, 23, 24, 25] (by decide +kernel) (by decide +kernel)
set_option maxRecDepth 20000 in
theorem gX0_remove_X1_forget : GoodIn wsX0_remove (wsV RX0 75 RX1 yX1_forget wsX1_forget) := goodIn_app (goodIn_of _ (by decide +kernel)) ggX0_remove_X1_forget
theorem dX0_remove_0 : decode cX0_remove 0 = .ok (.aload_n 0, 1) := by decide +kernel
theorem dX0_remove_1 : decode cX0_remove 1 = .ok (.getfield 11, 3) := by decide +kernel
theorem dX0_remove_4 : decode cX0_remove 4 = .ok (.iload_n 1, 1) := by decide +kernel
theorem dX0_remove_5 : decode cX0_remove 5 = .ok (.aaload, 1) := by decide +kernel
theorem dX0_remove_6 : decode cX0_remove 6 = .ok (.astore_n 2, 1) := by decide +kernel
theorem dX0_remove_7 : decode cX0_remove 7 = .ok (.iload_n 1, 1) := by decide +kernel
theorem dX0_remove_8 : decode cX0_remove 8 = .ok (.iconst 1, 1) := by decide +kernel
theorem dX0_remove_9 : decode cX0_remove 9 = .ok (.iadd, 1) := by decide +kernel
theorem dX0_remove_10 : decode cX0_remove 10 = .ok (.istore_n 3, 1) := by decide +kernel
theorem dX0_remove_11 : decode cX0_remove 11 = .ok (.iload_n 3, 1) := by decide +kernel
theorem dX0_remove_12 : decode cX0_remove 12 = .ok (.aload_n 0, 1) := by decide +kernel
theorem dX0_remove_13 : decode cX0_remove 13 = .ok (.getfield 50, 3) := by decide +kernel
theorem dX0_remove_16 : decode cX0_remove 16 = .ok (.if_icmp .ge 23, 3) := by decide +kernel
theorem dX0_remove_19 : decode cX0_remove 19 = .ok (.aload_n 0, 1) := by decide +kernel
theorem dX0_remove_20 : decode cX0_remove 20 = .ok (.getfield 11, 3) := by decide +kernel
theorem dX0_remove_23 : decode cX0_remove 23 = .ok (.iload_n 3, 1) := by decide +kernel
theorem dX0_remove_24 : decode cX0_remove 24 = .ok (.iconst 1, 1) := by decide +kernel
theorem dX0_remove_25 : decode cX0_remove 25 = .ok (.isub, 1) := by decide +kernel
theorem dX0_remove_26 : decode cX0_remove 26 = .ok (.aload_n 0, 1) := by decide +kernel
theorem dX0_remove_27 : decode cX0_remove 27 = .ok (.getfield 11, 3) := by decide +kernel
theorem dX0_remove_30 : decode cX0_remove 30 = .ok (.iload_n 3, 1) := by decide +kernel
theorem dX0_remove_31 : decode cX0_remove 31 = .ok (.aaload, 1) := by decide +kernel
theorem dX0_remove_32 : decode cX0_remove 32 = .ok (.aastore, 1) := by decide +kernel
theorem dX0_remove_33 : decode cX0_remove 33 = .ok (.iinc 3 1, 3) := by decide +kernel
theorem dX0_remove_36 : decode cX0_remove 36 = .ok (.goto (-25), 3) := by decide +kernel
theorem dX0_remove_39 : decode cX0_remove 39 = .ok (.aload_n 0, 1) := by decide +kernel
theorem dX0_remove_40 : decode cX0_remove 40 = .ok (.dup, 1) := by decide +kernel
theorem dX0_remove_41 : decode cX0_remove 41 = .ok (.getfield 50, 3) := by decide +kernel
theorem dX0_remove_44 : decode cX0_remove 44 = .ok (.iconst 1, 1) := by decide +kernel
theorem dX0_remove_45 : decode cX0_remove 45 = .ok (.isub, 1) := by decide +kernel
theorem dX0_remove_46 : decode cX0_remove 46 = .ok (.putfield 50, 3) := by decide +kernel
theorem dX0_remove_49 : decode cX0_remove 49 = .ok (.aload_n 0, 1) := by decide +kernel
theorem dX0_remove_50 : decode cX0_remove 50 = .ok (.getfield 11, 3) := by decide +kernel
theorem dX0_remove_53 : decode cX0_remove 53 = .ok (.aload_n 0, 1) := by decide +kernel
theorem dX0_remove_54 : decode cX0_remove 54 = .ok (.getfield 50, 3) := by decide +kernel
theorem dX0_remove_57 : decode cX0_remove 57 = .ok (.aload_n 2, 1) := by decide +kernel
theorem dX0_remove_58 : decode cX0_remove 58 = .ok (.aastore, 1) := by decide +kernel
theorem dX0_remove_59 : decode cX0_remove 59 = .ok (.iconst 0, 1) := by decide +kernel
theorem dX0_remove_60 : decode cX0_remove 60 = .ok (.istore_n 3, 1) := by decide +kernel
theorem dX0_remove_61 : decode cX0_remove 61 = .ok (.iload_n 3, 1) := by decide +kernel
theorem dX0_remove_62 : decode cX0_remove 62 = .ok (.aload_n 0, 1) := by decide +kernel
theorem dX0_remove_63 : decode cX0_remove 63 = .ok (.getfield 56, 3) := by decide +kernel
theorem dX0_remove_66 : decode cX0_remove 66 = .ok (.if_icmp .ge 19, 3) := by decide +kernel
theorem dX0_remove_69 : decode cX0_remove 69 = .ok (.aload_n 0, 1) := by decide +kernel
theorem dX0_remove_70 : decode cX0_remove 70 = .ok (.getfield 20, 3) := by decide +kernel
theorem dX0_remove_73 : decode cX0_remove 73 = .ok (.iload_n 3, 1) := by decide +kernel
theorem dX0_remove_74 : decode cX0_remove 74 = .ok (.aaload, 1) := by decide +kernel
theorem dX0_remove_75 : decode cX0_remove 75 = .ok (.iload_n 1, 1) := by decide +kernel
theorem dX0_remove_76 : decode cX0_remove 76 = .ok (.invokevirtual 75, 3) := by decide +kernel
theorem dX0_remove_79 : decode cX0_remove 79 = .ok (.iinc 3 1, 3) := by decide +kernel
theorem dX0_remove_82 : decode cX0_remove 82 = .ok (.goto (-21), 3) := by decide +kernel
theorem dX0_remove_85 : decode cX0_remove 85 = .ok (.aload_n 0, 1) := by decide +kernel
theorem dX0_remove_86 : decode cX0_remove 86 = .ok (.getfield 53, 3) := by decide +kernel
theorem dX0_remove_89 : decode cX0_remove 89 = .ok (.aload_n 0, 1) := by decide +kernel
theorem dX0_remove_90 : decode cX0_remove 90 = .ok (.getfield 50, 3) := by decide +kernel
theorem dX0_remove_93 : decode cX0_remove 93 = .ok (.if_icmp .ne 7, 3) := by decide +kernel
theorem dX0_remove_96 : decode cX0_remove 96 = .ok (.iconst 1, 1) := by decide +kernel
theorem dX0_remove_97 : decode cX0_remove 97 = .ok (.goto 4, 3) := by decide +kernel
theorem dX0_remove_100 : decode cX0_remove 100 = .ok (.iconst 0, 1) := by decide +kernel
theorem dX0_remove_101 : decode cX0_remove 101 = .ok (.istore_n 3, 1) := by decide +kernel
theorem dX0_remove_102 : decode cX0_remove 102 = .ok (.aload_n 0, 1) := by decide +kernel
theorem dX0_remove_103 : decode cX0_remove 103 = .ok (.getfield 53, 3) := by decide +kernel
theorem dX0_remove_106 : decode cX0_remove 106 = .ok (.iload_n 1, 1) := by decide +kernel
theorem dX0_remove_107 : decode cX0_remove 107 = .ok (.if_icmp .gt 14, 3) := by decide +kernel
theorem dX0_remove_110 : decode cX0_remove 110 = .ok (.iload_n 3, 1) := by decide +kernel
theorem dX0_remove_111 : decode cX0_remove 111 = .ok (.ifCond .eq 20, 3) := by decide +kernel
theorem dX0_remove_114 : decode cX0_remove 114 = .ok (.aload_n 0, 1) := by decide +kernel
theorem dX0_remove_115 : decode cX0_remove 115 = .ok (.getfield 53, 3) := by decide +kernel
theorem dX0_remove_118 : decode cX0_remove 118 = .ok (.ifCond .le 13, 3) := by decide +kernel
theorem dX0_remove_121 : decode cX0_remove 121 = .ok (.aload_n 0, 1) := by decide +kernel
theorem dX0_remove_122 : decode cX0_remove 122 = .ok (.dup, 1) := by decide +kernel
theorem dX0_remove_123 : decode cX0_remove 123 = .ok (.getfield 53, 3) := by decide +kernel
theorem dX0_remove_126 : decode cX0_remove 126 = .ok (.iconst 1, 1) := by decide +kernel
theorem dX0_remove_127 : decode cX0_remove 127 = .ok (.isub, 1) := by decide +kernel
theorem dX0_remove_128 : decode cX0_remove 128 = .ok (.putfield 53, 3) := by decide +kernel
theorem dX0_remove_131 : decode cX0_remove 131 = .ok (.return_, 1) := by decide +kernel
set_option maxRecDepth 20000 in
theorem ggX0_exchange_X1_changeAbout : GoodIn wsX0_exchange wsX1_changeAbout := goodIn_r _ [8, 9, 10, 11, 12, 7, 13, 25, 26, 27] (by decide +kernel) (by decide +kernel)
set_option maxRecDepth 20000 in
theorem gX0_exchange_X1_changeAbout : GoodIn wsX0_exchange (wsV RX0 79 RX1 yX1_changeAbout wsX1_changeAbout) := goodIn_app (goodIn_of _ (by decide +kernel)) ggX0_exchange_X1_changeAbout
theorem dX0_exchange_0 : decode cX0_exchange 0 = .ok (.aload_n 0, 1) := by decide +kernel
theorem dX0_exchange_1 : decode cX0_exchange 1 = .ok (.getfield 11, 3) := by decide +kernel
theorem dX0_exchange_4 : decode cX0_exchange 4 = .ok (.iload_n 1, 1) := by decide +kernel
theorem dX0_exchange_5 : decode cX0_exchange 5 = .ok (.aaload, 1) := by decide +kernel
theorem dX0_exchange_6 : decode cX0_exchange 6 = .ok (.astore_n 3, 1) := by decide +kernel
theorem dX0_exchange_7 : decode cX0_exchange 7 = .ok (.aload_n 0, 1) := by decide +kernel
theorem dX0_exchange_8 : decode cX0_exchange 8 = .ok (.getfield 11, 3) := by decide +kernel
theorem dX0_exchange_11 : decode cX0_exchange 11 = .ok (.iload_n 1, 1) := by decide +kernel
theorem dX0_exchange_12 : decode cX0_exchange 12 = .ok (.aload_n 0, 1) := by decide +kernel
theorem dX0_exchange_13 : decode cX0_exchange 13 = .ok (.getfield 11, 3) := by decide +kernel
theorem dX0_exchange_16 : decode cX0_exchange 16 = .ok (.iload_n 2, 1) := by decide +kernel
theorem dX0_exchange_17 : decode cX0_exchange 17 = .ok (.aaload, 1) := by decide +kernel
theorem dX0_exchange_18 : decode cX0_exchange 18 = .ok (.aastore, 1) := by decide +kernel
theorem dX0_exchange_19 : decode cX0_exchange 19 = .ok (.aload_n 0, 1) := by decide +kernel
theorem dX0_exchange_20 : decode cX0_exchange 20 = .ok (.getfield 11, 3) := by decide +kernel
theorem dX0_exchange_23 : decode cX0_exchange 23 = .ok (.iload_n 2, 1) := by decide +kernel
theorem dX0_exchange_24 : decode cX0_exchange 24 = .ok (.aload_n 3, 1) := by decide +kernel
theorem dX0_exchange_25 : decode cX0_exchange 25 = .ok (.aastore, 1) := by decide +kernel
theorem dX0_exchange_26 : decode cX0_exchange 26 = .ok (.iconst 0, 1) := by decide +kernel
theorem dX0_exchange_27 : decode cX0_exchange 27 = .ok (.istore 4, 2) := by decide +kernel
theorem dX0_exchange_29 : decode cX0_exchange 29 = .ok (.iload 4, 2) := by decide +kernel
theorem dX0_exchange_31 : decode cX0_exchange 31 = .ok (.aload_n 0, 1) := by decide +kernel
theorem dX0_exchange_32 : decode cX0_exchange 32 = .ok (.getfield 56, 3) := by decide +kernel
theorem dX0_exchange_35 : decode cX0_exchange 35 = .ok (.if_icmp .ge 21, 3) := by decide +kernel
theorem dX0_exchange_38 : decode cX0_exchange 38 = .ok (.aload_n 0, 1) := by decide +kernel
theorem dX0_exchange_39 : decode cX0_exchange 39 = .ok (.getfield 20, 3) := by decide +kernel
theorem dX0_exchange_42 : decode cX0_exchange 42 = .ok (.iload 4, 2) := by decide +kernel
theorem dX0_exchange_44 : decode cX0_exchange 44 = .ok (.aaload, 1) := by decide +kernel
theorem dX0_exchange_45 : decode cX0_exchange 45 = .ok (.iload_n 1, 1) := by decide +kernel
theorem dX0_exchange_46 : decode cX0_exchange 46 = .ok (.iload_n 2, 1) := by decide +kernel
theorem dX0_exchange_47 : decode cX0_exchange 47 = .ok (.invokevirtual 79, 3) := by decide +kernel
theorem dX0_exchange_50 : decode cX0_exchange 50 = .ok (.iinc 4 1, 3) := by decide +kernel
theorem dX0_exchange_53 : decode cX0_exchange 53 = .ok (.goto (-24), 3) := by decide +kernel
theorem dX0_exchange_56 : decode cX0_exchange 56 = .ok (.return_, 1) := by decide +kernel
theorem dX0_appendRoute_0 : decode cX0_appendRoute 0 = .ok (.aload_n 0, 1) := by decide +kernel
theorem dX0_appendRoute_1 : decode cX0_appendRoute 1 = .ok (.getfield 56, 3) := by decide +kernel
theorem dX0_appendRoute_4 : decode cX0_appendRoute 4 = .ok (.bipush 6, 2) := by decide +kernel
theorem dX0_appendRoute_6 : decode cX0_appendRoute 6 = .ok (.if_icmp .lt 6, 3) := by decide +kernel
theorem dX0_appendRoute_9 : decode cX0_appendRoute 9 = .ok (.ldc 83, 2) := by decide +kernel
theorem dX0_appendRoute_11 : decode cX0_appendRoute 11 = .ok (.ireturn, 1) := by decide +kernel
theorem dX0_appendRoute_12 : decode cX0_appendRoute 12 = .ok (.aload_n 0, 1) := by decide +kernel
theorem dX0_appendRoute_13 : decode cX0_appendRoute 13 = .ok (.getfield 20, 3) := by decide +kernel
theorem dX0_appendRoute_16 : decode cX0_appendRoute 16 = .ok (.aload_n 0, 1) := by decide +kernel
theorem dX0_appendRoute_17 : decode cX0_appendRoute 17 = .ok (.getfield 56, 3) := by decide +kernel
theorem dX0_appendRoute_20 : decode cX0_appendRoute 20 = .ok (.aaload, 1) := by decide +kernel
theorem dX0_appendRoute_21 : decode cX0_appendRoute 21 = .ok (.iload_n 1, 1) := by decide +kernel
theorem dX0_appendRoute_22 : decode cX0_appendRoute 22 = .ok (.putfield 84, 3) := by decide +kernel
theorem dX0_appendRoute_25 : decode cX0_appendRoute 25 = .ok (.aload_n 0, 1) := by decide +kernel
theorem dX0_appendRoute_26 : decode cX0_appendRoute 26 = .ok (.getfield 20, 3) := by decide +kernel
theorem dX0_appendRoute_29 : decode cX0_appendRoute 29 = .ok (.aload_n 0, 1) := by decide +kernel
theorem dX0_appendRoute_30 : decode cX0_appendRoute 30 = .ok (.getfield 56, 3) := by decide +kernel
theorem dX0_appendRoute_33 : decode cX0_appendRoute 33 = .ok (.aaload, 1) := by decide +kernel
theorem dX0_appendRoute_34 : decode cX0_appendRoute 34 = .ok (.iconst 0, 1) := by decide +kernel
theorem dX0_appendRoute_35 : decode cX0_appendRoute 35 = .ok (.putfield 86, 3) := by decide +kernel
theorem dX0_appendRoute_38 : decode cX0_appendRoute 38 = .ok (.aload_n 0, 1) := by decide +kernel
theorem dX0_appendRoute_39 : decode cX0_appendRoute 39 = .ok (.getfield 20, 3) := by decide +kernel
theorem dX0_appendRoute_42 : decode cX0_appendRoute 42 = .ok (.aload_n 0, 1) := by decide +kernel
theorem dX0_appendRoute_43 : decode cX0_appendRoute 43 = .ok (.getfield 56, 3) := by decide +kernel
theorem dX0_appendRoute_46 : decode cX0_appendRoute 46 = .ok (.aaload, 1) := by decide +kernel
theorem dX0_appendRoute_47 : decode cX0_appendRoute 47 = .ok (.iconst 0, 1) := by decide +kernel
theorem dX0_appendRoute_48 : decode cX0_appendRoute 48 = .ok (.putfield 87, 3) := by decide +kernel
theorem dX0_appendRoute_51 : decode cX0_appendRoute 51 = .ok (.aload_n 0, 1) := by decide +kernel
theorem dX0_appendRoute_52 : decode cX0_appendRoute 52 = .ok (.dup, 1) := by decide +kernel
theorem dX0_appendRoute_53 : decode cX0_appendRoute 53 = .ok (.getfield 56, 3) := by decide +kernel
theorem dX0_appendRoute_56 : decode cX0_appendRoute 56 = .ok (.iconst 1, 1) := by decide +kernel
theorem dX0_appendRoute_57 : decode cX0_appendRoute 57 = .ok (.iadd, 1) := by decide +kernel
theorem dX0_appendRoute_58 : decode cX0_appendRoute 58 = .ok (.putfield 56, 3) := by decide +kernel
theorem dX0_appendRoute_61 : decode cX0_appendRoute 61 = .ok (.aload_n 0, 1) := by decide +kernel
theorem dX0_appendRoute_62 : decode cX0_appendRoute 62 = .ok (.getfield 56, 3) := by decide +kernel
theorem dX0_appendRoute_65 : decode cX0_appendRoute 65 = .ok (.iconst 1, 1) := by decide +kernel
theorem dX0_appendRoute_66 : decode cX0_appendRoute 66 = .ok (.isub, 1) := by decide +kernel
theorem dX0_appendRoute_67 : decode cX0_appendRoute 67 = .ok (.ireturn, 1) := by decide +kernel
set_option maxRecDepth 20000 in
theorem ggX0_routesOf_X1_owns : GoodIn wsX0_routesOf wsX1_owns := goodIn_r _ [7, 8, 20, 21, 22] (by decide +kernel) (by decide +kernel)
set_option maxRecDepth 20000 in
theorem gX0_routesOf_X1_owns : GoodIn wsX0_routesOf (wsV RX0 88 RX1 yX1_owns wsX1_owns) := goodIn_app (goodIn_of _ (by decide +kernel)) ggX0_routesOf_X1_owns
theorem dX0_routesOf_0 : decode cX0_routesOf 0 = .ok (.iconst 0, 1) := by decide +kernel
theorem dX0_routesOf_1 : decode cX0_routesOf 1 = .ok (.istore_n 2, 1) := by decide +kernel
theorem dX0_routesOf_2 : decode cX0_routesOf 2 = .ok (.iconst 0, 1) := by decide +kernel
theorem dX0_routesOf_3 : decode cX0_routesOf 3 = .ok (.istore_n 3, 1) := by decide +kernel
theorem dX0_routesOf_4 : decode cX0_routesOf 4 = .ok (.iload_n 3, 1) := by decide +kernel
theorem dX0_routesOf_5 : decode cX0_routesOf 5 = .ok (.aload_n 0, 1) := by decide +kernel
theorem dX0_routesOf_6 : decode cX0_routesOf 6 = .ok (.getfield 56, 3) := by decide +kernel
theorem dX0_routesOf_9 : decode cX0_routesOf 9 = .ok (.if_icmp .ge 28, 3) := by decide +kernel
theorem dX0_routesOf_12 : decode cX0_routesOf 12 = .ok (.aload_n 0, 1) := by decide +kernel
theorem dX0_routesOf_13 : decode cX0_routesOf 13 = .ok (.getfield 20, 3) := by decide +kernel
theorem dX0_routesOf_16 : decode cX0_routesOf 16 = .ok (.iload_n 3, 1) := by decide +kernel
theorem dX0_routesOf_17 : decode cX0_routesOf 17 = .ok (.aaload, 1) := by decide +kernel
theorem dX0_routesOf_18 : decode cX0_routesOf 18 = .ok (.iload_n 1, 1) := by decide +kernel
theorem dX0_routesOf_19 : decode cX0_routesOf 19 = .ok (.invokevirtual 88, 3) := by decide +kernel
theorem dX0_routesOf_22 : decode cX0_routesOf 22 = .ok (.ifCond .eq 9, 3) := by decide +kernel
theorem dX0_routesOf_25 : decode cX0_routesOf 25 = .ok (.iload_n 2, 1) := by decide +kernel
theorem dX0_routesOf_26 : decode cX0_routesOf 26 = .ok (.iconst 1, 1) := by decide +kernel
theorem dX0_routesOf_27 : decode cX0_routesOf 27 = .ok (.iload_n 3, 1) := by decide +kernel
theorem dX0_routesOf_28 : decode cX0_routesOf 28 = .ok (.ishl, 1) := by decide +kernel
theorem dX0_routesOf_29 : decode cX0_routesOf 29 = .ok (.ior, 1) := by decide +kernel
theorem dX0_routesOf_30 : decode cX0_routesOf 30 = .ok (.istore_n 2, 1) := by decide +kernel
theorem dX0_routesOf_31 : decode cX0_routesOf 31 = .ok (.iinc 3 1, 3) := by decide +kernel
theorem dX0_routesOf_34 : decode cX0_routesOf 34 = .ok (.goto (-30), 3) := by decide +kernel
theorem dX0_routesOf_37 : decode cX0_routesOf 37 = .ok (.iload_n 2, 1) := by decide +kernel
theorem dX0_routesOf_38 : decode cX0_routesOf 38 = .ok (.ireturn, 1) := by decide +kernel
theorem dX0_tornRows_0 : decode cX0_tornRows 0 = .ok (.iconst 0, 1) := by decide +kernel
theorem dX0_tornRows_1 : decode cX0_tornRows 1 = .ok (.istore_n 1, 1) := by decide +kernel
theorem dX0_tornRows_2 : decode cX0_tornRows 2 = .ok (.iconst 0, 1) := by decide +kernel
theorem dX0_tornRows_3 : decode cX0_tornRows 3 = .ok (.istore_n 2, 1) := by decide +kernel
theorem dX0_tornRows_4 : decode cX0_tornRows 4 = .ok (.iload_n 2, 1) := by decide +kernel
theorem dX0_tornRows_5 : decode cX0_tornRows 5 = .ok (.aload_n 0, 1) := by decide +kernel
theorem dX0_tornRows_6 : decode cX0_tornRows 6 = .ok (.getfield 50, 3) := by decide +kernel
theorem dX0_tornRows_9 : decode cX0_tornRows 9 = .ok (.if_icmp .ge 27, 3) := by decide +kernel
theorem dX0_tornRows_12 : decode cX0_tornRows 12 = .ok (.aload_n 0, 1) := by decide +kernel
theorem dX0_tornRows_13 : decode cX0_tornRows 13 = .ok (.getfield 11, 3) := by decide +kernel
theorem dX0_tornRows_16 : decode cX0_tornRows 16 = .ok (.iload_n 2, 1) := by decide +kernel
theorem dX0_tornRows_17 : decode cX0_tornRows 17 = .ok (.aaload, 1) := by decide +kernel
theorem dX0_tornRows_18 : decode cX0_tornRows 18 = .ok (.getfield 92, 3) := by decide +kernel
theorem dX0_tornRows_21 : decode cX0_tornRows 21 = .ok (.ifCond .eq 9, 3) := by decide +kernel
theorem dX0_tornRows_24 : decode cX0_tornRows 24 = .ok (.iload_n 1, 1) := by decide +kernel
theorem dX0_tornRows_25 : decode cX0_tornRows 25 = .ok (.iconst 1, 1) := by decide +kernel
theorem dX0_tornRows_26 : decode cX0_tornRows 26 = .ok (.iload_n 2, 1) := by decide +kernel
theorem dX0_tornRows_27 : decode cX0_tornRows 27 = .ok (.ishl, 1) := by decide +kernel
theorem dX0_tornRows_28 : decode cX0_tornRows 28 = .ok (.ior, 1) := by decide +kernel
theorem dX0_tornRows_29 : decode cX0_tornRows 29 = .ok (.istore_n 1, 1) := by decide +kernel
theorem dX0_tornRows_30 : decode cX0_tornRows 30 = .ok (.iinc 2 1, 3) := by decide +kernel
theorem dX0_tornRows_33 : decode cX0_tornRows 33 = .ok (.goto (-29), 3) := by decide +kernel
theorem dX0_tornRows_36 : decode cX0_tornRows 36 = .ok (.iload_n 1, 1) := by decide +kernel
theorem dX0_tornRows_37 : decode cX0_tornRows 37 = .ok (.ireturn, 1) := by decide +kernel
theorem dX0_squeezed_0 : decode cX0_squeezed 0 = .ok (.aload_n 0, 1) := by decide +kernel
theorem dX0_squeezed_1 : decode cX0_squeezed 1 = .ok (.getfield 25, 3) := by decide +kernel
theorem dX0_squeezed_4 : decode cX0_squeezed 4 = .ok (.iconst 0, 1) := by decide +kernel
theorem dX0_squeezed_5 : decode cX0_squeezed 5 = .ok (.iaload, 1) := by decide +kernel
theorem dX0_squeezed_6 : decode cX0_squeezed 6 = .ok (.istore_n 2, 1) := by decide +kernel
theorem dX0_squeezed_7 : decode cX0_squeezed 7 = .ok (.iload_n 2, 1) := by decide +kernel
theorem dX0_squeezed_8 : decode cX0_squeezed 8 = .ok (.ifCond .le 17, 3) := by decide +kernel
theorem dX0_squeezed_11 : decode cX0_squeezed 11 = .ok (.iload_n 1, 1) := by decide +kernel
theorem dX0_squeezed_12 : decode cX0_squeezed 12 = .ok (.iload_n 2, 1) := by decide +kernel
theorem dX0_squeezed_13 : decode cX0_squeezed 13 = .ok (.if_icmp .le 12, 3) := by decide +kernel
theorem dX0_squeezed_16 : decode cX0_squeezed 16 = .ok (.iload_n 1, 1) := by decide +kernel
theorem dX0_squeezed_17 : decode cX0_squeezed 17 = .ok (.bipush 100, 2) := by decide +kernel
theorem dX0_squeezed_19 : decode cX0_squeezed 19 = .ok (.imul, 1) := by decide +kernel
theorem dX0_squeezed_20 : decode cX0_squeezed 20 = .ok (.iload_n 2, 1) := by decide +kernel
theorem dX0_squeezed_21 : decode cX0_squeezed 21 = .ok (.idiv, 1) := by decide +kernel
theorem dX0_squeezed_22 : decode cX0_squeezed 22 = .ok (.goto 5, 3) := by decide +kernel
theorem dX0_squeezed_25 : decode cX0_squeezed 25 = .ok (.bipush 100, 2) := by decide +kernel
theorem dX0_squeezed_27 : decode cX0_squeezed 27 = .ok (.ireturn, 1) := by decide +kernel
set_option maxRecDepth 20000 in
theorem ggX0_widthOfAll_X2_width : GoodIn wsX0_widthOfAll wsX2_width := goodIn_r _ [7, 8, 9, 10, 11, 12, 24, 25, 26, 27] (by decide +kernel) (by decide +kernel)
set_option maxRecDepth 20000 in
theorem gX0_widthOfAll_X2_width : GoodIn wsX0_widthOfAll (wsV RX0 96 RX2 yX2_width wsX2_width) := goodIn_app (goodIn_of _ (by decide +kernel)) ggX0_widthOfAll_X2_width
theorem dX0_widthOfAll_0 : decode cX0_widthOfAll 0 = .ok (.iconst 0, 1) := by decide +kernel
theorem dX0_widthOfAll_1 : decode cX0_widthOfAll 1 = .ok (.istore_n 1, 1) := by decide +kernel
theorem dX0_widthOfAll_2 : decode cX0_widthOfAll 2 = .ok (.iconst 0, 1) := by decide +kernel
theorem dX0_widthOfAll_3 : decode cX0_widthOfAll 3 = .ok (.istore_n 2, 1) := by decide +kernel
theorem dX0_widthOfAll_4 : decode cX0_widthOfAll 4 = .ok (.iload_n 2, 1) := by decide +kernel
theorem dX0_widthOfAll_5 : decode cX0_widthOfAll 5 = .ok (.aload_n 0, 1) := by decide +kernel
theorem dX0_widthOfAll_6 : decode cX0_widthOfAll 6 = .ok (.getfield 50, 3) := by decide +kernel
theorem dX0_widthOfAll_9 : decode cX0_widthOfAll 9 = .ok (.if_icmp .ge 21, 3) := by decide +kernel
theorem dX0_widthOfAll_12 : decode cX0_widthOfAll 12 = .ok (.iload_n 1, 1) := by decide +kernel
theorem dX0_widthOfAll_13 : decode cX0_widthOfAll 13 = .ok (.aload_n 0, 1) := by decide +kernel
theorem dX0_widthOfAll_14 : decode cX0_widthOfAll 14 = .ok (.getfield 11, 3) := by decide +kernel
theorem dX0_widthOfAll_17 : decode cX0_widthOfAll 17 = .ok (.iload_n 2, 1) := by decide +kernel
theorem dX0_widthOfAll_18 : decode cX0_widthOfAll 18 = .ok (.aaload, 1) := by decide +kernel
theorem dX0_widthOfAll_19 : decode cX0_widthOfAll 19 = .ok (.invokevirtual 96, 3) := by decide +kernel
theorem dX0_widthOfAll_22 : decode cX0_widthOfAll 22 = .ok (.iadd, 1) := by decide +kernel
theorem dX0_widthOfAll_23 : decode cX0_widthOfAll 23 = .ok (.istore_n 1, 1) := by decide +kernel
theorem dX0_widthOfAll_24 : decode cX0_widthOfAll 24 = .ok (.iinc 2 1, 3) := by decide +kernel
theorem dX0_widthOfAll_27 : decode cX0_widthOfAll 27 = .ok (.goto (-23), 3) := by decide +kernel
theorem dX0_widthOfAll_30 : decode cX0_widthOfAll 30 = .ok (.iload_n 1, 1) := by decide +kernel
theorem dX0_widthOfAll_31 : decode cX0_widthOfAll 31 = .ok (.ireturn, 1) := by decide +kernel
set_option maxRecDepth 20000 in
theorem ggX0_widest_X2_width : GoodIn wsX0_widest wsX2_width := goodIn_r _ [7, 8, 9, 10, 11, 12, 24, 25, 26, 27] (by decide +kernel) (by decide +kernel)
set_option maxRecDepth 20000 in
theorem gX0_widest_X2_width : GoodIn wsX0_widest (wsV RX0 96 RX2 yX2_width wsX2_width) := goodIn_app (goodIn_of _ (by decide +kernel)) ggX0_widest_X2_width
theorem dX0_widest_0 : decode cX0_widest 0 = .ok (.iconst 0, 1) := by decide +kernel
theorem dX0_widest_1 : decode cX0_widest 1 = .ok (.istore_n 1, 1) := by decide +kernel
theorem dX0_widest_2 : decode cX0_widest 2 = .ok (.iconst 1, 1) := by decide +kernel
theorem dX0_widest_3 : decode cX0_widest 3 = .ok (.istore_n 2, 1) := by decide +kernel
theorem dX0_widest_4 : decode cX0_widest 4 = .ok (.iload_n 2, 1) := by decide +kernel
theorem dX0_widest_5 : decode cX0_widest 5 = .ok (.aload_n 0, 1) := by decide +kernel
theorem dX0_widest_6 : decode cX0_widest 6 = .ok (.getfield 50, 3) := by decide +kernel
theorem dX0_widest_9 : decode cX0_widest 9 = .ok (.if_icmp .ge 32, 3) := by decide +kernel
theorem dX0_widest_12 : decode cX0_widest 12 = .ok (.aload_n 0, 1) := by decide +kernel
theorem dX0_widest_13 : decode cX0_widest 13 = .ok (.getfield 11, 3) := by decide +kernel
theorem dX0_widest_16 : decode cX0_widest 16 = .ok (.iload_n 2, 1) := by decide +kernel
theorem dX0_widest_17 : decode cX0_widest 17 = .ok (.aaload, 1) := by decide +kernel
theorem dX0_widest_18 : decode cX0_widest 18 = .ok (.invokevirtual 96, 3) := by decide +kernel
theorem dX0_widest_21 : decode cX0_widest 21 = .ok (.aload_n 0, 1) := by decide +kernel
theorem dX0_widest_22 : decode cX0_widest 22 = .ok (.getfield 11, 3) := by decide +kernel
theorem dX0_widest_25 : decode cX0_widest 25 = .ok (.iload_n 1, 1) := by decide +kernel
theorem dX0_widest_26 : decode cX0_widest 26 = .ok (.aaload, 1) := by decide +kernel
theorem dX0_widest_27 : decode cX0_widest 27 = .ok (.invokevirtual 96, 3) := by decide +kernel
theorem dX0_widest_30 : decode cX0_widest 30 = .ok (.if_icmp .le 5, 3) := by decide +kernel
theorem dX0_widest_33 : decode cX0_widest 33 = .ok (.iload_n 2, 1) := by decide +kernel
theorem dX0_widest_34 : decode cX0_widest 34 = .ok (.istore_n 1, 1) := by decide +kernel
theorem dX0_widest_35 : decode cX0_widest 35 = .ok (.iinc 2 1, 3) := by decide +kernel
theorem dX0_widest_38 : decode cX0_widest 38 = .ok (.goto (-34), 3) := by decide +kernel
theorem dX0_widest_41 : decode cX0_widest 41 = .ok (.iload_n 1, 1) := by decide +kernel
theorem dX0_widest_42 : decode cX0_widest 42 = .ok (.ireturn, 1) := by decide +kernel
theorem dX0_rowAfter_0 : decode cX0_rowAfter 0 = .ok (.iload_n 1, 1) := by decide +kernel
theorem dX0_rowAfter_1 : decode cX0_rowAfter 1 = .ok (.ifCond .le 12, 3) := by decide +kernel
theorem dX0_rowAfter_4 : decode cX0_rowAfter 4 = .ok (.aload_n 0, 1) := by decide +kernel
theorem dX0_rowAfter_5 : decode cX0_rowAfter 5 = .ok (.getfield 53, 3) := by decide +kernel
theorem dX0_rowAfter_8 : decode cX0_rowAfter 8 = .ok (.iload_n 2, 1) := by decide +kernel
theorem dX0_rowAfter_9 : decode cX0_rowAfter 9 = .ok (.iadd, 1) := by decide +kernel
theorem dX0_rowAfter_10 : decode cX0_rowAfter 10 = .ok (.goto 9, 3) := by decide +kernel
theorem dX0_rowAfter_13 : decode cX0_rowAfter 13 = .ok (.aload_n 0, 1) := by decide +kernel
theorem dX0_rowAfter_14 : decode cX0_rowAfter 14 = .ok (.getfield 53, 3) := by decide +kernel
theorem dX0_rowAfter_17 : decode cX0_rowAfter 17 = .ok (.iload_n 2, 1) := by decide +kernel
theorem dX0_rowAfter_18 : decode cX0_rowAfter 18 = .ok (.isub, 1) := by decide +kernel
theorem dX0_rowAfter_19 : decode cX0_rowAfter 19 = .ok (.ireturn, 1) := by decide +kernel
theorem dX0_isEnd_0 : decode cX0_isEnd 0 = .ok (.iload_n 1, 1) := by decide +kernel
theorem dX0_isEnd_1 : decode cX0_isEnd 1 = .ok (.ifCond .le 21, 3) := by decide +kernel
theorem dX0_isEnd_4 : decode cX0_isEnd 4 = .ok (.iload_n 2, 1) := by decide +kernel
theorem dX0_isEnd_5 : decode cX0_isEnd 5 = .ok (.aload_n 0, 1) := by decide +kernel
theorem dX0_isEnd_6 : decode cX0_isEnd 6 = .ok (.getfield 50, 3) := by decide +kernel
theorem dX0_isEnd_9 : decode cX0_isEnd 9 = .ok (.iconst 1, 1) := by decide +kernel
theorem dX0_isEnd_10 : decode cX0_isEnd 10 = .ok (.isub, 1) := by decide +kernel
theorem dX0_isEnd_11 : decode cX0_isEnd 11 = .ok (.if_icmp .lt 7, 3) := by decide +kernel
theorem dX0_isEnd_14 : decode cX0_isEnd 14 = .ok (.iconst 1, 1) := by decide +kernel
theorem dX0_isEnd_15 : decode cX0_isEnd 15 = .ok (.goto 16, 3) := by decide +kernel
theorem dX0_isEnd_18 : decode cX0_isEnd 18 = .ok (.iconst 0, 1) := by decide +kernel
theorem dX0_isEnd_19 : decode cX0_isEnd 19 = .ok (.goto 12, 3) := by decide +kernel
theorem dX0_isEnd_22 : decode cX0_isEnd 22 = .ok (.iload_n 2, 1) := by decide +kernel
theorem dX0_isEnd_23 : decode cX0_isEnd 23 = .ok (.ifCond .gt 7, 3) := by decide +kernel
theorem dX0_isEnd_26 : decode cX0_isEnd 26 = .ok (.iconst 1, 1) := by decide +kernel
theorem dX0_isEnd_27 : decode cX0_isEnd 27 = .ok (.goto 4, 3) := by decide +kernel
theorem dX0_isEnd_30 : decode cX0_isEnd 30 = .ok (.iconst 0, 1) := by decide +kernel
theorem dX0_isEnd_31 : decode cX0_isEnd 31 = .ok (.ireturn, 1) := by decide +kernel
set_option maxRecDepth 20000 in
theorem ggX0_stepsOf_X0_rowAfter : GoodIn wsX0_stepsOf wsX0_rowAfter := goodIn_r _ [11, 12, 18, 19, 20, 21, 22, 23, 24, 25, 26, 27, 28] (by decide +kernel) (by decide +kernel)
set_option maxRecDepth 20000 in
theorem gX0_stepsOf_X0_rowAfter : GoodIn wsX0_stepsOf (wsV RX0 106 RX0 yX0_rowAfter wsX0_rowAfter) := goodIn_app (goodIn_of _ (by decide +kernel)) ggX0_stepsOf_X0_rowAfter
set_option maxRecDepth 20000 in
theorem ggX0_stepsOf_X0_isEnd : GoodIn wsX0_stepsOf wsX0_isEnd := goodIn_r _ [16, 17, 18, 19, 20, 21, 22, 23, 24, 25, 26, 27, 28] (by decide +kernel) (by decide +kernel)
set_option maxRecDepth 20000 in
theorem gX0_stepsOf_X0_isEnd : GoodIn wsX0_stepsOf (wsV RX0 110 RX0 yX0_isEnd wsX0_isEnd) := goodIn_app (goodIn_of _ (by decide +kernel)) ggX0_stepsOf_X0_isEnd
theorem dX0_stepsOf_0 : decode cX0_stepsOf 0 = .ok (.iconst 0, 1) := by decide +kernel
theorem dX0_stepsOf_1 : decode cX0_stepsOf 1 = .ok (.istore_n 2, 1) := by decide +kernel
theorem dX0_stepsOf_2 : decode cX0_stepsOf 2 = .ok (.iconst 0, 1) := by decide +kernel
theorem dX0_stepsOf_3 : decode cX0_stepsOf 3 = .ok (.istore_n 3, 1) := by decide +kernel
theorem dX0_stepsOf_4 : decode cX0_stepsOf 4 = .ok (.iload_n 3, 1) := by decide +kernel
theorem dX0_stepsOf_5 : decode cX0_stepsOf 5 = .ok (.iload_n 1, 1) := by decide +kernel
theorem dX0_stepsOf_6 : decode cX0_stepsOf 6 = .ok (.invokestatic 100, 3) := by decide +kernel
theorem dX0_stepsOf_9 : decode cX0_stepsOf 9 = .ok (.if_icmp .ge 49, 3) := by decide +kernel
theorem dX0_stepsOf_12 : decode cX0_stepsOf 12 = .ok (.aload_n 0, 1) := by decide +kernel
theorem dX0_stepsOf_13 : decode cX0_stepsOf 13 = .ok (.iload_n 1, 1) := by decide +kernel
theorem dX0_stepsOf_14 : decode cX0_stepsOf 14 = .ok (.iload_n 2, 1) := by decide +kernel
theorem dX0_stepsOf_15 : decode cX0_stepsOf 15 = .ok (.invokevirtual 106, 3) := by decide +kernel
theorem dX0_stepsOf_18 : decode cX0_stepsOf 18 = .ok (.istore 4, 2) := by decide +kernel
theorem dX0_stepsOf_20 : decode cX0_stepsOf 20 = .ok (.aload_n 0, 1) := by decide +kernel
theorem dX0_stepsOf_21 : decode cX0_stepsOf 21 = .ok (.iload_n 1, 1) := by decide +kernel
theorem dX0_stepsOf_22 : decode cX0_stepsOf 22 = .ok (.iload 4, 2) := by decide +kernel
theorem dX0_stepsOf_24 : decode cX0_stepsOf 24 = .ok (.invokevirtual 110, 3) := by decide +kernel
theorem dX0_stepsOf_27 : decode cX0_stepsOf 27 = .ok (.ifCond .ne 20, 3) := by decide +kernel
theorem dX0_stepsOf_30 : decode cX0_stepsOf 30 = .ok (.iload_n 2, 1) := by decide +kernel
theorem dX0_stepsOf_31 : decode cX0_stepsOf 31 = .ok (.ifCond .le 18, 3) := by decide +kernel
theorem dX0_stepsOf_34 : decode cX0_stepsOf 34 = .ok (.aload_n 0, 1) := by decide +kernel
theorem dX0_stepsOf_35 : decode cX0_stepsOf 35 = .ok (.getfield 11, 3) := by decide +kernel
theorem dX0_stepsOf_38 : decode cX0_stepsOf 38 = .ok (.iload 4, 2) := by decide +kernel
theorem dX0_stepsOf_40 : decode cX0_stepsOf 40 = .ok (.aaload, 1) := by decide +kernel
theorem dX0_stepsOf_41 : decode cX0_stepsOf 41 = .ok (.getfield 92, 3) := by decide +kernel
theorem dX0_stepsOf_44 : decode cX0_stepsOf 44 = .ok (.ifCond .eq 5, 3) := by decide +kernel
theorem dX0_stepsOf_47 : decode cX0_stepsOf 47 = .ok (.iload_n 2, 1) := by decide +kernel
theorem dX0_stepsOf_48 : decode cX0_stepsOf 48 = .ok (.ireturn, 1) := by decide +kernel
theorem dX0_stepsOf_49 : decode cX0_stepsOf 49 = .ok (.iinc 2 1, 3) := by decide +kernel
theorem dX0_stepsOf_52 : decode cX0_stepsOf 52 = .ok (.iinc 3 1, 3) := by decide +kernel
theorem dX0_stepsOf_55 : decode cX0_stepsOf 55 = .ok (.goto (-51), 3) := by decide +kernel
theorem dX0_stepsOf_58 : decode cX0_stepsOf 58 = .ok (.iload_n 2, 1) := by decide +kernel
theorem dX0_stepsOf_59 : decode cX0_stepsOf 59 = .ok (.ireturn, 1) := by decide +kernel
set_option maxRecDepth 20000 in
theorem ggX0_endOf_X0_rowAfter : GoodIn wsX0_endOf wsX0_rowAfter := goodIn_r _ [9, 10, 16, 17, 18, 19, 20, 21, 22, 23, 24, 25, 26] (by decide +kernel) (by decide +kernel)
set_option maxRecDepth 20000 in
theorem gX0_endOf_X0_rowAfter : GoodIn wsX0_endOf (wsV RX0 106 RX0 yX0_rowAfter wsX0_rowAfter) := goodIn_app (goodIn_of _ (by decide +kernel)) ggX0_endOf_X0_rowAfter
set_option maxRecDepth 20000 in
theorem ggX0_endOf_X0_isEnd : GoodIn wsX0_endOf wsX0_isEnd := goodIn_r _ [14, 15, 16, 17, 18, 19, 20, 21, 22, 23, 24, 25, 26] (by decide +kernel) (by decide +kernel)
set_option maxRecDepth 20000 in
theorem gX0_endOf_X0_isEnd : GoodIn wsX0_endOf (wsV RX0 110 RX0 yX0_isEnd wsX0_isEnd) := goodIn_app (goodIn_of _ (by decide +kernel)) ggX0_endOf_X0_isEnd
theorem dX0_endOf_0 : decode cX0_endOf 0 = .ok (.iload_n 2, 1) := by decide +kernel
theorem dX0_endOf_1 : decode cX0_endOf 1 = .ok (.iload_n 1, 1) := by decide +kernel
theorem dX0_endOf_2 : decode cX0_endOf 2 = .ok (.invokestatic 100, 3) := by decide +kernel
theorem dX0_endOf_5 : decode cX0_endOf 5 = .ok (.if_icmp .ne 5, 3) := by decide +kernel
theorem dX0_endOf_8 : decode cX0_endOf 8 = .ok (.iconst 0, 1) := by decide +kernel
theorem dX0_endOf_9 : decode cX0_endOf 9 = .ok (.ireturn, 1) := by decide +kernel
theorem dX0_endOf_10 : decode cX0_endOf 10 = .ok (.aload_n 0, 1) := by decide +kernel
theorem dX0_endOf_11 : decode cX0_endOf 11 = .ok (.iload_n 1, 1) := by decide +kernel
theorem dX0_endOf_12 : decode cX0_endOf 12 = .ok (.aload_n 0, 1) := by decide +kernel
theorem dX0_endOf_13 : decode cX0_endOf 13 = .ok (.iload_n 1, 1) := by decide +kernel
theorem dX0_endOf_14 : decode cX0_endOf 14 = .ok (.iload_n 2, 1) := by decide +kernel
theorem dX0_endOf_15 : decode cX0_endOf 15 = .ok (.invokevirtual 106, 3) := by decide +kernel
theorem dX0_endOf_18 : decode cX0_endOf 18 = .ok (.invokevirtual 110, 3) := by decide +kernel
theorem dX0_endOf_21 : decode cX0_endOf 21 = .ok (.ifCond .eq 7, 3) := by decide +kernel
theorem dX0_endOf_24 : decode cX0_endOf 24 = .ok (.iconst 1, 1) := by decide +kernel
theorem dX0_endOf_25 : decode cX0_endOf 25 = .ok (.goto 4, 3) := by decide +kernel
theorem dX0_endOf_28 : decode cX0_endOf 28 = .ok (.iconst 2, 1) := by decide +kernel
theorem dX0_endOf_29 : decode cX0_endOf 29 = .ok (.ireturn, 1) := by decide +kernel
theorem dX0_isSkipped_0 : decode cX0_isSkipped 0 = .ok (.iload_n 2, 1) := by decide +kernel
theorem dX0_isSkipped_1 : decode cX0_isSkipped 1 = .ok (.iconst 3, 1) := by decide +kernel
theorem dX0_isSkipped_2 : decode cX0_isSkipped 2 = .ok (.if_icmp .ne 14, 3) := by decide +kernel
theorem dX0_isSkipped_5 : decode cX0_isSkipped 5 = .ok (.iload_n 1, 1) := by decide +kernel
theorem dX0_isSkipped_6 : decode cX0_isSkipped 6 = .ok (.iconst 2, 1) := by decide +kernel
theorem dX0_isSkipped_7 : decode cX0_isSkipped 7 = .ok (.irem, 1) := by decide +kernel
theorem dX0_isSkipped_8 : decode cX0_isSkipped 8 = .ok (.iconst 1, 1) := by decide +kernel
theorem dX0_isSkipped_9 : decode cX0_isSkipped 9 = .ok (.if_icmp .ne 7, 3) := by decide +kernel
theorem dX0_isSkipped_12 : decode cX0_isSkipped 12 = .ok (.iconst 1, 1) := by decide +kernel
theorem dX0_isSkipped_13 : decode cX0_isSkipped 13 = .ok (.goto 4, 3) := by decide +kernel
theorem dX0_isSkipped_16 : decode cX0_isSkipped 16 = .ok (.iconst 0, 1) := by decide +kernel
theorem dX0_isSkipped_17 : decode cX0_isSkipped 17 = .ok (.ireturn, 1) := by decide +kernel
set_option maxRecDepth 20000 in
theorem ggX0_tearsAt_X0_isSkipped : GoodIn wsX0_tearsAt wsX0_isSkipped := goodIn_r _ [8] (by decide +kernel) (by decide +kernel)
set_option maxRecDepth 20000 in
theorem gX0_tearsAt_X0_isSkipped : GoodIn wsX0_tearsAt (wsV RX0 114 RX0 yX0_isSkipped wsX0_isSkipped) := goodIn_app (goodIn_of _ (by decide +kernel)) ggX0_tearsAt_X0_isSkipped
theorem dX0_tearsAt_0 : decode cX0_tearsAt 0 = .ok (.aload_n 0, 1) := by decide +kernel
theorem dX0_tearsAt_1 : decode cX0_tearsAt 1 = .ok (.iload_n 2, 1) := by decide +kernel
theorem dX0_tearsAt_2 : decode cX0_tearsAt 2 = .ok (.iload_n 3, 1) := by decide +kernel
theorem dX0_tearsAt_3 : decode cX0_tearsAt 3 = .ok (.invokevirtual 114, 3) := by decide +kernel
theorem dX0_tearsAt_6 : decode cX0_tearsAt 6 = .ok (.ifCond .ne 29, 3) := by decide +kernel
theorem dX0_tearsAt_9 : decode cX0_tearsAt 9 = .ok (.aload_n 1, 1) := by decide +kernel
theorem dX0_tearsAt_10 : decode cX0_tearsAt 10 = .ok (.getfield 92, 3) := by decide +kernel
theorem dX0_tearsAt_13 : decode cX0_tearsAt 13 = .ok (.ifCond .ne 22, 3) := by decide +kernel
theorem dX0_tearsAt_16 : decode cX0_tearsAt 16 = .ok (.aload_n 1, 1) := by decide +kernel
theorem dX0_tearsAt_17 : decode cX0_tearsAt 17 = .ok (.getfield 117, 3) := by decide +kernel
theorem dX0_tearsAt_20 : decode cX0_tearsAt 20 = .ok (.iload_n 3, 1) := by decide +kernel
theorem dX0_tearsAt_21 : decode cX0_tearsAt 21 = .ok (.iadd, 1) := by decide +kernel
theorem dX0_tearsAt_22 : decode cX0_tearsAt 22 = .ok (.aload_n 0, 1) := by decide +kernel
theorem dX0_tearsAt_23 : decode cX0_tearsAt 23 = .ok (.getfield 25, 3) := by decide +kernel
theorem dX0_tearsAt_26 : decode cX0_tearsAt 26 = .ok (.iconst 1, 1) := by decide +kernel
theorem dX0_tearsAt_27 : decode cX0_tearsAt 27 = .ok (.iaload, 1) := by decide +kernel
theorem dX0_tearsAt_28 : decode cX0_tearsAt 28 = .ok (.if_icmp .le 7, 3) := by decide +kernel
theorem dX0_tearsAt_31 : decode cX0_tearsAt 31 = .ok (.iconst 1, 1) := by decide +kernel
theorem dX0_tearsAt_32 : decode cX0_tearsAt 32 = .ok (.goto 4, 3) := by decide +kernel
theorem dX0_tearsAt_35 : decode cX0_tearsAt 35 = .ok (.iconst 0, 1) := by decide +kernel
theorem dX0_tearsAt_36 : decode cX0_tearsAt 36 = .ok (.ireturn, 1) := by decide +kernel
set_option maxRecDepth 20000 in
theorem ggX0_tearsOf_X0_stepsOf : GoodIn wsX0_tearsOf wsX0_stepsOf := goodIn_r _ [6, 7, 8, 9, 10, 1, 11, 12, 13, 14, 5, 15, 16, 17, 18, 19, 20, 21, 32, 33, 34, 35, 36, 37, 38, 39, 40, 41, 42, 43, 44, 45, 46] (by decide +kernel) (by decide +kernel)
set_option maxRecDepth 20000 in
theorem gX0_tearsOf_X0_stepsOf : GoodIn wsX0_tearsOf (wsV RX0 120 RX0 yX0_stepsOf wsX0_stepsOf) := goodIn_app (goodIn_of _ (by decide +kernel)) ggX0_tearsOf_X0_stepsOf
set_option maxRecDepth 20000 in
theorem ggX0_tearsOf_X0_rowAfter : GoodIn wsX0_tearsOf wsX0_rowAfter := goodIn_r _ [15, 16, 32, 33, 34, 35, 36, 37, 38, 39, 40, 41, 42] (by decide +kernel) (by decide +kernel)
set_option maxRecDepth 20000 in
theorem gX0_tearsOf_X0_rowAfter : GoodIn wsX0_tearsOf (wsV RX0 106 RX0 yX0_rowAfter wsX0_rowAfter) := goodIn_app (goodIn_of _ (by decide +kernel)) ggX0_tearsOf_X0_rowAfter
set_option maxRecDepth 20000 in
theorem ggX0_tearsOf_X0_tearsAt : GoodIn wsX0_tearsOf wsX0_tearsAt := goodIn_r _ [25, 11, 26, 27, 28, 29, 30, 5, 31, 43, 44, 45, 46, 32, 33, 34, 35, 36, 37, 38, 39, 40, 41, 42] (by decide +kernel) (by decide +kernel)
set_option maxRecDepth 20000 in
theorem gX0_tearsOf_X0_tearsAt : GoodIn wsX0_tearsOf (wsV RX0 123 RX0 yX0_tearsAt wsX0_tearsAt) := goodIn_app (goodIn_of _ (by decide +kernel)) ggX0_tearsOf_X0_tearsAt
theorem dX0_tearsOf_0 : decode cX0_tearsOf 0 = .ok (.aload_n 0, 1) := by decide +kernel
theorem dX0_tearsOf_1 : decode cX0_tearsOf 1 = .ok (.iload_n 1, 1) := by decide +kernel
theorem dX0_tearsOf_2 : decode cX0_tearsOf 2 = .ok (.invokevirtual 120, 3) := by decide +kernel
theorem dX0_tearsOf_5 : decode cX0_tearsOf 5 = .ok (.istore_n 3, 1) := by decide +kernel
theorem dX0_tearsOf_6 : decode cX0_tearsOf 6 = .ok (.iconst 0, 1) := by decide +kernel
theorem dX0_tearsOf_7 : decode cX0_tearsOf 7 = .ok (.istore 4, 2) := by decide +kernel
theorem dX0_tearsOf_9 : decode cX0_tearsOf 9 = .ok (.iconst 0, 1) := by decide +kernel
theorem dX0_tearsOf_10 : decode cX0_tearsOf 10 = .ok (.istore 5, 2) := by decide +kernel
theorem dX0_tearsOf_12 : decode cX0_tearsOf 12 = .ok (.iload 5, 2) := by decide +kernel
theorem dX0_tearsOf_14 : decode cX0_tearsOf 14 = .ok (.iload_n 3, 1) := by decide +kernel
theorem dX0_tearsOf_15 : decode cX0_tearsOf 15 = .ok (.if_icmp .ge 34, 3) := by decide +kernel
theorem dX0_tearsOf_18 : decode cX0_tearsOf 18 = .ok (.aload_n 0, 1) := by decide +kernel
theorem dX0_tearsOf_19 : decode cX0_tearsOf 19 = .ok (.aload_n 0, 1) := by decide +kernel
theorem dX0_tearsOf_20 : decode cX0_tearsOf 20 = .ok (.getfield 11, 3) := by decide +kernel
theorem dX0_tearsOf_23 : decode cX0_tearsOf 23 = .ok (.aload_n 0, 1) := by decide +kernel
theorem dX0_tearsOf_24 : decode cX0_tearsOf 24 = .ok (.iload_n 1, 1) := by decide +kernel
theorem dX0_tearsOf_25 : decode cX0_tearsOf 25 = .ok (.iload 5, 2) := by decide +kernel
theorem dX0_tearsOf_27 : decode cX0_tearsOf 27 = .ok (.invokevirtual 106, 3) := by decide +kernel
theorem dX0_tearsOf_30 : decode cX0_tearsOf 30 = .ok (.aaload, 1) := by decide +kernel
theorem dX0_tearsOf_31 : decode cX0_tearsOf 31 = .ok (.iload 5, 2) := by decide +kernel
theorem dX0_tearsOf_33 : decode cX0_tearsOf 33 = .ok (.iload_n 2, 1) := by decide +kernel
theorem dX0_tearsOf_34 : decode cX0_tearsOf 34 = .ok (.invokevirtual 123, 3) := by decide +kernel
theorem dX0_tearsOf_37 : decode cX0_tearsOf 37 = .ok (.ifCond .eq 6, 3) := by decide +kernel
theorem dX0_tearsOf_40 : decode cX0_tearsOf 40 = .ok (.iinc 4 1, 3) := by decide +kernel
theorem dX0_tearsOf_43 : decode cX0_tearsOf 43 = .ok (.iinc 5 1, 3) := by decide +kernel
theorem dX0_tearsOf_46 : decode cX0_tearsOf 46 = .ok (.goto (-34), 3) := by decide +kernel
theorem dX0_tearsOf_49 : decode cX0_tearsOf 49 = .ok (.iload 4, 2) := by decide +kernel
theorem dX0_tearsOf_51 : decode cX0_tearsOf 51 = .ok (.ireturn, 1) := by decide +kernel
set_option maxRecDepth 20000 in
theorem ggX0_roll_X0_stepsOf : GoodIn wsX0_roll wsX0_stepsOf := goodIn_r _ [8, 9, 10, 11, 12, 1, 13, 14, 15, 16, 7, 17, 3, 18, 19, 20, 21, 22, 38, 39, 40, 41, 42, 43, 44, 45, 46, 47, 48, 49, 50, 51, 52] (by decide +kernel) (by decide +kernel)
set_option maxRecDepth 20000 in
theorem gX0_roll_X0_stepsOf : GoodIn wsX0_roll (wsV RX0 120 RX0 yX0_stepsOf wsX0_stepsOf) := goodIn_app (goodIn_of _ (by decide +kernel)) ggX0_roll_X0_stepsOf
set_option maxRecDepth 20000 in
theorem ggX0_roll_X0_rowAfter : GoodIn wsX0_roll wsX0_rowAfter := goodIn_r _ [17, 3, 38, 39, 40, 41, 42, 43, 44, 45, 46, 47, 48] (by decide +kernel) (by decide +kernel)
set_option maxRecDepth 20000 in
theorem gX0_roll_X0_rowAfter : GoodIn wsX0_roll (wsV RX0 106 RX0 yX0_rowAfter wsX0_rowAfter) := goodIn_app (goodIn_of _ (by decide +kernel)) ggX0_roll_X0_rowAfter
set_option maxRecDepth 20000 in
theorem ggX0_roll_X0_leave : GoodIn wsX0_roll wsX0_leave := goodIn_r _ [26, 13, 27, 28, 29, 30, 31, 7, 32, 33, 34, 35, 36, 37, 49, 50, 51, 52, 38, 39, 40, 41, 42, 43, 44, 45, 46, 47, 48] (by decide +kernel) (by decide +kernel)
set_option maxRecDepth 20000 in
theorem gX0_roll_X0_leave : GoodIn wsX0_roll (wsV RX0 127 RX0 yX0_leave wsX0_leave) := goodIn_app (goodIn_of _ (by decide +kernel)) ggX0_roll_X0_leave
theorem dX0_roll_0 : decode cX0_roll 0 = .ok (.aload_n 0, 1) := by decide +kernel
theorem dX0_roll_1 : decode cX0_roll 1 = .ok (.iload_n 1, 1) := by decide +kernel
theorem dX0_roll_2 : decode cX0_roll 2 = .ok (.invokevirtual 120, 3) := by decide +kernel
theorem dX0_roll_5 : decode cX0_roll 5 = .ok (.istore_n 3, 1) := by decide +kernel
theorem dX0_roll_6 : decode cX0_roll 6 = .ok (.iconst 0, 1) := by decide +kernel
theorem dX0_roll_7 : decode cX0_roll 7 = .ok (.istore 4, 2) := by decide +kernel
theorem dX0_roll_9 : decode cX0_roll 9 = .ok (.iload 4, 2) := by decide +kernel
theorem dX0_roll_11 : decode cX0_roll 11 = .ok (.iload_n 3, 1) := by decide +kernel
theorem dX0_roll_12 : decode cX0_roll 12 = .ok (.if_icmp .ge 28, 3) := by decide +kernel
theorem dX0_roll_15 : decode cX0_roll 15 = .ok (.aload_n 0, 1) := by decide +kernel
theorem dX0_roll_16 : decode cX0_roll 16 = .ok (.aload_n 0, 1) := by decide +kernel
theorem dX0_roll_17 : decode cX0_roll 17 = .ok (.getfield 11, 3) := by decide +kernel
theorem dX0_roll_20 : decode cX0_roll 20 = .ok (.aload_n 0, 1) := by decide +kernel
theorem dX0_roll_21 : decode cX0_roll 21 = .ok (.iload_n 1, 1) := by decide +kernel
theorem dX0_roll_22 : decode cX0_roll 22 = .ok (.iload 4, 2) := by decide +kernel
theorem dX0_roll_24 : decode cX0_roll 24 = .ok (.invokevirtual 106, 3) := by decide +kernel
theorem dX0_roll_27 : decode cX0_roll 27 = .ok (.aaload, 1) := by decide +kernel
theorem dX0_roll_28 : decode cX0_roll 28 = .ok (.iload 4, 2) := by decide +kernel
theorem dX0_roll_30 : decode cX0_roll 30 = .ok (.iload_n 2, 1) := by decide +kernel
theorem dX0_roll_31 : decode cX0_roll 31 = .ok (.invokevirtual 127, 3) := by decide +kernel
theorem dX0_roll_34 : decode cX0_roll 34 = .ok (.iinc 4 1, 3) := by decide +kernel
theorem dX0_roll_37 : decode cX0_roll 37 = .ok (.goto (-28), 3) := by decide +kernel
theorem dX0_roll_40 : decode cX0_roll 40 = .ok (.aload_n 0, 1) := by decide +kernel
theorem dX0_roll_41 : decode cX0_roll 41 = .ok (.dup, 1) := by decide +kernel
theorem dX0_roll_42 : decode cX0_roll 42 = .ok (.getfield 62, 3) := by decide +kernel
theorem dX0_roll_45 : decode cX0_roll 45 = .ok (.iload_n 3, 1) := by decide +kernel
theorem dX0_roll_46 : decode cX0_roll 46 = .ok (.iadd, 1) := by decide +kernel
theorem dX0_roll_47 : decode cX0_roll 47 = .ok (.putfield 62, 3) := by decide +kernel
theorem dX0_roll_50 : decode cX0_roll 50 = .ok (.aload_n 0, 1) := by decide +kernel
theorem dX0_roll_51 : decode cX0_roll 51 = .ok (.aload_n 0, 1) := by decide +kernel
theorem dX0_roll_52 : decode cX0_roll 52 = .ok (.iload_n 1, 1) := by decide +kernel
theorem dX0_roll_53 : decode cX0_roll 53 = .ok (.iload_n 3, 1) := by decide +kernel
theorem dX0_roll_54 : decode cX0_roll 54 = .ok (.invokevirtual 106, 3) := by decide +kernel
theorem dX0_roll_57 : decode cX0_roll 57 = .ok (.putfield 53, 3) := by decide +kernel
theorem dX0_roll_60 : decode cX0_roll 60 = .ok (.return_, 1) := by decide +kernel
set_option maxRecDepth 20000 in
theorem ggX0_leave_X0_tearsAt : GoodIn wsX0_leave wsX0_tearsAt := goodIn_r _ [8, 1, 3, 9, 10, 11, 12, 7, 13, 14, 15, 16, 17, 18, 19, 20, 21, 22, 23, 24, 25, 26, 27, 28] (by decide +kernel) (by decide +kernel)
set_option maxRecDepth 20000 in
theorem gX0_leave_X0_tearsAt : GoodIn wsX0_leave (wsV RX0 123 RX0 yX0_tearsAt wsX0_tearsAt) := goodIn_app (goodIn_of _ (by decide +kernel)) ggX0_leave_X0_tearsAt
set_option maxRecDepth 20000 in
theorem ggX0_leave_X0_isSkipped : GoodIn wsX0_leave wsX0_isSkipped := goodIn_r _ [13] (by decide +kernel) (by decide +kernel)
set_option maxRecDepth 20000 in
theorem gX0_leave_X0_isSkipped : GoodIn wsX0_leave (wsV RX0 114 RX0 yX0_isSkipped wsX0_isSkipped) := goodIn_app (goodIn_of _ (by decide +kernel)) ggX0_leave_X0_isSkipped
theorem dX0_leave_0 : decode cX0_leave 0 = .ok (.aload_n 0, 1) := by decide +kernel
theorem dX0_leave_1 : decode cX0_leave 1 = .ok (.aload_n 1, 1) := by decide +kernel
theorem dX0_leave_2 : decode cX0_leave 2 = .ok (.iload_n 2, 1) := by decide +kernel
theorem dX0_leave_3 : decode cX0_leave 3 = .ok (.iload_n 3, 1) := by decide +kernel
theorem dX0_leave_4 : decode cX0_leave 4 = .ok (.invokevirtual 123, 3) := by decide +kernel
theorem dX0_leave_7 : decode cX0_leave 7 = .ok (.ifCond .eq 18, 3) := by decide +kernel
theorem dX0_leave_10 : decode cX0_leave 10 = .ok (.aload_n 1, 1) := by decide +kernel
theorem dX0_leave_11 : decode cX0_leave 11 = .ok (.iconst 1, 1) := by decide +kernel
theorem dX0_leave_12 : decode cX0_leave 12 = .ok (.putfield 92, 3) := by decide +kernel
theorem dX0_leave_15 : decode cX0_leave 15 = .ok (.aload_n 0, 1) := by decide +kernel
theorem dX0_leave_16 : decode cX0_leave 16 = .ok (.dup, 1) := by decide +kernel
theorem dX0_leave_17 : decode cX0_leave 17 = .ok (.getfield 59, 3) := by decide +kernel
theorem dX0_leave_20 : decode cX0_leave 20 = .ok (.iconst 1, 1) := by decide +kernel
theorem dX0_leave_21 : decode cX0_leave 21 = .ok (.iadd, 1) := by decide +kernel
theorem dX0_leave_22 : decode cX0_leave 22 = .ok (.putfield 59, 3) := by decide +kernel
theorem dX0_leave_25 : decode cX0_leave 25 = .ok (.aload_n 0, 1) := by decide +kernel
theorem dX0_leave_26 : decode cX0_leave 26 = .ok (.iload_n 2, 1) := by decide +kernel
theorem dX0_leave_27 : decode cX0_leave 27 = .ok (.iload_n 3, 1) := by decide +kernel
theorem dX0_leave_28 : decode cX0_leave 28 = .ok (.invokevirtual 114, 3) := by decide +kernel
theorem dX0_leave_31 : decode cX0_leave 31 = .ok (.ifCond .ne 13, 3) := by decide +kernel
theorem dX0_leave_34 : decode cX0_leave 34 = .ok (.aload_n 1, 1) := by decide +kernel
theorem dX0_leave_35 : decode cX0_leave 35 = .ok (.dup, 1) := by decide +kernel
theorem dX0_leave_36 : decode cX0_leave 36 = .ok (.getfield 117, 3) := by decide +kernel
theorem dX0_leave_39 : decode cX0_leave 39 = .ok (.iload_n 3, 1) := by decide +kernel
theorem dX0_leave_40 : decode cX0_leave 40 = .ok (.iadd, 1) := by decide +kernel
theorem dX0_leave_41 : decode cX0_leave 41 = .ok (.putfield 117, 3) := by decide +kernel
theorem dX0_leave_44 : decode cX0_leave 44 = .ok (.return_, 1) := by decide +kernel
set_option maxRecDepth 20000 in
theorem ggX0_halt_X0_wrongOf : GoodIn wsX0_halt wsX0_wrongOf := goodIn_r _ [12, 13, 14, 4, 5, 15, 16, 17, 11, 18, 19, 20, 21, 22, 23, 24, 25, 26, 27, 28, 29, 30, 31, 32, 33, 34, 35, 36, 37, 38, 39, 40, 41, 42, 43, 44, 45, 46, 47, 48, 49, 50, 51, 52, 53, 54, 55, 56, 57, 58, 59, 60, 61, 62, 63, 64, 65, 66, 67, 68, 69, 70, 71, 72, 73, 74, 75, 76, 77, 78, 79, 80, 81, 82, 83, 84, 85, 86, 87, 88, 89, 90, 91, 92, 93, 94, 95, 96, 97, 98, 99, 100, 101, 102, 103, 104, 105, 106, 107, 108, 109, 110, 111, 112, 113, 117, 118, 119, 120, 114, 115, 116] (by decide +kernel) (by decide +kernel)
set_option maxRecDepth 20000 in
theorem gX0_halt_X0_wrongOf : GoodIn wsX0_halt (wsV RX0 131 RX0 yX0_wrongOf wsX0_wrongOf) := goodIn_app (goodIn_of _ (by decide +kernel)) ggX0_halt_X0_wrongOf
set_option maxRecDepth 20000 in
theorem ggX0_halt_X0_hasRoute : GoodIn wsX0_halt wsX0_hasRoute := goodIn_r _ [83, 84, 103, 104, 105, 106, 107, 108, 109, 110, 111, 112, 113] (by decide +kernel) (by decide +kernel)
set_option maxRecDepth 20000 in
theorem gX0_halt_X0_hasRoute : GoodIn wsX0_halt (wsV RX0 134 RX0 yX0_hasRoute wsX0_hasRoute) := goodIn_app (goodIn_of _ (by decide +kernel)) ggX0_halt_X0_hasRoute
theorem dX0_halt_0 : decode cX0_halt 0 = .ok (.aload_n 0, 1) := by decide +kernel
theorem dX0_halt_1 : decode cX0_halt 1 = .ok (.aload_n 0, 1) := by decide +kernel
theorem dX0_halt_2 : decode cX0_halt 2 = .ok (.getfield 53, 3) := by decide +kernel
theorem dX0_halt_5 : decode cX0_halt 5 = .ok (.invokevirtual 131, 3) := by decide +kernel
theorem dX0_halt_8 : decode cX0_halt 8 = .ok (.istore_n 1, 1) := by decide +kernel
theorem dX0_halt_9 : decode cX0_halt 9 = .ok (.iload_n 1, 1) := by decide +kernel
theorem dX0_halt_10 : decode cX0_halt 10 = .ok (.ifCond .ne 7, 3) := by decide +kernel
theorem dX0_halt_13 : decode cX0_halt 13 = .ok (.iconst 1, 1) := by decide +kernel
theorem dX0_halt_14 : decode cX0_halt 14 = .ok (.goto 4, 3) := by decide +kernel
theorem dX0_halt_17 : decode cX0_halt 17 = .ok (.iconst 0, 1) := by decide +kernel
theorem dX0_halt_18 : decode cX0_halt 18 = .ok (.istore_n 2, 1) := by decide +kernel
theorem dX0_halt_19 : decode cX0_halt 19 = .ok (.aload_n 0, 1) := by decide +kernel
theorem dX0_halt_20 : decode cX0_halt 20 = .ok (.dup, 1) := by decide +kernel
theorem dX0_halt_21 : decode cX0_halt 21 = .ok (.getfield 65, 3) := by decide +kernel
theorem dX0_halt_24 : decode cX0_halt 24 = .ok (.iconst 1, 1) := by decide +kernel
theorem dX0_halt_25 : decode cX0_halt 25 = .ok (.iadd, 1) := by decide +kernel
theorem dX0_halt_26 : decode cX0_halt 26 = .ok (.putfield 65, 3) := by decide +kernel
theorem dX0_halt_29 : decode cX0_halt 29 = .ok (.aload_n 0, 1) := by decide +kernel
theorem dX0_halt_30 : decode cX0_halt 30 = .ok (.dup, 1) := by decide +kernel
theorem dX0_halt_31 : decode cX0_halt 31 = .ok (.getfield 68, 3) := by decide +kernel
theorem dX0_halt_34 : decode cX0_halt 34 = .ok (.iload_n 2, 1) := by decide +kernel
theorem dX0_halt_35 : decode cX0_halt 35 = .ok (.iadd, 1) := by decide +kernel
theorem dX0_halt_36 : decode cX0_halt 36 = .ok (.putfield 68, 3) := by decide +kernel
theorem dX0_halt_39 : decode cX0_halt 39 = .ok (.aload_n 0, 1) := by decide +kernel
theorem dX0_halt_40 : decode cX0_halt 40 = .ok (.aload_n 0, 1) := by decide +kernel
theorem dX0_halt_41 : decode cX0_halt 41 = .ok (.getfield 38, 3) := by decide +kernel
theorem dX0_halt_44 : decode cX0_halt 44 = .ok (.invokevirtual 134, 3) := by decide +kernel
theorem dX0_halt_47 : decode cX0_halt 47 = .ok (.ifCond .eq 39, 3) := by decide +kernel
theorem dX0_halt_50 : decode cX0_halt 50 = .ok (.aload_n 0, 1) := by decide +kernel
theorem dX0_halt_51 : decode cX0_halt 51 = .ok (.getfield 20, 3) := by decide +kernel
theorem dX0_halt_54 : decode cX0_halt 54 = .ok (.aload_n 0, 1) := by decide +kernel
theorem dX0_halt_55 : decode cX0_halt 55 = .ok (.getfield 38, 3) := by decide +kernel
theorem dX0_halt_58 : decode cX0_halt 58 = .ok (.aaload, 1) := by decide +kernel
theorem dX0_halt_59 : decode cX0_halt 59 = .ok (.dup, 1) := by decide +kernel
theorem dX0_halt_60 : decode cX0_halt 60 = .ok (.getfield 86, 3) := by decide +kernel
theorem dX0_halt_63 : decode cX0_halt 63 = .ok (.iconst 1, 1) := by decide +kernel
theorem dX0_halt_64 : decode cX0_halt 64 = .ok (.iadd, 1) := by decide +kernel
theorem dX0_halt_65 : decode cX0_halt 65 = .ok (.putfield 86, 3) := by decide +kernel
theorem dX0_halt_68 : decode cX0_halt 68 = .ok (.aload_n 0, 1) := by decide +kernel
theorem dX0_halt_69 : decode cX0_halt 69 = .ok (.getfield 20, 3) := by decide +kernel
theorem dX0_halt_72 : decode cX0_halt 72 = .ok (.aload_n 0, 1) := by decide +kernel
theorem dX0_halt_73 : decode cX0_halt 73 = .ok (.getfield 38, 3) := by decide +kernel
theorem dX0_halt_76 : decode cX0_halt 76 = .ok (.aaload, 1) := by decide +kernel
theorem dX0_halt_77 : decode cX0_halt 77 = .ok (.dup, 1) := by decide +kernel
theorem dX0_halt_78 : decode cX0_halt 78 = .ok (.getfield 87, 3) := by decide +kernel
theorem dX0_halt_81 : decode cX0_halt 81 = .ok (.iload_n 2, 1) := by decide +kernel
theorem dX0_halt_82 : decode cX0_halt 82 = .ok (.iadd, 1) := by decide +kernel
theorem dX0_halt_83 : decode cX0_halt 83 = .ok (.putfield 87, 3) := by decide +kernel
theorem dX0_halt_86 : decode cX0_halt 86 = .ok (.iload_n 1, 1) := by decide +kernel
theorem dX0_halt_87 : decode cX0_halt 87 = .ok (.ireturn, 1) := by decide +kernel
set_option maxRecDepth 20000 in
theorem ggX0_wrongOf_X0_hasRow : GoodIn wsX0_wrongOf wsX0_hasRow := goodIn_r _ [9, 10, 94, 95, 96, 97, 98, 99, 100, 101, 102, 103, 104] (by decide +kernel) (by decide +kernel)
set_option maxRecDepth 20000 in
theorem gX0_wrongOf_X0_hasRow : GoodIn wsX0_wrongOf (wsV RX0 137 RX0 yX0_hasRow wsX0_hasRow) := goodIn_app (goodIn_of _ (by decide +kernel)) ggX0_wrongOf_X0_hasRow
set_option maxRecDepth 20000 in
theorem ggX0_wrongOf_X2_kind : GoodIn wsX0_wrongOf wsX2_kind := goodIn_r _ [15, 16, 17, 18, 19, 14, 20, 21, 22, 23, 24, 25, 26, 27, 28, 29, 30, 31, 32, 33, 34, 35, 36, 37, 38, 39, 40, 41, 42, 43, 44, 45, 46, 47, 48, 49, 50, 51, 52, 53, 54, 55, 56, 57, 58, 59, 60, 61, 62, 63, 64, 65, 66, 67, 68, 69, 70, 105, 106, 107, 108] (by decide +kernel) (by decide +kernel)
set_option maxRecDepth 20000 in
theorem gX0_wrongOf_X2_kind : GoodIn wsX0_wrongOf (wsV RX0 140 RX2 yX2_kind wsX2_kind) := goodIn_app (goodIn_of _ (by decide +kernel)) ggX0_wrongOf_X2_kind
set_option maxRecDepth 20000 in
theorem ggX0_wrongOf_X0_hasRoute : GoodIn wsX0_wrongOf wsX0_hasRoute := goodIn_r _ [74, 75, 94, 95, 96, 97, 98, 99, 100, 101, 102, 103, 104] (by decide +kernel) (by decide +kernel)
set_option maxRecDepth 20000 in
theorem gX0_wrongOf_X0_hasRoute : GoodIn wsX0_wrongOf (wsV RX0 134 RX0 yX0_hasRoute wsX0_hasRoute) := goodIn_app (goodIn_of _ (by decide +kernel)) ggX0_wrongOf_X0_hasRoute
set_option maxRecDepth 20000 in
theorem ggX0_wrongOf_X1_owns : GoodIn wsX0_wrongOf wsX1_owns := goodIn_r _ [80, 81, 109, 110, 111] (by decide +kernel) (by decide +kernel)
set_option maxRecDepth 20000 in
theorem gX0_wrongOf_X1_owns : GoodIn wsX0_wrongOf (wsV RX0 88 RX1 yX1_owns wsX1_owns) := goodIn_app (goodIn_of _ (by decide +kernel)) ggX0_wrongOf_X1_owns
set_option maxRecDepth 20000 in
theorem ggX0_wrongOf_X2_width : GoodIn wsX0_wrongOf wsX2_width := goodIn_r _ [85, 16, 21, 86, 87, 88, 105, 106, 107, 108] (by decide +kernel) (by decide +kernel)
set_option maxRecDepth 20000 in
theorem gX0_wrongOf_X2_width : GoodIn wsX0_wrongOf (wsV RX0 96 RX2 yX2_width wsX2_width) := goodIn_app (goodIn_of _ (by decide +kernel)) ggX0_wrongOf_X2_width
set_option maxRecDepth 20000 in
theorem ggX0_wrongOf_X0_squeezed : GoodIn wsX0_wrongOf wsX0_squeezed := goodIn_r _ [92, 93, 94, 95, 96, 97, 98, 99, 100, 101, 102, 103, 104] (by decide +kernel) (by decide +kernel)
set_option maxRecDepth 20000 in
theorem gX0_wrongOf_X0_squeezed : GoodIn wsX0_wrongOf (wsV RX0 143 RX0 yX0_squeezed wsX0_squeezed) := goodIn_app (goodIn_of _ (by decide +kernel)) ggX0_wrongOf_X0_squeezed
theorem dX0_wrongOf_0 : decode cX0_wrongOf 0 = .ok (.aload_n 0, 1) := by decide +kernel
theorem dX0_wrongOf_1 : decode cX0_wrongOf 1 = .ok (.iload_n 1, 1) := by decide +kernel
theorem dX0_wrongOf_2 : decode cX0_wrongOf 2 = .ok (.invokevirtual 137, 3) := by decide +kernel
theorem dX0_wrongOf_5 : decode cX0_wrongOf 5 = .ok (.ifCond .ne 5, 3) := by decide +kernel
theorem dX0_wrongOf_8 : decode cX0_wrongOf 8 = .ok (.iconst 1, 1) := by decide +kernel
theorem dX0_wrongOf_9 : decode cX0_wrongOf 9 = .ok (.ireturn, 1) := by decide +kernel
theorem dX0_wrongOf_10 : decode cX0_wrongOf 10 = .ok (.aload_n 0, 1) := by decide +kernel
theorem dX0_wrongOf_11 : decode cX0_wrongOf 11 = .ok (.getfield 11, 3) := by decide +kernel
theorem dX0_wrongOf_14 : decode cX0_wrongOf 14 = .ok (.iload_n 1, 1) := by decide +kernel
theorem dX0_wrongOf_15 : decode cX0_wrongOf 15 = .ok (.aaload, 1) := by decide +kernel
theorem dX0_wrongOf_16 : decode cX0_wrongOf 16 = .ok (.getfield 92, 3) := by decide +kernel
theorem dX0_wrongOf_19 : decode cX0_wrongOf 19 = .ok (.ifCond .eq 5, 3) := by decide +kernel
theorem dX0_wrongOf_22 : decode cX0_wrongOf 22 = .ok (.iconst 2, 1) := by decide +kernel
theorem dX0_wrongOf_23 : decode cX0_wrongOf 23 = .ok (.ireturn, 1) := by decide +kernel
theorem dX0_wrongOf_24 : decode cX0_wrongOf 24 = .ok (.aload_n 0, 1) := by decide +kernel
theorem dX0_wrongOf_25 : decode cX0_wrongOf 25 = .ok (.getfield 11, 3) := by decide +kernel
theorem dX0_wrongOf_28 : decode cX0_wrongOf 28 = .ok (.iload_n 1, 1) := by decide +kernel
theorem dX0_wrongOf_29 : decode cX0_wrongOf 29 = .ok (.aaload, 1) := by decide +kernel
theorem dX0_wrongOf_30 : decode cX0_wrongOf 30 = .ok (.invokevirtual 140, 3) := by decide +kernel
theorem dX0_wrongOf_33 : decode cX0_wrongOf 33 = .ok (.istore_n 2, 1) := by decide +kernel
theorem dX0_wrongOf_34 : decode cX0_wrongOf 34 = .ok (.aload_n 0, 1) := by decide +kernel
theorem dX0_wrongOf_35 : decode cX0_wrongOf 35 = .ok (.aload_n 0, 1) := by decide +kernel
theorem dX0_wrongOf_36 : decode cX0_wrongOf 36 = .ok (.getfield 38, 3) := by decide +kernel
theorem dX0_wrongOf_39 : decode cX0_wrongOf 39 = .ok (.invokevirtual 134, 3) := by decide +kernel
theorem dX0_wrongOf_42 : decode cX0_wrongOf 42 = .ok (.ifCond .ne 15, 3) := by decide +kernel
theorem dX0_wrongOf_45 : decode cX0_wrongOf 45 = .ok (.iload_n 2, 1) := by decide +kernel
theorem dX0_wrongOf_46 : decode cX0_wrongOf 46 = .ok (.iconst 1, 1) := by decide +kernel
theorem dX0_wrongOf_47 : decode cX0_wrongOf 47 = .ok (.if_icmp .eq 33, 3) := by decide +kernel
theorem dX0_wrongOf_50 : decode cX0_wrongOf 50 = .ok (.iload_n 2, 1) := by decide +kernel
theorem dX0_wrongOf_51 : decode cX0_wrongOf 51 = .ok (.iconst 2, 1) := by decide +kernel
theorem dX0_wrongOf_52 : decode cX0_wrongOf 52 = .ok (.if_icmp .eq 28, 3) := by decide +kernel
theorem dX0_wrongOf_55 : decode cX0_wrongOf 55 = .ok (.iconst 3, 1) := by decide +kernel
theorem dX0_wrongOf_56 : decode cX0_wrongOf 56 = .ok (.ireturn, 1) := by decide +kernel
theorem dX0_wrongOf_57 : decode cX0_wrongOf 57 = .ok (.aload_n 0, 1) := by decide +kernel
theorem dX0_wrongOf_58 : decode cX0_wrongOf 58 = .ok (.getfield 20, 3) := by decide +kernel
theorem dX0_wrongOf_61 : decode cX0_wrongOf 61 = .ok (.aload_n 0, 1) := by decide +kernel
theorem dX0_wrongOf_62 : decode cX0_wrongOf 62 = .ok (.getfield 38, 3) := by decide +kernel
theorem dX0_wrongOf_65 : decode cX0_wrongOf 65 = .ok (.aaload, 1) := by decide +kernel
theorem dX0_wrongOf_66 : decode cX0_wrongOf 66 = .ok (.iload_n 1, 1) := by decide +kernel
theorem dX0_wrongOf_67 : decode cX0_wrongOf 67 = .ok (.invokevirtual 88, 3) := by decide +kernel
theorem dX0_wrongOf_70 : decode cX0_wrongOf 70 = .ok (.ifCond .ne 10, 3) := by decide +kernel
theorem dX0_wrongOf_73 : decode cX0_wrongOf 73 = .ok (.iload_n 2, 1) := by decide +kernel
theorem dX0_wrongOf_74 : decode cX0_wrongOf 74 = .ok (.iconst 2, 1) := by decide +kernel
theorem dX0_wrongOf_75 : decode cX0_wrongOf 75 = .ok (.if_icmp .eq 5, 3) := by decide +kernel
theorem dX0_wrongOf_78 : decode cX0_wrongOf 78 = .ok (.iconst 4, 1) := by decide +kernel
theorem dX0_wrongOf_79 : decode cX0_wrongOf 79 = .ok (.ireturn, 1) := by decide +kernel
theorem dX0_wrongOf_80 : decode cX0_wrongOf 80 = .ok (.aload_n 0, 1) := by decide +kernel
theorem dX0_wrongOf_81 : decode cX0_wrongOf 81 = .ok (.aload_n 0, 1) := by decide +kernel
theorem dX0_wrongOf_82 : decode cX0_wrongOf 82 = .ok (.getfield 11, 3) := by decide +kernel
theorem dX0_wrongOf_85 : decode cX0_wrongOf 85 = .ok (.iload_n 1, 1) := by decide +kernel
theorem dX0_wrongOf_86 : decode cX0_wrongOf 86 = .ok (.aaload, 1) := by decide +kernel
theorem dX0_wrongOf_87 : decode cX0_wrongOf 87 = .ok (.invokevirtual 96, 3) := by decide +kernel
theorem dX0_wrongOf_90 : decode cX0_wrongOf 90 = .ok (.invokevirtual 143, 3) := by decide +kernel
theorem dX0_wrongOf_93 : decode cX0_wrongOf 93 = .ok (.bipush 120, 2) := by decide +kernel
theorem dX0_wrongOf_95 : decode cX0_wrongOf 95 = .ok (.if_icmp .le 7, 3) := by decide +kernel
theorem dX0_wrongOf_98 : decode cX0_wrongOf 98 = .ok (.iconst 5, 1) := by decide +kernel
theorem dX0_wrongOf_99 : decode cX0_wrongOf 99 = .ok (.goto 4, 3) := by decide +kernel
theorem dX0_wrongOf_102 : decode cX0_wrongOf 102 = .ok (.iconst 0, 1) := by decide +kernel
theorem dX0_wrongOf_103 : decode cX0_wrongOf 103 = .ok (.ireturn, 1) := by decide +kernel
set_option maxRecDepth 20000 in
theorem ggX0_nearestRight_X0_wrongOf : GoodIn wsX0_nearestRight wsX0_wrongOf := goodIn_r _ [11, 12, 13, 14, 15, 16, 17, 18, 10, 19, 1, 20, 21, 22, 23, 24, 25, 26, 27, 28, 29, 30, 31, 32, 33, 34, 35, 36, 37, 38, 39, 40, 41, 42, 43, 44, 45, 46, 47, 48, 49, 50, 51, 52, 53, 54, 55, 56, 57, 58, 59, 60, 61, 62, 63, 64, 65, 66, 67, 68, 69, 70, 71, 72, 73, 74, 75, 76, 77, 78, 79, 80, 81, 82, 83, 84, 85, 86, 87, 88, 89, 90, 91, 92, 93, 94, 95, 96, 97, 98, 99, 100, 101, 102, 103, 104, 105, 106, 107, 108, 109, 110, 111, 112, 113, 114, 115, 116, 117, 118, 119, 120] (by decide +kernel) (by decide +kernel)
set_option maxRecDepth 20000 in
theorem gX0_nearestRight_X0_wrongOf : GoodIn wsX0_nearestRight (wsV RX0 131 RX0 yX0_wrongOf wsX0_wrongOf) := goodIn_app (goodIn_of _ (by decide +kernel)) ggX0_nearestRight_X0_wrongOf
theorem dX0_nearestRight_0 : decode cX0_nearestRight 0 = .ok (.iconst (-1), 1) := by decide +kernel
theorem dX0_nearestRight_1 : decode cX0_nearestRight 1 = .ok (.istore_n 1, 1) := by decide +kernel
theorem dX0_nearestRight_2 : decode cX0_nearestRight 2 = .ok (.iconst 0, 1) := by decide +kernel
theorem dX0_nearestRight_3 : decode cX0_nearestRight 3 = .ok (.istore_n 2, 1) := by decide +kernel
theorem dX0_nearestRight_4 : decode cX0_nearestRight 4 = .ok (.iload_n 2, 1) := by decide +kernel
theorem dX0_nearestRight_5 : decode cX0_nearestRight 5 = .ok (.aload_n 0, 1) := by decide +kernel
theorem dX0_nearestRight_6 : decode cX0_nearestRight 6 = .ok (.getfield 50, 3) := by decide +kernel
theorem dX0_nearestRight_9 : decode cX0_nearestRight 9 = .ok (.if_icmp .ge 55, 3) := by decide +kernel
theorem dX0_nearestRight_12 : decode cX0_nearestRight 12 = .ok (.iload_n 1, 1) := by decide +kernel
theorem dX0_nearestRight_13 : decode cX0_nearestRight 13 = .ok (.iconst (-1), 1) := by decide +kernel
theorem dX0_nearestRight_14 : decode cX0_nearestRight 14 = .ok (.if_icmp .eq 24, 3) := by decide +kernel
theorem dX0_nearestRight_17 : decode cX0_nearestRight 17 = .ok (.iload_n 2, 1) := by decide +kernel
theorem dX0_nearestRight_18 : decode cX0_nearestRight 18 = .ok (.aload_n 0, 1) := by decide +kernel
theorem dX0_nearestRight_19 : decode cX0_nearestRight 19 = .ok (.getfield 53, 3) := by decide +kernel
theorem dX0_nearestRight_22 : decode cX0_nearestRight 22 = .ok (.isub, 1) := by decide +kernel
theorem dX0_nearestRight_23 : decode cX0_nearestRight 23 = .ok (.invokestatic 100, 3) := by decide +kernel
theorem dX0_nearestRight_26 : decode cX0_nearestRight 26 = .ok (.iload_n 1, 1) := by decide +kernel
theorem dX0_nearestRight_27 : decode cX0_nearestRight 27 = .ok (.aload_n 0, 1) := by decide +kernel
theorem dX0_nearestRight_28 : decode cX0_nearestRight 28 = .ok (.getfield 53, 3) := by decide +kernel
theorem dX0_nearestRight_31 : decode cX0_nearestRight 31 = .ok (.isub, 1) := by decide +kernel
theorem dX0_nearestRight_32 : decode cX0_nearestRight 32 = .ok (.invokestatic 100, 3) := by decide +kernel
theorem dX0_nearestRight_35 : decode cX0_nearestRight 35 = .ok (.if_icmp .gt 7, 3) := by decide +kernel
theorem dX0_nearestRight_38 : decode cX0_nearestRight 38 = .ok (.iconst 1, 1) := by decide +kernel
theorem dX0_nearestRight_39 : decode cX0_nearestRight 39 = .ok (.goto 4, 3) := by decide +kernel
theorem dX0_nearestRight_42 : decode cX0_nearestRight 42 = .ok (.iconst 0, 1) := by decide +kernel
theorem dX0_nearestRight_43 : decode cX0_nearestRight 43 = .ok (.istore_n 3, 1) := by decide +kernel
theorem dX0_nearestRight_44 : decode cX0_nearestRight 44 = .ok (.iload_n 3, 1) := by decide +kernel
theorem dX0_nearestRight_45 : decode cX0_nearestRight 45 = .ok (.ifCond .eq 13, 3) := by decide +kernel
theorem dX0_nearestRight_48 : decode cX0_nearestRight 48 = .ok (.aload_n 0, 1) := by decide +kernel
theorem dX0_nearestRight_49 : decode cX0_nearestRight 49 = .ok (.iload_n 2, 1) := by decide +kernel
theorem dX0_nearestRight_50 : decode cX0_nearestRight 50 = .ok (.invokevirtual 131, 3) := by decide +kernel
theorem dX0_nearestRight_53 : decode cX0_nearestRight 53 = .ok (.ifCond .ne 5, 3) := by decide +kernel
theorem dX0_nearestRight_56 : decode cX0_nearestRight 56 = .ok (.iload_n 2, 1) := by decide +kernel
theorem dX0_nearestRight_57 : decode cX0_nearestRight 57 = .ok (.istore_n 1, 1) := by decide +kernel
theorem dX0_nearestRight_58 : decode cX0_nearestRight 58 = .ok (.iinc 2 1, 3) := by decide +kernel
theorem dX0_nearestRight_61 : decode cX0_nearestRight 61 = .ok (.goto (-57), 3) := by decide +kernel
theorem dX0_nearestRight_64 : decode cX0_nearestRight 64 = .ok (.iload_n 1, 1) := by decide +kernel
theorem dX0_nearestRight_65 : decode cX0_nearestRight 65 = .ok (.ireturn, 1) := by decide +kernel
set_option maxRecDepth 20000 in
theorem ggX0_legible_X2_width : GoodIn wsX0_legible wsX2_width := goodIn_r _ [9, 10, 11, 12, 13, 14, 20, 21, 22, 23] (by decide +kernel) (by decide +kernel)
set_option maxRecDepth 20000 in
theorem gX0_legible_X2_width : GoodIn wsX0_legible (wsV RX0 96 RX2 yX2_width wsX2_width) := goodIn_app (goodIn_of _ (by decide +kernel)) ggX0_legible_X2_width
set_option maxRecDepth 20000 in
theorem ggX0_legible_X0_squeezed : GoodIn wsX0_legible wsX0_squeezed := goodIn_r _ [19, 4, 24, 25, 26, 27, 28, 29, 30, 31, 32, 33, 34] (by decide +kernel) (by decide +kernel)
set_option maxRecDepth 20000 in
theorem gX0_legible_X0_squeezed : GoodIn wsX0_legible (wsV RX0 143 RX0 yX0_squeezed wsX0_squeezed) := goodIn_app (goodIn_of _ (by decide +kernel)) ggX0_legible_X0_squeezed
set_option maxRecDepth 20000 in
theorem ggX0_legible_X4_letterWidth : GoodIn wsX0_legible wsX4_letterWidth := goodIn_r _ [14] (by decide +kernel) (by decide +kernel)
set_option maxRecDepth 20000 in
theorem gX0_legible_X4_letterWidth_n153 : GoodIn wsX0_legible (wsX4_letterWidth) := ggX0_legible_X4_letterWidth
theorem dX0_legible_0 : decode cX0_legible 0 = .ok (.aload_n 0, 1) := by decide +kernel
theorem dX0_legible_1 : decode cX0_legible 1 = .ok (.aload_n 1, 1) := by decide +kernel
theorem dX0_legible_2 : decode cX0_legible 2 = .ok (.invokevirtual 96, 3) := by decide +kernel
theorem dX0_legible_5 : decode cX0_legible 5 = .ok (.invokevirtual 143, 3) := by decide +kernel
theorem dX0_legible_8 : decode cX0_legible 8 = .ok (.istore_n 3, 1) := by decide +kernel
theorem dX0_legible_9 : decode cX0_legible 9 = .ok (.aload_n 1, 1) := by decide +kernel
theorem dX0_legible_10 : decode cX0_legible 10 = .ok (.getfield 92, 3) := by decide +kernel
theorem dX0_legible_13 : decode cX0_legible 13 = .ok (.ifCond .ne 8, 3) := by decide +kernel
theorem dX0_legible_16 : decode cX0_legible 16 = .ok (.iload_n 3, 1) := by decide +kernel
theorem dX0_legible_17 : decode cX0_legible 17 = .ok (.iconst 1, 1) := by decide +kernel
theorem dX0_legible_18 : decode cX0_legible 18 = .ok (.if_icmp .ge 5, 3) := by decide +kernel
theorem dX0_legible_21 : decode cX0_legible 21 = .ok (.iconst 0, 1) := by decide +kernel
theorem dX0_legible_22 : decode cX0_legible 22 = .ok (.ireturn, 1) := by decide +kernel
theorem dX0_legible_23 : decode cX0_legible 23 = .ok (.iconst 0, 1) := by decide +kernel
theorem dX0_legible_24 : decode cX0_legible 24 = .ok (.istore 4, 2) := by decide +kernel
theorem dX0_legible_26 : decode cX0_legible 26 = .ok (.iconst 0, 1) := by decide +kernel
theorem dX0_legible_27 : decode cX0_legible 27 = .ok (.istore 5, 2) := by decide +kernel
theorem dX0_legible_29 : decode cX0_legible 29 = .ok (.iload 5, 2) := by decide +kernel
theorem dX0_legible_31 : decode cX0_legible 31 = .ok (.aload_n 1, 1) := by decide +kernel
theorem dX0_legible_32 : decode cX0_legible 32 = .ok (.getfield 146, 3) := by decide +kernel
theorem dX0_legible_35 : decode cX0_legible 35 = .ok (.if_icmp .ge 54, 3) := by decide +kernel
theorem dX0_legible_38 : decode cX0_legible 38 = .ok (.aload_n 1, 1) := by decide +kernel
theorem dX0_legible_39 : decode cX0_legible 39 = .ok (.getfield 149, 3) := by decide +kernel
theorem dX0_legible_42 : decode cX0_legible 42 = .ok (.iload 5, 2) := by decide +kernel
theorem dX0_legible_44 : decode cX0_legible 44 = .ok (.caload, 1) := by decide +kernel
theorem dX0_legible_45 : decode cX0_legible 45 = .ok (.invokestatic 153, 3) := by decide +kernel
theorem dX0_legible_48 : decode cX0_legible 48 = .ok (.aload_n 0, 1) := by decide +kernel
theorem dX0_legible_49 : decode cX0_legible 49 = .ok (.getfield 25, 3) := by decide +kernel
theorem dX0_legible_52 : decode cX0_legible 52 = .ok (.iconst 2, 1) := by decide +kernel
theorem dX0_legible_53 : decode cX0_legible 53 = .ok (.iaload, 1) := by decide +kernel
theorem dX0_legible_54 : decode cX0_legible 54 = .ok (.imul, 1) := by decide +kernel
theorem dX0_legible_55 : decode cX0_legible 55 = .ok (.bipush 100, 2) := by decide +kernel
theorem dX0_legible_57 : decode cX0_legible 57 = .ok (.imul, 1) := by decide +kernel
theorem dX0_legible_58 : decode cX0_legible 58 = .ok (.iload_n 3, 1) := by decide +kernel
theorem dX0_legible_59 : decode cX0_legible 59 = .ok (.idiv, 1) := by decide +kernel
theorem dX0_legible_60 : decode cX0_legible 60 = .ok (.istore 6, 2) := by decide +kernel
theorem dX0_legible_62 : decode cX0_legible 62 = .ok (.aload_n 1, 1) := by decide +kernel
theorem dX0_legible_63 : decode cX0_legible 63 = .ok (.getfield 149, 3) := by decide +kernel
theorem dX0_legible_66 : decode cX0_legible 66 = .ok (.iload 5, 2) := by decide +kernel
theorem dX0_legible_68 : decode cX0_legible 68 = .ok (.caload, 1) := by decide +kernel
theorem dX0_legible_69 : decode cX0_legible 69 = .ok (.bipush 32, 2) := by decide +kernel
theorem dX0_legible_71 : decode cX0_legible 71 = .ok (.if_icmp .eq 9, 3) := by decide +kernel
theorem dX0_legible_74 : decode cX0_legible 74 = .ok (.iload 6, 2) := by decide +kernel
theorem dX0_legible_76 : decode cX0_legible 76 = .ok (.iload_n 2, 1) := by decide +kernel
theorem dX0_legible_77 : decode cX0_legible 77 = .ok (.if_icmp .lt 6, 3) := by decide +kernel
theorem dX0_legible_80 : decode cX0_legible 80 = .ok (.iinc 4 1, 3) := by decide +kernel
theorem dX0_legible_83 : decode cX0_legible 83 = .ok (.iinc 5 1, 3) := by decide +kernel
theorem dX0_legible_86 : decode cX0_legible 86 = .ok (.goto (-57), 3) := by decide +kernel
theorem dX0_legible_89 : decode cX0_legible 89 = .ok (.iload 4, 2) := by decide +kernel
theorem dX0_legible_91 : decode cX0_legible 91 = .ok (.ireturn, 1) := by decide +kernel
theorem dX1_init_0 : decode cX1_init 0 = .ok (.aload_n 0, 1) := by decide +kernel
theorem dX1_init_1 : decode cX1_init 1 = .ok (.invokespecial 1, 3) := by decide +kernel
theorem dX1_init_4 : decode cX1_init 4 = .ok (.return_, 1) := by decide +kernel
theorem dX1_copyRoute_0 : decode cX1_copyRoute 0 = .ok (.aload_n 0, 1) := by decide +kernel
theorem dX1_copyRoute_1 : decode cX1_copyRoute 1 = .ok (.aload_n 1, 1) := by decide +kernel
theorem dX1_copyRoute_2 : decode cX1_copyRoute 2 = .ok (.getfield 7, 3) := by decide +kernel
theorem dX1_copyRoute_5 : decode cX1_copyRoute 5 = .ok (.putfield 7, 3) := by decide +kernel
theorem dX1_copyRoute_8 : decode cX1_copyRoute 8 = .ok (.aload_n 0, 1) := by decide +kernel
theorem dX1_copyRoute_9 : decode cX1_copyRoute 9 = .ok (.aload_n 1, 1) := by decide +kernel
theorem dX1_copyRoute_10 : decode cX1_copyRoute 10 = .ok (.getfield 13, 3) := by decide +kernel
theorem dX1_copyRoute_13 : decode cX1_copyRoute 13 = .ok (.putfield 13, 3) := by decide +kernel
theorem dX1_copyRoute_16 : decode cX1_copyRoute 16 = .ok (.aload_n 0, 1) := by decide +kernel
theorem dX1_copyRoute_17 : decode cX1_copyRoute 17 = .ok (.aload_n 1, 1) := by decide +kernel
theorem dX1_copyRoute_18 : decode cX1_copyRoute 18 = .ok (.getfield 16, 3) := by decide +kernel
theorem dX1_copyRoute_21 : decode cX1_copyRoute 21 = .ok (.putfield 16, 3) := by decide +kernel
theorem dX1_copyRoute_24 : decode cX1_copyRoute 24 = .ok (.return_, 1) := by decide +kernel
theorem dX1_owns_0 : decode cX1_owns 0 = .ok (.aload_n 0, 1) := by decide +kernel
theorem dX1_owns_1 : decode cX1_owns 1 = .ok (.getfield 7, 3) := by decide +kernel
theorem dX1_owns_4 : decode cX1_owns 4 = .ok (.iload_n 1, 1) := by decide +kernel
theorem dX1_owns_5 : decode cX1_owns 5 = .ok (.ishr, 1) := by decide +kernel
theorem dX1_owns_6 : decode cX1_owns 6 = .ok (.iconst 1, 1) := by decide +kernel
theorem dX1_owns_7 : decode cX1_owns 7 = .ok (.iand, 1) := by decide +kernel
theorem dX1_owns_8 : decode cX1_owns 8 = .ok (.iconst 1, 1) := by decide +kernel
theorem dX1_owns_9 : decode cX1_owns 9 = .ok (.if_icmp .ne 7, 3) := by decide +kernel
theorem dX1_owns_12 : decode cX1_owns 12 = .ok (.iconst 1, 1) := by decide +kernel
theorem dX1_owns_13 : decode cX1_owns 13 = .ok (.goto 4, 3) := by decide +kernel
theorem dX1_owns_16 : decode cX1_owns 16 = .ok (.iconst 0, 1) := by decide +kernel
theorem dX1_owns_17 : decode cX1_owns 17 = .ok (.ireturn, 1) := by decide +kernel
theorem dX1_forget_0 : decode cX1_forget 0 = .ok (.aload_n 0, 1) := by decide +kernel
theorem dX1_forget_1 : decode cX1_forget 1 = .ok (.getfield 7, 3) := by decide +kernel
theorem dX1_forget_4 : decode cX1_forget 4 = .ok (.iconst 1, 1) := by decide +kernel
theorem dX1_forget_5 : decode cX1_forget 5 = .ok (.iload_n 1, 1) := by decide +kernel
theorem dX1_forget_6 : decode cX1_forget 6 = .ok (.ishl, 1) := by decide +kernel
theorem dX1_forget_7 : decode cX1_forget 7 = .ok (.iconst 1, 1) := by decide +kernel
theorem dX1_forget_8 : decode cX1_forget 8 = .ok (.isub, 1) := by decide +kernel
theorem dX1_forget_9 : decode cX1_forget 9 = .ok (.iand, 1) := by decide +kernel
theorem dX1_forget_10 : decode cX1_forget 10 = .ok (.istore_n 2, 1) := by decide +kernel
theorem dX1_forget_11 : decode cX1_forget 11 = .ok (.aload_n 0, 1) := by decide +kernel
theorem dX1_forget_12 : decode cX1_forget 12 = .ok (.getfield 7, 3) := by decide +kernel
theorem dX1_forget_15 : decode cX1_forget 15 = .ok (.iload_n 1, 1) := by decide +kernel
theorem dX1_forget_16 : decode cX1_forget 16 = .ok (.iconst 1, 1) := by decide +kernel
theorem dX1_forget_17 : decode cX1_forget 17 = .ok (.iadd, 1) := by decide +kernel
theorem dX1_forget_18 : decode cX1_forget 18 = .ok (.ishr, 1) := by decide +kernel
theorem dX1_forget_19 : decode cX1_forget 19 = .ok (.iload_n 1, 1) := by decide +kernel
theorem dX1_forget_20 : decode cX1_forget 20 = .ok (.ishl, 1) := by decide +kernel
theorem dX1_forget_21 : decode cX1_forget 21 = .ok (.istore_n 3, 1) := by decide +kernel
theorem dX1_forget_22 : decode cX1_forget 22 = .ok (.aload_n 0, 1) := by decide +kernel
theorem dX1_forget_23 : decode cX1_forget 23 = .ok (.iload_n 2, 1) := by decide +kernel
theorem dX1_forget_24 : decode cX1_forget 24 = .ok (.iload_n 3, 1) := by decide +kernel
theorem dX1_forget_25 : decode cX1_forget 25 = .ok (.ior, 1) := by decide +kernel
theorem dX1_forget_26 : decode cX1_forget 26 = .ok (.putfield 7, 3) := by decide +kernel
theorem dX1_forget_29 : decode cX1_forget 29 = .ok (.return_, 1) := by decide +kernel
set_option maxRecDepth 20000 in
theorem ggX1_changeAbout_X1_owns : GoodIn wsX1_changeAbout wsX1_owns := goodIn_r _ [6, 1, 7, 8, 9] (by decide +kernel) (by decide +kernel)
set_option maxRecDepth 20000 in
theorem gX1_changeAbout_X1_owns : GoodIn wsX1_changeAbout (wsV RX1 19 RX1 yX1_owns wsX1_owns) := goodIn_app (goodIn_of _ (by decide +kernel)) ggX1_changeAbout_X1_owns
theorem dX1_changeAbout_0 : decode cX1_changeAbout 0 = .ok (.aload_n 0, 1) := by decide +kernel
theorem dX1_changeAbout_1 : decode cX1_changeAbout 1 = .ok (.iload_n 1, 1) := by decide +kernel
theorem dX1_changeAbout_2 : decode cX1_changeAbout 2 = .ok (.invokevirtual 19, 3) := by decide +kernel
theorem dX1_changeAbout_5 : decode cX1_changeAbout 5 = .ok (.aload_n 0, 1) := by decide +kernel
theorem dX1_changeAbout_6 : decode cX1_changeAbout 6 = .ok (.iload_n 2, 1) := by decide +kernel
theorem dX1_changeAbout_7 : decode cX1_changeAbout 7 = .ok (.invokevirtual 19, 3) := by decide +kernel
theorem dX1_changeAbout_10 : decode cX1_changeAbout 10 = .ok (.if_icmp .eq 19, 3) := by decide +kernel
theorem dX1_changeAbout_13 : decode cX1_changeAbout 13 = .ok (.aload_n 0, 1) := by decide +kernel
theorem dX1_changeAbout_14 : decode cX1_changeAbout 14 = .ok (.aload_n 0, 1) := by decide +kernel
theorem dX1_changeAbout_15 : decode cX1_changeAbout 15 = .ok (.getfield 7, 3) := by decide +kernel
theorem dX1_changeAbout_18 : decode cX1_changeAbout 18 = .ok (.iconst 1, 1) := by decide +kernel
theorem dX1_changeAbout_19 : decode cX1_changeAbout 19 = .ok (.iload_n 1, 1) := by decide +kernel
theorem dX1_changeAbout_20 : decode cX1_changeAbout 20 = .ok (.ishl, 1) := by decide +kernel
theorem dX1_changeAbout_21 : decode cX1_changeAbout 21 = .ok (.ixor, 1) := by decide +kernel
theorem dX1_changeAbout_22 : decode cX1_changeAbout 22 = .ok (.iconst 1, 1) := by decide +kernel
theorem dX1_changeAbout_23 : decode cX1_changeAbout 23 = .ok (.iload_n 2, 1) := by decide +kernel
theorem dX1_changeAbout_24 : decode cX1_changeAbout 24 = .ok (.ishl, 1) := by decide +kernel
theorem dX1_changeAbout_25 : decode cX1_changeAbout 25 = .ok (.ixor, 1) := by decide +kernel
theorem dX1_changeAbout_26 : decode cX1_changeAbout 26 = .ok (.putfield 7, 3) := by decide +kernel
theorem dX1_changeAbout_29 : decode cX1_changeAbout 29 = .ok (.return_, 1) := by decide +kernel
theorem dX2_init_0 : decode cX2_init 0 = .ok (.aload_n 0, 1) := by decide +kernel
theorem dX2_init_1 : decode cX2_init 1 = .ok (.invokespecial 3, 3) := by decide +kernel
theorem dX2_init_4 : decode cX2_init 4 = .ok (.aload_n 0, 1) := by decide +kernel
theorem dX2_init_5 : decode cX2_init 5 = .ok (.bipush 14, 2) := by decide +kernel
theorem dX2_init_7 : decode cX2_init 7 = .ok (.newarray .char, 2) := by decide +kernel
theorem dX2_init_9 : decode cX2_init 9 = .ok (.putfield 9, 3) := by decide +kernel
theorem dX2_init_12 : decode cX2_init 12 = .ok (.return_, 1) := by decide +kernel
theorem dX2_copyRow_0 : decode cX2_copyRow 0 = .ok (.aload_n 1, 1) := by decide +kernel
theorem dX2_copyRow_1 : decode cX2_copyRow 1 = .ok (.getfield 9, 3) := by decide +kernel
theorem dX2_copyRow_4 : decode cX2_copyRow 4 = .ok (.iconst 0, 1) := by decide +kernel
theorem dX2_copyRow_5 : decode cX2_copyRow 5 = .ok (.aload_n 0, 1) := by decide +kernel
theorem dX2_copyRow_6 : decode cX2_copyRow 6 = .ok (.getfield 9, 3) := by decide +kernel
theorem dX2_copyRow_9 : decode cX2_copyRow 9 = .ok (.iconst 0, 1) := by decide +kernel
theorem dX2_copyRow_10 : decode cX2_copyRow 10 = .ok (.bipush 14, 2) := by decide +kernel
theorem dX2_copyRow_12 : decode cX2_copyRow 12 = .ok (.invokestatic 15, 3) := by decide +kernel
theorem dX2_copyRow_15 : decode cX2_copyRow 15 = .ok (.aload_n 0, 1) := by decide +kernel
theorem dX2_copyRow_16 : decode cX2_copyRow 16 = .ok (.aload_n 1, 1) := by decide +kernel
theorem dX2_copyRow_17 : decode cX2_copyRow 17 = .ok (.getfield 21, 3) := by decide +kernel
theorem dX2_copyRow_20 : decode cX2_copyRow 20 = .ok (.putfield 21, 3) := by decide +kernel
theorem dX2_copyRow_23 : decode cX2_copyRow 23 = .ok (.aload_n 0, 1) := by decide +kernel
theorem dX2_copyRow_24 : decode cX2_copyRow 24 = .ok (.aload_n 1, 1) := by decide +kernel
theorem dX2_copyRow_25 : decode cX2_copyRow 25 = .ok (.getfield 25, 3) := by decide +kernel
theorem dX2_copyRow_28 : decode cX2_copyRow 28 = .ok (.putfield 25, 3) := by decide +kernel
theorem dX2_copyRow_31 : decode cX2_copyRow 31 = .ok (.aload_n 0, 1) := by decide +kernel
theorem dX2_copyRow_32 : decode cX2_copyRow 32 = .ok (.aload_n 1, 1) := by decide +kernel
theorem dX2_copyRow_33 : decode cX2_copyRow 33 = .ok (.getfield 28, 3) := by decide +kernel
theorem dX2_copyRow_36 : decode cX2_copyRow 36 = .ok (.putfield 28, 3) := by decide +kernel
theorem dX2_copyRow_39 : decode cX2_copyRow 39 = .ok (.return_, 1) := by decide +kernel
theorem dX2_begin_0 : decode cX2_begin 0 = .ok (.aload_n 0, 1) := by decide +kernel
theorem dX2_begin_1 : decode cX2_begin 1 = .ok (.iconst 0, 1) := by decide +kernel
theorem dX2_begin_2 : decode cX2_begin 2 = .ok (.putfield 21, 3) := by decide +kernel
theorem dX2_begin_5 : decode cX2_begin 5 = .ok (.iload_n 2, 1) := by decide +kernel
theorem dX2_begin_6 : decode cX2_begin 6 = .ok (.istore 4, 2) := by decide +kernel
theorem dX2_begin_8 : decode cX2_begin 8 = .ok (.iload 4, 2) := by decide +kernel
theorem dX2_begin_10 : decode cX2_begin 10 = .ok (.iload_n 3, 1) := by decide +kernel
theorem dX2_begin_11 : decode cX2_begin 11 = .ok (.if_icmp .ge 44, 3) := by decide +kernel
theorem dX2_begin_14 : decode cX2_begin 14 = .ok (.aload_n 0, 1) := by decide +kernel
theorem dX2_begin_15 : decode cX2_begin 15 = .ok (.getfield 21, 3) := by decide +kernel
theorem dX2_begin_18 : decode cX2_begin 18 = .ok (.bipush 14, 2) := by decide +kernel
theorem dX2_begin_20 : decode cX2_begin 20 = .ok (.if_icmp .ge 35, 3) := by decide +kernel
theorem dX2_begin_23 : decode cX2_begin 23 = .ok (.aload_n 0, 1) := by decide +kernel
theorem dX2_begin_24 : decode cX2_begin 24 = .ok (.getfield 9, 3) := by decide +kernel
theorem dX2_begin_27 : decode cX2_begin 27 = .ok (.aload_n 0, 1) := by decide +kernel
theorem dX2_begin_28 : decode cX2_begin 28 = .ok (.getfield 21, 3) := by decide +kernel
theorem dX2_begin_31 : decode cX2_begin 31 = .ok (.aload_n 1, 1) := by decide +kernel
theorem dX2_begin_32 : decode cX2_begin 32 = .ok (.getfield 32, 3) := by decide +kernel
theorem dX2_begin_35 : decode cX2_begin 35 = .ok (.iload 4, 2) := by decide +kernel
theorem dX2_begin_37 : decode cX2_begin 37 = .ok (.caload, 1) := by decide +kernel
theorem dX2_begin_38 : decode cX2_begin 38 = .ok (.castore, 1) := by decide +kernel
theorem dX2_begin_39 : decode cX2_begin 39 = .ok (.aload_n 0, 1) := by decide +kernel
theorem dX2_begin_40 : decode cX2_begin 40 = .ok (.dup, 1) := by decide +kernel
theorem dX2_begin_41 : decode cX2_begin 41 = .ok (.getfield 21, 3) := by decide +kernel
theorem dX2_begin_44 : decode cX2_begin 44 = .ok (.iconst 1, 1) := by decide +kernel
theorem dX2_begin_45 : decode cX2_begin 45 = .ok (.iadd, 1) := by decide +kernel
theorem dX2_begin_46 : decode cX2_begin 46 = .ok (.putfield 21, 3) := by decide +kernel
theorem dX2_begin_49 : decode cX2_begin 49 = .ok (.iinc 4 1, 3) := by decide +kernel
theorem dX2_begin_52 : decode cX2_begin 52 = .ok (.goto (-44), 3) := by decide +kernel
theorem dX2_begin_55 : decode cX2_begin 55 = .ok (.aload_n 0, 1) := by decide +kernel
theorem dX2_begin_56 : decode cX2_begin 56 = .ok (.iconst 0, 1) := by decide +kernel
theorem dX2_begin_57 : decode cX2_begin 57 = .ok (.putfield 25, 3) := by decide +kernel
theorem dX2_begin_60 : decode cX2_begin 60 = .ok (.aload_n 0, 1) := by decide +kernel
theorem dX2_begin_61 : decode cX2_begin 61 = .ok (.iconst 0, 1) := by decide +kernel
theorem dX2_begin_62 : decode cX2_begin 62 = .ok (.putfield 28, 3) := by decide +kernel
theorem dX2_begin_65 : decode cX2_begin 65 = .ok (.return_, 1) := by decide +kernel
theorem dX2_patch_0 : decode cX2_patch 0 = .ok (.aload_n 0, 1) := by decide +kernel
theorem dX2_patch_1 : decode cX2_patch 1 = .ok (.aload_n 0, 1) := by decide +kernel
theorem dX2_patch_2 : decode cX2_patch 2 = .ok (.getfield 25, 3) := by decide +kernel
theorem dX2_patch_5 : decode cX2_patch 5 = .ok (.iconst 2, 1) := by decide +kernel
theorem dX2_patch_6 : decode cX2_patch 6 = .ok (.idiv, 1) := by decide +kernel
theorem dX2_patch_7 : decode cX2_patch 7 = .ok (.putfield 25, 3) := by decide +kernel
theorem dX2_patch_10 : decode cX2_patch 10 = .ok (.aload_n 0, 1) := by decide +kernel
theorem dX2_patch_11 : decode cX2_patch 11 = .ok (.iconst 0, 1) := by decide +kernel
theorem dX2_patch_12 : decode cX2_patch 12 = .ok (.putfield 28, 3) := by decide +kernel
theorem dX2_patch_15 : decode cX2_patch 15 = .ok (.return_, 1) := by decide +kernel
set_option maxRecDepth 20000 in
theorem ggX2_width_X4_letterWidth : GoodIn wsX2_width wsX4_letterWidth := goodIn_r _ [5] (by decide +kernel) (by decide +kernel)
set_option maxRecDepth 20000 in
theorem gX2_width_X4_letterWidth_n37 : GoodIn wsX2_width (wsX4_letterWidth) := ggX2_width_X4_letterWidth
theorem dX2_width_0 : decode cX2_width 0 = .ok (.iconst 0, 1) := by decide +kernel
theorem dX2_width_1 : decode cX2_width 1 = .ok (.istore_n 1, 1) := by decide +kernel
theorem dX2_width_2 : decode cX2_width 2 = .ok (.iconst 0, 1) := by decide +kernel
theorem dX2_width_3 : decode cX2_width 3 = .ok (.istore_n 2, 1) := by decide +kernel
theorem dX2_width_4 : decode cX2_width 4 = .ok (.iload_n 2, 1) := by decide +kernel
theorem dX2_width_5 : decode cX2_width 5 = .ok (.aload_n 0, 1) := by decide +kernel
theorem dX2_width_6 : decode cX2_width 6 = .ok (.getfield 21, 3) := by decide +kernel
theorem dX2_width_9 : decode cX2_width 9 = .ok (.if_icmp .ge 21, 3) := by decide +kernel
theorem dX2_width_12 : decode cX2_width 12 = .ok (.iload_n 1, 1) := by decide +kernel
theorem dX2_width_13 : decode cX2_width 13 = .ok (.aload_n 0, 1) := by decide +kernel
theorem dX2_width_14 : decode cX2_width 14 = .ok (.getfield 9, 3) := by decide +kernel
theorem dX2_width_17 : decode cX2_width 17 = .ok (.iload_n 2, 1) := by decide +kernel
theorem dX2_width_18 : decode cX2_width 18 = .ok (.caload, 1) := by decide +kernel
theorem dX2_width_19 : decode cX2_width 19 = .ok (.invokestatic 37, 3) := by decide +kernel
theorem dX2_width_22 : decode cX2_width 22 = .ok (.iadd, 1) := by decide +kernel
theorem dX2_width_23 : decode cX2_width 23 = .ok (.istore_n 1, 1) := by decide +kernel
theorem dX2_width_24 : decode cX2_width 24 = .ok (.iinc 2 1, 3) := by decide +kernel
theorem dX2_width_27 : decode cX2_width 27 = .ok (.goto (-23), 3) := by decide +kernel
theorem dX2_width_30 : decode cX2_width 30 = .ok (.iload_n 1, 1) := by decide +kernel
theorem dX2_width_31 : decode cX2_width 31 = .ok (.ireturn, 1) := by decide +kernel
set_option maxRecDepth 20000 in
theorem ggX2_kind_X2_isNamed : GoodIn wsX2_kind wsX2_isNamed := goodIn_r _ [6, 1, 7, 8, 9, 10, 11, 12, 13, 14, 15, 16, 17, 18, 19, 20, 21, 22, 23, 24, 25, 26, 27, 28, 29, 30, 31, 32, 33, 34, 35, 36, 37, 38, 39, 40, 41, 42, 43, 44, 45, 46, 47, 48, 49, 50, 51, 52, 53, 54, 55, 56, 57, 58, 59, 60] (by decide +kernel) (by decide +kernel)
set_option maxRecDepth 20000 in
theorem gX2_kind_X2_isNamed : GoodIn wsX2_kind (wsV RX2 43 RX2 yX2_isNamed wsX2_isNamed) := goodIn_app (goodIn_of _ (by decide +kernel)) ggX2_kind_X2_isNamed
theorem dX2_kind_0 : decode cX2_kind 0 = .ok (.aload_n 0, 1) := by decide +kernel
theorem dX2_kind_1 : decode cX2_kind 1 = .ok (.getfield 21, 3) := by decide +kernel
theorem dX2_kind_4 : decode cX2_kind 4 = .ok (.iconst 1, 1) := by decide +kernel
theorem dX2_kind_5 : decode cX2_kind 5 = .ok (.if_icmp .ne 5, 3) := by decide +kernel
theorem dX2_kind_8 : decode cX2_kind 8 = .ok (.iconst 4, 1) := by decide +kernel
theorem dX2_kind_9 : decode cX2_kind 9 = .ok (.ireturn, 1) := by decide +kernel
theorem dX2_kind_10 : decode cX2_kind 10 = .ok (.aload_n 0, 1) := by decide +kernel
theorem dX2_kind_11 : decode cX2_kind 11 = .ok (.ldc 41, 2) := by decide +kernel
theorem dX2_kind_13 : decode cX2_kind 13 = .ok (.invokevirtual 43, 3) := by decide +kernel
theorem dX2_kind_16 : decode cX2_kind 16 = .ok (.ifCond .eq 5, 3) := by decide +kernel
theorem dX2_kind_19 : decode cX2_kind 19 = .ok (.iconst 1, 1) := by decide +kernel
theorem dX2_kind_20 : decode cX2_kind 20 = .ok (.ireturn, 1) := by decide +kernel
theorem dX2_kind_21 : decode cX2_kind 21 = .ok (.aload_n 0, 1) := by decide +kernel
theorem dX2_kind_22 : decode cX2_kind 22 = .ok (.ldc 47, 2) := by decide +kernel
theorem dX2_kind_24 : decode cX2_kind 24 = .ok (.invokevirtual 43, 3) := by decide +kernel
theorem dX2_kind_27 : decode cX2_kind 27 = .ok (.ifCond .eq 5, 3) := by decide +kernel
theorem dX2_kind_30 : decode cX2_kind 30 = .ok (.iconst 2, 1) := by decide +kernel
theorem dX2_kind_31 : decode cX2_kind 31 = .ok (.ireturn, 1) := by decide +kernel
theorem dX2_kind_32 : decode cX2_kind 32 = .ok (.aload_n 0, 1) := by decide +kernel
theorem dX2_kind_33 : decode cX2_kind 33 = .ok (.ldc 49, 2) := by decide +kernel
theorem dX2_kind_35 : decode cX2_kind 35 = .ok (.invokevirtual 43, 3) := by decide +kernel
theorem dX2_kind_38 : decode cX2_kind 38 = .ok (.ifCond .eq 7, 3) := by decide +kernel
theorem dX2_kind_41 : decode cX2_kind 41 = .ok (.iconst 3, 1) := by decide +kernel
theorem dX2_kind_42 : decode cX2_kind 42 = .ok (.goto 4, 3) := by decide +kernel
theorem dX2_kind_45 : decode cX2_kind 45 = .ok (.iconst 0, 1) := by decide +kernel
theorem dX2_kind_46 : decode cX2_kind 46 = .ok (.ireturn, 1) := by decide +kernel
set_option maxRecDepth 20000 in
theorem ggX2_isNamed_J0_length_8abf5 : GoodIn wsX2_isNamed wsJ0_length_8abf5 := goodIn_r _ [7, 8, 9, 10, 11, 6, 12, 13, 14] (by decide +kernel) (by decide +kernel)
set_option maxRecDepth 20000 in
theorem gX2_isNamed_J0_length_8abf5 : GoodIn wsX2_isNamed (wsV RX2 51 RJ0 yJ0_length_8abf5 wsJ0_length_8abf5) := goodIn_app (goodIn_of _ (by decide +kernel)) ggX2_isNamed_J0_length_8abf5
set_option maxRecDepth 20000 in
theorem ggX2_isNamed_J0_charAt_5068e : GoodIn wsX2_isNamed wsJ0_charAt_5068e := goodIn_r _ [18, 8, 19, 20, 21, 6, 22, 13, 14, 23, 24, 25, 26, 27, 28, 29, 30, 31, 32, 33, 34, 35, 36, 37, 38, 39, 40, 41, 42, 43, 44, 45, 46, 47, 48, 49, 50, 51] (by decide +kernel) (by decide +kernel)
set_option maxRecDepth 20000 in
theorem gX2_isNamed_J0_charAt_5068e : GoodIn wsX2_isNamed (wsV RX2 56 RJ0 yJ0_charAt_5068e wsJ0_charAt_5068e) := goodIn_app (goodIn_of _ (by decide +kernel)) ggX2_isNamed_J0_charAt_5068e
theorem dX2_isNamed_0 : decode cX2_isNamed 0 = .ok (.aload_n 0, 1) := by decide +kernel
theorem dX2_isNamed_1 : decode cX2_isNamed 1 = .ok (.getfield 21, 3) := by decide +kernel
theorem dX2_isNamed_4 : decode cX2_isNamed 4 = .ok (.aload_n 1, 1) := by decide +kernel
theorem dX2_isNamed_5 : decode cX2_isNamed 5 = .ok (.invokevirtual 51, 3) := by decide +kernel
theorem dX2_isNamed_8 : decode cX2_isNamed 8 = .ok (.if_icmp .eq 5, 3) := by decide +kernel
theorem dX2_isNamed_11 : decode cX2_isNamed 11 = .ok (.iconst 0, 1) := by decide +kernel
theorem dX2_isNamed_12 : decode cX2_isNamed 12 = .ok (.ireturn, 1) := by decide +kernel
theorem dX2_isNamed_13 : decode cX2_isNamed 13 = .ok (.iconst 0, 1) := by decide +kernel
theorem dX2_isNamed_14 : decode cX2_isNamed 14 = .ok (.istore_n 2, 1) := by decide +kernel
theorem dX2_isNamed_15 : decode cX2_isNamed 15 = .ok (.iload_n 2, 1) := by decide +kernel
theorem dX2_isNamed_16 : decode cX2_isNamed 16 = .ok (.aload_n 0, 1) := by decide +kernel
theorem dX2_isNamed_17 : decode cX2_isNamed 17 = .ok (.getfield 21, 3) := by decide +kernel
theorem dX2_isNamed_20 : decode cX2_isNamed 20 = .ok (.if_icmp .ge 25, 3) := by decide +kernel
theorem dX2_isNamed_23 : decode cX2_isNamed 23 = .ok (.aload_n 0, 1) := by decide +kernel
theorem dX2_isNamed_24 : decode cX2_isNamed 24 = .ok (.getfield 9, 3) := by decide +kernel
theorem dX2_isNamed_27 : decode cX2_isNamed 27 = .ok (.iload_n 2, 1) := by decide +kernel
theorem dX2_isNamed_28 : decode cX2_isNamed 28 = .ok (.caload, 1) := by decide +kernel
theorem dX2_isNamed_29 : decode cX2_isNamed 29 = .ok (.aload_n 1, 1) := by decide +kernel
theorem dX2_isNamed_30 : decode cX2_isNamed 30 = .ok (.iload_n 2, 1) := by decide +kernel
theorem dX2_isNamed_31 : decode cX2_isNamed 31 = .ok (.invokevirtual 56, 3) := by decide +kernel
theorem dX2_isNamed_34 : decode cX2_isNamed 34 = .ok (.if_icmp .eq 5, 3) := by decide +kernel
theorem dX2_isNamed_37 : decode cX2_isNamed 37 = .ok (.iconst 0, 1) := by decide +kernel
theorem dX2_isNamed_38 : decode cX2_isNamed 38 = .ok (.ireturn, 1) := by decide +kernel
theorem dX2_isNamed_39 : decode cX2_isNamed 39 = .ok (.iinc 2 1, 3) := by decide +kernel
theorem dX2_isNamed_42 : decode cX2_isNamed 42 = .ok (.goto (-27), 3) := by decide +kernel
theorem dX2_isNamed_45 : decode cX2_isNamed 45 = .ok (.iconst 1, 1) := by decide +kernel
theorem dX2_isNamed_46 : decode cX2_isNamed 46 = .ok (.ireturn, 1) := by decide +kernel
theorem dX2_sharedStart_0 : decode cX2_sharedStart 0 = .ok (.iconst 0, 1) := by decide +kernel
theorem dX2_sharedStart_1 : decode cX2_sharedStart 1 = .ok (.istore_n 2, 1) := by decide +kernel
theorem dX2_sharedStart_2 : decode cX2_sharedStart 2 = .ok (.iload_n 2, 1) := by decide +kernel
theorem dX2_sharedStart_3 : decode cX2_sharedStart 3 = .ok (.aload_n 0, 1) := by decide +kernel
theorem dX2_sharedStart_4 : decode cX2_sharedStart 4 = .ok (.getfield 21, 3) := by decide +kernel
theorem dX2_sharedStart_7 : decode cX2_sharedStart 7 = .ok (.if_icmp .ge 32, 3) := by decide +kernel
theorem dX2_sharedStart_10 : decode cX2_sharedStart 10 = .ok (.iload_n 2, 1) := by decide +kernel
theorem dX2_sharedStart_11 : decode cX2_sharedStart 11 = .ok (.aload_n 1, 1) := by decide +kernel
theorem dX2_sharedStart_12 : decode cX2_sharedStart 12 = .ok (.getfield 21, 3) := by decide +kernel
theorem dX2_sharedStart_15 : decode cX2_sharedStart 15 = .ok (.if_icmp .ge 24, 3) := by decide +kernel
theorem dX2_sharedStart_18 : decode cX2_sharedStart 18 = .ok (.aload_n 0, 1) := by decide +kernel
theorem dX2_sharedStart_19 : decode cX2_sharedStart 19 = .ok (.getfield 9, 3) := by decide +kernel
theorem dX2_sharedStart_22 : decode cX2_sharedStart 22 = .ok (.iload_n 2, 1) := by decide +kernel
theorem dX2_sharedStart_23 : decode cX2_sharedStart 23 = .ok (.caload, 1) := by decide +kernel
theorem dX2_sharedStart_24 : decode cX2_sharedStart 24 = .ok (.aload_n 1, 1) := by decide +kernel
theorem dX2_sharedStart_25 : decode cX2_sharedStart 25 = .ok (.getfield 9, 3) := by decide +kernel
theorem dX2_sharedStart_28 : decode cX2_sharedStart 28 = .ok (.iload_n 2, 1) := by decide +kernel
theorem dX2_sharedStart_29 : decode cX2_sharedStart 29 = .ok (.caload, 1) := by decide +kernel
theorem dX2_sharedStart_30 : decode cX2_sharedStart 30 = .ok (.if_icmp .ne 9, 3) := by decide +kernel
theorem dX2_sharedStart_33 : decode cX2_sharedStart 33 = .ok (.iinc 2 1, 3) := by decide +kernel
theorem dX2_sharedStart_36 : decode cX2_sharedStart 36 = .ok (.goto (-34), 3) := by decide +kernel
theorem dX2_sharedStart_39 : decode cX2_sharedStart 39 = .ok (.iload_n 2, 1) := by decide +kernel
theorem dX2_sharedStart_40 : decode cX2_sharedStart 40 = .ok (.ireturn, 1) := by decide +kernel
theorem dX3_init_0 : decode cX3_init 0 = .ok (.aload_n 0, 1) := by decide +kernel
theorem dX3_init_1 : decode cX3_init 1 = .ok (.invokespecial 3, 3) := by decide +kernel
theorem dX3_init_4 : decode cX3_init 4 = .ok (.aload_n 0, 1) := by decide +kernel
theorem dX3_init_5 : decode cX3_init 5 = .ok (.bipush 60, 2) := by decide +kernel
theorem dX3_init_7 : decode cX3_init 7 = .ok (.newarray .char, 2) := by decide +kernel
theorem dX3_init_9 : decode cX3_init 9 = .ok (.putfield 9, 3) := by decide +kernel
theorem dX3_init_12 : decode cX3_init 12 = .ok (.aload_n 0, 1) := by decide +kernel
theorem dX3_init_13 : decode cX3_init 13 = .ok (.iconst 0, 1) := by decide +kernel
theorem dX3_init_14 : decode cX3_init 14 = .ok (.putfield 15, 3) := by decide +kernel
theorem dX3_init_17 : decode cX3_init 17 = .ok (.return_, 1) := by decide +kernel
theorem dX3_append_0 : decode cX3_append 0 = .ok (.aload_n 0, 1) := by decide +kernel
theorem dX3_append_1 : decode cX3_append 1 = .ok (.getfield 15, 3) := by decide +kernel
theorem dX3_append_4 : decode cX3_append 4 = .ok (.bipush 60, 2) := by decide +kernel
theorem dX3_append_6 : decode cX3_append 6 = .ok (.if_icmp .ge 23, 3) := by decide +kernel
theorem dX3_append_9 : decode cX3_append 9 = .ok (.aload_n 0, 1) := by decide +kernel
theorem dX3_append_10 : decode cX3_append 10 = .ok (.getfield 9, 3) := by decide +kernel
theorem dX3_append_13 : decode cX3_append 13 = .ok (.aload_n 0, 1) := by decide +kernel
theorem dX3_append_14 : decode cX3_append 14 = .ok (.getfield 15, 3) := by decide +kernel
theorem dX3_append_17 : decode cX3_append 17 = .ok (.iload_n 1, 1) := by decide +kernel
theorem dX3_append_18 : decode cX3_append 18 = .ok (.castore, 1) := by decide +kernel
theorem dX3_append_19 : decode cX3_append 19 = .ok (.aload_n 0, 1) := by decide +kernel
theorem dX3_append_20 : decode cX3_append 20 = .ok (.dup, 1) := by decide +kernel
theorem dX3_append_21 : decode cX3_append 21 = .ok (.getfield 15, 3) := by decide +kernel
theorem dX3_append_24 : decode cX3_append 24 = .ok (.iconst 1, 1) := by decide +kernel
theorem dX3_append_25 : decode cX3_append 25 = .ok (.iadd, 1) := by decide +kernel
theorem dX3_append_26 : decode cX3_append 26 = .ok (.putfield 15, 3) := by decide +kernel
theorem dX3_append_29 : decode cX3_append 29 = .ok (.return_, 1) := by decide +kernel
theorem dX3_namesAhead_0 : decode cX3_namesAhead 0 = .ok (.iconst 0, 1) := by decide +kernel
theorem dX3_namesAhead_1 : decode cX3_namesAhead 1 = .ok (.istore_n 2, 1) := by decide +kernel
theorem dX3_namesAhead_2 : decode cX3_namesAhead 2 = .ok (.iconst 0, 1) := by decide +kernel
theorem dX3_namesAhead_3 : decode cX3_namesAhead 3 = .ok (.istore_n 3, 1) := by decide +kernel
theorem dX3_namesAhead_4 : decode cX3_namesAhead 4 = .ok (.iload_n 3, 1) := by decide +kernel
theorem dX3_namesAhead_5 : decode cX3_namesAhead 5 = .ok (.iload_n 1, 1) := by decide +kernel
theorem dX3_namesAhead_6 : decode cX3_namesAhead 6 = .ok (.if_icmp .ge 31, 3) := by decide +kernel
theorem dX3_namesAhead_9 : decode cX3_namesAhead 9 = .ok (.iload_n 3, 1) := by decide +kernel
theorem dX3_namesAhead_10 : decode cX3_namesAhead 10 = .ok (.aload_n 0, 1) := by decide +kernel
theorem dX3_namesAhead_11 : decode cX3_namesAhead 11 = .ok (.getfield 15, 3) := by decide +kernel
theorem dX3_namesAhead_14 : decode cX3_namesAhead 14 = .ok (.if_icmp .ge 23, 3) := by decide +kernel
theorem dX3_namesAhead_17 : decode cX3_namesAhead 17 = .ok (.aload_n 0, 1) := by decide +kernel
theorem dX3_namesAhead_18 : decode cX3_namesAhead 18 = .ok (.getfield 9, 3) := by decide +kernel
theorem dX3_namesAhead_21 : decode cX3_namesAhead 21 = .ok (.iload_n 3, 1) := by decide +kernel
theorem dX3_namesAhead_22 : decode cX3_namesAhead 22 = .ok (.caload, 1) := by decide +kernel
theorem dX3_namesAhead_23 : decode cX3_namesAhead 23 = .ok (.bipush 47, 2) := by decide +kernel
theorem dX3_namesAhead_25 : decode cX3_namesAhead 25 = .ok (.if_icmp .ne 6, 3) := by decide +kernel
theorem dX3_namesAhead_28 : decode cX3_namesAhead 28 = .ok (.iinc 2 1, 3) := by decide +kernel
theorem dX3_namesAhead_31 : decode cX3_namesAhead 31 = .ok (.iinc 3 1, 3) := by decide +kernel
theorem dX3_namesAhead_34 : decode cX3_namesAhead 34 = .ok (.goto (-30), 3) := by decide +kernel
theorem dX3_namesAhead_37 : decode cX3_namesAhead 37 = .ok (.iload_n 2, 1) := by decide +kernel
theorem dX3_namesAhead_38 : decode cX3_namesAhead 38 = .ok (.ireturn, 1) := by decide +kernel
theorem dX3_endOfName_0 : decode cX3_endOfName 0 = .ok (.iload_n 1, 1) := by decide +kernel
theorem dX3_endOfName_1 : decode cX3_endOfName 1 = .ok (.istore_n 2, 1) := by decide +kernel
theorem dX3_endOfName_2 : decode cX3_endOfName 2 = .ok (.iload_n 2, 1) := by decide +kernel
theorem dX3_endOfName_3 : decode cX3_endOfName 3 = .ok (.aload_n 0, 1) := by decide +kernel
theorem dX3_endOfName_4 : decode cX3_endOfName 4 = .ok (.getfield 15, 3) := by decide +kernel
theorem dX3_endOfName_7 : decode cX3_endOfName 7 = .ok (.if_icmp .ge 22, 3) := by decide +kernel
theorem dX3_endOfName_10 : decode cX3_endOfName 10 = .ok (.aload_n 0, 1) := by decide +kernel
theorem dX3_endOfName_11 : decode cX3_endOfName 11 = .ok (.getfield 9, 3) := by decide +kernel
theorem dX3_endOfName_14 : decode cX3_endOfName 14 = .ok (.iload_n 2, 1) := by decide +kernel
theorem dX3_endOfName_15 : decode cX3_endOfName 15 = .ok (.caload, 1) := by decide +kernel
theorem dX3_endOfName_16 : decode cX3_endOfName 16 = .ok (.bipush 47, 2) := by decide +kernel
theorem dX3_endOfName_18 : decode cX3_endOfName 18 = .ok (.if_icmp .ne 5, 3) := by decide +kernel
theorem dX3_endOfName_21 : decode cX3_endOfName 21 = .ok (.iload_n 2, 1) := by decide +kernel
theorem dX3_endOfName_22 : decode cX3_endOfName 22 = .ok (.ireturn, 1) := by decide +kernel
theorem dX3_endOfName_23 : decode cX3_endOfName 23 = .ok (.iinc 2 1, 3) := by decide +kernel
theorem dX3_endOfName_26 : decode cX3_endOfName 26 = .ok (.goto (-24), 3) := by decide +kernel
theorem dX3_endOfName_29 : decode cX3_endOfName 29 = .ok (.aload_n 0, 1) := by decide +kernel
theorem dX3_endOfName_30 : decode cX3_endOfName 30 = .ok (.getfield 15, 3) := by decide +kernel
theorem dX3_endOfName_33 : decode cX3_endOfName 33 = .ok (.ireturn, 1) := by decide +kernel
set_option maxRecDepth 20000 in
theorem ggX3_breakOf_X3_fits : GoodIn wsX3_breakOf wsX3_fits := goodIn_r _ [5, 6, 7, 8] (by decide +kernel) (by decide +kernel)
set_option maxRecDepth 20000 in
theorem gX3_breakOf_X3_fits : GoodIn wsX3_breakOf (wsV RX3 19 RX3 yX3_fits wsX3_fits) := goodIn_app (goodIn_of _ (by decide +kernel)) ggX3_breakOf_X3_fits
theorem dX3_breakOf_0 : decode cX3_breakOf 0 = .ok (.iload_n 1, 1) := by decide +kernel
theorem dX3_breakOf_1 : decode cX3_breakOf 1 = .ok (.iload_n 2, 1) := by decide +kernel
theorem dX3_breakOf_2 : decode cX3_breakOf 2 = .ok (.if_icmp .lt 5, 3) := by decide +kernel
theorem dX3_breakOf_5 : decode cX3_breakOf 5 = .ok (.iconst 0, 1) := by decide +kernel
theorem dX3_breakOf_6 : decode cX3_breakOf 6 = .ok (.ireturn, 1) := by decide +kernel
theorem dX3_breakOf_7 : decode cX3_breakOf 7 = .ok (.iload_n 1, 1) := by decide +kernel
theorem dX3_breakOf_8 : decode cX3_breakOf 8 = .ok (.istore_n 3, 1) := by decide +kernel
theorem dX3_breakOf_9 : decode cX3_breakOf 9 = .ok (.iload_n 3, 1) := by decide +kernel
theorem dX3_breakOf_10 : decode cX3_breakOf 10 = .ok (.iload_n 2, 1) := by decide +kernel
theorem dX3_breakOf_11 : decode cX3_breakOf 11 = .ok (.if_icmp .ge 31, 3) := by decide +kernel
theorem dX3_breakOf_14 : decode cX3_breakOf 14 = .ok (.iload_n 3, 1) := by decide +kernel
theorem dX3_breakOf_15 : decode cX3_breakOf 15 = .ok (.iload_n 1, 1) := by decide +kernel
theorem dX3_breakOf_16 : decode cX3_breakOf 16 = .ok (.isub, 1) := by decide +kernel
theorem dX3_breakOf_17 : decode cX3_breakOf 17 = .ok (.bipush 14, 2) := by decide +kernel
theorem dX3_breakOf_19 : decode cX3_breakOf 19 = .ok (.if_icmp .ge 13, 3) := by decide +kernel
theorem dX3_breakOf_22 : decode cX3_breakOf 22 = .ok (.aload_n 0, 1) := by decide +kernel
theorem dX3_breakOf_23 : decode cX3_breakOf 23 = .ok (.iload_n 3, 1) := by decide +kernel
theorem dX3_breakOf_24 : decode cX3_breakOf 24 = .ok (.iload_n 1, 1) := by decide +kernel
theorem dX3_breakOf_25 : decode cX3_breakOf 25 = .ok (.iload_n 2, 1) := by decide +kernel
theorem dX3_breakOf_26 : decode cX3_breakOf 26 = .ok (.invokevirtual 19, 3) := by decide +kernel
theorem dX3_breakOf_29 : decode cX3_breakOf 29 = .ok (.ifCond .ne 7, 3) := by decide +kernel
theorem dX3_breakOf_32 : decode cX3_breakOf 32 = .ok (.iload_n 3, 1) := by decide +kernel
theorem dX3_breakOf_33 : decode cX3_breakOf 33 = .ok (.iload_n 1, 1) := by decide +kernel
theorem dX3_breakOf_34 : decode cX3_breakOf 34 = .ok (.isub, 1) := by decide +kernel
theorem dX3_breakOf_35 : decode cX3_breakOf 35 = .ok (.ireturn, 1) := by decide +kernel
theorem dX3_breakOf_36 : decode cX3_breakOf 36 = .ok (.iinc 3 1, 3) := by decide +kernel
theorem dX3_breakOf_39 : decode cX3_breakOf 39 = .ok (.goto (-30), 3) := by decide +kernel
theorem dX3_breakOf_42 : decode cX3_breakOf 42 = .ok (.iconst (-1), 1) := by decide +kernel
theorem dX3_breakOf_43 : decode cX3_breakOf 43 = .ok (.ireturn, 1) := by decide +kernel
theorem dX3_fits_0 : decode cX3_fits 0 = .ok (.aload_n 0, 1) := by decide +kernel
theorem dX3_fits_1 : decode cX3_fits 1 = .ok (.getfield 9, 3) := by decide +kernel
theorem dX3_fits_4 : decode cX3_fits 4 = .ok (.iload_n 1, 1) := by decide +kernel
theorem dX3_fits_5 : decode cX3_fits 5 = .ok (.caload, 1) := by decide +kernel
theorem dX3_fits_6 : decode cX3_fits 6 = .ok (.bipush 32, 2) := by decide +kernel
theorem dX3_fits_8 : decode cX3_fits 8 = .ok (.if_icmp .ne 34, 3) := by decide +kernel
theorem dX3_fits_11 : decode cX3_fits 11 = .ok (.iload_n 1, 1) := by decide +kernel
theorem dX3_fits_12 : decode cX3_fits 12 = .ok (.iload_n 2, 1) := by decide +kernel
theorem dX3_fits_13 : decode cX3_fits 13 = .ok (.if_icmp .le 27, 3) := by decide +kernel
theorem dX3_fits_16 : decode cX3_fits 16 = .ok (.iload_n 1, 1) := by decide +kernel
theorem dX3_fits_17 : decode cX3_fits 17 = .ok (.iload_n 3, 1) := by decide +kernel
theorem dX3_fits_18 : decode cX3_fits 18 = .ok (.iconst 1, 1) := by decide +kernel
theorem dX3_fits_19 : decode cX3_fits 19 = .ok (.isub, 1) := by decide +kernel
theorem dX3_fits_20 : decode cX3_fits 20 = .ok (.if_icmp .ge 20, 3) := by decide +kernel
theorem dX3_fits_23 : decode cX3_fits 23 = .ok (.aload_n 0, 1) := by decide +kernel
theorem dX3_fits_24 : decode cX3_fits 24 = .ok (.getfield 9, 3) := by decide +kernel
theorem dX3_fits_27 : decode cX3_fits 27 = .ok (.iload_n 1, 1) := by decide +kernel
theorem dX3_fits_28 : decode cX3_fits 28 = .ok (.iconst 1, 1) := by decide +kernel
theorem dX3_fits_29 : decode cX3_fits 29 = .ok (.isub, 1) := by decide +kernel
theorem dX3_fits_30 : decode cX3_fits 30 = .ok (.caload, 1) := by decide +kernel
theorem dX3_fits_31 : decode cX3_fits 31 = .ok (.bipush 32, 2) := by decide +kernel
theorem dX3_fits_33 : decode cX3_fits 33 = .ok (.if_icmp .eq 7, 3) := by decide +kernel
theorem dX3_fits_36 : decode cX3_fits 36 = .ok (.iconst 1, 1) := by decide +kernel
theorem dX3_fits_37 : decode cX3_fits 37 = .ok (.goto 4, 3) := by decide +kernel
theorem dX3_fits_40 : decode cX3_fits 40 = .ok (.iconst 0, 1) := by decide +kernel
theorem dX3_fits_41 : decode cX3_fits 41 = .ok (.ireturn, 1) := by decide +kernel
theorem dX3_fits_42 : decode cX3_fits 42 = .ok (.aload_n 0, 1) := by decide +kernel
theorem dX3_fits_43 : decode cX3_fits 43 = .ok (.getfield 9, 3) := by decide +kernel
theorem dX3_fits_46 : decode cX3_fits 46 = .ok (.iload_n 1, 1) := by decide +kernel
theorem dX3_fits_47 : decode cX3_fits 47 = .ok (.caload, 1) := by decide +kernel
theorem dX3_fits_48 : decode cX3_fits 48 = .ok (.bipush 65, 2) := by decide +kernel
theorem dX3_fits_50 : decode cX3_fits 50 = .ok (.if_icmp .lt 18, 3) := by decide +kernel
theorem dX3_fits_53 : decode cX3_fits 53 = .ok (.aload_n 0, 1) := by decide +kernel
theorem dX3_fits_54 : decode cX3_fits 54 = .ok (.getfield 9, 3) := by decide +kernel
theorem dX3_fits_57 : decode cX3_fits 57 = .ok (.iload_n 1, 1) := by decide +kernel
theorem dX3_fits_58 : decode cX3_fits 58 = .ok (.caload, 1) := by decide +kernel
theorem dX3_fits_59 : decode cX3_fits 59 = .ok (.bipush 90, 2) := by decide +kernel
theorem dX3_fits_61 : decode cX3_fits 61 = .ok (.if_icmp .gt 7, 3) := by decide +kernel
theorem dX3_fits_64 : decode cX3_fits 64 = .ok (.iconst 1, 1) := by decide +kernel
theorem dX3_fits_65 : decode cX3_fits 65 = .ok (.goto 4, 3) := by decide +kernel
theorem dX3_fits_68 : decode cX3_fits 68 = .ok (.iconst 0, 1) := by decide +kernel
theorem dX3_fits_69 : decode cX3_fits 69 = .ok (.ireturn, 1) := by decide +kernel
set_option maxRecDepth 20000 in
theorem ggX3_width_X4_letterWidth : GoodIn wsX3_width wsX4_letterWidth := goodIn_r _ [4] (by decide +kernel) (by decide +kernel)
set_option maxRecDepth 20000 in
theorem gX3_width_X4_letterWidth_n23 : GoodIn wsX3_width (wsX4_letterWidth) := ggX3_width_X4_letterWidth
theorem dX3_width_0 : decode cX3_width 0 = .ok (.iconst 0, 1) := by decide +kernel
theorem dX3_width_1 : decode cX3_width 1 = .ok (.istore_n 3, 1) := by decide +kernel
theorem dX3_width_2 : decode cX3_width 2 = .ok (.iload_n 1, 1) := by decide +kernel
theorem dX3_width_3 : decode cX3_width 3 = .ok (.istore 4, 2) := by decide +kernel
theorem dX3_width_5 : decode cX3_width 5 = .ok (.iload 4, 2) := by decide +kernel
theorem dX3_width_7 : decode cX3_width 7 = .ok (.iload_n 2, 1) := by decide +kernel
theorem dX3_width_8 : decode cX3_width 8 = .ok (.if_icmp .ge 22, 3) := by decide +kernel
theorem dX3_width_11 : decode cX3_width 11 = .ok (.iload_n 3, 1) := by decide +kernel
theorem dX3_width_12 : decode cX3_width 12 = .ok (.aload_n 0, 1) := by decide +kernel
theorem dX3_width_13 : decode cX3_width 13 = .ok (.getfield 9, 3) := by decide +kernel
theorem dX3_width_16 : decode cX3_width 16 = .ok (.iload 4, 2) := by decide +kernel
theorem dX3_width_18 : decode cX3_width 18 = .ok (.caload, 1) := by decide +kernel
theorem dX3_width_19 : decode cX3_width 19 = .ok (.invokestatic 23, 3) := by decide +kernel
theorem dX3_width_22 : decode cX3_width 22 = .ok (.iadd, 1) := by decide +kernel
theorem dX3_width_23 : decode cX3_width 23 = .ok (.istore_n 3, 1) := by decide +kernel
theorem dX3_width_24 : decode cX3_width 24 = .ok (.iinc 4 1, 3) := by decide +kernel
theorem dX3_width_27 : decode cX3_width 27 = .ok (.goto (-22), 3) := by decide +kernel
theorem dX3_width_30 : decode cX3_width 30 = .ok (.iload_n 3, 1) := by decide +kernel
theorem dX3_width_31 : decode cX3_width 31 = .ok (.ireturn, 1) := by decide +kernel
theorem dX3_isNameOf_0 : decode cX3_isNameOf 0 = .ok (.aload_n 1, 1) := by decide +kernel
theorem dX3_isNameOf_1 : decode cX3_isNameOf 1 = .ok (.getfield 27, 3) := by decide +kernel
theorem dX3_isNameOf_4 : decode cX3_isNameOf 4 = .ok (.aload_n 0, 1) := by decide +kernel
theorem dX3_isNameOf_5 : decode cX3_isNameOf 5 = .ok (.getfield 15, 3) := by decide +kernel
theorem dX3_isNameOf_8 : decode cX3_isNameOf 8 = .ok (.if_icmp .eq 5, 3) := by decide +kernel
theorem dX3_isNameOf_11 : decode cX3_isNameOf 11 = .ok (.iconst 0, 1) := by decide +kernel
theorem dX3_isNameOf_12 : decode cX3_isNameOf 12 = .ok (.ireturn, 1) := by decide +kernel
theorem dX3_isNameOf_13 : decode cX3_isNameOf 13 = .ok (.iconst 0, 1) := by decide +kernel
theorem dX3_isNameOf_14 : decode cX3_isNameOf 14 = .ok (.istore_n 2, 1) := by decide +kernel
theorem dX3_isNameOf_15 : decode cX3_isNameOf 15 = .ok (.iload_n 2, 1) := by decide +kernel
theorem dX3_isNameOf_16 : decode cX3_isNameOf 16 = .ok (.aload_n 1, 1) := by decide +kernel
theorem dX3_isNameOf_17 : decode cX3_isNameOf 17 = .ok (.getfield 27, 3) := by decide +kernel
theorem dX3_isNameOf_20 : decode cX3_isNameOf 20 = .ok (.if_icmp .ge 26, 3) := by decide +kernel
theorem dX3_isNameOf_23 : decode cX3_isNameOf 23 = .ok (.aload_n 1, 1) := by decide +kernel
theorem dX3_isNameOf_24 : decode cX3_isNameOf 24 = .ok (.getfield 30, 3) := by decide +kernel
theorem dX3_isNameOf_27 : decode cX3_isNameOf 27 = .ok (.iload_n 2, 1) := by decide +kernel
theorem dX3_isNameOf_28 : decode cX3_isNameOf 28 = .ok (.caload, 1) := by decide +kernel
theorem dX3_isNameOf_29 : decode cX3_isNameOf 29 = .ok (.aload_n 0, 1) := by decide +kernel
theorem dX3_isNameOf_30 : decode cX3_isNameOf 30 = .ok (.getfield 9, 3) := by decide +kernel
theorem dX3_isNameOf_33 : decode cX3_isNameOf 33 = .ok (.iload_n 2, 1) := by decide +kernel
theorem dX3_isNameOf_34 : decode cX3_isNameOf 34 = .ok (.caload, 1) := by decide +kernel
theorem dX3_isNameOf_35 : decode cX3_isNameOf 35 = .ok (.if_icmp .eq 5, 3) := by decide +kernel
theorem dX3_isNameOf_38 : decode cX3_isNameOf 38 = .ok (.iconst 0, 1) := by decide +kernel
theorem dX3_isNameOf_39 : decode cX3_isNameOf 39 = .ok (.ireturn, 1) := by decide +kernel
theorem dX3_isNameOf_40 : decode cX3_isNameOf 40 = .ok (.iinc 2 1, 3) := by decide +kernel
theorem dX3_isNameOf_43 : decode cX3_isNameOf 43 = .ok (.goto (-28), 3) := by decide +kernel
theorem dX3_isNameOf_46 : decode cX3_isNameOf 46 = .ok (.iconst 1, 1) := by decide +kernel
theorem dX3_isNameOf_47 : decode cX3_isNameOf 47 = .ok (.ireturn, 1) := by decide +kernel
end
section
set_option maxRecDepth 20000 in
theorem ggX4_init_X3_init : GoodIn wsX4_init wsX3_init := goodIn_r _ [16, 17, 2, 3, 18, 19, 20, 48, 49] (by decide +kernel) (by decide +kernel)
set_option maxRecDepth 20000 in
theorem gX4_init_X3_init : GoodIn wsX4_init (wsX3_init) := ggX4_init_X3_init
set_option maxRecDepth 20000 in
theorem ggX4_init_X0_init : GoodIn wsX4_init wsX0_init := goodIn_r _ [23, 24, 2, 3, 25, 26, 27, 28, 29, 30, 31, 32, 33, 34, 35, 36, 37, 38, 39, 40, 41, 42, 43, 18, 44, 45, 46, 47, 54, 55, 56, 57, 58, 59, 60, 61, 62, 63, 64, 65, 66, 67, 68, 69, 70, 71] (by decide +kernel) (by decide +kernel)
set_option maxRecDepth 20000 in
theorem gX4_init_X0_init : GoodIn wsX4_init (wsX0_init) := ggX4_init_X0_init
theorem dX4_init_0 : decode cX4_init 0 = .ok (.aload_n 0, 1) := by decide +kernel
theorem dX4_init_1 : decode cX4_init 1 = .ok (.invokespecial 1, 3) := by decide +kernel
theorem dX4_init_4 : decode cX4_init 4 = .ok (.aload_n 0, 1) := by decide +kernel
theorem dX4_init_5 : decode cX4_init 5 = .ok (.new 7, 3) := by decide +kernel
theorem dX4_init_8 : decode cX4_init 8 = .ok (.dup, 1) := by decide +kernel
theorem dX4_init_9 : decode cX4_init 9 = .ok (.invokespecial 9, 3) := by decide +kernel
theorem dX4_init_12 : decode cX4_init 12 = .ok (.putfield 10, 3) := by decide +kernel
theorem dX4_init_15 : decode cX4_init 15 = .ok (.aload_n 0, 1) := by decide +kernel
theorem dX4_init_16 : decode cX4_init 16 = .ok (.new 16, 3) := by decide +kernel
theorem dX4_init_19 : decode cX4_init 19 = .ok (.dup, 1) := by decide +kernel
theorem dX4_init_20 : decode cX4_init 20 = .ok (.invokespecial 18, 3) := by decide +kernel
theorem dX4_init_23 : decode cX4_init 23 = .ok (.putfield 19, 3) := by decide +kernel
theorem dX4_init_26 : decode cX4_init 26 = .ok (.aload_n 0, 1) := by decide +kernel
theorem dX4_init_27 : decode cX4_init 27 = .ok (.iconst 4, 1) := by decide +kernel
theorem dX4_init_28 : decode cX4_init 28 = .ok (.anewarray 16, 3) := by decide +kernel
theorem dX4_init_31 : decode cX4_init 31 = .ok (.putfield 23, 3) := by decide +kernel
theorem dX4_init_34 : decode cX4_init 34 = .ok (.iconst 0, 1) := by decide +kernel
theorem dX4_init_35 : decode cX4_init 35 = .ok (.istore_n 1, 1) := by decide +kernel
theorem dX4_init_36 : decode cX4_init 36 = .ok (.iload_n 1, 1) := by decide +kernel
theorem dX4_init_37 : decode cX4_init 37 = .ok (.iconst 4, 1) := by decide +kernel
theorem dX4_init_38 : decode cX4_init 38 = .ok (.if_icmp .ge 22, 3) := by decide +kernel
theorem dX4_init_41 : decode cX4_init 41 = .ok (.aload_n 0, 1) := by decide +kernel
theorem dX4_init_42 : decode cX4_init 42 = .ok (.getfield 23, 3) := by decide +kernel
theorem dX4_init_45 : decode cX4_init 45 = .ok (.iload_n 1, 1) := by decide +kernel
theorem dX4_init_46 : decode cX4_init 46 = .ok (.new 16, 3) := by decide +kernel
theorem dX4_init_49 : decode cX4_init 49 = .ok (.dup, 1) := by decide +kernel
theorem dX4_init_50 : decode cX4_init 50 = .ok (.invokespecial 18, 3) := by decide +kernel
theorem dX4_init_53 : decode cX4_init 53 = .ok (.aastore, 1) := by decide +kernel
theorem dX4_init_54 : decode cX4_init 54 = .ok (.iinc 1 1, 3) := by decide +kernel
theorem dX4_init_57 : decode cX4_init 57 = .ok (.goto (-21), 3) := by decide +kernel
theorem dX4_init_60 : decode cX4_init 60 = .ok (.aload_n 0, 1) := by decide +kernel
theorem dX4_init_61 : decode cX4_init 61 = .ok (.iconst 0, 1) := by decide +kernel
theorem dX4_init_62 : decode cX4_init 62 = .ok (.putfield 27, 3) := by decide +kernel
theorem dX4_init_65 : decode cX4_init 65 = .ok (.return_, 1) := by decide +kernel
set_option maxRecDepth 20000 in
theorem ggX4_add_X4_faultPlace : GoodIn wsX4_add wsX4_faultPlace := goodIn_r _ [9, 2, 3, 10, 11, 12, 13, 14, 15, 16, 17, 18, 19, 8, 20, 4, 21, 22, 23, 24, 25, 26, 27, 28, 29, 30, 31, 32, 33, 34, 35, 36, 37, 38, 39, 40, 41, 42, 43, 44, 45, 97, 98, 99, 100, 101, 102, 103, 104, 105, 106, 107, 108, 109, 110, 111, 112, 113] (by decide +kernel) (by decide +kernel)
set_option maxRecDepth 20000 in
theorem gX4_add_X4_faultPlace : GoodIn wsX4_add (wsV RX4 31 RX4 yX4_faultPlace wsX4_faultPlace) := goodIn_app (goodIn_of _ (by decide +kernel)) ggX4_add_X4_faultPlace
set_option maxRecDepth 20000 in
theorem ggX4_add_X4_remember : GoodIn wsX4_add wsX4_remember := goodIn_r _ [49, 50, 51, 4, 52, 53, 54, 43, 55, 56, 57, 45, 58, 59, 60, 61, 62, 63, 64, 65, 66, 67, 68, 69, 70, 71, 72, 73, 74, 75, 76, 77, 78, 79, 80, 81, 82, 83, 84, 85, 86, 87, 97, 98, 99, 100, 103, 104, 105, 106, 107, 108, 109, 110, 111, 112, 113, 114, 115, 116, 117, 118, 119, 120] (by decide +kernel) (by decide +kernel)
set_option maxRecDepth 20000 in
theorem gX4_add_X4_remember : GoodIn wsX4_add (wsV RX4 36 RX4 yX4_remember wsX4_remember) := goodIn_app (goodIn_of _ (by decide +kernel)) ggX4_add_X4_remember
set_option maxRecDepth 20000 in
theorem ggX4_add_X3_namesAhead : GoodIn wsX4_add wsX3_namesAhead := goodIn_r _ [14, 15, 16, 101, 102] (by decide +kernel) (by decide +kernel)
set_option maxRecDepth 20000 in
theorem gX4_add_X3_namesAhead : GoodIn wsX4_add (wsV RX4 42 RX3 yX3_namesAhead wsX3_namesAhead) := goodIn_app (goodIn_of _ (by decide +kernel)) ggX4_add_X3_namesAhead
set_option maxRecDepth 20000 in
theorem ggX4_add_X3_endOfName : GoodIn wsX4_add wsX3_endOfName := goodIn_r _ [25, 15, 16, 101, 102] (by decide +kernel) (by decide +kernel)
set_option maxRecDepth 20000 in
theorem gX4_add_X3_endOfName : GoodIn wsX4_add (wsV RX4 46 RX3 yX3_endOfName wsX3_endOfName) := goodIn_app (goodIn_of _ (by decide +kernel)) ggX4_add_X3_endOfName
set_option maxRecDepth 20000 in
theorem ggX4_add_X0_append : GoodIn wsX4_add wsX0_append := goodIn_r _ [91, 62, 56, 92, 93, 94, 73, 95, 77, 75, 96, 78, 79, 103, 104, 105, 106, 107, 108, 109, 110, 111, 112, 113, 114, 115, 116, 117, 101, 102] (by decide +kernel) (by decide +kernel)
set_option maxRecDepth 20000 in
theorem gX4_add_X0_append : GoodIn wsX4_add (wsV RX4 49 RX0 yX0_append wsX0_append) := goodIn_app (goodIn_of _ (by decide +kernel)) ggX4_add_X0_append
theorem dX4_add_0 : decode cX4_add 0 = .ok (.aload_n 0, 1) := by decide +kernel
theorem dX4_add_1 : decode cX4_add 1 = .ok (.invokevirtual 31, 3) := by decide +kernel
theorem dX4_add_4 : decode cX4_add 4 = .ok (.iconst (-1), 1) := by decide +kernel
theorem dX4_add_5 : decode cX4_add 5 = .ok (.if_icmp .eq 6, 3) := by decide +kernel
theorem dX4_add_8 : decode cX4_add 8 = .ok (.ldc 35, 2) := by decide +kernel
theorem dX4_add_10 : decode cX4_add 10 = .ok (.ireturn, 1) := by decide +kernel
theorem dX4_add_11 : decode cX4_add 11 = .ok (.aload_n 0, 1) := by decide +kernel
theorem dX4_add_12 : decode cX4_add 12 = .ok (.invokevirtual 36, 3) := by decide +kernel
theorem dX4_add_15 : decode cX4_add 15 = .ok (.aload_n 0, 1) := by decide +kernel
theorem dX4_add_16 : decode cX4_add 16 = .ok (.getfield 10, 3) := by decide +kernel
theorem dX4_add_19 : decode cX4_add 19 = .ok (.aload_n 0, 1) := by decide +kernel
theorem dX4_add_20 : decode cX4_add 20 = .ok (.getfield 10, 3) := by decide +kernel
theorem dX4_add_23 : decode cX4_add 23 = .ok (.getfield 39, 3) := by decide +kernel
theorem dX4_add_26 : decode cX4_add 26 = .ok (.invokevirtual 42, 3) := by decide +kernel
theorem dX4_add_29 : decode cX4_add 29 = .ok (.iconst 1, 1) := by decide +kernel
theorem dX4_add_30 : decode cX4_add 30 = .ok (.iadd, 1) := by decide +kernel
theorem dX4_add_31 : decode cX4_add 31 = .ok (.istore_n 1, 1) := by decide +kernel
theorem dX4_add_32 : decode cX4_add 32 = .ok (.iconst 0, 1) := by decide +kernel
theorem dX4_add_33 : decode cX4_add 33 = .ok (.istore_n 2, 1) := by decide +kernel
theorem dX4_add_34 : decode cX4_add 34 = .ok (.iconst 0, 1) := by decide +kernel
theorem dX4_add_35 : decode cX4_add 35 = .ok (.istore_n 3, 1) := by decide +kernel
theorem dX4_add_36 : decode cX4_add 36 = .ok (.iload_n 3, 1) := by decide +kernel
theorem dX4_add_37 : decode cX4_add 37 = .ok (.iload_n 1, 1) := by decide +kernel
theorem dX4_add_38 : decode cX4_add 38 = .ok (.if_icmp .ge 38, 3) := by decide +kernel
theorem dX4_add_41 : decode cX4_add 41 = .ok (.aload_n 0, 1) := by decide +kernel
theorem dX4_add_42 : decode cX4_add 42 = .ok (.getfield 10, 3) := by decide +kernel
theorem dX4_add_45 : decode cX4_add 45 = .ok (.iload_n 2, 1) := by decide +kernel
theorem dX4_add_46 : decode cX4_add 46 = .ok (.invokevirtual 46, 3) := by decide +kernel
theorem dX4_add_49 : decode cX4_add 49 = .ok (.istore 4, 2) := by decide +kernel
theorem dX4_add_51 : decode cX4_add 51 = .ok (.aload_n 0, 1) := by decide +kernel
theorem dX4_add_52 : decode cX4_add 52 = .ok (.getfield 19, 3) := by decide +kernel
theorem dX4_add_55 : decode cX4_add 55 = .ok (.aload_n 0, 1) := by decide +kernel
theorem dX4_add_56 : decode cX4_add 56 = .ok (.getfield 10, 3) := by decide +kernel
theorem dX4_add_59 : decode cX4_add 59 = .ok (.iload_n 2, 1) := by decide +kernel
theorem dX4_add_60 : decode cX4_add 60 = .ok (.iload 4, 2) := by decide +kernel
theorem dX4_add_62 : decode cX4_add 62 = .ok (.invokevirtual 49, 3) := by decide +kernel
theorem dX4_add_65 : decode cX4_add 65 = .ok (.iload 4, 2) := by decide +kernel
theorem dX4_add_67 : decode cX4_add 67 = .ok (.iconst 1, 1) := by decide +kernel
theorem dX4_add_68 : decode cX4_add 68 = .ok (.iadd, 1) := by decide +kernel
theorem dX4_add_69 : decode cX4_add 69 = .ok (.istore_n 2, 1) := by decide +kernel
theorem dX4_add_70 : decode cX4_add 70 = .ok (.iinc 3 1, 3) := by decide +kernel
theorem dX4_add_73 : decode cX4_add 73 = .ok (.goto (-37), 3) := by decide +kernel
theorem dX4_add_76 : decode cX4_add 76 = .ok (.iload_n 1, 1) := by decide +kernel
theorem dX4_add_77 : decode cX4_add 77 = .ok (.ireturn, 1) := by decide +kernel
set_option maxRecDepth 20000 in
theorem ggX4_cut_X0_hasRow : GoodIn wsX4_cut wsX0_hasRow := goodIn_r _ [9, 10, 66, 67, 68, 69, 70, 71, 72, 73, 74, 75, 76] (by decide +kernel) (by decide +kernel)
set_option maxRecDepth 20000 in
theorem gX4_cut_X0_hasRow : GoodIn wsX4_cut (wsV RX4 53 RX0 yX0_hasRow wsX0_hasRow) := goodIn_app (goodIn_of _ (by decide +kernel)) ggX4_cut_X0_hasRow
set_option maxRecDepth 20000 in
theorem ggX4_cut_X4_remember : GoodIn wsX4_cut wsX4_remember := goodIn_r _ [15, 16, 17, 1, 18, 19, 20, 8, 21, 22, 23, 24, 25, 26, 27, 28, 10, 29, 30, 31, 32, 33, 34, 35, 36, 37, 38, 39, 40, 41, 42, 43, 44, 45, 46, 47, 48, 49, 50, 51, 52, 53, 62, 63, 64, 65, 66, 67, 68, 69, 70, 71, 72, 73, 74, 75, 76, 77, 78, 79, 80, 81, 82, 83] (by decide +kernel) (by decide +kernel)
set_option maxRecDepth 20000 in
theorem gX4_cut_X4_remember : GoodIn wsX4_cut (wsV RX4 36 RX4 yX4_remember wsX4_remember) := goodIn_app (goodIn_of _ (by decide +kernel)) ggX4_cut_X4_remember
set_option maxRecDepth 20000 in
theorem ggX4_cut_X0_remove : GoodIn wsX4_cut wsX0_remove := goodIn_r _ [57, 22, 10, 30, 23, 29, 58, 59, 60, 49, 61, 51, 66, 67, 68, 69, 70, 71, 72, 73, 74, 75, 76, 81, 82, 83] (by decide +kernel) (by decide +kernel)
set_option maxRecDepth 20000 in
theorem gX4_cut_X0_remove : GoodIn wsX4_cut (wsV RX4 58 RX0 yX0_remove wsX0_remove) := goodIn_app (goodIn_of _ (by decide +kernel)) ggX4_cut_X0_remove
theorem dX4_cut_0 : decode cX4_cut 0 = .ok (.aload_n 0, 1) := by decide +kernel
theorem dX4_cut_1 : decode cX4_cut 1 = .ok (.getfield 19, 3) := by decide +kernel
theorem dX4_cut_4 : decode cX4_cut 4 = .ok (.iload_n 1, 1) := by decide +kernel
theorem dX4_cut_5 : decode cX4_cut 5 = .ok (.invokevirtual 53, 3) := by decide +kernel
theorem dX4_cut_8 : decode cX4_cut 8 = .ok (.ifCond .ne 6, 3) := by decide +kernel
theorem dX4_cut_11 : decode cX4_cut 11 = .ok (.ldc 57, 2) := by decide +kernel
theorem dX4_cut_13 : decode cX4_cut 13 = .ok (.ireturn, 1) := by decide +kernel
theorem dX4_cut_14 : decode cX4_cut 14 = .ok (.aload_n 0, 1) := by decide +kernel
theorem dX4_cut_15 : decode cX4_cut 15 = .ok (.invokevirtual 36, 3) := by decide +kernel
theorem dX4_cut_18 : decode cX4_cut 18 = .ok (.aload_n 0, 1) := by decide +kernel
theorem dX4_cut_19 : decode cX4_cut 19 = .ok (.getfield 19, 3) := by decide +kernel
theorem dX4_cut_22 : decode cX4_cut 22 = .ok (.iload_n 1, 1) := by decide +kernel
theorem dX4_cut_23 : decode cX4_cut 23 = .ok (.invokevirtual 58, 3) := by decide +kernel
theorem dX4_cut_26 : decode cX4_cut 26 = .ok (.aload_n 0, 1) := by decide +kernel
theorem dX4_cut_27 : decode cX4_cut 27 = .ok (.getfield 19, 3) := by decide +kernel
theorem dX4_cut_30 : decode cX4_cut 30 = .ok (.getfield 62, 3) := by decide +kernel
theorem dX4_cut_33 : decode cX4_cut 33 = .ok (.ifCond .ne 7, 3) := by decide +kernel
theorem dX4_cut_36 : decode cX4_cut 36 = .ok (.iconst (-1), 1) := by decide +kernel
theorem dX4_cut_37 : decode cX4_cut 37 = .ok (.goto 10, 3) := by decide +kernel
theorem dX4_cut_40 : decode cX4_cut 40 = .ok (.aload_n 0, 1) := by decide +kernel
theorem dX4_cut_41 : decode cX4_cut 41 = .ok (.getfield 19, 3) := by decide +kernel
theorem dX4_cut_44 : decode cX4_cut 44 = .ok (.getfield 65, 3) := by decide +kernel
theorem dX4_cut_47 : decode cX4_cut 47 = .ok (.ireturn, 1) := by decide +kernel
set_option maxRecDepth 20000 in
theorem ggX4_swap_X0_hasRow : GoodIn wsX4_swap wsX0_hasRow := goodIn_r _ [8, 9, 69, 70, 71, 72, 73, 74, 75, 76, 77, 78, 79] (by decide +kernel) (by decide +kernel)
set_option maxRecDepth 20000 in
theorem gX4_swap_X0_hasRow : GoodIn wsX4_swap (wsV RX4 53 RX0 yX0_hasRow wsX0_hasRow) := goodIn_app (goodIn_of _ (by decide +kernel)) ggX4_swap_X0_hasRow
set_option maxRecDepth 20000 in
theorem ggX4_swap_X4_remember : GoodIn wsX4_swap wsX4_remember := goodIn_r _ [14, 15, 16, 1, 17, 18, 19, 7, 20, 21, 22, 23, 24, 25, 26, 27, 9, 28, 29, 30, 31, 32, 33, 34, 35, 36, 37, 38, 39, 40, 41, 42, 43, 44, 45, 46, 47, 48, 49, 50, 51, 52, 65, 66, 67, 68, 69, 70, 71, 72, 73, 74, 75, 76, 77, 78, 79, 80, 81, 82, 83, 84, 85, 86] (by decide +kernel) (by decide +kernel)
set_option maxRecDepth 20000 in
theorem gX4_swap_X4_remember : GoodIn wsX4_swap (wsV RX4 36 RX4 yX4_remember wsX4_remember) := goodIn_app (goodIn_of _ (by decide +kernel)) ggX4_swap_X4_remember
set_option maxRecDepth 20000 in
theorem ggX4_swap_X0_exchange : GoodIn wsX4_swap wsX0_exchange := goodIn_r _ [56, 21, 29, 22, 57, 58, 59, 48, 60, 50, 61, 62, 63, 64, 69, 70, 71, 72, 73, 74, 75, 76, 77, 78, 79, 84, 85, 86] (by decide +kernel) (by decide +kernel)
set_option maxRecDepth 20000 in
theorem gX4_swap_X0_exchange : GoodIn wsX4_swap (wsV RX4 68 RX0 yX0_exchange wsX0_exchange) := goodIn_app (goodIn_of _ (by decide +kernel)) ggX4_swap_X0_exchange
theorem dX4_swap_0 : decode cX4_swap 0 = .ok (.aload_n 0, 1) := by decide +kernel
theorem dX4_swap_1 : decode cX4_swap 1 = .ok (.getfield 19, 3) := by decide +kernel
theorem dX4_swap_4 : decode cX4_swap 4 = .ok (.iload_n 1, 1) := by decide +kernel
theorem dX4_swap_5 : decode cX4_swap 5 = .ok (.invokevirtual 53, 3) := by decide +kernel
theorem dX4_swap_8 : decode cX4_swap 8 = .ok (.ifCond .eq 19, 3) := by decide +kernel
theorem dX4_swap_11 : decode cX4_swap 11 = .ok (.aload_n 0, 1) := by decide +kernel
theorem dX4_swap_12 : decode cX4_swap 12 = .ok (.getfield 19, 3) := by decide +kernel
theorem dX4_swap_15 : decode cX4_swap 15 = .ok (.iload_n 2, 1) := by decide +kernel
theorem dX4_swap_16 : decode cX4_swap 16 = .ok (.invokevirtual 53, 3) := by decide +kernel
theorem dX4_swap_19 : decode cX4_swap 19 = .ok (.ifCond .eq 8, 3) := by decide +kernel
theorem dX4_swap_22 : decode cX4_swap 22 = .ok (.iload_n 1, 1) := by decide +kernel
theorem dX4_swap_23 : decode cX4_swap 23 = .ok (.iload_n 2, 1) := by decide +kernel
theorem dX4_swap_24 : decode cX4_swap 24 = .ok (.if_icmp .ne 6, 3) := by decide +kernel
theorem dX4_swap_27 : decode cX4_swap 27 = .ok (.ldc 57, 2) := by decide +kernel
theorem dX4_swap_29 : decode cX4_swap 29 = .ok (.ireturn, 1) := by decide +kernel
theorem dX4_swap_30 : decode cX4_swap 30 = .ok (.aload_n 0, 1) := by decide +kernel
theorem dX4_swap_31 : decode cX4_swap 31 = .ok (.invokevirtual 36, 3) := by decide +kernel
theorem dX4_swap_34 : decode cX4_swap 34 = .ok (.aload_n 0, 1) := by decide +kernel
theorem dX4_swap_35 : decode cX4_swap 35 = .ok (.getfield 19, 3) := by decide +kernel
theorem dX4_swap_38 : decode cX4_swap 38 = .ok (.iload_n 1, 1) := by decide +kernel
theorem dX4_swap_39 : decode cX4_swap 39 = .ok (.iload_n 2, 1) := by decide +kernel
theorem dX4_swap_40 : decode cX4_swap 40 = .ok (.invokevirtual 68, 3) := by decide +kernel
theorem dX4_swap_43 : decode cX4_swap 43 = .ok (.aload_n 0, 1) := by decide +kernel
theorem dX4_swap_44 : decode cX4_swap 44 = .ok (.getfield 19, 3) := by decide +kernel
theorem dX4_swap_47 : decode cX4_swap 47 = .ok (.getfield 65, 3) := by decide +kernel
theorem dX4_swap_50 : decode cX4_swap 50 = .ok (.ireturn, 1) := by decide +kernel
set_option maxRecDepth 20000 in
theorem ggX4_mend_X0_hasRow : GoodIn wsX4_mend wsX0_hasRow := goodIn_r _ [11, 12, 64, 65, 66, 67, 68, 69, 70, 71, 72, 73, 74] (by decide +kernel) (by decide +kernel)
set_option maxRecDepth 20000 in
theorem gX4_mend_X0_hasRow : GoodIn wsX4_mend (wsV RX4 53 RX0 yX0_hasRow wsX0_hasRow) := goodIn_app (goodIn_of _ (by decide +kernel)) ggX4_mend_X0_hasRow
set_option maxRecDepth 20000 in
theorem ggX4_mend_X4_remember : GoodIn wsX4_mend wsX4_remember := goodIn_r _ [17, 18, 19, 1, 20, 21, 22, 10, 23, 24, 25, 26, 27, 28, 29, 30, 12, 31, 32, 33, 34, 35, 36, 37, 38, 39, 40, 41, 42, 43, 44, 45, 46, 47, 48, 49, 50, 51, 52, 53, 54, 55, 60, 61, 62, 63, 64, 65, 66, 67, 68, 69, 70, 71, 72, 73, 74, 75, 76, 77, 78, 79, 80, 81] (by decide +kernel) (by decide +kernel)
set_option maxRecDepth 20000 in
theorem gX4_mend_X4_remember : GoodIn wsX4_mend (wsV RX4 36 RX4 yX4_remember wsX4_remember) := goodIn_app (goodIn_of _ (by decide +kernel)) ggX4_mend_X4_remember
set_option maxRecDepth 20000 in
theorem ggX4_mend_X2_patch : GoodIn wsX4_mend wsX2_patch := goodIn_r _ [59, 46, 47, 75, 76, 77, 78] (by decide +kernel) (by decide +kernel)
set_option maxRecDepth 20000 in
theorem gX4_mend_X2_patch : GoodIn wsX4_mend (wsV RX4 82 RX2 yX2_patch wsX2_patch) := goodIn_app (goodIn_of _ (by decide +kernel)) ggX4_mend_X2_patch
theorem dX4_mend_0 : decode cX4_mend 0 = .ok (.aload_n 0, 1) := by decide +kernel
theorem dX4_mend_1 : decode cX4_mend 1 = .ok (.getfield 19, 3) := by decide +kernel
theorem dX4_mend_4 : decode cX4_mend 4 = .ok (.iload_n 1, 1) := by decide +kernel
theorem dX4_mend_5 : decode cX4_mend 5 = .ok (.invokevirtual 53, 3) := by decide +kernel
theorem dX4_mend_8 : decode cX4_mend 8 = .ok (.ifCond .ne 6, 3) := by decide +kernel
theorem dX4_mend_11 : decode cX4_mend 11 = .ok (.ldc 57, 2) := by decide +kernel
theorem dX4_mend_13 : decode cX4_mend 13 = .ok (.ireturn, 1) := by decide +kernel
theorem dX4_mend_14 : decode cX4_mend 14 = .ok (.aload_n 0, 1) := by decide +kernel
theorem dX4_mend_15 : decode cX4_mend 15 = .ok (.getfield 19, 3) := by decide +kernel
theorem dX4_mend_18 : decode cX4_mend 18 = .ok (.getfield 72, 3) := by decide +kernel
theorem dX4_mend_21 : decode cX4_mend 21 = .ok (.iload_n 1, 1) := by decide +kernel
theorem dX4_mend_22 : decode cX4_mend 22 = .ok (.aaload, 1) := by decide +kernel
theorem dX4_mend_23 : decode cX4_mend 23 = .ok (.getfield 76, 3) := by decide +kernel
theorem dX4_mend_26 : decode cX4_mend 26 = .ok (.ifCond .ne 6, 3) := by decide +kernel
theorem dX4_mend_29 : decode cX4_mend 29 = .ok (.ldc 35, 2) := by decide +kernel
theorem dX4_mend_31 : decode cX4_mend 31 = .ok (.ireturn, 1) := by decide +kernel
theorem dX4_mend_32 : decode cX4_mend 32 = .ok (.aload_n 0, 1) := by decide +kernel
theorem dX4_mend_33 : decode cX4_mend 33 = .ok (.invokevirtual 36, 3) := by decide +kernel
theorem dX4_mend_36 : decode cX4_mend 36 = .ok (.aload_n 0, 1) := by decide +kernel
theorem dX4_mend_37 : decode cX4_mend 37 = .ok (.getfield 19, 3) := by decide +kernel
theorem dX4_mend_40 : decode cX4_mend 40 = .ok (.getfield 72, 3) := by decide +kernel
theorem dX4_mend_43 : decode cX4_mend 43 = .ok (.iload_n 1, 1) := by decide +kernel
theorem dX4_mend_44 : decode cX4_mend 44 = .ok (.aaload, 1) := by decide +kernel
theorem dX4_mend_45 : decode cX4_mend 45 = .ok (.invokevirtual 82, 3) := by decide +kernel
theorem dX4_mend_48 : decode cX4_mend 48 = .ok (.aload_n 0, 1) := by decide +kernel
theorem dX4_mend_49 : decode cX4_mend 49 = .ok (.getfield 19, 3) := by decide +kernel
theorem dX4_mend_52 : decode cX4_mend 52 = .ok (.getfield 72, 3) := by decide +kernel
theorem dX4_mend_55 : decode cX4_mend 55 = .ok (.iload_n 1, 1) := by decide +kernel
theorem dX4_mend_56 : decode cX4_mend 56 = .ok (.aaload, 1) := by decide +kernel
theorem dX4_mend_57 : decode cX4_mend 57 = .ok (.getfield 85, 3) := by decide +kernel
theorem dX4_mend_60 : decode cX4_mend 60 = .ok (.ireturn, 1) := by decide +kernel
set_option maxRecDepth 20000 in
theorem ggX4_crank_X4_isCranking : GoodIn wsX4_crank wsX4_isCranking := goodIn_r _ [9] (by decide +kernel) (by decide +kernel)
set_option maxRecDepth 20000 in
theorem gX4_crank_X4_isCranking : GoodIn wsX4_crank (va_wsS RX4 88 yX4_isCranking wsX4_isCranking) := goodIn_app (goodIn_of _ (by decide +kernel)) ggX4_crank_X4_isCranking
set_option maxRecDepth 20000 in
theorem ggX4_crank_X4_remember : GoodIn wsX4_crank wsX4_remember := goodIn_r _ [13, 14, 15, 2, 16, 17, 18, 19, 20, 21, 22, 23, 24, 25, 26, 27, 28, 29, 30, 31, 32, 33, 34, 35, 36, 37, 38, 39, 40, 41, 42, 43, 44, 45, 46, 47, 48, 49, 50, 51, 52, 53, 88, 89, 90, 91, 92, 93, 94, 95, 96, 97, 98, 99, 100, 101, 102, 103, 104, 105, 106, 107, 108, 109] (by decide +kernel) (by decide +kernel)
set_option maxRecDepth 20000 in
theorem gX4_crank_X4_remember : GoodIn wsX4_crank (wsV RX4 36 RX4 yX4_remember wsX4_remember) := goodIn_app (goodIn_of _ (by decide +kernel)) ggX4_crank_X4_remember
set_option maxRecDepth 20000 in
theorem ggX4_crank_X0_roll : GoodIn wsX4_crank wsX0_roll := goodIn_r _ [57, 21, 33, 29, 58, 59, 60, 19, 61, 62, 63, 64, 65, 66, 67, 68, 69, 70, 71, 72, 73, 74, 28, 75, 76, 77, 78, 32, 79, 80, 81, 82, 83, 23, 84, 85, 86, 87, 92, 93, 94, 95, 96, 97, 98, 99, 100, 101, 102, 103, 104, 105, 106] (by decide +kernel) (by decide +kernel)
set_option maxRecDepth 20000 in
theorem gX4_crank_X0_roll : GoodIn wsX4_crank (wsV RX4 92 RX0 yX0_roll wsX0_roll) := goodIn_app (goodIn_of _ (by decide +kernel)) ggX4_crank_X0_roll
theorem dX4_crank_0 : decode cX4_crank 0 = .ok (.iload_n 1, 1) := by decide +kernel
theorem dX4_crank_1 : decode cX4_crank 1 = .ok (.iload_n 2, 1) := by decide +kernel
theorem dX4_crank_2 : decode cX4_crank 2 = .ok (.invokestatic 88, 3) := by decide +kernel
theorem dX4_crank_5 : decode cX4_crank 5 = .ok (.ifCond .ne 6, 3) := by decide +kernel
theorem dX4_crank_8 : decode cX4_crank 8 = .ok (.ldc 57, 2) := by decide +kernel
theorem dX4_crank_10 : decode cX4_crank 10 = .ok (.ireturn, 1) := by decide +kernel
theorem dX4_crank_11 : decode cX4_crank 11 = .ok (.aload_n 0, 1) := by decide +kernel
theorem dX4_crank_12 : decode cX4_crank 12 = .ok (.getfield 19, 3) := by decide +kernel
theorem dX4_crank_15 : decode cX4_crank 15 = .ok (.getfield 62, 3) := by decide +kernel
theorem dX4_crank_18 : decode cX4_crank 18 = .ok (.ifCond .ne 6, 3) := by decide +kernel
theorem dX4_crank_21 : decode cX4_crank 21 = .ok (.ldc 35, 2) := by decide +kernel
theorem dX4_crank_23 : decode cX4_crank 23 = .ok (.ireturn, 1) := by decide +kernel
theorem dX4_crank_24 : decode cX4_crank 24 = .ok (.aload_n 0, 1) := by decide +kernel
theorem dX4_crank_25 : decode cX4_crank 25 = .ok (.invokevirtual 36, 3) := by decide +kernel
theorem dX4_crank_28 : decode cX4_crank 28 = .ok (.aload_n 0, 1) := by decide +kernel
theorem dX4_crank_29 : decode cX4_crank 29 = .ok (.getfield 19, 3) := by decide +kernel
theorem dX4_crank_32 : decode cX4_crank 32 = .ok (.iload_n 1, 1) := by decide +kernel
theorem dX4_crank_33 : decode cX4_crank 33 = .ok (.iload_n 2, 1) := by decide +kernel
theorem dX4_crank_34 : decode cX4_crank 34 = .ok (.invokevirtual 92, 3) := by decide +kernel
theorem dX4_crank_37 : decode cX4_crank 37 = .ok (.aload_n 0, 1) := by decide +kernel
theorem dX4_crank_38 : decode cX4_crank 38 = .ok (.getfield 19, 3) := by decide +kernel
theorem dX4_crank_41 : decode cX4_crank 41 = .ok (.getfield 65, 3) := by decide +kernel
theorem dX4_crank_44 : decode cX4_crank 44 = .ok (.ireturn, 1) := by decide +kernel
set_option maxRecDepth 20000 in
theorem ggX4_route_X4_remember : GoodIn wsX4_route wsX4_remember := goodIn_r _ [10, 11, 12, 1, 13, 14, 15, 16, 17, 18, 19, 20, 21, 22, 23, 24, 25, 26, 27, 28, 29, 30, 31, 32, 33, 34, 35, 36, 37, 38, 39, 40, 41, 42, 43, 44, 45, 46, 47, 48, 49, 50, 59, 60, 61, 62, 63, 64, 65, 66, 67, 68, 69, 70, 71, 72, 73, 74, 75, 76, 77, 78, 79, 80] (by decide +kernel) (by decide +kernel)
set_option maxRecDepth 20000 in
theorem gX4_route_X4_remember : GoodIn wsX4_route (wsV RX4 36 RX4 yX4_remember wsX4_remember) := goodIn_app (goodIn_of _ (by decide +kernel)) ggX4_route_X4_remember
set_option maxRecDepth 20000 in
theorem ggX4_route_X0_appendRoute : GoodIn wsX4_route wsX0_appendRoute := goodIn_r _ [54, 27, 55, 19, 56, 57, 58, 63, 64, 65, 66, 67, 68, 69, 70, 71, 72, 73, 78, 79, 80] (by decide +kernel) (by decide +kernel)
set_option maxRecDepth 20000 in
theorem gX4_route_X0_appendRoute : GoodIn wsX4_route (wsV RX4 99 RX0 yX0_appendRoute wsX0_appendRoute) := goodIn_app (goodIn_of _ (by decide +kernel)) ggX4_route_X0_appendRoute
theorem dX4_route_0 : decode cX4_route 0 = .ok (.iload_n 1, 1) := by decide +kernel
theorem dX4_route_1 : decode cX4_route 1 = .ok (.ifCond .le 15, 3) := by decide +kernel
theorem dX4_route_4 : decode cX4_route 4 = .ok (.iload_n 1, 1) := by decide +kernel
theorem dX4_route_5 : decode cX4_route 5 = .ok (.aload_n 0, 1) := by decide +kernel
theorem dX4_route_6 : decode cX4_route 6 = .ok (.getfield 19, 3) := by decide +kernel
theorem dX4_route_9 : decode cX4_route 9 = .ok (.getfield 62, 3) := by decide +kernel
theorem dX4_route_12 : decode cX4_route 12 = .ok (.ishr, 1) := by decide +kernel
theorem dX4_route_13 : decode cX4_route 13 = .ok (.ifCond .eq 6, 3) := by decide +kernel
theorem dX4_route_16 : decode cX4_route 16 = .ok (.ldc 57, 2) := by decide +kernel
theorem dX4_route_18 : decode cX4_route 18 = .ok (.ireturn, 1) := by decide +kernel
theorem dX4_route_19 : decode cX4_route 19 = .ok (.aload_n 0, 1) := by decide +kernel
theorem dX4_route_20 : decode cX4_route 20 = .ok (.getfield 19, 3) := by decide +kernel
theorem dX4_route_23 : decode cX4_route 23 = .ok (.getfield 95, 3) := by decide +kernel
theorem dX4_route_26 : decode cX4_route 26 = .ok (.bipush 6, 2) := by decide +kernel
theorem dX4_route_28 : decode cX4_route 28 = .ok (.if_icmp .lt 6, 3) := by decide +kernel
theorem dX4_route_31 : decode cX4_route 31 = .ok (.ldc 98, 2) := by decide +kernel
theorem dX4_route_33 : decode cX4_route 33 = .ok (.ireturn, 1) := by decide +kernel
theorem dX4_route_34 : decode cX4_route 34 = .ok (.aload_n 0, 1) := by decide +kernel
theorem dX4_route_35 : decode cX4_route 35 = .ok (.invokevirtual 36, 3) := by decide +kernel
theorem dX4_route_38 : decode cX4_route 38 = .ok (.aload_n 0, 1) := by decide +kernel
theorem dX4_route_39 : decode cX4_route 39 = .ok (.getfield 19, 3) := by decide +kernel
theorem dX4_route_42 : decode cX4_route 42 = .ok (.iload_n 1, 1) := by decide +kernel
theorem dX4_route_43 : decode cX4_route 43 = .ok (.invokevirtual 99, 3) := by decide +kernel
theorem dX4_route_46 : decode cX4_route 46 = .ok (.ireturn, 1) := by decide +kernel
set_option maxRecDepth 20000 in
theorem ggX4_drive_X0_hasRoute : GoodIn wsX4_drive wsX0_hasRoute := goodIn_r _ [8, 9, 57, 58, 59, 60, 61, 62, 63, 64, 65, 66, 67] (by decide +kernel) (by decide +kernel)
set_option maxRecDepth 20000 in
theorem gX4_drive_X0_hasRoute : GoodIn wsX4_drive (wsV RX4 102 RX0 yX0_hasRoute wsX0_hasRoute) := goodIn_app (goodIn_of _ (by decide +kernel)) ggX4_drive_X0_hasRoute
set_option maxRecDepth 20000 in
theorem ggX4_drive_X4_remember : GoodIn wsX4_drive wsX4_remember := goodIn_r _ [14, 15, 16, 1, 17, 18, 19, 7, 20, 21, 22, 23, 24, 25, 26, 27, 28, 29, 9, 30, 31, 32, 33, 34, 35, 36, 37, 38, 39, 40, 41, 42, 43, 44, 45, 46, 47, 48, 49, 50, 51, 52, 53, 54, 55, 56, 57, 58, 59, 60, 61, 62, 63, 64, 65, 66, 67, 68, 69, 70, 71, 72, 73, 74] (by decide +kernel) (by decide +kernel)
set_option maxRecDepth 20000 in
theorem gX4_drive_X4_remember : GoodIn wsX4_drive (wsV RX4 36 RX4 yX4_remember wsX4_remember) := goodIn_app (goodIn_of _ (by decide +kernel)) ggX4_drive_X4_remember
theorem dX4_drive_0 : decode cX4_drive 0 = .ok (.iload_n 1, 1) := by decide +kernel
theorem dX4_drive_1 : decode cX4_drive 1 = .ok (.iconst (-1), 1) := by decide +kernel
theorem dX4_drive_2 : decode cX4_drive 2 = .ok (.if_icmp .eq 17, 3) := by decide +kernel
theorem dX4_drive_5 : decode cX4_drive 5 = .ok (.aload_n 0, 1) := by decide +kernel
theorem dX4_drive_6 : decode cX4_drive 6 = .ok (.getfield 19, 3) := by decide +kernel
theorem dX4_drive_9 : decode cX4_drive 9 = .ok (.iload_n 1, 1) := by decide +kernel
theorem dX4_drive_10 : decode cX4_drive 10 = .ok (.invokevirtual 102, 3) := by decide +kernel
theorem dX4_drive_13 : decode cX4_drive 13 = .ok (.ifCond .ne 6, 3) := by decide +kernel
theorem dX4_drive_16 : decode cX4_drive 16 = .ok (.ldc 57, 2) := by decide +kernel
theorem dX4_drive_18 : decode cX4_drive 18 = .ok (.ireturn, 1) := by decide +kernel
theorem dX4_drive_19 : decode cX4_drive 19 = .ok (.aload_n 0, 1) := by decide +kernel
theorem dX4_drive_20 : decode cX4_drive 20 = .ok (.invokevirtual 36, 3) := by decide +kernel
theorem dX4_drive_23 : decode cX4_drive 23 = .ok (.aload_n 0, 1) := by decide +kernel
theorem dX4_drive_24 : decode cX4_drive 24 = .ok (.getfield 19, 3) := by decide +kernel
theorem dX4_drive_27 : decode cX4_drive 27 = .ok (.getfield 105, 3) := by decide +kernel
theorem dX4_drive_30 : decode cX4_drive 30 = .ok (.istore_n 2, 1) := by decide +kernel
theorem dX4_drive_31 : decode cX4_drive 31 = .ok (.aload_n 0, 1) := by decide +kernel
theorem dX4_drive_32 : decode cX4_drive 32 = .ok (.getfield 19, 3) := by decide +kernel
theorem dX4_drive_35 : decode cX4_drive 35 = .ok (.iload_n 1, 1) := by decide +kernel
theorem dX4_drive_36 : decode cX4_drive 36 = .ok (.putfield 105, 3) := by decide +kernel
theorem dX4_drive_39 : decode cX4_drive 39 = .ok (.iload_n 2, 1) := by decide +kernel
theorem dX4_drive_40 : decode cX4_drive 40 = .ok (.ireturn, 1) := by decide +kernel
set_option maxRecDepth 20000 in
theorem ggX4_stop_X4_remember : GoodIn wsX4_stop wsX4_remember := goodIn_r _ [6, 7, 8, 1, 9, 10, 11, 12, 13, 14, 15, 16, 17, 18, 19, 20, 21, 22, 23, 24, 25, 26, 27, 28, 29, 30, 31, 32, 33, 34, 35, 36, 37, 38, 39, 40, 41, 42, 43, 44, 45, 46, 137, 138, 139, 140, 141, 142, 143, 144, 145, 146, 147, 148, 149, 150, 151, 152, 153, 154, 155, 156, 157, 158] (by decide +kernel) (by decide +kernel)
set_option maxRecDepth 20000 in
theorem gX4_stop_X4_remember : GoodIn wsX4_stop (wsV RX4 36 RX4 yX4_remember wsX4_remember) := goodIn_app (goodIn_of _ (by decide +kernel)) ggX4_stop_X4_remember
set_option maxRecDepth 20000 in
theorem ggX4_stop_X0_halt : GoodIn wsX4_stop wsX0_halt := goodIn_r _ [50, 22, 27, 28, 24, 15, 51, 52, 53, 54, 55, 12, 56, 14, 57, 58, 59, 60, 61, 21, 62, 63, 64, 32, 65, 36, 66, 67, 68, 69, 34, 70, 71, 72, 73, 74, 75, 76, 77, 78, 79, 80, 81, 82, 83, 84, 85, 86, 87, 88, 89, 90, 91, 92, 93, 94, 95, 96, 97, 98, 99, 100, 101, 102, 103, 104, 105, 106, 107, 108, 109, 110, 111, 112, 113, 114, 115, 116, 117, 118, 119, 120, 121, 122, 23, 123, 124, 125, 42, 126, 44, 127, 128, 129, 130, 131, 5, 132, 133, 134, 135, 136, 16, 141, 142, 143, 144, 145, 146, 147, 148, 149, 150, 151, 156, 157, 158, 152, 153, 154, 155] (by decide +kernel) (by decide +kernel)
set_option maxRecDepth 20000 in
theorem gX4_stop_X0_halt : GoodIn wsX4_stop (wsV RX4 108 RX0 yX0_halt wsX0_halt) := goodIn_app (goodIn_of _ (by decide +kernel)) ggX4_stop_X0_halt
theorem dX4_stop_0 : decode cX4_stop 0 = .ok (.aload_n 0, 1) := by decide +kernel
theorem dX4_stop_1 : decode cX4_stop 1 = .ok (.invokevirtual 36, 3) := by decide +kernel
theorem dX4_stop_4 : decode cX4_stop 4 = .ok (.aload_n 0, 1) := by decide +kernel
theorem dX4_stop_5 : decode cX4_stop 5 = .ok (.getfield 19, 3) := by decide +kernel
theorem dX4_stop_8 : decode cX4_stop 8 = .ok (.invokevirtual 108, 3) := by decide +kernel
theorem dX4_stop_11 : decode cX4_stop 11 = .ok (.ireturn, 1) := by decide +kernel
set_option maxRecDepth 20000 in
theorem ggX4_set_X4_remember : GoodIn wsX4_set wsX4_remember := goodIn_r _ [10, 11, 12, 4, 13, 14, 15, 16, 17, 18, 19, 20, 21, 22, 23, 24, 25, 26, 27, 28, 29, 30, 31, 32, 33, 34, 35, 36, 37, 38, 39, 40, 41, 42, 43, 44, 45, 46, 47, 48, 49, 50, 51, 52, 53, 54, 55, 56, 57, 58, 59, 60, 61, 62, 63, 64, 65, 66, 67, 68, 69, 70, 71, 72] (by decide +kernel) (by decide +kernel)
set_option maxRecDepth 20000 in
theorem gX4_set_X4_remember : GoodIn wsX4_set (wsV RX4 36 RX4 yX4_remember wsX4_remember) := goodIn_app (goodIn_of _ (by decide +kernel)) ggX4_set_X4_remember
theorem dX4_set_0 : decode cX4_set 0 = .ok (.iload_n 1, 1) := by decide +kernel
theorem dX4_set_1 : decode cX4_set 1 = .ok (.ifCond .lt 26, 3) := by decide +kernel
theorem dX4_set_4 : decode cX4_set 4 = .ok (.iload_n 1, 1) := by decide +kernel
theorem dX4_set_5 : decode cX4_set 5 = .ok (.iconst 3, 1) := by decide +kernel
theorem dX4_set_6 : decode cX4_set 6 = .ok (.if_icmp .ge 21, 3) := by decide +kernel
theorem dX4_set_9 : decode cX4_set 9 = .ok (.iload_n 2, 1) := by decide +kernel
theorem dX4_set_10 : decode cX4_set 10 = .ok (.getstatic 111, 3) := by decide +kernel
theorem dX4_set_13 : decode cX4_set 13 = .ok (.iload_n 1, 1) := by decide +kernel
theorem dX4_set_14 : decode cX4_set 14 = .ok (.iaload, 1) := by decide +kernel
theorem dX4_set_15 : decode cX4_set 15 = .ok (.if_icmp .lt 12, 3) := by decide +kernel
theorem dX4_set_18 : decode cX4_set 18 = .ok (.iload_n 2, 1) := by decide +kernel
theorem dX4_set_19 : decode cX4_set 19 = .ok (.getstatic 115, 3) := by decide +kernel
theorem dX4_set_22 : decode cX4_set 22 = .ok (.iload_n 1, 1) := by decide +kernel
theorem dX4_set_23 : decode cX4_set 23 = .ok (.iaload, 1) := by decide +kernel
theorem dX4_set_24 : decode cX4_set 24 = .ok (.if_icmp .le 6, 3) := by decide +kernel
theorem dX4_set_27 : decode cX4_set 27 = .ok (.ldc 57, 2) := by decide +kernel
theorem dX4_set_29 : decode cX4_set 29 = .ok (.ireturn, 1) := by decide +kernel
theorem dX4_set_30 : decode cX4_set 30 = .ok (.aload_n 0, 1) := by decide +kernel
theorem dX4_set_31 : decode cX4_set 31 = .ok (.invokevirtual 36, 3) := by decide +kernel
theorem dX4_set_34 : decode cX4_set 34 = .ok (.aload_n 0, 1) := by decide +kernel
theorem dX4_set_35 : decode cX4_set 35 = .ok (.getfield 19, 3) := by decide +kernel
theorem dX4_set_38 : decode cX4_set 38 = .ok (.getfield 118, 3) := by decide +kernel
theorem dX4_set_41 : decode cX4_set 41 = .ok (.iload_n 1, 1) := by decide +kernel
theorem dX4_set_42 : decode cX4_set 42 = .ok (.iaload, 1) := by decide +kernel
theorem dX4_set_43 : decode cX4_set 43 = .ok (.istore_n 3, 1) := by decide +kernel
theorem dX4_set_44 : decode cX4_set 44 = .ok (.aload_n 0, 1) := by decide +kernel
theorem dX4_set_45 : decode cX4_set 45 = .ok (.getfield 19, 3) := by decide +kernel
theorem dX4_set_48 : decode cX4_set 48 = .ok (.getfield 118, 3) := by decide +kernel
theorem dX4_set_51 : decode cX4_set 51 = .ok (.iload_n 1, 1) := by decide +kernel
theorem dX4_set_52 : decode cX4_set 52 = .ok (.iload_n 2, 1) := by decide +kernel
theorem dX4_set_53 : decode cX4_set 53 = .ok (.iastore, 1) := by decide +kernel
theorem dX4_set_54 : decode cX4_set 54 = .ok (.iload_n 3, 1) := by decide +kernel
theorem dX4_set_55 : decode cX4_set 55 = .ok (.ireturn, 1) := by decide +kernel
set_option maxRecDepth 20000 in
theorem ggX4_rowOf_X0_hasRow : GoodIn wsX4_rowOf wsX0_hasRow := goodIn_r _ [12, 13, 102, 103, 104, 105, 106, 107, 108, 109, 110, 111, 112] (by decide +kernel) (by decide +kernel)
set_option maxRecDepth 20000 in
theorem gX4_rowOf_X0_hasRow : GoodIn wsX4_rowOf (wsV RX4 53 RX0 yX0_hasRow wsX0_hasRow) := goodIn_app (goodIn_of _ (by decide +kernel)) ggX4_rowOf_X0_hasRow
set_option maxRecDepth 20000 in
theorem ggX4_rowOf_X2_width : GoodIn wsX4_rowOf wsX2_width := goodIn_r _ [18, 19, 20, 21, 22, 23, 113, 114, 115, 116] (by decide +kernel) (by decide +kernel)
set_option maxRecDepth 20000 in
theorem gX4_rowOf_X2_width : GoodIn wsX4_rowOf (wsV RX4 122 RX2 yX2_width wsX2_width) := goodIn_app (goodIn_of _ (by decide +kernel)) ggX4_rowOf_X2_width
set_option maxRecDepth 20000 in
theorem ggX4_rowOf_X0_squeezed : GoodIn wsX4_rowOf wsX0_squeezed := goodIn_r _ [27, 28, 102, 103, 104, 105, 106, 107, 108, 109, 110, 111, 112] (by decide +kernel) (by decide +kernel)
set_option maxRecDepth 20000 in
theorem gX4_rowOf_X0_squeezed : GoodIn wsX4_rowOf (wsV RX4 125 RX0 yX0_squeezed wsX0_squeezed) := goodIn_app (goodIn_of _ (by decide +kernel)) ggX4_rowOf_X0_squeezed
set_option maxRecDepth 20000 in
theorem ggX4_rowOf_X2_kind : GoodIn wsX4_rowOf wsX2_kind := goodIn_r _ [32, 19, 33, 34, 35, 17, 36, 20, 37, 38, 39, 40, 41, 42, 43, 44, 45, 46, 47, 48, 49, 50, 51, 52, 53, 54, 55, 56, 57, 58, 59, 60, 61, 62, 63, 64, 65, 66, 67, 68, 69, 70, 71, 72, 73, 74, 75, 76, 77, 78, 79, 80, 81, 82, 83, 84, 85, 113, 114, 115, 116] (by decide +kernel) (by decide +kernel)
set_option maxRecDepth 20000 in
theorem gX4_rowOf_X2_kind : GoodIn wsX4_rowOf (wsV RX4 128 RX2 yX2_kind wsX2_kind) := goodIn_app (goodIn_of _ (by decide +kernel)) ggX4_rowOf_X2_kind
set_option maxRecDepth 20000 in
theorem ggX4_rowOf_X0_routesOf : GoodIn wsX4_rowOf wsX0_routesOf := goodIn_r _ [89, 90, 91, 92, 93, 94, 95, 96, 97, 102, 103, 104, 105, 106, 107, 108, 109, 110, 111, 112, 117, 118, 119] (by decide +kernel) (by decide +kernel)
set_option maxRecDepth 20000 in
theorem gX4_rowOf_X0_routesOf : GoodIn wsX4_rowOf (wsV RX4 131 RX0 yX0_routesOf wsX0_routesOf) := goodIn_app (goodIn_of _ (by decide +kernel)) ggX4_rowOf_X0_routesOf
theorem dX4_rowOf_0 : decode cX4_rowOf 0 = .ok (.aload_n 0, 1) := by decide +kernel
theorem dX4_rowOf_1 : decode cX4_rowOf 1 = .ok (.getfield 19, 3) := by decide +kernel
theorem dX4_rowOf_4 : decode cX4_rowOf 4 = .ok (.iload_n 1, 1) := by decide +kernel
theorem dX4_rowOf_5 : decode cX4_rowOf 5 = .ok (.invokevirtual 53, 3) := by decide +kernel
theorem dX4_rowOf_8 : decode cX4_rowOf 8 = .ok (.ifCond .ne 6, 3) := by decide +kernel
theorem dX4_rowOf_11 : decode cX4_rowOf 11 = .ok (.ldc 57, 2) := by decide +kernel
theorem dX4_rowOf_13 : decode cX4_rowOf 13 = .ok (.ireturn, 1) := by decide +kernel
theorem dX4_rowOf_14 : decode cX4_rowOf 14 = .ok (.aload_n 0, 1) := by decide +kernel
theorem dX4_rowOf_15 : decode cX4_rowOf 15 = .ok (.getfield 19, 3) := by decide +kernel
theorem dX4_rowOf_18 : decode cX4_rowOf 18 = .ok (.getfield 72, 3) := by decide +kernel
theorem dX4_rowOf_21 : decode cX4_rowOf 21 = .ok (.iload_n 1, 1) := by decide +kernel
theorem dX4_rowOf_22 : decode cX4_rowOf 22 = .ok (.aaload, 1) := by decide +kernel
theorem dX4_rowOf_23 : decode cX4_rowOf 23 = .ok (.astore_n 3, 1) := by decide +kernel
theorem dX4_rowOf_24 : decode cX4_rowOf 24 = .ok (.iload_n 2, 1) := by decide +kernel
theorem dX4_rowOf_25 : decode cX4_rowOf 25 = .ok (.tableswitch 118 0 7 #[47, 52, 57, 69, 74, 79, 92, 101], 47) := by decide +kernel
theorem dX4_rowOf_72 : decode cX4_rowOf 72 = .ok (.aload_n 3, 1) := by decide +kernel
theorem dX4_rowOf_73 : decode cX4_rowOf 73 = .ok (.getfield 121, 3) := by decide +kernel
theorem dX4_rowOf_76 : decode cX4_rowOf 76 = .ok (.ireturn, 1) := by decide +kernel
theorem dX4_rowOf_77 : decode cX4_rowOf 77 = .ok (.aload_n 3, 1) := by decide +kernel
theorem dX4_rowOf_78 : decode cX4_rowOf 78 = .ok (.invokevirtual 122, 3) := by decide +kernel
theorem dX4_rowOf_81 : decode cX4_rowOf 81 = .ok (.ireturn, 1) := by decide +kernel
theorem dX4_rowOf_82 : decode cX4_rowOf 82 = .ok (.aload_n 0, 1) := by decide +kernel
theorem dX4_rowOf_83 : decode cX4_rowOf 83 = .ok (.getfield 19, 3) := by decide +kernel
theorem dX4_rowOf_86 : decode cX4_rowOf 86 = .ok (.aload_n 3, 1) := by decide +kernel
theorem dX4_rowOf_87 : decode cX4_rowOf 87 = .ok (.invokevirtual 122, 3) := by decide +kernel
theorem dX4_rowOf_90 : decode cX4_rowOf 90 = .ok (.invokevirtual 125, 3) := by decide +kernel
theorem dX4_rowOf_93 : decode cX4_rowOf 93 = .ok (.ireturn, 1) := by decide +kernel
theorem dX4_rowOf_94 : decode cX4_rowOf 94 = .ok (.aload_n 3, 1) := by decide +kernel
theorem dX4_rowOf_95 : decode cX4_rowOf 95 = .ok (.invokevirtual 128, 3) := by decide +kernel
theorem dX4_rowOf_98 : decode cX4_rowOf 98 = .ok (.ireturn, 1) := by decide +kernel
theorem dX4_rowOf_99 : decode cX4_rowOf 99 = .ok (.aload_n 3, 1) := by decide +kernel
theorem dX4_rowOf_100 : decode cX4_rowOf 100 = .ok (.getfield 85, 3) := by decide +kernel
theorem dX4_rowOf_103 : decode cX4_rowOf 103 = .ok (.ireturn, 1) := by decide +kernel
theorem dX4_rowOf_104 : decode cX4_rowOf 104 = .ok (.aload_n 3, 1) := by decide +kernel
theorem dX4_rowOf_105 : decode cX4_rowOf 105 = .ok (.getfield 76, 3) := by decide +kernel
theorem dX4_rowOf_108 : decode cX4_rowOf 108 = .ok (.ifCond .eq 7, 3) := by decide +kernel
theorem dX4_rowOf_111 : decode cX4_rowOf 111 = .ok (.iconst 1, 1) := by decide +kernel
theorem dX4_rowOf_112 : decode cX4_rowOf 112 = .ok (.goto 4, 3) := by decide +kernel
theorem dX4_rowOf_115 : decode cX4_rowOf 115 = .ok (.iconst 0, 1) := by decide +kernel
theorem dX4_rowOf_116 : decode cX4_rowOf 116 = .ok (.ireturn, 1) := by decide +kernel
theorem dX4_rowOf_117 : decode cX4_rowOf 117 = .ok (.aload_n 0, 1) := by decide +kernel
theorem dX4_rowOf_118 : decode cX4_rowOf 118 = .ok (.getfield 19, 3) := by decide +kernel
theorem dX4_rowOf_121 : decode cX4_rowOf 121 = .ok (.iload_n 1, 1) := by decide +kernel
theorem dX4_rowOf_122 : decode cX4_rowOf 122 = .ok (.invokevirtual 131, 3) := by decide +kernel
theorem dX4_rowOf_125 : decode cX4_rowOf 125 = .ok (.ireturn, 1) := by decide +kernel
theorem dX4_rowOf_126 : decode cX4_rowOf 126 = .ok (.iload_n 1, 1) := by decide +kernel
theorem dX4_rowOf_127 : decode cX4_rowOf 127 = .ok (.aload_n 0, 1) := by decide +kernel
theorem dX4_rowOf_128 : decode cX4_rowOf 128 = .ok (.getfield 19, 3) := by decide +kernel
theorem dX4_rowOf_131 : decode cX4_rowOf 131 = .ok (.getfield 65, 3) := by decide +kernel
theorem dX4_rowOf_134 : decode cX4_rowOf 134 = .ok (.if_icmp .ne 7, 3) := by decide +kernel
theorem dX4_rowOf_137 : decode cX4_rowOf 137 = .ok (.iconst 1, 1) := by decide +kernel
theorem dX4_rowOf_138 : decode cX4_rowOf 138 = .ok (.goto 4, 3) := by decide +kernel
theorem dX4_rowOf_141 : decode cX4_rowOf 141 = .ok (.iconst 0, 1) := by decide +kernel
theorem dX4_rowOf_142 : decode cX4_rowOf 142 = .ok (.ireturn, 1) := by decide +kernel
theorem dX4_rowOf_143 : decode cX4_rowOf 143 = .ok (.ldc 57, 2) := by decide +kernel
theorem dX4_rowOf_145 : decode cX4_rowOf 145 = .ok (.ireturn, 1) := by decide +kernel
set_option maxRecDepth 20000 in
theorem ggX4_letter_X0_hasRow : GoodIn wsX4_letter wsX0_hasRow := goodIn_r _ [11, 12, 17, 18, 19, 20, 21, 22, 23, 24, 25, 26, 27] (by decide +kernel) (by decide +kernel)
set_option maxRecDepth 20000 in
theorem gX4_letter_X0_hasRow : GoodIn wsX4_letter (wsV RX4 53 RX0 yX0_hasRow wsX0_hasRow) := goodIn_app (goodIn_of _ (by decide +kernel)) ggX4_letter_X0_hasRow
theorem dX4_letter_0 : decode cX4_letter 0 = .ok (.aload_n 0, 1) := by decide +kernel
theorem dX4_letter_1 : decode cX4_letter 1 = .ok (.getfield 19, 3) := by decide +kernel
theorem dX4_letter_4 : decode cX4_letter 4 = .ok (.iload_n 1, 1) := by decide +kernel
theorem dX4_letter_5 : decode cX4_letter 5 = .ok (.invokevirtual 53, 3) := by decide +kernel
theorem dX4_letter_8 : decode cX4_letter 8 = .ok (.ifCond .eq 7, 3) := by decide +kernel
theorem dX4_letter_11 : decode cX4_letter 11 = .ok (.iload_n 2, 1) := by decide +kernel
theorem dX4_letter_12 : decode cX4_letter 12 = .ok (.ifCond .ge 6, 3) := by decide +kernel
theorem dX4_letter_15 : decode cX4_letter 15 = .ok (.ldc 57, 2) := by decide +kernel
theorem dX4_letter_17 : decode cX4_letter 17 = .ok (.ireturn, 1) := by decide +kernel
theorem dX4_letter_18 : decode cX4_letter 18 = .ok (.aload_n 0, 1) := by decide +kernel
theorem dX4_letter_19 : decode cX4_letter 19 = .ok (.getfield 19, 3) := by decide +kernel
theorem dX4_letter_22 : decode cX4_letter 22 = .ok (.getfield 72, 3) := by decide +kernel
theorem dX4_letter_25 : decode cX4_letter 25 = .ok (.iload_n 1, 1) := by decide +kernel
theorem dX4_letter_26 : decode cX4_letter 26 = .ok (.aaload, 1) := by decide +kernel
theorem dX4_letter_27 : decode cX4_letter 27 = .ok (.astore_n 3, 1) := by decide +kernel
theorem dX4_letter_28 : decode cX4_letter 28 = .ok (.iload_n 2, 1) := by decide +kernel
theorem dX4_letter_29 : decode cX4_letter 29 = .ok (.aload_n 3, 1) := by decide +kernel
theorem dX4_letter_30 : decode cX4_letter 30 = .ok (.getfield 121, 3) := by decide +kernel
theorem dX4_letter_33 : decode cX4_letter 33 = .ok (.if_icmp .ge 12, 3) := by decide +kernel
theorem dX4_letter_36 : decode cX4_letter 36 = .ok (.aload_n 3, 1) := by decide +kernel
theorem dX4_letter_37 : decode cX4_letter 37 = .ok (.getfield 134, 3) := by decide +kernel
theorem dX4_letter_40 : decode cX4_letter 40 = .ok (.iload_n 2, 1) := by decide +kernel
theorem dX4_letter_41 : decode cX4_letter 41 = .ok (.caload, 1) := by decide +kernel
theorem dX4_letter_42 : decode cX4_letter 42 = .ok (.goto 5, 3) := by decide +kernel
theorem dX4_letter_45 : decode cX4_letter 45 = .ok (.ldc 138, 2) := by decide +kernel
theorem dX4_letter_47 : decode cX4_letter 47 = .ok (.ireturn, 1) := by decide +kernel
set_option maxRecDepth 20000 in
theorem ggX4_routeOf_X0_hasRoute : GoodIn wsX4_routeOf wsX0_hasRoute := goodIn_r _ [11, 12, 31, 32, 33, 34, 35, 36, 37, 38, 39, 40, 41] (by decide +kernel) (by decide +kernel)
set_option maxRecDepth 20000 in
theorem gX4_routeOf_X0_hasRoute : GoodIn wsX4_routeOf (wsV RX4 102 RX0 yX0_hasRoute wsX0_hasRoute) := goodIn_app (goodIn_of _ (by decide +kernel)) ggX4_routeOf_X0_hasRoute
set_option maxRecDepth 20000 in
theorem ggX4_routeOf_J6_bitCount_0f7a4 : GoodIn wsX4_routeOf wsJ6_bitCount_0f7a4 := goodIn_r _ [16, 17, 18, 19] (by decide +kernel) (by decide +kernel)
set_option maxRecDepth 20000 in
theorem gX4_routeOf_J6_bitCount_0f7a4 : GoodIn wsX4_routeOf (va_wsS RX4 147 yJ6_bitCount_0f7a4 wsJ6_bitCount_0f7a4) := goodIn_app (goodIn_of _ (by decide +kernel)) ggX4_routeOf_J6_bitCount_0f7a4
set_option maxRecDepth 20000 in
theorem ggX4_routeOf_X0_tornRows : GoodIn wsX4_routeOf wsX0_tornRows := goodIn_r _ [23, 24, 25, 26, 31, 32, 33, 34, 35, 36, 37, 38, 39, 40, 41, 45, 46, 47, 48] (by decide +kernel) (by decide +kernel)
set_option maxRecDepth 20000 in
theorem gX4_routeOf_X0_tornRows : GoodIn wsX4_routeOf (wsV RX4 152 RX0 yX0_tornRows wsX0_tornRows) := goodIn_app (goodIn_of _ (by decide +kernel)) ggX4_routeOf_X0_tornRows
theorem dX4_routeOf_0 : decode cX4_routeOf 0 = .ok (.aload_n 0, 1) := by decide +kernel
theorem dX4_routeOf_1 : decode cX4_routeOf 1 = .ok (.getfield 19, 3) := by decide +kernel
theorem dX4_routeOf_4 : decode cX4_routeOf 4 = .ok (.iload_n 1, 1) := by decide +kernel
theorem dX4_routeOf_5 : decode cX4_routeOf 5 = .ok (.invokevirtual 102, 3) := by decide +kernel
theorem dX4_routeOf_8 : decode cX4_routeOf 8 = .ok (.ifCond .ne 6, 3) := by decide +kernel
theorem dX4_routeOf_11 : decode cX4_routeOf 11 = .ok (.ldc 57, 2) := by decide +kernel
theorem dX4_routeOf_13 : decode cX4_routeOf 13 = .ok (.ireturn, 1) := by decide +kernel
theorem dX4_routeOf_14 : decode cX4_routeOf 14 = .ok (.aload_n 0, 1) := by decide +kernel
theorem dX4_routeOf_15 : decode cX4_routeOf 15 = .ok (.getfield 19, 3) := by decide +kernel
theorem dX4_routeOf_18 : decode cX4_routeOf 18 = .ok (.getfield 139, 3) := by decide +kernel
theorem dX4_routeOf_21 : decode cX4_routeOf 21 = .ok (.iload_n 1, 1) := by decide +kernel
theorem dX4_routeOf_22 : decode cX4_routeOf 22 = .ok (.aaload, 1) := by decide +kernel
theorem dX4_routeOf_23 : decode cX4_routeOf 23 = .ok (.astore_n 3, 1) := by decide +kernel
theorem dX4_routeOf_24 : decode cX4_routeOf 24 = .ok (.iload_n 2, 1) := by decide +kernel
theorem dX4_routeOf_25 : decode cX4_routeOf 25 = .ok (.tableswitch 71 0 4 #[35, 40, 48, 61, 66], 35) := by decide +kernel
theorem dX4_routeOf_60 : decode cX4_routeOf 60 = .ok (.aload_n 3, 1) := by decide +kernel
theorem dX4_routeOf_61 : decode cX4_routeOf 61 = .ok (.getfield 143, 3) := by decide +kernel
theorem dX4_routeOf_64 : decode cX4_routeOf 64 = .ok (.ireturn, 1) := by decide +kernel
theorem dX4_routeOf_65 : decode cX4_routeOf 65 = .ok (.aload_n 3, 1) := by decide +kernel
theorem dX4_routeOf_66 : decode cX4_routeOf 66 = .ok (.getfield 143, 3) := by decide +kernel
theorem dX4_routeOf_69 : decode cX4_routeOf 69 = .ok (.invokestatic 147, 3) := by decide +kernel
theorem dX4_routeOf_72 : decode cX4_routeOf 72 = .ok (.ireturn, 1) := by decide +kernel
theorem dX4_routeOf_73 : decode cX4_routeOf 73 = .ok (.aload_n 3, 1) := by decide +kernel
theorem dX4_routeOf_74 : decode cX4_routeOf 74 = .ok (.getfield 143, 3) := by decide +kernel
theorem dX4_routeOf_77 : decode cX4_routeOf 77 = .ok (.aload_n 0, 1) := by decide +kernel
theorem dX4_routeOf_78 : decode cX4_routeOf 78 = .ok (.getfield 19, 3) := by decide +kernel
theorem dX4_routeOf_81 : decode cX4_routeOf 81 = .ok (.invokevirtual 152, 3) := by decide +kernel
theorem dX4_routeOf_84 : decode cX4_routeOf 84 = .ok (.iand, 1) := by decide +kernel
theorem dX4_routeOf_85 : decode cX4_routeOf 85 = .ok (.ireturn, 1) := by decide +kernel
theorem dX4_routeOf_86 : decode cX4_routeOf 86 = .ok (.aload_n 3, 1) := by decide +kernel
theorem dX4_routeOf_87 : decode cX4_routeOf 87 = .ok (.getfield 155, 3) := by decide +kernel
theorem dX4_routeOf_90 : decode cX4_routeOf 90 = .ok (.ireturn, 1) := by decide +kernel
theorem dX4_routeOf_91 : decode cX4_routeOf 91 = .ok (.aload_n 3, 1) := by decide +kernel
theorem dX4_routeOf_92 : decode cX4_routeOf 92 = .ok (.getfield 158, 3) := by decide +kernel
theorem dX4_routeOf_95 : decode cX4_routeOf 95 = .ok (.ireturn, 1) := by decide +kernel
theorem dX4_routeOf_96 : decode cX4_routeOf 96 = .ok (.ldc 57, 2) := by decide +kernel
theorem dX4_routeOf_98 : decode cX4_routeOf 98 = .ok (.ireturn, 1) := by decide +kernel
set_option maxRecDepth 20000 in
theorem ggX4_would_X4_isCranking : GoodIn wsX4_would wsX4_isCranking := goodIn_r _ [8] (by decide +kernel) (by decide +kernel)
set_option maxRecDepth 20000 in
theorem gX4_would_X4_isCranking : GoodIn wsX4_would (va_wsS RX4 88 yX4_isCranking wsX4_isCranking) := goodIn_app (goodIn_of _ (by decide +kernel)) ggX4_would_X4_isCranking
set_option maxRecDepth 20000 in
theorem ggX4_would_X0_stepsOf : GoodIn wsX4_would wsX0_stepsOf := goodIn_r _ [13, 14, 15, 16, 17, 18, 19, 20, 21, 22, 12, 23, 24, 25, 26, 27, 28, 29, 54, 55, 56, 57, 58, 59, 60, 61, 62, 63, 64, 65, 66, 67, 68] (by decide +kernel) (by decide +kernel)
set_option maxRecDepth 20000 in
theorem gX4_would_X0_stepsOf : GoodIn wsX4_would (wsV RX4 161 RX0 yX0_stepsOf wsX0_stepsOf) := goodIn_app (goodIn_of _ (by decide +kernel)) ggX4_would_X0_stepsOf
set_option maxRecDepth 20000 in
theorem ggX4_would_X0_rowAfter : GoodIn wsX4_would wsX0_rowAfter := goodIn_r _ [23, 24, 54, 55, 56, 57, 58, 59, 60, 61, 62, 63, 64] (by decide +kernel) (by decide +kernel)
set_option maxRecDepth 20000 in
theorem gX4_would_X0_rowAfter : GoodIn wsX4_would (wsV RX4 164 RX0 yX0_rowAfter wsX0_rowAfter) := goodIn_app (goodIn_of _ (by decide +kernel)) ggX4_would_X0_rowAfter
set_option maxRecDepth 20000 in
theorem ggX4_would_X0_tearsOf : GoodIn wsX4_would wsX0_tearsOf := goodIn_r _ [34, 18, 35, 10, 11, 12, 13, 14, 15, 16, 17, 19, 20, 21, 22, 23, 24, 25, 26, 27, 28, 29, 36, 37, 38, 39, 40, 41, 42, 43, 44, 45, 54, 55, 56, 57, 58, 59, 60, 61, 62, 63, 64, 65, 66, 67, 68] (by decide +kernel) (by decide +kernel)
set_option maxRecDepth 20000 in
theorem gX4_would_X0_tearsOf : GoodIn wsX4_would (wsV RX4 168 RX0 yX0_tearsOf wsX0_tearsOf) := goodIn_app (goodIn_of _ (by decide +kernel)) ggX4_would_X0_tearsOf
set_option maxRecDepth 20000 in
theorem ggX4_would_X0_endOf : GoodIn wsX4_would wsX0_endOf := goodIn_r _ [49, 14, 15, 16, 17, 20, 21, 22, 12, 23, 24, 25, 26, 27, 28, 29, 54, 55, 56, 57, 58, 59, 60, 61, 62, 63, 64] (by decide +kernel) (by decide +kernel)
set_option maxRecDepth 20000 in
theorem gX4_would_X0_endOf : GoodIn wsX4_would (wsV RX4 171 RX0 yX0_endOf wsX0_endOf) := goodIn_app (goodIn_of _ (by decide +kernel)) ggX4_would_X0_endOf
theorem dX4_would_0 : decode cX4_would 0 = .ok (.iload_n 1, 1) := by decide +kernel
theorem dX4_would_1 : decode cX4_would 1 = .ok (.iload_n 2, 1) := by decide +kernel
theorem dX4_would_2 : decode cX4_would 2 = .ok (.invokestatic 88, 3) := by decide +kernel
theorem dX4_would_5 : decode cX4_would 5 = .ok (.ifCond .eq 12, 3) := by decide +kernel
theorem dX4_would_8 : decode cX4_would 8 = .ok (.iload_n 3, 1) := by decide +kernel
theorem dX4_would_9 : decode cX4_would 9 = .ok (.ifCond .lt 8, 3) := by decide +kernel
theorem dX4_would_12 : decode cX4_would 12 = .ok (.iload_n 3, 1) := by decide +kernel
theorem dX4_would_13 : decode cX4_would 13 = .ok (.iconst 3, 1) := by decide +kernel
theorem dX4_would_14 : decode cX4_would 14 = .ok (.if_icmp .le 6, 3) := by decide +kernel
theorem dX4_would_17 : decode cX4_would 17 = .ok (.ldc 57, 2) := by decide +kernel
theorem dX4_would_19 : decode cX4_would 19 = .ok (.ireturn, 1) := by decide +kernel
theorem dX4_would_20 : decode cX4_would 20 = .ok (.aload_n 0, 1) := by decide +kernel
theorem dX4_would_21 : decode cX4_would 21 = .ok (.getfield 19, 3) := by decide +kernel
theorem dX4_would_24 : decode cX4_would 24 = .ok (.getfield 62, 3) := by decide +kernel
theorem dX4_would_27 : decode cX4_would 27 = .ok (.ifCond .ne 6, 3) := by decide +kernel
theorem dX4_would_30 : decode cX4_would 30 = .ok (.ldc 35, 2) := by decide +kernel
theorem dX4_would_32 : decode cX4_would 32 = .ok (.ireturn, 1) := by decide +kernel
theorem dX4_would_33 : decode cX4_would 33 = .ok (.aload_n 0, 1) := by decide +kernel
theorem dX4_would_34 : decode cX4_would 34 = .ok (.getfield 19, 3) := by decide +kernel
theorem dX4_would_37 : decode cX4_would 37 = .ok (.iload_n 1, 1) := by decide +kernel
theorem dX4_would_38 : decode cX4_would 38 = .ok (.invokevirtual 161, 3) := by decide +kernel
theorem dX4_would_41 : decode cX4_would 41 = .ok (.istore 4, 2) := by decide +kernel
theorem dX4_would_43 : decode cX4_would 43 = .ok (.iload_n 3, 1) := by decide +kernel
theorem dX4_would_44 : decode cX4_would 44 = .ok (.tableswitch 52 0 2 #[28, 39, 49], 28) := by decide +kernel
theorem dX4_would_72 : decode cX4_would 72 = .ok (.aload_n 0, 1) := by decide +kernel
theorem dX4_would_73 : decode cX4_would 73 = .ok (.getfield 19, 3) := by decide +kernel
theorem dX4_would_76 : decode cX4_would 76 = .ok (.iload_n 1, 1) := by decide +kernel
theorem dX4_would_77 : decode cX4_would 77 = .ok (.iload 4, 2) := by decide +kernel
theorem dX4_would_79 : decode cX4_would 79 = .ok (.invokevirtual 164, 3) := by decide +kernel
theorem dX4_would_82 : decode cX4_would 82 = .ok (.ireturn, 1) := by decide +kernel
theorem dX4_would_83 : decode cX4_would 83 = .ok (.aload_n 0, 1) := by decide +kernel
theorem dX4_would_84 : decode cX4_would 84 = .ok (.getfield 19, 3) := by decide +kernel
theorem dX4_would_87 : decode cX4_would 87 = .ok (.iload_n 1, 1) := by decide +kernel
theorem dX4_would_88 : decode cX4_would 88 = .ok (.iload_n 2, 1) := by decide +kernel
theorem dX4_would_89 : decode cX4_would 89 = .ok (.invokevirtual 168, 3) := by decide +kernel
theorem dX4_would_92 : decode cX4_would 92 = .ok (.ireturn, 1) := by decide +kernel
theorem dX4_would_93 : decode cX4_would 93 = .ok (.iload 4, 2) := by decide +kernel
theorem dX4_would_95 : decode cX4_would 95 = .ok (.ireturn, 1) := by decide +kernel
theorem dX4_would_96 : decode cX4_would 96 = .ok (.aload_n 0, 1) := by decide +kernel
theorem dX4_would_97 : decode cX4_would 97 = .ok (.getfield 19, 3) := by decide +kernel
theorem dX4_would_100 : decode cX4_would 100 = .ok (.iload_n 1, 1) := by decide +kernel
theorem dX4_would_101 : decode cX4_would 101 = .ok (.iload 4, 2) := by decide +kernel
theorem dX4_would_103 : decode cX4_would 103 = .ok (.invokevirtual 171, 3) := by decide +kernel
theorem dX4_would_106 : decode cX4_would 106 = .ok (.ireturn, 1) := by decide +kernel
set_option maxRecDepth 20000 in
theorem ggX4_nearest_X0_nearestRight : GoodIn wsX4_nearest wsX0_nearestRight := goodIn_r _ [9, 10, 11, 12, 13, 14, 15, 16, 17, 18, 8, 19, 20, 21, 22, 23, 24, 25, 26, 27, 28, 29, 30, 31, 32, 33, 34, 35, 36, 37, 38, 39, 40, 41, 42, 43, 44, 45, 46, 47, 48, 49, 50, 51, 52, 53, 54, 55, 56, 57, 58, 59, 60, 61, 62, 63, 64, 65, 66, 67, 68, 69, 70, 71, 72, 73, 74, 75, 76, 77, 78, 79, 80, 81, 82, 83, 84, 85, 86, 87, 88, 89, 90, 91, 92, 93, 94, 95, 96, 97, 98, 99, 100, 101, 102, 103, 104, 105, 106, 107, 108, 109, 110, 115, 116, 117, 118, 119, 120, 121, 122, 123, 124, 125, 126, 127, 128, 129, 130, 131, 132] (by decide +kernel) (by decide +kernel)
set_option maxRecDepth 20000 in
theorem gX4_nearest_X0_nearestRight : GoodIn wsX4_nearest (wsV RX4 174 RX0 yX0_nearestRight wsX0_nearestRight) := goodIn_app (goodIn_of _ (by decide +kernel)) ggX4_nearest_X0_nearestRight
theorem dX4_nearest_0 : decode cX4_nearest 0 = .ok (.iload_n 1, 1) := by decide +kernel
theorem dX4_nearest_1 : decode cX4_nearest 1 = .ok (.ifCond .lt 8, 3) := by decide +kernel
theorem dX4_nearest_4 : decode cX4_nearest 4 = .ok (.iload_n 1, 1) := by decide +kernel
theorem dX4_nearest_5 : decode cX4_nearest 5 = .ok (.iconst 1, 1) := by decide +kernel
theorem dX4_nearest_6 : decode cX4_nearest 6 = .ok (.if_icmp .le 6, 3) := by decide +kernel
theorem dX4_nearest_9 : decode cX4_nearest 9 = .ok (.ldc 57, 2) := by decide +kernel
theorem dX4_nearest_11 : decode cX4_nearest 11 = .ok (.ireturn, 1) := by decide +kernel
theorem dX4_nearest_12 : decode cX4_nearest 12 = .ok (.aload_n 0, 1) := by decide +kernel
theorem dX4_nearest_13 : decode cX4_nearest 13 = .ok (.getfield 19, 3) := by decide +kernel
theorem dX4_nearest_16 : decode cX4_nearest 16 = .ok (.invokevirtual 174, 3) := by decide +kernel
theorem dX4_nearest_19 : decode cX4_nearest 19 = .ok (.istore_n 2, 1) := by decide +kernel
theorem dX4_nearest_20 : decode cX4_nearest 20 = .ok (.iload_n 2, 1) := by decide +kernel
theorem dX4_nearest_21 : decode cX4_nearest 21 = .ok (.iconst (-1), 1) := by decide +kernel
theorem dX4_nearest_22 : decode cX4_nearest 22 = .ok (.if_icmp .ne 6, 3) := by decide +kernel
theorem dX4_nearest_25 : decode cX4_nearest 25 = .ok (.ldc 138, 2) := by decide +kernel
theorem dX4_nearest_27 : decode cX4_nearest 27 = .ok (.ireturn, 1) := by decide +kernel
theorem dX4_nearest_28 : decode cX4_nearest 28 = .ok (.iload_n 1, 1) := by decide +kernel
theorem dX4_nearest_29 : decode cX4_nearest 29 = .ok (.ifCond .ne 7, 3) := by decide +kernel
theorem dX4_nearest_32 : decode cX4_nearest 32 = .ok (.iload_n 2, 1) := by decide +kernel
theorem dX4_nearest_33 : decode cX4_nearest 33 = .ok (.goto 12, 3) := by decide +kernel
theorem dX4_nearest_36 : decode cX4_nearest 36 = .ok (.iload_n 2, 1) := by decide +kernel
theorem dX4_nearest_37 : decode cX4_nearest 37 = .ok (.aload_n 0, 1) := by decide +kernel
theorem dX4_nearest_38 : decode cX4_nearest 38 = .ok (.getfield 19, 3) := by decide +kernel
theorem dX4_nearest_41 : decode cX4_nearest 41 = .ok (.getfield 65, 3) := by decide +kernel
theorem dX4_nearest_44 : decode cX4_nearest 44 = .ok (.isub, 1) := by decide +kernel
theorem dX4_nearest_45 : decode cX4_nearest 45 = .ok (.ireturn, 1) := by decide +kernel
set_option maxRecDepth 20000 in
theorem ggX4_alike_X0_hasRow : GoodIn wsX4_alike wsX0_hasRow := goodIn_r _ [8, 9, 21, 22, 23, 24, 25, 26, 27, 28, 29, 30, 31] (by decide +kernel) (by decide +kernel)
set_option maxRecDepth 20000 in
theorem gX4_alike_X0_hasRow : GoodIn wsX4_alike (wsV RX4 53 RX0 yX0_hasRow wsX0_hasRow) := goodIn_app (goodIn_of _ (by decide +kernel)) ggX4_alike_X0_hasRow
set_option maxRecDepth 20000 in
theorem ggX4_alike_X2_sharedStart : GoodIn wsX4_alike wsX2_sharedStart := goodIn_r _ [14, 15, 16, 32, 33, 34, 35] (by decide +kernel) (by decide +kernel)
set_option maxRecDepth 20000 in
theorem gX4_alike_X2_sharedStart : GoodIn wsX4_alike (wsV RX4 177 RX2 yX2_sharedStart wsX2_sharedStart) := goodIn_app (goodIn_of _ (by decide +kernel)) ggX4_alike_X2_sharedStart
theorem dX4_alike_0 : decode cX4_alike 0 = .ok (.aload_n 0, 1) := by decide +kernel
theorem dX4_alike_1 : decode cX4_alike 1 = .ok (.getfield 19, 3) := by decide +kernel
theorem dX4_alike_4 : decode cX4_alike 4 = .ok (.iload_n 1, 1) := by decide +kernel
theorem dX4_alike_5 : decode cX4_alike 5 = .ok (.invokevirtual 53, 3) := by decide +kernel
theorem dX4_alike_8 : decode cX4_alike 8 = .ok (.ifCond .eq 14, 3) := by decide +kernel
theorem dX4_alike_11 : decode cX4_alike 11 = .ok (.aload_n 0, 1) := by decide +kernel
theorem dX4_alike_12 : decode cX4_alike 12 = .ok (.getfield 19, 3) := by decide +kernel
theorem dX4_alike_15 : decode cX4_alike 15 = .ok (.iload_n 2, 1) := by decide +kernel
theorem dX4_alike_16 : decode cX4_alike 16 = .ok (.invokevirtual 53, 3) := by decide +kernel
theorem dX4_alike_19 : decode cX4_alike 19 = .ok (.ifCond .ne 6, 3) := by decide +kernel
theorem dX4_alike_22 : decode cX4_alike 22 = .ok (.ldc 57, 2) := by decide +kernel
theorem dX4_alike_24 : decode cX4_alike 24 = .ok (.ireturn, 1) := by decide +kernel
theorem dX4_alike_25 : decode cX4_alike 25 = .ok (.aload_n 0, 1) := by decide +kernel
theorem dX4_alike_26 : decode cX4_alike 26 = .ok (.getfield 19, 3) := by decide +kernel
theorem dX4_alike_29 : decode cX4_alike 29 = .ok (.getfield 72, 3) := by decide +kernel
theorem dX4_alike_32 : decode cX4_alike 32 = .ok (.iload_n 1, 1) := by decide +kernel
theorem dX4_alike_33 : decode cX4_alike 33 = .ok (.aaload, 1) := by decide +kernel
theorem dX4_alike_34 : decode cX4_alike 34 = .ok (.aload_n 0, 1) := by decide +kernel
theorem dX4_alike_35 : decode cX4_alike 35 = .ok (.getfield 19, 3) := by decide +kernel
theorem dX4_alike_38 : decode cX4_alike 38 = .ok (.getfield 72, 3) := by decide +kernel
theorem dX4_alike_41 : decode cX4_alike 41 = .ok (.iload_n 2, 1) := by decide +kernel
theorem dX4_alike_42 : decode cX4_alike 42 = .ok (.aaload, 1) := by decide +kernel
theorem dX4_alike_43 : decode cX4_alike 43 = .ok (.invokevirtual 177, 3) := by decide +kernel
theorem dX4_alike_46 : decode cX4_alike 46 = .ok (.ireturn, 1) := by decide +kernel
set_option maxRecDepth 20000 in
theorem ggX4_read_X0_hasRow : GoodIn wsX4_read wsX0_hasRow := goodIn_r _ [10, 11, 38, 39, 40, 41, 42, 43, 44, 45, 46, 47, 48] (by decide +kernel) (by decide +kernel)
set_option maxRecDepth 20000 in
theorem gX4_read_X0_hasRow : GoodIn wsX4_read (wsV RX4 53 RX0 yX0_hasRow wsX0_hasRow) := goodIn_app (goodIn_of _ (by decide +kernel)) ggX4_read_X0_hasRow
set_option maxRecDepth 20000 in
theorem ggX4_read_X0_legible : GoodIn wsX4_read wsX0_legible := goodIn_r _ [15, 16, 17, 18, 19, 20, 21, 22, 23, 24, 25, 26, 27, 28, 29, 30, 31, 32, 9, 33, 49, 50, 51, 52, 38, 39, 40, 41, 42, 43, 44, 45, 46, 47, 48] (by decide +kernel) (by decide +kernel)
set_option maxRecDepth 20000 in
theorem gX4_read_X0_legible : GoodIn wsX4_read (wsV RX4 181 RX0 yX0_legible wsX0_legible) := goodIn_app (goodIn_of _ (by decide +kernel)) ggX4_read_X0_legible
theorem dX4_read_0 : decode cX4_read 0 = .ok (.iload_n 1, 1) := by decide +kernel
theorem dX4_read_1 : decode cX4_read 1 = .ok (.iconst 1, 1) := by decide +kernel
theorem dX4_read_2 : decode cX4_read 2 = .ok (.if_icmp .lt 10, 3) := by decide +kernel
theorem dX4_read_5 : decode cX4_read 5 = .ok (.iload_n 1, 1) := by decide +kernel
theorem dX4_read_6 : decode cX4_read 6 = .ok (.sipush 999, 3) := by decide +kernel
theorem dX4_read_9 : decode cX4_read 9 = .ok (.if_icmp .le 6, 3) := by decide +kernel
theorem dX4_read_12 : decode cX4_read 12 = .ok (.ldc 57, 2) := by decide +kernel
theorem dX4_read_14 : decode cX4_read 14 = .ok (.ireturn, 1) := by decide +kernel
theorem dX4_read_15 : decode cX4_read 15 = .ok (.aload_n 0, 1) := by decide +kernel
theorem dX4_read_16 : decode cX4_read 16 = .ok (.getfield 19, 3) := by decide +kernel
theorem dX4_read_19 : decode cX4_read 19 = .ok (.aload_n 0, 1) := by decide +kernel
theorem dX4_read_20 : decode cX4_read 20 = .ok (.getfield 19, 3) := by decide +kernel
theorem dX4_read_23 : decode cX4_read 23 = .ok (.getfield 65, 3) := by decide +kernel
theorem dX4_read_26 : decode cX4_read 26 = .ok (.invokevirtual 53, 3) := by decide +kernel
theorem dX4_read_29 : decode cX4_read 29 = .ok (.ifCond .ne 6, 3) := by decide +kernel
theorem dX4_read_32 : decode cX4_read 32 = .ok (.ldc 138, 2) := by decide +kernel
theorem dX4_read_34 : decode cX4_read 34 = .ok (.ireturn, 1) := by decide +kernel
theorem dX4_read_35 : decode cX4_read 35 = .ok (.aload_n 0, 1) := by decide +kernel
theorem dX4_read_36 : decode cX4_read 36 = .ok (.getfield 19, 3) := by decide +kernel
theorem dX4_read_39 : decode cX4_read 39 = .ok (.aload_n 0, 1) := by decide +kernel
theorem dX4_read_40 : decode cX4_read 40 = .ok (.getfield 19, 3) := by decide +kernel
theorem dX4_read_43 : decode cX4_read 43 = .ok (.getfield 72, 3) := by decide +kernel
theorem dX4_read_46 : decode cX4_read 46 = .ok (.aload_n 0, 1) := by decide +kernel
theorem dX4_read_47 : decode cX4_read 47 = .ok (.getfield 19, 3) := by decide +kernel
theorem dX4_read_50 : decode cX4_read 50 = .ok (.getfield 65, 3) := by decide +kernel
theorem dX4_read_53 : decode cX4_read 53 = .ok (.aaload, 1) := by decide +kernel
theorem dX4_read_54 : decode cX4_read 54 = .ok (.iload_n 1, 1) := by decide +kernel
theorem dX4_read_55 : decode cX4_read 55 = .ok (.invokevirtual 181, 3) := by decide +kernel
theorem dX4_read_58 : decode cX4_read 58 = .ok (.ireturn, 1) := by decide +kernel
set_option maxRecDepth 20000 in
theorem ggX4_find_X3_isNameOf : GoodIn wsX4_find wsX3_isNameOf := goodIn_r _ [10, 11, 12, 13, 14, 30, 31, 32, 33, 34, 35] (by decide +kernel) (by decide +kernel)
set_option maxRecDepth 20000 in
theorem gX4_find_X3_isNameOf : GoodIn wsX4_find (wsV RX4 185 RX3 yX3_isNameOf wsX3_isNameOf) := goodIn_app (goodIn_of _ (by decide +kernel)) ggX4_find_X3_isNameOf
theorem dX4_find_0 : decode cX4_find 0 = .ok (.iconst 0, 1) := by decide +kernel
theorem dX4_find_1 : decode cX4_find 1 = .ok (.istore_n 1, 1) := by decide +kernel
theorem dX4_find_2 : decode cX4_find 2 = .ok (.iload_n 1, 1) := by decide +kernel
theorem dX4_find_3 : decode cX4_find 3 = .ok (.aload_n 0, 1) := by decide +kernel
theorem dX4_find_4 : decode cX4_find 4 = .ok (.getfield 19, 3) := by decide +kernel
theorem dX4_find_7 : decode cX4_find 7 = .ok (.getfield 62, 3) := by decide +kernel
theorem dX4_find_10 : decode cX4_find 10 = .ok (.if_icmp .ge 30, 3) := by decide +kernel
theorem dX4_find_13 : decode cX4_find 13 = .ok (.aload_n 0, 1) := by decide +kernel
theorem dX4_find_14 : decode cX4_find 14 = .ok (.getfield 10, 3) := by decide +kernel
theorem dX4_find_17 : decode cX4_find 17 = .ok (.aload_n 0, 1) := by decide +kernel
theorem dX4_find_18 : decode cX4_find 18 = .ok (.getfield 19, 3) := by decide +kernel
theorem dX4_find_21 : decode cX4_find 21 = .ok (.getfield 72, 3) := by decide +kernel
theorem dX4_find_24 : decode cX4_find 24 = .ok (.iload_n 1, 1) := by decide +kernel
theorem dX4_find_25 : decode cX4_find 25 = .ok (.aaload, 1) := by decide +kernel
theorem dX4_find_26 : decode cX4_find 26 = .ok (.invokevirtual 185, 3) := by decide +kernel
theorem dX4_find_29 : decode cX4_find 29 = .ok (.ifCond .eq 5, 3) := by decide +kernel
theorem dX4_find_32 : decode cX4_find 32 = .ok (.iload_n 1, 1) := by decide +kernel
theorem dX4_find_33 : decode cX4_find 33 = .ok (.ireturn, 1) := by decide +kernel
theorem dX4_find_34 : decode cX4_find 34 = .ok (.iinc 1 1, 3) := by decide +kernel
theorem dX4_find_37 : decode cX4_find 37 = .ok (.goto (-35), 3) := by decide +kernel
theorem dX4_find_40 : decode cX4_find 40 = .ok (.ldc 138, 2) := by decide +kernel
theorem dX4_find_42 : decode cX4_find 42 = .ok (.ireturn, 1) := by decide +kernel
set_option maxRecDepth 20000 in
theorem ggX4_mean_X0_widthOfAll : GoodIn wsX4_mean wsX0_widthOfAll := goodIn_r _ [8, 9, 10, 11, 12, 13, 14, 15, 16, 17, 18, 19, 20, 29, 30, 31, 32, 33, 34, 35, 36, 37, 38, 39, 40, 41, 42, 43] (by decide +kernel) (by decide +kernel)
set_option maxRecDepth 20000 in
theorem gX4_mean_X0_widthOfAll : GoodIn wsX4_mean (wsV RX4 189 RX0 yX0_widthOfAll wsX0_widthOfAll) := goodIn_app (goodIn_of _ (by decide +kernel)) ggX4_mean_X0_widthOfAll
set_option maxRecDepth 20000 in
theorem ggX4_mean_X4_floatBits : GoodIn wsX4_mean wsX4_floatBits := goodIn_r _ [23, 24] (by decide +kernel) (by decide +kernel)
set_option maxRecDepth 20000 in
theorem gX4_mean_X4_floatBits : GoodIn wsX4_mean (va_wsS RX4 192 yX4_floatBits wsX4_floatBits) := goodIn_app (goodIn_of _ (by decide +kernel)) ggX4_mean_X4_floatBits
theorem dX4_mean_0 : decode cX4_mean 0 = .ok (.aload_n 0, 1) := by decide +kernel
theorem dX4_mean_1 : decode cX4_mean 1 = .ok (.getfield 19, 3) := by decide +kernel
theorem dX4_mean_4 : decode cX4_mean 4 = .ok (.getfield 62, 3) := by decide +kernel
theorem dX4_mean_7 : decode cX4_mean 7 = .ok (.ifCond .ne 6, 3) := by decide +kernel
theorem dX4_mean_10 : decode cX4_mean 10 = .ok (.ldc 138, 2) := by decide +kernel
theorem dX4_mean_12 : decode cX4_mean 12 = .ok (.ireturn, 1) := by decide +kernel
theorem dX4_mean_13 : decode cX4_mean 13 = .ok (.aload_n 0, 1) := by decide +kernel
theorem dX4_mean_14 : decode cX4_mean 14 = .ok (.getfield 19, 3) := by decide +kernel
theorem dX4_mean_17 : decode cX4_mean 17 = .ok (.invokevirtual 189, 3) := by decide +kernel
theorem dX4_mean_20 : decode cX4_mean 20 = .ok (.i2f, 1) := by decide +kernel
theorem dX4_mean_21 : decode cX4_mean 21 = .ok (.aload_n 0, 1) := by decide +kernel
theorem dX4_mean_22 : decode cX4_mean 22 = .ok (.getfield 19, 3) := by decide +kernel
theorem dX4_mean_25 : decode cX4_mean 25 = .ok (.getfield 62, 3) := by decide +kernel
theorem dX4_mean_28 : decode cX4_mean 28 = .ok (.i2f, 1) := by decide +kernel
theorem dX4_mean_29 : decode cX4_mean 29 = .ok (.fdiv, 1) := by decide +kernel
theorem dX4_mean_30 : decode cX4_mean 30 = .ok (.invokestatic 192, 3) := by decide +kernel
theorem dX4_mean_33 : decode cX4_mean 33 = .ok (.ireturn, 1) := by decide +kernel
set_option maxRecDepth 20000 in
theorem ggX4_count_X0_tornRows : GoodIn wsX4_count wsX0_tornRows := goodIn_r _ [20, 21, 22, 23, 125, 126, 127, 128, 129, 130, 131, 132, 133, 134, 135, 138, 139, 140, 141] (by decide +kernel) (by decide +kernel)
set_option maxRecDepth 20000 in
theorem gX4_count_X0_tornRows : GoodIn wsX4_count (wsV RX4 152 RX0 yX0_tornRows wsX0_tornRows) := goodIn_app (goodIn_of _ (by decide +kernel)) ggX4_count_X0_tornRows
set_option maxRecDepth 20000 in
theorem ggX4_count_X0_wrongOf : GoodIn wsX4_count wsX0_wrongOf := goodIn_r _ [27, 22, 23, 28, 29, 30, 31, 32, 19, 33, 21, 34, 35, 36, 37, 38, 39, 40, 41, 42, 43, 44, 45, 46, 47, 48, 49, 50, 51, 52, 53, 54, 55, 56, 57, 58, 59, 60, 61, 62, 63, 64, 65, 66, 67, 68, 69, 70, 71, 72, 73, 74, 75, 76, 77, 78, 79, 80, 81, 82, 83, 84, 85, 86, 87, 88, 89, 90, 91, 92, 93, 94, 95, 96, 97, 98, 99, 100, 101, 102, 103, 104, 105, 106, 107, 108, 109, 110, 111, 112, 113, 114, 115, 116, 125, 126, 127, 128, 129, 130, 131, 132, 133, 134, 135, 138, 139, 140, 141, 142, 143, 144] (by decide +kernel) (by decide +kernel)
set_option maxRecDepth 20000 in
theorem gX4_count_X0_wrongOf : GoodIn wsX4_count (wsV RX4 204 RX0 yX0_wrongOf wsX0_wrongOf) := goodIn_app (goodIn_of _ (by decide +kernel)) ggX4_count_X0_wrongOf
set_option maxRecDepth 20000 in
theorem ggX4_count_X0_widest : GoodIn wsX4_count wsX0_widest := goodIn_r _ [120, 21, 22, 105, 106, 107, 37, 108, 39, 44, 109, 110, 111, 125, 126, 127, 128, 129, 130, 131, 132, 133, 134, 135, 138, 139, 140, 141] (by decide +kernel) (by decide +kernel)
set_option maxRecDepth 20000 in
theorem gX4_count_X0_widest : GoodIn wsX4_count (wsV RX4 207 RX0 yX0_widest wsX0_widest) := goodIn_app (goodIn_of _ (by decide +kernel)) ggX4_count_X0_widest
theorem dX4_count_0 : decode cX4_count 0 = .ok (.iload_n 1, 1) := by decide +kernel
theorem dX4_count_1 : decode cX4_count 1 = .ok (.tableswitch 291 0 22 #[107, 115, 138, 146, 170, 178, 186, 194, 202, 210, 225, 248, 253, 291, 291, 291, 291, 291, 291, 291, 261, 271, 281], 107) := by decide +kernel
theorem dX4_count_108 : decode cX4_count 108 = .ok (.aload_n 0, 1) := by decide +kernel
theorem dX4_count_109 : decode cX4_count 109 = .ok (.getfield 19, 3) := by decide +kernel
theorem dX4_count_112 : decode cX4_count 112 = .ok (.getfield 62, 3) := by decide +kernel
theorem dX4_count_115 : decode cX4_count 115 = .ok (.ireturn, 1) := by decide +kernel
theorem dX4_count_116 : decode cX4_count 116 = .ok (.aload_n 0, 1) := by decide +kernel
theorem dX4_count_117 : decode cX4_count 117 = .ok (.getfield 19, 3) := by decide +kernel
theorem dX4_count_120 : decode cX4_count 120 = .ok (.getfield 62, 3) := by decide +kernel
theorem dX4_count_123 : decode cX4_count 123 = .ok (.ifCond .ne 8, 3) := by decide +kernel
theorem dX4_count_126 : decode cX4_count 126 = .ok (.ldc 138, 2) := by decide +kernel
theorem dX4_count_128 : decode cX4_count 128 = .ok (.goto 10, 3) := by decide +kernel
theorem dX4_count_131 : decode cX4_count 131 = .ok (.aload_n 0, 1) := by decide +kernel
theorem dX4_count_132 : decode cX4_count 132 = .ok (.getfield 19, 3) := by decide +kernel
theorem dX4_count_135 : decode cX4_count 135 = .ok (.getfield 65, 3) := by decide +kernel
theorem dX4_count_138 : decode cX4_count 138 = .ok (.ireturn, 1) := by decide +kernel
theorem dX4_count_139 : decode cX4_count 139 = .ok (.aload_n 0, 1) := by decide +kernel
theorem dX4_count_140 : decode cX4_count 140 = .ok (.getfield 19, 3) := by decide +kernel
theorem dX4_count_143 : decode cX4_count 143 = .ok (.getfield 95, 3) := by decide +kernel
theorem dX4_count_146 : decode cX4_count 146 = .ok (.ireturn, 1) := by decide +kernel
theorem dX4_count_147 : decode cX4_count 147 = .ok (.aload_n 0, 1) := by decide +kernel
theorem dX4_count_148 : decode cX4_count 148 = .ok (.getfield 19, 3) := by decide +kernel
theorem dX4_count_151 : decode cX4_count 151 = .ok (.getfield 105, 3) := by decide +kernel
theorem dX4_count_154 : decode cX4_count 154 = .ok (.iconst (-1), 1) := by decide +kernel
theorem dX4_count_155 : decode cX4_count 155 = .ok (.if_icmp .ne 8, 3) := by decide +kernel
theorem dX4_count_158 : decode cX4_count 158 = .ok (.ldc 138, 2) := by decide +kernel
theorem dX4_count_160 : decode cX4_count 160 = .ok (.goto 10, 3) := by decide +kernel
theorem dX4_count_163 : decode cX4_count 163 = .ok (.aload_n 0, 1) := by decide +kernel
theorem dX4_count_164 : decode cX4_count 164 = .ok (.getfield 19, 3) := by decide +kernel
theorem dX4_count_167 : decode cX4_count 167 = .ok (.getfield 105, 3) := by decide +kernel
theorem dX4_count_170 : decode cX4_count 170 = .ok (.ireturn, 1) := by decide +kernel
theorem dX4_count_171 : decode cX4_count 171 = .ok (.aload_n 0, 1) := by decide +kernel
theorem dX4_count_172 : decode cX4_count 172 = .ok (.getfield 19, 3) := by decide +kernel
theorem dX4_count_175 : decode cX4_count 175 = .ok (.invokevirtual 152, 3) := by decide +kernel
theorem dX4_count_178 : decode cX4_count 178 = .ok (.ireturn, 1) := by decide +kernel
theorem dX4_count_179 : decode cX4_count 179 = .ok (.aload_n 0, 1) := by decide +kernel
theorem dX4_count_180 : decode cX4_count 180 = .ok (.getfield 19, 3) := by decide +kernel
theorem dX4_count_183 : decode cX4_count 183 = .ok (.getfield 196, 3) := by decide +kernel
theorem dX4_count_186 : decode cX4_count 186 = .ok (.ireturn, 1) := by decide +kernel
theorem dX4_count_187 : decode cX4_count 187 = .ok (.aload_n 0, 1) := by decide +kernel
theorem dX4_count_188 : decode cX4_count 188 = .ok (.getfield 19, 3) := by decide +kernel
theorem dX4_count_191 : decode cX4_count 191 = .ok (.getfield 199, 3) := by decide +kernel
theorem dX4_count_194 : decode cX4_count 194 = .ok (.ireturn, 1) := by decide +kernel
theorem dX4_count_195 : decode cX4_count 195 = .ok (.aload_n 0, 1) := by decide +kernel
theorem dX4_count_196 : decode cX4_count 196 = .ok (.getfield 19, 3) := by decide +kernel
theorem dX4_count_199 : decode cX4_count 199 = .ok (.getfield 202, 3) := by decide +kernel
theorem dX4_count_202 : decode cX4_count 202 = .ok (.ireturn, 1) := by decide +kernel
theorem dX4_count_203 : decode cX4_count 203 = .ok (.aload_n 0, 1) := by decide +kernel
theorem dX4_count_204 : decode cX4_count 204 = .ok (.getfield 19, 3) := by decide +kernel
theorem dX4_count_207 : decode cX4_count 207 = .ok (.getfield 203, 3) := by decide +kernel
theorem dX4_count_210 : decode cX4_count 210 = .ok (.ireturn, 1) := by decide +kernel
theorem dX4_count_211 : decode cX4_count 211 = .ok (.aload_n 0, 1) := by decide +kernel
theorem dX4_count_212 : decode cX4_count 212 = .ok (.getfield 19, 3) := by decide +kernel
theorem dX4_count_215 : decode cX4_count 215 = .ok (.aload_n 0, 1) := by decide +kernel
theorem dX4_count_216 : decode cX4_count 216 = .ok (.getfield 19, 3) := by decide +kernel
theorem dX4_count_219 : decode cX4_count 219 = .ok (.getfield 65, 3) := by decide +kernel
theorem dX4_count_222 : decode cX4_count 222 = .ok (.invokevirtual 204, 3) := by decide +kernel
theorem dX4_count_225 : decode cX4_count 225 = .ok (.ireturn, 1) := by decide +kernel
theorem dX4_count_226 : decode cX4_count 226 = .ok (.aload_n 0, 1) := by decide +kernel
theorem dX4_count_227 : decode cX4_count 227 = .ok (.getfield 19, 3) := by decide +kernel
theorem dX4_count_230 : decode cX4_count 230 = .ok (.getfield 62, 3) := by decide +kernel
theorem dX4_count_233 : decode cX4_count 233 = .ok (.ifCond .ne 8, 3) := by decide +kernel
theorem dX4_count_236 : decode cX4_count 236 = .ok (.ldc 138, 2) := by decide +kernel
theorem dX4_count_238 : decode cX4_count 238 = .ok (.goto 10, 3) := by decide +kernel
theorem dX4_count_241 : decode cX4_count 241 = .ok (.aload_n 0, 1) := by decide +kernel
theorem dX4_count_242 : decode cX4_count 242 = .ok (.getfield 19, 3) := by decide +kernel
theorem dX4_count_245 : decode cX4_count 245 = .ok (.invokevirtual 207, 3) := by decide +kernel
theorem dX4_count_248 : decode cX4_count 248 = .ok (.ireturn, 1) := by decide +kernel
theorem dX4_count_249 : decode cX4_count 249 = .ok (.aload_n 0, 1) := by decide +kernel
theorem dX4_count_250 : decode cX4_count 250 = .ok (.getfield 27, 3) := by decide +kernel
theorem dX4_count_253 : decode cX4_count 253 = .ok (.ireturn, 1) := by decide +kernel
theorem dX4_count_254 : decode cX4_count 254 = .ok (.aload_n 0, 1) := by decide +kernel
theorem dX4_count_255 : decode cX4_count 255 = .ok (.getfield 10, 3) := by decide +kernel
theorem dX4_count_258 : decode cX4_count 258 = .ok (.getfield 39, 3) := by decide +kernel
theorem dX4_count_261 : decode cX4_count 261 = .ok (.ireturn, 1) := by decide +kernel
theorem dX4_count_262 : decode cX4_count 262 = .ok (.aload_n 0, 1) := by decide +kernel
theorem dX4_count_263 : decode cX4_count 263 = .ok (.getfield 19, 3) := by decide +kernel
theorem dX4_count_266 : decode cX4_count 266 = .ok (.getfield 118, 3) := by decide +kernel
theorem dX4_count_269 : decode cX4_count 269 = .ok (.iconst 0, 1) := by decide +kernel
theorem dX4_count_270 : decode cX4_count 270 = .ok (.iaload, 1) := by decide +kernel
theorem dX4_count_271 : decode cX4_count 271 = .ok (.ireturn, 1) := by decide +kernel
theorem dX4_count_272 : decode cX4_count 272 = .ok (.aload_n 0, 1) := by decide +kernel
theorem dX4_count_273 : decode cX4_count 273 = .ok (.getfield 19, 3) := by decide +kernel
theorem dX4_count_276 : decode cX4_count 276 = .ok (.getfield 118, 3) := by decide +kernel
theorem dX4_count_279 : decode cX4_count 279 = .ok (.iconst 1, 1) := by decide +kernel
theorem dX4_count_280 : decode cX4_count 280 = .ok (.iaload, 1) := by decide +kernel
theorem dX4_count_281 : decode cX4_count 281 = .ok (.ireturn, 1) := by decide +kernel
theorem dX4_count_282 : decode cX4_count 282 = .ok (.aload_n 0, 1) := by decide +kernel
theorem dX4_count_283 : decode cX4_count 283 = .ok (.getfield 19, 3) := by decide +kernel
theorem dX4_count_286 : decode cX4_count 286 = .ok (.getfield 118, 3) := by decide +kernel
theorem dX4_count_289 : decode cX4_count 289 = .ok (.iconst 2, 1) := by decide +kernel
theorem dX4_count_290 : decode cX4_count 290 = .ok (.iaload, 1) := by decide +kernel
theorem dX4_count_291 : decode cX4_count 291 = .ok (.ireturn, 1) := by decide +kernel
theorem dX4_count_292 : decode cX4_count 292 = .ok (.ldc 57, 2) := by decide +kernel
theorem dX4_count_294 : decode cX4_count 294 = .ok (.ireturn, 1) := by decide +kernel
set_option maxRecDepth 20000 in
theorem ggX4_undo_X0_become : GoodIn wsX4_undo wsX0_become := goodIn_r _ [9, 10, 11, 12, 13, 14, 15, 16, 17, 18, 19, 20, 21, 22, 23, 24, 25, 26, 27, 28, 29, 30, 31, 32, 33, 34, 35, 36, 37, 38, 39, 40, 41, 42, 47, 48, 49, 50, 51, 52, 53, 54, 55, 56, 57, 58, 59, 60, 61, 62, 63, 64] (by decide +kernel) (by decide +kernel)
set_option maxRecDepth 20000 in
theorem gX4_undo_X0_become : GoodIn wsX4_undo (wsV RX4 210 RX0 yX0_become wsX0_become) := goodIn_app (goodIn_of _ (by decide +kernel)) ggX4_undo_X0_become
theorem dX4_undo_0 : decode cX4_undo 0 = .ok (.aload_n 0, 1) := by decide +kernel
theorem dX4_undo_1 : decode cX4_undo 1 = .ok (.getfield 27, 3) := by decide +kernel
theorem dX4_undo_4 : decode cX4_undo 4 = .ok (.ifCond .ne 6, 3) := by decide +kernel
theorem dX4_undo_7 : decode cX4_undo 7 = .ok (.ldc 35, 2) := by decide +kernel
theorem dX4_undo_9 : decode cX4_undo 9 = .ok (.ireturn, 1) := by decide +kernel
theorem dX4_undo_10 : decode cX4_undo 10 = .ok (.aload_n 0, 1) := by decide +kernel
theorem dX4_undo_11 : decode cX4_undo 11 = .ok (.dup, 1) := by decide +kernel
theorem dX4_undo_12 : decode cX4_undo 12 = .ok (.getfield 27, 3) := by decide +kernel
theorem dX4_undo_15 : decode cX4_undo 15 = .ok (.iconst 1, 1) := by decide +kernel
theorem dX4_undo_16 : decode cX4_undo 16 = .ok (.isub, 1) := by decide +kernel
theorem dX4_undo_17 : decode cX4_undo 17 = .ok (.putfield 27, 3) := by decide +kernel
theorem dX4_undo_20 : decode cX4_undo 20 = .ok (.aload_n 0, 1) := by decide +kernel
theorem dX4_undo_21 : decode cX4_undo 21 = .ok (.getfield 19, 3) := by decide +kernel
theorem dX4_undo_24 : decode cX4_undo 24 = .ok (.aload_n 0, 1) := by decide +kernel
theorem dX4_undo_25 : decode cX4_undo 25 = .ok (.getfield 23, 3) := by decide +kernel
theorem dX4_undo_28 : decode cX4_undo 28 = .ok (.aload_n 0, 1) := by decide +kernel
theorem dX4_undo_29 : decode cX4_undo 29 = .ok (.getfield 27, 3) := by decide +kernel
theorem dX4_undo_32 : decode cX4_undo 32 = .ok (.aaload, 1) := by decide +kernel
theorem dX4_undo_33 : decode cX4_undo 33 = .ok (.invokevirtual 210, 3) := by decide +kernel
theorem dX4_undo_36 : decode cX4_undo 36 = .ok (.aload_n 0, 1) := by decide +kernel
theorem dX4_undo_37 : decode cX4_undo 37 = .ok (.getfield 27, 3) := by decide +kernel
theorem dX4_undo_40 : decode cX4_undo 40 = .ok (.ireturn, 1) := by decide +kernel
set_option maxRecDepth 20000 in
theorem ggX4_type_X3_append : GoodIn wsX4_type wsX3_append := goodIn_r _ [9, 10, 11, 16, 17] (by decide +kernel) (by decide +kernel)
set_option maxRecDepth 20000 in
theorem gX4_type_X3_append : GoodIn wsX4_type (wsV RX4 214 RX3 yX3_append wsX3_append) := goodIn_app (goodIn_of _ (by decide +kernel)) ggX4_type_X3_append
theorem dX4_type_0 : decode cX4_type 0 = .ok (.iload_n 1, 1) := by decide +kernel
theorem dX4_type_1 : decode cX4_type 1 = .ok (.bipush 32, 2) := by decide +kernel
theorem dX4_type_3 : decode cX4_type 3 = .ok (.if_icmp .lt 9, 3) := by decide +kernel
theorem dX4_type_6 : decode cX4_type 6 = .ok (.iload_n 1, 1) := by decide +kernel
theorem dX4_type_7 : decode cX4_type 7 = .ok (.bipush 126, 2) := by decide +kernel
theorem dX4_type_9 : decode cX4_type 9 = .ok (.if_icmp .le 6, 3) := by decide +kernel
theorem dX4_type_12 : decode cX4_type 12 = .ok (.ldc 57, 2) := by decide +kernel
theorem dX4_type_14 : decode cX4_type 14 = .ok (.ireturn, 1) := by decide +kernel
theorem dX4_type_15 : decode cX4_type 15 = .ok (.aload_n 0, 1) := by decide +kernel
theorem dX4_type_16 : decode cX4_type 16 = .ok (.getfield 10, 3) := by decide +kernel
theorem dX4_type_19 : decode cX4_type 19 = .ok (.getfield 39, 3) := by decide +kernel
theorem dX4_type_22 : decode cX4_type 22 = .ok (.bipush 60, 2) := by decide +kernel
theorem dX4_type_24 : decode cX4_type 24 = .ok (.if_icmp .lt 6, 3) := by decide +kernel
theorem dX4_type_27 : decode cX4_type 27 = .ok (.ldc 98, 2) := by decide +kernel
theorem dX4_type_29 : decode cX4_type 29 = .ok (.ireturn, 1) := by decide +kernel
theorem dX4_type_30 : decode cX4_type 30 = .ok (.aload_n 0, 1) := by decide +kernel
theorem dX4_type_31 : decode cX4_type 31 = .ok (.getfield 10, 3) := by decide +kernel
theorem dX4_type_34 : decode cX4_type 34 = .ok (.iload_n 1, 1) := by decide +kernel
theorem dX4_type_35 : decode cX4_type 35 = .ok (.i2c, 1) := by decide +kernel
theorem dX4_type_36 : decode cX4_type 36 = .ok (.invokevirtual 214, 3) := by decide +kernel
theorem dX4_type_39 : decode cX4_type 39 = .ok (.aload_n 0, 1) := by decide +kernel
theorem dX4_type_40 : decode cX4_type 40 = .ok (.getfield 10, 3) := by decide +kernel
theorem dX4_type_43 : decode cX4_type 43 = .ok (.getfield 39, 3) := by decide +kernel
theorem dX4_type_46 : decode cX4_type 46 = .ok (.ireturn, 1) := by decide +kernel
theorem dX4_clearText_0 : decode cX4_clearText 0 = .ok (.aload_n 0, 1) := by decide +kernel
theorem dX4_clearText_1 : decode cX4_clearText 1 = .ok (.getfield 10, 3) := by decide +kernel
theorem dX4_clearText_4 : decode cX4_clearText 4 = .ok (.getfield 39, 3) := by decide +kernel
theorem dX4_clearText_7 : decode cX4_clearText 7 = .ok (.istore_n 1, 1) := by decide +kernel
theorem dX4_clearText_8 : decode cX4_clearText 8 = .ok (.aload_n 0, 1) := by decide +kernel
theorem dX4_clearText_9 : decode cX4_clearText 9 = .ok (.getfield 10, 3) := by decide +kernel
theorem dX4_clearText_12 : decode cX4_clearText 12 = .ok (.iconst 0, 1) := by decide +kernel
theorem dX4_clearText_13 : decode cX4_clearText 13 = .ok (.putfield 39, 3) := by decide +kernel
theorem dX4_clearText_16 : decode cX4_clearText 16 = .ok (.iload_n 1, 1) := by decide +kernel
theorem dX4_clearText_17 : decode cX4_clearText 17 = .ok (.ireturn, 1) := by decide +kernel
set_option maxRecDepth 20000 in
theorem ggX4_fault_X4_faultPlace : GoodIn wsX4_fault wsX4_faultPlace := goodIn_r _ [7, 8, 9, 10, 11, 12, 13, 14, 15, 16, 17, 18, 19, 6, 20, 21, 22, 23, 24, 25, 26, 27, 28, 29, 30, 31, 32, 33, 34, 35, 36, 37, 38, 39, 40, 41, 42, 43, 44, 45, 46, 51, 52, 53, 54, 55, 56, 57, 58, 59, 60, 61, 62, 63, 64, 65, 66, 67] (by decide +kernel) (by decide +kernel)
set_option maxRecDepth 20000 in
theorem gX4_fault_X4_faultPlace : GoodIn wsX4_fault (wsV RX4 31 RX4 yX4_faultPlace wsX4_faultPlace) := goodIn_app (goodIn_of _ (by decide +kernel)) ggX4_fault_X4_faultPlace
set_option maxRecDepth 20000 in
theorem ggX4_fault_X4_faultReason : GoodIn wsX4_fault wsX4_faultReason := goodIn_r _ [20, 8, 21, 22, 23, 24, 25, 13, 26, 15, 16, 27, 28, 29, 30, 31, 32, 33, 34, 35, 36, 37, 38, 39, 6, 40, 41, 42, 43, 44, 45, 46, 10, 11, 12, 14, 51, 52, 53, 54, 57, 58, 59, 60, 61, 62, 63, 64, 65, 66, 67, 55, 56] (by decide +kernel) (by decide +kernel)
set_option maxRecDepth 20000 in
theorem gX4_fault_X4_faultReason : GoodIn wsX4_fault (wsV RX4 217 RX4 yX4_faultReason wsX4_faultReason) := goodIn_app (goodIn_of _ (by decide +kernel)) ggX4_fault_X4_faultReason
set_option maxRecDepth 20000 in
theorem ggX4_fault_X4_faultCause : GoodIn wsX4_fault wsX4_faultCause := goodIn_r _ [50, 8, 21, 23, 24, 25, 13, 26, 15, 16, 17, 18, 19, 6, 20, 22, 27, 28, 29, 30, 31, 32, 33, 34, 35, 36, 37, 38, 39, 40, 41, 42, 43, 44, 45, 46, 10, 11, 12, 14, 51, 52, 53, 54, 55, 56, 57, 58, 59, 60, 61, 62, 63, 64, 65, 66, 67] (by decide +kernel) (by decide +kernel)
set_option maxRecDepth 20000 in
theorem gX4_fault_X4_faultCause : GoodIn wsX4_fault (wsV RX4 220 RX4 yX4_faultCause wsX4_faultCause) := goodIn_app (goodIn_of _ (by decide +kernel)) ggX4_fault_X4_faultCause
theorem dX4_fault_0 : decode cX4_fault 0 = .ok (.iload_n 1, 1) := by decide +kernel
theorem dX4_fault_1 : decode cX4_fault 1 = .ok (.ifCond .lt 8, 3) := by decide +kernel
theorem dX4_fault_4 : decode cX4_fault 4 = .ok (.iload_n 1, 1) := by decide +kernel
theorem dX4_fault_5 : decode cX4_fault 5 = .ok (.iconst 2, 1) := by decide +kernel
theorem dX4_fault_6 : decode cX4_fault 6 = .ok (.if_icmp .le 6, 3) := by decide +kernel
theorem dX4_fault_9 : decode cX4_fault 9 = .ok (.ldc 57, 2) := by decide +kernel
theorem dX4_fault_11 : decode cX4_fault 11 = .ok (.ireturn, 1) := by decide +kernel
theorem dX4_fault_12 : decode cX4_fault 12 = .ok (.aload_n 0, 1) := by decide +kernel
theorem dX4_fault_13 : decode cX4_fault 13 = .ok (.invokevirtual 31, 3) := by decide +kernel
theorem dX4_fault_16 : decode cX4_fault 16 = .ok (.istore_n 2, 1) := by decide +kernel
theorem dX4_fault_17 : decode cX4_fault 17 = .ok (.iload_n 2, 1) := by decide +kernel
theorem dX4_fault_18 : decode cX4_fault 18 = .ok (.iconst (-1), 1) := by decide +kernel
theorem dX4_fault_19 : decode cX4_fault 19 = .ok (.if_icmp .ne 6, 3) := by decide +kernel
theorem dX4_fault_22 : decode cX4_fault 22 = .ok (.ldc 138, 2) := by decide +kernel
theorem dX4_fault_24 : decode cX4_fault 24 = .ok (.ireturn, 1) := by decide +kernel
theorem dX4_fault_25 : decode cX4_fault 25 = .ok (.iload_n 1, 1) := by decide +kernel
theorem dX4_fault_26 : decode cX4_fault 26 = .ok (.lookupswitch 34 #[(0, 26), (1, 28)], 26) := by decide +kernel
theorem dX4_fault_52 : decode cX4_fault 52 = .ok (.iload_n 2, 1) := by decide +kernel
theorem dX4_fault_53 : decode cX4_fault 53 = .ok (.ireturn, 1) := by decide +kernel
theorem dX4_fault_54 : decode cX4_fault 54 = .ok (.aload_n 0, 1) := by decide +kernel
theorem dX4_fault_55 : decode cX4_fault 55 = .ok (.iload_n 2, 1) := by decide +kernel
theorem dX4_fault_56 : decode cX4_fault 56 = .ok (.invokevirtual 217, 3) := by decide +kernel
theorem dX4_fault_59 : decode cX4_fault 59 = .ok (.ireturn, 1) := by decide +kernel
theorem dX4_fault_60 : decode cX4_fault 60 = .ok (.aload_n 0, 1) := by decide +kernel
theorem dX4_fault_61 : decode cX4_fault 61 = .ok (.iload_n 2, 1) := by decide +kernel
theorem dX4_fault_62 : decode cX4_fault 62 = .ok (.invokevirtual 220, 3) := by decide +kernel
theorem dX4_fault_65 : decode cX4_fault 65 = .ok (.ireturn, 1) := by decide +kernel
theorem dX4_isCranking_0 : decode cX4_isCranking 0 = .ok (.iload_n 0, 1) := by decide +kernel
theorem dX4_isCranking_1 : decode cX4_isCranking 1 = .ok (.bipush (-20), 2) := by decide +kernel
theorem dX4_isCranking_3 : decode cX4_isCranking 3 = .ok (.if_icmp .lt 27, 3) := by decide +kernel
theorem dX4_isCranking_6 : decode cX4_isCranking 6 = .ok (.iload_n 0, 1) := by decide +kernel
theorem dX4_isCranking_7 : decode cX4_isCranking 7 = .ok (.bipush 20, 2) := by decide +kernel
theorem dX4_isCranking_9 : decode cX4_isCranking 9 = .ok (.if_icmp .gt 21, 3) := by decide +kernel
theorem dX4_isCranking_12 : decode cX4_isCranking 12 = .ok (.iload_n 0, 1) := by decide +kernel
theorem dX4_isCranking_13 : decode cX4_isCranking 13 = .ok (.ifCond .eq 17, 3) := by decide +kernel
theorem dX4_isCranking_16 : decode cX4_isCranking 16 = .ok (.iload_n 1, 1) := by decide +kernel
theorem dX4_isCranking_17 : decode cX4_isCranking 17 = .ok (.iconst 1, 1) := by decide +kernel
theorem dX4_isCranking_18 : decode cX4_isCranking 18 = .ok (.if_icmp .lt 12, 3) := by decide +kernel
theorem dX4_isCranking_21 : decode cX4_isCranking 21 = .ok (.iload_n 1, 1) := by decide +kernel
theorem dX4_isCranking_22 : decode cX4_isCranking 22 = .ok (.iconst 3, 1) := by decide +kernel
theorem dX4_isCranking_23 : decode cX4_isCranking 23 = .ok (.if_icmp .gt 7, 3) := by decide +kernel
theorem dX4_isCranking_26 : decode cX4_isCranking 26 = .ok (.iconst 1, 1) := by decide +kernel
theorem dX4_isCranking_27 : decode cX4_isCranking 27 = .ok (.goto 4, 3) := by decide +kernel
theorem dX4_isCranking_30 : decode cX4_isCranking 30 = .ok (.iconst 0, 1) := by decide +kernel
theorem dX4_isCranking_31 : decode cX4_isCranking 31 = .ok (.ireturn, 1) := by decide +kernel
set_option maxRecDepth 20000 in
theorem ggX4_remember_X0_become : GoodIn wsX4_remember wsX0_become := goodIn_r _ [8, 9, 10, 11, 12, 13, 14, 15, 16, 17, 18, 19, 20, 21, 22, 23, 24, 25, 26, 27, 28, 29, 30, 31, 32, 33, 34, 35, 36, 37, 38, 39, 40, 41, 46, 47, 48, 49, 50, 51, 52, 53, 54, 55, 56, 57, 58, 59, 60, 61, 62, 63] (by decide +kernel) (by decide +kernel)
set_option maxRecDepth 20000 in
theorem gX4_remember_X0_become : GoodIn wsX4_remember (wsV RX4 210 RX0 yX0_become wsX0_become) := goodIn_app (goodIn_of _ (by decide +kernel)) ggX4_remember_X0_become
theorem dX4_remember_0 : decode cX4_remember 0 = .ok (.aload_n 0, 1) := by decide +kernel
theorem dX4_remember_1 : decode cX4_remember 1 = .ok (.getfield 27, 3) := by decide +kernel
theorem dX4_remember_4 : decode cX4_remember 4 = .ok (.iconst 4, 1) := by decide +kernel
theorem dX4_remember_5 : decode cX4_remember 5 = .ok (.if_icmp .ne 54, 3) := by decide +kernel
theorem dX4_remember_8 : decode cX4_remember 8 = .ok (.aload_n 0, 1) := by decide +kernel
theorem dX4_remember_9 : decode cX4_remember 9 = .ok (.getfield 23, 3) := by decide +kernel
theorem dX4_remember_12 : decode cX4_remember 12 = .ok (.iconst 0, 1) := by decide +kernel
theorem dX4_remember_13 : decode cX4_remember 13 = .ok (.aaload, 1) := by decide +kernel
theorem dX4_remember_14 : decode cX4_remember 14 = .ok (.astore_n 1, 1) := by decide +kernel
theorem dX4_remember_15 : decode cX4_remember 15 = .ok (.iconst 1, 1) := by decide +kernel
theorem dX4_remember_16 : decode cX4_remember 16 = .ok (.istore_n 2, 1) := by decide +kernel
theorem dX4_remember_17 : decode cX4_remember 17 = .ok (.iload_n 2, 1) := by decide +kernel
theorem dX4_remember_18 : decode cX4_remember 18 = .ok (.iconst 4, 1) := by decide +kernel
theorem dX4_remember_19 : decode cX4_remember 19 = .ok (.if_icmp .ge 23, 3) := by decide +kernel
theorem dX4_remember_22 : decode cX4_remember 22 = .ok (.aload_n 0, 1) := by decide +kernel
theorem dX4_remember_23 : decode cX4_remember 23 = .ok (.getfield 23, 3) := by decide +kernel
theorem dX4_remember_26 : decode cX4_remember 26 = .ok (.iload_n 2, 1) := by decide +kernel
theorem dX4_remember_27 : decode cX4_remember 27 = .ok (.iconst 1, 1) := by decide +kernel
theorem dX4_remember_28 : decode cX4_remember 28 = .ok (.isub, 1) := by decide +kernel
theorem dX4_remember_29 : decode cX4_remember 29 = .ok (.aload_n 0, 1) := by decide +kernel
theorem dX4_remember_30 : decode cX4_remember 30 = .ok (.getfield 23, 3) := by decide +kernel
theorem dX4_remember_33 : decode cX4_remember 33 = .ok (.iload_n 2, 1) := by decide +kernel
theorem dX4_remember_34 : decode cX4_remember 34 = .ok (.aaload, 1) := by decide +kernel
theorem dX4_remember_35 : decode cX4_remember 35 = .ok (.aastore, 1) := by decide +kernel
theorem dX4_remember_36 : decode cX4_remember 36 = .ok (.iinc 2 1, 3) := by decide +kernel
theorem dX4_remember_39 : decode cX4_remember 39 = .ok (.goto (-22), 3) := by decide +kernel
theorem dX4_remember_42 : decode cX4_remember 42 = .ok (.aload_n 0, 1) := by decide +kernel
theorem dX4_remember_43 : decode cX4_remember 43 = .ok (.getfield 23, 3) := by decide +kernel
theorem dX4_remember_46 : decode cX4_remember 46 = .ok (.iconst 3, 1) := by decide +kernel
theorem dX4_remember_47 : decode cX4_remember 47 = .ok (.aload_n 1, 1) := by decide +kernel
theorem dX4_remember_48 : decode cX4_remember 48 = .ok (.aastore, 1) := by decide +kernel
theorem dX4_remember_49 : decode cX4_remember 49 = .ok (.aload_n 0, 1) := by decide +kernel
theorem dX4_remember_50 : decode cX4_remember 50 = .ok (.dup, 1) := by decide +kernel
theorem dX4_remember_51 : decode cX4_remember 51 = .ok (.getfield 27, 3) := by decide +kernel
theorem dX4_remember_54 : decode cX4_remember 54 = .ok (.iconst 1, 1) := by decide +kernel
theorem dX4_remember_55 : decode cX4_remember 55 = .ok (.isub, 1) := by decide +kernel
theorem dX4_remember_56 : decode cX4_remember 56 = .ok (.putfield 27, 3) := by decide +kernel
theorem dX4_remember_59 : decode cX4_remember 59 = .ok (.aload_n 0, 1) := by decide +kernel
theorem dX4_remember_60 : decode cX4_remember 60 = .ok (.getfield 23, 3) := by decide +kernel
theorem dX4_remember_63 : decode cX4_remember 63 = .ok (.aload_n 0, 1) := by decide +kernel
theorem dX4_remember_64 : decode cX4_remember 64 = .ok (.getfield 27, 3) := by decide +kernel
theorem dX4_remember_67 : decode cX4_remember 67 = .ok (.aaload, 1) := by decide +kernel
theorem dX4_remember_68 : decode cX4_remember 68 = .ok (.aload_n 0, 1) := by decide +kernel
theorem dX4_remember_69 : decode cX4_remember 69 = .ok (.getfield 19, 3) := by decide +kernel
theorem dX4_remember_72 : decode cX4_remember 72 = .ok (.invokevirtual 210, 3) := by decide +kernel
theorem dX4_remember_75 : decode cX4_remember 75 = .ok (.aload_n 0, 1) := by decide +kernel
theorem dX4_remember_76 : decode cX4_remember 76 = .ok (.dup, 1) := by decide +kernel
theorem dX4_remember_77 : decode cX4_remember 77 = .ok (.getfield 27, 3) := by decide +kernel
theorem dX4_remember_80 : decode cX4_remember 80 = .ok (.iconst 1, 1) := by decide +kernel
theorem dX4_remember_81 : decode cX4_remember 81 = .ok (.iadd, 1) := by decide +kernel
theorem dX4_remember_82 : decode cX4_remember 82 = .ok (.putfield 27, 3) := by decide +kernel
theorem dX4_remember_85 : decode cX4_remember 85 = .ok (.return_, 1) := by decide +kernel
set_option maxRecDepth 20000 in
theorem ggX4_faultPlace_X3_namesAhead : GoodIn wsX4_faultPlace wsX3_namesAhead := goodIn_r _ [7, 8, 9, 45, 46] (by decide +kernel) (by decide +kernel)
set_option maxRecDepth 20000 in
theorem gX4_faultPlace_X3_namesAhead : GoodIn wsX4_faultPlace (wsV RX4 42 RX3 yX3_namesAhead wsX3_namesAhead) := goodIn_app (goodIn_of _ (by decide +kernel)) ggX4_faultPlace_X3_namesAhead
set_option maxRecDepth 20000 in
theorem ggX4_faultPlace_X4_faultReason : GoodIn wsX4_faultPlace wsX4_faultReason := goodIn_r _ [14, 1, 15, 16, 17, 18, 19, 6, 20, 8, 9, 21, 22, 23, 24, 25, 26, 27, 28, 29, 30, 31, 32, 33, 13, 34, 35, 36, 37, 38, 39, 40, 3, 4, 5, 7, 41, 42, 43, 44, 47, 48, 49, 50, 51, 52, 53, 54, 55, 56, 57, 45, 46] (by decide +kernel) (by decide +kernel)
set_option maxRecDepth 20000 in
theorem gX4_faultPlace_X4_faultReason : GoodIn wsX4_faultPlace (wsV RX4 217 RX4 yX4_faultReason wsX4_faultReason) := goodIn_app (goodIn_of _ (by decide +kernel)) ggX4_faultPlace_X4_faultReason
set_option maxRecDepth 20000 in
theorem ggX4_faultPlace_X3_endOfName : GoodIn wsX4_faultPlace wsX3_endOfName := goodIn_r _ [20, 8, 9, 45, 46] (by decide +kernel) (by decide +kernel)
set_option maxRecDepth 20000 in
theorem gX4_faultPlace_X3_endOfName : GoodIn wsX4_faultPlace (wsV RX4 46 RX3 yX3_endOfName wsX3_endOfName) := goodIn_app (goodIn_of _ (by decide +kernel)) ggX4_faultPlace_X3_endOfName
theorem dX4_faultPlace_0 : decode cX4_faultPlace 0 = .ok (.aload_n 0, 1) := by decide +kernel
theorem dX4_faultPlace_1 : decode cX4_faultPlace 1 = .ok (.getfield 10, 3) := by decide +kernel
theorem dX4_faultPlace_4 : decode cX4_faultPlace 4 = .ok (.aload_n 0, 1) := by decide +kernel
theorem dX4_faultPlace_5 : decode cX4_faultPlace 5 = .ok (.getfield 10, 3) := by decide +kernel
theorem dX4_faultPlace_8 : decode cX4_faultPlace 8 = .ok (.getfield 39, 3) := by decide +kernel
theorem dX4_faultPlace_11 : decode cX4_faultPlace 11 = .ok (.invokevirtual 42, 3) := by decide +kernel
theorem dX4_faultPlace_14 : decode cX4_faultPlace 14 = .ok (.iconst 1, 1) := by decide +kernel
theorem dX4_faultPlace_15 : decode cX4_faultPlace 15 = .ok (.iadd, 1) := by decide +kernel
theorem dX4_faultPlace_16 : decode cX4_faultPlace 16 = .ok (.istore_n 1, 1) := by decide +kernel
theorem dX4_faultPlace_17 : decode cX4_faultPlace 17 = .ok (.iconst 0, 1) := by decide +kernel
theorem dX4_faultPlace_18 : decode cX4_faultPlace 18 = .ok (.istore_n 2, 1) := by decide +kernel
theorem dX4_faultPlace_19 : decode cX4_faultPlace 19 = .ok (.iconst 0, 1) := by decide +kernel
theorem dX4_faultPlace_20 : decode cX4_faultPlace 20 = .ok (.istore_n 3, 1) := by decide +kernel
theorem dX4_faultPlace_21 : decode cX4_faultPlace 21 = .ok (.iload_n 3, 1) := by decide +kernel
theorem dX4_faultPlace_22 : decode cX4_faultPlace 22 = .ok (.iload_n 1, 1) := by decide +kernel
theorem dX4_faultPlace_23 : decode cX4_faultPlace 23 = .ok (.if_icmp .ge 30, 3) := by decide +kernel
theorem dX4_faultPlace_26 : decode cX4_faultPlace 26 = .ok (.aload_n 0, 1) := by decide +kernel
theorem dX4_faultPlace_27 : decode cX4_faultPlace 27 = .ok (.iload_n 2, 1) := by decide +kernel
theorem dX4_faultPlace_28 : decode cX4_faultPlace 28 = .ok (.invokevirtual 217, 3) := by decide +kernel
theorem dX4_faultPlace_31 : decode cX4_faultPlace 31 = .ok (.ifCond .eq 5, 3) := by decide +kernel
theorem dX4_faultPlace_34 : decode cX4_faultPlace 34 = .ok (.iload_n 2, 1) := by decide +kernel
theorem dX4_faultPlace_35 : decode cX4_faultPlace 35 = .ok (.ireturn, 1) := by decide +kernel
theorem dX4_faultPlace_36 : decode cX4_faultPlace 36 = .ok (.aload_n 0, 1) := by decide +kernel
theorem dX4_faultPlace_37 : decode cX4_faultPlace 37 = .ok (.getfield 10, 3) := by decide +kernel
theorem dX4_faultPlace_40 : decode cX4_faultPlace 40 = .ok (.iload_n 2, 1) := by decide +kernel
theorem dX4_faultPlace_41 : decode cX4_faultPlace 41 = .ok (.invokevirtual 46, 3) := by decide +kernel
theorem dX4_faultPlace_44 : decode cX4_faultPlace 44 = .ok (.iconst 1, 1) := by decide +kernel
theorem dX4_faultPlace_45 : decode cX4_faultPlace 45 = .ok (.iadd, 1) := by decide +kernel
theorem dX4_faultPlace_46 : decode cX4_faultPlace 46 = .ok (.istore_n 2, 1) := by decide +kernel
theorem dX4_faultPlace_47 : decode cX4_faultPlace 47 = .ok (.iinc 3 1, 3) := by decide +kernel
theorem dX4_faultPlace_50 : decode cX4_faultPlace 50 = .ok (.goto (-29), 3) := by decide +kernel
theorem dX4_faultPlace_53 : decode cX4_faultPlace 53 = .ok (.iconst (-1), 1) := by decide +kernel
theorem dX4_faultPlace_54 : decode cX4_faultPlace 54 = .ok (.ireturn, 1) := by decide +kernel
set_option maxRecDepth 20000 in
theorem ggX4_faultReason_X3_endOfName : GoodIn wsX4_faultReason wsX3_endOfName := goodIn_r _ [8, 9, 10, 51, 52] (by decide +kernel) (by decide +kernel)
set_option maxRecDepth 20000 in
theorem gX4_faultReason_X3_endOfName : GoodIn wsX4_faultReason (wsV RX4 46 RX3 yX3_endOfName wsX3_endOfName) := goodIn_app (goodIn_of _ (by decide +kernel)) ggX4_faultReason_X3_endOfName
set_option maxRecDepth 20000 in
theorem ggX4_faultReason_X3_breakOf : GoodIn wsX4_faultReason wsX3_breakOf := goodIn_r _ [14, 15, 16, 17, 7, 18, 10, 51, 52] (by decide +kernel) (by decide +kernel)
set_option maxRecDepth 20000 in
theorem gX4_faultReason_X3_breakOf : GoodIn wsX4_faultReason (wsV RX4 223 RX3 yX3_breakOf wsX3_breakOf) := goodIn_app (goodIn_of _ (by decide +kernel)) ggX4_faultReason_X3_breakOf
set_option maxRecDepth 20000 in
theorem ggX4_faultReason_X3_width : GoodIn wsX4_faultReason wsX3_width := goodIn_r _ [22, 10, 23, 24, 25, 51, 52] (by decide +kernel) (by decide +kernel)
set_option maxRecDepth 20000 in
theorem gX4_faultReason_X3_width : GoodIn wsX4_faultReason (wsV RX4 226 RX3 yX3_width wsX3_width) := goodIn_app (goodIn_of _ (by decide +kernel)) ggX4_faultReason_X3_width
set_option maxRecDepth 20000 in
theorem ggX4_faultReason_X0_squeezed : GoodIn wsX4_faultReason wsX0_squeezed := goodIn_r _ [30, 31, 40, 41, 42, 43, 44, 45, 46, 47, 48, 49, 50] (by decide +kernel) (by decide +kernel)
set_option maxRecDepth 20000 in
theorem gX4_faultReason_X0_squeezed : GoodIn wsX4_faultReason (wsV RX4 125 RX0 yX0_squeezed wsX0_squeezed) := goodIn_app (goodIn_of _ (by decide +kernel)) ggX4_faultReason_X0_squeezed
set_option maxRecDepth 20000 in
theorem ggX4_faultReason_X3_namesAhead : GoodIn wsX4_faultReason wsX3_namesAhead := goodIn_r _ [35, 9, 10, 51, 52] (by decide +kernel) (by decide +kernel)
set_option maxRecDepth 20000 in
theorem gX4_faultReason_X3_namesAhead : GoodIn wsX4_faultReason (wsV RX4 42 RX3 yX3_namesAhead wsX3_namesAhead) := goodIn_app (goodIn_of _ (by decide +kernel)) ggX4_faultReason_X3_namesAhead
theorem dX4_faultReason_0 : decode cX4_faultReason 0 = .ok (.aload_n 0, 1) := by decide +kernel
theorem dX4_faultReason_1 : decode cX4_faultReason 1 = .ok (.getfield 10, 3) := by decide +kernel
theorem dX4_faultReason_4 : decode cX4_faultReason 4 = .ok (.iload_n 1, 1) := by decide +kernel
theorem dX4_faultReason_5 : decode cX4_faultReason 5 = .ok (.invokevirtual 46, 3) := by decide +kernel
theorem dX4_faultReason_8 : decode cX4_faultReason 8 = .ok (.istore_n 2, 1) := by decide +kernel
theorem dX4_faultReason_9 : decode cX4_faultReason 9 = .ok (.aload_n 0, 1) := by decide +kernel
theorem dX4_faultReason_10 : decode cX4_faultReason 10 = .ok (.getfield 10, 3) := by decide +kernel
theorem dX4_faultReason_13 : decode cX4_faultReason 13 = .ok (.iload_n 1, 1) := by decide +kernel
theorem dX4_faultReason_14 : decode cX4_faultReason 14 = .ok (.iload_n 2, 1) := by decide +kernel
theorem dX4_faultReason_15 : decode cX4_faultReason 15 = .ok (.invokevirtual 223, 3) := by decide +kernel
theorem dX4_faultReason_18 : decode cX4_faultReason 18 = .ok (.iconst (-1), 1) := by decide +kernel
theorem dX4_faultReason_19 : decode cX4_faultReason 19 = .ok (.if_icmp .eq 5, 3) := by decide +kernel
theorem dX4_faultReason_22 : decode cX4_faultReason 22 = .ok (.iconst 1, 1) := by decide +kernel
theorem dX4_faultReason_23 : decode cX4_faultReason 23 = .ok (.ireturn, 1) := by decide +kernel
theorem dX4_faultReason_24 : decode cX4_faultReason 24 = .ok (.aload_n 0, 1) := by decide +kernel
theorem dX4_faultReason_25 : decode cX4_faultReason 25 = .ok (.getfield 19, 3) := by decide +kernel
theorem dX4_faultReason_28 : decode cX4_faultReason 28 = .ok (.aload_n 0, 1) := by decide +kernel
theorem dX4_faultReason_29 : decode cX4_faultReason 29 = .ok (.getfield 10, 3) := by decide +kernel
theorem dX4_faultReason_32 : decode cX4_faultReason 32 = .ok (.iload_n 1, 1) := by decide +kernel
theorem dX4_faultReason_33 : decode cX4_faultReason 33 = .ok (.iload_n 2, 1) := by decide +kernel
theorem dX4_faultReason_34 : decode cX4_faultReason 34 = .ok (.invokevirtual 226, 3) := by decide +kernel
theorem dX4_faultReason_37 : decode cX4_faultReason 37 = .ok (.invokevirtual 125, 3) := by decide +kernel
theorem dX4_faultReason_40 : decode cX4_faultReason 40 = .ok (.sipush 150, 3) := by decide +kernel
theorem dX4_faultReason_43 : decode cX4_faultReason 43 = .ok (.if_icmp .le 5, 3) := by decide +kernel
theorem dX4_faultReason_46 : decode cX4_faultReason 46 = .ok (.iconst 2, 1) := by decide +kernel
theorem dX4_faultReason_47 : decode cX4_faultReason 47 = .ok (.ireturn, 1) := by decide +kernel
theorem dX4_faultReason_48 : decode cX4_faultReason 48 = .ok (.aload_n 0, 1) := by decide +kernel
theorem dX4_faultReason_49 : decode cX4_faultReason 49 = .ok (.getfield 19, 3) := by decide +kernel
theorem dX4_faultReason_52 : decode cX4_faultReason 52 = .ok (.getfield 62, 3) := by decide +kernel
theorem dX4_faultReason_55 : decode cX4_faultReason 55 = .ok (.aload_n 0, 1) := by decide +kernel
theorem dX4_faultReason_56 : decode cX4_faultReason 56 = .ok (.getfield 10, 3) := by decide +kernel
theorem dX4_faultReason_59 : decode cX4_faultReason 59 = .ok (.iload_n 1, 1) := by decide +kernel
theorem dX4_faultReason_60 : decode cX4_faultReason 60 = .ok (.invokevirtual 42, 3) := by decide +kernel
theorem dX4_faultReason_63 : decode cX4_faultReason 63 = .ok (.iadd, 1) := by decide +kernel
theorem dX4_faultReason_64 : decode cX4_faultReason 64 = .ok (.bipush 20, 2) := by decide +kernel
theorem dX4_faultReason_66 : decode cX4_faultReason 66 = .ok (.if_icmp .lt 7, 3) := by decide +kernel
theorem dX4_faultReason_69 : decode cX4_faultReason 69 = .ok (.iconst 3, 1) := by decide +kernel
theorem dX4_faultReason_70 : decode cX4_faultReason 70 = .ok (.goto 4, 3) := by decide +kernel
theorem dX4_faultReason_73 : decode cX4_faultReason 73 = .ok (.iconst 0, 1) := by decide +kernel
theorem dX4_faultReason_74 : decode cX4_faultReason 74 = .ok (.ireturn, 1) := by decide +kernel
set_option maxRecDepth 20000 in
theorem ggX4_faultCause_X3_endOfName : GoodIn wsX4_faultCause wsX3_endOfName := goodIn_r _ [7, 8, 9, 44, 45] (by decide +kernel) (by decide +kernel)
set_option maxRecDepth 20000 in
theorem gX4_faultCause_X3_endOfName : GoodIn wsX4_faultCause (wsV RX4 46 RX3 yX3_endOfName wsX3_endOfName) := goodIn_app (goodIn_of _ (by decide +kernel)) ggX4_faultCause_X3_endOfName
set_option maxRecDepth 20000 in
theorem ggX4_faultCause_X4_faultReason : GoodIn wsX4_faultCause wsX4_faultReason := goodIn_r _ [14, 1, 2, 15, 3, 4, 5, 6, 7, 8, 9, 16, 17, 18, 19, 20, 21, 22, 23, 24, 25, 26, 27, 28, 13, 29, 30, 31, 32, 33, 34, 35, 36, 37, 38, 39, 40, 41, 42, 43, 46, 47, 48, 49, 50, 51, 52, 53, 54, 55, 56, 44, 45] (by decide +kernel) (by decide +kernel)
set_option maxRecDepth 20000 in
theorem gX4_faultCause_X4_faultReason : GoodIn wsX4_faultCause (wsV RX4 217 RX4 yX4_faultReason wsX4_faultReason) := goodIn_app (goodIn_of _ (by decide +kernel)) ggX4_faultCause_X4_faultReason
set_option maxRecDepth 20000 in
theorem ggX4_faultCause_X3_breakOf : GoodIn wsX4_faultCause wsX3_breakOf := goodIn_r _ [19, 20, 21, 22, 6, 23, 9, 44, 45] (by decide +kernel) (by decide +kernel)
set_option maxRecDepth 20000 in
theorem gX4_faultCause_X3_breakOf : GoodIn wsX4_faultCause (wsV RX4 223 RX3 yX3_breakOf wsX3_breakOf) := goodIn_app (goodIn_of _ (by decide +kernel)) ggX4_faultCause_X3_breakOf
set_option maxRecDepth 20000 in
theorem ggX4_faultCause_X3_width : GoodIn wsX4_faultCause wsX3_width := goodIn_r _ [27, 9, 28, 13, 29, 44, 45] (by decide +kernel) (by decide +kernel)
set_option maxRecDepth 20000 in
theorem gX4_faultCause_X3_width : GoodIn wsX4_faultCause (wsV RX4 226 RX3 yX3_width wsX3_width) := goodIn_app (goodIn_of _ (by decide +kernel)) ggX4_faultCause_X3_width
set_option maxRecDepth 20000 in
theorem ggX4_faultCause_X0_squeezed : GoodIn wsX4_faultCause wsX0_squeezed := goodIn_r _ [34, 35, 46, 47, 48, 49, 50, 51, 52, 53, 54, 55, 56] (by decide +kernel) (by decide +kernel)
set_option maxRecDepth 20000 in
theorem gX4_faultCause_X0_squeezed : GoodIn wsX4_faultCause (wsV RX4 125 RX0 yX0_squeezed wsX0_squeezed) := goodIn_app (goodIn_of _ (by decide +kernel)) ggX4_faultCause_X0_squeezed
theorem dX4_faultCause_0 : decode cX4_faultCause 0 = .ok (.aload_n 0, 1) := by decide +kernel
theorem dX4_faultCause_1 : decode cX4_faultCause 1 = .ok (.getfield 10, 3) := by decide +kernel
theorem dX4_faultCause_4 : decode cX4_faultCause 4 = .ok (.iload_n 1, 1) := by decide +kernel
theorem dX4_faultCause_5 : decode cX4_faultCause 5 = .ok (.invokevirtual 46, 3) := by decide +kernel
theorem dX4_faultCause_8 : decode cX4_faultCause 8 = .ok (.istore_n 2, 1) := by decide +kernel
theorem dX4_faultCause_9 : decode cX4_faultCause 9 = .ok (.aload_n 0, 1) := by decide +kernel
theorem dX4_faultCause_10 : decode cX4_faultCause 10 = .ok (.iload_n 1, 1) := by decide +kernel
theorem dX4_faultCause_11 : decode cX4_faultCause 11 = .ok (.invokevirtual 217, 3) := by decide +kernel
theorem dX4_faultCause_14 : decode cX4_faultCause 14 = .ok (.lookupswitch 53 #[(1, 26), (2, 36)], 26) := by decide +kernel
theorem dX4_faultCause_40 : decode cX4_faultCause 40 = .ok (.aload_n 0, 1) := by decide +kernel
theorem dX4_faultCause_41 : decode cX4_faultCause 41 = .ok (.getfield 10, 3) := by decide +kernel
theorem dX4_faultCause_44 : decode cX4_faultCause 44 = .ok (.iload_n 1, 1) := by decide +kernel
theorem dX4_faultCause_45 : decode cX4_faultCause 45 = .ok (.iload_n 2, 1) := by decide +kernel
theorem dX4_faultCause_46 : decode cX4_faultCause 46 = .ok (.invokevirtual 223, 3) := by decide +kernel
theorem dX4_faultCause_49 : decode cX4_faultCause 49 = .ok (.ireturn, 1) := by decide +kernel
theorem dX4_faultCause_50 : decode cX4_faultCause 50 = .ok (.aload_n 0, 1) := by decide +kernel
theorem dX4_faultCause_51 : decode cX4_faultCause 51 = .ok (.getfield 19, 3) := by decide +kernel
theorem dX4_faultCause_54 : decode cX4_faultCause 54 = .ok (.aload_n 0, 1) := by decide +kernel
theorem dX4_faultCause_55 : decode cX4_faultCause 55 = .ok (.getfield 10, 3) := by decide +kernel
theorem dX4_faultCause_58 : decode cX4_faultCause 58 = .ok (.iload_n 1, 1) := by decide +kernel
theorem dX4_faultCause_59 : decode cX4_faultCause 59 = .ok (.iload_n 2, 1) := by decide +kernel
theorem dX4_faultCause_60 : decode cX4_faultCause 60 = .ok (.invokevirtual 226, 3) := by decide +kernel
theorem dX4_faultCause_63 : decode cX4_faultCause 63 = .ok (.invokevirtual 125, 3) := by decide +kernel
theorem dX4_faultCause_66 : decode cX4_faultCause 66 = .ok (.ireturn, 1) := by decide +kernel
theorem dX4_faultCause_67 : decode cX4_faultCause 67 = .ok (.iload_n 2, 1) := by decide +kernel
theorem dX4_faultCause_68 : decode cX4_faultCause 68 = .ok (.iload_n 1, 1) := by decide +kernel
theorem dX4_faultCause_69 : decode cX4_faultCause 69 = .ok (.isub, 1) := by decide +kernel
theorem dX4_faultCause_70 : decode cX4_faultCause 70 = .ok (.ireturn, 1) := by decide +kernel
theorem dX4_letterWidth_0 : decode cX4_letterWidth 0 = .ok (.iload_n 0, 1) := by decide +kernel
theorem dX4_letterWidth_1 : decode cX4_letterWidth 1 = .ok (.bipush 73, 2) := by decide +kernel
theorem dX4_letterWidth_3 : decode cX4_letterWidth 3 = .ok (.if_icmp .eq 9, 3) := by decide +kernel
theorem dX4_letterWidth_6 : decode cX4_letterWidth 6 = .ok (.iload_n 0, 1) := by decide +kernel
theorem dX4_letterWidth_7 : decode cX4_letterWidth 7 = .ok (.bipush 32, 2) := by decide +kernel
theorem dX4_letterWidth_9 : decode cX4_letterWidth 9 = .ok (.if_icmp .ne 5, 3) := by decide +kernel
theorem dX4_letterWidth_12 : decode cX4_letterWidth 12 = .ok (.iconst 1, 1) := by decide +kernel
theorem dX4_letterWidth_13 : decode cX4_letterWidth 13 = .ok (.ireturn, 1) := by decide +kernel
theorem dX4_letterWidth_14 : decode cX4_letterWidth 14 = .ok (.iload_n 0, 1) := by decide +kernel
theorem dX4_letterWidth_15 : decode cX4_letterWidth 15 = .ok (.bipush 77, 2) := by decide +kernel
theorem dX4_letterWidth_17 : decode cX4_letterWidth 17 = .ok (.if_icmp .eq 9, 3) := by decide +kernel
theorem dX4_letterWidth_20 : decode cX4_letterWidth 20 = .ok (.iload_n 0, 1) := by decide +kernel
theorem dX4_letterWidth_21 : decode cX4_letterWidth 21 = .ok (.bipush 87, 2) := by decide +kernel
theorem dX4_letterWidth_23 : decode cX4_letterWidth 23 = .ok (.if_icmp .ne 7, 3) := by decide +kernel
theorem dX4_letterWidth_26 : decode cX4_letterWidth 26 = .ok (.iconst 3, 1) := by decide +kernel
theorem dX4_letterWidth_27 : decode cX4_letterWidth 27 = .ok (.goto 4, 3) := by decide +kernel
theorem dX4_letterWidth_30 : decode cX4_letterWidth 30 = .ok (.iconst 2, 1) := by decide +kernel
theorem dX4_letterWidth_31 : decode cX4_letterWidth 31 = .ok (.ireturn, 1) := by decide +kernel
theorem dX4_floatBits_0 : decode cX4_floatBits 0 = .ok (.fload_n 0, 1) := by decide +kernel
theorem dX4_floatBits_1 : decode cX4_floatBits 1 = .ok (.fstore_n 1, 1) := by decide +kernel
theorem dX4_floatBits_2 : decode cX4_floatBits 2 = .ok (.bipush 127, 2) := by decide +kernel
theorem dX4_floatBits_4 : decode cX4_floatBits 4 = .ok (.istore_n 2, 1) := by decide +kernel
theorem dX4_floatBits_5 : decode cX4_floatBits 5 = .ok (.iconst 0, 1) := by decide +kernel
theorem dX4_floatBits_6 : decode cX4_floatBits 6 = .ok (.istore_n 3, 1) := by decide +kernel
theorem dX4_floatBits_7 : decode cX4_floatBits 7 = .ok (.iload_n 3, 1) := by decide +kernel
theorem dX4_floatBits_8 : decode cX4_floatBits 8 = .ok (.bipush 127, 2) := by decide +kernel
theorem dX4_floatBits_10 : decode cX4_floatBits 10 = .ok (.if_icmp .ge 22, 3) := by decide +kernel
theorem dX4_floatBits_13 : decode cX4_floatBits 13 = .ok (.fload_n 1, 1) := by decide +kernel
theorem dX4_floatBits_14 : decode cX4_floatBits 14 = .ok (.fconst 2, 1) := by decide +kernel
theorem dX4_floatBits_15 : decode cX4_floatBits 15 = .ok (.fcmp .l, 1) := by decide +kernel
theorem dX4_floatBits_16 : decode cX4_floatBits 16 = .ok (.ifCond .lt 16, 3) := by decide +kernel
theorem dX4_floatBits_19 : decode cX4_floatBits 19 = .ok (.fload_n 1, 1) := by decide +kernel
theorem dX4_floatBits_20 : decode cX4_floatBits 20 = .ok (.fconst 2, 1) := by decide +kernel
theorem dX4_floatBits_21 : decode cX4_floatBits 21 = .ok (.fdiv, 1) := by decide +kernel
theorem dX4_floatBits_22 : decode cX4_floatBits 22 = .ok (.fstore_n 1, 1) := by decide +kernel
theorem dX4_floatBits_23 : decode cX4_floatBits 23 = .ok (.iinc 2 1, 3) := by decide +kernel
theorem dX4_floatBits_26 : decode cX4_floatBits 26 = .ok (.iinc 3 1, 3) := by decide +kernel
theorem dX4_floatBits_29 : decode cX4_floatBits 29 = .ok (.goto (-22), 3) := by decide +kernel
theorem dX4_floatBits_32 : decode cX4_floatBits 32 = .ok (.fload_n 1, 1) := by decide +kernel
theorem dX4_floatBits_33 : decode cX4_floatBits 33 = .ok (.fconst 1, 1) := by decide +kernel
theorem dX4_floatBits_34 : decode cX4_floatBits 34 = .ok (.fsub, 1) := by decide +kernel
theorem dX4_floatBits_35 : decode cX4_floatBits 35 = .ok (.ldc 228, 2) := by decide +kernel
theorem dX4_floatBits_37 : decode cX4_floatBits 37 = .ok (.fmul, 1) := by decide +kernel
theorem dX4_floatBits_38 : decode cX4_floatBits 38 = .ok (.f2i, 1) := by decide +kernel
theorem dX4_floatBits_39 : decode cX4_floatBits 39 = .ok (.istore_n 3, 1) := by decide +kernel
theorem dX4_floatBits_40 : decode cX4_floatBits 40 = .ok (.iload_n 2, 1) := by decide +kernel
theorem dX4_floatBits_41 : decode cX4_floatBits 41 = .ok (.bipush 23, 2) := by decide +kernel
theorem dX4_floatBits_43 : decode cX4_floatBits 43 = .ok (.ishl, 1) := by decide +kernel
theorem dX4_floatBits_44 : decode cX4_floatBits 44 = .ok (.iload_n 3, 1) := by decide +kernel
theorem dX4_floatBits_45 : decode cX4_floatBits 45 = .ok (.iadd, 1) := by decide +kernel
theorem dX4_floatBits_46 : decode cX4_floatBits 46 = .ok (.ireturn, 1) := by decide +kernel
end
section
theorem dX5_init_0 : decode cX5_init 0 = .ok (.aload_n 0, 1) := by decide +kernel
theorem dX5_init_1 : decode cX5_init 1 = .ok (.invokespecial 1, 3) := by decide +kernel
theorem dX5_init_4 : decode cX5_init 4 = .ok (.aload_n 0, 1) := by decide +kernel
theorem dX5_init_5 : decode cX5_init 5 = .ok (.sipush 369, 3) := by decide +kernel
theorem dX5_init_8 : decode cX5_init 8 = .ok (.newarray .int, 2) := by decide +kernel
theorem dX5_init_10 : decode cX5_init 10 = .ok (.putfield 7, 3) := by decide +kernel
theorem dX5_init_13 : decode cX5_init 13 = .ok (.aload_n 0, 1) := by decide +kernel
theorem dX5_init_14 : decode cX5_init 14 = .ok (.sipush 1476, 3) := by decide +kernel
theorem dX5_init_17 : decode cX5_init 17 = .ok (.newarray .int, 2) := by decide +kernel
theorem dX5_init_19 : decode cX5_init 19 = .ok (.putfield 13, 3) := by decide +kernel
theorem dX5_init_22 : decode cX5_init 22 = .ok (.aload_n 0, 1) := by decide +kernel
theorem dX5_init_23 : decode cX5_init 23 = .ok (.sipush 369, 3) := by decide +kernel
theorem dX5_init_26 : decode cX5_init 26 = .ok (.newarray .int, 2) := by decide +kernel
theorem dX5_init_28 : decode cX5_init 28 = .ok (.putfield 16, 3) := by decide +kernel
theorem dX5_init_31 : decode cX5_init 31 = .ok (.aload_n 0, 1) := by decide +kernel
theorem dX5_init_32 : decode cX5_init 32 = .ok (.bipush 60, 2) := by decide +kernel
theorem dX5_init_34 : decode cX5_init 34 = .ok (.newarray .int, 2) := by decide +kernel
theorem dX5_init_36 : decode cX5_init 36 = .ok (.putfield 19, 3) := by decide +kernel
theorem dX5_init_39 : decode cX5_init 39 = .ok (.aload_n 0, 1) := by decide +kernel
theorem dX5_init_40 : decode cX5_init 40 = .ok (.getfield 7, 3) := by decide +kernel
theorem dX5_init_43 : decode cX5_init 43 = .ok (.iconst 1, 1) := by decide +kernel
theorem dX5_init_44 : decode cX5_init 44 = .ok (.iconst (-1), 1) := by decide +kernel
theorem dX5_init_45 : decode cX5_init 45 = .ok (.iastore, 1) := by decide +kernel
theorem dX5_init_46 : decode cX5_init 46 = .ok (.aload_n 0, 1) := by decide +kernel
theorem dX5_init_47 : decode cX5_init 47 = .ok (.getfield 7, 3) := by decide +kernel
theorem dX5_init_50 : decode cX5_init 50 = .ok (.iconst 3, 1) := by decide +kernel
theorem dX5_init_51 : decode cX5_init 51 = .ok (.iconst (-1), 1) := by decide +kernel
theorem dX5_init_52 : decode cX5_init 52 = .ok (.iastore, 1) := by decide +kernel
theorem dX5_init_53 : decode cX5_init 53 = .ok (.aload_n 0, 1) := by decide +kernel
theorem dX5_init_54 : decode cX5_init 54 = .ok (.getfield 7, 3) := by decide +kernel
theorem dX5_init_57 : decode cX5_init 57 = .ok (.bipush 8, 2) := by decide +kernel
theorem dX5_init_59 : decode cX5_init 59 = .ok (.bipush 24, 2) := by decide +kernel
theorem dX5_init_61 : decode cX5_init 61 = .ok (.iastore, 1) := by decide +kernel
theorem dX5_init_62 : decode cX5_init 62 = .ok (.aload_n 0, 1) := by decide +kernel
theorem dX5_init_63 : decode cX5_init 63 = .ok (.getfield 7, 3) := by decide +kernel
theorem dX5_init_66 : decode cX5_init 66 = .ok (.bipush 9, 2) := by decide +kernel
theorem dX5_init_68 : decode cX5_init 68 = .ok (.bipush 30, 2) := by decide +kernel
theorem dX5_init_70 : decode cX5_init 70 = .ok (.iastore, 1) := by decide +kernel
theorem dX5_init_71 : decode cX5_init 71 = .ok (.aload_n 0, 1) := by decide +kernel
theorem dX5_init_72 : decode cX5_init 72 = .ok (.getfield 7, 3) := by decide +kernel
theorem dX5_init_75 : decode cX5_init 75 = .ok (.bipush 10, 2) := by decide +kernel
theorem dX5_init_77 : decode cX5_init 77 = .ok (.bipush 10, 2) := by decide +kernel
theorem dX5_init_79 : decode cX5_init 79 = .ok (.iastore, 1) := by decide +kernel
theorem dX5_init_80 : decode cX5_init 80 = .ok (.return_, 1) := by decide +kernel
theorem dX5_in_0 : decode cX5_in 0 = .ok (.iload_n 0, 1) := by decide +kernel
theorem dX5_in_1 : decode cX5_in 1 = .ok (.iload_n 1, 1) := by decide +kernel
theorem dX5_in_2 : decode cX5_in 2 = .ok (.if_icmp .lt 12, 3) := by decide +kernel
theorem dX5_in_5 : decode cX5_in 5 = .ok (.iload_n 0, 1) := by decide +kernel
theorem dX5_in_6 : decode cX5_in 6 = .ok (.iload_n 2, 1) := by decide +kernel
theorem dX5_in_7 : decode cX5_in 7 = .ok (.if_icmp .gt 7, 3) := by decide +kernel
theorem dX5_in_10 : decode cX5_in 10 = .ok (.iconst 1, 1) := by decide +kernel
theorem dX5_in_11 : decode cX5_in 11 = .ok (.goto 4, 3) := by decide +kernel
theorem dX5_in_14 : decode cX5_in 14 = .ok (.iconst 0, 1) := by decide +kernel
theorem dX5_in_15 : decode cX5_in 15 = .ok (.ireturn, 1) := by decide +kernel
theorem dX5_copies_0 : decode cX5_copies 0 = .ok (.iconst 0, 1) := by decide +kernel
theorem dX5_copies_1 : decode cX5_copies 1 = .ok (.istore_n 2, 1) := by decide +kernel
theorem dX5_copies_2 : decode cX5_copies 2 = .ok (.iload_n 2, 1) := by decide +kernel
theorem dX5_copies_3 : decode cX5_copies 3 = .ok (.sipush 369, 3) := by decide +kernel
theorem dX5_copies_6 : decode cX5_copies 6 = .ok (.if_icmp .ge 15, 3) := by decide +kernel
theorem dX5_copies_9 : decode cX5_copies 9 = .ok (.aload_n 1, 1) := by decide +kernel
theorem dX5_copies_10 : decode cX5_copies 10 = .ok (.iload_n 2, 1) := by decide +kernel
theorem dX5_copies_11 : decode cX5_copies 11 = .ok (.aload_n 0, 1) := by decide +kernel
theorem dX5_copies_12 : decode cX5_copies 12 = .ok (.iload_n 2, 1) := by decide +kernel
theorem dX5_copies_13 : decode cX5_copies 13 = .ok (.iaload, 1) := by decide +kernel
theorem dX5_copies_14 : decode cX5_copies 14 = .ok (.iastore, 1) := by decide +kernel
theorem dX5_copies_15 : decode cX5_copies 15 = .ok (.iinc 2 1, 3) := by decide +kernel
theorem dX5_copies_18 : decode cX5_copies 18 = .ok (.goto (-16), 3) := by decide +kernel
theorem dX5_copies_21 : decode cX5_copies 21 = .ok (.return_, 1) := by decide +kernel
theorem dX5_changes_0 : decode cX5_changes 0 = .ok (.aload_n 0, 1) := by decide +kernel
theorem dX5_changes_1 : decode cX5_changes 1 = .ok (.getfield 22, 3) := by decide +kernel
theorem dX5_changes_4 : decode cX5_changes 4 = .ok (.iconst 4, 1) := by decide +kernel
theorem dX5_changes_5 : decode cX5_changes 5 = .ok (.if_icmp .ne 44, 3) := by decide +kernel
theorem dX5_changes_8 : decode cX5_changes 8 = .ok (.iconst 0, 1) := by decide +kernel
theorem dX5_changes_9 : decode cX5_changes 9 = .ok (.istore_n 1, 1) := by decide +kernel
theorem dX5_changes_10 : decode cX5_changes 10 = .ok (.iload_n 1, 1) := by decide +kernel
theorem dX5_changes_11 : decode cX5_changes 11 = .ok (.sipush 1107, 3) := by decide +kernel
theorem dX5_changes_14 : decode cX5_changes 14 = .ok (.if_icmp .ge 25, 3) := by decide +kernel
theorem dX5_changes_17 : decode cX5_changes 17 = .ok (.aload_n 0, 1) := by decide +kernel
theorem dX5_changes_18 : decode cX5_changes 18 = .ok (.getfield 13, 3) := by decide +kernel
theorem dX5_changes_21 : decode cX5_changes 21 = .ok (.iload_n 1, 1) := by decide +kernel
theorem dX5_changes_22 : decode cX5_changes 22 = .ok (.aload_n 0, 1) := by decide +kernel
theorem dX5_changes_23 : decode cX5_changes 23 = .ok (.getfield 13, 3) := by decide +kernel
theorem dX5_changes_26 : decode cX5_changes 26 = .ok (.iload_n 1, 1) := by decide +kernel
theorem dX5_changes_27 : decode cX5_changes 27 = .ok (.sipush 369, 3) := by decide +kernel
theorem dX5_changes_30 : decode cX5_changes 30 = .ok (.iadd, 1) := by decide +kernel
theorem dX5_changes_31 : decode cX5_changes 31 = .ok (.iaload, 1) := by decide +kernel
theorem dX5_changes_32 : decode cX5_changes 32 = .ok (.iastore, 1) := by decide +kernel
theorem dX5_changes_33 : decode cX5_changes 33 = .ok (.iinc 1 1, 3) := by decide +kernel
theorem dX5_changes_36 : decode cX5_changes 36 = .ok (.goto (-26), 3) := by decide +kernel
theorem dX5_changes_39 : decode cX5_changes 39 = .ok (.aload_n 0, 1) := by decide +kernel
theorem dX5_changes_40 : decode cX5_changes 40 = .ok (.dup, 1) := by decide +kernel
theorem dX5_changes_41 : decode cX5_changes 41 = .ok (.getfield 22, 3) := by decide +kernel
theorem dX5_changes_44 : decode cX5_changes 44 = .ok (.iconst 1, 1) := by decide +kernel
theorem dX5_changes_45 : decode cX5_changes 45 = .ok (.isub, 1) := by decide +kernel
theorem dX5_changes_46 : decode cX5_changes 46 = .ok (.putfield 22, 3) := by decide +kernel
theorem dX5_changes_49 : decode cX5_changes 49 = .ok (.iconst 0, 1) := by decide +kernel
theorem dX5_changes_50 : decode cX5_changes 50 = .ok (.istore_n 1, 1) := by decide +kernel
theorem dX5_changes_51 : decode cX5_changes 51 = .ok (.iload_n 1, 1) := by decide +kernel
theorem dX5_changes_52 : decode cX5_changes 52 = .ok (.sipush 369, 3) := by decide +kernel
theorem dX5_changes_55 : decode cX5_changes 55 = .ok (.if_icmp .ge 30, 3) := by decide +kernel
theorem dX5_changes_58 : decode cX5_changes 58 = .ok (.aload_n 0, 1) := by decide +kernel
theorem dX5_changes_59 : decode cX5_changes 59 = .ok (.getfield 13, 3) := by decide +kernel
theorem dX5_changes_62 : decode cX5_changes 62 = .ok (.sipush 369, 3) := by decide +kernel
theorem dX5_changes_65 : decode cX5_changes 65 = .ok (.aload_n 0, 1) := by decide +kernel
theorem dX5_changes_66 : decode cX5_changes 66 = .ok (.getfield 22, 3) := by decide +kernel
theorem dX5_changes_69 : decode cX5_changes 69 = .ok (.imul, 1) := by decide +kernel
theorem dX5_changes_70 : decode cX5_changes 70 = .ok (.iload_n 1, 1) := by decide +kernel
theorem dX5_changes_71 : decode cX5_changes 71 = .ok (.iadd, 1) := by decide +kernel
theorem dX5_changes_72 : decode cX5_changes 72 = .ok (.aload_n 0, 1) := by decide +kernel
theorem dX5_changes_73 : decode cX5_changes 73 = .ok (.getfield 7, 3) := by decide +kernel
theorem dX5_changes_76 : decode cX5_changes 76 = .ok (.iload_n 1, 1) := by decide +kernel
theorem dX5_changes_77 : decode cX5_changes 77 = .ok (.iaload, 1) := by decide +kernel
theorem dX5_changes_78 : decode cX5_changes 78 = .ok (.iastore, 1) := by decide +kernel
theorem dX5_changes_79 : decode cX5_changes 79 = .ok (.iinc 1 1, 3) := by decide +kernel
theorem dX5_changes_82 : decode cX5_changes 82 = .ok (.goto (-31), 3) := by decide +kernel
theorem dX5_changes_85 : decode cX5_changes 85 = .ok (.aload_n 0, 1) := by decide +kernel
theorem dX5_changes_86 : decode cX5_changes 86 = .ok (.dup, 1) := by decide +kernel
theorem dX5_changes_87 : decode cX5_changes 87 = .ok (.getfield 22, 3) := by decide +kernel
theorem dX5_changes_90 : decode cX5_changes 90 = .ok (.iconst 1, 1) := by decide +kernel
theorem dX5_changes_91 : decode cX5_changes 91 = .ok (.iadd, 1) := by decide +kernel
theorem dX5_changes_92 : decode cX5_changes 92 = .ok (.putfield 22, 3) := by decide +kernel
theorem dX5_changes_95 : decode cX5_changes 95 = .ok (.return_, 1) := by decide +kernel
theorem dX5_ones_0 : decode cX5_ones 0 = .ok (.iconst 0, 1) := by decide +kernel
theorem dX5_ones_1 : decode cX5_ones 1 = .ok (.istore_n 1, 1) := by decide +kernel
theorem dX5_ones_2 : decode cX5_ones 2 = .ok (.iload_n 0, 1) := by decide +kernel
theorem dX5_ones_3 : decode cX5_ones 3 = .ok (.istore_n 2, 1) := by decide +kernel
theorem dX5_ones_4 : decode cX5_ones 4 = .ok (.iload_n 2, 1) := by decide +kernel
theorem dX5_ones_5 : decode cX5_ones 5 = .ok (.ifCond .eq 15, 3) := by decide +kernel
theorem dX5_ones_8 : decode cX5_ones 8 = .ok (.iinc 1 1, 3) := by decide +kernel
theorem dX5_ones_11 : decode cX5_ones 11 = .ok (.iload_n 2, 1) := by decide +kernel
theorem dX5_ones_12 : decode cX5_ones 12 = .ok (.iload_n 2, 1) := by decide +kernel
theorem dX5_ones_13 : decode cX5_ones 13 = .ok (.iconst 1, 1) := by decide +kernel
theorem dX5_ones_14 : decode cX5_ones 14 = .ok (.isub, 1) := by decide +kernel
theorem dX5_ones_15 : decode cX5_ones 15 = .ok (.iand, 1) := by decide +kernel
theorem dX5_ones_16 : decode cX5_ones 16 = .ok (.istore_n 2, 1) := by decide +kernel
theorem dX5_ones_17 : decode cX5_ones 17 = .ok (.goto (-13), 3) := by decide +kernel
theorem dX5_ones_20 : decode cX5_ones 20 = .ok (.iload_n 1, 1) := by decide +kernel
theorem dX5_ones_21 : decode cX5_ones 21 = .ok (.ireturn, 1) := by decide +kernel
theorem dX5_isRow_0 : decode cX5_isRow 0 = .ok (.iload_n 1, 1) := by decide +kernel
theorem dX5_isRow_1 : decode cX5_isRow 1 = .ok (.ifCond .lt 17, 3) := by decide +kernel
theorem dX5_isRow_4 : decode cX5_isRow 4 = .ok (.iload_n 1, 1) := by decide +kernel
theorem dX5_isRow_5 : decode cX5_isRow 5 = .ok (.aload_n 0, 1) := by decide +kernel
theorem dX5_isRow_6 : decode cX5_isRow 6 = .ok (.getfield 7, 3) := by decide +kernel
theorem dX5_isRow_9 : decode cX5_isRow 9 = .ok (.iconst 0, 1) := by decide +kernel
theorem dX5_isRow_10 : decode cX5_isRow 10 = .ok (.iaload, 1) := by decide +kernel
theorem dX5_isRow_11 : decode cX5_isRow 11 = .ok (.if_icmp .ge 7, 3) := by decide +kernel
theorem dX5_isRow_14 : decode cX5_isRow 14 = .ok (.iconst 1, 1) := by decide +kernel
theorem dX5_isRow_15 : decode cX5_isRow 15 = .ok (.goto 4, 3) := by decide +kernel
theorem dX5_isRow_18 : decode cX5_isRow 18 = .ok (.iconst 0, 1) := by decide +kernel
theorem dX5_isRow_19 : decode cX5_isRow 19 = .ok (.ireturn, 1) := by decide +kernel
theorem dX5_isRoute_0 : decode cX5_isRoute 0 = .ok (.iload_n 1, 1) := by decide +kernel
theorem dX5_isRoute_1 : decode cX5_isRoute 1 = .ok (.ifCond .lt 17, 3) := by decide +kernel
theorem dX5_isRoute_4 : decode cX5_isRoute 4 = .ok (.iload_n 1, 1) := by decide +kernel
theorem dX5_isRoute_5 : decode cX5_isRoute 5 = .ok (.aload_n 0, 1) := by decide +kernel
theorem dX5_isRoute_6 : decode cX5_isRoute 6 = .ok (.getfield 7, 3) := by decide +kernel
theorem dX5_isRoute_9 : decode cX5_isRoute 9 = .ok (.iconst 2, 1) := by decide +kernel
theorem dX5_isRoute_10 : decode cX5_isRoute 10 = .ok (.iaload, 1) := by decide +kernel
theorem dX5_isRoute_11 : decode cX5_isRoute 11 = .ok (.if_icmp .ge 7, 3) := by decide +kernel
theorem dX5_isRoute_14 : decode cX5_isRoute 14 = .ok (.iconst 1, 1) := by decide +kernel
theorem dX5_isRoute_15 : decode cX5_isRoute 15 = .ok (.goto 4, 3) := by decide +kernel
theorem dX5_isRoute_18 : decode cX5_isRoute 18 = .ok (.iconst 0, 1) := by decide +kernel
theorem dX5_isRoute_19 : decode cX5_isRoute 19 = .ok (.ireturn, 1) := by decide +kernel
theorem dX5_of_0 : decode cX5_of 0 = .ok (.aload_n 0, 1) := by decide +kernel
theorem dX5_of_1 : decode cX5_of 1 = .ok (.getfield 7, 3) := by decide +kernel
theorem dX5_of_4 : decode cX5_of 4 = .ok (.bipush 11, 2) := by decide +kernel
theorem dX5_of_6 : decode cX5_of 6 = .ok (.bipush 17, 2) := by decide +kernel
theorem dX5_of_8 : decode cX5_of 8 = .ok (.iload_n 1, 1) := by decide +kernel
theorem dX5_of_9 : decode cX5_of 9 = .ok (.imul, 1) := by decide +kernel
theorem dX5_of_10 : decode cX5_of 10 = .ok (.iadd, 1) := by decide +kernel
theorem dX5_of_11 : decode cX5_of 11 = .ok (.iload_n 2, 1) := by decide +kernel
theorem dX5_of_12 : decode cX5_of 12 = .ok (.iadd, 1) := by decide +kernel
theorem dX5_of_13 : decode cX5_of 13 = .ok (.iaload, 1) := by decide +kernel
theorem dX5_of_14 : decode cX5_of 14 = .ok (.ireturn, 1) := by decide +kernel
theorem dX5_sets_0 : decode cX5_sets 0 = .ok (.aload_n 0, 1) := by decide +kernel
theorem dX5_sets_1 : decode cX5_sets 1 = .ok (.getfield 7, 3) := by decide +kernel
theorem dX5_sets_4 : decode cX5_sets 4 = .ok (.bipush 11, 2) := by decide +kernel
theorem dX5_sets_6 : decode cX5_sets 6 = .ok (.bipush 17, 2) := by decide +kernel
theorem dX5_sets_8 : decode cX5_sets 8 = .ok (.iload_n 1, 1) := by decide +kernel
theorem dX5_sets_9 : decode cX5_sets 9 = .ok (.imul, 1) := by decide +kernel
theorem dX5_sets_10 : decode cX5_sets 10 = .ok (.iadd, 1) := by decide +kernel
theorem dX5_sets_11 : decode cX5_sets 11 = .ok (.iload_n 2, 1) := by decide +kernel
theorem dX5_sets_12 : decode cX5_sets 12 = .ok (.iadd, 1) := by decide +kernel
theorem dX5_sets_13 : decode cX5_sets 13 = .ok (.iload_n 3, 1) := by decide +kernel
theorem dX5_sets_14 : decode cX5_sets 14 = .ok (.iastore, 1) := by decide +kernel
theorem dX5_sets_15 : decode cX5_sets 15 = .ok (.return_, 1) := by decide +kernel
theorem dX5_ofRoute_0 : decode cX5_ofRoute 0 = .ok (.aload_n 0, 1) := by decide +kernel
theorem dX5_ofRoute_1 : decode cX5_ofRoute 1 = .ok (.getfield 7, 3) := by decide +kernel
theorem dX5_ofRoute_4 : decode cX5_ofRoute 4 = .ok (.sipush 351, 3) := by decide +kernel
theorem dX5_ofRoute_7 : decode cX5_ofRoute 7 = .ok (.iconst 3, 1) := by decide +kernel
theorem dX5_ofRoute_8 : decode cX5_ofRoute 8 = .ok (.iload_n 1, 1) := by decide +kernel
theorem dX5_ofRoute_9 : decode cX5_ofRoute 9 = .ok (.imul, 1) := by decide +kernel
theorem dX5_ofRoute_10 : decode cX5_ofRoute 10 = .ok (.iadd, 1) := by decide +kernel
theorem dX5_ofRoute_11 : decode cX5_ofRoute 11 = .ok (.iload_n 2, 1) := by decide +kernel
theorem dX5_ofRoute_12 : decode cX5_ofRoute 12 = .ok (.iadd, 1) := by decide +kernel
theorem dX5_ofRoute_13 : decode cX5_ofRoute 13 = .ok (.iaload, 1) := by decide +kernel
theorem dX5_ofRoute_14 : decode cX5_ofRoute 14 = .ok (.ireturn, 1) := by decide +kernel
theorem dX5_wide_0 : decode cX5_wide 0 = .ok (.iload_n 0, 1) := by decide +kernel
theorem dX5_wide_1 : decode cX5_wide 1 = .ok (.bipush 73, 2) := by decide +kernel
theorem dX5_wide_3 : decode cX5_wide 3 = .ok (.if_icmp .eq 9, 3) := by decide +kernel
theorem dX5_wide_6 : decode cX5_wide 6 = .ok (.iload_n 0, 1) := by decide +kernel
theorem dX5_wide_7 : decode cX5_wide 7 = .ok (.bipush 32, 2) := by decide +kernel
theorem dX5_wide_9 : decode cX5_wide 9 = .ok (.if_icmp .ne 7, 3) := by decide +kernel
theorem dX5_wide_12 : decode cX5_wide 12 = .ok (.iconst 1, 1) := by decide +kernel
theorem dX5_wide_13 : decode cX5_wide 13 = .ok (.goto 20, 3) := by decide +kernel
theorem dX5_wide_16 : decode cX5_wide 16 = .ok (.iload_n 0, 1) := by decide +kernel
theorem dX5_wide_17 : decode cX5_wide 17 = .ok (.bipush 77, 2) := by decide +kernel
theorem dX5_wide_19 : decode cX5_wide 19 = .ok (.if_icmp .eq 9, 3) := by decide +kernel
theorem dX5_wide_22 : decode cX5_wide 22 = .ok (.iload_n 0, 1) := by decide +kernel
theorem dX5_wide_23 : decode cX5_wide 23 = .ok (.bipush 87, 2) := by decide +kernel
theorem dX5_wide_25 : decode cX5_wide 25 = .ok (.if_icmp .ne 7, 3) := by decide +kernel
theorem dX5_wide_28 : decode cX5_wide 28 = .ok (.iconst 3, 1) := by decide +kernel
theorem dX5_wide_29 : decode cX5_wide 29 = .ok (.goto 4, 3) := by decide +kernel
theorem dX5_wide_32 : decode cX5_wide 32 = .ok (.iconst 2, 1) := by decide +kernel
theorem dX5_wide_33 : decode cX5_wide 33 = .ok (.ireturn, 1) := by decide +kernel
set_option maxRecDepth 20000 in
theorem ggX5_width_X5_of : GoodIn wsX5_width wsX5_of := goodIn_r _ [5, 6, 10, 11, 12, 13, 14, 15, 16, 17, 18, 19, 20, 21, 22] (by decide +kernel) (by decide +kernel)
set_option maxRecDepth 20000 in
theorem gX5_width_X5_of : GoodIn wsX5_width (wsV RX5 26 RX5 yX5_of wsX5_of) := goodIn_app (goodIn_of _ (by decide +kernel)) ggX5_width_X5_of
set_option maxRecDepth 20000 in
theorem ggX5_width_X5_wide : GoodIn wsX5_width wsX5_wide := goodIn_r _ [9] (by decide +kernel) (by decide +kernel)
set_option maxRecDepth 20000 in
theorem gX5_width_X5_wide : GoodIn wsX5_width (va_wsS RX5 30 yX5_wide wsX5_wide) := goodIn_app (goodIn_of _ (by decide +kernel)) ggX5_width_X5_wide
theorem dX5_width_0 : decode cX5_width 0 = .ok (.iconst 0, 1) := by decide +kernel
theorem dX5_width_1 : decode cX5_width 1 = .ok (.istore_n 2, 1) := by decide +kernel
theorem dX5_width_2 : decode cX5_width 2 = .ok (.iconst 0, 1) := by decide +kernel
theorem dX5_width_3 : decode cX5_width 3 = .ok (.istore_n 3, 1) := by decide +kernel
theorem dX5_width_4 : decode cX5_width 4 = .ok (.iload_n 3, 1) := by decide +kernel
theorem dX5_width_5 : decode cX5_width 5 = .ok (.aload_n 0, 1) := by decide +kernel
theorem dX5_width_6 : decode cX5_width 6 = .ok (.iload_n 1, 1) := by decide +kernel
theorem dX5_width_7 : decode cX5_width 7 = .ok (.iconst 0, 1) := by decide +kernel
theorem dX5_width_8 : decode cX5_width 8 = .ok (.invokevirtual 26, 3) := by decide +kernel
theorem dX5_width_11 : decode cX5_width 11 = .ok (.if_icmp .ge 23, 3) := by decide +kernel
theorem dX5_width_14 : decode cX5_width 14 = .ok (.iload_n 2, 1) := by decide +kernel
theorem dX5_width_15 : decode cX5_width 15 = .ok (.aload_n 0, 1) := by decide +kernel
theorem dX5_width_16 : decode cX5_width 16 = .ok (.iload_n 1, 1) := by decide +kernel
theorem dX5_width_17 : decode cX5_width 17 = .ok (.iconst 3, 1) := by decide +kernel
theorem dX5_width_18 : decode cX5_width 18 = .ok (.iload_n 3, 1) := by decide +kernel
theorem dX5_width_19 : decode cX5_width 19 = .ok (.iadd, 1) := by decide +kernel
theorem dX5_width_20 : decode cX5_width 20 = .ok (.invokevirtual 26, 3) := by decide +kernel
theorem dX5_width_23 : decode cX5_width 23 = .ok (.invokestatic 30, 3) := by decide +kernel
theorem dX5_width_26 : decode cX5_width 26 = .ok (.iadd, 1) := by decide +kernel
theorem dX5_width_27 : decode cX5_width 27 = .ok (.istore_n 2, 1) := by decide +kernel
theorem dX5_width_28 : decode cX5_width 28 = .ok (.iinc 3 1, 3) := by decide +kernel
theorem dX5_width_31 : decode cX5_width 31 = .ok (.goto (-27), 3) := by decide +kernel
theorem dX5_width_34 : decode cX5_width 34 = .ok (.iload_n 2, 1) := by decide +kernel
theorem dX5_width_35 : decode cX5_width 35 = .ok (.ireturn, 1) := by decide +kernel
theorem dX5_squeezed_0 : decode cX5_squeezed 0 = .ok (.iload_n 1, 1) := by decide +kernel
theorem dX5_squeezed_1 : decode cX5_squeezed 1 = .ok (.aload_n 0, 1) := by decide +kernel
theorem dX5_squeezed_2 : decode cX5_squeezed 2 = .ok (.getfield 7, 3) := by decide +kernel
theorem dX5_squeezed_5 : decode cX5_squeezed 5 = .ok (.bipush 8, 2) := by decide +kernel
theorem dX5_squeezed_7 : decode cX5_squeezed 7 = .ok (.iaload, 1) := by decide +kernel
theorem dX5_squeezed_8 : decode cX5_squeezed 8 = .ok (.if_icmp .le 18, 3) := by decide +kernel
theorem dX5_squeezed_11 : decode cX5_squeezed 11 = .ok (.iload_n 1, 1) := by decide +kernel
theorem dX5_squeezed_12 : decode cX5_squeezed 12 = .ok (.bipush 100, 2) := by decide +kernel
theorem dX5_squeezed_14 : decode cX5_squeezed 14 = .ok (.imul, 1) := by decide +kernel
theorem dX5_squeezed_15 : decode cX5_squeezed 15 = .ok (.aload_n 0, 1) := by decide +kernel
theorem dX5_squeezed_16 : decode cX5_squeezed 16 = .ok (.getfield 7, 3) := by decide +kernel
theorem dX5_squeezed_19 : decode cX5_squeezed 19 = .ok (.bipush 8, 2) := by decide +kernel
theorem dX5_squeezed_21 : decode cX5_squeezed 21 = .ok (.iaload, 1) := by decide +kernel
theorem dX5_squeezed_22 : decode cX5_squeezed 22 = .ok (.idiv, 1) := by decide +kernel
theorem dX5_squeezed_23 : decode cX5_squeezed 23 = .ok (.goto 5, 3) := by decide +kernel
theorem dX5_squeezed_26 : decode cX5_squeezed 26 = .ok (.bipush 100, 2) := by decide +kernel
theorem dX5_squeezed_28 : decode cX5_squeezed 28 = .ok (.ireturn, 1) := by decide +kernel
set_option maxRecDepth 20000 in
theorem ggX5_isName_X5_of : GoodIn wsX5_isName wsX5_of := goodIn_r _ [6, 7, 8, 9, 10, 11, 12, 13, 14, 15, 16, 17, 18, 19, 20] (by decide +kernel) (by decide +kernel)
set_option maxRecDepth 20000 in
theorem gX5_isName_X5_of : GoodIn wsX5_isName (wsV RX5 26 RX5 yX5_of wsX5_of) := goodIn_app (goodIn_of _ (by decide +kernel)) ggX5_isName_X5_of
theorem dX5_isName_0 : decode cX5_isName 0 = .ok (.lconst 0, 1) := by decide +kernel
theorem dX5_isName_1 : decode cX5_isName 1 = .ok (.lstore 4, 2) := by decide +kernel
theorem dX5_isName_3 : decode cX5_isName 3 = .ok (.iconst 0, 1) := by decide +kernel
theorem dX5_isName_4 : decode cX5_isName 4 = .ok (.istore 6, 2) := by decide +kernel
theorem dX5_isName_6 : decode cX5_isName 6 = .ok (.iload 6, 2) := by decide +kernel
theorem dX5_isName_8 : decode cX5_isName 8 = .ok (.aload_n 0, 1) := by decide +kernel
theorem dX5_isName_9 : decode cX5_isName 9 = .ok (.iload_n 1, 1) := by decide +kernel
theorem dX5_isName_10 : decode cX5_isName 10 = .ok (.iconst 0, 1) := by decide +kernel
theorem dX5_isName_11 : decode cX5_isName 11 = .ok (.invokevirtual 26, 3) := by decide +kernel
theorem dX5_isName_14 : decode cX5_isName 14 = .ok (.if_icmp .ge 31, 3) := by decide +kernel
theorem dX5_isName_17 : decode cX5_isName 17 = .ok (.ldc2_w 34, 3) := by decide +kernel
theorem dX5_isName_20 : decode cX5_isName 20 = .ok (.lload 4, 2) := by decide +kernel
theorem dX5_isName_22 : decode cX5_isName 22 = .ok (.lmul, 1) := by decide +kernel
theorem dX5_isName_23 : decode cX5_isName 23 = .ok (.aload_n 0, 1) := by decide +kernel
theorem dX5_isName_24 : decode cX5_isName 24 = .ok (.iload_n 1, 1) := by decide +kernel
theorem dX5_isName_25 : decode cX5_isName 25 = .ok (.iconst 3, 1) := by decide +kernel
theorem dX5_isName_26 : decode cX5_isName 26 = .ok (.iload 6, 2) := by decide +kernel
theorem dX5_isName_28 : decode cX5_isName 28 = .ok (.iadd, 1) := by decide +kernel
theorem dX5_isName_29 : decode cX5_isName 29 = .ok (.invokevirtual 26, 3) := by decide +kernel
theorem dX5_isName_32 : decode cX5_isName 32 = .ok (.bipush 32, 2) := by decide +kernel
theorem dX5_isName_34 : decode cX5_isName 34 = .ok (.irem, 1) := by decide +kernel
theorem dX5_isName_35 : decode cX5_isName 35 = .ok (.i2l, 1) := by decide +kernel
theorem dX5_isName_36 : decode cX5_isName 36 = .ok (.ladd, 1) := by decide +kernel
theorem dX5_isName_37 : decode cX5_isName 37 = .ok (.lstore 4, 2) := by decide +kernel
theorem dX5_isName_39 : decode cX5_isName 39 = .ok (.iinc 6 1, 3) := by decide +kernel
theorem dX5_isName_42 : decode cX5_isName 42 = .ok (.goto (-36), 3) := by decide +kernel
theorem dX5_isName_45 : decode cX5_isName 45 = .ok (.lload 4, 2) := by decide +kernel
theorem dX5_isName_47 : decode cX5_isName 47 = .ok (.lload_n 2, 1) := by decide +kernel
theorem dX5_isName_48 : decode cX5_isName 48 = .ok (.lcmp, 1) := by decide +kernel
theorem dX5_isName_49 : decode cX5_isName 49 = .ok (.ifCond .ne 7, 3) := by decide +kernel
theorem dX5_isName_52 : decode cX5_isName 52 = .ok (.iconst 1, 1) := by decide +kernel
theorem dX5_isName_53 : decode cX5_isName 53 = .ok (.goto 4, 3) := by decide +kernel
theorem dX5_isName_56 : decode cX5_isName 56 = .ok (.iconst 0, 1) := by decide +kernel
theorem dX5_isName_57 : decode cX5_isName 57 = .ok (.ireturn, 1) := by decide +kernel
set_option maxRecDepth 20000 in
theorem ggX5_kind_X5_isName : GoodIn wsX5_kind wsX5_isName := goodIn_r _ [8, 9, 10, 11, 12, 7, 13, 14, 15, 16, 17, 18, 19, 20, 21, 22, 23, 24, 25, 26, 27] (by decide +kernel) (by decide +kernel)
set_option maxRecDepth 20000 in
theorem gX5_kind_X5_isName : GoodIn wsX5_kind (wsV RX5 38 RX5 yX5_isName wsX5_isName) := goodIn_app (goodIn_of _ (by decide +kernel)) ggX5_kind_X5_isName
set_option maxRecDepth 20000 in
theorem ggX5_kind_X5_of : GoodIn wsX5_kind wsX5_of := goodIn_r _ [13, 14, 15, 16, 17, 18, 19, 20, 21, 22, 23, 24, 25, 26, 27] (by decide +kernel) (by decide +kernel)
set_option maxRecDepth 20000 in
theorem gX5_kind_X5_of : GoodIn wsX5_kind (wsV RX5 26 RX5 yX5_of wsX5_of) := goodIn_app (goodIn_of _ (by decide +kernel)) ggX5_kind_X5_of
theorem dX5_kind_0 : decode cX5_kind 0 = .ok (.aload_n 0, 1) := by decide +kernel
theorem dX5_kind_1 : decode cX5_kind 1 = .ok (.iload_n 1, 1) := by decide +kernel
theorem dX5_kind_2 : decode cX5_kind 2 = .ok (.ldc2_w 36, 3) := by decide +kernel
theorem dX5_kind_5 : decode cX5_kind 5 = .ok (.invokevirtual 38, 3) := by decide +kernel
theorem dX5_kind_8 : decode cX5_kind 8 = .ok (.ifCond .eq 5, 3) := by decide +kernel
theorem dX5_kind_11 : decode cX5_kind 11 = .ok (.iconst 1, 1) := by decide +kernel
theorem dX5_kind_12 : decode cX5_kind 12 = .ok (.ireturn, 1) := by decide +kernel
theorem dX5_kind_13 : decode cX5_kind 13 = .ok (.aload_n 0, 1) := by decide +kernel
theorem dX5_kind_14 : decode cX5_kind 14 = .ok (.iload_n 1, 1) := by decide +kernel
theorem dX5_kind_15 : decode cX5_kind 15 = .ok (.ldc2_w 42, 3) := by decide +kernel
theorem dX5_kind_18 : decode cX5_kind 18 = .ok (.invokevirtual 38, 3) := by decide +kernel
theorem dX5_kind_21 : decode cX5_kind 21 = .ok (.ifCond .eq 5, 3) := by decide +kernel
theorem dX5_kind_24 : decode cX5_kind 24 = .ok (.iconst 2, 1) := by decide +kernel
theorem dX5_kind_25 : decode cX5_kind 25 = .ok (.ireturn, 1) := by decide +kernel
theorem dX5_kind_26 : decode cX5_kind 26 = .ok (.aload_n 0, 1) := by decide +kernel
theorem dX5_kind_27 : decode cX5_kind 27 = .ok (.iload_n 1, 1) := by decide +kernel
theorem dX5_kind_28 : decode cX5_kind 28 = .ok (.ldc2_w 44, 3) := by decide +kernel
theorem dX5_kind_31 : decode cX5_kind 31 = .ok (.invokevirtual 38, 3) := by decide +kernel
theorem dX5_kind_34 : decode cX5_kind 34 = .ok (.ifCond .eq 5, 3) := by decide +kernel
theorem dX5_kind_37 : decode cX5_kind 37 = .ok (.iconst 3, 1) := by decide +kernel
theorem dX5_kind_38 : decode cX5_kind 38 = .ok (.ireturn, 1) := by decide +kernel
theorem dX5_kind_39 : decode cX5_kind 39 = .ok (.aload_n 0, 1) := by decide +kernel
theorem dX5_kind_40 : decode cX5_kind 40 = .ok (.iload_n 1, 1) := by decide +kernel
theorem dX5_kind_41 : decode cX5_kind 41 = .ok (.iconst 0, 1) := by decide +kernel
theorem dX5_kind_42 : decode cX5_kind 42 = .ok (.invokevirtual 26, 3) := by decide +kernel
theorem dX5_kind_45 : decode cX5_kind 45 = .ok (.iconst 1, 1) := by decide +kernel
theorem dX5_kind_46 : decode cX5_kind 46 = .ok (.if_icmp .ne 7, 3) := by decide +kernel
theorem dX5_kind_49 : decode cX5_kind 49 = .ok (.iconst 4, 1) := by decide +kernel
theorem dX5_kind_50 : decode cX5_kind 50 = .ok (.goto 4, 3) := by decide +kernel
theorem dX5_kind_53 : decode cX5_kind 53 = .ok (.iconst 0, 1) := by decide +kernel
theorem dX5_kind_54 : decode cX5_kind 54 = .ok (.ireturn, 1) := by decide +kernel
theorem dX5_fails_0 : decode cX5_fails 0 = .ok (.aload_n 0, 1) := by decide +kernel
theorem dX5_fails_1 : decode cX5_fails 1 = .ok (.iload_n 1, 1) := by decide +kernel
theorem dX5_fails_2 : decode cX5_fails 2 = .ok (.putfield 46, 3) := by decide +kernel
theorem dX5_fails_5 : decode cX5_fails 5 = .ok (.aload_n 0, 1) := by decide +kernel
theorem dX5_fails_6 : decode cX5_fails 6 = .ok (.iload_n 2, 1) := by decide +kernel
theorem dX5_fails_7 : decode cX5_fails 7 = .ok (.putfield 49, 3) := by decide +kernel
theorem dX5_fails_10 : decode cX5_fails 10 = .ok (.iconst 0, 1) := by decide +kernel
theorem dX5_fails_11 : decode cX5_fails 11 = .ok (.ireturn, 1) := by decide +kernel
theorem dX5_isEnd_0 : decode cX5_isEnd 0 = .ok (.aload_n 0, 1) := by decide +kernel
theorem dX5_isEnd_1 : decode cX5_isEnd 1 = .ok (.getfield 52, 3) := by decide +kernel
theorem dX5_isEnd_4 : decode cX5_isEnd 4 = .ok (.aload_n 0, 1) := by decide +kernel
theorem dX5_isEnd_5 : decode cX5_isEnd 5 = .ok (.getfield 55, 3) := by decide +kernel
theorem dX5_isEnd_8 : decode cX5_isEnd 8 = .ok (.if_icmp .eq 17, 3) := by decide +kernel
theorem dX5_isEnd_11 : decode cX5_isEnd 11 = .ok (.aload_n 0, 1) := by decide +kernel
theorem dX5_isEnd_12 : decode cX5_isEnd 12 = .ok (.getfield 19, 3) := by decide +kernel
theorem dX5_isEnd_15 : decode cX5_isEnd 15 = .ok (.aload_n 0, 1) := by decide +kernel
theorem dX5_isEnd_16 : decode cX5_isEnd 16 = .ok (.getfield 52, 3) := by decide +kernel
theorem dX5_isEnd_19 : decode cX5_isEnd 19 = .ok (.iaload, 1) := by decide +kernel
theorem dX5_isEnd_20 : decode cX5_isEnd 20 = .ok (.bipush 47, 2) := by decide +kernel
theorem dX5_isEnd_22 : decode cX5_isEnd 22 = .ok (.if_icmp .ne 7, 3) := by decide +kernel
theorem dX5_isEnd_25 : decode cX5_isEnd 25 = .ok (.iconst 1, 1) := by decide +kernel
theorem dX5_isEnd_26 : decode cX5_isEnd 26 = .ok (.goto 4, 3) := by decide +kernel
theorem dX5_isEnd_29 : decode cX5_isEnd 29 = .ok (.iconst 0, 1) := by decide +kernel
theorem dX5_isEnd_30 : decode cX5_isEnd 30 = .ok (.ireturn, 1) := by decide +kernel
set_option maxRecDepth 20000 in
theorem ggX5_mayStand_X5_in : GoodIn wsX5_mayStand wsX5_in := goodIn_r _ [7] (by decide +kernel) (by decide +kernel)
set_option maxRecDepth 20000 in
theorem gX5_mayStand_X5_in : GoodIn wsX5_mayStand (va_wsS RX5 61 yX5_in wsX5_in) := goodIn_app (goodIn_of _ (by decide +kernel)) ggX5_mayStand_X5_in
theorem dX5_mayStand_0 : decode cX5_mayStand 0 = .ok (.aload_n 0, 1) := by decide +kernel
theorem dX5_mayStand_1 : decode cX5_mayStand 1 = .ok (.getfield 52, 3) := by decide +kernel
theorem dX5_mayStand_4 : decode cX5_mayStand 4 = .ok (.aload_n 0, 1) := by decide +kernel
theorem dX5_mayStand_5 : decode cX5_mayStand 5 = .ok (.getfield 58, 3) := by decide +kernel
theorem dX5_mayStand_8 : decode cX5_mayStand 8 = .ok (.isub, 1) := by decide +kernel
theorem dX5_mayStand_9 : decode cX5_mayStand 9 = .ok (.istore_n 1, 1) := by decide +kernel
theorem dX5_mayStand_10 : decode cX5_mayStand 10 = .ok (.aload_n 0, 1) := by decide +kernel
theorem dX5_mayStand_11 : decode cX5_mayStand 11 = .ok (.getfield 19, 3) := by decide +kernel
theorem dX5_mayStand_14 : decode cX5_mayStand 14 = .ok (.aload_n 0, 1) := by decide +kernel
theorem dX5_mayStand_15 : decode cX5_mayStand 15 = .ok (.getfield 52, 3) := by decide +kernel
theorem dX5_mayStand_18 : decode cX5_mayStand 18 = .ok (.iaload, 1) := by decide +kernel
theorem dX5_mayStand_19 : decode cX5_mayStand 19 = .ok (.bipush 32, 2) := by decide +kernel
theorem dX5_mayStand_21 : decode cX5_mayStand 21 = .ok (.if_icmp .ne 7, 3) := by decide +kernel
theorem dX5_mayStand_24 : decode cX5_mayStand 24 = .ok (.iconst 1, 1) := by decide +kernel
theorem dX5_mayStand_25 : decode cX5_mayStand 25 = .ok (.goto 4, 3) := by decide +kernel
theorem dX5_mayStand_28 : decode cX5_mayStand 28 = .ok (.iconst 0, 1) := by decide +kernel
theorem dX5_mayStand_29 : decode cX5_mayStand 29 = .ok (.istore_n 2, 1) := by decide +kernel
theorem dX5_mayStand_30 : decode cX5_mayStand 30 = .ok (.iload_n 1, 1) := by decide +kernel
theorem dX5_mayStand_31 : decode cX5_mayStand 31 = .ok (.bipush 14, 2) := by decide +kernel
theorem dX5_mayStand_33 : decode cX5_mayStand 33 = .ok (.if_icmp .ge 50, 3) := by decide +kernel
theorem dX5_mayStand_36 : decode cX5_mayStand 36 = .ok (.aload_n 0, 1) := by decide +kernel
theorem dX5_mayStand_37 : decode cX5_mayStand 37 = .ok (.getfield 19, 3) := by decide +kernel
theorem dX5_mayStand_40 : decode cX5_mayStand 40 = .ok (.aload_n 0, 1) := by decide +kernel
theorem dX5_mayStand_41 : decode cX5_mayStand 41 = .ok (.getfield 52, 3) := by decide +kernel
theorem dX5_mayStand_44 : decode cX5_mayStand 44 = .ok (.iaload, 1) := by decide +kernel
theorem dX5_mayStand_45 : decode cX5_mayStand 45 = .ok (.bipush 65, 2) := by decide +kernel
theorem dX5_mayStand_47 : decode cX5_mayStand 47 = .ok (.bipush 90, 2) := by decide +kernel
theorem dX5_mayStand_49 : decode cX5_mayStand 49 = .ok (.invokestatic 61, 3) := by decide +kernel
theorem dX5_mayStand_52 : decode cX5_mayStand 52 = .ok (.ifCond .ne 27, 3) := by decide +kernel
theorem dX5_mayStand_55 : decode cX5_mayStand 55 = .ok (.iload_n 2, 1) := by decide +kernel
theorem dX5_mayStand_56 : decode cX5_mayStand 56 = .ok (.ifCond .eq 27, 3) := by decide +kernel
theorem dX5_mayStand_59 : decode cX5_mayStand 59 = .ok (.iload_n 1, 1) := by decide +kernel
theorem dX5_mayStand_60 : decode cX5_mayStand 60 = .ok (.ifCond .le 23, 3) := by decide +kernel
theorem dX5_mayStand_63 : decode cX5_mayStand 63 = .ok (.aload_n 0, 1) := by decide +kernel
theorem dX5_mayStand_64 : decode cX5_mayStand 64 = .ok (.getfield 19, 3) := by decide +kernel
theorem dX5_mayStand_67 : decode cX5_mayStand 67 = .ok (.aload_n 0, 1) := by decide +kernel
theorem dX5_mayStand_68 : decode cX5_mayStand 68 = .ok (.getfield 52, 3) := by decide +kernel
theorem dX5_mayStand_71 : decode cX5_mayStand 71 = .ok (.iconst 1, 1) := by decide +kernel
theorem dX5_mayStand_72 : decode cX5_mayStand 72 = .ok (.isub, 1) := by decide +kernel
theorem dX5_mayStand_73 : decode cX5_mayStand 73 = .ok (.iaload, 1) := by decide +kernel
theorem dX5_mayStand_74 : decode cX5_mayStand 74 = .ok (.bipush 32, 2) := by decide +kernel
theorem dX5_mayStand_76 : decode cX5_mayStand 76 = .ok (.if_icmp .eq 7, 3) := by decide +kernel
theorem dX5_mayStand_79 : decode cX5_mayStand 79 = .ok (.iconst 1, 1) := by decide +kernel
theorem dX5_mayStand_80 : decode cX5_mayStand 80 = .ok (.goto 4, 3) := by decide +kernel
theorem dX5_mayStand_83 : decode cX5_mayStand 83 = .ok (.iconst 0, 1) := by decide +kernel
theorem dX5_mayStand_84 : decode cX5_mayStand 84 = .ok (.ireturn, 1) := by decide +kernel
set_option maxRecDepth 20000 in
theorem ggX5_isFormed_X5_isEnd : GoodIn wsX5_isFormed wsX5_isEnd := goodIn_r _ [8, 1, 9, 3, 23, 24, 25, 26, 27, 28, 29, 30, 31, 32, 33, 34, 35] (by decide +kernel) (by decide +kernel)
set_option maxRecDepth 20000 in
theorem gX5_isFormed_X5_isEnd : GoodIn wsX5_isFormed (wsV RX5 65 RX5 yX5_isEnd wsX5_isEnd) := goodIn_app (goodIn_of _ (by decide +kernel)) ggX5_isFormed_X5_isEnd
set_option maxRecDepth 20000 in
theorem ggX5_isFormed_X5_mayStand : GoodIn wsX5_isFormed wsX5_mayStand := goodIn_r _ [13, 1, 2, 3, 14, 15, 7, 16, 23, 24, 25, 26, 27, 28, 29, 30, 31, 32, 33, 34, 35] (by decide +kernel) (by decide +kernel)
set_option maxRecDepth 20000 in
theorem gX5_isFormed_X5_mayStand : GoodIn wsX5_isFormed (wsV RX5 69 RX5 yX5_mayStand wsX5_mayStand) := goodIn_app (goodIn_of _ (by decide +kernel)) ggX5_isFormed_X5_mayStand
set_option maxRecDepth 20000 in
theorem ggX5_isFormed_X5_fails : GoodIn wsX5_isFormed wsX5_fails := goodIn_r _ [20, 21, 22, 23, 24, 25, 26, 27, 28, 29, 30, 31, 32, 33, 34, 35] (by decide +kernel) (by decide +kernel)
set_option maxRecDepth 20000 in
theorem gX5_isFormed_X5_fails : GoodIn wsX5_isFormed (wsV RX5 72 RX5 yX5_fails wsX5_fails) := goodIn_app (goodIn_of _ (by decide +kernel)) ggX5_isFormed_X5_fails
theorem dX5_isFormed_0 : decode cX5_isFormed 0 = .ok (.aload_n 0, 1) := by decide +kernel
theorem dX5_isFormed_1 : decode cX5_isFormed 1 = .ok (.invokevirtual 65, 3) := by decide +kernel
theorem dX5_isFormed_4 : decode cX5_isFormed 4 = .ok (.ifCond .ne 38, 3) := by decide +kernel
theorem dX5_isFormed_7 : decode cX5_isFormed 7 = .ok (.aload_n 0, 1) := by decide +kernel
theorem dX5_isFormed_8 : decode cX5_isFormed 8 = .ok (.invokevirtual 69, 3) := by decide +kernel
theorem dX5_isFormed_11 : decode cX5_isFormed 11 = .ok (.ifCond .ne 18, 3) := by decide +kernel
theorem dX5_isFormed_14 : decode cX5_isFormed 14 = .ok (.aload_n 0, 1) := by decide +kernel
theorem dX5_isFormed_15 : decode cX5_isFormed 15 = .ok (.iconst 1, 1) := by decide +kernel
theorem dX5_isFormed_16 : decode cX5_isFormed 16 = .ok (.aload_n 0, 1) := by decide +kernel
theorem dX5_isFormed_17 : decode cX5_isFormed 17 = .ok (.getfield 52, 3) := by decide +kernel
theorem dX5_isFormed_20 : decode cX5_isFormed 20 = .ok (.aload_n 0, 1) := by decide +kernel
theorem dX5_isFormed_21 : decode cX5_isFormed 21 = .ok (.getfield 58, 3) := by decide +kernel
theorem dX5_isFormed_24 : decode cX5_isFormed 24 = .ok (.isub, 1) := by decide +kernel
theorem dX5_isFormed_25 : decode cX5_isFormed 25 = .ok (.invokevirtual 72, 3) := by decide +kernel
theorem dX5_isFormed_28 : decode cX5_isFormed 28 = .ok (.ireturn, 1) := by decide +kernel
theorem dX5_isFormed_29 : decode cX5_isFormed 29 = .ok (.aload_n 0, 1) := by decide +kernel
theorem dX5_isFormed_30 : decode cX5_isFormed 30 = .ok (.dup, 1) := by decide +kernel
theorem dX5_isFormed_31 : decode cX5_isFormed 31 = .ok (.getfield 52, 3) := by decide +kernel
theorem dX5_isFormed_34 : decode cX5_isFormed 34 = .ok (.iconst 1, 1) := by decide +kernel
theorem dX5_isFormed_35 : decode cX5_isFormed 35 = .ok (.iadd, 1) := by decide +kernel
theorem dX5_isFormed_36 : decode cX5_isFormed 36 = .ok (.putfield 52, 3) := by decide +kernel
theorem dX5_isFormed_39 : decode cX5_isFormed 39 = .ok (.goto (-39), 3) := by decide +kernel
theorem dX5_isFormed_42 : decode cX5_isFormed 42 = .ok (.aload_n 0, 1) := by decide +kernel
theorem dX5_isFormed_43 : decode cX5_isFormed 43 = .ok (.getfield 52, 3) := by decide +kernel
theorem dX5_isFormed_46 : decode cX5_isFormed 46 = .ok (.aload_n 0, 1) := by decide +kernel
theorem dX5_isFormed_47 : decode cX5_isFormed 47 = .ok (.getfield 58, 3) := by decide +kernel
theorem dX5_isFormed_50 : decode cX5_isFormed 50 = .ok (.isub, 1) := by decide +kernel
theorem dX5_isFormed_51 : decode cX5_isFormed 51 = .ok (.istore_n 1, 1) := by decide +kernel
theorem dX5_isFormed_52 : decode cX5_isFormed 52 = .ok (.iload_n 1, 1) := by decide +kernel
theorem dX5_isFormed_53 : decode cX5_isFormed 53 = .ok (.ifCond .ne 10, 3) := by decide +kernel
theorem dX5_isFormed_56 : decode cX5_isFormed 56 = .ok (.aload_n 0, 1) := by decide +kernel
theorem dX5_isFormed_57 : decode cX5_isFormed 57 = .ok (.iconst 1, 1) := by decide +kernel
theorem dX5_isFormed_58 : decode cX5_isFormed 58 = .ok (.iconst 0, 1) := by decide +kernel
theorem dX5_isFormed_59 : decode cX5_isFormed 59 = .ok (.invokevirtual 72, 3) := by decide +kernel
theorem dX5_isFormed_62 : decode cX5_isFormed 62 = .ok (.ireturn, 1) := by decide +kernel
theorem dX5_isFormed_63 : decode cX5_isFormed 63 = .ok (.aload_n 0, 1) := by decide +kernel
theorem dX5_isFormed_64 : decode cX5_isFormed 64 = .ok (.getfield 19, 3) := by decide +kernel
theorem dX5_isFormed_67 : decode cX5_isFormed 67 = .ok (.aload_n 0, 1) := by decide +kernel
theorem dX5_isFormed_68 : decode cX5_isFormed 68 = .ok (.getfield 52, 3) := by decide +kernel
theorem dX5_isFormed_71 : decode cX5_isFormed 71 = .ok (.iconst 1, 1) := by decide +kernel
theorem dX5_isFormed_72 : decode cX5_isFormed 72 = .ok (.isub, 1) := by decide +kernel
theorem dX5_isFormed_73 : decode cX5_isFormed 73 = .ok (.iaload, 1) := by decide +kernel
theorem dX5_isFormed_74 : decode cX5_isFormed 74 = .ok (.bipush 32, 2) := by decide +kernel
theorem dX5_isFormed_76 : decode cX5_isFormed 76 = .ok (.if_icmp .ne 14, 3) := by decide +kernel
theorem dX5_isFormed_79 : decode cX5_isFormed 79 = .ok (.aload_n 0, 1) := by decide +kernel
theorem dX5_isFormed_80 : decode cX5_isFormed 80 = .ok (.iconst 1, 1) := by decide +kernel
theorem dX5_isFormed_81 : decode cX5_isFormed 81 = .ok (.iload_n 1, 1) := by decide +kernel
theorem dX5_isFormed_82 : decode cX5_isFormed 82 = .ok (.iconst 1, 1) := by decide +kernel
theorem dX5_isFormed_83 : decode cX5_isFormed 83 = .ok (.isub, 1) := by decide +kernel
theorem dX5_isFormed_84 : decode cX5_isFormed 84 = .ok (.invokevirtual 72, 3) := by decide +kernel
theorem dX5_isFormed_87 : decode cX5_isFormed 87 = .ok (.ifCond .eq 7, 3) := by decide +kernel
theorem dX5_isFormed_90 : decode cX5_isFormed 90 = .ok (.iconst 1, 1) := by decide +kernel
theorem dX5_isFormed_91 : decode cX5_isFormed 91 = .ok (.goto 4, 3) := by decide +kernel
theorem dX5_isFormed_94 : decode cX5_isFormed 94 = .ok (.iconst 0, 1) := by decide +kernel
theorem dX5_isFormed_95 : decode cX5_isFormed 95 = .ok (.ireturn, 1) := by decide +kernel
set_option maxRecDepth 20000 in
theorem ggX5_adds_X5_isFormed : GoodIn wsX5_adds wsX5_isFormed := goodIn_r _ [9, 1, 2, 3, 10, 11, 12, 8, 13, 14, 15, 16, 17, 18, 19, 20, 21, 22, 23, 24, 25, 26, 27, 39, 40, 41, 42, 43, 44, 45, 46, 47, 48, 49, 50, 51] (by decide +kernel) (by decide +kernel)
set_option maxRecDepth 20000 in
theorem gX5_adds_X5_isFormed : GoodIn wsX5_adds (wsV RX5 76 RX5 yX5_isFormed wsX5_isFormed) := goodIn_app (goodIn_of _ (by decide +kernel)) ggX5_adds_X5_isFormed
set_option maxRecDepth 20000 in
theorem ggX5_adds_X5_wide : GoodIn wsX5_adds wsX5_wide := goodIn_r _ [30] (by decide +kernel) (by decide +kernel)
set_option maxRecDepth 20000 in
theorem gX5_adds_X5_wide : GoodIn wsX5_adds (va_wsS RX5 30 yX5_wide wsX5_wide) := goodIn_app (goodIn_of _ (by decide +kernel)) ggX5_adds_X5_wide
set_option maxRecDepth 20000 in
theorem ggX5_adds_X5_squeezed : GoodIn wsX5_adds wsX5_squeezed := goodIn_r _ [34, 4, 39, 40, 41, 42, 43, 44, 45, 46, 47, 48, 49, 50, 51] (by decide +kernel) (by decide +kernel)
set_option maxRecDepth 20000 in
theorem gX5_adds_X5_squeezed : GoodIn wsX5_adds (wsV RX5 79 RX5 yX5_squeezed wsX5_squeezed) := goodIn_app (goodIn_of _ (by decide +kernel)) ggX5_adds_X5_squeezed
set_option maxRecDepth 20000 in
theorem ggX5_adds_X5_fails : GoodIn wsX5_adds wsX5_fails := goodIn_r _ [25, 26, 27, 39, 40, 41, 42, 43, 44, 45, 46, 47, 48, 49, 50, 51] (by decide +kernel) (by decide +kernel)
set_option maxRecDepth 20000 in
theorem gX5_adds_X5_fails : GoodIn wsX5_adds (wsV RX5 72 RX5 yX5_fails wsX5_fails) := goodIn_app (goodIn_of _ (by decide +kernel)) ggX5_adds_X5_fails
set_option maxRecDepth 20000 in
theorem ggX5_adds_X5_sets : GoodIn wsX5_adds wsX5_sets := goodIn_r _ [38, 4, 39, 40, 41, 42, 43, 44, 45, 46, 47, 48, 49, 50, 51] (by decide +kernel) (by decide +kernel)
set_option maxRecDepth 20000 in
theorem gX5_adds_X5_sets : GoodIn wsX5_adds (wsV RX5 82 RX5 yX5_sets wsX5_sets) := goodIn_app (goodIn_of _ (by decide +kernel)) ggX5_adds_X5_sets
theorem dX5_adds_0 : decode cX5_adds 0 = .ok (.aload_n 0, 1) := by decide +kernel
theorem dX5_adds_1 : decode cX5_adds 1 = .ok (.aload_n 0, 1) := by decide +kernel
theorem dX5_adds_2 : decode cX5_adds 2 = .ok (.getfield 52, 3) := by decide +kernel
theorem dX5_adds_5 : decode cX5_adds 5 = .ok (.putfield 58, 3) := by decide +kernel
theorem dX5_adds_8 : decode cX5_adds 8 = .ok (.aload_n 0, 1) := by decide +kernel
theorem dX5_adds_9 : decode cX5_adds 9 = .ok (.invokevirtual 76, 3) := by decide +kernel
theorem dX5_adds_12 : decode cX5_adds 12 = .ok (.ifCond .ne 5, 3) := by decide +kernel
theorem dX5_adds_15 : decode cX5_adds 15 = .ok (.iconst 0, 1) := by decide +kernel
theorem dX5_adds_16 : decode cX5_adds 16 = .ok (.ireturn, 1) := by decide +kernel
theorem dX5_adds_17 : decode cX5_adds 17 = .ok (.aload_n 0, 1) := by decide +kernel
theorem dX5_adds_18 : decode cX5_adds 18 = .ok (.getfield 52, 3) := by decide +kernel
theorem dX5_adds_21 : decode cX5_adds 21 = .ok (.aload_n 0, 1) := by decide +kernel
theorem dX5_adds_22 : decode cX5_adds 22 = .ok (.getfield 58, 3) := by decide +kernel
theorem dX5_adds_25 : decode cX5_adds 25 = .ok (.isub, 1) := by decide +kernel
theorem dX5_adds_26 : decode cX5_adds 26 = .ok (.istore_n 1, 1) := by decide +kernel
theorem dX5_adds_27 : decode cX5_adds 27 = .ok (.iconst 0, 1) := by decide +kernel
theorem dX5_adds_28 : decode cX5_adds 28 = .ok (.istore_n 2, 1) := by decide +kernel
theorem dX5_adds_29 : decode cX5_adds 29 = .ok (.aload_n 0, 1) := by decide +kernel
theorem dX5_adds_30 : decode cX5_adds 30 = .ok (.getfield 58, 3) := by decide +kernel
theorem dX5_adds_33 : decode cX5_adds 33 = .ok (.istore_n 3, 1) := by decide +kernel
theorem dX5_adds_34 : decode cX5_adds 34 = .ok (.iload_n 3, 1) := by decide +kernel
theorem dX5_adds_35 : decode cX5_adds 35 = .ok (.aload_n 0, 1) := by decide +kernel
theorem dX5_adds_36 : decode cX5_adds 36 = .ok (.getfield 52, 3) := by decide +kernel
theorem dX5_adds_39 : decode cX5_adds 39 = .ok (.if_icmp .ge 21, 3) := by decide +kernel
theorem dX5_adds_42 : decode cX5_adds 42 = .ok (.iload_n 2, 1) := by decide +kernel
theorem dX5_adds_43 : decode cX5_adds 43 = .ok (.aload_n 0, 1) := by decide +kernel
theorem dX5_adds_44 : decode cX5_adds 44 = .ok (.getfield 19, 3) := by decide +kernel
theorem dX5_adds_47 : decode cX5_adds 47 = .ok (.iload_n 3, 1) := by decide +kernel
theorem dX5_adds_48 : decode cX5_adds 48 = .ok (.iaload, 1) := by decide +kernel
theorem dX5_adds_49 : decode cX5_adds 49 = .ok (.invokestatic 30, 3) := by decide +kernel
theorem dX5_adds_52 : decode cX5_adds 52 = .ok (.iadd, 1) := by decide +kernel
theorem dX5_adds_53 : decode cX5_adds 53 = .ok (.istore_n 2, 1) := by decide +kernel
theorem dX5_adds_54 : decode cX5_adds 54 = .ok (.iinc 3 1, 3) := by decide +kernel
theorem dX5_adds_57 : decode cX5_adds 57 = .ok (.goto (-23), 3) := by decide +kernel
theorem dX5_adds_60 : decode cX5_adds 60 = .ok (.aload_n 0, 1) := by decide +kernel
theorem dX5_adds_61 : decode cX5_adds 61 = .ok (.iload_n 2, 1) := by decide +kernel
theorem dX5_adds_62 : decode cX5_adds 62 = .ok (.invokevirtual 79, 3) := by decide +kernel
theorem dX5_adds_65 : decode cX5_adds 65 = .ok (.sipush 150, 3) := by decide +kernel
theorem dX5_adds_68 : decode cX5_adds 68 = .ok (.if_icmp .le 14, 3) := by decide +kernel
theorem dX5_adds_71 : decode cX5_adds 71 = .ok (.aload_n 0, 1) := by decide +kernel
theorem dX5_adds_72 : decode cX5_adds 72 = .ok (.iconst 2, 1) := by decide +kernel
theorem dX5_adds_73 : decode cX5_adds 73 = .ok (.aload_n 0, 1) := by decide +kernel
theorem dX5_adds_74 : decode cX5_adds 74 = .ok (.iload_n 2, 1) := by decide +kernel
theorem dX5_adds_75 : decode cX5_adds 75 = .ok (.invokevirtual 79, 3) := by decide +kernel
theorem dX5_adds_78 : decode cX5_adds 78 = .ok (.invokevirtual 72, 3) := by decide +kernel
theorem dX5_adds_81 : decode cX5_adds 81 = .ok (.ireturn, 1) := by decide +kernel
theorem dX5_adds_82 : decode cX5_adds 82 = .ok (.aload_n 0, 1) := by decide +kernel
theorem dX5_adds_83 : decode cX5_adds 83 = .ok (.getfield 7, 3) := by decide +kernel
theorem dX5_adds_86 : decode cX5_adds 86 = .ok (.iconst 0, 1) := by decide +kernel
theorem dX5_adds_87 : decode cX5_adds 87 = .ok (.iaload, 1) := by decide +kernel
theorem dX5_adds_88 : decode cX5_adds 88 = .ok (.istore_n 3, 1) := by decide +kernel
theorem dX5_adds_89 : decode cX5_adds 89 = .ok (.iload_n 3, 1) := by decide +kernel
theorem dX5_adds_90 : decode cX5_adds 90 = .ok (.bipush 20, 2) := by decide +kernel
theorem dX5_adds_92 : decode cX5_adds 92 = .ok (.if_icmp .ne 10, 3) := by decide +kernel
theorem dX5_adds_95 : decode cX5_adds 95 = .ok (.aload_n 0, 1) := by decide +kernel
theorem dX5_adds_96 : decode cX5_adds 96 = .ok (.iconst 3, 1) := by decide +kernel
theorem dX5_adds_97 : decode cX5_adds 97 = .ok (.iload_n 1, 1) := by decide +kernel
theorem dX5_adds_98 : decode cX5_adds 98 = .ok (.invokevirtual 72, 3) := by decide +kernel
theorem dX5_adds_101 : decode cX5_adds 101 = .ok (.ireturn, 1) := by decide +kernel
theorem dX5_adds_102 : decode cX5_adds 102 = .ok (.aload_n 0, 1) := by decide +kernel
theorem dX5_adds_103 : decode cX5_adds 103 = .ok (.iload_n 3, 1) := by decide +kernel
theorem dX5_adds_104 : decode cX5_adds 104 = .ok (.iconst 0, 1) := by decide +kernel
theorem dX5_adds_105 : decode cX5_adds 105 = .ok (.iload_n 1, 1) := by decide +kernel
theorem dX5_adds_106 : decode cX5_adds 106 = .ok (.invokevirtual 82, 3) := by decide +kernel
theorem dX5_adds_109 : decode cX5_adds 109 = .ok (.aload_n 0, 1) := by decide +kernel
theorem dX5_adds_110 : decode cX5_adds 110 = .ok (.iload_n 3, 1) := by decide +kernel
theorem dX5_adds_111 : decode cX5_adds 111 = .ok (.iconst 1, 1) := by decide +kernel
theorem dX5_adds_112 : decode cX5_adds 112 = .ok (.iconst 0, 1) := by decide +kernel
theorem dX5_adds_113 : decode cX5_adds 113 = .ok (.invokevirtual 82, 3) := by decide +kernel
theorem dX5_adds_116 : decode cX5_adds 116 = .ok (.aload_n 0, 1) := by decide +kernel
theorem dX5_adds_117 : decode cX5_adds 117 = .ok (.iload_n 3, 1) := by decide +kernel
theorem dX5_adds_118 : decode cX5_adds 118 = .ok (.iconst 2, 1) := by decide +kernel
theorem dX5_adds_119 : decode cX5_adds 119 = .ok (.iconst 0, 1) := by decide +kernel
theorem dX5_adds_120 : decode cX5_adds 120 = .ok (.invokevirtual 82, 3) := by decide +kernel
theorem dX5_adds_123 : decode cX5_adds 123 = .ok (.iconst 0, 1) := by decide +kernel
theorem dX5_adds_124 : decode cX5_adds 124 = .ok (.istore 4, 2) := by decide +kernel
theorem dX5_adds_126 : decode cX5_adds 126 = .ok (.iload 4, 2) := by decide +kernel
theorem dX5_adds_128 : decode cX5_adds 128 = .ok (.iload_n 1, 1) := by decide +kernel
theorem dX5_adds_129 : decode cX5_adds 129 = .ok (.if_icmp .ge 30, 3) := by decide +kernel
theorem dX5_adds_132 : decode cX5_adds 132 = .ok (.aload_n 0, 1) := by decide +kernel
theorem dX5_adds_133 : decode cX5_adds 133 = .ok (.iload_n 3, 1) := by decide +kernel
theorem dX5_adds_134 : decode cX5_adds 134 = .ok (.iconst 3, 1) := by decide +kernel
theorem dX5_adds_135 : decode cX5_adds 135 = .ok (.iload 4, 2) := by decide +kernel
theorem dX5_adds_137 : decode cX5_adds 137 = .ok (.iadd, 1) := by decide +kernel
theorem dX5_adds_138 : decode cX5_adds 138 = .ok (.aload_n 0, 1) := by decide +kernel
theorem dX5_adds_139 : decode cX5_adds 139 = .ok (.getfield 19, 3) := by decide +kernel
theorem dX5_adds_142 : decode cX5_adds 142 = .ok (.aload_n 0, 1) := by decide +kernel
theorem dX5_adds_143 : decode cX5_adds 143 = .ok (.getfield 58, 3) := by decide +kernel
theorem dX5_adds_146 : decode cX5_adds 146 = .ok (.iload 4, 2) := by decide +kernel
theorem dX5_adds_148 : decode cX5_adds 148 = .ok (.iadd, 1) := by decide +kernel
theorem dX5_adds_149 : decode cX5_adds 149 = .ok (.iaload, 1) := by decide +kernel
theorem dX5_adds_150 : decode cX5_adds 150 = .ok (.invokevirtual 82, 3) := by decide +kernel
theorem dX5_adds_153 : decode cX5_adds 153 = .ok (.iinc 4 1, 3) := by decide +kernel
theorem dX5_adds_156 : decode cX5_adds 156 = .ok (.goto (-30), 3) := by decide +kernel
theorem dX5_adds_159 : decode cX5_adds 159 = .ok (.aload_n 0, 1) := by decide +kernel
theorem dX5_adds_160 : decode cX5_adds 160 = .ok (.getfield 7, 3) := by decide +kernel
theorem dX5_adds_163 : decode cX5_adds 163 = .ok (.iconst 0, 1) := by decide +kernel
theorem dX5_adds_164 : decode cX5_adds 164 = .ok (.dup2, 1) := by decide +kernel
theorem dX5_adds_165 : decode cX5_adds 165 = .ok (.iaload, 1) := by decide +kernel
theorem dX5_adds_166 : decode cX5_adds 166 = .ok (.iconst 1, 1) := by decide +kernel
theorem dX5_adds_167 : decode cX5_adds 167 = .ok (.iadd, 1) := by decide +kernel
theorem dX5_adds_168 : decode cX5_adds 168 = .ok (.iastore, 1) := by decide +kernel
theorem dX5_adds_169 : decode cX5_adds 169 = .ok (.aload_n 0, 1) := by decide +kernel
theorem dX5_adds_170 : decode cX5_adds 170 = .ok (.getfield 7, 3) := by decide +kernel
theorem dX5_adds_173 : decode cX5_adds 173 = .ok (.iconst 1, 1) := by decide +kernel
theorem dX5_adds_174 : decode cX5_adds 174 = .ok (.aload_n 0, 1) := by decide +kernel
theorem dX5_adds_175 : decode cX5_adds 175 = .ok (.getfield 7, 3) := by decide +kernel
theorem dX5_adds_178 : decode cX5_adds 178 = .ok (.iconst 1, 1) := by decide +kernel
theorem dX5_adds_179 : decode cX5_adds 179 = .ok (.iaload, 1) := by decide +kernel
theorem dX5_adds_180 : decode cX5_adds 180 = .ok (.ifCond .ge 7, 3) := by decide +kernel
theorem dX5_adds_183 : decode cX5_adds 183 = .ok (.iconst 0, 1) := by decide +kernel
theorem dX5_adds_184 : decode cX5_adds 184 = .ok (.goto 9, 3) := by decide +kernel
theorem dX5_adds_187 : decode cX5_adds 187 = .ok (.aload_n 0, 1) := by decide +kernel
theorem dX5_adds_188 : decode cX5_adds 188 = .ok (.getfield 7, 3) := by decide +kernel
theorem dX5_adds_191 : decode cX5_adds 191 = .ok (.iconst 1, 1) := by decide +kernel
theorem dX5_adds_192 : decode cX5_adds 192 = .ok (.iaload, 1) := by decide +kernel
theorem dX5_adds_193 : decode cX5_adds 193 = .ok (.iastore, 1) := by decide +kernel
theorem dX5_adds_194 : decode cX5_adds 194 = .ok (.iconst 1, 1) := by decide +kernel
theorem dX5_adds_195 : decode cX5_adds 195 = .ok (.ireturn, 1) := by decide +kernel
set_option maxRecDepth 20000 in
theorem ggX5_addsAll_X5_adds : GoodIn wsX5_addsAll wsX5_adds := goodIn_r _ [8, 1, 9, 10, 11, 12, 13, 14, 7, 15, 16, 17, 18, 19, 3, 20, 21, 22, 23, 24, 25, 26, 27, 28, 29, 30, 31, 32, 33, 34, 35, 36, 37, 38, 39, 40, 41, 42, 43, 44, 45, 46, 47, 48, 49, 50, 51, 52, 53, 54, 55, 56] (by decide +kernel) (by decide +kernel)
set_option maxRecDepth 20000 in
theorem gX5_addsAll_X5_adds : GoodIn wsX5_addsAll (wsV RX5 89 RX5 yX5_adds wsX5_adds) := goodIn_app (goodIn_of _ (by decide +kernel)) ggX5_addsAll_X5_adds
theorem dX5_addsAll_0 : decode cX5_addsAll 0 = .ok (.aload_n 0, 1) := by decide +kernel
theorem dX5_addsAll_1 : decode cX5_addsAll 1 = .ok (.iconst 0, 1) := by decide +kernel
theorem dX5_addsAll_2 : decode cX5_addsAll 2 = .ok (.putfield 52, 3) := by decide +kernel
theorem dX5_addsAll_5 : decode cX5_addsAll 5 = .ok (.aload_n 0, 1) := by decide +kernel
theorem dX5_addsAll_6 : decode cX5_addsAll 6 = .ok (.iconst 1, 1) := by decide +kernel
theorem dX5_addsAll_7 : decode cX5_addsAll 7 = .ok (.putfield 86, 3) := by decide +kernel
theorem dX5_addsAll_10 : decode cX5_addsAll 10 = .ok (.aload_n 0, 1) := by decide +kernel
theorem dX5_addsAll_11 : decode cX5_addsAll 11 = .ok (.invokevirtual 89, 3) := by decide +kernel
theorem dX5_addsAll_14 : decode cX5_addsAll 14 = .ok (.istore_n 1, 1) := by decide +kernel
theorem dX5_addsAll_15 : decode cX5_addsAll 15 = .ok (.iload_n 1, 1) := by decide +kernel
theorem dX5_addsAll_16 : decode cX5_addsAll 16 = .ok (.ifCond .eq 42, 3) := by decide +kernel
theorem dX5_addsAll_19 : decode cX5_addsAll 19 = .ok (.aload_n 0, 1) := by decide +kernel
theorem dX5_addsAll_20 : decode cX5_addsAll 20 = .ok (.getfield 52, 3) := by decide +kernel
theorem dX5_addsAll_23 : decode cX5_addsAll 23 = .ok (.aload_n 0, 1) := by decide +kernel
theorem dX5_addsAll_24 : decode cX5_addsAll 24 = .ok (.getfield 55, 3) := by decide +kernel
theorem dX5_addsAll_27 : decode cX5_addsAll 27 = .ok (.if_icmp .ge 31, 3) := by decide +kernel
theorem dX5_addsAll_30 : decode cX5_addsAll 30 = .ok (.aload_n 0, 1) := by decide +kernel
theorem dX5_addsAll_31 : decode cX5_addsAll 31 = .ok (.dup, 1) := by decide +kernel
theorem dX5_addsAll_32 : decode cX5_addsAll 32 = .ok (.getfield 52, 3) := by decide +kernel
theorem dX5_addsAll_35 : decode cX5_addsAll 35 = .ok (.iconst 1, 1) := by decide +kernel
theorem dX5_addsAll_36 : decode cX5_addsAll 36 = .ok (.iadd, 1) := by decide +kernel
theorem dX5_addsAll_37 : decode cX5_addsAll 37 = .ok (.putfield 52, 3) := by decide +kernel
theorem dX5_addsAll_40 : decode cX5_addsAll 40 = .ok (.aload_n 0, 1) := by decide +kernel
theorem dX5_addsAll_41 : decode cX5_addsAll 41 = .ok (.dup, 1) := by decide +kernel
theorem dX5_addsAll_42 : decode cX5_addsAll 42 = .ok (.getfield 86, 3) := by decide +kernel
theorem dX5_addsAll_45 : decode cX5_addsAll 45 = .ok (.iconst 1, 1) := by decide +kernel
theorem dX5_addsAll_46 : decode cX5_addsAll 46 = .ok (.iadd, 1) := by decide +kernel
theorem dX5_addsAll_47 : decode cX5_addsAll 47 = .ok (.putfield 86, 3) := by decide +kernel
theorem dX5_addsAll_50 : decode cX5_addsAll 50 = .ok (.aload_n 0, 1) := by decide +kernel
theorem dX5_addsAll_51 : decode cX5_addsAll 51 = .ok (.invokevirtual 89, 3) := by decide +kernel
theorem dX5_addsAll_54 : decode cX5_addsAll 54 = .ok (.istore_n 1, 1) := by decide +kernel
theorem dX5_addsAll_55 : decode cX5_addsAll 55 = .ok (.goto (-40), 3) := by decide +kernel
theorem dX5_addsAll_58 : decode cX5_addsAll 58 = .ok (.iload_n 1, 1) := by decide +kernel
theorem dX5_addsAll_59 : decode cX5_addsAll 59 = .ok (.ireturn, 1) := by decide +kernel
set_option maxRecDepth 20000 in
theorem ggX5_fault_X5_in : GoodIn wsX5_fault wsX5_in := goodIn_r _ [11] (by decide +kernel) (by decide +kernel)
set_option maxRecDepth 20000 in
theorem gX5_fault_X5_in : GoodIn wsX5_fault (va_wsS RX5 61 yX5_in wsX5_in) := goodIn_app (goodIn_of _ (by decide +kernel)) ggX5_fault_X5_in
set_option maxRecDepth 20000 in
theorem ggX5_fault_X5_copies : GoodIn wsX5_fault wsX5_copies := goodIn_r _ [14] (by decide +kernel) (by decide +kernel)
set_option maxRecDepth 20000 in
theorem gX5_fault_X5_copies : GoodIn wsX5_fault (va_wsS RX5 93 yX5_copies wsX5_copies) := goodIn_app (goodIn_of _ (by decide +kernel)) ggX5_fault_X5_copies
set_option maxRecDepth 20000 in
theorem ggX5_fault_X5_addsAll : GoodIn wsX5_fault wsX5_addsAll := goodIn_r _ [18, 19, 20, 21, 22, 23, 24, 10, 25, 5, 26, 2, 27, 28, 29, 30, 31, 32, 33, 34, 35, 36, 37, 38, 8, 9, 11, 39, 40, 41, 42, 6, 7, 43, 44, 45, 46, 47, 48, 49, 50, 51, 52, 53, 54, 55, 56, 57, 58, 59, 60, 61, 62, 63, 64, 65, 66] (by decide +kernel) (by decide +kernel)
set_option maxRecDepth 20000 in
theorem gX5_fault_X5_addsAll : GoodIn wsX5_fault (wsV RX5 97 RX5 yX5_addsAll wsX5_addsAll) := goodIn_app (goodIn_of _ (by decide +kernel)) ggX5_fault_X5_addsAll
theorem dX5_fault_0 : decode cX5_fault 0 = .ok (.iload_n 1, 1) := by decide +kernel
theorem dX5_fault_1 : decode cX5_fault 1 = .ok (.iconst 0, 1) := by decide +kernel
theorem dX5_fault_2 : decode cX5_fault 2 = .ok (.iconst 2, 1) := by decide +kernel
theorem dX5_fault_3 : decode cX5_fault 3 = .ok (.invokestatic 61, 3) := by decide +kernel
theorem dX5_fault_6 : decode cX5_fault 6 = .ok (.ifCond .ne 6, 3) := by decide +kernel
theorem dX5_fault_9 : decode cX5_fault 9 = .ok (.ldc 92, 2) := by decide +kernel
theorem dX5_fault_11 : decode cX5_fault 11 = .ok (.ireturn, 1) := by decide +kernel
theorem dX5_fault_12 : decode cX5_fault 12 = .ok (.aload_n 0, 1) := by decide +kernel
theorem dX5_fault_13 : decode cX5_fault 13 = .ok (.getfield 7, 3) := by decide +kernel
theorem dX5_fault_16 : decode cX5_fault 16 = .ok (.aload_n 0, 1) := by decide +kernel
theorem dX5_fault_17 : decode cX5_fault 17 = .ok (.getfield 16, 3) := by decide +kernel
theorem dX5_fault_20 : decode cX5_fault 20 = .ok (.invokestatic 93, 3) := by decide +kernel
theorem dX5_fault_23 : decode cX5_fault 23 = .ok (.aload_n 0, 1) := by decide +kernel
theorem dX5_fault_24 : decode cX5_fault 24 = .ok (.invokevirtual 97, 3) := by decide +kernel
theorem dX5_fault_27 : decode cX5_fault 27 = .ok (.istore_n 2, 1) := by decide +kernel
theorem dX5_fault_28 : decode cX5_fault 28 = .ok (.aload_n 0, 1) := by decide +kernel
theorem dX5_fault_29 : decode cX5_fault 29 = .ok (.getfield 16, 3) := by decide +kernel
theorem dX5_fault_32 : decode cX5_fault 32 = .ok (.aload_n 0, 1) := by decide +kernel
theorem dX5_fault_33 : decode cX5_fault 33 = .ok (.getfield 7, 3) := by decide +kernel
theorem dX5_fault_36 : decode cX5_fault 36 = .ok (.invokestatic 93, 3) := by decide +kernel
theorem dX5_fault_39 : decode cX5_fault 39 = .ok (.iload_n 2, 1) := by decide +kernel
theorem dX5_fault_40 : decode cX5_fault 40 = .ok (.ifCond .eq 8, 3) := by decide +kernel
theorem dX5_fault_43 : decode cX5_fault 43 = .ok (.ldc 100, 2) := by decide +kernel
theorem dX5_fault_45 : decode cX5_fault 45 = .ok (.goto 30, 3) := by decide +kernel
theorem dX5_fault_48 : decode cX5_fault 48 = .ok (.iload_n 1, 1) := by decide +kernel
theorem dX5_fault_49 : decode cX5_fault 49 = .ok (.ifCond .ne 10, 3) := by decide +kernel
theorem dX5_fault_52 : decode cX5_fault 52 = .ok (.aload_n 0, 1) := by decide +kernel
theorem dX5_fault_53 : decode cX5_fault 53 = .ok (.getfield 58, 3) := by decide +kernel
theorem dX5_fault_56 : decode cX5_fault 56 = .ok (.goto 19, 3) := by decide +kernel
theorem dX5_fault_59 : decode cX5_fault 59 = .ok (.iload_n 1, 1) := by decide +kernel
theorem dX5_fault_60 : decode cX5_fault 60 = .ok (.iconst 1, 1) := by decide +kernel
theorem dX5_fault_61 : decode cX5_fault 61 = .ok (.if_icmp .ne 10, 3) := by decide +kernel
theorem dX5_fault_64 : decode cX5_fault 64 = .ok (.aload_n 0, 1) := by decide +kernel
theorem dX5_fault_65 : decode cX5_fault 65 = .ok (.getfield 46, 3) := by decide +kernel
theorem dX5_fault_68 : decode cX5_fault 68 = .ok (.goto 7, 3) := by decide +kernel
theorem dX5_fault_71 : decode cX5_fault 71 = .ok (.aload_n 0, 1) := by decide +kernel
theorem dX5_fault_72 : decode cX5_fault 72 = .ok (.getfield 49, 3) := by decide +kernel
theorem dX5_fault_75 : decode cX5_fault 75 = .ok (.ireturn, 1) := by decide +kernel
set_option maxRecDepth 20000 in
theorem ggX5_add_X5_copies : GoodIn wsX5_add wsX5_copies := goodIn_r _ [9] (by decide +kernel) (by decide +kernel)
set_option maxRecDepth 20000 in
theorem gX5_add_X5_copies : GoodIn wsX5_add (va_wsS RX5 93 yX5_copies wsX5_copies) := goodIn_app (goodIn_of _ (by decide +kernel)) ggX5_add_X5_copies
set_option maxRecDepth 20000 in
theorem ggX5_add_X5_addsAll : GoodIn wsX5_add wsX5_addsAll := goodIn_r _ [13, 14, 4, 15, 16, 17, 18, 8, 19, 20, 21, 1, 22, 23, 24, 25, 26, 27, 28, 29, 30, 31, 32, 33, 34, 35, 36, 37, 38, 39, 40, 41, 42, 43, 44, 45, 46, 47, 48, 49, 50, 51, 52, 53, 60, 61, 62, 63, 64, 65, 66, 67, 68, 69, 70, 71, 72] (by decide +kernel) (by decide +kernel)
set_option maxRecDepth 20000 in
theorem gX5_add_X5_addsAll : GoodIn wsX5_add (wsV RX5 97 RX5 yX5_addsAll wsX5_addsAll) := goodIn_app (goodIn_of _ (by decide +kernel)) ggX5_add_X5_addsAll
set_option maxRecDepth 20000 in
theorem ggX5_add_X5_changes : GoodIn wsX5_add wsX5_changes := goodIn_r _ [57, 58, 59, 1, 60, 61, 62, 63, 64, 65, 66, 67, 68, 69, 70, 71, 72] (by decide +kernel) (by decide +kernel)
set_option maxRecDepth 20000 in
theorem gX5_add_X5_changes : GoodIn wsX5_add (wsV RX5 102 RX5 yX5_changes wsX5_changes) := goodIn_app (goodIn_of _ (by decide +kernel)) ggX5_add_X5_changes
theorem dX5_add_0 : decode cX5_add 0 = .ok (.aload_n 0, 1) := by decide +kernel
theorem dX5_add_1 : decode cX5_add 1 = .ok (.getfield 7, 3) := by decide +kernel
theorem dX5_add_4 : decode cX5_add 4 = .ok (.aload_n 0, 1) := by decide +kernel
theorem dX5_add_5 : decode cX5_add 5 = .ok (.getfield 16, 3) := by decide +kernel
theorem dX5_add_8 : decode cX5_add 8 = .ok (.invokestatic 93, 3) := by decide +kernel
theorem dX5_add_11 : decode cX5_add 11 = .ok (.aload_n 0, 1) := by decide +kernel
theorem dX5_add_12 : decode cX5_add 12 = .ok (.invokevirtual 97, 3) := by decide +kernel
theorem dX5_add_15 : decode cX5_add 15 = .ok (.istore_n 1, 1) := by decide +kernel
theorem dX5_add_16 : decode cX5_add 16 = .ok (.aload_n 0, 1) := by decide +kernel
theorem dX5_add_17 : decode cX5_add 17 = .ok (.getfield 16, 3) := by decide +kernel
theorem dX5_add_20 : decode cX5_add 20 = .ok (.aload_n 0, 1) := by decide +kernel
theorem dX5_add_21 : decode cX5_add 21 = .ok (.getfield 7, 3) := by decide +kernel
theorem dX5_add_24 : decode cX5_add 24 = .ok (.invokestatic 93, 3) := by decide +kernel
theorem dX5_add_27 : decode cX5_add 27 = .ok (.iload_n 1, 1) := by decide +kernel
theorem dX5_add_28 : decode cX5_add 28 = .ok (.ifCond .ne 6, 3) := by decide +kernel
theorem dX5_add_31 : decode cX5_add 31 = .ok (.ldc 101, 2) := by decide +kernel
theorem dX5_add_33 : decode cX5_add 33 = .ok (.ireturn, 1) := by decide +kernel
theorem dX5_add_34 : decode cX5_add 34 = .ok (.aload_n 0, 1) := by decide +kernel
theorem dX5_add_35 : decode cX5_add 35 = .ok (.invokevirtual 102, 3) := by decide +kernel
theorem dX5_add_38 : decode cX5_add 38 = .ok (.aload_n 0, 1) := by decide +kernel
theorem dX5_add_39 : decode cX5_add 39 = .ok (.invokevirtual 97, 3) := by decide +kernel
theorem dX5_add_42 : decode cX5_add 42 = .ok (.ifCond .eq 10, 3) := by decide +kernel
theorem dX5_add_45 : decode cX5_add 45 = .ok (.aload_n 0, 1) := by decide +kernel
theorem dX5_add_46 : decode cX5_add 46 = .ok (.getfield 86, 3) := by decide +kernel
theorem dX5_add_49 : decode cX5_add 49 = .ok (.goto 5, 3) := by decide +kernel
theorem dX5_add_52 : decode cX5_add 52 = .ok (.ldc 100, 2) := by decide +kernel
theorem dX5_add_54 : decode cX5_add 54 = .ok (.ireturn, 1) := by decide +kernel
theorem dX5_without_0 : decode cX5_without 0 = .ok (.iload_n 0, 1) := by decide +kernel
theorem dX5_without_1 : decode cX5_without 1 = .ok (.iconst 1, 1) := by decide +kernel
theorem dX5_without_2 : decode cX5_without 2 = .ok (.iload_n 1, 1) := by decide +kernel
theorem dX5_without_3 : decode cX5_without 3 = .ok (.ishl, 1) := by decide +kernel
theorem dX5_without_4 : decode cX5_without 4 = .ok (.iconst 1, 1) := by decide +kernel
theorem dX5_without_5 : decode cX5_without 5 = .ok (.isub, 1) := by decide +kernel
theorem dX5_without_6 : decode cX5_without 6 = .ok (.iand, 1) := by decide +kernel
theorem dX5_without_7 : decode cX5_without 7 = .ok (.istore_n 2, 1) := by decide +kernel
theorem dX5_without_8 : decode cX5_without 8 = .ok (.iload_n 2, 1) := by decide +kernel
theorem dX5_without_9 : decode cX5_without 9 = .ok (.iload_n 0, 1) := by decide +kernel
theorem dX5_without_10 : decode cX5_without 10 = .ok (.iload_n 1, 1) := by decide +kernel
theorem dX5_without_11 : decode cX5_without 11 = .ok (.iconst 1, 1) := by decide +kernel
theorem dX5_without_12 : decode cX5_without 12 = .ok (.iadd, 1) := by decide +kernel
theorem dX5_without_13 : decode cX5_without 13 = .ok (.ishr, 1) := by decide +kernel
theorem dX5_without_14 : decode cX5_without 14 = .ok (.iload_n 1, 1) := by decide +kernel
theorem dX5_without_15 : decode cX5_without 15 = .ok (.ishl, 1) := by decide +kernel
theorem dX5_without_16 : decode cX5_without 16 = .ok (.ior, 1) := by decide +kernel
theorem dX5_without_17 : decode cX5_without 17 = .ok (.ireturn, 1) := by decide +kernel
set_option maxRecDepth 20000 in
theorem ggX5_cut_X5_isRow : GoodIn wsX5_cut wsX5_isRow := goodIn_r _ [7, 2, 21, 22, 23, 24, 25, 26, 27, 28, 29, 30, 31, 32, 33] (by decide +kernel) (by decide +kernel)
set_option maxRecDepth 20000 in
theorem gX5_cut_X5_isRow : GoodIn wsX5_cut (wsV RX5 105 RX5 yX5_isRow wsX5_isRow) := goodIn_app (goodIn_of _ (by decide +kernel)) ggX5_cut_X5_isRow
set_option maxRecDepth 20000 in
theorem ggX5_cut_X5_changes : GoodIn wsX5_cut wsX5_changes := goodIn_r _ [11, 12, 13, 2, 21, 22, 23, 24, 25, 26, 27, 28, 29, 30, 31, 32, 33] (by decide +kernel) (by decide +kernel)
set_option maxRecDepth 20000 in
theorem gX5_cut_X5_changes : GoodIn wsX5_cut (wsV RX5 102 RX5 yX5_changes wsX5_changes) := goodIn_app (goodIn_of _ (by decide +kernel)) ggX5_cut_X5_changes
set_option maxRecDepth 20000 in
theorem ggX5_cut_X5_ofRoute : GoodIn wsX5_cut wsX5_ofRoute := goodIn_r _ [17, 2, 21, 22, 23, 24, 25, 26, 27, 28, 29, 30, 31, 32, 33] (by decide +kernel) (by decide +kernel)
set_option maxRecDepth 20000 in
theorem gX5_cut_X5_ofRoute : GoodIn wsX5_cut (wsV RX5 109 RX5 yX5_ofRoute wsX5_ofRoute) := goodIn_app (goodIn_of _ (by decide +kernel)) ggX5_cut_X5_ofRoute
set_option maxRecDepth 20000 in
theorem ggX5_cut_X5_without : GoodIn wsX5_cut wsX5_without := goodIn_r _ [20] (by decide +kernel) (by decide +kernel)
set_option maxRecDepth 20000 in
theorem gX5_cut_X5_without : GoodIn wsX5_cut (va_wsS RX5 112 yX5_without wsX5_without) := goodIn_app (goodIn_of _ (by decide +kernel)) ggX5_cut_X5_without
theorem dX5_cut_0 : decode cX5_cut 0 = .ok (.aload_n 0, 1) := by decide +kernel
theorem dX5_cut_1 : decode cX5_cut 1 = .ok (.iload_n 1, 1) := by decide +kernel
theorem dX5_cut_2 : decode cX5_cut 2 = .ok (.invokevirtual 105, 3) := by decide +kernel
theorem dX5_cut_5 : decode cX5_cut 5 = .ok (.ifCond .ne 6, 3) := by decide +kernel
theorem dX5_cut_8 : decode cX5_cut 8 = .ok (.ldc 92, 2) := by decide +kernel
theorem dX5_cut_10 : decode cX5_cut 10 = .ok (.ireturn, 1) := by decide +kernel
theorem dX5_cut_11 : decode cX5_cut 11 = .ok (.aload_n 0, 1) := by decide +kernel
theorem dX5_cut_12 : decode cX5_cut 12 = .ok (.invokevirtual 102, 3) := by decide +kernel
theorem dX5_cut_15 : decode cX5_cut 15 = .ok (.aload_n 0, 1) := by decide +kernel
theorem dX5_cut_16 : decode cX5_cut 16 = .ok (.getfield 7, 3) := by decide +kernel
theorem dX5_cut_19 : decode cX5_cut 19 = .ok (.iconst 0, 1) := by decide +kernel
theorem dX5_cut_20 : decode cX5_cut 20 = .ok (.dup2, 1) := by decide +kernel
theorem dX5_cut_21 : decode cX5_cut 21 = .ok (.iaload, 1) := by decide +kernel
theorem dX5_cut_22 : decode cX5_cut 22 = .ok (.iconst 1, 1) := by decide +kernel
theorem dX5_cut_23 : decode cX5_cut 23 = .ok (.isub, 1) := by decide +kernel
theorem dX5_cut_24 : decode cX5_cut 24 = .ok (.iastore, 1) := by decide +kernel
theorem dX5_cut_25 : decode cX5_cut 25 = .ok (.bipush 11, 2) := by decide +kernel
theorem dX5_cut_27 : decode cX5_cut 27 = .ok (.bipush 17, 2) := by decide +kernel
theorem dX5_cut_29 : decode cX5_cut 29 = .ok (.iload_n 1, 1) := by decide +kernel
theorem dX5_cut_30 : decode cX5_cut 30 = .ok (.imul, 1) := by decide +kernel
theorem dX5_cut_31 : decode cX5_cut 31 = .ok (.iadd, 1) := by decide +kernel
theorem dX5_cut_32 : decode cX5_cut 32 = .ok (.istore_n 2, 1) := by decide +kernel
theorem dX5_cut_33 : decode cX5_cut 33 = .ok (.iload_n 2, 1) := by decide +kernel
theorem dX5_cut_34 : decode cX5_cut 34 = .ok (.bipush 11, 2) := by decide +kernel
theorem dX5_cut_36 : decode cX5_cut 36 = .ok (.bipush 17, 2) := by decide +kernel
theorem dX5_cut_38 : decode cX5_cut 38 = .ok (.aload_n 0, 1) := by decide +kernel
theorem dX5_cut_39 : decode cX5_cut 39 = .ok (.getfield 7, 3) := by decide +kernel
theorem dX5_cut_42 : decode cX5_cut 42 = .ok (.iconst 0, 1) := by decide +kernel
theorem dX5_cut_43 : decode cX5_cut 43 = .ok (.iaload, 1) := by decide +kernel
theorem dX5_cut_44 : decode cX5_cut 44 = .ok (.imul, 1) := by decide +kernel
theorem dX5_cut_45 : decode cX5_cut 45 = .ok (.iadd, 1) := by decide +kernel
theorem dX5_cut_46 : decode cX5_cut 46 = .ok (.if_icmp .ge 24, 3) := by decide +kernel
theorem dX5_cut_49 : decode cX5_cut 49 = .ok (.aload_n 0, 1) := by decide +kernel
theorem dX5_cut_50 : decode cX5_cut 50 = .ok (.getfield 7, 3) := by decide +kernel
theorem dX5_cut_53 : decode cX5_cut 53 = .ok (.iload_n 2, 1) := by decide +kernel
theorem dX5_cut_54 : decode cX5_cut 54 = .ok (.aload_n 0, 1) := by decide +kernel
theorem dX5_cut_55 : decode cX5_cut 55 = .ok (.getfield 7, 3) := by decide +kernel
theorem dX5_cut_58 : decode cX5_cut 58 = .ok (.iload_n 2, 1) := by decide +kernel
theorem dX5_cut_59 : decode cX5_cut 59 = .ok (.bipush 17, 2) := by decide +kernel
theorem dX5_cut_61 : decode cX5_cut 61 = .ok (.iadd, 1) := by decide +kernel
theorem dX5_cut_62 : decode cX5_cut 62 = .ok (.iaload, 1) := by decide +kernel
theorem dX5_cut_63 : decode cX5_cut 63 = .ok (.iastore, 1) := by decide +kernel
theorem dX5_cut_64 : decode cX5_cut 64 = .ok (.iinc 2 1, 3) := by decide +kernel
theorem dX5_cut_67 : decode cX5_cut 67 = .ok (.goto (-34), 3) := by decide +kernel
theorem dX5_cut_70 : decode cX5_cut 70 = .ok (.iconst 0, 1) := by decide +kernel
theorem dX5_cut_71 : decode cX5_cut 71 = .ok (.istore_n 2, 1) := by decide +kernel
theorem dX5_cut_72 : decode cX5_cut 72 = .ok (.iload_n 2, 1) := by decide +kernel
theorem dX5_cut_73 : decode cX5_cut 73 = .ok (.aload_n 0, 1) := by decide +kernel
theorem dX5_cut_74 : decode cX5_cut 74 = .ok (.getfield 7, 3) := by decide +kernel
theorem dX5_cut_77 : decode cX5_cut 77 = .ok (.iconst 2, 1) := by decide +kernel
theorem dX5_cut_78 : decode cX5_cut 78 = .ok (.iaload, 1) := by decide +kernel
theorem dX5_cut_79 : decode cX5_cut 79 = .ok (.if_icmp .ge 33, 3) := by decide +kernel
theorem dX5_cut_82 : decode cX5_cut 82 = .ok (.aload_n 0, 1) := by decide +kernel
theorem dX5_cut_83 : decode cX5_cut 83 = .ok (.getfield 7, 3) := by decide +kernel
theorem dX5_cut_86 : decode cX5_cut 86 = .ok (.sipush 351, 3) := by decide +kernel
theorem dX5_cut_89 : decode cX5_cut 89 = .ok (.iconst 3, 1) := by decide +kernel
theorem dX5_cut_90 : decode cX5_cut 90 = .ok (.iload_n 2, 1) := by decide +kernel
theorem dX5_cut_91 : decode cX5_cut 91 = .ok (.imul, 1) := by decide +kernel
theorem dX5_cut_92 : decode cX5_cut 92 = .ok (.iadd, 1) := by decide +kernel
theorem dX5_cut_93 : decode cX5_cut 93 = .ok (.iconst 0, 1) := by decide +kernel
theorem dX5_cut_94 : decode cX5_cut 94 = .ok (.iadd, 1) := by decide +kernel
theorem dX5_cut_95 : decode cX5_cut 95 = .ok (.aload_n 0, 1) := by decide +kernel
theorem dX5_cut_96 : decode cX5_cut 96 = .ok (.iload_n 2, 1) := by decide +kernel
theorem dX5_cut_97 : decode cX5_cut 97 = .ok (.iconst 0, 1) := by decide +kernel
theorem dX5_cut_98 : decode cX5_cut 98 = .ok (.invokevirtual 109, 3) := by decide +kernel
theorem dX5_cut_101 : decode cX5_cut 101 = .ok (.iload_n 1, 1) := by decide +kernel
theorem dX5_cut_102 : decode cX5_cut 102 = .ok (.invokestatic 112, 3) := by decide +kernel
theorem dX5_cut_105 : decode cX5_cut 105 = .ok (.iastore, 1) := by decide +kernel
theorem dX5_cut_106 : decode cX5_cut 106 = .ok (.iinc 2 1, 3) := by decide +kernel
theorem dX5_cut_109 : decode cX5_cut 109 = .ok (.goto (-37), 3) := by decide +kernel
theorem dX5_cut_112 : decode cX5_cut 112 = .ok (.aload_n 0, 1) := by decide +kernel
theorem dX5_cut_113 : decode cX5_cut 113 = .ok (.getfield 7, 3) := by decide +kernel
theorem dX5_cut_116 : decode cX5_cut 116 = .ok (.iconst 1, 1) := by decide +kernel
theorem dX5_cut_117 : decode cX5_cut 117 = .ok (.dup2, 1) := by decide +kernel
theorem dX5_cut_118 : decode cX5_cut 118 = .ok (.iaload, 1) := by decide +kernel
theorem dX5_cut_119 : decode cX5_cut 119 = .ok (.aload_n 0, 1) := by decide +kernel
theorem dX5_cut_120 : decode cX5_cut 120 = .ok (.getfield 7, 3) := by decide +kernel
theorem dX5_cut_123 : decode cX5_cut 123 = .ok (.iconst 1, 1) := by decide +kernel
theorem dX5_cut_124 : decode cX5_cut 124 = .ok (.iaload, 1) := by decide +kernel
theorem dX5_cut_125 : decode cX5_cut 125 = .ok (.iload_n 1, 1) := by decide +kernel
theorem dX5_cut_126 : decode cX5_cut 126 = .ok (.if_icmp .gt 18, 3) := by decide +kernel
theorem dX5_cut_129 : decode cX5_cut 129 = .ok (.aload_n 0, 1) := by decide +kernel
theorem dX5_cut_130 : decode cX5_cut 130 = .ok (.getfield 7, 3) := by decide +kernel
theorem dX5_cut_133 : decode cX5_cut 133 = .ok (.iconst 1, 1) := by decide +kernel
theorem dX5_cut_134 : decode cX5_cut 134 = .ok (.iaload, 1) := by decide +kernel
theorem dX5_cut_135 : decode cX5_cut 135 = .ok (.aload_n 0, 1) := by decide +kernel
theorem dX5_cut_136 : decode cX5_cut 136 = .ok (.getfield 7, 3) := by decide +kernel
theorem dX5_cut_139 : decode cX5_cut 139 = .ok (.iconst 0, 1) := by decide +kernel
theorem dX5_cut_140 : decode cX5_cut 140 = .ok (.iaload, 1) := by decide +kernel
theorem dX5_cut_141 : decode cX5_cut 141 = .ok (.if_icmp .ne 7, 3) := by decide +kernel
theorem dX5_cut_144 : decode cX5_cut 144 = .ok (.iconst 1, 1) := by decide +kernel
theorem dX5_cut_145 : decode cX5_cut 145 = .ok (.goto 4, 3) := by decide +kernel
theorem dX5_cut_148 : decode cX5_cut 148 = .ok (.iconst 0, 1) := by decide +kernel
theorem dX5_cut_149 : decode cX5_cut 149 = .ok (.isub, 1) := by decide +kernel
theorem dX5_cut_150 : decode cX5_cut 150 = .ok (.iastore, 1) := by decide +kernel
theorem dX5_cut_151 : decode cX5_cut 151 = .ok (.aload_n 0, 1) := by decide +kernel
theorem dX5_cut_152 : decode cX5_cut 152 = .ok (.getfield 7, 3) := by decide +kernel
theorem dX5_cut_155 : decode cX5_cut 155 = .ok (.iconst 1, 1) := by decide +kernel
theorem dX5_cut_156 : decode cX5_cut 156 = .ok (.iaload, 1) := by decide +kernel
theorem dX5_cut_157 : decode cX5_cut 157 = .ok (.ireturn, 1) := by decide +kernel
set_option maxRecDepth 20000 in
theorem ggX5_swap_X5_isRow : GoodIn wsX5_swap wsX5_isRow := goodIn_r _ [7, 2, 26, 27, 28, 29, 30, 31, 32, 33, 34, 35, 36, 37, 38] (by decide +kernel) (by decide +kernel)
set_option maxRecDepth 20000 in
theorem gX5_swap_X5_isRow : GoodIn wsX5_swap (wsV RX5 105 RX5 yX5_isRow wsX5_isRow) := goodIn_app (goodIn_of _ (by decide +kernel)) ggX5_swap_X5_isRow
set_option maxRecDepth 20000 in
theorem ggX5_swap_X5_changes : GoodIn wsX5_swap wsX5_changes := goodIn_r _ [11, 12, 13, 2, 26, 27, 28, 29, 30, 31, 32, 33, 34, 35, 36, 37, 38] (by decide +kernel) (by decide +kernel)
set_option maxRecDepth 20000 in
theorem gX5_swap_X5_changes : GoodIn wsX5_swap (wsV RX5 102 RX5 yX5_changes wsX5_changes) := goodIn_app (goodIn_of _ (by decide +kernel)) ggX5_swap_X5_changes
set_option maxRecDepth 20000 in
theorem ggX5_swap_X5_of : GoodIn wsX5_swap wsX5_of := goodIn_r _ [17, 2, 26, 27, 28, 29, 30, 31, 32, 33, 34, 35, 36, 37, 38] (by decide +kernel) (by decide +kernel)
set_option maxRecDepth 20000 in
theorem gX5_swap_X5_of : GoodIn wsX5_swap (wsV RX5 26 RX5 yX5_of wsX5_of) := goodIn_app (goodIn_of _ (by decide +kernel)) ggX5_swap_X5_of
set_option maxRecDepth 20000 in
theorem ggX5_swap_X5_sets : GoodIn wsX5_swap wsX5_sets := goodIn_r _ [21, 2, 26, 27, 28, 29, 30, 31, 32, 33, 34, 35, 36, 37, 38] (by decide +kernel) (by decide +kernel)
set_option maxRecDepth 20000 in
theorem gX5_swap_X5_sets : GoodIn wsX5_swap (wsV RX5 82 RX5 yX5_sets wsX5_sets) := goodIn_app (goodIn_of _ (by decide +kernel)) ggX5_swap_X5_sets
set_option maxRecDepth 20000 in
theorem ggX5_swap_X5_ofRoute : GoodIn wsX5_swap wsX5_ofRoute := goodIn_r _ [25, 2, 26, 27, 28, 29, 30, 31, 32, 33, 34, 35, 36, 37, 38] (by decide +kernel) (by decide +kernel)
set_option maxRecDepth 20000 in
theorem gX5_swap_X5_ofRoute : GoodIn wsX5_swap (wsV RX5 109 RX5 yX5_ofRoute wsX5_ofRoute) := goodIn_app (goodIn_of _ (by decide +kernel)) ggX5_swap_X5_ofRoute
theorem dX5_swap_0 : decode cX5_swap 0 = .ok (.aload_n 0, 1) := by decide +kernel
theorem dX5_swap_1 : decode cX5_swap 1 = .ok (.iload_n 1, 1) := by decide +kernel
theorem dX5_swap_2 : decode cX5_swap 2 = .ok (.invokevirtual 105, 3) := by decide +kernel
theorem dX5_swap_5 : decode cX5_swap 5 = .ok (.ifCond .eq 16, 3) := by decide +kernel
theorem dX5_swap_8 : decode cX5_swap 8 = .ok (.aload_n 0, 1) := by decide +kernel
theorem dX5_swap_9 : decode cX5_swap 9 = .ok (.iload_n 2, 1) := by decide +kernel
theorem dX5_swap_10 : decode cX5_swap 10 = .ok (.invokevirtual 105, 3) := by decide +kernel
theorem dX5_swap_13 : decode cX5_swap 13 = .ok (.ifCond .eq 8, 3) := by decide +kernel
theorem dX5_swap_16 : decode cX5_swap 16 = .ok (.iload_n 1, 1) := by decide +kernel
theorem dX5_swap_17 : decode cX5_swap 17 = .ok (.iload_n 2, 1) := by decide +kernel
theorem dX5_swap_18 : decode cX5_swap 18 = .ok (.if_icmp .ne 6, 3) := by decide +kernel
theorem dX5_swap_21 : decode cX5_swap 21 = .ok (.ldc 92, 2) := by decide +kernel
theorem dX5_swap_23 : decode cX5_swap 23 = .ok (.ireturn, 1) := by decide +kernel
theorem dX5_swap_24 : decode cX5_swap 24 = .ok (.aload_n 0, 1) := by decide +kernel
theorem dX5_swap_25 : decode cX5_swap 25 = .ok (.invokevirtual 102, 3) := by decide +kernel
theorem dX5_swap_28 : decode cX5_swap 28 = .ok (.iconst 0, 1) := by decide +kernel
theorem dX5_swap_29 : decode cX5_swap 29 = .ok (.istore_n 3, 1) := by decide +kernel
theorem dX5_swap_30 : decode cX5_swap 30 = .ok (.iload_n 3, 1) := by decide +kernel
theorem dX5_swap_31 : decode cX5_swap 31 = .ok (.bipush 17, 2) := by decide +kernel
theorem dX5_swap_33 : decode cX5_swap 33 = .ok (.if_icmp .ge 37, 3) := by decide +kernel
theorem dX5_swap_36 : decode cX5_swap 36 = .ok (.aload_n 0, 1) := by decide +kernel
theorem dX5_swap_37 : decode cX5_swap 37 = .ok (.iload_n 1, 1) := by decide +kernel
theorem dX5_swap_38 : decode cX5_swap 38 = .ok (.iload_n 3, 1) := by decide +kernel
theorem dX5_swap_39 : decode cX5_swap 39 = .ok (.invokevirtual 26, 3) := by decide +kernel
theorem dX5_swap_42 : decode cX5_swap 42 = .ok (.istore 4, 2) := by decide +kernel
theorem dX5_swap_44 : decode cX5_swap 44 = .ok (.aload_n 0, 1) := by decide +kernel
theorem dX5_swap_45 : decode cX5_swap 45 = .ok (.iload_n 1, 1) := by decide +kernel
theorem dX5_swap_46 : decode cX5_swap 46 = .ok (.iload_n 3, 1) := by decide +kernel
theorem dX5_swap_47 : decode cX5_swap 47 = .ok (.aload_n 0, 1) := by decide +kernel
theorem dX5_swap_48 : decode cX5_swap 48 = .ok (.iload_n 2, 1) := by decide +kernel
theorem dX5_swap_49 : decode cX5_swap 49 = .ok (.iload_n 3, 1) := by decide +kernel
theorem dX5_swap_50 : decode cX5_swap 50 = .ok (.invokevirtual 26, 3) := by decide +kernel
theorem dX5_swap_53 : decode cX5_swap 53 = .ok (.invokevirtual 82, 3) := by decide +kernel
theorem dX5_swap_56 : decode cX5_swap 56 = .ok (.aload_n 0, 1) := by decide +kernel
theorem dX5_swap_57 : decode cX5_swap 57 = .ok (.iload_n 2, 1) := by decide +kernel
theorem dX5_swap_58 : decode cX5_swap 58 = .ok (.iload_n 3, 1) := by decide +kernel
theorem dX5_swap_59 : decode cX5_swap 59 = .ok (.iload 4, 2) := by decide +kernel
theorem dX5_swap_61 : decode cX5_swap 61 = .ok (.invokevirtual 82, 3) := by decide +kernel
theorem dX5_swap_64 : decode cX5_swap 64 = .ok (.iinc 3 1, 3) := by decide +kernel
theorem dX5_swap_67 : decode cX5_swap 67 = .ok (.goto (-37), 3) := by decide +kernel
theorem dX5_swap_70 : decode cX5_swap 70 = .ok (.iconst 0, 1) := by decide +kernel
theorem dX5_swap_71 : decode cX5_swap 71 = .ok (.istore_n 3, 1) := by decide +kernel
theorem dX5_swap_72 : decode cX5_swap 72 = .ok (.iload_n 3, 1) := by decide +kernel
theorem dX5_swap_73 : decode cX5_swap 73 = .ok (.aload_n 0, 1) := by decide +kernel
theorem dX5_swap_74 : decode cX5_swap 74 = .ok (.getfield 7, 3) := by decide +kernel
theorem dX5_swap_77 : decode cX5_swap 77 = .ok (.iconst 2, 1) := by decide +kernel
theorem dX5_swap_78 : decode cX5_swap 78 = .ok (.iaload, 1) := by decide +kernel
theorem dX5_swap_79 : decode cX5_swap 79 = .ok (.if_icmp .ge 73, 3) := by decide +kernel
theorem dX5_swap_82 : decode cX5_swap 82 = .ok (.aload_n 0, 1) := by decide +kernel
theorem dX5_swap_83 : decode cX5_swap 83 = .ok (.iload_n 3, 1) := by decide +kernel
theorem dX5_swap_84 : decode cX5_swap 84 = .ok (.iconst 0, 1) := by decide +kernel
theorem dX5_swap_85 : decode cX5_swap 85 = .ok (.invokevirtual 109, 3) := by decide +kernel
theorem dX5_swap_88 : decode cX5_swap 88 = .ok (.istore 4, 2) := by decide +kernel
theorem dX5_swap_90 : decode cX5_swap 90 = .ok (.iload 4, 2) := by decide +kernel
theorem dX5_swap_92 : decode cX5_swap 92 = .ok (.iload_n 1, 1) := by decide +kernel
theorem dX5_swap_93 : decode cX5_swap 93 = .ok (.ishr, 1) := by decide +kernel
theorem dX5_swap_94 : decode cX5_swap 94 = .ok (.iconst 1, 1) := by decide +kernel
theorem dX5_swap_95 : decode cX5_swap 95 = .ok (.iand, 1) := by decide +kernel
theorem dX5_swap_96 : decode cX5_swap 96 = .ok (.iload 4, 2) := by decide +kernel
theorem dX5_swap_98 : decode cX5_swap 98 = .ok (.iload_n 2, 1) := by decide +kernel
theorem dX5_swap_99 : decode cX5_swap 99 = .ok (.ishr, 1) := by decide +kernel
theorem dX5_swap_100 : decode cX5_swap 100 = .ok (.iconst 1, 1) := by decide +kernel
theorem dX5_swap_101 : decode cX5_swap 101 = .ok (.iand, 1) := by decide +kernel
theorem dX5_swap_102 : decode cX5_swap 102 = .ok (.if_icmp .eq 7, 3) := by decide +kernel
theorem dX5_swap_105 : decode cX5_swap 105 = .ok (.iconst 1, 1) := by decide +kernel
theorem dX5_swap_106 : decode cX5_swap 106 = .ok (.goto 4, 3) := by decide +kernel
theorem dX5_swap_109 : decode cX5_swap 109 = .ok (.iconst 0, 1) := by decide +kernel
theorem dX5_swap_110 : decode cX5_swap 110 = .ok (.istore 5, 2) := by decide +kernel
theorem dX5_swap_112 : decode cX5_swap 112 = .ok (.aload_n 0, 1) := by decide +kernel
theorem dX5_swap_113 : decode cX5_swap 113 = .ok (.getfield 7, 3) := by decide +kernel
theorem dX5_swap_116 : decode cX5_swap 116 = .ok (.sipush 351, 3) := by decide +kernel
theorem dX5_swap_119 : decode cX5_swap 119 = .ok (.iconst 3, 1) := by decide +kernel
theorem dX5_swap_120 : decode cX5_swap 120 = .ok (.iload_n 3, 1) := by decide +kernel
theorem dX5_swap_121 : decode cX5_swap 121 = .ok (.imul, 1) := by decide +kernel
theorem dX5_swap_122 : decode cX5_swap 122 = .ok (.iadd, 1) := by decide +kernel
theorem dX5_swap_123 : decode cX5_swap 123 = .ok (.iconst 0, 1) := by decide +kernel
theorem dX5_swap_124 : decode cX5_swap 124 = .ok (.iadd, 1) := by decide +kernel
theorem dX5_swap_125 : decode cX5_swap 125 = .ok (.iload 5, 2) := by decide +kernel
theorem dX5_swap_127 : decode cX5_swap 127 = .ok (.ifCond .eq 16, 3) := by decide +kernel
theorem dX5_swap_130 : decode cX5_swap 130 = .ok (.iload 4, 2) := by decide +kernel
theorem dX5_swap_132 : decode cX5_swap 132 = .ok (.iconst 1, 1) := by decide +kernel
theorem dX5_swap_133 : decode cX5_swap 133 = .ok (.iload_n 1, 1) := by decide +kernel
theorem dX5_swap_134 : decode cX5_swap 134 = .ok (.ishl, 1) := by decide +kernel
theorem dX5_swap_135 : decode cX5_swap 135 = .ok (.iconst 1, 1) := by decide +kernel
theorem dX5_swap_136 : decode cX5_swap 136 = .ok (.iload_n 2, 1) := by decide +kernel
theorem dX5_swap_137 : decode cX5_swap 137 = .ok (.ishl, 1) := by decide +kernel
theorem dX5_swap_138 : decode cX5_swap 138 = .ok (.ior, 1) := by decide +kernel
theorem dX5_swap_139 : decode cX5_swap 139 = .ok (.ixor, 1) := by decide +kernel
theorem dX5_swap_140 : decode cX5_swap 140 = .ok (.goto 5, 3) := by decide +kernel
theorem dX5_swap_143 : decode cX5_swap 143 = .ok (.iload 4, 2) := by decide +kernel
theorem dX5_swap_145 : decode cX5_swap 145 = .ok (.iastore, 1) := by decide +kernel
theorem dX5_swap_146 : decode cX5_swap 146 = .ok (.iinc 3 1, 3) := by decide +kernel
theorem dX5_swap_149 : decode cX5_swap 149 = .ok (.goto (-77), 3) := by decide +kernel
theorem dX5_swap_152 : decode cX5_swap 152 = .ok (.aload_n 0, 1) := by decide +kernel
theorem dX5_swap_153 : decode cX5_swap 153 = .ok (.getfield 7, 3) := by decide +kernel
theorem dX5_swap_156 : decode cX5_swap 156 = .ok (.iconst 1, 1) := by decide +kernel
theorem dX5_swap_157 : decode cX5_swap 157 = .ok (.iaload, 1) := by decide +kernel
theorem dX5_swap_158 : decode cX5_swap 158 = .ok (.ireturn, 1) := by decide +kernel
set_option maxRecDepth 20000 in
theorem ggX5_isTorn_X5_of : GoodIn wsX5_isTorn wsX5_of := goodIn_r _ [5, 6, 7, 8, 9, 10, 11, 12, 13, 14, 15, 16, 17, 18, 19] (by decide +kernel) (by decide +kernel)
set_option maxRecDepth 20000 in
theorem gX5_isTorn_X5_of : GoodIn wsX5_isTorn (wsV RX5 26 RX5 yX5_of wsX5_of) := goodIn_app (goodIn_of _ (by decide +kernel)) ggX5_isTorn_X5_of
theorem dX5_isTorn_0 : decode cX5_isTorn 0 = .ok (.aload_n 0, 1) := by decide +kernel
theorem dX5_isTorn_1 : decode cX5_isTorn 1 = .ok (.iload_n 1, 1) := by decide +kernel
theorem dX5_isTorn_2 : decode cX5_isTorn 2 = .ok (.iconst 2, 1) := by decide +kernel
theorem dX5_isTorn_3 : decode cX5_isTorn 3 = .ok (.invokevirtual 26, 3) := by decide +kernel
theorem dX5_isTorn_6 : decode cX5_isTorn 6 = .ok (.iconst 1, 1) := by decide +kernel
theorem dX5_isTorn_7 : decode cX5_isTorn 7 = .ok (.if_icmp .ne 7, 3) := by decide +kernel
theorem dX5_isTorn_10 : decode cX5_isTorn 10 = .ok (.iconst 1, 1) := by decide +kernel
theorem dX5_isTorn_11 : decode cX5_isTorn 11 = .ok (.goto 4, 3) := by decide +kernel
theorem dX5_isTorn_14 : decode cX5_isTorn 14 = .ok (.iconst 0, 1) := by decide +kernel
theorem dX5_isTorn_15 : decode cX5_isTorn 15 = .ok (.ireturn, 1) := by decide +kernel
set_option maxRecDepth 20000 in
theorem ggX5_mend_X5_isRow : GoodIn wsX5_mend wsX5_isRow := goodIn_r _ [7, 8, 27, 28, 29, 30, 31, 32, 33, 34, 35, 36, 37, 38, 39] (by decide +kernel) (by decide +kernel)
set_option maxRecDepth 20000 in
theorem gX5_mend_X5_isRow : GoodIn wsX5_mend (wsV RX5 105 RX5 yX5_isRow wsX5_isRow) := goodIn_app (goodIn_of _ (by decide +kernel)) ggX5_mend_X5_isRow
set_option maxRecDepth 20000 in
theorem ggX5_mend_X5_isTorn : GoodIn wsX5_mend wsX5_isTorn := goodIn_r _ [12, 13, 14, 15, 6, 16, 8, 27, 28, 29, 30, 31, 32, 33, 34, 35, 36, 37, 38, 39] (by decide +kernel) (by decide +kernel)
set_option maxRecDepth 20000 in
theorem gX5_mend_X5_isTorn : GoodIn wsX5_mend (wsV RX5 115 RX5 yX5_isTorn wsX5_isTorn) := goodIn_app (goodIn_of _ (by decide +kernel)) ggX5_mend_X5_isTorn
set_option maxRecDepth 20000 in
theorem ggX5_mend_X5_changes : GoodIn wsX5_mend wsX5_changes := goodIn_r _ [20, 21, 22, 8, 27, 28, 29, 30, 31, 32, 33, 34, 35, 36, 37, 38, 39] (by decide +kernel) (by decide +kernel)
set_option maxRecDepth 20000 in
theorem gX5_mend_X5_changes : GoodIn wsX5_mend (wsV RX5 102 RX5 yX5_changes wsX5_changes) := goodIn_app (goodIn_of _ (by decide +kernel)) ggX5_mend_X5_changes
set_option maxRecDepth 20000 in
theorem ggX5_mend_X5_of : GoodIn wsX5_mend wsX5_of := goodIn_r _ [16, 8, 27, 28, 29, 30, 31, 32, 33, 34, 35, 36, 37, 38, 39] (by decide +kernel) (by decide +kernel)
set_option maxRecDepth 20000 in
theorem gX5_mend_X5_of : GoodIn wsX5_mend (wsV RX5 26 RX5 yX5_of wsX5_of) := goodIn_app (goodIn_of _ (by decide +kernel)) ggX5_mend_X5_of
set_option maxRecDepth 20000 in
theorem ggX5_mend_X5_sets : GoodIn wsX5_mend wsX5_sets := goodIn_r _ [26, 8, 27, 28, 29, 30, 31, 32, 33, 34, 35, 36, 37, 38, 39] (by decide +kernel) (by decide +kernel)
set_option maxRecDepth 20000 in
theorem gX5_mend_X5_sets : GoodIn wsX5_mend (wsV RX5 82 RX5 yX5_sets wsX5_sets) := goodIn_app (goodIn_of _ (by decide +kernel)) ggX5_mend_X5_sets
theorem dX5_mend_0 : decode cX5_mend 0 = .ok (.aload_n 0, 1) := by decide +kernel
theorem dX5_mend_1 : decode cX5_mend 1 = .ok (.iload_n 1, 1) := by decide +kernel
theorem dX5_mend_2 : decode cX5_mend 2 = .ok (.invokevirtual 105, 3) := by decide +kernel
theorem dX5_mend_5 : decode cX5_mend 5 = .ok (.ifCond .ne 6, 3) := by decide +kernel
theorem dX5_mend_8 : decode cX5_mend 8 = .ok (.ldc 92, 2) := by decide +kernel
theorem dX5_mend_10 : decode cX5_mend 10 = .ok (.ireturn, 1) := by decide +kernel
theorem dX5_mend_11 : decode cX5_mend 11 = .ok (.aload_n 0, 1) := by decide +kernel
theorem dX5_mend_12 : decode cX5_mend 12 = .ok (.iload_n 1, 1) := by decide +kernel
theorem dX5_mend_13 : decode cX5_mend 13 = .ok (.invokevirtual 115, 3) := by decide +kernel
theorem dX5_mend_16 : decode cX5_mend 16 = .ok (.ifCond .ne 6, 3) := by decide +kernel
theorem dX5_mend_19 : decode cX5_mend 19 = .ok (.ldc 101, 2) := by decide +kernel
theorem dX5_mend_21 : decode cX5_mend 21 = .ok (.ireturn, 1) := by decide +kernel
theorem dX5_mend_22 : decode cX5_mend 22 = .ok (.aload_n 0, 1) := by decide +kernel
theorem dX5_mend_23 : decode cX5_mend 23 = .ok (.invokevirtual 102, 3) := by decide +kernel
theorem dX5_mend_26 : decode cX5_mend 26 = .ok (.aload_n 0, 1) := by decide +kernel
theorem dX5_mend_27 : decode cX5_mend 27 = .ok (.iload_n 1, 1) := by decide +kernel
theorem dX5_mend_28 : decode cX5_mend 28 = .ok (.iconst 1, 1) := by decide +kernel
theorem dX5_mend_29 : decode cX5_mend 29 = .ok (.aload_n 0, 1) := by decide +kernel
theorem dX5_mend_30 : decode cX5_mend 30 = .ok (.iload_n 1, 1) := by decide +kernel
theorem dX5_mend_31 : decode cX5_mend 31 = .ok (.iconst 1, 1) := by decide +kernel
theorem dX5_mend_32 : decode cX5_mend 32 = .ok (.invokevirtual 26, 3) := by decide +kernel
theorem dX5_mend_35 : decode cX5_mend 35 = .ok (.iconst 2, 1) := by decide +kernel
theorem dX5_mend_36 : decode cX5_mend 36 = .ok (.idiv, 1) := by decide +kernel
theorem dX5_mend_37 : decode cX5_mend 37 = .ok (.invokevirtual 82, 3) := by decide +kernel
theorem dX5_mend_40 : decode cX5_mend 40 = .ok (.aload_n 0, 1) := by decide +kernel
theorem dX5_mend_41 : decode cX5_mend 41 = .ok (.iload_n 1, 1) := by decide +kernel
theorem dX5_mend_42 : decode cX5_mend 42 = .ok (.iconst 2, 1) := by decide +kernel
theorem dX5_mend_43 : decode cX5_mend 43 = .ok (.iconst 0, 1) := by decide +kernel
theorem dX5_mend_44 : decode cX5_mend 44 = .ok (.invokevirtual 82, 3) := by decide +kernel
theorem dX5_mend_47 : decode cX5_mend 47 = .ok (.aload_n 0, 1) := by decide +kernel
theorem dX5_mend_48 : decode cX5_mend 48 = .ok (.iload_n 1, 1) := by decide +kernel
theorem dX5_mend_49 : decode cX5_mend 49 = .ok (.iconst 1, 1) := by decide +kernel
theorem dX5_mend_50 : decode cX5_mend 50 = .ok (.invokevirtual 26, 3) := by decide +kernel
theorem dX5_mend_53 : decode cX5_mend 53 = .ok (.ireturn, 1) := by decide +kernel
set_option maxRecDepth 20000 in
theorem ggX5_leaves_X5_of : GoodIn wsX5_leaves wsX5_of := goodIn_r _ [8, 2, 17, 18, 19, 20, 21, 22, 23, 24, 25, 26, 27, 28, 29] (by decide +kernel) (by decide +kernel)
set_option maxRecDepth 20000 in
theorem gX5_leaves_X5_of : GoodIn wsX5_leaves (wsV RX5 26 RX5 yX5_of wsX5_of) := goodIn_app (goodIn_of _ (by decide +kernel)) ggX5_leaves_X5_of
set_option maxRecDepth 20000 in
theorem ggX5_leaves_X5_sets : GoodIn wsX5_leaves wsX5_sets := goodIn_r _ [12, 2, 17, 18, 19, 20, 21, 22, 23, 24, 25, 26, 27, 28, 29] (by decide +kernel) (by decide +kernel)
set_option maxRecDepth 20000 in
theorem gX5_leaves_X5_sets : GoodIn wsX5_leaves (wsV RX5 82 RX5 yX5_sets wsX5_sets) := goodIn_app (goodIn_of _ (by decide +kernel)) ggX5_leaves_X5_sets
set_option maxRecDepth 20000 in
theorem ggX5_leaves_X5_isTorn : GoodIn wsX5_leaves wsX5_isTorn := goodIn_r _ [16, 4, 5, 6, 7, 8, 2, 17, 18, 19, 20, 21, 22, 23, 24, 25, 26, 27, 28, 29] (by decide +kernel) (by decide +kernel)
set_option maxRecDepth 20000 in
theorem gX5_leaves_X5_isTorn : GoodIn wsX5_leaves (wsV RX5 115 RX5 yX5_isTorn wsX5_isTorn) := goodIn_app (goodIn_of _ (by decide +kernel)) ggX5_leaves_X5_isTorn
theorem dX5_leaves_0 : decode cX5_leaves 0 = .ok (.iload_n 2, 1) := by decide +kernel
theorem dX5_leaves_1 : decode cX5_leaves 1 = .ok (.iconst 3, 1) := by decide +kernel
theorem dX5_leaves_2 : decode cX5_leaves 2 = .ok (.if_icmp .ne 14, 3) := by decide +kernel
theorem dX5_leaves_5 : decode cX5_leaves 5 = .ok (.aload_n 0, 1) := by decide +kernel
theorem dX5_leaves_6 : decode cX5_leaves 6 = .ok (.getfield 118, 3) := by decide +kernel
theorem dX5_leaves_9 : decode cX5_leaves 9 = .ok (.iconst 2, 1) := by decide +kernel
theorem dX5_leaves_10 : decode cX5_leaves 10 = .ok (.irem, 1) := by decide +kernel
theorem dX5_leaves_11 : decode cX5_leaves 11 = .ok (.iconst 1, 1) := by decide +kernel
theorem dX5_leaves_12 : decode cX5_leaves 12 = .ok (.if_icmp .ne 4, 3) := by decide +kernel
theorem dX5_leaves_15 : decode cX5_leaves 15 = .ok (.return_, 1) := by decide +kernel
theorem dX5_leaves_16 : decode cX5_leaves 16 = .ok (.aload_n 0, 1) := by decide +kernel
theorem dX5_leaves_17 : decode cX5_leaves 17 = .ok (.iload_n 1, 1) := by decide +kernel
theorem dX5_leaves_18 : decode cX5_leaves 18 = .ok (.iconst 1, 1) := by decide +kernel
theorem dX5_leaves_19 : decode cX5_leaves 19 = .ok (.aload_n 0, 1) := by decide +kernel
theorem dX5_leaves_20 : decode cX5_leaves 20 = .ok (.iload_n 1, 1) := by decide +kernel
theorem dX5_leaves_21 : decode cX5_leaves 21 = .ok (.iconst 1, 1) := by decide +kernel
theorem dX5_leaves_22 : decode cX5_leaves 22 = .ok (.invokevirtual 26, 3) := by decide +kernel
theorem dX5_leaves_25 : decode cX5_leaves 25 = .ok (.iload_n 2, 1) := by decide +kernel
theorem dX5_leaves_26 : decode cX5_leaves 26 = .ok (.iadd, 1) := by decide +kernel
theorem dX5_leaves_27 : decode cX5_leaves 27 = .ok (.invokevirtual 82, 3) := by decide +kernel
theorem dX5_leaves_30 : decode cX5_leaves 30 = .ok (.aload_n 0, 1) := by decide +kernel
theorem dX5_leaves_31 : decode cX5_leaves 31 = .ok (.iload_n 1, 1) := by decide +kernel
theorem dX5_leaves_32 : decode cX5_leaves 32 = .ok (.invokevirtual 115, 3) := by decide +kernel
theorem dX5_leaves_35 : decode cX5_leaves 35 = .ok (.ifCond .ne 23, 3) := by decide +kernel
theorem dX5_leaves_38 : decode cX5_leaves 38 = .ok (.aload_n 0, 1) := by decide +kernel
theorem dX5_leaves_39 : decode cX5_leaves 39 = .ok (.iload_n 1, 1) := by decide +kernel
theorem dX5_leaves_40 : decode cX5_leaves 40 = .ok (.iconst 1, 1) := by decide +kernel
theorem dX5_leaves_41 : decode cX5_leaves 41 = .ok (.invokevirtual 26, 3) := by decide +kernel
theorem dX5_leaves_44 : decode cX5_leaves 44 = .ok (.aload_n 0, 1) := by decide +kernel
theorem dX5_leaves_45 : decode cX5_leaves 45 = .ok (.getfield 7, 3) := by decide +kernel
theorem dX5_leaves_48 : decode cX5_leaves 48 = .ok (.bipush 9, 2) := by decide +kernel
theorem dX5_leaves_50 : decode cX5_leaves 50 = .ok (.iaload, 1) := by decide +kernel
theorem dX5_leaves_51 : decode cX5_leaves 51 = .ok (.if_icmp .le 7, 3) := by decide +kernel
theorem dX5_leaves_54 : decode cX5_leaves 54 = .ok (.iconst 1, 1) := by decide +kernel
theorem dX5_leaves_55 : decode cX5_leaves 55 = .ok (.goto 4, 3) := by decide +kernel
theorem dX5_leaves_58 : decode cX5_leaves 58 = .ok (.iconst 0, 1) := by decide +kernel
theorem dX5_leaves_59 : decode cX5_leaves 59 = .ok (.istore_n 3, 1) := by decide +kernel
theorem dX5_leaves_60 : decode cX5_leaves 60 = .ok (.aload_n 0, 1) := by decide +kernel
theorem dX5_leaves_61 : decode cX5_leaves 61 = .ok (.iload_n 1, 1) := by decide +kernel
theorem dX5_leaves_62 : decode cX5_leaves 62 = .ok (.iconst 2, 1) := by decide +kernel
theorem dX5_leaves_63 : decode cX5_leaves 63 = .ok (.iload_n 3, 1) := by decide +kernel
theorem dX5_leaves_64 : decode cX5_leaves 64 = .ok (.ifCond .ne 11, 3) := by decide +kernel
theorem dX5_leaves_67 : decode cX5_leaves 67 = .ok (.aload_n 0, 1) := by decide +kernel
theorem dX5_leaves_68 : decode cX5_leaves 68 = .ok (.iload_n 1, 1) := by decide +kernel
theorem dX5_leaves_69 : decode cX5_leaves 69 = .ok (.invokevirtual 115, 3) := by decide +kernel
theorem dX5_leaves_72 : decode cX5_leaves 72 = .ok (.ifCond .eq 7, 3) := by decide +kernel
theorem dX5_leaves_75 : decode cX5_leaves 75 = .ok (.iconst 1, 1) := by decide +kernel
theorem dX5_leaves_76 : decode cX5_leaves 76 = .ok (.goto 4, 3) := by decide +kernel
theorem dX5_leaves_79 : decode cX5_leaves 79 = .ok (.iconst 0, 1) := by decide +kernel
theorem dX5_leaves_80 : decode cX5_leaves 80 = .ok (.invokevirtual 82, 3) := by decide +kernel
theorem dX5_leaves_83 : decode cX5_leaves 83 = .ok (.aload_n 0, 1) := by decide +kernel
theorem dX5_leaves_84 : decode cX5_leaves 84 = .ok (.dup, 1) := by decide +kernel
theorem dX5_leaves_85 : decode cX5_leaves 85 = .ok (.getfield 121, 3) := by decide +kernel
theorem dX5_leaves_88 : decode cX5_leaves 88 = .ok (.iload_n 3, 1) := by decide +kernel
theorem dX5_leaves_89 : decode cX5_leaves 89 = .ok (.ifCond .eq 7, 3) := by decide +kernel
theorem dX5_leaves_92 : decode cX5_leaves 92 = .ok (.iconst 1, 1) := by decide +kernel
theorem dX5_leaves_93 : decode cX5_leaves 93 = .ok (.goto 4, 3) := by decide +kernel
theorem dX5_leaves_96 : decode cX5_leaves 96 = .ok (.iconst 0, 1) := by decide +kernel
theorem dX5_leaves_97 : decode cX5_leaves 97 = .ok (.iadd, 1) := by decide +kernel
theorem dX5_leaves_98 : decode cX5_leaves 98 = .ok (.putfield 121, 3) := by decide +kernel
theorem dX5_leaves_101 : decode cX5_leaves 101 = .ok (.return_, 1) := by decide +kernel
set_option maxRecDepth 20000 in
theorem ggX5_cranks_X5_isRow : GoodIn wsX5_cranks wsX5_isRow := goodIn_r _ [8, 3, 25, 26, 27, 28, 29, 30, 31, 32, 33, 34, 35, 36, 37] (by decide +kernel) (by decide +kernel)
set_option maxRecDepth 20000 in
theorem gX5_cranks_X5_isRow : GoodIn wsX5_cranks (wsV RX5 105 RX5 yX5_isRow wsX5_isRow) := goodIn_app (goodIn_of _ (by decide +kernel)) ggX5_cranks_X5_isRow
set_option maxRecDepth 20000 in
theorem ggX5_cranks_X5_leaves : GoodIn wsX5_cranks wsX5_leaves := goodIn_r _ [12, 1, 3, 2, 13, 14, 15, 7, 16, 17, 18, 19, 20, 21, 22, 23, 24, 25, 26, 27, 28, 29, 30, 31, 32, 33, 34, 35, 36, 37] (by decide +kernel) (by decide +kernel)
set_option maxRecDepth 20000 in
theorem gX5_cranks_X5_leaves : GoodIn wsX5_cranks (wsV RX5 124 RX5 yX5_leaves wsX5_leaves) := goodIn_app (goodIn_of _ (by decide +kernel)) ggX5_cranks_X5_leaves
set_option maxRecDepth 20000 in
theorem ggX5_cranks_X5_isTorn : GoodIn wsX5_cranks wsX5_isTorn := goodIn_r _ [24, 13, 14, 15, 7, 16, 3, 25, 26, 27, 28, 29, 30, 31, 32, 33, 34, 35, 36, 37] (by decide +kernel) (by decide +kernel)
set_option maxRecDepth 20000 in
theorem gX5_cranks_X5_isTorn : GoodIn wsX5_cranks (wsV RX5 115 RX5 yX5_isTorn wsX5_isTorn) := goodIn_app (goodIn_of _ (by decide +kernel)) ggX5_cranks_X5_isTorn
theorem dX5_cranks_0 : decode cX5_cranks 0 = .ok (.iload_n 1, 1) := by decide +kernel
theorem dX5_cranks_1 : decode cX5_cranks 1 = .ok (.ifCond .le 7, 3) := by decide +kernel
theorem dX5_cranks_4 : decode cX5_cranks 4 = .ok (.iconst 1, 1) := by decide +kernel
theorem dX5_cranks_5 : decode cX5_cranks 5 = .ok (.goto 4, 3) := by decide +kernel
theorem dX5_cranks_8 : decode cX5_cranks 8 = .ok (.iconst (-1), 1) := by decide +kernel
theorem dX5_cranks_9 : decode cX5_cranks 9 = .ok (.istore_n 3, 1) := by decide +kernel
theorem dX5_cranks_10 : decode cX5_cranks 10 = .ok (.aload_n 0, 1) := by decide +kernel
theorem dX5_cranks_11 : decode cX5_cranks 11 = .ok (.iconst 0, 1) := by decide +kernel
theorem dX5_cranks_12 : decode cX5_cranks 12 = .ok (.putfield 118, 3) := by decide +kernel
theorem dX5_cranks_15 : decode cX5_cranks 15 = .ok (.aload_n 0, 1) := by decide +kernel
theorem dX5_cranks_16 : decode cX5_cranks 16 = .ok (.iconst 0, 1) := by decide +kernel
theorem dX5_cranks_17 : decode cX5_cranks 17 = .ok (.putfield 121, 3) := by decide +kernel
theorem dX5_cranks_20 : decode cX5_cranks 20 = .ok (.iconst 0, 1) := by decide +kernel
theorem dX5_cranks_21 : decode cX5_cranks 21 = .ok (.istore 4, 2) := by decide +kernel
theorem dX5_cranks_23 : decode cX5_cranks 23 = .ok (.aload_n 0, 1) := by decide +kernel
theorem dX5_cranks_24 : decode cX5_cranks 24 = .ok (.getfield 118, 3) := by decide +kernel
theorem dX5_cranks_27 : decode cX5_cranks 27 = .ok (.iload_n 1, 1) := by decide +kernel
theorem dX5_cranks_28 : decode cX5_cranks 28 = .ok (.iload_n 3, 1) := by decide +kernel
theorem dX5_cranks_29 : decode cX5_cranks 29 = .ok (.imul, 1) := by decide +kernel
theorem dX5_cranks_30 : decode cX5_cranks 30 = .ok (.if_icmp .eq 69, 3) := by decide +kernel
theorem dX5_cranks_33 : decode cX5_cranks 33 = .ok (.aload_n 0, 1) := by decide +kernel
theorem dX5_cranks_34 : decode cX5_cranks 34 = .ok (.aload_n 0, 1) := by decide +kernel
theorem dX5_cranks_35 : decode cX5_cranks 35 = .ok (.getfield 7, 3) := by decide +kernel
theorem dX5_cranks_38 : decode cX5_cranks 38 = .ok (.iconst 1, 1) := by decide +kernel
theorem dX5_cranks_39 : decode cX5_cranks 39 = .ok (.iaload, 1) := by decide +kernel
theorem dX5_cranks_40 : decode cX5_cranks 40 = .ok (.iload_n 3, 1) := by decide +kernel
theorem dX5_cranks_41 : decode cX5_cranks 41 = .ok (.iadd, 1) := by decide +kernel
theorem dX5_cranks_42 : decode cX5_cranks 42 = .ok (.invokevirtual 105, 3) := by decide +kernel
theorem dX5_cranks_45 : decode cX5_cranks 45 = .ok (.ifCond .eq 54, 3) := by decide +kernel
theorem dX5_cranks_48 : decode cX5_cranks 48 = .ok (.iload 4, 2) := by decide +kernel
theorem dX5_cranks_50 : decode cX5_cranks 50 = .ok (.ifCond .ne 49, 3) := by decide +kernel
theorem dX5_cranks_53 : decode cX5_cranks 53 = .ok (.aload_n 0, 1) := by decide +kernel
theorem dX5_cranks_54 : decode cX5_cranks 54 = .ok (.aload_n 0, 1) := by decide +kernel
theorem dX5_cranks_55 : decode cX5_cranks 55 = .ok (.getfield 7, 3) := by decide +kernel
theorem dX5_cranks_58 : decode cX5_cranks 58 = .ok (.iconst 1, 1) := by decide +kernel
theorem dX5_cranks_59 : decode cX5_cranks 59 = .ok (.iaload, 1) := by decide +kernel
theorem dX5_cranks_60 : decode cX5_cranks 60 = .ok (.iload_n 2, 1) := by decide +kernel
theorem dX5_cranks_61 : decode cX5_cranks 61 = .ok (.invokevirtual 124, 3) := by decide +kernel
theorem dX5_cranks_64 : decode cX5_cranks 64 = .ok (.aload_n 0, 1) := by decide +kernel
theorem dX5_cranks_65 : decode cX5_cranks 65 = .ok (.getfield 7, 3) := by decide +kernel
theorem dX5_cranks_68 : decode cX5_cranks 68 = .ok (.iconst 1, 1) := by decide +kernel
theorem dX5_cranks_69 : decode cX5_cranks 69 = .ok (.dup2, 1) := by decide +kernel
theorem dX5_cranks_70 : decode cX5_cranks 70 = .ok (.iaload, 1) := by decide +kernel
theorem dX5_cranks_71 : decode cX5_cranks 71 = .ok (.iload_n 3, 1) := by decide +kernel
theorem dX5_cranks_72 : decode cX5_cranks 72 = .ok (.iadd, 1) := by decide +kernel
theorem dX5_cranks_73 : decode cX5_cranks 73 = .ok (.iastore, 1) := by decide +kernel
theorem dX5_cranks_74 : decode cX5_cranks 74 = .ok (.aload_n 0, 1) := by decide +kernel
theorem dX5_cranks_75 : decode cX5_cranks 75 = .ok (.aload_n 0, 1) := by decide +kernel
theorem dX5_cranks_76 : decode cX5_cranks 76 = .ok (.getfield 7, 3) := by decide +kernel
theorem dX5_cranks_79 : decode cX5_cranks 79 = .ok (.iconst 1, 1) := by decide +kernel
theorem dX5_cranks_80 : decode cX5_cranks 80 = .ok (.iaload, 1) := by decide +kernel
theorem dX5_cranks_81 : decode cX5_cranks 81 = .ok (.invokevirtual 115, 3) := by decide +kernel
theorem dX5_cranks_84 : decode cX5_cranks 84 = .ok (.istore 4, 2) := by decide +kernel
theorem dX5_cranks_86 : decode cX5_cranks 86 = .ok (.aload_n 0, 1) := by decide +kernel
theorem dX5_cranks_87 : decode cX5_cranks 87 = .ok (.dup, 1) := by decide +kernel
theorem dX5_cranks_88 : decode cX5_cranks 88 = .ok (.getfield 118, 3) := by decide +kernel
theorem dX5_cranks_91 : decode cX5_cranks 91 = .ok (.iconst 1, 1) := by decide +kernel
theorem dX5_cranks_92 : decode cX5_cranks 92 = .ok (.iadd, 1) := by decide +kernel
theorem dX5_cranks_93 : decode cX5_cranks 93 = .ok (.putfield 118, 3) := by decide +kernel
theorem dX5_cranks_96 : decode cX5_cranks 96 = .ok (.goto (-73), 3) := by decide +kernel
theorem dX5_cranks_99 : decode cX5_cranks 99 = .ok (.aload_n 0, 1) := by decide +kernel
theorem dX5_cranks_100 : decode cX5_cranks 100 = .ok (.getfield 7, 3) := by decide +kernel
theorem dX5_cranks_103 : decode cX5_cranks 103 = .ok (.iconst 4, 1) := by decide +kernel
theorem dX5_cranks_104 : decode cX5_cranks 104 = .ok (.dup2, 1) := by decide +kernel
theorem dX5_cranks_105 : decode cX5_cranks 105 = .ok (.iaload, 1) := by decide +kernel
theorem dX5_cranks_106 : decode cX5_cranks 106 = .ok (.aload_n 0, 1) := by decide +kernel
theorem dX5_cranks_107 : decode cX5_cranks 107 = .ok (.getfield 121, 3) := by decide +kernel
theorem dX5_cranks_110 : decode cX5_cranks 110 = .ok (.iadd, 1) := by decide +kernel
theorem dX5_cranks_111 : decode cX5_cranks 111 = .ok (.iastore, 1) := by decide +kernel
theorem dX5_cranks_112 : decode cX5_cranks 112 = .ok (.aload_n 0, 1) := by decide +kernel
theorem dX5_cranks_113 : decode cX5_cranks 113 = .ok (.getfield 7, 3) := by decide +kernel
theorem dX5_cranks_116 : decode cX5_cranks 116 = .ok (.iconst 5, 1) := by decide +kernel
theorem dX5_cranks_117 : decode cX5_cranks 117 = .ok (.dup2, 1) := by decide +kernel
theorem dX5_cranks_118 : decode cX5_cranks 118 = .ok (.iaload, 1) := by decide +kernel
theorem dX5_cranks_119 : decode cX5_cranks 119 = .ok (.aload_n 0, 1) := by decide +kernel
theorem dX5_cranks_120 : decode cX5_cranks 120 = .ok (.getfield 118, 3) := by decide +kernel
theorem dX5_cranks_123 : decode cX5_cranks 123 = .ok (.iadd, 1) := by decide +kernel
theorem dX5_cranks_124 : decode cX5_cranks 124 = .ok (.iastore, 1) := by decide +kernel
theorem dX5_cranks_125 : decode cX5_cranks 125 = .ok (.aload_n 0, 1) := by decide +kernel
theorem dX5_cranks_126 : decode cX5_cranks 126 = .ok (.getfield 118, 3) := by decide +kernel
theorem dX5_cranks_129 : decode cX5_cranks 129 = .ok (.iload_n 1, 1) := by decide +kernel
theorem dX5_cranks_130 : decode cX5_cranks 130 = .ok (.iload_n 3, 1) := by decide +kernel
theorem dX5_cranks_131 : decode cX5_cranks 131 = .ok (.imul, 1) := by decide +kernel
theorem dX5_cranks_132 : decode cX5_cranks 132 = .ok (.if_icmp .ne 7, 3) := by decide +kernel
theorem dX5_cranks_135 : decode cX5_cranks 135 = .ok (.iconst 0, 1) := by decide +kernel
theorem dX5_cranks_136 : decode cX5_cranks 136 = .ok (.goto 23, 3) := by decide +kernel
theorem dX5_cranks_139 : decode cX5_cranks 139 = .ok (.aload_n 0, 1) := by decide +kernel
theorem dX5_cranks_140 : decode cX5_cranks 140 = .ok (.aload_n 0, 1) := by decide +kernel
theorem dX5_cranks_141 : decode cX5_cranks 141 = .ok (.getfield 7, 3) := by decide +kernel
theorem dX5_cranks_144 : decode cX5_cranks 144 = .ok (.iconst 1, 1) := by decide +kernel
theorem dX5_cranks_145 : decode cX5_cranks 145 = .ok (.iaload, 1) := by decide +kernel
theorem dX5_cranks_146 : decode cX5_cranks 146 = .ok (.iload_n 3, 1) := by decide +kernel
theorem dX5_cranks_147 : decode cX5_cranks 147 = .ok (.iadd, 1) := by decide +kernel
theorem dX5_cranks_148 : decode cX5_cranks 148 = .ok (.invokevirtual 105, 3) := by decide +kernel
theorem dX5_cranks_151 : decode cX5_cranks 151 = .ok (.ifCond .eq 7, 3) := by decide +kernel
theorem dX5_cranks_154 : decode cX5_cranks 154 = .ok (.iconst 2, 1) := by decide +kernel
theorem dX5_cranks_155 : decode cX5_cranks 155 = .ok (.goto 4, 3) := by decide +kernel
theorem dX5_cranks_158 : decode cX5_cranks 158 = .ok (.iconst 1, 1) := by decide +kernel
theorem dX5_cranks_159 : decode cX5_cranks 159 = .ok (.ireturn, 1) := by decide +kernel
set_option maxRecDepth 20000 in
theorem ggX5_mayCrank_X5_in : GoodIn wsX5_mayCrank wsX5_in := goodIn_r _ [7] (by decide +kernel) (by decide +kernel)
set_option maxRecDepth 20000 in
theorem gX5_mayCrank_X5_in : GoodIn wsX5_mayCrank (va_wsS RX5 61 yX5_in wsX5_in) := goodIn_app (goodIn_of _ (by decide +kernel)) ggX5_mayCrank_X5_in
theorem dX5_mayCrank_0 : decode cX5_mayCrank 0 = .ok (.iload_n 1, 1) := by decide +kernel
theorem dX5_mayCrank_1 : decode cX5_mayCrank 1 = .ok (.bipush (-20), 2) := by decide +kernel
theorem dX5_mayCrank_3 : decode cX5_mayCrank 3 = .ok (.bipush 20, 2) := by decide +kernel
theorem dX5_mayCrank_5 : decode cX5_mayCrank 5 = .ok (.invokestatic 61, 3) := by decide +kernel
theorem dX5_mayCrank_8 : decode cX5_mayCrank 8 = .ok (.ifCond .eq 16, 3) := by decide +kernel
theorem dX5_mayCrank_11 : decode cX5_mayCrank 11 = .ok (.iload_n 1, 1) := by decide +kernel
theorem dX5_mayCrank_12 : decode cX5_mayCrank 12 = .ok (.ifCond .eq 12, 3) := by decide +kernel
theorem dX5_mayCrank_15 : decode cX5_mayCrank 15 = .ok (.iload_n 2, 1) := by decide +kernel
theorem dX5_mayCrank_16 : decode cX5_mayCrank 16 = .ok (.iconst 1, 1) := by decide +kernel
theorem dX5_mayCrank_17 : decode cX5_mayCrank 17 = .ok (.iconst 3, 1) := by decide +kernel
theorem dX5_mayCrank_18 : decode cX5_mayCrank 18 = .ok (.invokestatic 61, 3) := by decide +kernel
theorem dX5_mayCrank_21 : decode cX5_mayCrank 21 = .ok (.ifCond .ne 8, 3) := by decide +kernel
theorem dX5_mayCrank_24 : decode cX5_mayCrank 24 = .ok (.ldc 92, 2) := by decide +kernel
theorem dX5_mayCrank_26 : decode cX5_mayCrank 26 = .ok (.goto 18, 3) := by decide +kernel
theorem dX5_mayCrank_29 : decode cX5_mayCrank 29 = .ok (.aload_n 0, 1) := by decide +kernel
theorem dX5_mayCrank_30 : decode cX5_mayCrank 30 = .ok (.getfield 7, 3) := by decide +kernel
theorem dX5_mayCrank_33 : decode cX5_mayCrank 33 = .ok (.iconst 0, 1) := by decide +kernel
theorem dX5_mayCrank_34 : decode cX5_mayCrank 34 = .ok (.iaload, 1) := by decide +kernel
theorem dX5_mayCrank_35 : decode cX5_mayCrank 35 = .ok (.ifCond .ne 8, 3) := by decide +kernel
theorem dX5_mayCrank_38 : decode cX5_mayCrank 38 = .ok (.ldc 101, 2) := by decide +kernel
theorem dX5_mayCrank_40 : decode cX5_mayCrank 40 = .ok (.goto 4, 3) := by decide +kernel
theorem dX5_mayCrank_43 : decode cX5_mayCrank 43 = .ok (.iconst 0, 1) := by decide +kernel
theorem dX5_mayCrank_44 : decode cX5_mayCrank 44 = .ok (.ireturn, 1) := by decide +kernel
set_option maxRecDepth 20000 in
theorem ggX5_crank_X5_mayCrank : GoodIn wsX5_crank wsX5_mayCrank := goodIn_r _ [7, 8, 2, 9, 10, 11, 6, 12, 45, 46, 47, 48, 49, 50, 51, 52, 53, 54, 55, 56, 57] (by decide +kernel) (by decide +kernel)
set_option maxRecDepth 20000 in
theorem gX5_crank_X5_mayCrank : GoodIn wsX5_crank (wsV RX5 128 RX5 yX5_mayCrank wsX5_mayCrank) := goodIn_app (goodIn_of _ (by decide +kernel)) ggX5_crank_X5_mayCrank
set_option maxRecDepth 20000 in
theorem ggX5_crank_X5_changes : GoodIn wsX5_crank wsX5_changes := goodIn_r _ [16, 17, 18, 2, 45, 46, 47, 48, 49, 50, 51, 52, 53, 54, 55, 56, 57] (by decide +kernel) (by decide +kernel)
set_option maxRecDepth 20000 in
theorem gX5_crank_X5_changes : GoodIn wsX5_crank (wsV RX5 102 RX5 yX5_changes wsX5_changes) := goodIn_app (goodIn_of _ (by decide +kernel)) ggX5_crank_X5_changes
set_option maxRecDepth 20000 in
theorem ggX5_crank_X5_cranks : GoodIn wsX5_crank wsX5_cranks := goodIn_r _ [22, 23, 24, 2, 25, 26, 27, 6, 28, 29, 30, 31, 32, 33, 34, 35, 36, 37, 38, 39, 40, 41, 42, 43, 44, 45, 46, 47, 48, 49, 50, 51, 52, 53, 54, 55, 56, 57] (by decide +kernel) (by decide +kernel)
set_option maxRecDepth 20000 in
theorem gX5_crank_X5_cranks : GoodIn wsX5_crank (wsV RX5 131 RX5 yX5_cranks wsX5_cranks) := goodIn_app (goodIn_of _ (by decide +kernel)) ggX5_crank_X5_cranks
theorem dX5_crank_0 : decode cX5_crank 0 = .ok (.aload_n 0, 1) := by decide +kernel
theorem dX5_crank_1 : decode cX5_crank 1 = .ok (.iload_n 1, 1) := by decide +kernel
theorem dX5_crank_2 : decode cX5_crank 2 = .ok (.iload_n 2, 1) := by decide +kernel
theorem dX5_crank_3 : decode cX5_crank 3 = .ok (.invokevirtual 128, 3) := by decide +kernel
theorem dX5_crank_6 : decode cX5_crank 6 = .ok (.istore_n 3, 1) := by decide +kernel
theorem dX5_crank_7 : decode cX5_crank 7 = .ok (.iload_n 3, 1) := by decide +kernel
theorem dX5_crank_8 : decode cX5_crank 8 = .ok (.ifCond .ge 5, 3) := by decide +kernel
theorem dX5_crank_11 : decode cX5_crank 11 = .ok (.iload_n 3, 1) := by decide +kernel
theorem dX5_crank_12 : decode cX5_crank 12 = .ok (.ireturn, 1) := by decide +kernel
theorem dX5_crank_13 : decode cX5_crank 13 = .ok (.aload_n 0, 1) := by decide +kernel
theorem dX5_crank_14 : decode cX5_crank 14 = .ok (.invokevirtual 102, 3) := by decide +kernel
theorem dX5_crank_17 : decode cX5_crank 17 = .ok (.aload_n 0, 1) := by decide +kernel
theorem dX5_crank_18 : decode cX5_crank 18 = .ok (.iload_n 1, 1) := by decide +kernel
theorem dX5_crank_19 : decode cX5_crank 19 = .ok (.iload_n 2, 1) := by decide +kernel
theorem dX5_crank_20 : decode cX5_crank 20 = .ok (.invokevirtual 131, 3) := by decide +kernel
theorem dX5_crank_23 : decode cX5_crank 23 = .ok (.istore 4, 2) := by decide +kernel
theorem dX5_crank_25 : decode cX5_crank 25 = .ok (.iload 4, 2) := by decide +kernel
theorem dX5_crank_27 : decode cX5_crank 27 = .ok (.ifCond .ge 8, 3) := by decide +kernel
theorem dX5_crank_30 : decode cX5_crank 30 = .ok (.ldc 100, 2) := by decide +kernel
theorem dX5_crank_32 : decode cX5_crank 32 = .ok (.goto 9, 3) := by decide +kernel
theorem dX5_crank_35 : decode cX5_crank 35 = .ok (.aload_n 0, 1) := by decide +kernel
theorem dX5_crank_36 : decode cX5_crank 36 = .ok (.getfield 7, 3) := by decide +kernel
theorem dX5_crank_39 : decode cX5_crank 39 = .ok (.iconst 1, 1) := by decide +kernel
theorem dX5_crank_40 : decode cX5_crank 40 = .ok (.iaload, 1) := by decide +kernel
theorem dX5_crank_41 : decode cX5_crank 41 = .ok (.ireturn, 1) := by decide +kernel
set_option maxRecDepth 20000 in
theorem ggX5_route_X5_in : GoodIn wsX5_route wsX5_in := goodIn_r _ [7] (by decide +kernel) (by decide +kernel)
set_option maxRecDepth 20000 in
theorem gX5_route_X5_in : GoodIn wsX5_route (va_wsS RX5 61 yX5_in wsX5_in) := goodIn_app (goodIn_of _ (by decide +kernel)) ggX5_route_X5_in
set_option maxRecDepth 20000 in
theorem ggX5_route_X5_changes : GoodIn wsX5_route wsX5_changes := goodIn_r _ [11, 12, 13, 1, 14, 15, 16, 17, 18, 19, 20, 21, 22, 23, 24, 25, 26] (by decide +kernel) (by decide +kernel)
set_option maxRecDepth 20000 in
theorem gX5_route_X5_changes : GoodIn wsX5_route (wsV RX5 102 RX5 yX5_changes wsX5_changes) := goodIn_app (goodIn_of _ (by decide +kernel)) ggX5_route_X5_changes
theorem dX5_route_0 : decode cX5_route 0 = .ok (.iload_n 1, 1) := by decide +kernel
theorem dX5_route_1 : decode cX5_route 1 = .ok (.iconst 1, 1) := by decide +kernel
theorem dX5_route_2 : decode cX5_route 2 = .ok (.iconst 1, 1) := by decide +kernel
theorem dX5_route_3 : decode cX5_route 3 = .ok (.aload_n 0, 1) := by decide +kernel
theorem dX5_route_4 : decode cX5_route 4 = .ok (.getfield 7, 3) := by decide +kernel
theorem dX5_route_7 : decode cX5_route 7 = .ok (.iconst 0, 1) := by decide +kernel
theorem dX5_route_8 : decode cX5_route 8 = .ok (.iaload, 1) := by decide +kernel
theorem dX5_route_9 : decode cX5_route 9 = .ok (.ishl, 1) := by decide +kernel
theorem dX5_route_10 : decode cX5_route 10 = .ok (.iconst 1, 1) := by decide +kernel
theorem dX5_route_11 : decode cX5_route 11 = .ok (.isub, 1) := by decide +kernel
theorem dX5_route_12 : decode cX5_route 12 = .ok (.invokestatic 61, 3) := by decide +kernel
theorem dX5_route_15 : decode cX5_route 15 = .ok (.ifCond .ne 6, 3) := by decide +kernel
theorem dX5_route_18 : decode cX5_route 18 = .ok (.ldc 92, 2) := by decide +kernel
theorem dX5_route_20 : decode cX5_route 20 = .ok (.ireturn, 1) := by decide +kernel
theorem dX5_route_21 : decode cX5_route 21 = .ok (.aload_n 0, 1) := by decide +kernel
theorem dX5_route_22 : decode cX5_route 22 = .ok (.getfield 7, 3) := by decide +kernel
theorem dX5_route_25 : decode cX5_route 25 = .ok (.iconst 2, 1) := by decide +kernel
theorem dX5_route_26 : decode cX5_route 26 = .ok (.iaload, 1) := by decide +kernel
theorem dX5_route_27 : decode cX5_route 27 = .ok (.istore_n 2, 1) := by decide +kernel
theorem dX5_route_28 : decode cX5_route 28 = .ok (.iload_n 2, 1) := by decide +kernel
theorem dX5_route_29 : decode cX5_route 29 = .ok (.bipush 6, 2) := by decide +kernel
theorem dX5_route_31 : decode cX5_route 31 = .ok (.if_icmp .ne 6, 3) := by decide +kernel
theorem dX5_route_34 : decode cX5_route 34 = .ok (.ldc 134, 2) := by decide +kernel
theorem dX5_route_36 : decode cX5_route 36 = .ok (.ireturn, 1) := by decide +kernel
theorem dX5_route_37 : decode cX5_route 37 = .ok (.aload_n 0, 1) := by decide +kernel
theorem dX5_route_38 : decode cX5_route 38 = .ok (.invokevirtual 102, 3) := by decide +kernel
theorem dX5_route_41 : decode cX5_route 41 = .ok (.aload_n 0, 1) := by decide +kernel
theorem dX5_route_42 : decode cX5_route 42 = .ok (.getfield 7, 3) := by decide +kernel
theorem dX5_route_45 : decode cX5_route 45 = .ok (.sipush 351, 3) := by decide +kernel
theorem dX5_route_48 : decode cX5_route 48 = .ok (.iconst 3, 1) := by decide +kernel
theorem dX5_route_49 : decode cX5_route 49 = .ok (.iload_n 2, 1) := by decide +kernel
theorem dX5_route_50 : decode cX5_route 50 = .ok (.imul, 1) := by decide +kernel
theorem dX5_route_51 : decode cX5_route 51 = .ok (.iadd, 1) := by decide +kernel
theorem dX5_route_52 : decode cX5_route 52 = .ok (.iconst 0, 1) := by decide +kernel
theorem dX5_route_53 : decode cX5_route 53 = .ok (.iadd, 1) := by decide +kernel
theorem dX5_route_54 : decode cX5_route 54 = .ok (.iload_n 1, 1) := by decide +kernel
theorem dX5_route_55 : decode cX5_route 55 = .ok (.iastore, 1) := by decide +kernel
theorem dX5_route_56 : decode cX5_route 56 = .ok (.aload_n 0, 1) := by decide +kernel
theorem dX5_route_57 : decode cX5_route 57 = .ok (.getfield 7, 3) := by decide +kernel
theorem dX5_route_60 : decode cX5_route 60 = .ok (.sipush 351, 3) := by decide +kernel
theorem dX5_route_63 : decode cX5_route 63 = .ok (.iconst 3, 1) := by decide +kernel
theorem dX5_route_64 : decode cX5_route 64 = .ok (.iload_n 2, 1) := by decide +kernel
theorem dX5_route_65 : decode cX5_route 65 = .ok (.imul, 1) := by decide +kernel
theorem dX5_route_66 : decode cX5_route 66 = .ok (.iadd, 1) := by decide +kernel
theorem dX5_route_67 : decode cX5_route 67 = .ok (.iconst 1, 1) := by decide +kernel
theorem dX5_route_68 : decode cX5_route 68 = .ok (.iadd, 1) := by decide +kernel
theorem dX5_route_69 : decode cX5_route 69 = .ok (.iconst 0, 1) := by decide +kernel
theorem dX5_route_70 : decode cX5_route 70 = .ok (.iastore, 1) := by decide +kernel
theorem dX5_route_71 : decode cX5_route 71 = .ok (.aload_n 0, 1) := by decide +kernel
theorem dX5_route_72 : decode cX5_route 72 = .ok (.getfield 7, 3) := by decide +kernel
theorem dX5_route_75 : decode cX5_route 75 = .ok (.sipush 351, 3) := by decide +kernel
theorem dX5_route_78 : decode cX5_route 78 = .ok (.iconst 3, 1) := by decide +kernel
theorem dX5_route_79 : decode cX5_route 79 = .ok (.iload_n 2, 1) := by decide +kernel
theorem dX5_route_80 : decode cX5_route 80 = .ok (.imul, 1) := by decide +kernel
theorem dX5_route_81 : decode cX5_route 81 = .ok (.iadd, 1) := by decide +kernel
theorem dX5_route_82 : decode cX5_route 82 = .ok (.iconst 2, 1) := by decide +kernel
theorem dX5_route_83 : decode cX5_route 83 = .ok (.iadd, 1) := by decide +kernel
theorem dX5_route_84 : decode cX5_route 84 = .ok (.iconst 0, 1) := by decide +kernel
theorem dX5_route_85 : decode cX5_route 85 = .ok (.iastore, 1) := by decide +kernel
theorem dX5_route_86 : decode cX5_route 86 = .ok (.aload_n 0, 1) := by decide +kernel
theorem dX5_route_87 : decode cX5_route 87 = .ok (.getfield 7, 3) := by decide +kernel
theorem dX5_route_90 : decode cX5_route 90 = .ok (.iconst 2, 1) := by decide +kernel
theorem dX5_route_91 : decode cX5_route 91 = .ok (.dup2, 1) := by decide +kernel
theorem dX5_route_92 : decode cX5_route 92 = .ok (.iaload, 1) := by decide +kernel
theorem dX5_route_93 : decode cX5_route 93 = .ok (.iconst 1, 1) := by decide +kernel
theorem dX5_route_94 : decode cX5_route 94 = .ok (.iadd, 1) := by decide +kernel
theorem dX5_route_95 : decode cX5_route 95 = .ok (.iastore, 1) := by decide +kernel
theorem dX5_route_96 : decode cX5_route 96 = .ok (.iload_n 2, 1) := by decide +kernel
theorem dX5_route_97 : decode cX5_route 97 = .ok (.ireturn, 1) := by decide +kernel
set_option maxRecDepth 20000 in
theorem ggX5_drive_X5_isRoute : GoodIn wsX5_drive wsX5_isRoute := goodIn_r _ [7, 2, 14, 15, 16, 17, 18, 19, 20, 21, 22, 23, 24, 25, 26] (by decide +kernel) (by decide +kernel)
set_option maxRecDepth 20000 in
theorem gX5_drive_X5_isRoute : GoodIn wsX5_drive (wsV RX5 135 RX5 yX5_isRoute wsX5_isRoute) := goodIn_app (goodIn_of _ (by decide +kernel)) ggX5_drive_X5_isRoute
set_option maxRecDepth 20000 in
theorem ggX5_drive_X5_changes : GoodIn wsX5_drive wsX5_changes := goodIn_r _ [11, 12, 13, 2, 14, 15, 16, 17, 18, 19, 20, 21, 22, 23, 24, 25, 26] (by decide +kernel) (by decide +kernel)
set_option maxRecDepth 20000 in
theorem gX5_drive_X5_changes : GoodIn wsX5_drive (wsV RX5 102 RX5 yX5_changes wsX5_changes) := goodIn_app (goodIn_of _ (by decide +kernel)) ggX5_drive_X5_changes
theorem dX5_drive_0 : decode cX5_drive 0 = .ok (.iload_n 1, 1) := by decide +kernel
theorem dX5_drive_1 : decode cX5_drive 1 = .ok (.iconst (-1), 1) := by decide +kernel
theorem dX5_drive_2 : decode cX5_drive 2 = .ok (.if_icmp .eq 14, 3) := by decide +kernel
theorem dX5_drive_5 : decode cX5_drive 5 = .ok (.aload_n 0, 1) := by decide +kernel
theorem dX5_drive_6 : decode cX5_drive 6 = .ok (.iload_n 1, 1) := by decide +kernel
theorem dX5_drive_7 : decode cX5_drive 7 = .ok (.invokevirtual 135, 3) := by decide +kernel
theorem dX5_drive_10 : decode cX5_drive 10 = .ok (.ifCond .ne 6, 3) := by decide +kernel
theorem dX5_drive_13 : decode cX5_drive 13 = .ok (.ldc 92, 2) := by decide +kernel
theorem dX5_drive_15 : decode cX5_drive 15 = .ok (.ireturn, 1) := by decide +kernel
theorem dX5_drive_16 : decode cX5_drive 16 = .ok (.aload_n 0, 1) := by decide +kernel
theorem dX5_drive_17 : decode cX5_drive 17 = .ok (.invokevirtual 102, 3) := by decide +kernel
theorem dX5_drive_20 : decode cX5_drive 20 = .ok (.aload_n 0, 1) := by decide +kernel
theorem dX5_drive_21 : decode cX5_drive 21 = .ok (.getfield 7, 3) := by decide +kernel
theorem dX5_drive_24 : decode cX5_drive 24 = .ok (.iconst 3, 1) := by decide +kernel
theorem dX5_drive_25 : decode cX5_drive 25 = .ok (.iaload, 1) := by decide +kernel
theorem dX5_drive_26 : decode cX5_drive 26 = .ok (.istore_n 2, 1) := by decide +kernel
theorem dX5_drive_27 : decode cX5_drive 27 = .ok (.aload_n 0, 1) := by decide +kernel
theorem dX5_drive_28 : decode cX5_drive 28 = .ok (.getfield 7, 3) := by decide +kernel
theorem dX5_drive_31 : decode cX5_drive 31 = .ok (.iconst 3, 1) := by decide +kernel
theorem dX5_drive_32 : decode cX5_drive 32 = .ok (.iload_n 1, 1) := by decide +kernel
theorem dX5_drive_33 : decode cX5_drive 33 = .ok (.iastore, 1) := by decide +kernel
theorem dX5_drive_34 : decode cX5_drive 34 = .ok (.iload_n 2, 1) := by decide +kernel
theorem dX5_drive_35 : decode cX5_drive 35 = .ok (.ireturn, 1) := by decide +kernel
set_option maxRecDepth 20000 in
theorem ggX5_wrongBy_X5_isTorn : GoodIn wsX5_wrongBy wsX5_isTorn := goodIn_r _ [6, 7, 8, 9, 5, 10, 1, 38, 39, 40, 41, 42, 43, 44, 45, 46, 47, 48, 49, 50] (by decide +kernel) (by decide +kernel)
set_option maxRecDepth 20000 in
theorem gX5_wrongBy_X5_isTorn : GoodIn wsX5_wrongBy (wsV RX5 115 RX5 yX5_isTorn wsX5_isTorn) := goodIn_app (goodIn_of _ (by decide +kernel)) ggX5_wrongBy_X5_isTorn
set_option maxRecDepth 20000 in
theorem ggX5_wrongBy_X5_kind : GoodIn wsX5_wrongBy wsX5_kind := goodIn_r _ [14, 15, 16, 17, 18, 19, 20, 5, 21, 22, 7, 8, 9, 10, 1, 38, 39, 40, 41, 42, 43, 44, 45, 46, 47, 48, 49, 50] (by decide +kernel) (by decide +kernel)
set_option maxRecDepth 20000 in
theorem gX5_wrongBy_X5_kind : GoodIn wsX5_wrongBy (wsV RX5 138 RX5 yX5_kind wsX5_kind) := goodIn_app (goodIn_of _ (by decide +kernel)) ggX5_wrongBy_X5_kind
set_option maxRecDepth 20000 in
theorem ggX5_wrongBy_X5_ofRoute : GoodIn wsX5_wrongBy wsX5_ofRoute := goodIn_r _ [26, 1, 38, 39, 40, 41, 42, 43, 44, 45, 46, 47, 48, 49, 50] (by decide +kernel) (by decide +kernel)
set_option maxRecDepth 20000 in
theorem gX5_wrongBy_X5_ofRoute : GoodIn wsX5_wrongBy (wsV RX5 109 RX5 yX5_ofRoute wsX5_ofRoute) := goodIn_app (goodIn_of _ (by decide +kernel)) ggX5_wrongBy_X5_ofRoute
set_option maxRecDepth 20000 in
theorem ggX5_wrongBy_X5_width : GoodIn wsX5_wrongBy wsX5_width := goodIn_r _ [30, 7, 8, 9, 5, 10, 1, 31, 32, 33, 38, 39, 40, 41, 42, 43, 44, 45, 46, 47, 48, 49, 50] (by decide +kernel) (by decide +kernel)
set_option maxRecDepth 20000 in
theorem gX5_wrongBy_X5_width : GoodIn wsX5_wrongBy (wsV RX5 141 RX5 yX5_width wsX5_width) := goodIn_app (goodIn_of _ (by decide +kernel)) ggX5_wrongBy_X5_width
set_option maxRecDepth 20000 in
theorem ggX5_wrongBy_X5_squeezed : GoodIn wsX5_wrongBy wsX5_squeezed := goodIn_r _ [37, 1, 38, 39, 40, 41, 42, 43, 44, 45, 46, 47, 48, 49, 50] (by decide +kernel) (by decide +kernel)
set_option maxRecDepth 20000 in
theorem gX5_wrongBy_X5_squeezed : GoodIn wsX5_wrongBy (wsV RX5 79 RX5 yX5_squeezed wsX5_squeezed) := goodIn_app (goodIn_of _ (by decide +kernel)) ggX5_wrongBy_X5_squeezed
theorem dX5_wrongBy_0 : decode cX5_wrongBy 0 = .ok (.iload_n 1, 1) := by decide +kernel
theorem dX5_wrongBy_1 : decode cX5_wrongBy 1 = .ok (.ifCond .ge 5, 3) := by decide +kernel
theorem dX5_wrongBy_4 : decode cX5_wrongBy 4 = .ok (.iconst 1, 1) := by decide +kernel
theorem dX5_wrongBy_5 : decode cX5_wrongBy 5 = .ok (.ireturn, 1) := by decide +kernel
theorem dX5_wrongBy_6 : decode cX5_wrongBy 6 = .ok (.aload_n 0, 1) := by decide +kernel
theorem dX5_wrongBy_7 : decode cX5_wrongBy 7 = .ok (.iload_n 1, 1) := by decide +kernel
theorem dX5_wrongBy_8 : decode cX5_wrongBy 8 = .ok (.invokevirtual 115, 3) := by decide +kernel
theorem dX5_wrongBy_11 : decode cX5_wrongBy 11 = .ok (.ifCond .eq 5, 3) := by decide +kernel
theorem dX5_wrongBy_14 : decode cX5_wrongBy 14 = .ok (.iconst 2, 1) := by decide +kernel
theorem dX5_wrongBy_15 : decode cX5_wrongBy 15 = .ok (.ireturn, 1) := by decide +kernel
theorem dX5_wrongBy_16 : decode cX5_wrongBy 16 = .ok (.aload_n 0, 1) := by decide +kernel
theorem dX5_wrongBy_17 : decode cX5_wrongBy 17 = .ok (.getfield 7, 3) := by decide +kernel
theorem dX5_wrongBy_20 : decode cX5_wrongBy 20 = .ok (.iconst 3, 1) := by decide +kernel
theorem dX5_wrongBy_21 : decode cX5_wrongBy 21 = .ok (.iaload, 1) := by decide +kernel
theorem dX5_wrongBy_22 : decode cX5_wrongBy 22 = .ok (.ifCond .ge 23, 3) := by decide +kernel
theorem dX5_wrongBy_25 : decode cX5_wrongBy 25 = .ok (.aload_n 0, 1) := by decide +kernel
theorem dX5_wrongBy_26 : decode cX5_wrongBy 26 = .ok (.iload_n 1, 1) := by decide +kernel
theorem dX5_wrongBy_27 : decode cX5_wrongBy 27 = .ok (.invokevirtual 138, 3) := by decide +kernel
theorem dX5_wrongBy_30 : decode cX5_wrongBy 30 = .ok (.iconst 1, 1) := by decide +kernel
theorem dX5_wrongBy_31 : decode cX5_wrongBy 31 = .ok (.if_icmp .eq 14, 3) := by decide +kernel
theorem dX5_wrongBy_34 : decode cX5_wrongBy 34 = .ok (.aload_n 0, 1) := by decide +kernel
theorem dX5_wrongBy_35 : decode cX5_wrongBy 35 = .ok (.iload_n 1, 1) := by decide +kernel
theorem dX5_wrongBy_36 : decode cX5_wrongBy 36 = .ok (.invokevirtual 138, 3) := by decide +kernel
theorem dX5_wrongBy_39 : decode cX5_wrongBy 39 = .ok (.iconst 2, 1) := by decide +kernel
theorem dX5_wrongBy_40 : decode cX5_wrongBy 40 = .ok (.if_icmp .eq 5, 3) := by decide +kernel
theorem dX5_wrongBy_43 : decode cX5_wrongBy 43 = .ok (.iconst 3, 1) := by decide +kernel
theorem dX5_wrongBy_44 : decode cX5_wrongBy 44 = .ok (.ireturn, 1) := by decide +kernel
theorem dX5_wrongBy_45 : decode cX5_wrongBy 45 = .ok (.aload_n 0, 1) := by decide +kernel
theorem dX5_wrongBy_46 : decode cX5_wrongBy 46 = .ok (.getfield 7, 3) := by decide +kernel
theorem dX5_wrongBy_49 : decode cX5_wrongBy 49 = .ok (.iconst 3, 1) := by decide +kernel
theorem dX5_wrongBy_50 : decode cX5_wrongBy 50 = .ok (.iaload, 1) := by decide +kernel
theorem dX5_wrongBy_51 : decode cX5_wrongBy 51 = .ok (.ifCond .lt 32, 3) := by decide +kernel
theorem dX5_wrongBy_54 : decode cX5_wrongBy 54 = .ok (.aload_n 0, 1) := by decide +kernel
theorem dX5_wrongBy_55 : decode cX5_wrongBy 55 = .ok (.aload_n 0, 1) := by decide +kernel
theorem dX5_wrongBy_56 : decode cX5_wrongBy 56 = .ok (.getfield 7, 3) := by decide +kernel
theorem dX5_wrongBy_59 : decode cX5_wrongBy 59 = .ok (.iconst 3, 1) := by decide +kernel
theorem dX5_wrongBy_60 : decode cX5_wrongBy 60 = .ok (.iaload, 1) := by decide +kernel
theorem dX5_wrongBy_61 : decode cX5_wrongBy 61 = .ok (.iconst 0, 1) := by decide +kernel
theorem dX5_wrongBy_62 : decode cX5_wrongBy 62 = .ok (.invokevirtual 109, 3) := by decide +kernel
theorem dX5_wrongBy_65 : decode cX5_wrongBy 65 = .ok (.iload_n 1, 1) := by decide +kernel
theorem dX5_wrongBy_66 : decode cX5_wrongBy 66 = .ok (.ishr, 1) := by decide +kernel
theorem dX5_wrongBy_67 : decode cX5_wrongBy 67 = .ok (.iconst 1, 1) := by decide +kernel
theorem dX5_wrongBy_68 : decode cX5_wrongBy 68 = .ok (.iand, 1) := by decide +kernel
theorem dX5_wrongBy_69 : decode cX5_wrongBy 69 = .ok (.ifCond .ne 14, 3) := by decide +kernel
theorem dX5_wrongBy_72 : decode cX5_wrongBy 72 = .ok (.aload_n 0, 1) := by decide +kernel
theorem dX5_wrongBy_73 : decode cX5_wrongBy 73 = .ok (.iload_n 1, 1) := by decide +kernel
theorem dX5_wrongBy_74 : decode cX5_wrongBy 74 = .ok (.invokevirtual 138, 3) := by decide +kernel
theorem dX5_wrongBy_77 : decode cX5_wrongBy 77 = .ok (.iconst 2, 1) := by decide +kernel
theorem dX5_wrongBy_78 : decode cX5_wrongBy 78 = .ok (.if_icmp .eq 5, 3) := by decide +kernel
theorem dX5_wrongBy_81 : decode cX5_wrongBy 81 = .ok (.iconst 4, 1) := by decide +kernel
theorem dX5_wrongBy_82 : decode cX5_wrongBy 82 = .ok (.ireturn, 1) := by decide +kernel
theorem dX5_wrongBy_83 : decode cX5_wrongBy 83 = .ok (.aload_n 0, 1) := by decide +kernel
theorem dX5_wrongBy_84 : decode cX5_wrongBy 84 = .ok (.aload_n 0, 1) := by decide +kernel
theorem dX5_wrongBy_85 : decode cX5_wrongBy 85 = .ok (.iload_n 1, 1) := by decide +kernel
theorem dX5_wrongBy_86 : decode cX5_wrongBy 86 = .ok (.invokevirtual 141, 3) := by decide +kernel
theorem dX5_wrongBy_89 : decode cX5_wrongBy 89 = .ok (.invokevirtual 79, 3) := by decide +kernel
theorem dX5_wrongBy_92 : decode cX5_wrongBy 92 = .ok (.bipush 120, 2) := by decide +kernel
theorem dX5_wrongBy_94 : decode cX5_wrongBy 94 = .ok (.if_icmp .le 7, 3) := by decide +kernel
theorem dX5_wrongBy_97 : decode cX5_wrongBy 97 = .ok (.iconst 5, 1) := by decide +kernel
theorem dX5_wrongBy_98 : decode cX5_wrongBy 98 = .ok (.goto 4, 3) := by decide +kernel
theorem dX5_wrongBy_101 : decode cX5_wrongBy 101 = .ok (.iconst 0, 1) := by decide +kernel
theorem dX5_wrongBy_102 : decode cX5_wrongBy 102 = .ok (.ireturn, 1) := by decide +kernel
set_option maxRecDepth 20000 in
theorem ggX5_stop_X5_changes : GoodIn wsX5_stop wsX5_changes := goodIn_r _ [6, 7, 8, 1, 48, 49, 50, 51, 52, 53, 54, 55, 56, 57, 58, 59, 60] (by decide +kernel) (by decide +kernel)
set_option maxRecDepth 20000 in
theorem gX5_stop_X5_changes : GoodIn wsX5_stop (wsV RX5 102 RX5 yX5_changes wsX5_changes) := goodIn_app (goodIn_of _ (by decide +kernel)) ggX5_stop_X5_changes
set_option maxRecDepth 20000 in
theorem ggX5_stop_X5_wrongBy : GoodIn wsX5_stop wsX5_wrongBy := goodIn_r _ [12, 1, 13, 14, 15, 5, 16, 17, 18, 19, 20, 21, 22, 23, 24, 25, 26, 27, 28, 29, 30, 31, 32, 33, 34, 35, 36, 37, 38, 39, 40, 41, 42, 43, 44, 45, 46, 47, 48, 49, 50, 51, 52, 53, 54, 55, 56, 57, 58, 59, 60] (by decide +kernel) (by decide +kernel)
set_option maxRecDepth 20000 in
theorem gX5_stop_X5_wrongBy : GoodIn wsX5_stop (wsV RX5 144 RX5 yX5_wrongBy wsX5_wrongBy) := goodIn_app (goodIn_of _ (by decide +kernel)) ggX5_stop_X5_wrongBy
theorem dX5_stop_0 : decode cX5_stop 0 = .ok (.aload_n 0, 1) := by decide +kernel
theorem dX5_stop_1 : decode cX5_stop 1 = .ok (.invokevirtual 102, 3) := by decide +kernel
theorem dX5_stop_4 : decode cX5_stop 4 = .ok (.aload_n 0, 1) := by decide +kernel
theorem dX5_stop_5 : decode cX5_stop 5 = .ok (.aload_n 0, 1) := by decide +kernel
theorem dX5_stop_6 : decode cX5_stop 6 = .ok (.getfield 7, 3) := by decide +kernel
theorem dX5_stop_9 : decode cX5_stop 9 = .ok (.iconst 1, 1) := by decide +kernel
theorem dX5_stop_10 : decode cX5_stop 10 = .ok (.iaload, 1) := by decide +kernel
theorem dX5_stop_11 : decode cX5_stop 11 = .ok (.invokevirtual 144, 3) := by decide +kernel
theorem dX5_stop_14 : decode cX5_stop 14 = .ok (.istore_n 1, 1) := by decide +kernel
theorem dX5_stop_15 : decode cX5_stop 15 = .ok (.iload_n 1, 1) := by decide +kernel
theorem dX5_stop_16 : decode cX5_stop 16 = .ok (.ifCond .ne 7, 3) := by decide +kernel
theorem dX5_stop_19 : decode cX5_stop 19 = .ok (.iconst 1, 1) := by decide +kernel
theorem dX5_stop_20 : decode cX5_stop 20 = .ok (.goto 4, 3) := by decide +kernel
theorem dX5_stop_23 : decode cX5_stop 23 = .ok (.iconst 0, 1) := by decide +kernel
theorem dX5_stop_24 : decode cX5_stop 24 = .ok (.istore_n 2, 1) := by decide +kernel
theorem dX5_stop_25 : decode cX5_stop 25 = .ok (.aload_n 0, 1) := by decide +kernel
theorem dX5_stop_26 : decode cX5_stop 26 = .ok (.getfield 7, 3) := by decide +kernel
theorem dX5_stop_29 : decode cX5_stop 29 = .ok (.bipush 6, 2) := by decide +kernel
theorem dX5_stop_31 : decode cX5_stop 31 = .ok (.dup2, 1) := by decide +kernel
theorem dX5_stop_32 : decode cX5_stop 32 = .ok (.iaload, 1) := by decide +kernel
theorem dX5_stop_33 : decode cX5_stop 33 = .ok (.iconst 1, 1) := by decide +kernel
theorem dX5_stop_34 : decode cX5_stop 34 = .ok (.iadd, 1) := by decide +kernel
theorem dX5_stop_35 : decode cX5_stop 35 = .ok (.iastore, 1) := by decide +kernel
theorem dX5_stop_36 : decode cX5_stop 36 = .ok (.aload_n 0, 1) := by decide +kernel
theorem dX5_stop_37 : decode cX5_stop 37 = .ok (.getfield 7, 3) := by decide +kernel
theorem dX5_stop_40 : decode cX5_stop 40 = .ok (.bipush 7, 2) := by decide +kernel
theorem dX5_stop_42 : decode cX5_stop 42 = .ok (.dup2, 1) := by decide +kernel
theorem dX5_stop_43 : decode cX5_stop 43 = .ok (.iaload, 1) := by decide +kernel
theorem dX5_stop_44 : decode cX5_stop 44 = .ok (.iload_n 2, 1) := by decide +kernel
theorem dX5_stop_45 : decode cX5_stop 45 = .ok (.iadd, 1) := by decide +kernel
theorem dX5_stop_46 : decode cX5_stop 46 = .ok (.iastore, 1) := by decide +kernel
theorem dX5_stop_47 : decode cX5_stop 47 = .ok (.aload_n 0, 1) := by decide +kernel
theorem dX5_stop_48 : decode cX5_stop 48 = .ok (.getfield 7, 3) := by decide +kernel
theorem dX5_stop_51 : decode cX5_stop 51 = .ok (.iconst 3, 1) := by decide +kernel
theorem dX5_stop_52 : decode cX5_stop 52 = .ok (.iaload, 1) := by decide +kernel
theorem dX5_stop_53 : decode cX5_stop 53 = .ok (.ifCond .lt 49, 3) := by decide +kernel
theorem dX5_stop_56 : decode cX5_stop 56 = .ok (.aload_n 0, 1) := by decide +kernel
theorem dX5_stop_57 : decode cX5_stop 57 = .ok (.getfield 7, 3) := by decide +kernel
theorem dX5_stop_60 : decode cX5_stop 60 = .ok (.sipush 351, 3) := by decide +kernel
theorem dX5_stop_63 : decode cX5_stop 63 = .ok (.iconst 3, 1) := by decide +kernel
theorem dX5_stop_64 : decode cX5_stop 64 = .ok (.aload_n 0, 1) := by decide +kernel
theorem dX5_stop_65 : decode cX5_stop 65 = .ok (.getfield 7, 3) := by decide +kernel
theorem dX5_stop_68 : decode cX5_stop 68 = .ok (.iconst 3, 1) := by decide +kernel
theorem dX5_stop_69 : decode cX5_stop 69 = .ok (.iaload, 1) := by decide +kernel
theorem dX5_stop_70 : decode cX5_stop 70 = .ok (.imul, 1) := by decide +kernel
theorem dX5_stop_71 : decode cX5_stop 71 = .ok (.iadd, 1) := by decide +kernel
theorem dX5_stop_72 : decode cX5_stop 72 = .ok (.iconst 1, 1) := by decide +kernel
theorem dX5_stop_73 : decode cX5_stop 73 = .ok (.iadd, 1) := by decide +kernel
theorem dX5_stop_74 : decode cX5_stop 74 = .ok (.dup2, 1) := by decide +kernel
theorem dX5_stop_75 : decode cX5_stop 75 = .ok (.iaload, 1) := by decide +kernel
theorem dX5_stop_76 : decode cX5_stop 76 = .ok (.iconst 1, 1) := by decide +kernel
theorem dX5_stop_77 : decode cX5_stop 77 = .ok (.iadd, 1) := by decide +kernel
theorem dX5_stop_78 : decode cX5_stop 78 = .ok (.iastore, 1) := by decide +kernel
theorem dX5_stop_79 : decode cX5_stop 79 = .ok (.aload_n 0, 1) := by decide +kernel
theorem dX5_stop_80 : decode cX5_stop 80 = .ok (.getfield 7, 3) := by decide +kernel
theorem dX5_stop_83 : decode cX5_stop 83 = .ok (.sipush 351, 3) := by decide +kernel
theorem dX5_stop_86 : decode cX5_stop 86 = .ok (.iconst 3, 1) := by decide +kernel
theorem dX5_stop_87 : decode cX5_stop 87 = .ok (.aload_n 0, 1) := by decide +kernel
theorem dX5_stop_88 : decode cX5_stop 88 = .ok (.getfield 7, 3) := by decide +kernel
theorem dX5_stop_91 : decode cX5_stop 91 = .ok (.iconst 3, 1) := by decide +kernel
theorem dX5_stop_92 : decode cX5_stop 92 = .ok (.iaload, 1) := by decide +kernel
theorem dX5_stop_93 : decode cX5_stop 93 = .ok (.imul, 1) := by decide +kernel
theorem dX5_stop_94 : decode cX5_stop 94 = .ok (.iadd, 1) := by decide +kernel
theorem dX5_stop_95 : decode cX5_stop 95 = .ok (.iconst 2, 1) := by decide +kernel
theorem dX5_stop_96 : decode cX5_stop 96 = .ok (.iadd, 1) := by decide +kernel
theorem dX5_stop_97 : decode cX5_stop 97 = .ok (.dup2, 1) := by decide +kernel
theorem dX5_stop_98 : decode cX5_stop 98 = .ok (.iaload, 1) := by decide +kernel
theorem dX5_stop_99 : decode cX5_stop 99 = .ok (.iload_n 2, 1) := by decide +kernel
theorem dX5_stop_100 : decode cX5_stop 100 = .ok (.iadd, 1) := by decide +kernel
theorem dX5_stop_101 : decode cX5_stop 101 = .ok (.iastore, 1) := by decide +kernel
theorem dX5_stop_102 : decode cX5_stop 102 = .ok (.iload_n 1, 1) := by decide +kernel
theorem dX5_stop_103 : decode cX5_stop 103 = .ok (.ireturn, 1) := by decide +kernel
theorem dX5_mostOf_0 : decode cX5_mostOf 0 = .ok (.iload_n 0, 1) := by decide +kernel
theorem dX5_mostOf_1 : decode cX5_mostOf 1 = .ok (.ifCond .ne 8, 3) := by decide +kernel
theorem dX5_mostOf_4 : decode cX5_mostOf 4 = .ok (.bipush 60, 2) := by decide +kernel
theorem dX5_mostOf_6 : decode cX5_mostOf 6 = .ok (.goto 16, 3) := by decide +kernel
theorem dX5_mostOf_9 : decode cX5_mostOf 9 = .ok (.iload_n 0, 1) := by decide +kernel
theorem dX5_mostOf_10 : decode cX5_mostOf 10 = .ok (.iconst 1, 1) := by decide +kernel
theorem dX5_mostOf_11 : decode cX5_mostOf 11 = .ok (.if_icmp .ne 9, 3) := by decide +kernel
theorem dX5_mostOf_14 : decode cX5_mostOf 14 = .ok (.sipush 200, 3) := by decide +kernel
theorem dX5_mostOf_17 : decode cX5_mostOf 17 = .ok (.goto 5, 3) := by decide +kernel
theorem dX5_mostOf_20 : decode cX5_mostOf 20 = .ok (.bipush 50, 2) := by decide +kernel
theorem dX5_mostOf_22 : decode cX5_mostOf 22 = .ok (.ireturn, 1) := by decide +kernel
set_option maxRecDepth 20000 in
theorem ggX5_set_X5_in : GoodIn wsX5_set wsX5_in := goodIn_r _ [6] (by decide +kernel) (by decide +kernel)
set_option maxRecDepth 20000 in
theorem gX5_set_X5_in : GoodIn wsX5_set (va_wsS RX5 61 yX5_in wsX5_in) := goodIn_app (goodIn_of _ (by decide +kernel)) ggX5_set_X5_in
set_option maxRecDepth 20000 in
theorem ggX5_set_X5_mostOf : GoodIn wsX5_set wsX5_mostOf := goodIn_r _ [9] (by decide +kernel) (by decide +kernel)
set_option maxRecDepth 20000 in
theorem gX5_set_X5_mostOf : GoodIn wsX5_set (va_wsS RX5 147 yX5_mostOf wsX5_mostOf) := goodIn_app (goodIn_of _ (by decide +kernel)) ggX5_set_X5_mostOf
set_option maxRecDepth 20000 in
theorem ggX5_set_X5_changes : GoodIn wsX5_set wsX5_changes := goodIn_r _ [13, 14, 15, 2, 16, 17, 18, 19, 20, 21, 22, 23, 24, 25, 26, 27, 28] (by decide +kernel) (by decide +kernel)
set_option maxRecDepth 20000 in
theorem gX5_set_X5_changes : GoodIn wsX5_set (wsV RX5 102 RX5 yX5_changes wsX5_changes) := goodIn_app (goodIn_of _ (by decide +kernel)) ggX5_set_X5_changes
theorem dX5_set_0 : decode cX5_set 0 = .ok (.iload_n 1, 1) := by decide +kernel
theorem dX5_set_1 : decode cX5_set 1 = .ok (.iconst 0, 1) := by decide +kernel
theorem dX5_set_2 : decode cX5_set 2 = .ok (.iconst 2, 1) := by decide +kernel
theorem dX5_set_3 : decode cX5_set 3 = .ok (.invokestatic 61, 3) := by decide +kernel
theorem dX5_set_6 : decode cX5_set 6 = .ok (.ifCond .eq 23, 3) := by decide +kernel
theorem dX5_set_9 : decode cX5_set 9 = .ok (.iload_n 2, 1) := by decide +kernel
theorem dX5_set_10 : decode cX5_set 10 = .ok (.iload_n 1, 1) := by decide +kernel
theorem dX5_set_11 : decode cX5_set 11 = .ok (.ifCond .ne 7, 3) := by decide +kernel
theorem dX5_set_14 : decode cX5_set 14 = .ok (.iconst 4, 1) := by decide +kernel
theorem dX5_set_15 : decode cX5_set 15 = .ok (.goto 4, 3) := by decide +kernel
theorem dX5_set_18 : decode cX5_set 18 = .ok (.iconst 1, 1) := by decide +kernel
theorem dX5_set_19 : decode cX5_set 19 = .ok (.iload_n 1, 1) := by decide +kernel
theorem dX5_set_20 : decode cX5_set 20 = .ok (.invokestatic 147, 3) := by decide +kernel
theorem dX5_set_23 : decode cX5_set 23 = .ok (.invokestatic 61, 3) := by decide +kernel
theorem dX5_set_26 : decode cX5_set 26 = .ok (.ifCond .ne 6, 3) := by decide +kernel
theorem dX5_set_29 : decode cX5_set 29 = .ok (.ldc 92, 2) := by decide +kernel
theorem dX5_set_31 : decode cX5_set 31 = .ok (.ireturn, 1) := by decide +kernel
theorem dX5_set_32 : decode cX5_set 32 = .ok (.aload_n 0, 1) := by decide +kernel
theorem dX5_set_33 : decode cX5_set 33 = .ok (.invokevirtual 102, 3) := by decide +kernel
theorem dX5_set_36 : decode cX5_set 36 = .ok (.aload_n 0, 1) := by decide +kernel
theorem dX5_set_37 : decode cX5_set 37 = .ok (.getfield 7, 3) := by decide +kernel
theorem dX5_set_40 : decode cX5_set 40 = .ok (.bipush 8, 2) := by decide +kernel
theorem dX5_set_42 : decode cX5_set 42 = .ok (.iload_n 1, 1) := by decide +kernel
theorem dX5_set_43 : decode cX5_set 43 = .ok (.iadd, 1) := by decide +kernel
theorem dX5_set_44 : decode cX5_set 44 = .ok (.iaload, 1) := by decide +kernel
theorem dX5_set_45 : decode cX5_set 45 = .ok (.istore_n 3, 1) := by decide +kernel
theorem dX5_set_46 : decode cX5_set 46 = .ok (.aload_n 0, 1) := by decide +kernel
theorem dX5_set_47 : decode cX5_set 47 = .ok (.getfield 7, 3) := by decide +kernel
theorem dX5_set_50 : decode cX5_set 50 = .ok (.bipush 8, 2) := by decide +kernel
theorem dX5_set_52 : decode cX5_set 52 = .ok (.iload_n 1, 1) := by decide +kernel
theorem dX5_set_53 : decode cX5_set 53 = .ok (.iadd, 1) := by decide +kernel
theorem dX5_set_54 : decode cX5_set 54 = .ok (.iload_n 2, 1) := by decide +kernel
theorem dX5_set_55 : decode cX5_set 55 = .ok (.iastore, 1) := by decide +kernel
theorem dX5_set_56 : decode cX5_set 56 = .ok (.iload_n 3, 1) := by decide +kernel
theorem dX5_set_57 : decode cX5_set 57 = .ok (.ireturn, 1) := by decide +kernel
set_option maxRecDepth 20000 in
theorem ggX5_routesOf_X5_ofRoute : GoodIn wsX5_routesOf wsX5_ofRoute := goodIn_r _ [6, 1, 7, 8, 9, 10, 11, 12, 13, 14, 15, 16, 17, 18, 19] (by decide +kernel) (by decide +kernel)
set_option maxRecDepth 20000 in
theorem gX5_routesOf_X5_ofRoute : GoodIn wsX5_routesOf (wsV RX5 109 RX5 yX5_ofRoute wsX5_ofRoute) := goodIn_app (goodIn_of _ (by decide +kernel)) ggX5_routesOf_X5_ofRoute
theorem dX5_routesOf_0 : decode cX5_routesOf 0 = .ok (.iconst 0, 1) := by decide +kernel
theorem dX5_routesOf_1 : decode cX5_routesOf 1 = .ok (.istore_n 2, 1) := by decide +kernel
theorem dX5_routesOf_2 : decode cX5_routesOf 2 = .ok (.iconst 0, 1) := by decide +kernel
theorem dX5_routesOf_3 : decode cX5_routesOf 3 = .ok (.istore_n 3, 1) := by decide +kernel
theorem dX5_routesOf_4 : decode cX5_routesOf 4 = .ok (.iload_n 3, 1) := by decide +kernel
theorem dX5_routesOf_5 : decode cX5_routesOf 5 = .ok (.aload_n 0, 1) := by decide +kernel
theorem dX5_routesOf_6 : decode cX5_routesOf 6 = .ok (.getfield 7, 3) := by decide +kernel
theorem dX5_routesOf_9 : decode cX5_routesOf 9 = .ok (.iconst 2, 1) := by decide +kernel
theorem dX5_routesOf_10 : decode cX5_routesOf 10 = .ok (.iaload, 1) := by decide +kernel
theorem dX5_routesOf_11 : decode cX5_routesOf 11 = .ok (.if_icmp .ge 24, 3) := by decide +kernel
theorem dX5_routesOf_14 : decode cX5_routesOf 14 = .ok (.iload_n 2, 1) := by decide +kernel
theorem dX5_routesOf_15 : decode cX5_routesOf 15 = .ok (.aload_n 0, 1) := by decide +kernel
theorem dX5_routesOf_16 : decode cX5_routesOf 16 = .ok (.iload_n 3, 1) := by decide +kernel
theorem dX5_routesOf_17 : decode cX5_routesOf 17 = .ok (.iconst 0, 1) := by decide +kernel
theorem dX5_routesOf_18 : decode cX5_routesOf 18 = .ok (.invokevirtual 109, 3) := by decide +kernel
theorem dX5_routesOf_21 : decode cX5_routesOf 21 = .ok (.iload_n 1, 1) := by decide +kernel
theorem dX5_routesOf_22 : decode cX5_routesOf 22 = .ok (.ishr, 1) := by decide +kernel
theorem dX5_routesOf_23 : decode cX5_routesOf 23 = .ok (.iconst 1, 1) := by decide +kernel
theorem dX5_routesOf_24 : decode cX5_routesOf 24 = .ok (.iand, 1) := by decide +kernel
theorem dX5_routesOf_25 : decode cX5_routesOf 25 = .ok (.iload_n 3, 1) := by decide +kernel
theorem dX5_routesOf_26 : decode cX5_routesOf 26 = .ok (.ishl, 1) := by decide +kernel
theorem dX5_routesOf_27 : decode cX5_routesOf 27 = .ok (.ior, 1) := by decide +kernel
theorem dX5_routesOf_28 : decode cX5_routesOf 28 = .ok (.istore_n 2, 1) := by decide +kernel
theorem dX5_routesOf_29 : decode cX5_routesOf 29 = .ok (.iinc 3 1, 3) := by decide +kernel
theorem dX5_routesOf_32 : decode cX5_routesOf 32 = .ok (.goto (-28), 3) := by decide +kernel
theorem dX5_routesOf_35 : decode cX5_routesOf 35 = .ok (.iload_n 2, 1) := by decide +kernel
theorem dX5_routesOf_36 : decode cX5_routesOf 36 = .ok (.ireturn, 1) := by decide +kernel
set_option maxRecDepth 20000 in
theorem ggX5_rowOf_X5_isRow : GoodIn wsX5_rowOf wsX5_isRow := goodIn_r _ [7, 2, 46, 47, 48, 49, 50, 51, 52, 53, 54, 55, 56, 57, 58] (by decide +kernel) (by decide +kernel)
set_option maxRecDepth 20000 in
theorem gX5_rowOf_X5_isRow : GoodIn wsX5_rowOf (wsV RX5 105 RX5 yX5_isRow wsX5_isRow) := goodIn_app (goodIn_of _ (by decide +kernel)) ggX5_rowOf_X5_isRow
set_option maxRecDepth 20000 in
theorem ggX5_rowOf_X5_in : GoodIn wsX5_rowOf wsX5_in := goodIn_r _ [10] (by decide +kernel) (by decide +kernel)
set_option maxRecDepth 20000 in
theorem gX5_rowOf_X5_in : GoodIn wsX5_rowOf (va_wsS RX5 61 yX5_in wsX5_in) := goodIn_app (goodIn_of _ (by decide +kernel)) ggX5_rowOf_X5_in
set_option maxRecDepth 20000 in
theorem ggX5_rowOf_X5_of : GoodIn wsX5_rowOf wsX5_of := goodIn_r _ [14, 2, 46, 47, 48, 49, 50, 51, 52, 53, 54, 55, 56, 57, 58] (by decide +kernel) (by decide +kernel)
set_option maxRecDepth 20000 in
theorem gX5_rowOf_X5_of : GoodIn wsX5_rowOf (wsV RX5 26 RX5 yX5_of wsX5_of) := goodIn_app (goodIn_of _ (by decide +kernel)) ggX5_rowOf_X5_of
set_option maxRecDepth 20000 in
theorem ggX5_rowOf_X5_width : GoodIn wsX5_rowOf wsX5_width := goodIn_r _ [18, 11, 12, 13, 6, 14, 2, 19, 20, 21, 46, 47, 48, 49, 50, 51, 52, 53, 54, 55, 56, 57, 58] (by decide +kernel) (by decide +kernel)
set_option maxRecDepth 20000 in
theorem gX5_rowOf_X5_width : GoodIn wsX5_rowOf (wsV RX5 141 RX5 yX5_width wsX5_width) := goodIn_app (goodIn_of _ (by decide +kernel)) ggX5_rowOf_X5_width
set_option maxRecDepth 20000 in
theorem ggX5_rowOf_X5_squeezed : GoodIn wsX5_rowOf wsX5_squeezed := goodIn_r _ [25, 2, 46, 47, 48, 49, 50, 51, 52, 53, 54, 55, 56, 57, 58] (by decide +kernel) (by decide +kernel)
set_option maxRecDepth 20000 in
theorem gX5_rowOf_X5_squeezed : GoodIn wsX5_rowOf (wsV RX5 79 RX5 yX5_squeezed wsX5_squeezed) := goodIn_app (goodIn_of _ (by decide +kernel)) ggX5_rowOf_X5_squeezed
set_option maxRecDepth 20000 in
theorem ggX5_rowOf_X5_kind : GoodIn wsX5_rowOf wsX5_kind := goodIn_r _ [29, 30, 31, 32, 33, 34, 35, 6, 36, 37, 11, 12, 13, 14, 2, 46, 47, 48, 49, 50, 51, 52, 53, 54, 55, 56, 57, 58] (by decide +kernel) (by decide +kernel)
set_option maxRecDepth 20000 in
theorem gX5_rowOf_X5_kind : GoodIn wsX5_rowOf (wsV RX5 138 RX5 yX5_kind wsX5_kind) := goodIn_app (goodIn_of _ (by decide +kernel)) ggX5_rowOf_X5_kind
set_option maxRecDepth 20000 in
theorem ggX5_rowOf_X5_routesOf : GoodIn wsX5_rowOf wsX5_routesOf := goodIn_r _ [41, 2, 42, 43, 44, 6, 45, 46, 47, 48, 49, 50, 51, 52, 53, 54, 55, 56, 57, 58] (by decide +kernel) (by decide +kernel)
set_option maxRecDepth 20000 in
theorem gX5_rowOf_X5_routesOf : GoodIn wsX5_rowOf (wsV RX5 150 RX5 yX5_routesOf wsX5_routesOf) := goodIn_app (goodIn_of _ (by decide +kernel)) ggX5_rowOf_X5_routesOf
theorem dX5_rowOf_0 : decode cX5_rowOf 0 = .ok (.aload_n 0, 1) := by decide +kernel
theorem dX5_rowOf_1 : decode cX5_rowOf 1 = .ok (.iload_n 1, 1) := by decide +kernel
theorem dX5_rowOf_2 : decode cX5_rowOf 2 = .ok (.invokevirtual 105, 3) := by decide +kernel
theorem dX5_rowOf_5 : decode cX5_rowOf 5 = .ok (.ifCond .eq 13, 3) := by decide +kernel
theorem dX5_rowOf_8 : decode cX5_rowOf 8 = .ok (.iload_n 2, 1) := by decide +kernel
theorem dX5_rowOf_9 : decode cX5_rowOf 9 = .ok (.iconst 0, 1) := by decide +kernel
theorem dX5_rowOf_10 : decode cX5_rowOf 10 = .ok (.bipush 7, 2) := by decide +kernel
theorem dX5_rowOf_12 : decode cX5_rowOf 12 = .ok (.invokestatic 61, 3) := by decide +kernel
theorem dX5_rowOf_15 : decode cX5_rowOf 15 = .ok (.ifCond .ne 6, 3) := by decide +kernel
theorem dX5_rowOf_18 : decode cX5_rowOf 18 = .ok (.ldc 92, 2) := by decide +kernel
theorem dX5_rowOf_20 : decode cX5_rowOf 20 = .ok (.ireturn, 1) := by decide +kernel
theorem dX5_rowOf_21 : decode cX5_rowOf 21 = .ok (.iload_n 2, 1) := by decide +kernel
theorem dX5_rowOf_22 : decode cX5_rowOf 22 = .ok (.tableswitch 91 0 6 #[42, 49, 55, 65, 71, 78, 85], 42) := by decide +kernel
theorem dX5_rowOf_64 : decode cX5_rowOf 64 = .ok (.aload_n 0, 1) := by decide +kernel
theorem dX5_rowOf_65 : decode cX5_rowOf 65 = .ok (.iload_n 1, 1) := by decide +kernel
theorem dX5_rowOf_66 : decode cX5_rowOf 66 = .ok (.iconst 0, 1) := by decide +kernel
theorem dX5_rowOf_67 : decode cX5_rowOf 67 = .ok (.invokevirtual 26, 3) := by decide +kernel
theorem dX5_rowOf_70 : decode cX5_rowOf 70 = .ok (.ireturn, 1) := by decide +kernel
theorem dX5_rowOf_71 : decode cX5_rowOf 71 = .ok (.aload_n 0, 1) := by decide +kernel
theorem dX5_rowOf_72 : decode cX5_rowOf 72 = .ok (.iload_n 1, 1) := by decide +kernel
theorem dX5_rowOf_73 : decode cX5_rowOf 73 = .ok (.invokevirtual 141, 3) := by decide +kernel
theorem dX5_rowOf_76 : decode cX5_rowOf 76 = .ok (.ireturn, 1) := by decide +kernel
theorem dX5_rowOf_77 : decode cX5_rowOf 77 = .ok (.aload_n 0, 1) := by decide +kernel
theorem dX5_rowOf_78 : decode cX5_rowOf 78 = .ok (.aload_n 0, 1) := by decide +kernel
theorem dX5_rowOf_79 : decode cX5_rowOf 79 = .ok (.iload_n 1, 1) := by decide +kernel
theorem dX5_rowOf_80 : decode cX5_rowOf 80 = .ok (.invokevirtual 141, 3) := by decide +kernel
theorem dX5_rowOf_83 : decode cX5_rowOf 83 = .ok (.invokevirtual 79, 3) := by decide +kernel
theorem dX5_rowOf_86 : decode cX5_rowOf 86 = .ok (.ireturn, 1) := by decide +kernel
theorem dX5_rowOf_87 : decode cX5_rowOf 87 = .ok (.aload_n 0, 1) := by decide +kernel
theorem dX5_rowOf_88 : decode cX5_rowOf 88 = .ok (.iload_n 1, 1) := by decide +kernel
theorem dX5_rowOf_89 : decode cX5_rowOf 89 = .ok (.invokevirtual 138, 3) := by decide +kernel
theorem dX5_rowOf_92 : decode cX5_rowOf 92 = .ok (.ireturn, 1) := by decide +kernel
theorem dX5_rowOf_93 : decode cX5_rowOf 93 = .ok (.aload_n 0, 1) := by decide +kernel
theorem dX5_rowOf_94 : decode cX5_rowOf 94 = .ok (.iload_n 1, 1) := by decide +kernel
theorem dX5_rowOf_95 : decode cX5_rowOf 95 = .ok (.iconst 1, 1) := by decide +kernel
theorem dX5_rowOf_96 : decode cX5_rowOf 96 = .ok (.invokevirtual 26, 3) := by decide +kernel
theorem dX5_rowOf_99 : decode cX5_rowOf 99 = .ok (.ireturn, 1) := by decide +kernel
theorem dX5_rowOf_100 : decode cX5_rowOf 100 = .ok (.aload_n 0, 1) := by decide +kernel
theorem dX5_rowOf_101 : decode cX5_rowOf 101 = .ok (.iload_n 1, 1) := by decide +kernel
theorem dX5_rowOf_102 : decode cX5_rowOf 102 = .ok (.iconst 2, 1) := by decide +kernel
theorem dX5_rowOf_103 : decode cX5_rowOf 103 = .ok (.invokevirtual 26, 3) := by decide +kernel
theorem dX5_rowOf_106 : decode cX5_rowOf 106 = .ok (.ireturn, 1) := by decide +kernel
theorem dX5_rowOf_107 : decode cX5_rowOf 107 = .ok (.aload_n 0, 1) := by decide +kernel
theorem dX5_rowOf_108 : decode cX5_rowOf 108 = .ok (.iload_n 1, 1) := by decide +kernel
theorem dX5_rowOf_109 : decode cX5_rowOf 109 = .ok (.invokevirtual 150, 3) := by decide +kernel
theorem dX5_rowOf_112 : decode cX5_rowOf 112 = .ok (.ireturn, 1) := by decide +kernel
theorem dX5_rowOf_113 : decode cX5_rowOf 113 = .ok (.aload_n 0, 1) := by decide +kernel
theorem dX5_rowOf_114 : decode cX5_rowOf 114 = .ok (.getfield 7, 3) := by decide +kernel
theorem dX5_rowOf_117 : decode cX5_rowOf 117 = .ok (.iconst 1, 1) := by decide +kernel
theorem dX5_rowOf_118 : decode cX5_rowOf 118 = .ok (.iaload, 1) := by decide +kernel
theorem dX5_rowOf_119 : decode cX5_rowOf 119 = .ok (.iload_n 1, 1) := by decide +kernel
theorem dX5_rowOf_120 : decode cX5_rowOf 120 = .ok (.if_icmp .ne 7, 3) := by decide +kernel
theorem dX5_rowOf_123 : decode cX5_rowOf 123 = .ok (.iconst 1, 1) := by decide +kernel
theorem dX5_rowOf_124 : decode cX5_rowOf 124 = .ok (.goto 4, 3) := by decide +kernel
theorem dX5_rowOf_127 : decode cX5_rowOf 127 = .ok (.iconst 0, 1) := by decide +kernel
theorem dX5_rowOf_128 : decode cX5_rowOf 128 = .ok (.ireturn, 1) := by decide +kernel
set_option maxRecDepth 20000 in
theorem ggX5_letter_X5_isRow : GoodIn wsX5_letter wsX5_isRow := goodIn_r _ [7, 8, 13, 14, 15, 16, 17, 18, 19, 20, 21, 22, 23, 24, 25] (by decide +kernel) (by decide +kernel)
set_option maxRecDepth 20000 in
theorem gX5_letter_X5_isRow : GoodIn wsX5_letter (wsV RX5 105 RX5 yX5_isRow wsX5_isRow) := goodIn_app (goodIn_of _ (by decide +kernel)) ggX5_letter_X5_isRow
set_option maxRecDepth 20000 in
theorem ggX5_letter_X5_of : GoodIn wsX5_letter wsX5_of := goodIn_r _ [12, 8, 13, 14, 15, 16, 17, 18, 19, 20, 21, 22, 23, 24, 25] (by decide +kernel) (by decide +kernel)
set_option maxRecDepth 20000 in
theorem gX5_letter_X5_of : GoodIn wsX5_letter (wsV RX5 26 RX5 yX5_of wsX5_of) := goodIn_app (goodIn_of _ (by decide +kernel)) ggX5_letter_X5_of
theorem dX5_letter_0 : decode cX5_letter 0 = .ok (.aload_n 0, 1) := by decide +kernel
theorem dX5_letter_1 : decode cX5_letter 1 = .ok (.iload_n 1, 1) := by decide +kernel
theorem dX5_letter_2 : decode cX5_letter 2 = .ok (.invokevirtual 105, 3) := by decide +kernel
theorem dX5_letter_5 : decode cX5_letter 5 = .ok (.ifCond .eq 7, 3) := by decide +kernel
theorem dX5_letter_8 : decode cX5_letter 8 = .ok (.iload_n 2, 1) := by decide +kernel
theorem dX5_letter_9 : decode cX5_letter 9 = .ok (.ifCond .ge 6, 3) := by decide +kernel
theorem dX5_letter_12 : decode cX5_letter 12 = .ok (.ldc 92, 2) := by decide +kernel
theorem dX5_letter_14 : decode cX5_letter 14 = .ok (.ireturn, 1) := by decide +kernel
theorem dX5_letter_15 : decode cX5_letter 15 = .ok (.iload_n 2, 1) := by decide +kernel
theorem dX5_letter_16 : decode cX5_letter 16 = .ok (.aload_n 0, 1) := by decide +kernel
theorem dX5_letter_17 : decode cX5_letter 17 = .ok (.iload_n 1, 1) := by decide +kernel
theorem dX5_letter_18 : decode cX5_letter 18 = .ok (.iconst 0, 1) := by decide +kernel
theorem dX5_letter_19 : decode cX5_letter 19 = .ok (.invokevirtual 26, 3) := by decide +kernel
theorem dX5_letter_22 : decode cX5_letter 22 = .ok (.if_icmp .ge 14, 3) := by decide +kernel
theorem dX5_letter_25 : decode cX5_letter 25 = .ok (.aload_n 0, 1) := by decide +kernel
theorem dX5_letter_26 : decode cX5_letter 26 = .ok (.iload_n 1, 1) := by decide +kernel
theorem dX5_letter_27 : decode cX5_letter 27 = .ok (.iconst 3, 1) := by decide +kernel
theorem dX5_letter_28 : decode cX5_letter 28 = .ok (.iload_n 2, 1) := by decide +kernel
theorem dX5_letter_29 : decode cX5_letter 29 = .ok (.iadd, 1) := by decide +kernel
theorem dX5_letter_30 : decode cX5_letter 30 = .ok (.invokevirtual 26, 3) := by decide +kernel
theorem dX5_letter_33 : decode cX5_letter 33 = .ok (.goto 5, 3) := by decide +kernel
theorem dX5_letter_36 : decode cX5_letter 36 = .ok (.ldc 100, 2) := by decide +kernel
theorem dX5_letter_38 : decode cX5_letter 38 = .ok (.ireturn, 1) := by decide +kernel
set_option maxRecDepth 20000 in
theorem ggX5_tornOnes_X5_of : GoodIn wsX5_tornOnes wsX5_of := goodIn_r _ [6, 1, 7, 8, 9, 10, 11, 12, 13, 14, 15, 16, 17, 18, 19] (by decide +kernel) (by decide +kernel)
set_option maxRecDepth 20000 in
theorem gX5_tornOnes_X5_of : GoodIn wsX5_tornOnes (wsV RX5 26 RX5 yX5_of wsX5_of) := goodIn_app (goodIn_of _ (by decide +kernel)) ggX5_tornOnes_X5_of
theorem dX5_tornOnes_0 : decode cX5_tornOnes 0 = .ok (.iconst 0, 1) := by decide +kernel
theorem dX5_tornOnes_1 : decode cX5_tornOnes 1 = .ok (.istore_n 1, 1) := by decide +kernel
theorem dX5_tornOnes_2 : decode cX5_tornOnes 2 = .ok (.iconst 0, 1) := by decide +kernel
theorem dX5_tornOnes_3 : decode cX5_tornOnes 3 = .ok (.istore_n 2, 1) := by decide +kernel
theorem dX5_tornOnes_4 : decode cX5_tornOnes 4 = .ok (.iload_n 2, 1) := by decide +kernel
theorem dX5_tornOnes_5 : decode cX5_tornOnes 5 = .ok (.aload_n 0, 1) := by decide +kernel
theorem dX5_tornOnes_6 : decode cX5_tornOnes 6 = .ok (.getfield 7, 3) := by decide +kernel
theorem dX5_tornOnes_9 : decode cX5_tornOnes 9 = .ok (.iconst 0, 1) := by decide +kernel
theorem dX5_tornOnes_10 : decode cX5_tornOnes 10 = .ok (.iaload, 1) := by decide +kernel
theorem dX5_tornOnes_11 : decode cX5_tornOnes 11 = .ok (.if_icmp .ge 20, 3) := by decide +kernel
theorem dX5_tornOnes_14 : decode cX5_tornOnes 14 = .ok (.iload_n 1, 1) := by decide +kernel
theorem dX5_tornOnes_15 : decode cX5_tornOnes 15 = .ok (.aload_n 0, 1) := by decide +kernel
theorem dX5_tornOnes_16 : decode cX5_tornOnes 16 = .ok (.iload_n 2, 1) := by decide +kernel
theorem dX5_tornOnes_17 : decode cX5_tornOnes 17 = .ok (.iconst 2, 1) := by decide +kernel
theorem dX5_tornOnes_18 : decode cX5_tornOnes 18 = .ok (.invokevirtual 26, 3) := by decide +kernel
theorem dX5_tornOnes_21 : decode cX5_tornOnes 21 = .ok (.iload_n 2, 1) := by decide +kernel
theorem dX5_tornOnes_22 : decode cX5_tornOnes 22 = .ok (.ishl, 1) := by decide +kernel
theorem dX5_tornOnes_23 : decode cX5_tornOnes 23 = .ok (.ior, 1) := by decide +kernel
theorem dX5_tornOnes_24 : decode cX5_tornOnes 24 = .ok (.istore_n 1, 1) := by decide +kernel
theorem dX5_tornOnes_25 : decode cX5_tornOnes 25 = .ok (.iinc 2 1, 3) := by decide +kernel
theorem dX5_tornOnes_28 : decode cX5_tornOnes 28 = .ok (.goto (-24), 3) := by decide +kernel
theorem dX5_tornOnes_31 : decode cX5_tornOnes 31 = .ok (.iload_n 1, 1) := by decide +kernel
theorem dX5_tornOnes_32 : decode cX5_tornOnes 32 = .ok (.ireturn, 1) := by decide +kernel
set_option maxRecDepth 20000 in
theorem ggX5_routeOf_X5_isRoute : GoodIn wsX5_routeOf wsX5_isRoute := goodIn_r _ [6, 7, 26, 27, 28, 29, 30, 31, 32, 33, 34, 35, 36, 37, 38] (by decide +kernel) (by decide +kernel)
set_option maxRecDepth 20000 in
theorem gX5_routeOf_X5_isRoute : GoodIn wsX5_routeOf (wsV RX5 135 RX5 yX5_isRoute wsX5_isRoute) := goodIn_app (goodIn_of _ (by decide +kernel)) ggX5_routeOf_X5_isRoute
set_option maxRecDepth 20000 in
theorem ggX5_routeOf_X5_in : GoodIn wsX5_routeOf wsX5_in := goodIn_r _ [10] (by decide +kernel) (by decide +kernel)
set_option maxRecDepth 20000 in
theorem gX5_routeOf_X5_in : GoodIn wsX5_routeOf (va_wsS RX5 61 yX5_in wsX5_in) := goodIn_app (goodIn_of _ (by decide +kernel)) ggX5_routeOf_X5_in
set_option maxRecDepth 20000 in
theorem ggX5_routeOf_X5_ofRoute : GoodIn wsX5_routeOf wsX5_ofRoute := goodIn_r _ [14, 7, 26, 27, 28, 29, 30, 31, 32, 33, 34, 35, 36, 37, 38] (by decide +kernel) (by decide +kernel)
set_option maxRecDepth 20000 in
theorem gX5_routeOf_X5_ofRoute : GoodIn wsX5_routeOf (wsV RX5 109 RX5 yX5_ofRoute wsX5_ofRoute) := goodIn_app (goodIn_of _ (by decide +kernel)) ggX5_routeOf_X5_ofRoute
set_option maxRecDepth 20000 in
theorem ggX5_routeOf_X5_ones : GoodIn wsX5_routeOf wsX5_ones := goodIn_r _ [17] (by decide +kernel) (by decide +kernel)
set_option maxRecDepth 20000 in
theorem gX5_routeOf_X5_ones : GoodIn wsX5_routeOf (va_wsS RX5 153 yX5_ones wsX5_ones) := goodIn_app (goodIn_of _ (by decide +kernel)) ggX5_routeOf_X5_ones
set_option maxRecDepth 20000 in
theorem ggX5_routeOf_X5_tornOnes : GoodIn wsX5_routeOf wsX5_tornOnes := goodIn_r _ [21, 7, 22, 23, 24, 5, 25, 26, 27, 28, 29, 30, 31, 32, 33, 34, 35, 36, 37, 38] (by decide +kernel) (by decide +kernel)
set_option maxRecDepth 20000 in
theorem gX5_routeOf_X5_tornOnes : GoodIn wsX5_routeOf (wsV RX5 156 RX5 yX5_tornOnes wsX5_tornOnes) := goodIn_app (goodIn_of _ (by decide +kernel)) ggX5_routeOf_X5_tornOnes
theorem dX5_routeOf_0 : decode cX5_routeOf 0 = .ok (.aload_n 0, 1) := by decide +kernel
theorem dX5_routeOf_1 : decode cX5_routeOf 1 = .ok (.iload_n 1, 1) := by decide +kernel
theorem dX5_routeOf_2 : decode cX5_routeOf 2 = .ok (.invokevirtual 135, 3) := by decide +kernel
theorem dX5_routeOf_5 : decode cX5_routeOf 5 = .ok (.ifCond .eq 12, 3) := by decide +kernel
theorem dX5_routeOf_8 : decode cX5_routeOf 8 = .ok (.iload_n 2, 1) := by decide +kernel
theorem dX5_routeOf_9 : decode cX5_routeOf 9 = .ok (.iconst 0, 1) := by decide +kernel
theorem dX5_routeOf_10 : decode cX5_routeOf 10 = .ok (.iconst 4, 1) := by decide +kernel
theorem dX5_routeOf_11 : decode cX5_routeOf 11 = .ok (.invokestatic 61, 3) := by decide +kernel
theorem dX5_routeOf_14 : decode cX5_routeOf 14 = .ok (.ifCond .ne 6, 3) := by decide +kernel
theorem dX5_routeOf_17 : decode cX5_routeOf 17 = .ok (.ldc 92, 2) := by decide +kernel
theorem dX5_routeOf_19 : decode cX5_routeOf 19 = .ok (.ireturn, 1) := by decide +kernel
theorem dX5_routeOf_20 : decode cX5_routeOf 20 = .ok (.aload_n 0, 1) := by decide +kernel
theorem dX5_routeOf_21 : decode cX5_routeOf 21 = .ok (.iload_n 1, 1) := by decide +kernel
theorem dX5_routeOf_22 : decode cX5_routeOf 22 = .ok (.iconst 0, 1) := by decide +kernel
theorem dX5_routeOf_23 : decode cX5_routeOf 23 = .ok (.invokevirtual 109, 3) := by decide +kernel
theorem dX5_routeOf_26 : decode cX5_routeOf 26 = .ok (.istore_n 3, 1) := by decide +kernel
theorem dX5_routeOf_27 : decode cX5_routeOf 27 = .ok (.iload_n 2, 1) := by decide +kernel
theorem dX5_routeOf_28 : decode cX5_routeOf 28 = .ok (.ifCond .ne 7, 3) := by decide +kernel
theorem dX5_routeOf_31 : decode cX5_routeOf 31 = .ok (.iload_n 3, 1) := by decide +kernel
theorem dX5_routeOf_32 : decode cX5_routeOf 32 = .ok (.goto 37, 3) := by decide +kernel
theorem dX5_routeOf_35 : decode cX5_routeOf 35 = .ok (.iload_n 2, 1) := by decide +kernel
theorem dX5_routeOf_36 : decode cX5_routeOf 36 = .ok (.iconst 1, 1) := by decide +kernel
theorem dX5_routeOf_37 : decode cX5_routeOf 37 = .ok (.if_icmp .ne 10, 3) := by decide +kernel
theorem dX5_routeOf_40 : decode cX5_routeOf 40 = .ok (.iload_n 3, 1) := by decide +kernel
theorem dX5_routeOf_41 : decode cX5_routeOf 41 = .ok (.invokestatic 153, 3) := by decide +kernel
theorem dX5_routeOf_44 : decode cX5_routeOf 44 = .ok (.goto 25, 3) := by decide +kernel
theorem dX5_routeOf_47 : decode cX5_routeOf 47 = .ok (.iload_n 2, 1) := by decide +kernel
theorem dX5_routeOf_48 : decode cX5_routeOf 48 = .ok (.iconst 2, 1) := by decide +kernel
theorem dX5_routeOf_49 : decode cX5_routeOf 49 = .ok (.if_icmp .ne 12, 3) := by decide +kernel
theorem dX5_routeOf_52 : decode cX5_routeOf 52 = .ok (.iload_n 3, 1) := by decide +kernel
theorem dX5_routeOf_53 : decode cX5_routeOf 53 = .ok (.aload_n 0, 1) := by decide +kernel
theorem dX5_routeOf_54 : decode cX5_routeOf 54 = .ok (.invokevirtual 156, 3) := by decide +kernel
theorem dX5_routeOf_57 : decode cX5_routeOf 57 = .ok (.iand, 1) := by decide +kernel
theorem dX5_routeOf_58 : decode cX5_routeOf 58 = .ok (.goto 11, 3) := by decide +kernel
theorem dX5_routeOf_61 : decode cX5_routeOf 61 = .ok (.aload_n 0, 1) := by decide +kernel
theorem dX5_routeOf_62 : decode cX5_routeOf 62 = .ok (.iload_n 1, 1) := by decide +kernel
theorem dX5_routeOf_63 : decode cX5_routeOf 63 = .ok (.iload_n 2, 1) := by decide +kernel
theorem dX5_routeOf_64 : decode cX5_routeOf 64 = .ok (.iconst 2, 1) := by decide +kernel
theorem dX5_routeOf_65 : decode cX5_routeOf 65 = .ok (.isub, 1) := by decide +kernel
theorem dX5_routeOf_66 : decode cX5_routeOf 66 = .ok (.invokevirtual 109, 3) := by decide +kernel
theorem dX5_routeOf_69 : decode cX5_routeOf 69 = .ok (.ireturn, 1) := by decide +kernel
set_option maxRecDepth 20000 in
theorem ggX5_would_X5_in : GoodIn wsX5_would wsX5_in := goodIn_r _ [9] (by decide +kernel) (by decide +kernel)
set_option maxRecDepth 20000 in
theorem gX5_would_X5_in : GoodIn wsX5_would (va_wsS RX5 61 yX5_in wsX5_in) := goodIn_app (goodIn_of _ (by decide +kernel)) ggX5_would_X5_in
set_option maxRecDepth 20000 in
theorem ggX5_would_X5_mayCrank : GoodIn wsX5_would wsX5_mayCrank := goodIn_r _ [13, 1, 2, 14, 6, 7, 8, 9, 42, 43, 44, 45, 46, 47, 48, 49, 50, 51, 52, 53, 54] (by decide +kernel) (by decide +kernel)
set_option maxRecDepth 20000 in
theorem gX5_would_X5_mayCrank : GoodIn wsX5_would (wsV RX5 128 RX5 yX5_mayCrank wsX5_mayCrank) := goodIn_app (goodIn_of _ (by decide +kernel)) ggX5_would_X5_mayCrank
set_option maxRecDepth 20000 in
theorem ggX5_would_X5_copies : GoodIn wsX5_would wsX5_copies := goodIn_r _ [17] (by decide +kernel) (by decide +kernel)
set_option maxRecDepth 20000 in
theorem gX5_would_X5_copies : GoodIn wsX5_would (va_wsS RX5 93 yX5_copies wsX5_copies) := goodIn_app (goodIn_of _ (by decide +kernel)) ggX5_would_X5_copies
set_option maxRecDepth 20000 in
theorem ggX5_would_X5_cranks : GoodIn wsX5_would wsX5_cranks := goodIn_r _ [21, 5, 4, 2, 22, 23, 24, 8, 25, 26, 27, 28, 29, 30, 31, 32, 33, 34, 35, 36, 37, 38, 39, 40, 41, 42, 43, 44, 45, 46, 47, 48, 49, 50, 51, 52, 53, 54] (by decide +kernel) (by decide +kernel)
set_option maxRecDepth 20000 in
theorem gX5_would_X5_cranks : GoodIn wsX5_would (wsV RX5 131 RX5 yX5_cranks wsX5_cranks) := goodIn_app (goodIn_of _ (by decide +kernel)) ggX5_would_X5_cranks
theorem dX5_would_0 : decode cX5_would 0 = .ok (.iload_n 3, 1) := by decide +kernel
theorem dX5_would_1 : decode cX5_would 1 = .ok (.iconst 0, 1) := by decide +kernel
theorem dX5_would_2 : decode cX5_would 2 = .ok (.iconst 3, 1) := by decide +kernel
theorem dX5_would_3 : decode cX5_would 3 = .ok (.invokestatic 61, 3) := by decide +kernel
theorem dX5_would_6 : decode cX5_would 6 = .ok (.ifCond .ne 6, 3) := by decide +kernel
theorem dX5_would_9 : decode cX5_would 9 = .ok (.ldc 92, 2) := by decide +kernel
theorem dX5_would_11 : decode cX5_would 11 = .ok (.ireturn, 1) := by decide +kernel
theorem dX5_would_12 : decode cX5_would 12 = .ok (.aload_n 0, 1) := by decide +kernel
theorem dX5_would_13 : decode cX5_would 13 = .ok (.iload_n 1, 1) := by decide +kernel
theorem dX5_would_14 : decode cX5_would 14 = .ok (.iload_n 2, 1) := by decide +kernel
theorem dX5_would_15 : decode cX5_would 15 = .ok (.invokevirtual 128, 3) := by decide +kernel
theorem dX5_would_18 : decode cX5_would 18 = .ok (.istore 4, 2) := by decide +kernel
theorem dX5_would_20 : decode cX5_would 20 = .ok (.iload 4, 2) := by decide +kernel
theorem dX5_would_22 : decode cX5_would 22 = .ok (.ifCond .ge 6, 3) := by decide +kernel
theorem dX5_would_25 : decode cX5_would 25 = .ok (.iload 4, 2) := by decide +kernel
theorem dX5_would_27 : decode cX5_would 27 = .ok (.ireturn, 1) := by decide +kernel
theorem dX5_would_28 : decode cX5_would 28 = .ok (.aload_n 0, 1) := by decide +kernel
theorem dX5_would_29 : decode cX5_would 29 = .ok (.getfield 7, 3) := by decide +kernel
theorem dX5_would_32 : decode cX5_would 32 = .ok (.aload_n 0, 1) := by decide +kernel
theorem dX5_would_33 : decode cX5_would 33 = .ok (.getfield 16, 3) := by decide +kernel
theorem dX5_would_36 : decode cX5_would 36 = .ok (.invokestatic 93, 3) := by decide +kernel
theorem dX5_would_39 : decode cX5_would 39 = .ok (.aload_n 0, 1) := by decide +kernel
theorem dX5_would_40 : decode cX5_would 40 = .ok (.iload_n 1, 1) := by decide +kernel
theorem dX5_would_41 : decode cX5_would 41 = .ok (.iload_n 2, 1) := by decide +kernel
theorem dX5_would_42 : decode cX5_would 42 = .ok (.invokevirtual 131, 3) := by decide +kernel
theorem dX5_would_45 : decode cX5_would 45 = .ok (.istore 5, 2) := by decide +kernel
theorem dX5_would_47 : decode cX5_would 47 = .ok (.iload_n 3, 1) := by decide +kernel
theorem dX5_would_48 : decode cX5_would 48 = .ok (.ifCond .ne 12, 3) := by decide +kernel
theorem dX5_would_51 : decode cX5_would 51 = .ok (.aload_n 0, 1) := by decide +kernel
theorem dX5_would_52 : decode cX5_would 52 = .ok (.getfield 7, 3) := by decide +kernel
theorem dX5_would_55 : decode cX5_would 55 = .ok (.iconst 1, 1) := by decide +kernel
theorem dX5_would_56 : decode cX5_would 56 = .ok (.iaload, 1) := by decide +kernel
theorem dX5_would_57 : decode cX5_would 57 = .ok (.goto 29, 3) := by decide +kernel
theorem dX5_would_60 : decode cX5_would 60 = .ok (.iload_n 3, 1) := by decide +kernel
theorem dX5_would_61 : decode cX5_would 61 = .ok (.iconst 1, 1) := by decide +kernel
theorem dX5_would_62 : decode cX5_would 62 = .ok (.if_icmp .ne 10, 3) := by decide +kernel
theorem dX5_would_65 : decode cX5_would 65 = .ok (.aload_n 0, 1) := by decide +kernel
theorem dX5_would_66 : decode cX5_would 66 = .ok (.getfield 121, 3) := by decide +kernel
theorem dX5_would_69 : decode cX5_would 69 = .ok (.goto 17, 3) := by decide +kernel
theorem dX5_would_72 : decode cX5_would 72 = .ok (.iload_n 3, 1) := by decide +kernel
theorem dX5_would_73 : decode cX5_would 73 = .ok (.iconst 2, 1) := by decide +kernel
theorem dX5_would_74 : decode cX5_would 74 = .ok (.if_icmp .ne 10, 3) := by decide +kernel
theorem dX5_would_77 : decode cX5_would 77 = .ok (.aload_n 0, 1) := by decide +kernel
theorem dX5_would_78 : decode cX5_would 78 = .ok (.getfield 118, 3) := by decide +kernel
theorem dX5_would_81 : decode cX5_would 81 = .ok (.goto 5, 3) := by decide +kernel
theorem dX5_would_84 : decode cX5_would 84 = .ok (.iload 5, 2) := by decide +kernel
theorem dX5_would_86 : decode cX5_would 86 = .ok (.istore 6, 2) := by decide +kernel
theorem dX5_would_88 : decode cX5_would 88 = .ok (.aload_n 0, 1) := by decide +kernel
theorem dX5_would_89 : decode cX5_would 89 = .ok (.getfield 16, 3) := by decide +kernel
theorem dX5_would_92 : decode cX5_would 92 = .ok (.aload_n 0, 1) := by decide +kernel
theorem dX5_would_93 : decode cX5_would 93 = .ok (.getfield 7, 3) := by decide +kernel
theorem dX5_would_96 : decode cX5_would 96 = .ok (.invokestatic 93, 3) := by decide +kernel
theorem dX5_would_99 : decode cX5_would 99 = .ok (.iload 6, 2) := by decide +kernel
theorem dX5_would_101 : decode cX5_would 101 = .ok (.ireturn, 1) := by decide +kernel
set_option maxRecDepth 20000 in
theorem ggX5_nearest_X5_in : GoodIn wsX5_nearest wsX5_in := goodIn_r _ [7] (by decide +kernel) (by decide +kernel)
set_option maxRecDepth 20000 in
theorem gX5_nearest_X5_in : GoodIn wsX5_nearest (va_wsS RX5 61 yX5_in wsX5_in) := goodIn_app (goodIn_of _ (by decide +kernel)) ggX5_nearest_X5_in
set_option maxRecDepth 20000 in
theorem ggX5_nearest_X5_isRow : GoodIn wsX5_nearest wsX5_isRow := goodIn_r _ [11, 2, 51, 52, 53, 54, 55, 56, 57, 58, 59, 60, 61, 62, 63] (by decide +kernel) (by decide +kernel)
set_option maxRecDepth 20000 in
theorem gX5_nearest_X5_isRow : GoodIn wsX5_nearest (wsV RX5 105 RX5 yX5_isRow wsX5_isRow) := goodIn_app (goodIn_of _ (by decide +kernel)) ggX5_nearest_X5_isRow
set_option maxRecDepth 20000 in
theorem ggX5_nearest_X5_wrongBy : GoodIn wsX5_nearest wsX5_wrongBy := goodIn_r _ [15, 2, 16, 17, 18, 6, 19, 20, 21, 22, 23, 24, 25, 26, 27, 28, 29, 30, 31, 32, 33, 34, 35, 36, 37, 38, 39, 40, 41, 42, 43, 44, 45, 46, 47, 48, 49, 50, 51, 52, 53, 54, 55, 56, 57, 58, 59, 60, 61, 62, 63] (by decide +kernel) (by decide +kernel)
set_option maxRecDepth 20000 in
theorem gX5_nearest_X5_wrongBy : GoodIn wsX5_nearest (wsV RX5 144 RX5 yX5_wrongBy wsX5_wrongBy) := goodIn_app (goodIn_of _ (by decide +kernel)) ggX5_nearest_X5_wrongBy
theorem dX5_nearest_0 : decode cX5_nearest 0 = .ok (.iload_n 1, 1) := by decide +kernel
theorem dX5_nearest_1 : decode cX5_nearest 1 = .ok (.iconst 0, 1) := by decide +kernel
theorem dX5_nearest_2 : decode cX5_nearest 2 = .ok (.iconst 1, 1) := by decide +kernel
theorem dX5_nearest_3 : decode cX5_nearest 3 = .ok (.invokestatic 61, 3) := by decide +kernel
theorem dX5_nearest_6 : decode cX5_nearest 6 = .ok (.ifCond .ne 6, 3) := by decide +kernel
theorem dX5_nearest_9 : decode cX5_nearest 9 = .ok (.ldc 92, 2) := by decide +kernel
theorem dX5_nearest_11 : decode cX5_nearest 11 = .ok (.ireturn, 1) := by decide +kernel
theorem dX5_nearest_12 : decode cX5_nearest 12 = .ok (.iconst 0, 1) := by decide +kernel
theorem dX5_nearest_13 : decode cX5_nearest 13 = .ok (.istore_n 2, 1) := by decide +kernel
theorem dX5_nearest_14 : decode cX5_nearest 14 = .ok (.iload_n 2, 1) := by decide +kernel
theorem dX5_nearest_15 : decode cX5_nearest 15 = .ok (.aload_n 0, 1) := by decide +kernel
theorem dX5_nearest_16 : decode cX5_nearest 16 = .ok (.getfield 7, 3) := by decide +kernel
theorem dX5_nearest_19 : decode cX5_nearest 19 = .ok (.iconst 0, 1) := by decide +kernel
theorem dX5_nearest_20 : decode cX5_nearest 20 = .ok (.iaload, 1) := by decide +kernel
theorem dX5_nearest_21 : decode cX5_nearest 21 = .ok (.if_icmp .ge 104, 3) := by decide +kernel
theorem dX5_nearest_24 : decode cX5_nearest 24 = .ok (.aload_n 0, 1) := by decide +kernel
theorem dX5_nearest_25 : decode cX5_nearest 25 = .ok (.aload_n 0, 1) := by decide +kernel
theorem dX5_nearest_26 : decode cX5_nearest 26 = .ok (.getfield 7, 3) := by decide +kernel
theorem dX5_nearest_29 : decode cX5_nearest 29 = .ok (.iconst 1, 1) := by decide +kernel
theorem dX5_nearest_30 : decode cX5_nearest 30 = .ok (.iaload, 1) := by decide +kernel
theorem dX5_nearest_31 : decode cX5_nearest 31 = .ok (.iload_n 2, 1) := by decide +kernel
theorem dX5_nearest_32 : decode cX5_nearest 32 = .ok (.iadd, 1) := by decide +kernel
theorem dX5_nearest_33 : decode cX5_nearest 33 = .ok (.invokevirtual 105, 3) := by decide +kernel
theorem dX5_nearest_36 : decode cX5_nearest 36 = .ok (.ifCond .eq 22, 3) := by decide +kernel
theorem dX5_nearest_39 : decode cX5_nearest 39 = .ok (.aload_n 0, 1) := by decide +kernel
theorem dX5_nearest_40 : decode cX5_nearest 40 = .ok (.aload_n 0, 1) := by decide +kernel
theorem dX5_nearest_41 : decode cX5_nearest 41 = .ok (.getfield 7, 3) := by decide +kernel
theorem dX5_nearest_44 : decode cX5_nearest 44 = .ok (.iconst 1, 1) := by decide +kernel
theorem dX5_nearest_45 : decode cX5_nearest 45 = .ok (.iaload, 1) := by decide +kernel
theorem dX5_nearest_46 : decode cX5_nearest 46 = .ok (.iload_n 2, 1) := by decide +kernel
theorem dX5_nearest_47 : decode cX5_nearest 47 = .ok (.iadd, 1) := by decide +kernel
theorem dX5_nearest_48 : decode cX5_nearest 48 = .ok (.invokevirtual 144, 3) := by decide +kernel
theorem dX5_nearest_51 : decode cX5_nearest 51 = .ok (.ifCond .ne 7, 3) := by decide +kernel
theorem dX5_nearest_54 : decode cX5_nearest 54 = .ok (.iconst 1, 1) := by decide +kernel
theorem dX5_nearest_55 : decode cX5_nearest 55 = .ok (.goto 38, 3) := by decide +kernel
theorem dX5_nearest_58 : decode cX5_nearest 58 = .ok (.aload_n 0, 1) := by decide +kernel
theorem dX5_nearest_59 : decode cX5_nearest 59 = .ok (.aload_n 0, 1) := by decide +kernel
theorem dX5_nearest_60 : decode cX5_nearest 60 = .ok (.getfield 7, 3) := by decide +kernel
theorem dX5_nearest_63 : decode cX5_nearest 63 = .ok (.iconst 1, 1) := by decide +kernel
theorem dX5_nearest_64 : decode cX5_nearest 64 = .ok (.iaload, 1) := by decide +kernel
theorem dX5_nearest_65 : decode cX5_nearest 65 = .ok (.iload_n 2, 1) := by decide +kernel
theorem dX5_nearest_66 : decode cX5_nearest 66 = .ok (.isub, 1) := by decide +kernel
theorem dX5_nearest_67 : decode cX5_nearest 67 = .ok (.invokevirtual 105, 3) := by decide +kernel
theorem dX5_nearest_70 : decode cX5_nearest 70 = .ok (.ifCond .eq 22, 3) := by decide +kernel
theorem dX5_nearest_73 : decode cX5_nearest 73 = .ok (.aload_n 0, 1) := by decide +kernel
theorem dX5_nearest_74 : decode cX5_nearest 74 = .ok (.aload_n 0, 1) := by decide +kernel
theorem dX5_nearest_75 : decode cX5_nearest 75 = .ok (.getfield 7, 3) := by decide +kernel
theorem dX5_nearest_78 : decode cX5_nearest 78 = .ok (.iconst 1, 1) := by decide +kernel
theorem dX5_nearest_79 : decode cX5_nearest 79 = .ok (.iaload, 1) := by decide +kernel
theorem dX5_nearest_80 : decode cX5_nearest 80 = .ok (.iload_n 2, 1) := by decide +kernel
theorem dX5_nearest_81 : decode cX5_nearest 81 = .ok (.isub, 1) := by decide +kernel
theorem dX5_nearest_82 : decode cX5_nearest 82 = .ok (.invokevirtual 144, 3) := by decide +kernel
theorem dX5_nearest_85 : decode cX5_nearest 85 = .ok (.ifCond .ne 7, 3) := by decide +kernel
theorem dX5_nearest_88 : decode cX5_nearest 88 = .ok (.iconst (-1), 1) := by decide +kernel
theorem dX5_nearest_89 : decode cX5_nearest 89 = .ok (.goto 4, 3) := by decide +kernel
theorem dX5_nearest_92 : decode cX5_nearest 92 = .ok (.iconst 0, 1) := by decide +kernel
theorem dX5_nearest_93 : decode cX5_nearest 93 = .ok (.istore_n 3, 1) := by decide +kernel
theorem dX5_nearest_94 : decode cX5_nearest 94 = .ok (.iload_n 3, 1) := by decide +kernel
theorem dX5_nearest_95 : decode cX5_nearest 95 = .ok (.ifCond .eq 24, 3) := by decide +kernel
theorem dX5_nearest_98 : decode cX5_nearest 98 = .ok (.iload_n 1, 1) := by decide +kernel
theorem dX5_nearest_99 : decode cX5_nearest 99 = .ok (.ifCond .ne 16, 3) := by decide +kernel
theorem dX5_nearest_102 : decode cX5_nearest 102 = .ok (.aload_n 0, 1) := by decide +kernel
theorem dX5_nearest_103 : decode cX5_nearest 103 = .ok (.getfield 7, 3) := by decide +kernel
theorem dX5_nearest_106 : decode cX5_nearest 106 = .ok (.iconst 1, 1) := by decide +kernel
theorem dX5_nearest_107 : decode cX5_nearest 107 = .ok (.iaload, 1) := by decide +kernel
theorem dX5_nearest_108 : decode cX5_nearest 108 = .ok (.iload_n 3, 1) := by decide +kernel
theorem dX5_nearest_109 : decode cX5_nearest 109 = .ok (.iload_n 2, 1) := by decide +kernel
theorem dX5_nearest_110 : decode cX5_nearest 110 = .ok (.imul, 1) := by decide +kernel
theorem dX5_nearest_111 : decode cX5_nearest 111 = .ok (.iadd, 1) := by decide +kernel
theorem dX5_nearest_112 : decode cX5_nearest 112 = .ok (.goto 6, 3) := by decide +kernel
theorem dX5_nearest_115 : decode cX5_nearest 115 = .ok (.iload_n 3, 1) := by decide +kernel
theorem dX5_nearest_116 : decode cX5_nearest 116 = .ok (.iload_n 2, 1) := by decide +kernel
theorem dX5_nearest_117 : decode cX5_nearest 117 = .ok (.imul, 1) := by decide +kernel
theorem dX5_nearest_118 : decode cX5_nearest 118 = .ok (.ireturn, 1) := by decide +kernel
theorem dX5_nearest_119 : decode cX5_nearest 119 = .ok (.iinc 2 1, 3) := by decide +kernel
theorem dX5_nearest_122 : decode cX5_nearest 122 = .ok (.goto (-108), 3) := by decide +kernel
theorem dX5_nearest_125 : decode cX5_nearest 125 = .ok (.ldc 100, 2) := by decide +kernel
theorem dX5_nearest_127 : decode cX5_nearest 127 = .ok (.ireturn, 1) := by decide +kernel
set_option maxRecDepth 20000 in
theorem ggX5_alike_X5_isRow : GoodIn wsX5_alike wsX5_isRow := goodIn_r _ [6, 7, 12, 13, 14, 15, 16, 17, 18, 19, 20, 21, 22, 23, 24] (by decide +kernel) (by decide +kernel)
set_option maxRecDepth 20000 in
theorem gX5_alike_X5_isRow : GoodIn wsX5_alike (wsV RX5 105 RX5 yX5_isRow wsX5_isRow) := goodIn_app (goodIn_of _ (by decide +kernel)) ggX5_alike_X5_isRow
set_option maxRecDepth 20000 in
theorem ggX5_alike_X5_of : GoodIn wsX5_alike wsX5_of := goodIn_r _ [11, 7, 12, 13, 14, 15, 16, 17, 18, 19, 20, 21, 22, 23, 24] (by decide +kernel) (by decide +kernel)
set_option maxRecDepth 20000 in
theorem gX5_alike_X5_of : GoodIn wsX5_alike (wsV RX5 26 RX5 yX5_of wsX5_of) := goodIn_app (goodIn_of _ (by decide +kernel)) ggX5_alike_X5_of
theorem dX5_alike_0 : decode cX5_alike 0 = .ok (.aload_n 0, 1) := by decide +kernel
theorem dX5_alike_1 : decode cX5_alike 1 = .ok (.iload_n 1, 1) := by decide +kernel
theorem dX5_alike_2 : decode cX5_alike 2 = .ok (.invokevirtual 105, 3) := by decide +kernel
theorem dX5_alike_5 : decode cX5_alike 5 = .ok (.ifCond .eq 11, 3) := by decide +kernel
theorem dX5_alike_8 : decode cX5_alike 8 = .ok (.aload_n 0, 1) := by decide +kernel
theorem dX5_alike_9 : decode cX5_alike 9 = .ok (.iload_n 2, 1) := by decide +kernel
theorem dX5_alike_10 : decode cX5_alike 10 = .ok (.invokevirtual 105, 3) := by decide +kernel
theorem dX5_alike_13 : decode cX5_alike 13 = .ok (.ifCond .ne 6, 3) := by decide +kernel
theorem dX5_alike_16 : decode cX5_alike 16 = .ok (.ldc 92, 2) := by decide +kernel
theorem dX5_alike_18 : decode cX5_alike 18 = .ok (.ireturn, 1) := by decide +kernel
theorem dX5_alike_19 : decode cX5_alike 19 = .ok (.iconst 0, 1) := by decide +kernel
theorem dX5_alike_20 : decode cX5_alike 20 = .ok (.istore_n 3, 1) := by decide +kernel
theorem dX5_alike_21 : decode cX5_alike 21 = .ok (.iload_n 3, 1) := by decide +kernel
theorem dX5_alike_22 : decode cX5_alike 22 = .ok (.aload_n 0, 1) := by decide +kernel
theorem dX5_alike_23 : decode cX5_alike 23 = .ok (.iload_n 1, 1) := by decide +kernel
theorem dX5_alike_24 : decode cX5_alike 24 = .ok (.iconst 0, 1) := by decide +kernel
theorem dX5_alike_25 : decode cX5_alike 25 = .ok (.invokevirtual 26, 3) := by decide +kernel
theorem dX5_alike_28 : decode cX5_alike 28 = .ok (.if_icmp .ge 38, 3) := by decide +kernel
theorem dX5_alike_31 : decode cX5_alike 31 = .ok (.iload_n 3, 1) := by decide +kernel
theorem dX5_alike_32 : decode cX5_alike 32 = .ok (.aload_n 0, 1) := by decide +kernel
theorem dX5_alike_33 : decode cX5_alike 33 = .ok (.iload_n 2, 1) := by decide +kernel
theorem dX5_alike_34 : decode cX5_alike 34 = .ok (.iconst 0, 1) := by decide +kernel
theorem dX5_alike_35 : decode cX5_alike 35 = .ok (.invokevirtual 26, 3) := by decide +kernel
theorem dX5_alike_38 : decode cX5_alike 38 = .ok (.if_icmp .ge 28, 3) := by decide +kernel
theorem dX5_alike_41 : decode cX5_alike 41 = .ok (.aload_n 0, 1) := by decide +kernel
theorem dX5_alike_42 : decode cX5_alike 42 = .ok (.iload_n 1, 1) := by decide +kernel
theorem dX5_alike_43 : decode cX5_alike 43 = .ok (.iconst 3, 1) := by decide +kernel
theorem dX5_alike_44 : decode cX5_alike 44 = .ok (.iload_n 3, 1) := by decide +kernel
theorem dX5_alike_45 : decode cX5_alike 45 = .ok (.iadd, 1) := by decide +kernel
theorem dX5_alike_46 : decode cX5_alike 46 = .ok (.invokevirtual 26, 3) := by decide +kernel
theorem dX5_alike_49 : decode cX5_alike 49 = .ok (.aload_n 0, 1) := by decide +kernel
theorem dX5_alike_50 : decode cX5_alike 50 = .ok (.iload_n 2, 1) := by decide +kernel
theorem dX5_alike_51 : decode cX5_alike 51 = .ok (.iconst 3, 1) := by decide +kernel
theorem dX5_alike_52 : decode cX5_alike 52 = .ok (.iload_n 3, 1) := by decide +kernel
theorem dX5_alike_53 : decode cX5_alike 53 = .ok (.iadd, 1) := by decide +kernel
theorem dX5_alike_54 : decode cX5_alike 54 = .ok (.invokevirtual 26, 3) := by decide +kernel
theorem dX5_alike_57 : decode cX5_alike 57 = .ok (.if_icmp .ne 9, 3) := by decide +kernel
theorem dX5_alike_60 : decode cX5_alike 60 = .ok (.iinc 3 1, 3) := by decide +kernel
theorem dX5_alike_63 : decode cX5_alike 63 = .ok (.goto (-42), 3) := by decide +kernel
theorem dX5_alike_66 : decode cX5_alike 66 = .ok (.iload_n 3, 1) := by decide +kernel
theorem dX5_alike_67 : decode cX5_alike 67 = .ok (.ireturn, 1) := by decide +kernel
set_option maxRecDepth 20000 in
theorem ggX5_read_X5_in : GoodIn wsX5_read wsX5_in := goodIn_r _ [7] (by decide +kernel) (by decide +kernel)
set_option maxRecDepth 20000 in
theorem gX5_read_X5_in : GoodIn wsX5_read (va_wsS RX5 61 yX5_in wsX5_in) := goodIn_app (goodIn_of _ (by decide +kernel)) ggX5_read_X5_in
set_option maxRecDepth 20000 in
theorem ggX5_read_X5_of : GoodIn wsX5_read wsX5_of := goodIn_r _ [11, 2, 27, 28, 29, 30, 31, 32, 33, 34, 35, 36, 37, 38, 39] (by decide +kernel) (by decide +kernel)
set_option maxRecDepth 20000 in
theorem gX5_read_X5_of : GoodIn wsX5_read (wsV RX5 26 RX5 yX5_of wsX5_of) := goodIn_app (goodIn_of _ (by decide +kernel)) ggX5_read_X5_of
set_option maxRecDepth 20000 in
theorem ggX5_read_X5_isTorn : GoodIn wsX5_read wsX5_isTorn := goodIn_r _ [15, 8, 9, 10, 6, 11, 2, 27, 28, 29, 30, 31, 32, 33, 34, 35, 36, 37, 38, 39] (by decide +kernel) (by decide +kernel)
set_option maxRecDepth 20000 in
theorem gX5_read_X5_isTorn : GoodIn wsX5_read (wsV RX5 115 RX5 yX5_isTorn wsX5_isTorn) := goodIn_app (goodIn_of _ (by decide +kernel)) ggX5_read_X5_isTorn
set_option maxRecDepth 20000 in
theorem ggX5_read_X5_wide : GoodIn wsX5_read wsX5_wide := goodIn_r _ [18] (by decide +kernel) (by decide +kernel)
set_option maxRecDepth 20000 in
theorem gX5_read_X5_wide : GoodIn wsX5_read (va_wsS RX5 30 yX5_wide wsX5_wide) := goodIn_app (goodIn_of _ (by decide +kernel)) ggX5_read_X5_wide
set_option maxRecDepth 20000 in
theorem ggX5_read_X5_width : GoodIn wsX5_read wsX5_width := goodIn_r _ [22, 8, 9, 10, 6, 11, 2, 16, 17, 18, 27, 28, 29, 30, 31, 32, 33, 34, 35, 36, 37, 38, 39] (by decide +kernel) (by decide +kernel)
set_option maxRecDepth 20000 in
theorem gX5_read_X5_width : GoodIn wsX5_read (wsV RX5 141 RX5 yX5_width wsX5_width) := goodIn_app (goodIn_of _ (by decide +kernel)) ggX5_read_X5_width
set_option maxRecDepth 20000 in
theorem ggX5_read_X5_squeezed : GoodIn wsX5_read wsX5_squeezed := goodIn_r _ [26, 2, 27, 28, 29, 30, 31, 32, 33, 34, 35, 36, 37, 38, 39] (by decide +kernel) (by decide +kernel)
set_option maxRecDepth 20000 in
theorem gX5_read_X5_squeezed : GoodIn wsX5_read (wsV RX5 79 RX5 yX5_squeezed wsX5_squeezed) := goodIn_app (goodIn_of _ (by decide +kernel)) ggX5_read_X5_squeezed
theorem dX5_read_0 : decode cX5_read 0 = .ok (.iload_n 1, 1) := by decide +kernel
theorem dX5_read_1 : decode cX5_read 1 = .ok (.iconst 1, 1) := by decide +kernel
theorem dX5_read_2 : decode cX5_read 2 = .ok (.sipush 999, 3) := by decide +kernel
theorem dX5_read_5 : decode cX5_read 5 = .ok (.invokestatic 61, 3) := by decide +kernel
theorem dX5_read_8 : decode cX5_read 8 = .ok (.ifCond .ne 6, 3) := by decide +kernel
theorem dX5_read_11 : decode cX5_read 11 = .ok (.ldc 92, 2) := by decide +kernel
theorem dX5_read_13 : decode cX5_read 13 = .ok (.ireturn, 1) := by decide +kernel
theorem dX5_read_14 : decode cX5_read 14 = .ok (.aload_n 0, 1) := by decide +kernel
theorem dX5_read_15 : decode cX5_read 15 = .ok (.getfield 7, 3) := by decide +kernel
theorem dX5_read_18 : decode cX5_read 18 = .ok (.iconst 0, 1) := by decide +kernel
theorem dX5_read_19 : decode cX5_read 19 = .ok (.iaload, 1) := by decide +kernel
theorem dX5_read_20 : decode cX5_read 20 = .ok (.ifCond .ne 6, 3) := by decide +kernel
theorem dX5_read_23 : decode cX5_read 23 = .ok (.ldc 100, 2) := by decide +kernel
theorem dX5_read_25 : decode cX5_read 25 = .ok (.ireturn, 1) := by decide +kernel
theorem dX5_read_26 : decode cX5_read 26 = .ok (.aload_n 0, 1) := by decide +kernel
theorem dX5_read_27 : decode cX5_read 27 = .ok (.getfield 7, 3) := by decide +kernel
theorem dX5_read_30 : decode cX5_read 30 = .ok (.iconst 1, 1) := by decide +kernel
theorem dX5_read_31 : decode cX5_read 31 = .ok (.iaload, 1) := by decide +kernel
theorem dX5_read_32 : decode cX5_read 32 = .ok (.istore_n 2, 1) := by decide +kernel
theorem dX5_read_33 : decode cX5_read 33 = .ok (.iconst 0, 1) := by decide +kernel
theorem dX5_read_34 : decode cX5_read 34 = .ok (.istore_n 3, 1) := by decide +kernel
theorem dX5_read_35 : decode cX5_read 35 = .ok (.iconst 0, 1) := by decide +kernel
theorem dX5_read_36 : decode cX5_read 36 = .ok (.istore 4, 2) := by decide +kernel
theorem dX5_read_38 : decode cX5_read 38 = .ok (.iload 4, 2) := by decide +kernel
theorem dX5_read_40 : decode cX5_read 40 = .ok (.aload_n 0, 1) := by decide +kernel
theorem dX5_read_41 : decode cX5_read 41 = .ok (.iload_n 2, 1) := by decide +kernel
theorem dX5_read_42 : decode cX5_read 42 = .ok (.iconst 0, 1) := by decide +kernel
theorem dX5_read_43 : decode cX5_read 43 = .ok (.invokevirtual 26, 3) := by decide +kernel
theorem dX5_read_46 : decode cX5_read 46 = .ok (.if_icmp .ge 85, 3) := by decide +kernel
theorem dX5_read_49 : decode cX5_read 49 = .ok (.aload_n 0, 1) := by decide +kernel
theorem dX5_read_50 : decode cX5_read 50 = .ok (.iload_n 2, 1) := by decide +kernel
theorem dX5_read_51 : decode cX5_read 51 = .ok (.invokevirtual 115, 3) := by decide +kernel
theorem dX5_read_54 : decode cX5_read 54 = .ok (.ifCond .ne 77, 3) := by decide +kernel
theorem dX5_read_57 : decode cX5_read 57 = .ok (.aload_n 0, 1) := by decide +kernel
theorem dX5_read_58 : decode cX5_read 58 = .ok (.iload_n 2, 1) := by decide +kernel
theorem dX5_read_59 : decode cX5_read 59 = .ok (.iconst 3, 1) := by decide +kernel
theorem dX5_read_60 : decode cX5_read 60 = .ok (.iload 4, 2) := by decide +kernel
theorem dX5_read_62 : decode cX5_read 62 = .ok (.iadd, 1) := by decide +kernel
theorem dX5_read_63 : decode cX5_read 63 = .ok (.invokevirtual 26, 3) := by decide +kernel
theorem dX5_read_66 : decode cX5_read 66 = .ok (.istore 5, 2) := by decide +kernel
theorem dX5_read_68 : decode cX5_read 68 = .ok (.iload 5, 2) := by decide +kernel
theorem dX5_read_70 : decode cX5_read 70 = .ok (.bipush 32, 2) := by decide +kernel
theorem dX5_read_72 : decode cX5_read 72 = .ok (.if_icmp .eq 33, 3) := by decide +kernel
theorem dX5_read_75 : decode cX5_read 75 = .ok (.iload 5, 2) := by decide +kernel
theorem dX5_read_77 : decode cX5_read 77 = .ok (.invokestatic 30, 3) := by decide +kernel
theorem dX5_read_80 : decode cX5_read 80 = .ok (.aload_n 0, 1) := by decide +kernel
theorem dX5_read_81 : decode cX5_read 81 = .ok (.getfield 7, 3) := by decide +kernel
theorem dX5_read_84 : decode cX5_read 84 = .ok (.bipush 10, 2) := by decide +kernel
theorem dX5_read_86 : decode cX5_read 86 = .ok (.iaload, 1) := by decide +kernel
theorem dX5_read_87 : decode cX5_read 87 = .ok (.imul, 1) := by decide +kernel
theorem dX5_read_88 : decode cX5_read 88 = .ok (.bipush 100, 2) := by decide +kernel
theorem dX5_read_90 : decode cX5_read 90 = .ok (.imul, 1) := by decide +kernel
theorem dX5_read_91 : decode cX5_read 91 = .ok (.aload_n 0, 1) := by decide +kernel
theorem dX5_read_92 : decode cX5_read 92 = .ok (.aload_n 0, 1) := by decide +kernel
theorem dX5_read_93 : decode cX5_read 93 = .ok (.iload_n 2, 1) := by decide +kernel
theorem dX5_read_94 : decode cX5_read 94 = .ok (.invokevirtual 141, 3) := by decide +kernel
theorem dX5_read_97 : decode cX5_read 97 = .ok (.invokevirtual 79, 3) := by decide +kernel
theorem dX5_read_100 : decode cX5_read 100 = .ok (.idiv, 1) := by decide +kernel
theorem dX5_read_101 : decode cX5_read 101 = .ok (.iload_n 1, 1) := by decide +kernel
theorem dX5_read_102 : decode cX5_read 102 = .ok (.if_icmp .lt 7, 3) := by decide +kernel
theorem dX5_read_105 : decode cX5_read 105 = .ok (.iconst 1, 1) := by decide +kernel
theorem dX5_read_106 : decode cX5_read 106 = .ok (.goto 4, 3) := by decide +kernel
theorem dX5_read_109 : decode cX5_read 109 = .ok (.iconst 0, 1) := by decide +kernel
theorem dX5_read_110 : decode cX5_read 110 = .ok (.istore 6, 2) := by decide +kernel
theorem dX5_read_112 : decode cX5_read 112 = .ok (.iload_n 3, 1) := by decide +kernel
theorem dX5_read_113 : decode cX5_read 113 = .ok (.iload 6, 2) := by decide +kernel
theorem dX5_read_115 : decode cX5_read 115 = .ok (.ifCond .eq 7, 3) := by decide +kernel
theorem dX5_read_118 : decode cX5_read 118 = .ok (.iconst 1, 1) := by decide +kernel
theorem dX5_read_119 : decode cX5_read 119 = .ok (.goto 4, 3) := by decide +kernel
theorem dX5_read_122 : decode cX5_read 122 = .ok (.iconst 0, 1) := by decide +kernel
theorem dX5_read_123 : decode cX5_read 123 = .ok (.iadd, 1) := by decide +kernel
theorem dX5_read_124 : decode cX5_read 124 = .ok (.istore_n 3, 1) := by decide +kernel
theorem dX5_read_125 : decode cX5_read 125 = .ok (.iinc 4 1, 3) := by decide +kernel
theorem dX5_read_128 : decode cX5_read 128 = .ok (.goto (-90), 3) := by decide +kernel
theorem dX5_read_131 : decode cX5_read 131 = .ok (.iload_n 3, 1) := by decide +kernel
theorem dX5_read_132 : decode cX5_read 132 = .ok (.ireturn, 1) := by decide +kernel
set_option maxRecDepth 20000 in
theorem ggX5_find_X5_of : GoodIn wsX5_find wsX5_of := goodIn_r _ [9, 1, 10, 11, 12, 13, 14, 15, 16, 17, 18, 19, 20, 21, 22] (by decide +kernel) (by decide +kernel)
set_option maxRecDepth 20000 in
theorem gX5_find_X5_of : GoodIn wsX5_find (wsV RX5 26 RX5 yX5_of wsX5_of) := goodIn_app (goodIn_of _ (by decide +kernel)) ggX5_find_X5_of
theorem dX5_find_0 : decode cX5_find 0 = .ok (.iconst 0, 1) := by decide +kernel
theorem dX5_find_1 : decode cX5_find 1 = .ok (.istore_n 1, 1) := by decide +kernel
theorem dX5_find_2 : decode cX5_find 2 = .ok (.iload_n 1, 1) := by decide +kernel
theorem dX5_find_3 : decode cX5_find 3 = .ok (.aload_n 0, 1) := by decide +kernel
theorem dX5_find_4 : decode cX5_find 4 = .ok (.getfield 7, 3) := by decide +kernel
theorem dX5_find_7 : decode cX5_find 7 = .ok (.iconst 0, 1) := by decide +kernel
theorem dX5_find_8 : decode cX5_find 8 = .ok (.iaload, 1) := by decide +kernel
theorem dX5_find_9 : decode cX5_find 9 = .ok (.if_icmp .ge 77, 3) := by decide +kernel
theorem dX5_find_12 : decode cX5_find 12 = .ok (.aload_n 0, 1) := by decide +kernel
theorem dX5_find_13 : decode cX5_find 13 = .ok (.iload_n 1, 1) := by decide +kernel
theorem dX5_find_14 : decode cX5_find 14 = .ok (.iconst 0, 1) := by decide +kernel
theorem dX5_find_15 : decode cX5_find 15 = .ok (.invokevirtual 26, 3) := by decide +kernel
theorem dX5_find_18 : decode cX5_find 18 = .ok (.aload_n 0, 1) := by decide +kernel
theorem dX5_find_19 : decode cX5_find 19 = .ok (.getfield 55, 3) := by decide +kernel
theorem dX5_find_22 : decode cX5_find 22 = .ok (.if_icmp .ne 7, 3) := by decide +kernel
theorem dX5_find_25 : decode cX5_find 25 = .ok (.iconst 1, 1) := by decide +kernel
theorem dX5_find_26 : decode cX5_find 26 = .ok (.goto 4, 3) := by decide +kernel
theorem dX5_find_29 : decode cX5_find 29 = .ok (.iconst 0, 1) := by decide +kernel
theorem dX5_find_30 : decode cX5_find 30 = .ok (.istore_n 2, 1) := by decide +kernel
theorem dX5_find_31 : decode cX5_find 31 = .ok (.iconst 0, 1) := by decide +kernel
theorem dX5_find_32 : decode cX5_find 32 = .ok (.istore_n 3, 1) := by decide +kernel
theorem dX5_find_33 : decode cX5_find 33 = .ok (.iload_n 3, 1) := by decide +kernel
theorem dX5_find_34 : decode cX5_find 34 = .ok (.aload_n 0, 1) := by decide +kernel
theorem dX5_find_35 : decode cX5_find 35 = .ok (.getfield 55, 3) := by decide +kernel
theorem dX5_find_38 : decode cX5_find 38 = .ok (.if_icmp .ge 36, 3) := by decide +kernel
theorem dX5_find_41 : decode cX5_find 41 = .ok (.iload_n 2, 1) := by decide +kernel
theorem dX5_find_42 : decode cX5_find 42 = .ok (.ifCond .eq 32, 3) := by decide +kernel
theorem dX5_find_45 : decode cX5_find 45 = .ok (.aload_n 0, 1) := by decide +kernel
theorem dX5_find_46 : decode cX5_find 46 = .ok (.iload_n 1, 1) := by decide +kernel
theorem dX5_find_47 : decode cX5_find 47 = .ok (.iconst 3, 1) := by decide +kernel
theorem dX5_find_48 : decode cX5_find 48 = .ok (.iload_n 3, 1) := by decide +kernel
theorem dX5_find_49 : decode cX5_find 49 = .ok (.iadd, 1) := by decide +kernel
theorem dX5_find_50 : decode cX5_find 50 = .ok (.invokevirtual 26, 3) := by decide +kernel
theorem dX5_find_53 : decode cX5_find 53 = .ok (.aload_n 0, 1) := by decide +kernel
theorem dX5_find_54 : decode cX5_find 54 = .ok (.getfield 19, 3) := by decide +kernel
theorem dX5_find_57 : decode cX5_find 57 = .ok (.iload_n 3, 1) := by decide +kernel
theorem dX5_find_58 : decode cX5_find 58 = .ok (.iaload, 1) := by decide +kernel
theorem dX5_find_59 : decode cX5_find 59 = .ok (.if_icmp .ne 7, 3) := by decide +kernel
theorem dX5_find_62 : decode cX5_find 62 = .ok (.iconst 1, 1) := by decide +kernel
theorem dX5_find_63 : decode cX5_find 63 = .ok (.goto 4, 3) := by decide +kernel
theorem dX5_find_66 : decode cX5_find 66 = .ok (.iconst 0, 1) := by decide +kernel
theorem dX5_find_67 : decode cX5_find 67 = .ok (.istore_n 2, 1) := by decide +kernel
theorem dX5_find_68 : decode cX5_find 68 = .ok (.iinc 3 1, 3) := by decide +kernel
theorem dX5_find_71 : decode cX5_find 71 = .ok (.goto (-38), 3) := by decide +kernel
theorem dX5_find_74 : decode cX5_find 74 = .ok (.iload_n 2, 1) := by decide +kernel
theorem dX5_find_75 : decode cX5_find 75 = .ok (.ifCond .eq 5, 3) := by decide +kernel
theorem dX5_find_78 : decode cX5_find 78 = .ok (.iload_n 1, 1) := by decide +kernel
theorem dX5_find_79 : decode cX5_find 79 = .ok (.ireturn, 1) := by decide +kernel
theorem dX5_find_80 : decode cX5_find 80 = .ok (.iinc 1 1, 3) := by decide +kernel
theorem dX5_find_83 : decode cX5_find 83 = .ok (.goto (-81), 3) := by decide +kernel
theorem dX5_find_86 : decode cX5_find 86 = .ok (.ldc 100, 2) := by decide +kernel
theorem dX5_find_88 : decode cX5_find 88 = .ok (.ireturn, 1) := by decide +kernel
set_option maxRecDepth 20000 in
theorem ggX5_mean_X5_width : GoodIn wsX5_mean wsX5_width := goodIn_r _ [7, 8, 9, 10, 6, 11, 1, 12, 13, 14, 27, 28, 29, 30, 31, 32, 33, 34, 35, 36, 37, 38, 39] (by decide +kernel) (by decide +kernel)
set_option maxRecDepth 20000 in
theorem gX5_mean_X5_width : GoodIn wsX5_mean (wsV RX5 141 RX5 yX5_width wsX5_width) := goodIn_app (goodIn_of _ (by decide +kernel)) ggX5_mean_X5_width
set_option maxRecDepth 20000 in
theorem ggX5_mean_Jxf58ca_floatToIntBits_5c35a : GoodIn wsX5_mean wsJxf58ca_floatToIntBits_5c35a := goodIn_r _ [18, 19, 20, 21, 22, 23, 24, 25, 17, 26] (by decide +kernel) (by decide +kernel)
set_option maxRecDepth 20000 in
theorem gX5_mean_Jxf58ca_floatToIntBits_5c35a : GoodIn wsX5_mean (va_wsS RX5 160 yJxf58ca_floatToIntBits_5c35a wsJxf58ca_floatToIntBits_5c35a) := goodIn_app (goodIn_of _ (by decide +kernel)) ggX5_mean_Jxf58ca_floatToIntBits_5c35a
theorem dX5_mean_0 : decode cX5_mean 0 = .ok (.iconst 0, 1) := by decide +kernel
theorem dX5_mean_1 : decode cX5_mean 1 = .ok (.istore_n 1, 1) := by decide +kernel
theorem dX5_mean_2 : decode cX5_mean 2 = .ok (.iconst 0, 1) := by decide +kernel
theorem dX5_mean_3 : decode cX5_mean 3 = .ok (.istore_n 2, 1) := by decide +kernel
theorem dX5_mean_4 : decode cX5_mean 4 = .ok (.iload_n 2, 1) := by decide +kernel
theorem dX5_mean_5 : decode cX5_mean 5 = .ok (.aload_n 0, 1) := by decide +kernel
theorem dX5_mean_6 : decode cX5_mean 6 = .ok (.getfield 7, 3) := by decide +kernel
theorem dX5_mean_9 : decode cX5_mean 9 = .ok (.iconst 0, 1) := by decide +kernel
theorem dX5_mean_10 : decode cX5_mean 10 = .ok (.iaload, 1) := by decide +kernel
theorem dX5_mean_11 : decode cX5_mean 11 = .ok (.if_icmp .ge 17, 3) := by decide +kernel
theorem dX5_mean_14 : decode cX5_mean 14 = .ok (.iload_n 1, 1) := by decide +kernel
theorem dX5_mean_15 : decode cX5_mean 15 = .ok (.aload_n 0, 1) := by decide +kernel
theorem dX5_mean_16 : decode cX5_mean 16 = .ok (.iload_n 2, 1) := by decide +kernel
theorem dX5_mean_17 : decode cX5_mean 17 = .ok (.invokevirtual 141, 3) := by decide +kernel
theorem dX5_mean_20 : decode cX5_mean 20 = .ok (.iadd, 1) := by decide +kernel
theorem dX5_mean_21 : decode cX5_mean 21 = .ok (.istore_n 1, 1) := by decide +kernel
theorem dX5_mean_22 : decode cX5_mean 22 = .ok (.iinc 2 1, 3) := by decide +kernel
theorem dX5_mean_25 : decode cX5_mean 25 = .ok (.goto (-21), 3) := by decide +kernel
theorem dX5_mean_28 : decode cX5_mean 28 = .ok (.iload_n 1, 1) := by decide +kernel
theorem dX5_mean_29 : decode cX5_mean 29 = .ok (.i2f, 1) := by decide +kernel
theorem dX5_mean_30 : decode cX5_mean 30 = .ok (.aload_n 0, 1) := by decide +kernel
theorem dX5_mean_31 : decode cX5_mean 31 = .ok (.getfield 7, 3) := by decide +kernel
theorem dX5_mean_34 : decode cX5_mean 34 = .ok (.iconst 0, 1) := by decide +kernel
theorem dX5_mean_35 : decode cX5_mean 35 = .ok (.iaload, 1) := by decide +kernel
theorem dX5_mean_36 : decode cX5_mean 36 = .ok (.ifCond .ne 7, 3) := by decide +kernel
theorem dX5_mean_39 : decode cX5_mean 39 = .ok (.iconst 1, 1) := by decide +kernel
theorem dX5_mean_40 : decode cX5_mean 40 = .ok (.goto 9, 3) := by decide +kernel
theorem dX5_mean_43 : decode cX5_mean 43 = .ok (.aload_n 0, 1) := by decide +kernel
theorem dX5_mean_44 : decode cX5_mean 44 = .ok (.getfield 7, 3) := by decide +kernel
theorem dX5_mean_47 : decode cX5_mean 47 = .ok (.iconst 0, 1) := by decide +kernel
theorem dX5_mean_48 : decode cX5_mean 48 = .ok (.iaload, 1) := by decide +kernel
theorem dX5_mean_49 : decode cX5_mean 49 = .ok (.i2f, 1) := by decide +kernel
theorem dX5_mean_50 : decode cX5_mean 50 = .ok (.fdiv, 1) := by decide +kernel
theorem dX5_mean_51 : decode cX5_mean 51 = .ok (.fstore_n 2, 1) := by decide +kernel
theorem dX5_mean_52 : decode cX5_mean 52 = .ok (.aload_n 0, 1) := by decide +kernel
theorem dX5_mean_53 : decode cX5_mean 53 = .ok (.getfield 7, 3) := by decide +kernel
theorem dX5_mean_56 : decode cX5_mean 56 = .ok (.iconst 0, 1) := by decide +kernel
theorem dX5_mean_57 : decode cX5_mean 57 = .ok (.iaload, 1) := by decide +kernel
theorem dX5_mean_58 : decode cX5_mean 58 = .ok (.ifCond .ne 8, 3) := by decide +kernel
theorem dX5_mean_61 : decode cX5_mean 61 = .ok (.ldc 100, 2) := by decide +kernel
theorem dX5_mean_63 : decode cX5_mean 63 = .ok (.goto 7, 3) := by decide +kernel
theorem dX5_mean_66 : decode cX5_mean 66 = .ok (.fload_n 2, 1) := by decide +kernel
theorem dX5_mean_67 : decode cX5_mean 67 = .ok (.invokestatic 160, 3) := by decide +kernel
theorem dX5_mean_70 : decode cX5_mean 70 = .ok (.ireturn, 1) := by decide +kernel
set_option maxRecDepth 20000 in
theorem ggX5_widest_X5_width : GoodIn wsX5_widest wsX5_width := goodIn_r _ [7, 8, 9, 10, 6, 11, 2, 12, 13, 14, 15, 16, 17, 18, 19, 20, 21, 22, 23, 24, 25, 26, 27] (by decide +kernel) (by decide +kernel)
set_option maxRecDepth 20000 in
theorem gX5_widest_X5_width : GoodIn wsX5_widest (wsV RX5 141 RX5 yX5_width wsX5_width) := goodIn_app (goodIn_of _ (by decide +kernel)) ggX5_widest_X5_width
theorem dX5_widest_0 : decode cX5_widest 0 = .ok (.ldc 100, 2) := by decide +kernel
theorem dX5_widest_2 : decode cX5_widest 2 = .ok (.istore_n 1, 1) := by decide +kernel
theorem dX5_widest_3 : decode cX5_widest 3 = .ok (.iconst 0, 1) := by decide +kernel
theorem dX5_widest_4 : decode cX5_widest 4 = .ok (.istore_n 2, 1) := by decide +kernel
theorem dX5_widest_5 : decode cX5_widest 5 = .ok (.iconst 0, 1) := by decide +kernel
theorem dX5_widest_6 : decode cX5_widest 6 = .ok (.istore_n 3, 1) := by decide +kernel
theorem dX5_widest_7 : decode cX5_widest 7 = .ok (.iload_n 3, 1) := by decide +kernel
theorem dX5_widest_8 : decode cX5_widest 8 = .ok (.aload_n 0, 1) := by decide +kernel
theorem dX5_widest_9 : decode cX5_widest 9 = .ok (.getfield 7, 3) := by decide +kernel
theorem dX5_widest_12 : decode cX5_widest 12 = .ok (.iconst 0, 1) := by decide +kernel
theorem dX5_widest_13 : decode cX5_widest 13 = .ok (.iaload, 1) := by decide +kernel
theorem dX5_widest_14 : decode cX5_widest 14 = .ok (.if_icmp .ge 43, 3) := by decide +kernel
theorem dX5_widest_17 : decode cX5_widest 17 = .ok (.aload_n 0, 1) := by decide +kernel
theorem dX5_widest_18 : decode cX5_widest 18 = .ok (.iload_n 3, 1) := by decide +kernel
theorem dX5_widest_19 : decode cX5_widest 19 = .ok (.invokevirtual 141, 3) := by decide +kernel
theorem dX5_widest_22 : decode cX5_widest 22 = .ok (.iload_n 2, 1) := by decide +kernel
theorem dX5_widest_23 : decode cX5_widest 23 = .ok (.if_icmp .le 7, 3) := by decide +kernel
theorem dX5_widest_26 : decode cX5_widest 26 = .ok (.iload_n 3, 1) := by decide +kernel
theorem dX5_widest_27 : decode cX5_widest 27 = .ok (.goto 4, 3) := by decide +kernel
theorem dX5_widest_30 : decode cX5_widest 30 = .ok (.iload_n 1, 1) := by decide +kernel
theorem dX5_widest_31 : decode cX5_widest 31 = .ok (.istore_n 1, 1) := by decide +kernel
theorem dX5_widest_32 : decode cX5_widest 32 = .ok (.aload_n 0, 1) := by decide +kernel
theorem dX5_widest_33 : decode cX5_widest 33 = .ok (.iload_n 3, 1) := by decide +kernel
theorem dX5_widest_34 : decode cX5_widest 34 = .ok (.invokevirtual 141, 3) := by decide +kernel
theorem dX5_widest_37 : decode cX5_widest 37 = .ok (.iload_n 2, 1) := by decide +kernel
theorem dX5_widest_38 : decode cX5_widest 38 = .ok (.if_icmp .le 11, 3) := by decide +kernel
theorem dX5_widest_41 : decode cX5_widest 41 = .ok (.aload_n 0, 1) := by decide +kernel
theorem dX5_widest_42 : decode cX5_widest 42 = .ok (.iload_n 3, 1) := by decide +kernel
theorem dX5_widest_43 : decode cX5_widest 43 = .ok (.invokevirtual 141, 3) := by decide +kernel
theorem dX5_widest_46 : decode cX5_widest 46 = .ok (.goto 4, 3) := by decide +kernel
theorem dX5_widest_49 : decode cX5_widest 49 = .ok (.iload_n 2, 1) := by decide +kernel
theorem dX5_widest_50 : decode cX5_widest 50 = .ok (.istore_n 2, 1) := by decide +kernel
theorem dX5_widest_51 : decode cX5_widest 51 = .ok (.iinc 3 1, 3) := by decide +kernel
theorem dX5_widest_54 : decode cX5_widest 54 = .ok (.goto (-47), 3) := by decide +kernel
theorem dX5_widest_57 : decode cX5_widest 57 = .ok (.iload_n 1, 1) := by decide +kernel
theorem dX5_widest_58 : decode cX5_widest 58 = .ok (.ireturn, 1) := by decide +kernel
theorem dX5_told_0 : decode cX5_told 0 = .ok (.iload_n 0, 1) := by decide +kernel
theorem dX5_told_1 : decode cX5_told 1 = .ok (.ifCond .ge 8, 3) := by decide +kernel
theorem dX5_told_4 : decode cX5_told 4 = .ok (.ldc 100, 2) := by decide +kernel
theorem dX5_told_6 : decode cX5_told 6 = .ok (.goto 4, 3) := by decide +kernel
theorem dX5_told_9 : decode cX5_told 9 = .ok (.iload_n 0, 1) := by decide +kernel
theorem dX5_told_10 : decode cX5_told 10 = .ok (.ireturn, 1) := by decide +kernel
set_option maxRecDepth 20000 in
theorem ggX5_count_X5_told : GoodIn wsX5_count wsX5_told := goodIn_r _ [8, 9] (by decide +kernel) (by decide +kernel)
set_option maxRecDepth 20000 in
theorem gX5_count_X5_told : GoodIn wsX5_count (va_wsS RX5 166 yX5_told wsX5_told) := goodIn_app (goodIn_of _ (by decide +kernel)) ggX5_count_X5_told
set_option maxRecDepth 20000 in
theorem ggX5_count_X5_tornOnes : GoodIn wsX5_count wsX5_tornOnes := goodIn_r _ [13, 1, 14, 15, 16, 7, 17, 60, 61, 62, 63, 64, 65, 66, 67, 68, 69, 70, 71, 72] (by decide +kernel) (by decide +kernel)
set_option maxRecDepth 20000 in
theorem gX5_count_X5_tornOnes : GoodIn wsX5_count (wsV RX5 156 RX5 yX5_tornOnes wsX5_tornOnes) := goodIn_app (goodIn_of _ (by decide +kernel)) ggX5_count_X5_tornOnes
set_option maxRecDepth 20000 in
theorem ggX5_count_X5_wrongBy : GoodIn wsX5_count wsX5_wrongBy := goodIn_r _ [21, 1, 22, 23, 24, 7, 25, 14, 15, 16, 17, 26, 27, 28, 29, 30, 31, 32, 33, 34, 35, 36, 37, 38, 39, 40, 41, 42, 43, 44, 45, 46, 47, 48, 49, 50, 51, 52, 60, 61, 62, 63, 64, 65, 66, 67, 68, 69, 70, 71, 72] (by decide +kernel) (by decide +kernel)
set_option maxRecDepth 20000 in
theorem gX5_count_X5_wrongBy : GoodIn wsX5_count (wsV RX5 144 RX5 yX5_wrongBy wsX5_wrongBy) := goodIn_app (goodIn_of _ (by decide +kernel)) ggX5_count_X5_wrongBy
set_option maxRecDepth 20000 in
theorem ggX5_count_X5_widest : GoodIn wsX5_count wsX5_widest := goodIn_r _ [56, 9, 1, 42, 43, 44, 7, 45, 14, 15, 16, 17, 46, 47, 48, 60, 61, 62, 63, 64, 65, 66, 67, 68, 69, 70, 71, 72] (by decide +kernel) (by decide +kernel)
set_option maxRecDepth 20000 in
theorem gX5_count_X5_widest : GoodIn wsX5_count (wsV RX5 169 RX5 yX5_widest wsX5_widest) := goodIn_app (goodIn_of _ (by decide +kernel)) ggX5_count_X5_widest
set_option maxRecDepth 20000 in
theorem ggX5_count_X5_in : GoodIn wsX5_count wsX5_in := goodIn_r _ [59] (by decide +kernel) (by decide +kernel)
set_option maxRecDepth 20000 in
theorem gX5_count_X5_in : GoodIn wsX5_count (va_wsS RX5 61 yX5_in wsX5_in) := goodIn_app (goodIn_of _ (by decide +kernel)) ggX5_count_X5_in
theorem dX5_count_0 : decode cX5_count 0 = .ok (.iload_n 1, 1) := by decide +kernel
theorem dX5_count_1 : decode cX5_count 1 = .ok (.tableswitch 124 0 12 #[67, 74, 67, 74, 84, 89, 89, 89, 89, 98, 109, 114, 119], 67) := by decide +kernel
theorem dX5_count_68 : decode cX5_count 68 = .ok (.aload_n 0, 1) := by decide +kernel
theorem dX5_count_69 : decode cX5_count 69 = .ok (.getfield 7, 3) := by decide +kernel
theorem dX5_count_72 : decode cX5_count 72 = .ok (.iload_n 1, 1) := by decide +kernel
theorem dX5_count_73 : decode cX5_count 73 = .ok (.iaload, 1) := by decide +kernel
theorem dX5_count_74 : decode cX5_count 74 = .ok (.ireturn, 1) := by decide +kernel
theorem dX5_count_75 : decode cX5_count 75 = .ok (.aload_n 0, 1) := by decide +kernel
theorem dX5_count_76 : decode cX5_count 76 = .ok (.getfield 7, 3) := by decide +kernel
theorem dX5_count_79 : decode cX5_count 79 = .ok (.iload_n 1, 1) := by decide +kernel
theorem dX5_count_80 : decode cX5_count 80 = .ok (.iaload, 1) := by decide +kernel
theorem dX5_count_81 : decode cX5_count 81 = .ok (.invokestatic 166, 3) := by decide +kernel
theorem dX5_count_84 : decode cX5_count 84 = .ok (.ireturn, 1) := by decide +kernel
theorem dX5_count_85 : decode cX5_count 85 = .ok (.aload_n 0, 1) := by decide +kernel
theorem dX5_count_86 : decode cX5_count 86 = .ok (.invokevirtual 156, 3) := by decide +kernel
theorem dX5_count_89 : decode cX5_count 89 = .ok (.ireturn, 1) := by decide +kernel
theorem dX5_count_90 : decode cX5_count 90 = .ok (.aload_n 0, 1) := by decide +kernel
theorem dX5_count_91 : decode cX5_count 91 = .ok (.getfield 7, 3) := by decide +kernel
theorem dX5_count_94 : decode cX5_count 94 = .ok (.iload_n 1, 1) := by decide +kernel
theorem dX5_count_95 : decode cX5_count 95 = .ok (.iconst 1, 1) := by decide +kernel
theorem dX5_count_96 : decode cX5_count 96 = .ok (.isub, 1) := by decide +kernel
theorem dX5_count_97 : decode cX5_count 97 = .ok (.iaload, 1) := by decide +kernel
theorem dX5_count_98 : decode cX5_count 98 = .ok (.ireturn, 1) := by decide +kernel
theorem dX5_count_99 : decode cX5_count 99 = .ok (.aload_n 0, 1) := by decide +kernel
theorem dX5_count_100 : decode cX5_count 100 = .ok (.aload_n 0, 1) := by decide +kernel
theorem dX5_count_101 : decode cX5_count 101 = .ok (.getfield 7, 3) := by decide +kernel
theorem dX5_count_104 : decode cX5_count 104 = .ok (.iconst 1, 1) := by decide +kernel
theorem dX5_count_105 : decode cX5_count 105 = .ok (.iaload, 1) := by decide +kernel
theorem dX5_count_106 : decode cX5_count 106 = .ok (.invokevirtual 144, 3) := by decide +kernel
theorem dX5_count_109 : decode cX5_count 109 = .ok (.ireturn, 1) := by decide +kernel
theorem dX5_count_110 : decode cX5_count 110 = .ok (.aload_n 0, 1) := by decide +kernel
theorem dX5_count_111 : decode cX5_count 111 = .ok (.invokevirtual 169, 3) := by decide +kernel
theorem dX5_count_114 : decode cX5_count 114 = .ok (.ireturn, 1) := by decide +kernel
theorem dX5_count_115 : decode cX5_count 115 = .ok (.aload_n 0, 1) := by decide +kernel
theorem dX5_count_116 : decode cX5_count 116 = .ok (.getfield 22, 3) := by decide +kernel
theorem dX5_count_119 : decode cX5_count 119 = .ok (.ireturn, 1) := by decide +kernel
theorem dX5_count_120 : decode cX5_count 120 = .ok (.aload_n 0, 1) := by decide +kernel
theorem dX5_count_121 : decode cX5_count 121 = .ok (.getfield 55, 3) := by decide +kernel
theorem dX5_count_124 : decode cX5_count 124 = .ok (.ireturn, 1) := by decide +kernel
theorem dX5_count_125 : decode cX5_count 125 = .ok (.iload_n 1, 1) := by decide +kernel
theorem dX5_count_126 : decode cX5_count 126 = .ok (.bipush 20, 2) := by decide +kernel
theorem dX5_count_128 : decode cX5_count 128 = .ok (.bipush 22, 2) := by decide +kernel
theorem dX5_count_130 : decode cX5_count 130 = .ok (.invokestatic 61, 3) := by decide +kernel
theorem dX5_count_133 : decode cX5_count 133 = .ok (.ifCond .eq 18, 3) := by decide +kernel
theorem dX5_count_136 : decode cX5_count 136 = .ok (.aload_n 0, 1) := by decide +kernel
theorem dX5_count_137 : decode cX5_count 137 = .ok (.getfield 7, 3) := by decide +kernel
theorem dX5_count_140 : decode cX5_count 140 = .ok (.bipush 8, 2) := by decide +kernel
theorem dX5_count_142 : decode cX5_count 142 = .ok (.iload_n 1, 1) := by decide +kernel
theorem dX5_count_143 : decode cX5_count 143 = .ok (.iadd, 1) := by decide +kernel
theorem dX5_count_144 : decode cX5_count 144 = .ok (.bipush 20, 2) := by decide +kernel
theorem dX5_count_146 : decode cX5_count 146 = .ok (.isub, 1) := by decide +kernel
theorem dX5_count_147 : decode cX5_count 147 = .ok (.iaload, 1) := by decide +kernel
theorem dX5_count_148 : decode cX5_count 148 = .ok (.goto 5, 3) := by decide +kernel
theorem dX5_count_151 : decode cX5_count 151 = .ok (.ldc 92, 2) := by decide +kernel
theorem dX5_count_153 : decode cX5_count 153 = .ok (.ireturn, 1) := by decide +kernel
theorem dX5_undo_0 : decode cX5_undo 0 = .ok (.aload_n 0, 1) := by decide +kernel
theorem dX5_undo_1 : decode cX5_undo 1 = .ok (.getfield 22, 3) := by decide +kernel
theorem dX5_undo_4 : decode cX5_undo 4 = .ok (.ifCond .ne 6, 3) := by decide +kernel
theorem dX5_undo_7 : decode cX5_undo 7 = .ok (.ldc 101, 2) := by decide +kernel
theorem dX5_undo_9 : decode cX5_undo 9 = .ok (.ireturn, 1) := by decide +kernel
theorem dX5_undo_10 : decode cX5_undo 10 = .ok (.aload_n 0, 1) := by decide +kernel
theorem dX5_undo_11 : decode cX5_undo 11 = .ok (.dup, 1) := by decide +kernel
theorem dX5_undo_12 : decode cX5_undo 12 = .ok (.getfield 22, 3) := by decide +kernel
theorem dX5_undo_15 : decode cX5_undo 15 = .ok (.iconst 1, 1) := by decide +kernel
theorem dX5_undo_16 : decode cX5_undo 16 = .ok (.isub, 1) := by decide +kernel
theorem dX5_undo_17 : decode cX5_undo 17 = .ok (.putfield 22, 3) := by decide +kernel
theorem dX5_undo_20 : decode cX5_undo 20 = .ok (.iconst 0, 1) := by decide +kernel
theorem dX5_undo_21 : decode cX5_undo 21 = .ok (.istore_n 1, 1) := by decide +kernel
theorem dX5_undo_22 : decode cX5_undo 22 = .ok (.iload_n 1, 1) := by decide +kernel
theorem dX5_undo_23 : decode cX5_undo 23 = .ok (.sipush 369, 3) := by decide +kernel
theorem dX5_undo_26 : decode cX5_undo 26 = .ok (.if_icmp .ge 30, 3) := by decide +kernel
theorem dX5_undo_29 : decode cX5_undo 29 = .ok (.aload_n 0, 1) := by decide +kernel
theorem dX5_undo_30 : decode cX5_undo 30 = .ok (.getfield 7, 3) := by decide +kernel
theorem dX5_undo_33 : decode cX5_undo 33 = .ok (.iload_n 1, 1) := by decide +kernel
theorem dX5_undo_34 : decode cX5_undo 34 = .ok (.aload_n 0, 1) := by decide +kernel
theorem dX5_undo_35 : decode cX5_undo 35 = .ok (.getfield 13, 3) := by decide +kernel
theorem dX5_undo_38 : decode cX5_undo 38 = .ok (.sipush 369, 3) := by decide +kernel
theorem dX5_undo_41 : decode cX5_undo 41 = .ok (.aload_n 0, 1) := by decide +kernel
theorem dX5_undo_42 : decode cX5_undo 42 = .ok (.getfield 22, 3) := by decide +kernel
theorem dX5_undo_45 : decode cX5_undo 45 = .ok (.imul, 1) := by decide +kernel
theorem dX5_undo_46 : decode cX5_undo 46 = .ok (.iload_n 1, 1) := by decide +kernel
theorem dX5_undo_47 : decode cX5_undo 47 = .ok (.iadd, 1) := by decide +kernel
theorem dX5_undo_48 : decode cX5_undo 48 = .ok (.iaload, 1) := by decide +kernel
theorem dX5_undo_49 : decode cX5_undo 49 = .ok (.iastore, 1) := by decide +kernel
theorem dX5_undo_50 : decode cX5_undo 50 = .ok (.iinc 1 1, 3) := by decide +kernel
theorem dX5_undo_53 : decode cX5_undo 53 = .ok (.goto (-31), 3) := by decide +kernel
theorem dX5_undo_56 : decode cX5_undo 56 = .ok (.aload_n 0, 1) := by decide +kernel
theorem dX5_undo_57 : decode cX5_undo 57 = .ok (.getfield 22, 3) := by decide +kernel
theorem dX5_undo_60 : decode cX5_undo 60 = .ok (.ireturn, 1) := by decide +kernel
set_option maxRecDepth 20000 in
theorem ggX5_type_X5_in : GoodIn wsX5_type wsX5_in := goodIn_r _ [8] (by decide +kernel) (by decide +kernel)
set_option maxRecDepth 20000 in
theorem gX5_type_X5_in : GoodIn wsX5_type (va_wsS RX5 61 yX5_in wsX5_in) := goodIn_app (goodIn_of _ (by decide +kernel)) ggX5_type_X5_in
theorem dX5_type_0 : decode cX5_type 0 = .ok (.iload_n 1, 1) := by decide +kernel
theorem dX5_type_1 : decode cX5_type 1 = .ok (.bipush 32, 2) := by decide +kernel
theorem dX5_type_3 : decode cX5_type 3 = .ok (.bipush 126, 2) := by decide +kernel
theorem dX5_type_5 : decode cX5_type 5 = .ok (.invokestatic 61, 3) := by decide +kernel
theorem dX5_type_8 : decode cX5_type 8 = .ok (.ifCond .ne 6, 3) := by decide +kernel
theorem dX5_type_11 : decode cX5_type 11 = .ok (.ldc 92, 2) := by decide +kernel
theorem dX5_type_13 : decode cX5_type 13 = .ok (.ireturn, 1) := by decide +kernel
theorem dX5_type_14 : decode cX5_type 14 = .ok (.aload_n 0, 1) := by decide +kernel
theorem dX5_type_15 : decode cX5_type 15 = .ok (.getfield 55, 3) := by decide +kernel
theorem dX5_type_18 : decode cX5_type 18 = .ok (.bipush 60, 2) := by decide +kernel
theorem dX5_type_20 : decode cX5_type 20 = .ok (.if_icmp .ne 6, 3) := by decide +kernel
theorem dX5_type_23 : decode cX5_type 23 = .ok (.ldc 134, 2) := by decide +kernel
theorem dX5_type_25 : decode cX5_type 25 = .ok (.ireturn, 1) := by decide +kernel
theorem dX5_type_26 : decode cX5_type 26 = .ok (.aload_n 0, 1) := by decide +kernel
theorem dX5_type_27 : decode cX5_type 27 = .ok (.getfield 19, 3) := by decide +kernel
theorem dX5_type_30 : decode cX5_type 30 = .ok (.aload_n 0, 1) := by decide +kernel
theorem dX5_type_31 : decode cX5_type 31 = .ok (.getfield 55, 3) := by decide +kernel
theorem dX5_type_34 : decode cX5_type 34 = .ok (.iload_n 1, 1) := by decide +kernel
theorem dX5_type_35 : decode cX5_type 35 = .ok (.iastore, 1) := by decide +kernel
theorem dX5_type_36 : decode cX5_type 36 = .ok (.aload_n 0, 1) := by decide +kernel
theorem dX5_type_37 : decode cX5_type 37 = .ok (.dup, 1) := by decide +kernel
theorem dX5_type_38 : decode cX5_type 38 = .ok (.getfield 55, 3) := by decide +kernel
theorem dX5_type_41 : decode cX5_type 41 = .ok (.iconst 1, 1) := by decide +kernel
theorem dX5_type_42 : decode cX5_type 42 = .ok (.iadd, 1) := by decide +kernel
theorem dX5_type_43 : decode cX5_type 43 = .ok (.putfield 55, 3) := by decide +kernel
theorem dX5_type_46 : decode cX5_type 46 = .ok (.aload_n 0, 1) := by decide +kernel
theorem dX5_type_47 : decode cX5_type 47 = .ok (.getfield 55, 3) := by decide +kernel
theorem dX5_type_50 : decode cX5_type 50 = .ok (.ireturn, 1) := by decide +kernel
theorem dX5_clearText_0 : decode cX5_clearText 0 = .ok (.aload_n 0, 1) := by decide +kernel
theorem dX5_clearText_1 : decode cX5_clearText 1 = .ok (.getfield 55, 3) := by decide +kernel
theorem dX5_clearText_4 : decode cX5_clearText 4 = .ok (.istore_n 1, 1) := by decide +kernel
theorem dX5_clearText_5 : decode cX5_clearText 5 = .ok (.aload_n 0, 1) := by decide +kernel
theorem dX5_clearText_6 : decode cX5_clearText 6 = .ok (.iconst 0, 1) := by decide +kernel
theorem dX5_clearText_7 : decode cX5_clearText 7 = .ok (.putfield 55, 3) := by decide +kernel
theorem dX5_clearText_10 : decode cX5_clearText 10 = .ok (.iload_n 1, 1) := by decide +kernel
theorem dX5_clearText_11 : decode cX5_clearText 11 = .ok (.ireturn, 1) := by decide +kernel
end
section
theorem dJxf58ca_isNaN_12338_0 : decode cJxf58ca_isNaN_12338 0 = .ok (.fload_n 0, 1) := by decide +kernel
theorem dJxf58ca_isNaN_12338_1 : decode cJxf58ca_isNaN_12338 1 = .ok (.fload_n 0, 1) := by decide +kernel
theorem dJxf58ca_isNaN_12338_2 : decode cJxf58ca_isNaN_12338 2 = .ok (.fcmp .l, 1) := by decide +kernel
theorem dJxf58ca_isNaN_12338_3 : decode cJxf58ca_isNaN_12338 3 = .ok (.ifCond .eq 7, 3) := by decide +kernel
theorem dJxf58ca_isNaN_12338_6 : decode cJxf58ca_isNaN_12338 6 = .ok (.iconst 1, 1) := by decide +kernel
theorem dJxf58ca_isNaN_12338_7 : decode cJxf58ca_isNaN_12338 7 = .ok (.goto 4, 3) := by decide +kernel
theorem dJxf58ca_isNaN_12338_10 : decode cJxf58ca_isNaN_12338 10 = .ok (.iconst 0, 1) := by decide +kernel
theorem dJxf58ca_isNaN_12338_11 : decode cJxf58ca_isNaN_12338 11 = .ok (.ireturn, 1) := by decide +kernel
set_option maxRecDepth 20000 in
theorem ggJxf58ca_floatToIntBits_5c35a_Jxf58ca_isNaN_12338 : GoodIn wsJxf58ca_floatToIntBits_5c35a wsJxf58ca_isNaN_12338 := goodIn_r _ [9] (by decide +kernel) (by decide +kernel)
set_option maxRecDepth 20000 in
theorem gJxf58ca_floatToIntBits_5c35a_Jxf58ca_isNaN_12338 : GoodIn wsJxf58ca_floatToIntBits_5c35a (va_wsS RJxf58ca 59 yJxf58ca_isNaN_12338 wsJxf58ca_isNaN_12338) := goodIn_app (goodIn_of _ (by decide +kernel)) ggJxf58ca_floatToIntBits_5c35a_Jxf58ca_isNaN_12338
theorem dJxf58ca_floatToIntBits_5c35a_0 : decode cJxf58ca_floatToIntBits_5c35a 0 = .ok (.fload_n 0, 1) := by decide +kernel
theorem dJxf58ca_floatToIntBits_5c35a_1 : decode cJxf58ca_floatToIntBits_5c35a 1 = .ok (.invokestatic 59, 3) := by decide +kernel
theorem dJxf58ca_floatToIntBits_5c35a_4 : decode cJxf58ca_floatToIntBits_5c35a 4 = .ok (.ifCond .ne 8, 3) := by decide +kernel
theorem dJxf58ca_floatToIntBits_5c35a_7 : decode cJxf58ca_floatToIntBits_5c35a 7 = .ok (.fload_n 0, 1) := by decide +kernel
theorem dJxf58ca_floatToIntBits_5c35a_8 : decode cJxf58ca_floatToIntBits_5c35a 8 = .ok (.invokestatic 74, 3) := by decide +kernel
theorem dJxf58ca_floatToIntBits_5c35a_11 : decode cJxf58ca_floatToIntBits_5c35a 11 = .ok (.ireturn, 1) := by decide +kernel
theorem dJxf58ca_floatToIntBits_5c35a_12 : decode cJxf58ca_floatToIntBits_5c35a 12 = .ok (.ldc 77, 2) := by decide +kernel
theorem dJxf58ca_floatToIntBits_5c35a_14 : decode cJxf58ca_floatToIntBits_5c35a 14 = .ok (.ireturn, 1) := by decide +kernel
theorem dJ6_bitCount_0f7a4_0 : decode cJ6_bitCount_0f7a4 0 = .ok (.iload_n 0, 1) := by decide +kernel
theorem dJ6_bitCount_0f7a4_1 : decode cJ6_bitCount_0f7a4 1 = .ok (.iload_n 0, 1) := by decide +kernel
theorem dJ6_bitCount_0f7a4_2 : decode cJ6_bitCount_0f7a4 2 = .ok (.iconst 1, 1) := by decide +kernel
theorem dJ6_bitCount_0f7a4_3 : decode cJ6_bitCount_0f7a4 3 = .ok (.iushr, 1) := by decide +kernel
theorem dJ6_bitCount_0f7a4_4 : decode cJ6_bitCount_0f7a4 4 = .ok (.ldc_w 265, 3) := by decide +kernel
theorem dJ6_bitCount_0f7a4_7 : decode cJ6_bitCount_0f7a4 7 = .ok (.iand, 1) := by decide +kernel
theorem dJ6_bitCount_0f7a4_8 : decode cJ6_bitCount_0f7a4 8 = .ok (.isub, 1) := by decide +kernel
theorem dJ6_bitCount_0f7a4_9 : decode cJ6_bitCount_0f7a4 9 = .ok (.istore_n 0, 1) := by decide +kernel
theorem dJ6_bitCount_0f7a4_10 : decode cJ6_bitCount_0f7a4 10 = .ok (.iload_n 0, 1) := by decide +kernel
theorem dJ6_bitCount_0f7a4_11 : decode cJ6_bitCount_0f7a4 11 = .ok (.ldc_w 266, 3) := by decide +kernel
theorem dJ6_bitCount_0f7a4_14 : decode cJ6_bitCount_0f7a4 14 = .ok (.iand, 1) := by decide +kernel
theorem dJ6_bitCount_0f7a4_15 : decode cJ6_bitCount_0f7a4 15 = .ok (.iload_n 0, 1) := by decide +kernel
theorem dJ6_bitCount_0f7a4_16 : decode cJ6_bitCount_0f7a4 16 = .ok (.iconst 2, 1) := by decide +kernel
theorem dJ6_bitCount_0f7a4_17 : decode cJ6_bitCount_0f7a4 17 = .ok (.iushr, 1) := by decide +kernel
theorem dJ6_bitCount_0f7a4_18 : decode cJ6_bitCount_0f7a4 18 = .ok (.ldc_w 266, 3) := by decide +kernel
theorem dJ6_bitCount_0f7a4_21 : decode cJ6_bitCount_0f7a4 21 = .ok (.iand, 1) := by decide +kernel
theorem dJ6_bitCount_0f7a4_22 : decode cJ6_bitCount_0f7a4 22 = .ok (.iadd, 1) := by decide +kernel
theorem dJ6_bitCount_0f7a4_23 : decode cJ6_bitCount_0f7a4 23 = .ok (.istore_n 0, 1) := by decide +kernel
theorem dJ6_bitCount_0f7a4_24 : decode cJ6_bitCount_0f7a4 24 = .ok (.iload_n 0, 1) := by decide +kernel
theorem dJ6_bitCount_0f7a4_25 : decode cJ6_bitCount_0f7a4 25 = .ok (.iload_n 0, 1) := by decide +kernel
theorem dJ6_bitCount_0f7a4_26 : decode cJ6_bitCount_0f7a4 26 = .ok (.iconst 4, 1) := by decide +kernel
theorem dJ6_bitCount_0f7a4_27 : decode cJ6_bitCount_0f7a4 27 = .ok (.iushr, 1) := by decide +kernel
theorem dJ6_bitCount_0f7a4_28 : decode cJ6_bitCount_0f7a4 28 = .ok (.iadd, 1) := by decide +kernel
theorem dJ6_bitCount_0f7a4_29 : decode cJ6_bitCount_0f7a4 29 = .ok (.ldc_w 267, 3) := by decide +kernel
theorem dJ6_bitCount_0f7a4_32 : decode cJ6_bitCount_0f7a4 32 = .ok (.iand, 1) := by decide +kernel
theorem dJ6_bitCount_0f7a4_33 : decode cJ6_bitCount_0f7a4 33 = .ok (.istore_n 0, 1) := by decide +kernel
theorem dJ6_bitCount_0f7a4_34 : decode cJ6_bitCount_0f7a4 34 = .ok (.iload_n 0, 1) := by decide +kernel
theorem dJ6_bitCount_0f7a4_35 : decode cJ6_bitCount_0f7a4 35 = .ok (.iload_n 0, 1) := by decide +kernel
theorem dJ6_bitCount_0f7a4_36 : decode cJ6_bitCount_0f7a4 36 = .ok (.bipush 8, 2) := by decide +kernel
theorem dJ6_bitCount_0f7a4_38 : decode cJ6_bitCount_0f7a4 38 = .ok (.iushr, 1) := by decide +kernel
theorem dJ6_bitCount_0f7a4_39 : decode cJ6_bitCount_0f7a4 39 = .ok (.iadd, 1) := by decide +kernel
theorem dJ6_bitCount_0f7a4_40 : decode cJ6_bitCount_0f7a4 40 = .ok (.istore_n 0, 1) := by decide +kernel
theorem dJ6_bitCount_0f7a4_41 : decode cJ6_bitCount_0f7a4 41 = .ok (.iload_n 0, 1) := by decide +kernel
theorem dJ6_bitCount_0f7a4_42 : decode cJ6_bitCount_0f7a4 42 = .ok (.iload_n 0, 1) := by decide +kernel
theorem dJ6_bitCount_0f7a4_43 : decode cJ6_bitCount_0f7a4 43 = .ok (.bipush 16, 2) := by decide +kernel
theorem dJ6_bitCount_0f7a4_45 : decode cJ6_bitCount_0f7a4 45 = .ok (.iushr, 1) := by decide +kernel
theorem dJ6_bitCount_0f7a4_46 : decode cJ6_bitCount_0f7a4 46 = .ok (.iadd, 1) := by decide +kernel
theorem dJ6_bitCount_0f7a4_47 : decode cJ6_bitCount_0f7a4 47 = .ok (.istore_n 0, 1) := by decide +kernel
theorem dJ6_bitCount_0f7a4_48 : decode cJ6_bitCount_0f7a4 48 = .ok (.iload_n 0, 1) := by decide +kernel
theorem dJ6_bitCount_0f7a4_49 : decode cJ6_bitCount_0f7a4 49 = .ok (.bipush 63, 2) := by decide +kernel
theorem dJ6_bitCount_0f7a4_51 : decode cJ6_bitCount_0f7a4 51 = .ok (.iand, 1) := by decide +kernel
theorem dJ6_bitCount_0f7a4_52 : decode cJ6_bitCount_0f7a4 52 = .ok (.ireturn, 1) := by decide +kernel
theorem dJ9_abs_0f7a4_0 : decode cJ9_abs_0f7a4 0 = .ok (.iload_n 0, 1) := by decide +kernel
theorem dJ9_abs_0f7a4_1 : decode cJ9_abs_0f7a4 1 = .ok (.ifCond .ge 8, 3) := by decide +kernel
theorem dJ9_abs_0f7a4_4 : decode cJ9_abs_0f7a4 4 = .ok (.iload_n 0, 1) := by decide +kernel
theorem dJ9_abs_0f7a4_5 : decode cJ9_abs_0f7a4 5 = .ok (.ineg, 1) := by decide +kernel
theorem dJ9_abs_0f7a4_6 : decode cJ9_abs_0f7a4 6 = .ok (.goto 4, 3) := by decide +kernel
theorem dJ9_abs_0f7a4_9 : decode cJ9_abs_0f7a4 9 = .ok (.iload_n 0, 1) := by decide +kernel
theorem dJ9_abs_0f7a4_10 : decode cJ9_abs_0f7a4 10 = .ok (.ireturn, 1) := by decide +kernel
set_option maxRecDepth 20000 in
theorem ggJ0_length_8abf5_J0_coder_7d493 : GoodIn wsJ0_length_8abf5 wsJ0_coder_7d493 := goodIn_r _ [6, 7, 8] (by decide +kernel) (by decide +kernel)
set_option maxRecDepth 20000 in
theorem gJ0_length_8abf5_J0_coder_7d493 : GoodIn wsJ0_length_8abf5 (wsV RJ0 335 RJ0 yJ0_coder_7d493 wsJ0_coder_7d493) := goodIn_app (goodIn_of _ (by decide +kernel)) ggJ0_length_8abf5_J0_coder_7d493
theorem dJ0_length_8abf5_0 : decode cJ0_length_8abf5 0 = .ok (.aload_n 0, 1) := by decide +kernel
theorem dJ0_length_8abf5_1 : decode cJ0_length_8abf5 1 = .ok (.getfield 9, 3) := by decide +kernel
theorem dJ0_length_8abf5_4 : decode cJ0_length_8abf5 4 = .ok (.arraylength, 1) := by decide +kernel
theorem dJ0_length_8abf5_5 : decode cJ0_length_8abf5 5 = .ok (.aload_n 0, 1) := by decide +kernel
theorem dJ0_length_8abf5_6 : decode cJ0_length_8abf5 6 = .ok (.invokevirtual 335, 3) := by decide +kernel
theorem dJ0_length_8abf5_9 : decode cJ0_length_8abf5 9 = .ok (.ishr, 1) := by decide +kernel
theorem dJ0_length_8abf5_10 : decode cJ0_length_8abf5 10 = .ok (.ireturn, 1) := by decide +kernel
set_option maxRecDepth 20000 in
theorem ggJ0_charAt_5068e_J0_isLatin1_aae02 : GoodIn wsJ0_charAt_5068e wsJ0_isLatin1_aae02 := goodIn_r _ [6, 7, 8] (by decide +kernel) (by decide +kernel)
set_option maxRecDepth 20000 in
theorem gJ0_charAt_5068e_J0_isLatin1_aae02 : GoodIn wsJ0_charAt_5068e (wsV RJ0 492 RJ0 yJ0_isLatin1_aae02 wsJ0_isLatin1_aae02) := goodIn_app (goodIn_of _ (by decide +kernel)) ggJ0_charAt_5068e_J0_isLatin1_aae02
set_option maxRecDepth 20000 in
theorem ggJ0_charAt_5068e_J1_charAt_3b067 : GoodIn wsJ0_charAt_5068e wsJ1_charAt_3b067 := goodIn_r _ [12, 13, 14, 5, 15, 16, 17, 18, 19, 20] (by decide +kernel) (by decide +kernel)
set_option maxRecDepth 20000 in
theorem gJ0_charAt_5068e_J1_charAt_3b067 : GoodIn wsJ0_charAt_5068e (va_wsS RJ0 495 yJ1_charAt_3b067 wsJ1_charAt_3b067) := goodIn_app (goodIn_of _ (by decide +kernel)) ggJ0_charAt_5068e_J1_charAt_3b067
set_option maxRecDepth 20000 in
theorem ggJ0_charAt_5068e_J2_charAt_3b067 : GoodIn wsJ0_charAt_5068e wsJ2_charAt_3b067 := goodIn_r _ [24, 25, 26, 23, 27, 28, 29, 30, 31, 14, 5, 15, 16, 17, 18, 19, 20, 32, 33, 34, 35, 36, 37] (by decide +kernel) (by decide +kernel)
set_option maxRecDepth 20000 in
theorem gJ0_charAt_5068e_J2_charAt_3b067 : GoodIn wsJ0_charAt_5068e (va_wsS RJ0 498 yJ2_charAt_3b067 wsJ2_charAt_3b067) := goodIn_app (goodIn_of _ (by decide +kernel)) ggJ0_charAt_5068e_J2_charAt_3b067
theorem dJ0_charAt_5068e_0 : decode cJ0_charAt_5068e 0 = .ok (.aload_n 0, 1) := by decide +kernel
theorem dJ0_charAt_5068e_1 : decode cJ0_charAt_5068e 1 = .ok (.invokevirtual 492, 3) := by decide +kernel
theorem dJ0_charAt_5068e_4 : decode cJ0_charAt_5068e 4 = .ok (.ifCond .eq 12, 3) := by decide +kernel
theorem dJ0_charAt_5068e_7 : decode cJ0_charAt_5068e 7 = .ok (.aload_n 0, 1) := by decide +kernel
theorem dJ0_charAt_5068e_8 : decode cJ0_charAt_5068e 8 = .ok (.getfield 9, 3) := by decide +kernel
theorem dJ0_charAt_5068e_11 : decode cJ0_charAt_5068e 11 = .ok (.iload_n 1, 1) := by decide +kernel
theorem dJ0_charAt_5068e_12 : decode cJ0_charAt_5068e 12 = .ok (.invokestatic 495, 3) := by decide +kernel
theorem dJ0_charAt_5068e_15 : decode cJ0_charAt_5068e 15 = .ok (.ireturn, 1) := by decide +kernel
theorem dJ0_charAt_5068e_16 : decode cJ0_charAt_5068e 16 = .ok (.aload_n 0, 1) := by decide +kernel
theorem dJ0_charAt_5068e_17 : decode cJ0_charAt_5068e 17 = .ok (.getfield 9, 3) := by decide +kernel
theorem dJ0_charAt_5068e_20 : decode cJ0_charAt_5068e 20 = .ok (.iload_n 1, 1) := by decide +kernel
theorem dJ0_charAt_5068e_21 : decode cJ0_charAt_5068e 21 = .ok (.invokestatic 498, 3) := by decide +kernel
theorem dJ0_charAt_5068e_24 : decode cJ0_charAt_5068e 24 = .ok (.ireturn, 1) := by decide +kernel
theorem dJ0_coder_7d493_0 : decode cJ0_coder_7d493 0 = .ok (.getstatic 38, 3) := by decide +kernel
theorem dJ0_coder_7d493_3 : decode cJ0_coder_7d493 3 = .ok (.ifCond .eq 10, 3) := by decide +kernel
theorem dJ0_coder_7d493_6 : decode cJ0_coder_7d493 6 = .ok (.aload_n 0, 1) := by decide +kernel
theorem dJ0_coder_7d493_7 : decode cJ0_coder_7d493 7 = .ok (.getfield 15, 3) := by decide +kernel
theorem dJ0_coder_7d493_10 : decode cJ0_coder_7d493 10 = .ok (.goto 4, 3) := by decide +kernel
theorem dJ0_coder_7d493_13 : decode cJ0_coder_7d493 13 = .ok (.iconst 1, 1) := by decide +kernel
theorem dJ0_coder_7d493_14 : decode cJ0_coder_7d493 14 = .ok (.ireturn, 1) := by decide +kernel
theorem dJ0_isLatin1_aae02_0 : decode cJ0_isLatin1_aae02 0 = .ok (.getstatic 38, 3) := by decide +kernel
theorem dJ0_isLatin1_aae02_3 : decode cJ0_isLatin1_aae02 3 = .ok (.ifCond .eq 14, 3) := by decide +kernel
theorem dJ0_isLatin1_aae02_6 : decode cJ0_isLatin1_aae02 6 = .ok (.aload_n 0, 1) := by decide +kernel
theorem dJ0_isLatin1_aae02_7 : decode cJ0_isLatin1_aae02 7 = .ok (.getfield 15, 3) := by decide +kernel
theorem dJ0_isLatin1_aae02_10 : decode cJ0_isLatin1_aae02 10 = .ok (.ifCond .ne 7, 3) := by decide +kernel
theorem dJ0_isLatin1_aae02_13 : decode cJ0_isLatin1_aae02 13 = .ok (.iconst 1, 1) := by decide +kernel
theorem dJ0_isLatin1_aae02_14 : decode cJ0_isLatin1_aae02 14 = .ok (.goto 4, 3) := by decide +kernel
theorem dJ0_isLatin1_aae02_17 : decode cJ0_isLatin1_aae02 17 = .ok (.iconst 0, 1) := by decide +kernel
theorem dJ0_isLatin1_aae02_18 : decode cJ0_isLatin1_aae02 18 = .ok (.ireturn, 1) := by decide +kernel
set_option maxRecDepth 20000 in
theorem ggJ0_checkIndex_df160_J3_checkIndex_8e157 : GoodIn wsJ0_checkIndex_df160 wsJ3_checkIndex_8e157 := goodIn_r _ [5] (by decide +kernel) (by decide +kernel)
set_option maxRecDepth 20000 in
theorem gJ0_checkIndex_df160_J3_checkIndex_8e157 : GoodIn wsJ0_checkIndex_df160 (va_wsS RJ0 1059 yJ3_checkIndex_8e157 wsJ3_checkIndex_8e157) := goodIn_app (goodIn_of _ (by decide +kernel)) ggJ0_checkIndex_df160_J3_checkIndex_8e157
theorem dJ0_checkIndex_df160_0 : decode cJ0_checkIndex_df160 0 = .ok (.iload_n 0, 1) := by decide +kernel
theorem dJ0_checkIndex_df160_1 : decode cJ0_checkIndex_df160 1 = .ok (.iload_n 1, 1) := by decide +kernel
theorem dJ0_checkIndex_df160_2 : decode cJ0_checkIndex_df160 2 = .ok (.getstatic 1053, 3) := by decide +kernel
theorem dJ0_checkIndex_df160_5 : decode cJ0_checkIndex_df160 5 = .ok (.invokestatic 1059, 3) := by decide +kernel
theorem dJ0_checkIndex_df160_8 : decode cJ0_checkIndex_df160 8 = .ok (.pop, 1) := by decide +kernel
theorem dJ0_checkIndex_df160_9 : decode cJ0_checkIndex_df160 9 = .ok (.return_, 1) := by decide +kernel
set_option maxRecDepth 20000 in
theorem ggJ1_charAt_3b067_J0_checkIndex_df160 : GoodIn wsJ1_charAt_3b067 wsJ0_checkIndex_df160 := goodIn_r _ [4, 5, 6, 7, 8, 9] (by decide +kernel) (by decide +kernel)
set_option maxRecDepth 20000 in
theorem gJ1_charAt_3b067_J0_checkIndex_df160 : GoodIn wsJ1_charAt_3b067 (va_wsS RJ1 9 yJ0_checkIndex_df160 wsJ0_checkIndex_df160) := goodIn_app (goodIn_of _ (by decide +kernel)) ggJ1_charAt_3b067_J0_checkIndex_df160
theorem dJ1_charAt_3b067_0 : decode cJ1_charAt_3b067 0 = .ok (.iload_n 1, 1) := by decide +kernel
theorem dJ1_charAt_3b067_1 : decode cJ1_charAt_3b067 1 = .ok (.aload_n 0, 1) := by decide +kernel
theorem dJ1_charAt_3b067_2 : decode cJ1_charAt_3b067 2 = .ok (.arraylength, 1) := by decide +kernel
theorem dJ1_charAt_3b067_3 : decode cJ1_charAt_3b067 3 = .ok (.invokestatic 9, 3) := by decide +kernel
theorem dJ1_charAt_3b067_6 : decode cJ1_charAt_3b067 6 = .ok (.aload_n 0, 1) := by decide +kernel
theorem dJ1_charAt_3b067_7 : decode cJ1_charAt_3b067 7 = .ok (.iload_n 1, 1) := by decide +kernel
theorem dJ1_charAt_3b067_8 : decode cJ1_charAt_3b067 8 = .ok (.baload, 1) := by decide +kernel
theorem dJ1_charAt_3b067_9 : decode cJ1_charAt_3b067 9 = .ok (.sipush 255, 3) := by decide +kernel
theorem dJ1_charAt_3b067_12 : decode cJ1_charAt_3b067 12 = .ok (.iand, 1) := by decide +kernel
theorem dJ1_charAt_3b067_13 : decode cJ1_charAt_3b067 13 = .ok (.i2c, 1) := by decide +kernel
theorem dJ1_charAt_3b067_14 : decode cJ1_charAt_3b067 14 = .ok (.ireturn, 1) := by decide +kernel
set_option maxRecDepth 20000 in
theorem ggJ2_getChar_3b067_J2_length_9d52b : GoodIn wsJ2_getChar_3b067 wsJ2_length_9d52b := goodIn_r _ [7] (by decide +kernel) (by decide +kernel)
set_option maxRecDepth 20000 in
theorem gJ2_getChar_3b067_J2_length_9d52b : GoodIn wsJ2_getChar_3b067 (va_wsS RJ2 48 yJ2_length_9d52b wsJ2_length_9d52b) := goodIn_app (goodIn_of _ (by decide +kernel)) ggJ2_getChar_3b067_J2_length_9d52b
theorem dJ2_getChar_3b067_0 : decode cJ2_getChar_3b067 0 = .ok (.getstatic 44, 3) := by decide +kernel
theorem dJ2_getChar_3b067_3 : decode cJ2_getChar_3b067 3 = .ok (.ifCond .ne 25, 3) := by decide +kernel
theorem dJ2_getChar_3b067_6 : decode cJ2_getChar_3b067 6 = .ok (.iload_n 1, 1) := by decide +kernel
theorem dJ2_getChar_3b067_7 : decode cJ2_getChar_3b067 7 = .ok (.ifCond .lt 11, 3) := by decide +kernel
theorem dJ2_getChar_3b067_10 : decode cJ2_getChar_3b067 10 = .ok (.iload_n 1, 1) := by decide +kernel
theorem dJ2_getChar_3b067_11 : decode cJ2_getChar_3b067 11 = .ok (.aload_n 0, 1) := by decide +kernel
theorem dJ2_getChar_3b067_12 : decode cJ2_getChar_3b067 12 = .ok (.invokestatic 48, 3) := by decide +kernel
theorem dJ2_getChar_3b067_15 : decode cJ2_getChar_3b067 15 = .ok (.if_icmp .lt 13, 3) := by decide +kernel
theorem dJ2_getChar_3b067_18 : decode cJ2_getChar_3b067 18 = .ok (.new 52, 3) := by decide +kernel
theorem dJ2_getChar_3b067_21 : decode cJ2_getChar_3b067 21 = .ok (.dup, 1) := by decide +kernel
theorem dJ2_getChar_3b067_22 : decode cJ2_getChar_3b067 22 = .ok (.ldc 54, 2) := by decide +kernel
theorem dJ2_getChar_3b067_24 : decode cJ2_getChar_3b067 24 = .ok (.invokespecial 56, 3) := by decide +kernel
theorem dJ2_getChar_3b067_27 : decode cJ2_getChar_3b067 27 = .ok (.athrow, 1) := by decide +kernel
theorem dJ2_getChar_3b067_28 : decode cJ2_getChar_3b067 28 = .ok (.iload_n 1, 1) := by decide +kernel
theorem dJ2_getChar_3b067_29 : decode cJ2_getChar_3b067 29 = .ok (.iconst 1, 1) := by decide +kernel
theorem dJ2_getChar_3b067_30 : decode cJ2_getChar_3b067 30 = .ok (.ishl, 1) := by decide +kernel
theorem dJ2_getChar_3b067_31 : decode cJ2_getChar_3b067 31 = .ok (.istore_n 1, 1) := by decide +kernel
theorem dJ2_getChar_3b067_32 : decode cJ2_getChar_3b067 32 = .ok (.aload_n 0, 1) := by decide +kernel
theorem dJ2_getChar_3b067_33 : decode cJ2_getChar_3b067 33 = .ok (.iload_n 1, 1) := by decide +kernel
theorem dJ2_getChar_3b067_34 : decode cJ2_getChar_3b067 34 = .ok (.iinc 1 1, 3) := by decide +kernel
theorem dJ2_getChar_3b067_37 : decode cJ2_getChar_3b067 37 = .ok (.baload, 1) := by decide +kernel
theorem dJ2_getChar_3b067_38 : decode cJ2_getChar_3b067 38 = .ok (.sipush 255, 3) := by decide +kernel
theorem dJ2_getChar_3b067_41 : decode cJ2_getChar_3b067 41 = .ok (.iand, 1) := by decide +kernel
theorem dJ2_getChar_3b067_42 : decode cJ2_getChar_3b067 42 = .ok (.getstatic 59, 3) := by decide +kernel
theorem dJ2_getChar_3b067_45 : decode cJ2_getChar_3b067 45 = .ok (.ishl, 1) := by decide +kernel
theorem dJ2_getChar_3b067_46 : decode cJ2_getChar_3b067 46 = .ok (.aload_n 0, 1) := by decide +kernel
theorem dJ2_getChar_3b067_47 : decode cJ2_getChar_3b067 47 = .ok (.iload_n 1, 1) := by decide +kernel
theorem dJ2_getChar_3b067_48 : decode cJ2_getChar_3b067 48 = .ok (.baload, 1) := by decide +kernel
theorem dJ2_getChar_3b067_49 : decode cJ2_getChar_3b067 49 = .ok (.sipush 255, 3) := by decide +kernel
theorem dJ2_getChar_3b067_52 : decode cJ2_getChar_3b067 52 = .ok (.iand, 1) := by decide +kernel
theorem dJ2_getChar_3b067_53 : decode cJ2_getChar_3b067 53 = .ok (.getstatic 63, 3) := by decide +kernel
theorem dJ2_getChar_3b067_56 : decode cJ2_getChar_3b067 56 = .ok (.ishl, 1) := by decide +kernel
theorem dJ2_getChar_3b067_57 : decode cJ2_getChar_3b067 57 = .ok (.ior, 1) := by decide +kernel
theorem dJ2_getChar_3b067_58 : decode cJ2_getChar_3b067 58 = .ok (.i2c, 1) := by decide +kernel
theorem dJ2_getChar_3b067_59 : decode cJ2_getChar_3b067 59 = .ok (.ireturn, 1) := by decide +kernel
theorem dJ2_length_9d52b_0 : decode cJ2_length_9d52b 0 = .ok (.aload_n 0, 1) := by decide +kernel
theorem dJ2_length_9d52b_1 : decode cJ2_length_9d52b 1 = .ok (.arraylength, 1) := by decide +kernel
theorem dJ2_length_9d52b_2 : decode cJ2_length_9d52b 2 = .ok (.iconst 1, 1) := by decide +kernel
theorem dJ2_length_9d52b_3 : decode cJ2_length_9d52b 3 = .ok (.ishr, 1) := by decide +kernel
theorem dJ2_length_9d52b_4 : decode cJ2_length_9d52b 4 = .ok (.ireturn, 1) := by decide +kernel
set_option maxRecDepth 20000 in
theorem ggJ2_charAt_3b067_J2_checkIndex_2214a : GoodIn wsJ2_charAt_3b067 wsJ2_checkIndex_2214a := goodIn_r _ [4, 5, 6, 3, 7, 8, 9, 10, 11, 12, 13, 14, 15, 16] (by decide +kernel) (by decide +kernel)
set_option maxRecDepth 20000 in
theorem gJ2_charAt_3b067_J2_checkIndex_2214a : GoodIn wsJ2_charAt_3b067 (va_wsS RJ2 67 yJ2_checkIndex_2214a wsJ2_checkIndex_2214a) := goodIn_app (goodIn_of _ (by decide +kernel)) ggJ2_charAt_3b067_J2_checkIndex_2214a
set_option maxRecDepth 20000 in
theorem ggJ2_charAt_3b067_J2_getChar_3b067 : GoodIn wsJ2_charAt_3b067 wsJ2_getChar_3b067 := goodIn_r _ [19, 20, 21, 22, 5, 6, 3, 7] (by decide +kernel) (by decide +kernel)
set_option maxRecDepth 20000 in
theorem gJ2_charAt_3b067_J2_getChar_3b067 : GoodIn wsJ2_charAt_3b067 (va_wsS RJ2 71 yJ2_getChar_3b067 wsJ2_getChar_3b067) := goodIn_app (goodIn_of _ (by decide +kernel)) ggJ2_charAt_3b067_J2_getChar_3b067
theorem dJ2_charAt_3b067_0 : decode cJ2_charAt_3b067 0 = .ok (.iload_n 1, 1) := by decide +kernel
theorem dJ2_charAt_3b067_1 : decode cJ2_charAt_3b067 1 = .ok (.aload_n 0, 1) := by decide +kernel
theorem dJ2_charAt_3b067_2 : decode cJ2_charAt_3b067 2 = .ok (.invokestatic 67, 3) := by decide +kernel
theorem dJ2_charAt_3b067_5 : decode cJ2_charAt_3b067 5 = .ok (.aload_n 0, 1) := by decide +kernel
theorem dJ2_charAt_3b067_6 : decode cJ2_charAt_3b067 6 = .ok (.iload_n 1, 1) := by decide +kernel
theorem dJ2_charAt_3b067_7 : decode cJ2_charAt_3b067 7 = .ok (.invokestatic 71, 3) := by decide +kernel
theorem dJ2_charAt_3b067_10 : decode cJ2_charAt_3b067 10 = .ok (.ireturn, 1) := by decide +kernel
set_option maxRecDepth 20000 in
theorem ggJ2_checkIndex_2214a_J2_length_9d52b : GoodIn wsJ2_checkIndex_2214a wsJ2_length_9d52b := goodIn_r _ [4] (by decide +kernel) (by decide +kernel)
set_option maxRecDepth 20000 in
theorem gJ2_checkIndex_2214a_J2_length_9d52b : GoodIn wsJ2_checkIndex_2214a (va_wsS RJ2 48 yJ2_length_9d52b wsJ2_length_9d52b) := goodIn_app (goodIn_of _ (by decide +kernel)) ggJ2_checkIndex_2214a_J2_length_9d52b
set_option maxRecDepth 20000 in
theorem ggJ2_checkIndex_2214a_J0_checkIndex_df160 : GoodIn wsJ2_checkIndex_2214a wsJ0_checkIndex_df160 := goodIn_r _ [8, 9, 10, 11, 12, 13] (by decide +kernel) (by decide +kernel)
set_option maxRecDepth 20000 in
theorem gJ2_checkIndex_2214a_J0_checkIndex_df160 : GoodIn wsJ2_checkIndex_2214a (va_wsS RJ2 414 yJ0_checkIndex_df160 wsJ0_checkIndex_df160) := goodIn_app (goodIn_of _ (by decide +kernel)) ggJ2_checkIndex_2214a_J0_checkIndex_df160
theorem dJ2_checkIndex_2214a_0 : decode cJ2_checkIndex_2214a 0 = .ok (.iload_n 0, 1) := by decide +kernel
theorem dJ2_checkIndex_2214a_1 : decode cJ2_checkIndex_2214a 1 = .ok (.aload_n 1, 1) := by decide +kernel
theorem dJ2_checkIndex_2214a_2 : decode cJ2_checkIndex_2214a 2 = .ok (.invokestatic 48, 3) := by decide +kernel
theorem dJ2_checkIndex_2214a_5 : decode cJ2_checkIndex_2214a 5 = .ok (.invokestatic 414, 3) := by decide +kernel
theorem dJ2_checkIndex_2214a_8 : decode cJ2_checkIndex_2214a 8 = .ok (.return_, 1) := by decide +kernel
theorem dJ3_checkIndex_8e157_0 : decode cJ3_checkIndex_8e157 0 = .ok (.iload_n 0, 1) := by decide +kernel
theorem dJ3_checkIndex_8e157_1 : decode cJ3_checkIndex_8e157 1 = .ok (.ifCond .lt 8, 3) := by decide +kernel
theorem dJ3_checkIndex_8e157_4 : decode cJ3_checkIndex_8e157 4 = .ok (.iload_n 0, 1) := by decide +kernel
theorem dJ3_checkIndex_8e157_5 : decode cJ3_checkIndex_8e157 5 = .ok (.iload_n 1, 1) := by decide +kernel
theorem dJ3_checkIndex_8e157_6 : decode cJ3_checkIndex_8e157 6 = .ok (.if_icmp .lt 10, 3) := by decide +kernel
theorem dJ3_checkIndex_8e157_9 : decode cJ3_checkIndex_8e157 9 = .ok (.aload_n 2, 1) := by decide +kernel
theorem dJ3_checkIndex_8e157_10 : decode cJ3_checkIndex_8e157 10 = .ok (.iload_n 0, 1) := by decide +kernel
theorem dJ3_checkIndex_8e157_11 : decode cJ3_checkIndex_8e157 11 = .ok (.iload_n 1, 1) := by decide +kernel
theorem dJ3_checkIndex_8e157_12 : decode cJ3_checkIndex_8e157 12 = .ok (.invokestatic 95, 3) := by decide +kernel
theorem dJ3_checkIndex_8e157_15 : decode cJ3_checkIndex_8e157 15 = .ok (.athrow, 1) := by decide +kernel
theorem dJ3_checkIndex_8e157_16 : decode cJ3_checkIndex_8e157 16 = .ok (.iload_n 0, 1) := by decide +kernel
theorem dJ3_checkIndex_8e157_17 : decode cJ3_checkIndex_8e157 17 = .ok (.ireturn, 1) := by decide +kernel
end
section
/-! the small heap: cells have numbers 1 .. n; a cell's kind, an array's length, ints I and references P (0: null) by cell and place -/
abbrev xI : Type := Nat → Nat → Int32
abbrev xP : Type := Nat → Nat → Nat
abbrev xM : Type := Nat × (Nat → Nat) × (Nat → Nat)
abbrev xG : Type := va_G × (Nat → ClassId) × Nat × (Nat → Nat)
def xZ (G : xG) : Nat := G.2.2.1
def xA (G : xG) : Nat → Prop := fun q => xZ G < q
def xT (G : xG) : List (ClassId × FieldType) := [(G.2.1 0, .int), (G.2.1 1, .char), (G.2.1 2, .object RX2), (G.2.1 3, .object RX1), (G.2.1 4, .object RX0)]
def xr (G : xG) (a : Nat) : Option Nat := if a = 0 then none else some (xZ G + a)
theorem xr_ne {G : xG} {a : Nat} (h : a ≠ 0) : va_rf (xr G a) = .ref (xZ G + a) := by simp [xr, h, va_rf]
def xe (G : xG) (μ : xM) (I : xI) (P : xP) (a : Nat) : va_E := match μ.2.1 a with
  | 1 => .inr (0, [va_rf (xr G (P a 0)), .int (I a 1), .int (I a 2), va_rf (xr G (P a 3)), .int (I a 4), .int (I a 5), va_rf (xr G (P a 6)), .int (I a 7), .int (I a 8), .int (I a 9), .int (I a 10)])
  | 2 => .inr (1, [.int (I a 0), .int (I a 1), .int (I a 2)])
  | 3 => .inr (2, [va_rf (xr G (P a 0)), .int (I a 1), .int (I a 2), .int (I a 3)])
  | 4 => .inr (3, [va_rf (xr G (P a 0)), .int (I a 1)])
  | 5 => .inr (4, [va_rf (xr G (P a 0)), va_rf (xr G (P a 1)), va_rf (xr G (P a 2)), .int (I a 3)])
  | 6 => .inr (5, [va_rf (xr G (P a 0)), va_rf (xr G (P a 1)), va_rf (xr G (P a 2)), .int (I a 3), va_rf (xr G (P a 4)), .int (I a 5), .int (I a 6), .int (I a 7), .int (I a 8), .int (I a 9), .int (I a 10), .int (I a 11), .int (I a 12)])
  | 7 => .inl (G.2.1 0, μ.2.2 a, .inl (I a))
  | 8 => .inl (G.2.1 1, μ.2.2 a, .inl (I a))
  | 9 => .inl (G.2.1 2, μ.2.2 a, .inr (.inr (.inr (.inr (fun j => xr G (P a j))))))
  | 10 => .inl (G.2.1 3, μ.2.2 a, .inr (.inr (.inr (.inr (fun j => xr G (P a j))))))
  | 11 => .inl (G.2.1 4, μ.2.2 a, .inr (.inr (.inr (.inr (fun j => xr G (P a j))))))
  | _ => .inr (1, [])
def xw (G : xG) (μ : xM) (I : xI) (P : xP) : va_W := (List.range μ.1).map (fun k => (xZ G + (k + 1), xe G μ I P (k + 1)))
/-- chars are chars, a row's torn is a boolean -/
def xty (μ : xM) (I : xI) : Prop := (∀ a k, μ.2.1 a = 8 → fits .char (.int (I a k)) = true) ∧ ∀ a, μ.2.1 a = 3 → I a 3 = 0 ∨ I a 3 = 1
def xok (μ : xM) (I : xI) : Prop := (μ.2.1 0 = 0 ∧ ∀ a, μ.1 < a → μ.2.1 a = 0) ∧ xty μ I
def xu {α : Type} (f : Nat → Nat → α) (a k : Nat) (v : α) : Nat → Nat → α := fun b j => if b = a ∧ j = k then v else f b j
theorem xu_row {α : Type} {f : Nat → Nat → α} {a b k : Nat} {v : α} (h : b ≠ a) : xu f a k v b = f b := by funext j; simp [xu, h]
theorem xu_at {α : Type} {f : Nat → Nat → α} {a k : Nat} {v : α} : xu f a k v a k = v := by simp [xu]
theorem xu_ne {α : Type} {f : Nat → Nat → α} {a b k j : Nat} {v : α} (h : b ≠ a ∨ j ≠ k) : xu f a k v b j = f b j := by
  unfold xu; rw [if_neg]; intro q; rcases h with h | h
  · exact h q.1
  · exact h q.2
theorem xok_pos {μ : xM} {I : xI} (ho : xok μ I) {a : Nat} (hk : μ.2.1 a ≠ 0) : ∃ k, a = k + 1 ∧ k < μ.1 := by
  obtain ⟨⟨h0, h1⟩, -⟩ := ho
  cases a with
  | zero => exact absurd h0 hk
  | succ k =>
    refine ⟨k, rfl, ?_⟩
    rcases Nat.lt_or_ge k μ.1 with h | h
    · exact h
    · exact absurd (h1 (k + 1) (by omega)) hk
theorem xw_at {G : xG} {μ : xM} {I : xI} {P : xP} {k : Nat} (h : k < μ.1) : (xw G μ I P)[k]? = some (xZ G + (k + 1), xe G μ I P (k + 1)) := by
  simp [xw, List.getElem?_map, List.getElem?_range h]
theorem xw_D {G : xG} {μ : xM} {I : xI} {P : xP} : va_D (xA G) (xw G μ I P) := by
  have key : ∀ (k : Nat) (q : Nat × va_E), (xw G μ I P)[k]? = some q → q.1 = xZ G + (k + 1) := by
    intro k q hk
    have hl : k < μ.1 := by
      have := (List.getElem?_eq_some_iff.mp hk).1
      simpa [xw] using this
    rw [xw_at hl] at hk
    cases hk
    rfl
  refine ⟨fun i j p q hi hj h => ?_, fun k q hk => ?_⟩
  · rw [key i p hi, key j q hj] at h; omega
  · show xZ G < q.1
    rw [key k q hk]; omega
theorem xw_set {G : xG} {μ : xM} {I I' : xI} {P P' : xP} {k : Nat} {e : va_E} (he : xe G μ I' P' (k + 1) = e) (hb : ∀ b, b ≠ k + 1 → xe G μ I' P' b = xe G μ I P b) : (xw G μ I P).set k (xZ G + (k + 1), e) = xw G μ I' P' := by
  apply List.ext_getElem?
  intro j
  rw [List.getElem?_set]
  by_cases hj : k = j
  · subst hj
    rw [if_pos rfl]
    by_cases hl : k < μ.1
    · rw [if_pos (by simpa [xw] using hl), xw_at hl, he]
    · rw [if_neg (by simpa [xw] using hl), List.getElem?_eq_none (by simp [xw]; omega)]
  · rw [if_neg hj]
    by_cases hl : j < μ.1
    · rw [xw_at hl, xw_at hl, hb (j + 1) (by omega)]
    · rw [List.getElem?_eq_none (by simp [xw]; omega), List.getElem?_eq_none (by simp [xw]; omega)]
theorem xty_u {μ : xM} {I : xI} {a k c : Nat} {v : Int32} (hk : μ.2.1 a = c) (h8 : c ≠ 8) (h3 : c ≠ 3 ∨ k ≠ 3) (h : xty μ I) : xty μ (xu I a k v) := by
  refine ⟨fun b j hb => ?_, fun b hb => ?_⟩
  · rw [xu_row (fun e => h8 (by rw [← hk, ← e, hb]))]; exact h.1 b j hb
  · rw [xu_ne]
    · exact h.2 b hb
    · rcases h3 with q | q
      · exact Or.inl (fun e => q (by rw [← hk, ← e, hb]))
      · exact Or.inr (fun e => q e.symm)
theorem xty_t {μ : xM} {I : xI} {a : Nat} {v : Int32} (hk : μ.2.1 a = 3) (hv : v = 0 ∨ v = 1) (h : xty μ I) : xty μ (xu I a 3 v) := by
  refine ⟨fun b j hb => ?_, fun b hb => ?_⟩
  · rw [xu_row (fun e => by rw [e, hk] at hb; cases hb)]; exact h.1 b j hb
  · by_cases e : b = a
    · subst e; rw [xu_at]; exact hv
    · rw [xu_row e]; exact h.2 b hb
theorem vp_narc (x : Int32) : vp_nar .char x = (x.toUInt32 % 65536).toInt32 := by rw [vp_nar_char]; simp
theorem xty_c {μ : xM} {I : xI} {a k : Nat} {x : Int32} (hk : μ.2.1 a = 8) (h : xty μ I) : xty μ (xu I a k (vp_nar .char x)) := by
  refine ⟨fun b j hb => ?_, fun b hb => ?_⟩
  · by_cases e : b = a ∧ j = k
    · obtain ⟨rfl, rfl⟩ := e
      rw [xu_at, vp_narc]; exact pk_fc x
    · rw [xu_ne]
      · exact h.1 b j hb
      · by_cases e1 : b = a
        · exact Or.inr (fun e2 => e ⟨e1, e2⟩)
        · exact Or.inl e1
  · rw [xu_row (fun e => by rw [e, hk] at hb; cases hb)]; exact h.2 b hb
theorem xe_congr {G : xG} {μ : xM} {I I' : xI} {P P' : xP} {a : Nat} (h1 : I' a = I a) (h2 : P' a = P a) : xe G μ I' P' a = xe G μ I P a := by
  unfold xe; rw [h1, h2]

/-! what lies outside the small heap and never changes: tables, static arrays, string constants, statics of the JDK -/
def xX (G : xG) : Nat → Nat := G.2.2.2
def xN (G : xG) (U : State) : Prop := va_Nw (.fieldLinkNest RX0 29 "HandBlinds" "FIRST" "[I" "HandBlinds") U ∧ va_Nw (.methodLinkNest RX0 24 yX1_init "HandBlinds") U ∧ va_Nw (.methodLinkNest RX3 23 yX4_letterWidth "HandBlinds") U ∧ va_Nw (.methodLinkNest RX2 37 yX4_letterWidth "HandBlinds") U ∧ va_Nw (.methodLinkNest RX0 153 yX4_letterWidth "HandBlinds") U ∧
  va_AO RX2 U ∧ va_AO RX1 U ∧ va_AO RX0 U ∧ vk_R RX2 41 "DEPOT" (xX G 3) U ∧ vk_R RX2 47 "SORRY" (xX G 4) U ∧ vk_R RX2 49 "PRIVATE" (xX G 5) U
def xS (G : xG) (U : State) (H : Heap) : Prop := va_Z "HandBlinds" "FIRST" "[I" (.ref (xX G 0)) (xA G) U H ∧ va_T .int (xX G 0) 3 (fun j => .int (([24, 30, 10] : List Int32).getD j 0)) (xA G) U H ∧
  va_Z "HandBlinds" "LEAST" "[I" (.ref (xX G 1)) (xA G) U H ∧ va_T .int (xX G 1) 3 (fun j => .int (([4, 1, 1] : List Int32).getD j 0)) (xA G) U H ∧
  va_Z "HandBlinds" "MOST" "[I" (.ref (xX G 2)) (xA G) U H ∧ va_T .int (xX G 2) 3 (fun j => .int (([60, 200, 50] : List Int32).getD j 0)) (xA G) U H ∧
  vk_S 3 [5, 5, 7] [[68, 69, 80, 79, 84], [83, 79, 82, 82, 89], [80, 82, 73, 86, 65, 84, 69]] (fun i => xX G (3 + i)) (fun i => xX G (6 + i)) (xA G) U H ∧
  va_Z "java/lang/String" "COMPACT_STRINGS" "Z" (.int 1) (xA G) U H ∧ va_Zq "jdk/internal/util/Preconditions" "SIOOBE_FORMATTER" "Ljava/util/function/BiFunction;" (xA G) U H
def xV (G : xG) (U : State) (H : Heap) : Prop := va_K G.1 vwCl (xT G) U ∧ xN G U ∧ xS G U H
theorem xN.warm {G : xG} {s U : State} (hW : s.WarmedH U.vm) (h : xN G s) : xN G U := by
  obtain ⟨h1, h2, h3, h4, h5, h6, h7, h8, h9, h10, h11⟩ := h
  exact ⟨va_Nw.warmF hW h1, va_Nw.warmM hW h2, va_Nw.warmM hW h3, va_Nw.warmM hW h4, va_Nw.warmM hW h5, h6.moved hW.alike, h7.moved hW.alike, h8.moved hW.alike, h9.warm hW, h10.warm hW, h11.warm hW⟩
theorem xN.same {G : xG} {s U : State} (hv : s.vm = U.vm) (h : xN G s) : xN G U := by
  obtain ⟨h1, h2, h3, h4, h5, h6, h7, h8, h9, h10, h11⟩ := h
  have hA : s.vm.Alike U.vm := hv ▸ Vm.Alike.refl s.vm
  exact ⟨h1.same rfl hv, h2.same rfl hv, h3.same rfl hv, h4.same rfl hv, h5.same rfl hv, h6.moved hA, h7.moved hA, h8.moved hA, h9.same hv.symm, h10.same hv.symm, h11.same hv.symm⟩
theorem xS.moved {G : xG} {s U : State} {H : Heap} (hA : s.vm.Alike U.vm) (h : xS G s H) : xS G U H := by
  obtain ⟨h1, h2, h3, h4, h5, h6, h7, h8, h9⟩ := h
  exact ⟨h1.moved hA, h2.moved hA, h3.moved hA, h4.moved hA, h5.moved hA, h6.moved hA, h7.moved hA, h8.moved hA, h9.moved hA⟩
theorem xS.kept {G : xG} {s : State} {H H1 : Heap} (h : xS G s H) (hq : ∀ a : Nat, a < H.size → ¬ xA G a → H1[a]? = H[a]?) : xS G s H1 := by
  obtain ⟨h1, h2, h3, h4, h5, h6, h7, h8, h9⟩ := h
  exact ⟨h1.kept hq, h2.kept hq, h3.kept hq, h4.kept hq, h5.kept hq, h6.kept hq, h7.kept hq, h8.kept hq, h9.kept hq⟩
theorem xV.call {G : xG} {s U : State} {H : Heap} {locs : List Loc} (h : xV G s s.heap) (hW : s.WarmedH U.vm) (hS : va_S (xA G) s.heap H locs) (hU : U.heap = H) : xV G U U.heap := by
  subst hU
  exact ⟨h.1.moved hW.alike, h.2.1.warm hW, (h.2.2.kept hS.2.1).moved hW.alike⟩
theorem xV.blind {G : xG} {U V : State} (hv : U.vm = V.vm) (hh : U.heap = V.heap) (h : xV G U U.heap) : xV G V V.heap := by
  rw [← hh]
  have hA : U.vm.Alike V.vm := hv ▸ Vm.Alike.refl U.vm
  exact ⟨h.1.moved hA, h.2.1.same hv, h.2.2.moved hA⟩
/-! a method's standing: the machine's parts as one tuple; the goal over the small heap; contracts -/
abbrev xF : Type := Program × Launch × Env × Room × State × MethodId × Array Value × List Frame × Method × Code × (State → Prop)
def xL : Nat → List (Option Value) → List (Nat × Value)
  | _, [] => []
  | i, none :: r => xL (i + 1) r
  | i, some v :: r => (i, v) :: xL (i + 1) r
theorem xL_mem : ∀ (L : List (Option Value)) (b : Nat) (q : Nat × Value), q ∈ xL b L ↔ ∃ k, q.1 = b + k ∧ L[k]? = some (some q.2)
  | [], b, q => by simp [xL]
  | none :: r, b, q => by
    rw [xL, xL_mem r (b + 1) q]
    constructor
    · rintro ⟨k, h1, h2⟩
      exact ⟨k + 1, by omega, by simpa using h2⟩
    · rintro ⟨k, h1, h2⟩
      cases k with
      | zero => simp at h2
      | succ k => exact ⟨k, by omega, by simpa using h2⟩
  | some v :: r, b, q => by
    rw [xL, List.mem_cons, xL_mem r (b + 1) q]
    constructor
    · rintro (rfl | ⟨k, h1, h2⟩)
      · exact ⟨0, rfl, rfl⟩
      · exact ⟨k + 1, by omega, by simpa using h2⟩
    · rintro ⟨k, h1, h2⟩
      cases k with
      | zero =>
        left
        obtain ⟨q1, q2⟩ := q
        simp at h1 h2
        rw [h1, h2]
      | succ k => exact Or.inr ⟨k, by omega, by simpa using h2⟩
theorem xL_at {ls : Array Slot} {n : Nat} {L : List (Option Value)} {k : Nat} {v : Value} (h : lv_has ls n (xL 0 L)) (hk : L[k]? = some (some v)) : ls[k]? = some (.val v) := h.2.2 (k, v) ((xL_mem L 0 (k, v)).mpr ⟨k, by simp, hk⟩)
theorem lv_mono {ls : Array Slot} {n : Nat} {l l' : List (Nat × Value)} (h : lv_has ls n l) (hm : ∀ q ∈ l', q ∈ l) : lv_has ls n l' := ⟨h.1, h.2.1, fun q hq => h.2.2 q (hm q hq)⟩
def xc2 (L : List (Option Value)) (i : Nat) : Bool := i == 0 || match L[i - 1]? with
  | some (some (.long _)) => false
  | some (some (.double _)) => false
  | _ => true
theorem xL_store {L : List (Option Value)} {i : Nat} {v : Value} (h2 : xc2 L i = true) : ∀ q ∈ xL 0 (L.set i (some v)), q ∈ (i, v) :: (xL 0 L).filter (fun q => !(q.1 == i) && !(q.1 + 1 == i && q.2.category == 2)) := by
  intro q hq
  obtain ⟨k, h1, h3⟩ := (xL_mem _ 0 q).mp hq
  rw [List.getElem?_set] at h3
  by_cases hk : i = k
  · subst hk
    rw [if_pos rfl] at h3
    split at h3
    · obtain ⟨q1, q2⟩ := q
      simp at h1 h3
      rw [h1, h3]; exact List.mem_cons_self
    · cases h3
  · rw [if_neg hk] at h3
    refine List.mem_cons_of_mem _ (List.mem_filter.mpr ⟨(xL_mem L 0 q).mpr ⟨k, h1, h3⟩, ?_⟩)
    have hq1 : q.1 = k := by omega
    rw [hq1]
    have e1 : (k == i) = false := by simpa using fun e : k = i => hk e.symm
    rw [e1]
    by_cases e2 : k + 1 = i
    · subst e2
      simp only [xc2, Nat.add_sub_cancel, h3] at h2
      obtain ⟨q1, q2⟩ := q
      cases q2 <;> simp_all [Value.category]
    · have e3 : (k + 1 == i) = false := by simpa using e2
      rw [e3]; rfl
theorem xL_store2 {L : List (Option Value)} {i : Nat} {v : Value} (h2 : xc2 L i = true) : ∀ q ∈ xL 0 ((L.set i (some v)).set (i + 1) none), q ∈ (i, v) :: (xL 0 L).filter (fun q => !(q.1 == i) && (!(q.1 == i + 1) && !(q.1 + 1 == i && q.2.category == 2))) := by
  intro q hq
  obtain ⟨k, h1, h3⟩ := (xL_mem _ 0 q).mp hq
  rw [List.getElem?_set] at h3
  by_cases hk1 : i + 1 = k
  · subst hk1
    rw [if_pos rfl] at h3
    split at h3 <;> cases h3
  rw [if_neg hk1] at h3
  rw [List.getElem?_set] at h3
  by_cases hk : i = k
  · subst hk
    rw [if_pos rfl] at h3
    split at h3
    · obtain ⟨q1, q2⟩ := q
      simp at h1 h3
      rw [h1, h3]; exact List.mem_cons_self
    · cases h3
  · rw [if_neg hk] at h3
    refine List.mem_cons_of_mem _ (List.mem_filter.mpr ⟨(xL_mem L 0 q).mpr ⟨k, h1, h3⟩, ?_⟩)
    have hq1 : q.1 = k := by omega
    rw [hq1]
    have e1 : (k == i) = false := by simpa using fun e : k = i => hk e.symm
    have e0 : (k == i + 1) = false := by simpa using fun e : k = i + 1 => hk1 e.symm
    rw [e1, e0]
    by_cases e2 : k + 1 = i
    · subst e2
      simp only [xc2, Nat.add_sub_cancel, h3] at h2
      obtain ⟨q1, q2⟩ := q
      cases q2 <;> simp_all [Value.category]
    · have e3 : (k + 1 == i) = false := by simpa using e2
      rw [e3]; rfl
abbrev xPost : Type := Option Value → xM → xI → xP → Prop
def xQ (G : xG) (Ps : xPost) : Array Value → State → Outcome → State → Prop := fun _ st oc t => (∃ (v : Option Value) (μ : xM) (I : xI) (P : xP), oc = .returned v ∧ Ps v μ I P ∧ xok μ I ∧ va_P G.1 vwCl (xw G μ I P) t.heap) ∧ va_F (xA G) st t
def xPre (G : xG) (μ : xM) (I : xI) (P : xP) (mc : Nat) (U : State) : Prop := xok μ I ∧ (mc = 0 ∨ U.heap.size = xZ G + 1 + μ.1) ∧ va_P G.1 vwCl (xw G μ I P) U.heap ∧ xV G U U.heap
/-- a method's contract: from the small heap (μ, I, P) with these arguments it returns, and Ps holds of the answer and the small heap then -/
def Ct (l : Launch) (y : MethodName) (ws : List Cond) (rm : Room) (G : xG) (μ : xM) (I : xI) (P : xP) (av : List Value) (mc ms : Nat) (Ps : xPost) : Prop := Met l y ws rm (va_Pc av (xPre G μ I P mc)) (xQ G Ps) mc ms (xA G)
def xC (X : xF) (G : xG) (cc : ByteArray) (Ts : List Cond) (own : String) (nL : Nat) (R : Room) : Prop :=
  X.1.tables.exec = Jvm.exec ∧ X.2.2.2.2.2.2.2.2.2.1.code = cc ∧ X.2.2.2.2.2.2.2.2.2.1.maxLocals = nL ∧ X.2.2.2.2.1.vm.findClass own = some X.2.2.2.2.2.1.cls ∧ (∀ w ∈ Ts, w.before X.2.2.2.2.2.2.1 X.2.2.2.2.1 = true) ∧ xV G X.2.2.2.2.1 X.2.2.2.2.1.heap ∧ X.2.2.2.1 = R
def xD (X : xF) (G : xG) (nm : String) (ret : Option FieldType) (mc ms : Nat) (Ps : xPost) : Prop :=
  X.2.2.2.2.2.2.2.2.1.sig.returnType = ret ∧ X.2.2.2.2.2.2.2.2.1.locks = false ∧ X.2.2.2.2.2.2.2.2.1.name = nm ∧ X.2.2.2.2.2.2.2.2.2.2 = MQ X.2.2.2.2.2.2.2.1 (xQ G Ps) X.2.2.2.2.2.2.1 X.2.2.2.2.1 mc ms (xA G)
def xg (X : xF) (G : xG) (cs : Nat × Nat) (μ : xM) (I : xI) (P : xP) (L : List (Option Value)) (pc : Nat) (st : List Value) : Prop :=
  ∀ (H : Heap) (locs : List Loc) (ls : Array Slot), xok μ I → va_P G.1 vwCl (xw G μ I P) H → va_S (xA G) X.2.2.2.2.1.heap H locs → lv_has ls L.length (xL 0 L) →
    W X.1 X.2.1 X.2.2.1 X.2.2.2.1 X.2.2.2.2.1 X.2.2.2.2.2.1 X.2.2.2.2.2.2.1 X.2.2.2.2.2.2.2.1 X.2.2.2.2.2.2.2.2.1 X.2.2.2.2.2.2.2.2.2.1 H locs cs.1 cs.2 X.2.2.2.2.2.2.2.2.2.2 (F0 X.2.2.2.2.2.1 pc ls st)
theorem Ct.of {l : Launch} {y : MethodName} {ws ws' : List Cond} {rm : Room} {G : xG} {μ : xM} {I : xI} {P : xP} {av : List Value} {mc ms : Nat} {Ps : xPost} {cc : ByteArray} {maxL : Nat} {ret : Option FieldType} (L0 : List (Option Value)) (hy : plainName y.cls = true) (hw : ws = Cond.code y cc maxL ret :: ws') (hL : xL 0 L0 = lv_args 0 av) (hn : L0.length = maxL) (hlen : (lg_sl av).length ≤ maxL)
    (body : ∀ X : xF, xC X G cc ws y.cls maxL rm → xD X G y.name ret mc ms Ps → xok μ I → (mc = 0 ∨ X.2.2.2.2.1.heap.size = xZ G + 1 + μ.1) → xg X G (0, 0) μ I P L0 0 []) : Ct l y ws rm G μ I P av mc ms Ps := by
  refine Met.ofW (cc := cc) (maxL := maxL) (ret := ret) hy hw ?_
  intro p e s m args below meth c s₁ B hml hv
  obtain ⟨rfl, ho, hsz, hP, hV⟩ := hv
  have hts := atoms_spec (ws := ws) B.pre
  have hl := lv_entry av (n := maxL) hlen
  rw [lg_entry_eq]
  generalize (lg_sl av ++ List.replicate (maxL - (lg_sl av).length) Slot.unset).toArray = ls at hl ⊢
  have hl : lv_has ls L0.length (xL 0 L0) := by rw [hL, hn]; exact hl
  exact body (p, l, e, rm, s, m, av.toArray, below, meth, c, MQ below (xQ G Ps) av.toArray s mc ms (xA G)) ⟨B.exec, B.bytes, hml, findClass_of_methodNamed B.named, hts, hV, rfl⟩ ⟨B.returns, B.notSynchronized, (name_of_methodNamed B.named B.method).1, rfl⟩ ho hsz s.heap [] ls ho hP va_S.rf hl

section XROWS
variable {X : xF} {G : xG} {cs : Nat × Nat} {μ : xM} {I : xI} {P : xP} {L : List (Option Value)} {pc : Nat} {st : List Value} {cc : ByteArray} {Ts : List Cond} {own : String} {nL : Nat} {R : Room}
theorem r_iconst (hC : xC X G cc Ts own nL R) {n : Int} {v : Int32} (d : decode cc pc = .ok (.iconst n, 1))  (hv : Int32.ofInt n = v) (kk : xg X G cs μ I P L (pc + 1) (.int v :: st)) : xg X G cs μ I P L (pc) (st) := fun H locs ls h0 hP hS hl => lv_iconst hC.1 hC.2.1 d hv (kk H locs ls h0 hP hS hl)
theorem r_bipush (hC : xC X G cc Ts own nL R) {n : Int} {v : Int32} (d : decode cc pc = .ok (.bipush n, 2))  (hv : (Int8.ofInt n).toInt32 = v) (kk : xg X G cs μ I P L (pc + 2) (.int v :: st)) : xg X G cs μ I P L (pc) (st) := fun H locs ls h0 hP hS hl => lv_bipush hC.1 hC.2.1 d hv (kk H locs ls h0 hP hS hl)
theorem r_sipush (hC : xC X G cc Ts own nL R) {n : Int} {v : Int32} (d : decode cc pc = .ok (.sipush n, 3))  (hv : (Int16.ofInt n).toInt32 = v) (kk : xg X G cs μ I P L (pc + 3) (.int v :: st)) : xg X G cs μ I P L (pc) (st) := fun H locs ls h0 hP hS hl => lv_sipush hC.1 hC.2.1 d hv (kk H locs ls h0 hP hS hl)
theorem r_lconst (hC : xC X G cc Ts own nL R) {n : Fin 2} {v : Int64} (d : decode cc pc = .ok (.lconst n, 1))  (hv : Int64.ofNat (n : Nat) = v) (kk : xg X G cs μ I P L (pc + 1) (.long v :: st)) : xg X G cs μ I P L (pc) (st) := fun H locs ls h0 hP hS hl => lv_lconst hC.1 hC.2.1 d hv (kk H locs ls h0 hP hS hl)
theorem r_ldc (hC : xC X G cc Ts own nL R) {index : Nat} {v : Int32} (d : decode cc pc = .ok (.ldc index, 2)) (hw : Cond.constant own index v ∈ Ts) (kk : xg X G cs μ I P L (pc + 2) (.int v :: st)) : xg X G cs μ I P L (pc) (st) := fun H locs ls h0 hP hS hl => lv_ldc hC.1 hC.2.1 hC.2.2.2.1 (hC.2.2.2.2.1 _ hw) d (kk H locs ls h0 hP hS hl)
theorem r_ldcf (hC : xC X G cc Ts own nL R) {index : Nat} {v : UInt32} (d : decode cc pc = .ok (.ldc index, 2)) (hw : Cond.constantFloat own index v ∈ Ts) (kk : xg X G cs μ I P L (pc + 2) (.float v :: st)) : xg X G cs μ I P L (pc) (st) := fun H locs ls h0 hP hS hl => lv_ldcf hC.1 hC.2.1 hC.2.2.2.1 (hC.2.2.2.2.1 _ hw) d (kk H locs ls h0 hP hS hl)
theorem r_ldc2 (hC : xC X G cc Ts own nL R) {index : Nat} {v : Int64} (d : decode cc pc = .ok (.ldc2_w index, 3)) (hw : Cond.constantLong own index v ∈ Ts) (kk : xg X G cs μ I P L (pc + 3) (.long v :: st)) : xg X G cs μ I P L (pc) (st) := fun H locs ls h0 hP hS hl => lv_ldc2 hC.1 hC.2.1 hC.2.2.2.1 (hC.2.2.2.2.1 _ hw) d (kk H locs ls h0 hP hS hl)
theorem r_iadd (hC : xC X G cc Ts own nL R) {x y : Int32} (d : decode cc pc = .ok (.iadd, 1))  (kk : xg X G cs μ I P L (pc + 1) (.int (x + y) :: st)) : xg X G cs μ I P L (pc) (.int y :: .int x :: st) := fun H locs ls h0 hP hS hl => lv_iadd hC.1 hC.2.1 d (kk H locs ls h0 hP hS hl)
theorem r_isub (hC : xC X G cc Ts own nL R) {x y : Int32} (d : decode cc pc = .ok (.isub, 1))  (kk : xg X G cs μ I P L (pc + 1) (.int (x - y) :: st)) : xg X G cs μ I P L (pc) (.int y :: .int x :: st) := fun H locs ls h0 hP hS hl => lv_isub hC.1 hC.2.1 d (kk H locs ls h0 hP hS hl)
theorem r_imul (hC : xC X G cc Ts own nL R) {x y : Int32} (d : decode cc pc = .ok (.imul, 1))  (kk : xg X G cs μ I P L (pc + 1) (.int (x * y) :: st)) : xg X G cs μ I P L (pc) (.int y :: .int x :: st) := fun H locs ls h0 hP hS hl => lv_imul hC.1 hC.2.1 d (kk H locs ls h0 hP hS hl)
theorem r_iand (hC : xC X G cc Ts own nL R) {x y : Int32} (d : decode cc pc = .ok (.iand, 1))  (kk : xg X G cs μ I P L (pc + 1) (.int (x &&& y) :: st)) : xg X G cs μ I P L (pc) (.int y :: .int x :: st) := fun H locs ls h0 hP hS hl => lv_iand hC.1 hC.2.1 d (kk H locs ls h0 hP hS hl)
theorem r_ior (hC : xC X G cc Ts own nL R) {x y : Int32} (d : decode cc pc = .ok (.ior, 1))  (kk : xg X G cs μ I P L (pc + 1) (.int (x ||| y) :: st)) : xg X G cs μ I P L (pc) (.int y :: .int x :: st) := fun H locs ls h0 hP hS hl => lv_ior hC.1 hC.2.1 d (kk H locs ls h0 hP hS hl)
theorem r_ixor (hC : xC X G cc Ts own nL R) {x y : Int32} (d : decode cc pc = .ok (.ixor, 1))  (kk : xg X G cs μ I P L (pc + 1) (.int (x ^^^ y) :: st)) : xg X G cs μ I P L (pc) (.int y :: .int x :: st) := fun H locs ls h0 hP hS hl => lv_ixor hC.1 hC.2.1 d (kk H locs ls h0 hP hS hl)
theorem r_ishl (hC : xC X G cc Ts own nL R) {x y : Int32} (d : decode cc pc = .ok (.ishl, 1))  (kk : xg X G cs μ I P L (pc + 1) (.int (x <<< (y &&& 31)) :: st)) : xg X G cs μ I P L (pc) (.int y :: .int x :: st) := fun H locs ls h0 hP hS hl => lv_ishl hC.1 hC.2.1 d (kk H locs ls h0 hP hS hl)
theorem r_ishr (hC : xC X G cc Ts own nL R) {x y : Int32} (d : decode cc pc = .ok (.ishr, 1))  (kk : xg X G cs μ I P L (pc + 1) (.int (x >>> (y &&& 31)) :: st)) : xg X G cs μ I P L (pc) (.int y :: .int x :: st) := fun H locs ls h0 hP hS hl => lv_ishr hC.1 hC.2.1 d (kk H locs ls h0 hP hS hl)
theorem r_iushr (hC : xC X G cc Ts own nL R) {x y : Int32} (d : decode cc pc = .ok (.iushr, 1))  (kk : xg X G cs μ I P L (pc + 1) (.int ((x.toUInt32 >>> (y.toUInt32 &&& Int32.toUInt32 31)).toInt32) :: st)) : xg X G cs μ I P L (pc) (.int y :: .int x :: st) := fun H locs ls h0 hP hS hl => lv_iushr hC.1 hC.2.1 d rfl (kk H locs ls h0 hP hS hl)
theorem r_idiv (hC : xC X G cc Ts own nL R) {x y : Int32} (d : decode cc pc = .ok (.idiv, 1)) (hne : ¬ y = 0) (kk : xg X G cs μ I P L (pc + 1) (.int (x / y) :: st)) : xg X G cs μ I P L (pc) (.int y :: .int x :: st) := fun H locs ls h0 hP hS hl => lv_idiv hC.1 hC.2.1 d hne (kk H locs ls h0 hP hS hl)
theorem r_irem (hC : xC X G cc Ts own nL R) {x y : Int32} (d : decode cc pc = .ok (.irem, 1)) (hne : ¬ y = 0) (kk : xg X G cs μ I P L (pc + 1) (.int (x - (x / y) * y) :: st)) : xg X G cs μ I P L (pc) (.int y :: .int x :: st) := fun H locs ls h0 hP hS hl => lv_irem hC.1 hC.2.1 d hne (kk H locs ls h0 hP hS hl)
theorem r_ladd (hC : xC X G cc Ts own nL R) {x y : Int64} (d : decode cc pc = .ok (.ladd, 1))  (kk : xg X G cs μ I P L (pc + 1) (.long (x + y) :: st)) : xg X G cs μ I P L (pc) (.long y :: .long x :: st) := fun H locs ls h0 hP hS hl => lv_ladd hC.1 hC.2.1 d (kk H locs ls h0 hP hS hl)
theorem r_lmul (hC : xC X G cc Ts own nL R) {x y : Int64} (d : decode cc pc = .ok (.lmul, 1))  (kk : xg X G cs μ I P L (pc + 1) (.long (x * y) :: st)) : xg X G cs μ I P L (pc) (.long y :: .long x :: st) := fun H locs ls h0 hP hS hl => lv_lmul hC.1 hC.2.1 d (kk H locs ls h0 hP hS hl)
theorem r_i2l (hC : xC X G cc Ts own nL R) {x : Int32} (d : decode cc pc = .ok (.i2l, 1))  (kk : xg X G cs μ I P L (pc + 1) (.long x.toInt64 :: st)) : xg X G cs μ I P L (pc) (.int x :: st) := fun H locs ls h0 hP hS hl => lv_i2l hC.1 hC.2.1 d rfl (kk H locs ls h0 hP hS hl)
theorem r_i2c (hC : xC X G cc Ts own nL R) {x : Int32} (d : decode cc pc = .ok (.i2c, 1))  (kk : xg X G cs μ I P L (pc + 1) (.int ((x.toUInt32 % 65536).toInt32) :: st)) : xg X G cs μ I P L (pc) (.int x :: st) := fun H locs ls h0 hP hS hl => lv_i2c hC.1 hC.2.1 d rfl (kk H locs ls h0 hP hS hl)
theorem r_i2f (hC : xC X G cc Ts own nL R) {x : Int32} (d : decode cc pc = .ok (.i2f, 1))  (kk : xg X G cs μ I P L (pc + 1) (.float (FP.i2f x) :: st)) : xg X G cs μ I P L (pc) (.int x :: st) := fun H locs ls h0 hP hS hl => lv_i2f hC.1 hC.2.1 d (kk H locs ls h0 hP hS hl)
theorem r_f2i (hC : xC X G cc Ts own nL R) {x : UInt32} (d : decode cc pc = .ok (.f2i, 1))  (kk : xg X G cs μ I P L (pc + 1) (.int (FP.f2i x) :: st)) : xg X G cs μ I P L (pc) (.float x :: st) := fun H locs ls h0 hP hS hl => lv_f2i hC.1 hC.2.1 d (kk H locs ls h0 hP hS hl)
theorem r_fdiv (hC : xC X G cc Ts own nL R) {x y : UInt32} (d : decode cc pc = .ok (.fdiv, 1)) (hne : vf_n32 (FP.fdiv x y)) (kk : xg X G cs μ I P L (pc + 1) (.float (FP.fdiv x y) :: st)) : xg X G cs μ I P L (pc) (.float y :: .float x :: st) := fun H locs ls h0 hP hS hl => lv_fdiv hC.1 hC.2.1 d hne (kk H locs ls h0 hP hS hl)
theorem r_fsub (hC : xC X G cc Ts own nL R) {x y : UInt32} (d : decode cc pc = .ok (.fsub, 1)) (hne : vf_n32 (FP.fsub x y)) (kk : xg X G cs μ I P L (pc + 1) (.float (FP.fsub x y) :: st)) : xg X G cs μ I P L (pc) (.float y :: .float x :: st) := fun H locs ls h0 hP hS hl => lv_fsub hC.1 hC.2.1 d hne (kk H locs ls h0 hP hS hl)
theorem r_fmul (hC : xC X G cc Ts own nL R) {x y : UInt32} (d : decode cc pc = .ok (.fmul, 1)) (hne : vf_n32 (FP.fmul x y)) (kk : xg X G cs μ I P L (pc + 1) (.float (FP.fmul x y) :: st)) : xg X G cs μ I P L (pc) (.float y :: .float x :: st) := fun H locs ls h0 hP hS hl => lv_fmul hC.1 hC.2.1 d hne (kk H locs ls h0 hP hS hl)
theorem r_fcmp (hC : xC X G cc Ts own nL R) {x y : UInt32} {op : CmpOp} (d : decode cc pc = .ok (.fcmp op, 1))  (kk : xg X G cs μ I P L (pc + 1) (.int (Op.cmpValue (FP.fcmp x y) op) :: st)) : xg X G cs μ I P L (pc) (.float y :: .float x :: st) := fun H locs ls h0 hP hS hl => lv_fcmp hC.1 hC.2.1 d (kk H locs ls h0 hP hS hl)
theorem r_fconst1 (hC : xC X G cc Ts own nL R) (d : decode cc pc = .ok (.fconst 1, 1))  (kk : xg X G cs μ I P L (pc + 1) (.float 0x3f800000 :: st)) : xg X G cs μ I P L (pc) (st) := fun H locs ls h0 hP hS hl => lv_fconst1 hC.1 hC.2.1 d (kk H locs ls h0 hP hS hl)
theorem r_fconst2 (hC : xC X G cc Ts own nL R) (d : decode cc pc = .ok (.fconst 2, 1))  (kk : xg X G cs μ I P L (pc + 1) (.float 0x40000000 :: st)) : xg X G cs μ I P L (pc) (st) := fun H locs ls h0 hP hS hl => lv_fconst2 hC.1 hC.2.1 d (kk H locs ls h0 hP hS hl)
theorem r_dup (hC : xC X G cc Ts own nL R) {va : Value} (d : decode cc pc = .ok (.dup, 1)) (hva : va.category = 1) (kk : xg X G cs μ I P L (pc + 1) (va :: va :: st)) : xg X G cs μ I P L (pc) (va :: st) := fun H locs ls h0 hP hS hl => lv_dup hC.1 hC.2.1 d hva (kk H locs ls h0 hP hS hl)
theorem r_dup2 (hC : xC X G cc Ts own nL R) {va vb : Value} (d : decode cc pc = .ok (.dup2, 1)) (hva : va.category = 1) (hvb : vb.category = 1) (kk : xg X G cs μ I P L (pc + 1) (va :: vb :: va :: vb :: st)) : xg X G cs μ I P L (pc) (va :: vb :: st) := fun H locs ls h0 hP hS hl => lv_dup2_11 hC.1 hC.2.1 d hva hvb (kk H locs ls h0 hP hS hl)
theorem r_pop (hC : xC X G cc Ts own nL R) {va : Value} (d : decode cc pc = .ok (.pop, 1)) (hva : va.category = 1) (kk : xg X G cs μ I P L (pc + 1) (st)) : xg X G cs μ I P L (pc) (va :: st) := fun H locs ls h0 hP hS hl => lv_pop hC.1 hC.2.1 d hva (kk H locs ls h0 hP hS hl)
theorem r_iload_n (hC : xC X G cc Ts own nL R) {k : Fin 4} {x : Int32} (d : decode cc pc = .ok (.iload_n k, 1)) (hL : L[(k : Nat)]? = some (some (.int x))) (kk : xg X G cs μ I P L (pc + 1) (.int x :: st)) : xg X G cs μ I P L (pc) (st) := fun H locs ls h0 hP hS hl => lv_iload_n hC.1 hC.2.1 d rfl (xL_at hl hL) (kk H locs ls h0 hP hS hl)
theorem r_iload (hC : xC X G cc Ts own nL R) {k : Nat} {x : Int32} (d : decode cc pc = .ok (.iload k, 2)) (hL : L[k]? = some (some (.int x))) (kk : xg X G cs μ I P L (pc + 2) (.int x :: st)) : xg X G cs μ I P L (pc) (st) := fun H locs ls h0 hP hS hl => lv_iload hC.1 hC.2.1 d (xL_at hl hL) (kk H locs ls h0 hP hS hl)
theorem r_aload_n (hC : xC X G cc Ts own nL R) {k : Fin 4} {x : Nat} (d : decode cc pc = .ok (.aload_n k, 1)) (hL : L[(k : Nat)]? = some (some (.ref x))) (kk : xg X G cs μ I P L (pc + 1) (.ref x :: st)) : xg X G cs μ I P L (pc) (st) := fun H locs ls h0 hP hS hl => lv_aload_n hC.1 hC.2.1 d rfl (xL_at hl hL) (kk H locs ls h0 hP hS hl)
theorem r_aload (hC : xC X G cc Ts own nL R) {k : Nat} {x : Nat} (d : decode cc pc = .ok (.aload k, 2)) (hL : L[k]? = some (some (.ref x))) (kk : xg X G cs μ I P L (pc + 2) (.ref x :: st)) : xg X G cs μ I P L (pc) (st) := fun H locs ls h0 hP hS hl => lv_aload hC.1 hC.2.1 d (xL_at hl hL) (kk H locs ls h0 hP hS hl)
theorem r_lload_n (hC : xC X G cc Ts own nL R) {k : Fin 4} {x : Int64} (d : decode cc pc = .ok (.lload_n k, 1)) (hL : L[(k : Nat)]? = some (some (.long x))) (kk : xg X G cs μ I P L (pc + 1) (.long x :: st)) : xg X G cs μ I P L (pc) (st) := fun H locs ls h0 hP hS hl => lv_lload_n hC.1 hC.2.1 d rfl (xL_at hl hL) (kk H locs ls h0 hP hS hl)
theorem r_lload (hC : xC X G cc Ts own nL R) {k : Nat} {x : Int64} (d : decode cc pc = .ok (.lload k, 2)) (hL : L[k]? = some (some (.long x))) (kk : xg X G cs μ I P L (pc + 2) (.long x :: st)) : xg X G cs μ I P L (pc) (st) := fun H locs ls h0 hP hS hl => lv_lload hC.1 hC.2.1 d (xL_at hl hL) (kk H locs ls h0 hP hS hl)
theorem r_fload_n (hC : xC X G cc Ts own nL R) {k : Fin 4} {x : UInt32} (d : decode cc pc = .ok (.fload_n k, 1)) (hL : L[(k : Nat)]? = some (some (.float x))) (kk : xg X G cs μ I P L (pc + 1) (.float x :: st)) : xg X G cs μ I P L (pc) (st) := fun H locs ls h0 hP hS hl => lv_fload_n hC.1 hC.2.1 d rfl (xL_at hl hL) (kk H locs ls h0 hP hS hl)
theorem r_fload (hC : xC X G cc Ts own nL R) {k : Nat} {x : UInt32} (d : decode cc pc = .ok (.fload k, 2)) (hL : L[k]? = some (some (.float x))) (kk : xg X G cs μ I P L (pc + 2) (.float x :: st)) : xg X G cs μ I P L (pc) (st) := fun H locs ls h0 hP hS hl => lv_fload hC.1 hC.2.1 d (xL_at hl hL) (kk H locs ls h0 hP hS hl)
theorem r_istore_n (hC : xC X G cc Ts own nL R) {k : Fin 4} {x : Int32} {L' : List (Option Value)} (d : decode cc pc = .ok (.istore_n k, 1)) (hL : L.set (k : Nat) (some (.int x)) = L') (hk : (k : Nat) < L.length) (h2 : xc2 L (k : Nat) = true) (kk : xg X G cs μ I P L' (pc + 1) (st)) : xg X G cs μ I P L (pc) (.int x :: st) := fun H locs ls h0 hP hS hl => lv_istore_n hC.1 hC.2.1 d rfl hl hk rfl (fun ls1 hl1 => kk H locs ls1 h0 hP hS (by rw [← hL, List.length_set]; exact lv_mono hl1 (xL_store h2)))
theorem r_istore (hC : xC X G cc Ts own nL R) {k : Nat} {x : Int32} {L' : List (Option Value)} (d : decode cc pc = .ok (.istore k, 2)) (hL : L.set (k : Nat) (some (.int x)) = L') (hk : (k : Nat) < L.length) (h2 : xc2 L (k : Nat) = true) (kk : xg X G cs μ I P L' (pc + 2) (st)) : xg X G cs μ I P L (pc) (.int x :: st) := fun H locs ls h0 hP hS hl => lv_istore hC.1 hC.2.1 d hl hk rfl (fun ls1 hl1 => kk H locs ls1 h0 hP hS (by rw [← hL, List.length_set]; exact lv_mono hl1 (xL_store h2)))
theorem r_astore_n (hC : xC X G cc Ts own nL R) {k : Fin 4} {x : Nat} {L' : List (Option Value)} (d : decode cc pc = .ok (.astore_n k, 1)) (hL : L.set (k : Nat) (some (.ref x)) = L') (hk : (k : Nat) < L.length) (h2 : xc2 L (k : Nat) = true) (kk : xg X G cs μ I P L' (pc + 1) (st)) : xg X G cs μ I P L (pc) (.ref x :: st) := fun H locs ls h0 hP hS hl => lv_astore_n hC.1 hC.2.1 d rfl hl hk rfl (fun ls1 hl1 => kk H locs ls1 h0 hP hS (by rw [← hL, List.length_set]; exact lv_mono hl1 (xL_store h2)))
theorem r_astore (hC : xC X G cc Ts own nL R) {k : Nat} {x : Nat} {L' : List (Option Value)} (d : decode cc pc = .ok (.astore k, 2)) (hL : L.set (k : Nat) (some (.ref x)) = L') (hk : (k : Nat) < L.length) (h2 : xc2 L (k : Nat) = true) (kk : xg X G cs μ I P L' (pc + 2) (st)) : xg X G cs μ I P L (pc) (.ref x :: st) := fun H locs ls h0 hP hS hl => lv_astore hC.1 hC.2.1 d hl hk rfl (fun ls1 hl1 => kk H locs ls1 h0 hP hS (by rw [← hL, List.length_set]; exact lv_mono hl1 (xL_store h2)))
theorem r_fstore_n (hC : xC X G cc Ts own nL R) {k : Fin 4} {x : UInt32} {L' : List (Option Value)} (d : decode cc pc = .ok (.fstore_n k, 1)) (hL : L.set (k : Nat) (some (.float x)) = L') (hk : (k : Nat) < L.length) (h2 : xc2 L (k : Nat) = true) (kk : xg X G cs μ I P L' (pc + 1) (st)) : xg X G cs μ I P L (pc) (.float x :: st) := fun H locs ls h0 hP hS hl => lv_fstore_n hC.1 hC.2.1 d rfl hl hk rfl (fun ls1 hl1 => kk H locs ls1 h0 hP hS (by rw [← hL, List.length_set]; exact lv_mono hl1 (xL_store h2)))
theorem r_fstore (hC : xC X G cc Ts own nL R) {k : Nat} {x : UInt32} {L' : List (Option Value)} (d : decode cc pc = .ok (.fstore k, 2)) (hL : L.set (k : Nat) (some (.float x)) = L') (hk : (k : Nat) < L.length) (h2 : xc2 L (k : Nat) = true) (kk : xg X G cs μ I P L' (pc + 2) (st)) : xg X G cs μ I P L (pc) (.float x :: st) := fun H locs ls h0 hP hS hl => lv_fstore hC.1 hC.2.1 d hl hk rfl (fun ls1 hl1 => kk H locs ls1 h0 hP hS (by rw [← hL, List.length_set]; exact lv_mono hl1 (xL_store h2)))
theorem r_lstore (hC : xC X G cc Ts own nL R) {k : Nat} {x : Int64} {L' : List (Option Value)} (d : decode cc pc = .ok (.lstore k, 2)) (hL : (L.set k (some (.long x))).set (k + 1) none = L') (hk : k + 1 < L.length) (h2 : xc2 L k = true) (kk : xg X G cs μ I P L' (pc + 2) (st)) : xg X G cs μ I P L (pc) (.long x :: st) := fun H locs ls h0 hP hS hl => lv_lstore hC.1 hC.2.1 d hl hk rfl (fun ls1 hl1 => kk H locs ls1 h0 hP hS (by rw [← hL, List.length_set, List.length_set]; exact lv_mono hl1 (xL_store2 h2)))
theorem r_iinc (hC : xC X G cc Ts own nL R) {i : Nat} {n : Int} {x v : Int32} {L' : List (Option Value)} (d : decode cc pc = .ok (.iinc i n, 3)) (hx : L[i]? = some (some (.int x))) (hv : Int32.ofInt n = v) (hL : L.set i (some (.int (x + v))) = L') (h2 : xc2 L i = true) (kk : xg X G cs μ I P L' (pc + 3) (st)) : xg X G cs μ I P L (pc) (st) := by
  intro H locs ls h0 hP hS hl
  subst hv
  have hi : i < L.length := (List.getElem?_eq_some_iff.mp hx).1
  obtain ⟨k, hk⟩ := List.getElem?_of_mem ((xL_mem L 0 (i, Value.int x)).mpr ⟨i, by simp, hx⟩)
  exact lv_iinc hC.1 hC.2.1 d hl hk rfl hi rfl (fun ls1 hl1 => kk H locs ls1 h0 hP hS (by rw [← hL, List.length_set]; exact lv_mono hl1 (xL_store h2)))
theorem r_goto (hC : xC X G cc Ts own nL R) {off : Int} {tgt : Nat} (d : decode cc pc = .ok (.goto off, 3)) (ht : (pc : Int) + off = (tgt : Int)) (kk : xg X G cs μ I P L (tgt) (st)) : xg X G cs μ I P L (pc) (st) := fun H locs ls h0 hP hS hl => lv_goto hC.1 hC.2.1 d ht (kk H locs ls h0 hP hS hl)
theorem r_if_eq (hC : xC X G cc Ts own nL R) {x : Int32} {off : Int} {tgt : Nat} (d : decode cc pc = .ok (.ifCond .eq off, 3)) (ht : (pc : Int) + off = (tgt : Int)) (kt : x = 0 → xg X G cs μ I P L (tgt) (st)) (kf : ¬ x = 0 → xg X G cs μ I P L (pc + 3) (st)) : xg X G cs μ I P L (pc) (.int x :: st) := fun H locs ls h0 hP hS hl => lv_if_eq hC.1 hC.2.1 d ht (fun q => kt q H locs ls h0 hP hS hl) (fun q => kf q H locs ls h0 hP hS hl)
theorem r_icmp_eq (hC : xC X G cc Ts own nL R) {x y : Int32} {off : Int} {tgt : Nat} (d : decode cc pc = .ok (.if_icmp .eq off, 3)) (ht : (pc : Int) + off = (tgt : Int)) (kt : x = y → xg X G cs μ I P L (tgt) (st)) (kf : ¬ x = y → xg X G cs μ I P L (pc + 3) (st)) : xg X G cs μ I P L (pc) (.int y :: .int x :: st) := fun H locs ls h0 hP hS hl => lv_icmp_eq hC.1 hC.2.1 d ht (fun q => kt q H locs ls h0 hP hS hl) (fun q => kf q H locs ls h0 hP hS hl)
theorem r_if_ne (hC : xC X G cc Ts own nL R) {x : Int32} {off : Int} {tgt : Nat} (d : decode cc pc = .ok (.ifCond .ne off, 3)) (ht : (pc : Int) + off = (tgt : Int)) (kt : ¬ x = 0 → xg X G cs μ I P L (tgt) (st)) (kf : x = 0 → xg X G cs μ I P L (pc + 3) (st)) : xg X G cs μ I P L (pc) (.int x :: st) := fun H locs ls h0 hP hS hl => lv_if_ne hC.1 hC.2.1 d ht (fun q => kt q H locs ls h0 hP hS hl) (fun q => kf q H locs ls h0 hP hS hl)
theorem r_icmp_ne (hC : xC X G cc Ts own nL R) {x y : Int32} {off : Int} {tgt : Nat} (d : decode cc pc = .ok (.if_icmp .ne off, 3)) (ht : (pc : Int) + off = (tgt : Int)) (kt : ¬ x = y → xg X G cs μ I P L (tgt) (st)) (kf : x = y → xg X G cs μ I P L (pc + 3) (st)) : xg X G cs μ I P L (pc) (.int y :: .int x :: st) := fun H locs ls h0 hP hS hl => lv_icmp_ne hC.1 hC.2.1 d ht (fun q => kt q H locs ls h0 hP hS hl) (fun q => kf q H locs ls h0 hP hS hl)
theorem r_if_lt (hC : xC X G cc Ts own nL R) {x : Int32} {off : Int} {tgt : Nat} (d : decode cc pc = .ok (.ifCond .lt off, 3)) (ht : (pc : Int) + off = (tgt : Int)) (kt : x < 0 → xg X G cs μ I P L (tgt) (st)) (kf : ¬ x < 0 → xg X G cs μ I P L (pc + 3) (st)) : xg X G cs μ I P L (pc) (.int x :: st) := fun H locs ls h0 hP hS hl => lv_if_lt hC.1 hC.2.1 d ht (fun q => kt q H locs ls h0 hP hS hl) (fun q => kf q H locs ls h0 hP hS hl)
theorem r_icmp_lt (hC : xC X G cc Ts own nL R) {x y : Int32} {off : Int} {tgt : Nat} (d : decode cc pc = .ok (.if_icmp .lt off, 3)) (ht : (pc : Int) + off = (tgt : Int)) (kt : x < y → xg X G cs μ I P L (tgt) (st)) (kf : ¬ x < y → xg X G cs μ I P L (pc + 3) (st)) : xg X G cs μ I P L (pc) (.int y :: .int x :: st) := fun H locs ls h0 hP hS hl => lv_icmp_lt hC.1 hC.2.1 d ht (fun q => kt q H locs ls h0 hP hS hl) (fun q => kf q H locs ls h0 hP hS hl)
theorem r_if_ge (hC : xC X G cc Ts own nL R) {x : Int32} {off : Int} {tgt : Nat} (d : decode cc pc = .ok (.ifCond .ge off, 3)) (ht : (pc : Int) + off = (tgt : Int)) (kt : 0 ≤ x → xg X G cs μ I P L (tgt) (st)) (kf : ¬ 0 ≤ x → xg X G cs μ I P L (pc + 3) (st)) : xg X G cs μ I P L (pc) (.int x :: st) := fun H locs ls h0 hP hS hl => lv_if_ge hC.1 hC.2.1 d ht (fun q => kt q H locs ls h0 hP hS hl) (fun q => kf q H locs ls h0 hP hS hl)
theorem r_icmp_ge (hC : xC X G cc Ts own nL R) {x y : Int32} {off : Int} {tgt : Nat} (d : decode cc pc = .ok (.if_icmp .ge off, 3)) (ht : (pc : Int) + off = (tgt : Int)) (kt : y ≤ x → xg X G cs μ I P L (tgt) (st)) (kf : ¬ y ≤ x → xg X G cs μ I P L (pc + 3) (st)) : xg X G cs μ I P L (pc) (.int y :: .int x :: st) := fun H locs ls h0 hP hS hl => lv_icmp_ge hC.1 hC.2.1 d ht (fun q => kt q H locs ls h0 hP hS hl) (fun q => kf q H locs ls h0 hP hS hl)
theorem r_if_gt (hC : xC X G cc Ts own nL R) {x : Int32} {off : Int} {tgt : Nat} (d : decode cc pc = .ok (.ifCond .gt off, 3)) (ht : (pc : Int) + off = (tgt : Int)) (kt : 0 < x → xg X G cs μ I P L (tgt) (st)) (kf : ¬ 0 < x → xg X G cs μ I P L (pc + 3) (st)) : xg X G cs μ I P L (pc) (.int x :: st) := fun H locs ls h0 hP hS hl => lv_if_gt hC.1 hC.2.1 d ht (fun q => kt q H locs ls h0 hP hS hl) (fun q => kf q H locs ls h0 hP hS hl)
theorem r_icmp_gt (hC : xC X G cc Ts own nL R) {x y : Int32} {off : Int} {tgt : Nat} (d : decode cc pc = .ok (.if_icmp .gt off, 3)) (ht : (pc : Int) + off = (tgt : Int)) (kt : y < x → xg X G cs μ I P L (tgt) (st)) (kf : ¬ y < x → xg X G cs μ I P L (pc + 3) (st)) : xg X G cs μ I P L (pc) (.int y :: .int x :: st) := fun H locs ls h0 hP hS hl => lv_icmp_gt hC.1 hC.2.1 d ht (fun q => kt q H locs ls h0 hP hS hl) (fun q => kf q H locs ls h0 hP hS hl)
theorem r_if_le (hC : xC X G cc Ts own nL R) {x : Int32} {off : Int} {tgt : Nat} (d : decode cc pc = .ok (.ifCond .le off, 3)) (ht : (pc : Int) + off = (tgt : Int)) (kt : x ≤ 0 → xg X G cs μ I P L (tgt) (st)) (kf : ¬ x ≤ 0 → xg X G cs μ I P L (pc + 3) (st)) : xg X G cs μ I P L (pc) (.int x :: st) := fun H locs ls h0 hP hS hl => lv_if_le hC.1 hC.2.1 d ht (fun q => kt q H locs ls h0 hP hS hl) (fun q => kf q H locs ls h0 hP hS hl)
theorem r_icmp_le (hC : xC X G cc Ts own nL R) {x y : Int32} {off : Int} {tgt : Nat} (d : decode cc pc = .ok (.if_icmp .le off, 3)) (ht : (pc : Int) + off = (tgt : Int)) (kt : x ≤ y → xg X G cs μ I P L (tgt) (st)) (kf : ¬ x ≤ y → xg X G cs μ I P L (pc + 3) (st)) : xg X G cs μ I P L (pc) (.int y :: .int x :: st) := fun H locs ls h0 hP hS hl => lv_icmp_le hC.1 hC.2.1 d ht (fun q => kt q H locs ls h0 hP hS hl) (fun q => kf q H locs ls h0 hP hS hl)
theorem r_tableOut (hC : xC X G cc Ts own nL R) {dflt lo hi : Int} {offs : Array Int} {len : Nat} {x : Int32} {tgt : Nat} (d : decode cc pc = .ok (.tableswitch dflt lo hi offs, len)) (h : x.toInt < lo ∨ hi < x.toInt) (ht : (pc : Int) + dflt = (tgt : Int)) (kk : xg X G cs μ I P L (tgt) (st)) : xg X G cs μ I P L (pc) (.int x :: st) := fun H locs ls h0 hP hS hl => lv_tableOut hC.1 hC.2.1 d h ht (kk H locs ls h0 hP hS hl)
theorem r_tableIn (hC : xC X G cc Ts own nL R) {dflt lo hi : Int} {offs : Array Int} {len : Nat} {x : Int32} {off : Int} {tgt : Nat} (d : decode cc pc = .ok (.tableswitch dflt lo hi offs, len)) (h1 : ¬ x.toInt < lo) (h2 : ¬ hi < x.toInt) (ho : offs[(x.toInt - lo).toNat]? = some off) (ht : (pc : Int) + off = (tgt : Int)) (kk : xg X G cs μ I P L (tgt) (st)) : xg X G cs μ I P L (pc) (.int x :: st) := fun H locs ls h0 hP hS hl => lv_tableIn hC.1 hC.2.1 d h1 h2 ho ht (kk H locs ls h0 hP hS hl)
theorem r_lookup (hC : xC X G cc Ts own nL R) {dflt : Int} {ps : Array (Int × Int)} {len : Nat} {x : Int32} {off : Int} {tgt : Nat} (d : decode cc pc = .ok (.lookupswitch dflt ps, len)) (hp : (ps.toList.zip (ps.toList.drop 1)).all (fun (a, next) => a.1 < next.1) = true) (ho : Op.lookupswitch.offset ps.toList dflt x.toInt = off) (ht : (pc : Int) + off = (tgt : Int)) (kk : xg X G cs μ I P L (tgt) (st)) : xg X G cs μ I P L (pc) (.int x :: st) := fun H locs ls h0 hP hS hl => lv_lookup hC.1 hC.2.1 d hp ho ht (kk H locs ls h0 hP hS hl)
theorem xret {ret : Option FieldType} {mc ms : Nat} {Ps : xPost} {H : Heap} {locs : List Loc} {v : Option Value} (h0 : xok μ I) (hP : va_P G.1 vwCl (xw G μ I P) H) (hS : va_S (xA G) X.2.2.2.2.1.heap H locs) (hq : Ps v μ I P) (t : State) (ht : t.heap = H) : xQ G Ps X.2.2.2.2.2.2.1 X.2.2.2.2.1 (.returned v) t := by
  subst ht
  exact ⟨⟨v, μ, I, P, rfl, hq, h0, hP⟩, hS.F rfl⟩
theorem r_iret (hC : xC X G cc Ts own nL R) {ty : FieldType} {nm : String} {mc ms : Nat} {Ps : xPost} {v : Int32} (hD : xD X G nm (some ty) mc ms Ps) (hn : narrow ty (.int v) = .int v) (d : decode cc pc = .ok (.ireturn, 1)) (hcs : cs = (mc, ms)) (hq : Ps (some (.int v)) μ I P) : xg X G cs μ I P L (pc) ([.int v]) := by
  intro H locs ls h0 hP hS hl
  subst hcs
  obtain ⟨hr, hlk, -, hQ⟩ := hD
  rw [hQ]
  exact W.zret (ty := ty) hC.1 hC.2.1 hr hn (fun t ht _ => xret (ret := none) (mc := mc) (ms := ms) h0 hP hS hq t ht) hS.2.2 d (hlocks := hlk)
theorem r_vret (hC : xC X G cc Ts own nL R) {nm : String} {mc ms : Nat} {Ps : xPost} (hD : xD X G nm none mc ms Ps) (d : decode cc pc = .ok (.return_, 1)) (hcs : cs = (mc, ms)) (hq : Ps none μ I P) : xg X G cs μ I P L (pc) ([]) := by
  intro H locs ls h0 hP hS hl
  subst hcs
  obtain ⟨hr, hlk, -, hQ⟩ := hD
  rw [hQ]
  exact W.vret hC.1 hC.2.1 hr (fun t ht _ => xret (ret := none) (mc := mc) (ms := ms) h0 hP hS hq t ht) hS.2.2 d (hlocks := hlk)
end XROWS
end
section
section XROWS4
variable {X : xF} {G : xG} {cs : Nat × Nat} {μ : xM} {I : xI} {P : xP} {L : List (Option Value)} {pc : Nat} {st : List Value} {cc : ByteArray} {Ts : List Cond} {own : String} {nL : Nat} {R : Room}
theorem r_get (hC : xC X G cc Ts own nL R) {C : String} {T : u_T} {N ci k index a : Nat} {fs : List Value} {v : Value} (hin : ∀ w ∈ u_ws C T N, w ∈ Ts) (hlink : Cond.fieldLink own index (T k).1 (T k).2.1 (T k).2.2.1 ∈ Ts) (hc : vwCl[ci]? = some (C, T, N)) (hk : k < N) (hn : μ.2.1 a ≠ 0) (he : xe G μ I P a = .inr (ci, fs)) (hv : fs[k]? = some v) (d : decode cc pc = .ok (.getfield index, 3)) (kk : xg X G cs μ I P L (pc + 3) (v :: st)) : xg X G cs μ I P L (pc) (.ref (xZ G + a) :: st) := by
  intro H locs ls h0 hP hS hl
  obtain ⟨j, rfl, hj⟩ := xok_pos h0 hn
  have hw := xw_at (G := G) (I := I) (P := P) hj
  rw [he] at hw
  exact va_get hC.1 hC.2.1 hC.2.2.2.2.1 hin hC.2.2.2.1 hC.2.2.2.2.2.1.1 hP j hw hc k hk (hC.2.2.2.2.1 _ hlink) (fun x h => h) hv d (kk H locs ls h0 hP hS hl)
theorem r_put (hC : xC X G cc Ts own nL R) {C : String} {T : u_T} {N ci k index a : Nat} {fs : List Value} {v : Value} {ty0 : Nat → FieldType} {I' : xI} {P' : xP} (hin : ∀ w ∈ u_ws C T N, w ∈ Ts) (hlink : Cond.fieldLink own index (T k).1 (T k).2.1 (T k).2.2.1 ∈ Ts) (hc : vwCl[ci]? = some (C, T, N)) (hk : k < N) (hty : ∀ k, k < N → parseFieldDescriptor (T k).2.2.1 = some (ty0 k)) (hnm : ∀ a, a < N → ∀ b, b < N → a ≠ b → (T a).2.1 ≠ (T b).2.1) (hfin : (T k).2.2.2 = false) (hn0 : narrow (ty0 k) v = v) (hfit : fits (ty0 k) v = true) (hlen : k < fs.length) (hn : μ.2.1 a ≠ 0) (he : xe G μ I P a = .inr (ci, fs)) (he' : xe G μ I' P' a = .inr (ci, fs.set k v)) (hb : ∀ b, b ≠ a → xe G μ I' P' b = xe G μ I P b) (hT : xty μ I → xty μ I') (d : decode cc pc = .ok (.putfield index, 3)) (kk : xg X G cs μ I' P' L (pc + 3) (st)) : xg X G cs μ I P L (pc) (v :: .ref (xZ G + a) :: st) := by
  intro H locs ls h0 hP hS hl
  obtain ⟨j, rfl, hj⟩ := xok_pos h0 hn
  have hw := xw_at (G := G) (I := I) (P := P) hj
  rw [he] at hw
  refine va_put hC.1 hC.2.1 hC.2.2.2.2.1 hin ty0 hty hnm hC.2.2.2.1 hC.2.2.2.2.2.1.1 hP xw_D hS j hw hc k hk (hC.2.2.2.2.1 _ hlink) (fun x h => h) hfin (hty k hk) hn0 hfit hlen d (fun H1 locs1 hP1 _ hS1 => kk H1 locs1 ls ⟨h0.1, hT h0.2⟩ ?_ hS1 hl)
  rw [xw_set he' hb] at hP1
  exact hP1
theorem r_putF (hC : xC X G cc Ts own nL R) {C : String} {T : u_T} {N ci k index a : Nat} {fs : List Value} {v : Value} {ty0 : Nat → FieldType} {I' : xI} {P' : xP} (hnm2 : X.2.2.2.2.2.2.2.2.1.name = "<init>") (hin : ∀ w ∈ u_ws C T N, w ∈ Ts) (hlink : Cond.fieldLink own index (T k).1 (T k).2.1 (T k).2.2.1 ∈ Ts) (hc : vwCl[ci]? = some (C, T, N)) (hk : k < N) (hty : ∀ k, k < N → parseFieldDescriptor (T k).2.2.1 = some (ty0 k)) (hnm : ∀ a, a < N → ∀ b, b < N → a ≠ b → (T a).2.1 ≠ (T b).2.1) (hfin : (T k).2.2.2 = true) (hdecl : (T k).1 = own) (hn0 : narrow (ty0 k) v = v) (hfit : fits (ty0 k) v = true) (hlen : k < fs.length) (hn : μ.2.1 a ≠ 0) (he : xe G μ I P a = .inr (ci, fs)) (he' : xe G μ I' P' a = .inr (ci, fs.set k v)) (hb : ∀ b, b ≠ a → xe G μ I' P' b = xe G μ I P b) (hT : xty μ I → xty μ I') (d : decode cc pc = .ok (.putfield index, 3)) (kk : xg X G cs μ I' P' L (pc + 3) (st)) : xg X G cs μ I P L (pc) (v :: .ref (xZ G + a) :: st) := by
  intro H locs ls h0 hP hS hl
  obtain ⟨j, rfl, hj⟩ := xok_pos h0 hn
  have hw := xw_at (G := G) (I := I) (P := P) hj
  rw [he] at hw
  refine va_putF hC.1 hC.2.1 hC.2.2.2.2.1 hin ty0 hty hnm hC.2.2.2.1 hC.2.2.2.2.2.1.1 hP xw_D hS j hw hc k hk (hC.2.2.2.2.1 _ hlink) (fun x h => h) hfin hnm2 hdecl (hty k hk) hn0 hfit hlen d (fun H1 locs1 hP1 _ hS1 => kk H1 locs1 ls ⟨h0.1, hT h0.2⟩ ?_ hS1 hl)
  rw [xw_set he' hb] at hP1
  exact hP1
theorem xe_Blind {a : Nat} (hk : μ.2.1 a = 1) : xe G μ I P a = .inr (0, [va_rf (xr G (P a 0)), .int (I a 1), .int (I a 2), va_rf (xr G (P a 3)), .int (I a 4), .int (I a 5), va_rf (xr G (P a 6)), .int (I a 7), .int (I a 8), .int (I a 9), .int (I a 10)]) := by simp only [xe, hk]
theorem g_Blind_rows (hC : xC X G cc Ts own nL R) {a index : Nat} (hin : ∀ w ∈ wsX00, w ∈ Ts) (hlink : Cond.fieldLink own index "HandBlinds$Blind" "rows" "[LHandBlinds$Row;" ∈ Ts) (hk : μ.2.1 a = 1) {c2 : Nat} (hk2 : μ.2.1 (P a 0) = c2) (hc2 : c2 ≠ 0) (d : decode cc pc = .ok (.getfield index, 3)) (kk : xg X G cs μ I P L (pc + 3) (.ref (xZ G + P a 0) :: st)) : xg X G cs μ I P L (pc) (.ref (xZ G + a) :: st) := by
  refine r_get hC (T := TX0) (k := 0) (v := va_rf (xr G (P a 0))) hin hlink rfl (by decide) (by rw [hk]; decide) (xe_Blind hk) rfl d ?_
  intro H locs ls h0 hP hS hl
  rw [xr_ne (fun q => hc2 (by rw [← hk2, q]; exact h0.1.1))]
  exact kk H locs ls h0 hP hS hl
theorem p_Blind_rows (hC : xC X G cc Ts own nL R) {a index v : Nat} (hnm2 : X.2.2.2.2.2.2.2.2.1.name = "<init>") (hown : RX0 = own) (hin : ∀ w ∈ wsX00, w ∈ Ts) (hlink : Cond.fieldLink own index "HandBlinds$Blind" "rows" "[LHandBlinds$Row;" ∈ Ts) (hk : μ.2.1 a = 1) (hv : v ≠ 0) (d : decode cc pc = .ok (.putfield index, 3)) (kk : xg X G cs μ I (xu P a 0 v) L (pc + 3) (st)) : xg X G cs μ I P L (pc) (.ref (xZ G + v) :: .ref (xZ G + a) :: st) :=
  r_putF hC (T := TX0) (k := 0) hnm2 hin hlink rfl (by decide) tyX0_ok nmX0 rfl hown rfl rfl (Nat.le_of_ble_eq_true rfl) (by rw [hk]; decide) (xe_Blind hk) (by rw [xe_Blind hk]; simp [xu, xr, hv, va_rf]) (fun b hb => xe_congr rfl (xu_row hb)) (fun h => h) d kk
theorem g_Blind_rowCount (hC : xC X G cc Ts own nL R) {a index : Nat} (hin : ∀ w ∈ wsX00, w ∈ Ts) (hlink : Cond.fieldLink own index "HandBlinds$Blind" "rowCount" "I" ∈ Ts) (hk : μ.2.1 a = 1) (d : decode cc pc = .ok (.getfield index, 3)) (kk : xg X G cs μ I P L (pc + 3) (.int (I a 1) :: st)) : xg X G cs μ I P L (pc) (.ref (xZ G + a) :: st) := r_get hC (T := TX0) (k := 1) hin hlink rfl (by decide) (by rw [hk]; decide) (xe_Blind hk) rfl d kk
theorem p_Blind_rowCount (hC : xC X G cc Ts own nL R) {a index : Nat} {v : Int32} (hin : ∀ w ∈ wsX00, w ∈ Ts) (hlink : Cond.fieldLink own index "HandBlinds$Blind" "rowCount" "I" ∈ Ts) (hk : μ.2.1 a = 1) (d : decode cc pc = .ok (.putfield index, 3)) (kk : xg X G cs μ (xu I a 1 v) P L (pc + 3) (st)) : xg X G cs μ I P L (pc) (.int v :: .ref (xZ G + a) :: st) :=
  r_put hC (T := TX0) (k := 1) hin hlink rfl (by decide) tyX0_ok nmX0 rfl rfl rfl (Nat.le_of_ble_eq_true rfl) (by rw [hk]; decide) (xe_Blind hk) (by rw [xe_Blind hk]; simp [xu]) (fun b hb => xe_congr (xu_row hb) rfl) (xty_u hk (by decide) (Or.inl (by decide))) d kk
theorem g_Blind_shown (hC : xC X G cc Ts own nL R) {a index : Nat} (hin : ∀ w ∈ wsX00, w ∈ Ts) (hlink : Cond.fieldLink own index "HandBlinds$Blind" "shown" "I" ∈ Ts) (hk : μ.2.1 a = 1) (d : decode cc pc = .ok (.getfield index, 3)) (kk : xg X G cs μ I P L (pc + 3) (.int (I a 2) :: st)) : xg X G cs μ I P L (pc) (.ref (xZ G + a) :: st) := r_get hC (T := TX0) (k := 2) hin hlink rfl (by decide) (by rw [hk]; decide) (xe_Blind hk) rfl d kk
theorem p_Blind_shown (hC : xC X G cc Ts own nL R) {a index : Nat} {v : Int32} (hin : ∀ w ∈ wsX00, w ∈ Ts) (hlink : Cond.fieldLink own index "HandBlinds$Blind" "shown" "I" ∈ Ts) (hk : μ.2.1 a = 1) (d : decode cc pc = .ok (.putfield index, 3)) (kk : xg X G cs μ (xu I a 2 v) P L (pc + 3) (st)) : xg X G cs μ I P L (pc) (.int v :: .ref (xZ G + a) :: st) :=
  r_put hC (T := TX0) (k := 2) hin hlink rfl (by decide) tyX0_ok nmX0 rfl rfl rfl (Nat.le_of_ble_eq_true rfl) (by rw [hk]; decide) (xe_Blind hk) (by rw [xe_Blind hk]; simp [xu]) (fun b hb => xe_congr (xu_row hb) rfl) (xty_u hk (by decide) (Or.inl (by decide))) d kk
theorem g_Blind_routes (hC : xC X G cc Ts own nL R) {a index : Nat} (hin : ∀ w ∈ wsX00, w ∈ Ts) (hlink : Cond.fieldLink own index "HandBlinds$Blind" "routes" "[LHandBlinds$Route;" ∈ Ts) (hk : μ.2.1 a = 1) {c2 : Nat} (hk2 : μ.2.1 (P a 3) = c2) (hc2 : c2 ≠ 0) (d : decode cc pc = .ok (.getfield index, 3)) (kk : xg X G cs μ I P L (pc + 3) (.ref (xZ G + P a 3) :: st)) : xg X G cs μ I P L (pc) (.ref (xZ G + a) :: st) := by
  refine r_get hC (T := TX0) (k := 3) (v := va_rf (xr G (P a 3))) hin hlink rfl (by decide) (by rw [hk]; decide) (xe_Blind hk) rfl d ?_
  intro H locs ls h0 hP hS hl
  rw [xr_ne (fun q => hc2 (by rw [← hk2, q]; exact h0.1.1))]
  exact kk H locs ls h0 hP hS hl
theorem p_Blind_routes (hC : xC X G cc Ts own nL R) {a index v : Nat} (hnm2 : X.2.2.2.2.2.2.2.2.1.name = "<init>") (hown : RX0 = own) (hin : ∀ w ∈ wsX00, w ∈ Ts) (hlink : Cond.fieldLink own index "HandBlinds$Blind" "routes" "[LHandBlinds$Route;" ∈ Ts) (hk : μ.2.1 a = 1) (hv : v ≠ 0) (d : decode cc pc = .ok (.putfield index, 3)) (kk : xg X G cs μ I (xu P a 3 v) L (pc + 3) (st)) : xg X G cs μ I P L (pc) (.ref (xZ G + v) :: .ref (xZ G + a) :: st) :=
  r_putF hC (T := TX0) (k := 3) hnm2 hin hlink rfl (by decide) tyX0_ok nmX0 rfl hown rfl rfl (Nat.le_of_ble_eq_true rfl) (by rw [hk]; decide) (xe_Blind hk) (by rw [xe_Blind hk]; simp [xu, xr, hv, va_rf]) (fun b hb => xe_congr rfl (xu_row hb)) (fun h => h) d kk
theorem g_Blind_routeCount (hC : xC X G cc Ts own nL R) {a index : Nat} (hin : ∀ w ∈ wsX00, w ∈ Ts) (hlink : Cond.fieldLink own index "HandBlinds$Blind" "routeCount" "I" ∈ Ts) (hk : μ.2.1 a = 1) (d : decode cc pc = .ok (.getfield index, 3)) (kk : xg X G cs μ I P L (pc + 3) (.int (I a 4) :: st)) : xg X G cs μ I P L (pc) (.ref (xZ G + a) :: st) := r_get hC (T := TX0) (k := 4) hin hlink rfl (by decide) (by rw [hk]; decide) (xe_Blind hk) rfl d kk
theorem p_Blind_routeCount (hC : xC X G cc Ts own nL R) {a index : Nat} {v : Int32} (hin : ∀ w ∈ wsX00, w ∈ Ts) (hlink : Cond.fieldLink own index "HandBlinds$Blind" "routeCount" "I" ∈ Ts) (hk : μ.2.1 a = 1) (d : decode cc pc = .ok (.putfield index, 3)) (kk : xg X G cs μ (xu I a 4 v) P L (pc + 3) (st)) : xg X G cs μ I P L (pc) (.int v :: .ref (xZ G + a) :: st) :=
  r_put hC (T := TX0) (k := 4) hin hlink rfl (by decide) tyX0_ok nmX0 rfl rfl rfl (Nat.le_of_ble_eq_true rfl) (by rw [hk]; decide) (xe_Blind hk) (by rw [xe_Blind hk]; simp [xu]) (fun b hb => xe_congr (xu_row hb) rfl) (xty_u hk (by decide) (Or.inl (by decide))) d kk
theorem g_Blind_driven (hC : xC X G cc Ts own nL R) {a index : Nat} (hin : ∀ w ∈ wsX00, w ∈ Ts) (hlink : Cond.fieldLink own index "HandBlinds$Blind" "driven" "I" ∈ Ts) (hk : μ.2.1 a = 1) (d : decode cc pc = .ok (.getfield index, 3)) (kk : xg X G cs μ I P L (pc + 3) (.int (I a 5) :: st)) : xg X G cs μ I P L (pc) (.ref (xZ G + a) :: st) := r_get hC (T := TX0) (k := 5) hin hlink rfl (by decide) (by rw [hk]; decide) (xe_Blind hk) rfl d kk
theorem p_Blind_driven (hC : xC X G cc Ts own nL R) {a index : Nat} {v : Int32} (hin : ∀ w ∈ wsX00, w ∈ Ts) (hlink : Cond.fieldLink own index "HandBlinds$Blind" "driven" "I" ∈ Ts) (hk : μ.2.1 a = 1) (d : decode cc pc = .ok (.putfield index, 3)) (kk : xg X G cs μ (xu I a 5 v) P L (pc + 3) (st)) : xg X G cs μ I P L (pc) (.int v :: .ref (xZ G + a) :: st) :=
  r_put hC (T := TX0) (k := 5) hin hlink rfl (by decide) tyX0_ok nmX0 rfl rfl rfl (Nat.le_of_ble_eq_true rfl) (by rw [hk]; decide) (xe_Blind hk) (by rw [xe_Blind hk]; simp [xu]) (fun b hb => xe_congr (xu_row hb) rfl) (xty_u hk (by decide) (Or.inl (by decide))) d kk
theorem g_Blind_settings (hC : xC X G cc Ts own nL R) {a index : Nat} (hin : ∀ w ∈ wsX00, w ∈ Ts) (hlink : Cond.fieldLink own index "HandBlinds$Blind" "settings" "[I" ∈ Ts) (hk : μ.2.1 a = 1) {c2 : Nat} (hk2 : μ.2.1 (P a 6) = c2) (hc2 : c2 ≠ 0) (d : decode cc pc = .ok (.getfield index, 3)) (kk : xg X G cs μ I P L (pc + 3) (.ref (xZ G + P a 6) :: st)) : xg X G cs μ I P L (pc) (.ref (xZ G + a) :: st) := by
  refine r_get hC (T := TX0) (k := 6) (v := va_rf (xr G (P a 6))) hin hlink rfl (by decide) (by rw [hk]; decide) (xe_Blind hk) rfl d ?_
  intro H locs ls h0 hP hS hl
  rw [xr_ne (fun q => hc2 (by rw [← hk2, q]; exact h0.1.1))]
  exact kk H locs ls h0 hP hS hl
theorem p_Blind_settings (hC : xC X G cc Ts own nL R) {a index v : Nat} (hnm2 : X.2.2.2.2.2.2.2.2.1.name = "<init>") (hown : RX0 = own) (hin : ∀ w ∈ wsX00, w ∈ Ts) (hlink : Cond.fieldLink own index "HandBlinds$Blind" "settings" "[I" ∈ Ts) (hk : μ.2.1 a = 1) (hv : v ≠ 0) (d : decode cc pc = .ok (.putfield index, 3)) (kk : xg X G cs μ I (xu P a 6 v) L (pc + 3) (st)) : xg X G cs μ I P L (pc) (.ref (xZ G + v) :: .ref (xZ G + a) :: st) :=
  r_putF hC (T := TX0) (k := 6) hnm2 hin hlink rfl (by decide) tyX0_ok nmX0 rfl hown rfl rfl (Nat.le_of_ble_eq_true rfl) (by rw [hk]; decide) (xe_Blind hk) (by rw [xe_Blind hk]; simp [xu, xr, hv, va_rf]) (fun b hb => xe_congr rfl (xu_row hb)) (fun h => h) d kk
theorem g_Blind_tears (hC : xC X G cc Ts own nL R) {a index : Nat} (hin : ∀ w ∈ wsX00, w ∈ Ts) (hlink : Cond.fieldLink own index "HandBlinds$Blind" "tears" "I" ∈ Ts) (hk : μ.2.1 a = 1) (d : decode cc pc = .ok (.getfield index, 3)) (kk : xg X G cs μ I P L (pc + 3) (.int (I a 7) :: st)) : xg X G cs μ I P L (pc) (.ref (xZ G + a) :: st) := r_get hC (T := TX0) (k := 7) hin hlink rfl (by decide) (by rw [hk]; decide) (xe_Blind hk) rfl d kk
theorem p_Blind_tears (hC : xC X G cc Ts own nL R) {a index : Nat} {v : Int32} (hin : ∀ w ∈ wsX00, w ∈ Ts) (hlink : Cond.fieldLink own index "HandBlinds$Blind" "tears" "I" ∈ Ts) (hk : μ.2.1 a = 1) (d : decode cc pc = .ok (.putfield index, 3)) (kk : xg X G cs μ (xu I a 7 v) P L (pc + 3) (st)) : xg X G cs μ I P L (pc) (.int v :: .ref (xZ G + a) :: st) :=
  r_put hC (T := TX0) (k := 7) hin hlink rfl (by decide) tyX0_ok nmX0 rfl rfl rfl (Nat.le_of_ble_eq_true rfl) (by rw [hk]; decide) (xe_Blind hk) (by rw [xe_Blind hk]; simp [xu]) (fun b hb => xe_congr (xu_row hb) rfl) (xty_u hk (by decide) (Or.inl (by decide))) d kk
theorem g_Blind_passed (hC : xC X G cc Ts own nL R) {a index : Nat} (hin : ∀ w ∈ wsX00, w ∈ Ts) (hlink : Cond.fieldLink own index "HandBlinds$Blind" "passed" "I" ∈ Ts) (hk : μ.2.1 a = 1) (d : decode cc pc = .ok (.getfield index, 3)) (kk : xg X G cs μ I P L (pc + 3) (.int (I a 8) :: st)) : xg X G cs μ I P L (pc) (.ref (xZ G + a) :: st) := r_get hC (T := TX0) (k := 8) hin hlink rfl (by decide) (by rw [hk]; decide) (xe_Blind hk) rfl d kk
theorem p_Blind_passed (hC : xC X G cc Ts own nL R) {a index : Nat} {v : Int32} (hin : ∀ w ∈ wsX00, w ∈ Ts) (hlink : Cond.fieldLink own index "HandBlinds$Blind" "passed" "I" ∈ Ts) (hk : μ.2.1 a = 1) (d : decode cc pc = .ok (.putfield index, 3)) (kk : xg X G cs μ (xu I a 8 v) P L (pc + 3) (st)) : xg X G cs μ I P L (pc) (.int v :: .ref (xZ G + a) :: st) :=
  r_put hC (T := TX0) (k := 8) hin hlink rfl (by decide) tyX0_ok nmX0 rfl rfl rfl (Nat.le_of_ble_eq_true rfl) (by rw [hk]; decide) (xe_Blind hk) (by rw [xe_Blind hk]; simp [xu]) (fun b hb => xe_congr (xu_row hb) rfl) (xty_u hk (by decide) (Or.inl (by decide))) d kk
theorem g_Blind_stops (hC : xC X G cc Ts own nL R) {a index : Nat} (hin : ∀ w ∈ wsX00, w ∈ Ts) (hlink : Cond.fieldLink own index "HandBlinds$Blind" "stops" "I" ∈ Ts) (hk : μ.2.1 a = 1) (d : decode cc pc = .ok (.getfield index, 3)) (kk : xg X G cs μ I P L (pc + 3) (.int (I a 9) :: st)) : xg X G cs μ I P L (pc) (.ref (xZ G + a) :: st) := r_get hC (T := TX0) (k := 9) hin hlink rfl (by decide) (by rw [hk]; decide) (xe_Blind hk) rfl d kk
theorem p_Blind_stops (hC : xC X G cc Ts own nL R) {a index : Nat} {v : Int32} (hin : ∀ w ∈ wsX00, w ∈ Ts) (hlink : Cond.fieldLink own index "HandBlinds$Blind" "stops" "I" ∈ Ts) (hk : μ.2.1 a = 1) (d : decode cc pc = .ok (.putfield index, 3)) (kk : xg X G cs μ (xu I a 9 v) P L (pc + 3) (st)) : xg X G cs μ I P L (pc) (.int v :: .ref (xZ G + a) :: st) :=
  r_put hC (T := TX0) (k := 9) hin hlink rfl (by decide) tyX0_ok nmX0 rfl rfl rfl (Nat.le_of_ble_eq_true rfl) (by rw [hk]; decide) (xe_Blind hk) (by rw [xe_Blind hk]; simp [xu]) (fun b hb => xe_congr (xu_row hb) rfl) (xty_u hk (by decide) (Or.inl (by decide))) d kk
theorem g_Blind_rightStops (hC : xC X G cc Ts own nL R) {a index : Nat} (hin : ∀ w ∈ wsX00, w ∈ Ts) (hlink : Cond.fieldLink own index "HandBlinds$Blind" "rightStops" "I" ∈ Ts) (hk : μ.2.1 a = 1) (d : decode cc pc = .ok (.getfield index, 3)) (kk : xg X G cs μ I P L (pc + 3) (.int (I a 10) :: st)) : xg X G cs μ I P L (pc) (.ref (xZ G + a) :: st) := r_get hC (T := TX0) (k := 10) hin hlink rfl (by decide) (by rw [hk]; decide) (xe_Blind hk) rfl d kk
theorem p_Blind_rightStops (hC : xC X G cc Ts own nL R) {a index : Nat} {v : Int32} (hin : ∀ w ∈ wsX00, w ∈ Ts) (hlink : Cond.fieldLink own index "HandBlinds$Blind" "rightStops" "I" ∈ Ts) (hk : μ.2.1 a = 1) (d : decode cc pc = .ok (.putfield index, 3)) (kk : xg X G cs μ (xu I a 10 v) P L (pc + 3) (st)) : xg X G cs μ I P L (pc) (.int v :: .ref (xZ G + a) :: st) :=
  r_put hC (T := TX0) (k := 10) hin hlink rfl (by decide) tyX0_ok nmX0 rfl rfl rfl (Nat.le_of_ble_eq_true rfl) (by rw [hk]; decide) (xe_Blind hk) (by rw [xe_Blind hk]; simp [xu]) (fun b hb => xe_congr (xu_row hb) rfl) (xty_u hk (by decide) (Or.inl (by decide))) d kk
theorem xe_Route {a : Nat} (hk : μ.2.1 a = 2) : xe G μ I P a = .inr (1, [.int (I a 0), .int (I a 1), .int (I a 2)]) := by simp only [xe, hk]
theorem g_Route_rows (hC : xC X G cc Ts own nL R) {a index : Nat} (hin : ∀ w ∈ wsX10, w ∈ Ts) (hlink : Cond.fieldLink own index "HandBlinds$Route" "rows" "I" ∈ Ts) (hk : μ.2.1 a = 2) (d : decode cc pc = .ok (.getfield index, 3)) (kk : xg X G cs μ I P L (pc + 3) (.int (I a 0) :: st)) : xg X G cs μ I P L (pc) (.ref (xZ G + a) :: st) := r_get hC (T := TX1) (k := 0) hin hlink rfl (by decide) (by rw [hk]; decide) (xe_Route hk) rfl d kk
theorem p_Route_rows (hC : xC X G cc Ts own nL R) {a index : Nat} {v : Int32} (hin : ∀ w ∈ wsX10, w ∈ Ts) (hlink : Cond.fieldLink own index "HandBlinds$Route" "rows" "I" ∈ Ts) (hk : μ.2.1 a = 2) (d : decode cc pc = .ok (.putfield index, 3)) (kk : xg X G cs μ (xu I a 0 v) P L (pc + 3) (st)) : xg X G cs μ I P L (pc) (.int v :: .ref (xZ G + a) :: st) :=
  r_put hC (T := TX1) (k := 0) hin hlink rfl (by decide) tyX1_ok nmX1 rfl rfl rfl (Nat.le_of_ble_eq_true rfl) (by rw [hk]; decide) (xe_Route hk) (by rw [xe_Route hk]; simp [xu]) (fun b hb => xe_congr (xu_row hb) rfl) (xty_u hk (by decide) (Or.inl (by decide))) d kk
theorem g_Route_stops (hC : xC X G cc Ts own nL R) {a index : Nat} (hin : ∀ w ∈ wsX10, w ∈ Ts) (hlink : Cond.fieldLink own index "HandBlinds$Route" "stops" "I" ∈ Ts) (hk : μ.2.1 a = 2) (d : decode cc pc = .ok (.getfield index, 3)) (kk : xg X G cs μ I P L (pc + 3) (.int (I a 1) :: st)) : xg X G cs μ I P L (pc) (.ref (xZ G + a) :: st) := r_get hC (T := TX1) (k := 1) hin hlink rfl (by decide) (by rw [hk]; decide) (xe_Route hk) rfl d kk
theorem p_Route_stops (hC : xC X G cc Ts own nL R) {a index : Nat} {v : Int32} (hin : ∀ w ∈ wsX10, w ∈ Ts) (hlink : Cond.fieldLink own index "HandBlinds$Route" "stops" "I" ∈ Ts) (hk : μ.2.1 a = 2) (d : decode cc pc = .ok (.putfield index, 3)) (kk : xg X G cs μ (xu I a 1 v) P L (pc + 3) (st)) : xg X G cs μ I P L (pc) (.int v :: .ref (xZ G + a) :: st) :=
  r_put hC (T := TX1) (k := 1) hin hlink rfl (by decide) tyX1_ok nmX1 rfl rfl rfl (Nat.le_of_ble_eq_true rfl) (by rw [hk]; decide) (xe_Route hk) (by rw [xe_Route hk]; simp [xu]) (fun b hb => xe_congr (xu_row hb) rfl) (xty_u hk (by decide) (Or.inl (by decide))) d kk
theorem g_Route_rightStops (hC : xC X G cc Ts own nL R) {a index : Nat} (hin : ∀ w ∈ wsX10, w ∈ Ts) (hlink : Cond.fieldLink own index "HandBlinds$Route" "rightStops" "I" ∈ Ts) (hk : μ.2.1 a = 2) (d : decode cc pc = .ok (.getfield index, 3)) (kk : xg X G cs μ I P L (pc + 3) (.int (I a 2) :: st)) : xg X G cs μ I P L (pc) (.ref (xZ G + a) :: st) := r_get hC (T := TX1) (k := 2) hin hlink rfl (by decide) (by rw [hk]; decide) (xe_Route hk) rfl d kk
theorem p_Route_rightStops (hC : xC X G cc Ts own nL R) {a index : Nat} {v : Int32} (hin : ∀ w ∈ wsX10, w ∈ Ts) (hlink : Cond.fieldLink own index "HandBlinds$Route" "rightStops" "I" ∈ Ts) (hk : μ.2.1 a = 2) (d : decode cc pc = .ok (.putfield index, 3)) (kk : xg X G cs μ (xu I a 2 v) P L (pc + 3) (st)) : xg X G cs μ I P L (pc) (.int v :: .ref (xZ G + a) :: st) :=
  r_put hC (T := TX1) (k := 2) hin hlink rfl (by decide) tyX1_ok nmX1 rfl rfl rfl (Nat.le_of_ble_eq_true rfl) (by rw [hk]; decide) (xe_Route hk) (by rw [xe_Route hk]; simp [xu]) (fun b hb => xe_congr (xu_row hb) rfl) (xty_u hk (by decide) (Or.inl (by decide))) d kk
theorem xe_Row {a : Nat} (hk : μ.2.1 a = 3) : xe G μ I P a = .inr (2, [va_rf (xr G (P a 0)), .int (I a 1), .int (I a 2), .int (I a 3)]) := by simp only [xe, hk]
theorem g_Row_letters (hC : xC X G cc Ts own nL R) {a index : Nat} (hin : ∀ w ∈ wsX20, w ∈ Ts) (hlink : Cond.fieldLink own index "HandBlinds$Row" "letters" "[C" ∈ Ts) (hk : μ.2.1 a = 3) {c2 : Nat} (hk2 : μ.2.1 (P a 0) = c2) (hc2 : c2 ≠ 0) (d : decode cc pc = .ok (.getfield index, 3)) (kk : xg X G cs μ I P L (pc + 3) (.ref (xZ G + P a 0) :: st)) : xg X G cs μ I P L (pc) (.ref (xZ G + a) :: st) := by
  refine r_get hC (T := TX2) (k := 0) (v := va_rf (xr G (P a 0))) hin hlink rfl (by decide) (by rw [hk]; decide) (xe_Row hk) rfl d ?_
  intro H locs ls h0 hP hS hl
  rw [xr_ne (fun q => hc2 (by rw [← hk2, q]; exact h0.1.1))]
  exact kk H locs ls h0 hP hS hl
theorem p_Row_letters (hC : xC X G cc Ts own nL R) {a index v : Nat} (hnm2 : X.2.2.2.2.2.2.2.2.1.name = "<init>") (hown : RX2 = own) (hin : ∀ w ∈ wsX20, w ∈ Ts) (hlink : Cond.fieldLink own index "HandBlinds$Row" "letters" "[C" ∈ Ts) (hk : μ.2.1 a = 3) (hv : v ≠ 0) (d : decode cc pc = .ok (.putfield index, 3)) (kk : xg X G cs μ I (xu P a 0 v) L (pc + 3) (st)) : xg X G cs μ I P L (pc) (.ref (xZ G + v) :: .ref (xZ G + a) :: st) :=
  r_putF hC (T := TX2) (k := 0) hnm2 hin hlink rfl (by decide) tyX2_ok nmX2 rfl hown rfl rfl (Nat.le_of_ble_eq_true rfl) (by rw [hk]; decide) (xe_Row hk) (by rw [xe_Row hk]; simp [xu, xr, hv, va_rf]) (fun b hb => xe_congr rfl (xu_row hb)) (fun h => h) d kk
theorem g_Row_length (hC : xC X G cc Ts own nL R) {a index : Nat} (hin : ∀ w ∈ wsX20, w ∈ Ts) (hlink : Cond.fieldLink own index "HandBlinds$Row" "length" "I" ∈ Ts) (hk : μ.2.1 a = 3) (d : decode cc pc = .ok (.getfield index, 3)) (kk : xg X G cs μ I P L (pc + 3) (.int (I a 1) :: st)) : xg X G cs μ I P L (pc) (.ref (xZ G + a) :: st) := r_get hC (T := TX2) (k := 1) hin hlink rfl (by decide) (by rw [hk]; decide) (xe_Row hk) rfl d kk
theorem p_Row_length (hC : xC X G cc Ts own nL R) {a index : Nat} {v : Int32} (hin : ∀ w ∈ wsX20, w ∈ Ts) (hlink : Cond.fieldLink own index "HandBlinds$Row" "length" "I" ∈ Ts) (hk : μ.2.1 a = 3) (d : decode cc pc = .ok (.putfield index, 3)) (kk : xg X G cs μ (xu I a 1 v) P L (pc + 3) (st)) : xg X G cs μ I P L (pc) (.int v :: .ref (xZ G + a) :: st) :=
  r_put hC (T := TX2) (k := 1) hin hlink rfl (by decide) tyX2_ok nmX2 rfl rfl rfl (Nat.le_of_ble_eq_true rfl) (by rw [hk]; decide) (xe_Row hk) (by rw [xe_Row hk]; simp [xu]) (fun b hb => xe_congr (xu_row hb) rfl) (xty_u hk (by decide) (Or.inr (by decide))) d kk
theorem g_Row_wear (hC : xC X G cc Ts own nL R) {a index : Nat} (hin : ∀ w ∈ wsX20, w ∈ Ts) (hlink : Cond.fieldLink own index "HandBlinds$Row" "wear" "I" ∈ Ts) (hk : μ.2.1 a = 3) (d : decode cc pc = .ok (.getfield index, 3)) (kk : xg X G cs μ I P L (pc + 3) (.int (I a 2) :: st)) : xg X G cs μ I P L (pc) (.ref (xZ G + a) :: st) := r_get hC (T := TX2) (k := 2) hin hlink rfl (by decide) (by rw [hk]; decide) (xe_Row hk) rfl d kk
theorem p_Row_wear (hC : xC X G cc Ts own nL R) {a index : Nat} {v : Int32} (hin : ∀ w ∈ wsX20, w ∈ Ts) (hlink : Cond.fieldLink own index "HandBlinds$Row" "wear" "I" ∈ Ts) (hk : μ.2.1 a = 3) (d : decode cc pc = .ok (.putfield index, 3)) (kk : xg X G cs μ (xu I a 2 v) P L (pc + 3) (st)) : xg X G cs μ I P L (pc) (.int v :: .ref (xZ G + a) :: st) :=
  r_put hC (T := TX2) (k := 2) hin hlink rfl (by decide) tyX2_ok nmX2 rfl rfl rfl (Nat.le_of_ble_eq_true rfl) (by rw [hk]; decide) (xe_Row hk) (by rw [xe_Row hk]; simp [xu]) (fun b hb => xe_congr (xu_row hb) rfl) (xty_u hk (by decide) (Or.inr (by decide))) d kk
theorem g_Row_torn (hC : xC X G cc Ts own nL R) {a index : Nat} (hin : ∀ w ∈ wsX20, w ∈ Ts) (hlink : Cond.fieldLink own index "HandBlinds$Row" "torn" "Z" ∈ Ts) (hk : μ.2.1 a = 3) (d : decode cc pc = .ok (.getfield index, 3)) (kk : xg X G cs μ I P L (pc + 3) (.int (I a 3) :: st)) : xg X G cs μ I P L (pc) (.ref (xZ G + a) :: st) := r_get hC (T := TX2) (k := 3) hin hlink rfl (by decide) (by rw [hk]; decide) (xe_Row hk) rfl d kk
theorem p_Row_torn (hC : xC X G cc Ts own nL R) {a index : Nat} {v : Int32} (hv : v = 0 ∨ v = 1) (hin : ∀ w ∈ wsX20, w ∈ Ts) (hlink : Cond.fieldLink own index "HandBlinds$Row" "torn" "Z" ∈ Ts) (hk : μ.2.1 a = 3) (d : decode cc pc = .ok (.putfield index, 3)) (kk : xg X G cs μ (xu I a 3 v) P L (pc + 3) (st)) : xg X G cs μ I P L (pc) (.int v :: .ref (xZ G + a) :: st) :=
  r_put hC (T := TX2) (k := 3) hin hlink rfl (by decide) tyX2_ok nmX2 rfl (by rcases hv with rfl | rfl <;> rfl) (by rcases hv with rfl | rfl <;> rfl) (Nat.le_of_ble_eq_true rfl) (by rw [hk]; decide) (xe_Row hk) (by rw [xe_Row hk]; simp [xu]) (fun b hb => xe_congr (xu_row hb) rfl) (xty_t hk hv) d kk
theorem xe_Text {a : Nat} (hk : μ.2.1 a = 4) : xe G μ I P a = .inr (3, [va_rf (xr G (P a 0)), .int (I a 1)]) := by simp only [xe, hk]
theorem g_Text_signs (hC : xC X G cc Ts own nL R) {a index : Nat} (hin : ∀ w ∈ wsX30, w ∈ Ts) (hlink : Cond.fieldLink own index "HandBlinds$Text" "signs" "[C" ∈ Ts) (hk : μ.2.1 a = 4) {c2 : Nat} (hk2 : μ.2.1 (P a 0) = c2) (hc2 : c2 ≠ 0) (d : decode cc pc = .ok (.getfield index, 3)) (kk : xg X G cs μ I P L (pc + 3) (.ref (xZ G + P a 0) :: st)) : xg X G cs μ I P L (pc) (.ref (xZ G + a) :: st) := by
  refine r_get hC (T := TX3) (k := 0) (v := va_rf (xr G (P a 0))) hin hlink rfl (by decide) (by rw [hk]; decide) (xe_Text hk) rfl d ?_
  intro H locs ls h0 hP hS hl
  rw [xr_ne (fun q => hc2 (by rw [← hk2, q]; exact h0.1.1))]
  exact kk H locs ls h0 hP hS hl
theorem p_Text_signs (hC : xC X G cc Ts own nL R) {a index v : Nat} (hnm2 : X.2.2.2.2.2.2.2.2.1.name = "<init>") (hown : RX3 = own) (hin : ∀ w ∈ wsX30, w ∈ Ts) (hlink : Cond.fieldLink own index "HandBlinds$Text" "signs" "[C" ∈ Ts) (hk : μ.2.1 a = 4) (hv : v ≠ 0) (d : decode cc pc = .ok (.putfield index, 3)) (kk : xg X G cs μ I (xu P a 0 v) L (pc + 3) (st)) : xg X G cs μ I P L (pc) (.ref (xZ G + v) :: .ref (xZ G + a) :: st) :=
  r_putF hC (T := TX3) (k := 0) hnm2 hin hlink rfl (by decide) tyX3_ok nmX3 rfl hown rfl rfl (Nat.le_of_ble_eq_true rfl) (by rw [hk]; decide) (xe_Text hk) (by rw [xe_Text hk]; simp [xu, xr, hv, va_rf]) (fun b hb => xe_congr rfl (xu_row hb)) (fun h => h) d kk
theorem g_Text_length (hC : xC X G cc Ts own nL R) {a index : Nat} (hin : ∀ w ∈ wsX30, w ∈ Ts) (hlink : Cond.fieldLink own index "HandBlinds$Text" "length" "I" ∈ Ts) (hk : μ.2.1 a = 4) (d : decode cc pc = .ok (.getfield index, 3)) (kk : xg X G cs μ I P L (pc + 3) (.int (I a 1) :: st)) : xg X G cs μ I P L (pc) (.ref (xZ G + a) :: st) := r_get hC (T := TX3) (k := 1) hin hlink rfl (by decide) (by rw [hk]; decide) (xe_Text hk) rfl d kk
theorem p_Text_length (hC : xC X G cc Ts own nL R) {a index : Nat} {v : Int32} (hin : ∀ w ∈ wsX30, w ∈ Ts) (hlink : Cond.fieldLink own index "HandBlinds$Text" "length" "I" ∈ Ts) (hk : μ.2.1 a = 4) (d : decode cc pc = .ok (.putfield index, 3)) (kk : xg X G cs μ (xu I a 1 v) P L (pc + 3) (st)) : xg X G cs μ I P L (pc) (.int v :: .ref (xZ G + a) :: st) :=
  r_put hC (T := TX3) (k := 1) hin hlink rfl (by decide) tyX3_ok nmX3 rfl rfl rfl (Nat.le_of_ble_eq_true rfl) (by rw [hk]; decide) (xe_Text hk) (by rw [xe_Text hk]; simp [xu]) (fun b hb => xe_congr (xu_row hb) rfl) (xty_u hk (by decide) (Or.inl (by decide))) d kk
theorem xe_HB {a : Nat} (hk : μ.2.1 a = 5) : xe G μ I P a = .inr (4, [va_rf (xr G (P a 0)), va_rf (xr G (P a 1)), va_rf (xr G (P a 2)), .int (I a 3)]) := by simp only [xe, hk]
theorem g_HB_text (hC : xC X G cc Ts own nL R) {a index : Nat} (hin : ∀ w ∈ wsX40, w ∈ Ts) (hlink : Cond.fieldLink own index "HandBlinds" "text" "LHandBlinds$Text;" ∈ Ts) (hk : μ.2.1 a = 5) {c2 : Nat} (hk2 : μ.2.1 (P a 0) = c2) (hc2 : c2 ≠ 0) (d : decode cc pc = .ok (.getfield index, 3)) (kk : xg X G cs μ I P L (pc + 3) (.ref (xZ G + P a 0) :: st)) : xg X G cs μ I P L (pc) (.ref (xZ G + a) :: st) := by
  refine r_get hC (T := TX4) (k := 0) (v := va_rf (xr G (P a 0))) hin hlink rfl (by decide) (by rw [hk]; decide) (xe_HB hk) rfl d ?_
  intro H locs ls h0 hP hS hl
  rw [xr_ne (fun q => hc2 (by rw [← hk2, q]; exact h0.1.1))]
  exact kk H locs ls h0 hP hS hl
theorem p_HB_text (hC : xC X G cc Ts own nL R) {a index v : Nat} (hnm2 : X.2.2.2.2.2.2.2.2.1.name = "<init>") (hown : RX4 = own) (hin : ∀ w ∈ wsX40, w ∈ Ts) (hlink : Cond.fieldLink own index "HandBlinds" "text" "LHandBlinds$Text;" ∈ Ts) (hk : μ.2.1 a = 5) (hv : v ≠ 0) (d : decode cc pc = .ok (.putfield index, 3)) (kk : xg X G cs μ I (xu P a 0 v) L (pc + 3) (st)) : xg X G cs μ I P L (pc) (.ref (xZ G + v) :: .ref (xZ G + a) :: st) :=
  r_putF hC (T := TX4) (k := 0) hnm2 hin hlink rfl (by decide) tyX4_ok nmX4 rfl hown rfl rfl (Nat.le_of_ble_eq_true rfl) (by rw [hk]; decide) (xe_HB hk) (by rw [xe_HB hk]; simp [xu, xr, hv, va_rf]) (fun b hb => xe_congr rfl (xu_row hb)) (fun h => h) d kk
theorem g_HB_now (hC : xC X G cc Ts own nL R) {a index : Nat} (hin : ∀ w ∈ wsX40, w ∈ Ts) (hlink : Cond.fieldLink own index "HandBlinds" "now" "LHandBlinds$Blind;" ∈ Ts) (hk : μ.2.1 a = 5) {c2 : Nat} (hk2 : μ.2.1 (P a 1) = c2) (hc2 : c2 ≠ 0) (d : decode cc pc = .ok (.getfield index, 3)) (kk : xg X G cs μ I P L (pc + 3) (.ref (xZ G + P a 1) :: st)) : xg X G cs μ I P L (pc) (.ref (xZ G + a) :: st) := by
  refine r_get hC (T := TX4) (k := 1) (v := va_rf (xr G (P a 1))) hin hlink rfl (by decide) (by rw [hk]; decide) (xe_HB hk) rfl d ?_
  intro H locs ls h0 hP hS hl
  rw [xr_ne (fun q => hc2 (by rw [← hk2, q]; exact h0.1.1))]
  exact kk H locs ls h0 hP hS hl
theorem p_HB_now (hC : xC X G cc Ts own nL R) {a index v : Nat} (hnm2 : X.2.2.2.2.2.2.2.2.1.name = "<init>") (hown : RX4 = own) (hin : ∀ w ∈ wsX40, w ∈ Ts) (hlink : Cond.fieldLink own index "HandBlinds" "now" "LHandBlinds$Blind;" ∈ Ts) (hk : μ.2.1 a = 5) (hv : v ≠ 0) (d : decode cc pc = .ok (.putfield index, 3)) (kk : xg X G cs μ I (xu P a 1 v) L (pc + 3) (st)) : xg X G cs μ I P L (pc) (.ref (xZ G + v) :: .ref (xZ G + a) :: st) :=
  r_putF hC (T := TX4) (k := 1) hnm2 hin hlink rfl (by decide) tyX4_ok nmX4 rfl hown rfl rfl (Nat.le_of_ble_eq_true rfl) (by rw [hk]; decide) (xe_HB hk) (by rw [xe_HB hk]; simp [xu, xr, hv, va_rf]) (fun b hb => xe_congr rfl (xu_row hb)) (fun h => h) d kk
theorem g_HB_history (hC : xC X G cc Ts own nL R) {a index : Nat} (hin : ∀ w ∈ wsX40, w ∈ Ts) (hlink : Cond.fieldLink own index "HandBlinds" "history" "[LHandBlinds$Blind;" ∈ Ts) (hk : μ.2.1 a = 5) {c2 : Nat} (hk2 : μ.2.1 (P a 2) = c2) (hc2 : c2 ≠ 0) (d : decode cc pc = .ok (.getfield index, 3)) (kk : xg X G cs μ I P L (pc + 3) (.ref (xZ G + P a 2) :: st)) : xg X G cs μ I P L (pc) (.ref (xZ G + a) :: st) := by
  refine r_get hC (T := TX4) (k := 2) (v := va_rf (xr G (P a 2))) hin hlink rfl (by decide) (by rw [hk]; decide) (xe_HB hk) rfl d ?_
  intro H locs ls h0 hP hS hl
  rw [xr_ne (fun q => hc2 (by rw [← hk2, q]; exact h0.1.1))]
  exact kk H locs ls h0 hP hS hl
theorem p_HB_history (hC : xC X G cc Ts own nL R) {a index v : Nat} (hnm2 : X.2.2.2.2.2.2.2.2.1.name = "<init>") (hown : RX4 = own) (hin : ∀ w ∈ wsX40, w ∈ Ts) (hlink : Cond.fieldLink own index "HandBlinds" "history" "[LHandBlinds$Blind;" ∈ Ts) (hk : μ.2.1 a = 5) (hv : v ≠ 0) (d : decode cc pc = .ok (.putfield index, 3)) (kk : xg X G cs μ I (xu P a 2 v) L (pc + 3) (st)) : xg X G cs μ I P L (pc) (.ref (xZ G + v) :: .ref (xZ G + a) :: st) :=
  r_putF hC (T := TX4) (k := 2) hnm2 hin hlink rfl (by decide) tyX4_ok nmX4 rfl hown rfl rfl (Nat.le_of_ble_eq_true rfl) (by rw [hk]; decide) (xe_HB hk) (by rw [xe_HB hk]; simp [xu, xr, hv, va_rf]) (fun b hb => xe_congr rfl (xu_row hb)) (fun h => h) d kk
theorem g_HB_states (hC : xC X G cc Ts own nL R) {a index : Nat} (hin : ∀ w ∈ wsX40, w ∈ Ts) (hlink : Cond.fieldLink own index "HandBlinds" "states" "I" ∈ Ts) (hk : μ.2.1 a = 5) (d : decode cc pc = .ok (.getfield index, 3)) (kk : xg X G cs μ I P L (pc + 3) (.int (I a 3) :: st)) : xg X G cs μ I P L (pc) (.ref (xZ G + a) :: st) := r_get hC (T := TX4) (k := 3) hin hlink rfl (by decide) (by rw [hk]; decide) (xe_HB hk) rfl d kk
theorem p_HB_states (hC : xC X G cc Ts own nL R) {a index : Nat} {v : Int32} (hin : ∀ w ∈ wsX40, w ∈ Ts) (hlink : Cond.fieldLink own index "HandBlinds" "states" "I" ∈ Ts) (hk : μ.2.1 a = 5) (d : decode cc pc = .ok (.putfield index, 3)) (kk : xg X G cs μ (xu I a 3 v) P L (pc + 3) (st)) : xg X G cs μ I P L (pc) (.int v :: .ref (xZ G + a) :: st) :=
  r_put hC (T := TX4) (k := 3) hin hlink rfl (by decide) tyX4_ok nmX4 rfl rfl rfl (Nat.le_of_ble_eq_true rfl) (by rw [hk]; decide) (xe_HB hk) (by rw [xe_HB hk]; simp [xu]) (fun b hb => xe_congr (xu_row hb) rfl) (xty_u hk (by decide) (Or.inl (by decide))) d kk
theorem xe_Model {a : Nat} (hk : μ.2.1 a = 6) : xe G μ I P a = .inr (5, [va_rf (xr G (P a 0)), va_rf (xr G (P a 1)), va_rf (xr G (P a 2)), .int (I a 3), va_rf (xr G (P a 4)), .int (I a 5), .int (I a 6), .int (I a 7), .int (I a 8), .int (I a 9), .int (I a 10), .int (I a 11), .int (I a 12)]) := by simp only [xe, hk]
theorem g_Model_s (hC : xC X G cc Ts own nL R) {a index : Nat} (hin : ∀ w ∈ wsX50, w ∈ Ts) (hlink : Cond.fieldLink own index "HandBlindsModel" "s" "[I" ∈ Ts) (hk : μ.2.1 a = 6) {c2 : Nat} (hk2 : μ.2.1 (P a 0) = c2) (hc2 : c2 ≠ 0) (d : decode cc pc = .ok (.getfield index, 3)) (kk : xg X G cs μ I P L (pc + 3) (.ref (xZ G + P a 0) :: st)) : xg X G cs μ I P L (pc) (.ref (xZ G + a) :: st) := by
  refine r_get hC (T := TX5) (k := 0) (v := va_rf (xr G (P a 0))) hin hlink rfl (by decide) (by rw [hk]; decide) (xe_Model hk) rfl d ?_
  intro H locs ls h0 hP hS hl
  rw [xr_ne (fun q => hc2 (by rw [← hk2, q]; exact h0.1.1))]
  exact kk H locs ls h0 hP hS hl
theorem p_Model_s (hC : xC X G cc Ts own nL R) {a index v : Nat} (hnm2 : X.2.2.2.2.2.2.2.2.1.name = "<init>") (hown : RX5 = own) (hin : ∀ w ∈ wsX50, w ∈ Ts) (hlink : Cond.fieldLink own index "HandBlindsModel" "s" "[I" ∈ Ts) (hk : μ.2.1 a = 6) (hv : v ≠ 0) (d : decode cc pc = .ok (.putfield index, 3)) (kk : xg X G cs μ I (xu P a 0 v) L (pc + 3) (st)) : xg X G cs μ I P L (pc) (.ref (xZ G + v) :: .ref (xZ G + a) :: st) :=
  r_putF hC (T := TX5) (k := 0) hnm2 hin hlink rfl (by decide) tyX5_ok nmX5 rfl hown rfl rfl (Nat.le_of_ble_eq_true rfl) (by rw [hk]; decide) (xe_Model hk) (by rw [xe_Model hk]; simp [xu, xr, hv, va_rf]) (fun b hb => xe_congr rfl (xu_row hb)) (fun h => h) d kk
theorem g_Model_past (hC : xC X G cc Ts own nL R) {a index : Nat} (hin : ∀ w ∈ wsX50, w ∈ Ts) (hlink : Cond.fieldLink own index "HandBlindsModel" "past" "[I" ∈ Ts) (hk : μ.2.1 a = 6) {c2 : Nat} (hk2 : μ.2.1 (P a 1) = c2) (hc2 : c2 ≠ 0) (d : decode cc pc = .ok (.getfield index, 3)) (kk : xg X G cs μ I P L (pc + 3) (.ref (xZ G + P a 1) :: st)) : xg X G cs μ I P L (pc) (.ref (xZ G + a) :: st) := by
  refine r_get hC (T := TX5) (k := 1) (v := va_rf (xr G (P a 1))) hin hlink rfl (by decide) (by rw [hk]; decide) (xe_Model hk) rfl d ?_
  intro H locs ls h0 hP hS hl
  rw [xr_ne (fun q => hc2 (by rw [← hk2, q]; exact h0.1.1))]
  exact kk H locs ls h0 hP hS hl
theorem p_Model_past (hC : xC X G cc Ts own nL R) {a index v : Nat} (hnm2 : X.2.2.2.2.2.2.2.2.1.name = "<init>") (hown : RX5 = own) (hin : ∀ w ∈ wsX50, w ∈ Ts) (hlink : Cond.fieldLink own index "HandBlindsModel" "past" "[I" ∈ Ts) (hk : μ.2.1 a = 6) (hv : v ≠ 0) (d : decode cc pc = .ok (.putfield index, 3)) (kk : xg X G cs μ I (xu P a 1 v) L (pc + 3) (st)) : xg X G cs μ I P L (pc) (.ref (xZ G + v) :: .ref (xZ G + a) :: st) :=
  r_putF hC (T := TX5) (k := 1) hnm2 hin hlink rfl (by decide) tyX5_ok nmX5 rfl hown rfl rfl (Nat.le_of_ble_eq_true rfl) (by rw [hk]; decide) (xe_Model hk) (by rw [xe_Model hk]; simp [xu, xr, hv, va_rf]) (fun b hb => xe_congr rfl (xu_row hb)) (fun h => h) d kk
theorem g_Model_tried (hC : xC X G cc Ts own nL R) {a index : Nat} (hin : ∀ w ∈ wsX50, w ∈ Ts) (hlink : Cond.fieldLink own index "HandBlindsModel" "tried" "[I" ∈ Ts) (hk : μ.2.1 a = 6) {c2 : Nat} (hk2 : μ.2.1 (P a 2) = c2) (hc2 : c2 ≠ 0) (d : decode cc pc = .ok (.getfield index, 3)) (kk : xg X G cs μ I P L (pc + 3) (.ref (xZ G + P a 2) :: st)) : xg X G cs μ I P L (pc) (.ref (xZ G + a) :: st) := by
  refine r_get hC (T := TX5) (k := 2) (v := va_rf (xr G (P a 2))) hin hlink rfl (by decide) (by rw [hk]; decide) (xe_Model hk) rfl d ?_
  intro H locs ls h0 hP hS hl
  rw [xr_ne (fun q => hc2 (by rw [← hk2, q]; exact h0.1.1))]
  exact kk H locs ls h0 hP hS hl
theorem p_Model_tried (hC : xC X G cc Ts own nL R) {a index v : Nat} (hnm2 : X.2.2.2.2.2.2.2.2.1.name = "<init>") (hown : RX5 = own) (hin : ∀ w ∈ wsX50, w ∈ Ts) (hlink : Cond.fieldLink own index "HandBlindsModel" "tried" "[I" ∈ Ts) (hk : μ.2.1 a = 6) (hv : v ≠ 0) (d : decode cc pc = .ok (.putfield index, 3)) (kk : xg X G cs μ I (xu P a 2 v) L (pc + 3) (st)) : xg X G cs μ I P L (pc) (.ref (xZ G + v) :: .ref (xZ G + a) :: st) :=
  r_putF hC (T := TX5) (k := 2) hnm2 hin hlink rfl (by decide) tyX5_ok nmX5 rfl hown rfl rfl (Nat.le_of_ble_eq_true rfl) (by rw [hk]; decide) (xe_Model hk) (by rw [xe_Model hk]; simp [xu, xr, hv, va_rf]) (fun b hb => xe_congr rfl (xu_row hb)) (fun h => h) d kk
theorem g_Model_pasts (hC : xC X G cc Ts own nL R) {a index : Nat} (hin : ∀ w ∈ wsX50, w ∈ Ts) (hlink : Cond.fieldLink own index "HandBlindsModel" "pasts" "I" ∈ Ts) (hk : μ.2.1 a = 6) (d : decode cc pc = .ok (.getfield index, 3)) (kk : xg X G cs μ I P L (pc + 3) (.int (I a 3) :: st)) : xg X G cs μ I P L (pc) (.ref (xZ G + a) :: st) := r_get hC (T := TX5) (k := 3) hin hlink rfl (by decide) (by rw [hk]; decide) (xe_Model hk) rfl d kk
theorem p_Model_pasts (hC : xC X G cc Ts own nL R) {a index : Nat} {v : Int32} (hin : ∀ w ∈ wsX50, w ∈ Ts) (hlink : Cond.fieldLink own index "HandBlindsModel" "pasts" "I" ∈ Ts) (hk : μ.2.1 a = 6) (d : decode cc pc = .ok (.putfield index, 3)) (kk : xg X G cs μ (xu I a 3 v) P L (pc + 3) (st)) : xg X G cs μ I P L (pc) (.int v :: .ref (xZ G + a) :: st) :=
  r_put hC (T := TX5) (k := 3) hin hlink rfl (by decide) tyX5_ok nmX5 rfl rfl rfl (Nat.le_of_ble_eq_true rfl) (by rw [hk]; decide) (xe_Model hk) (by rw [xe_Model hk]; simp [xu]) (fun b hb => xe_congr (xu_row hb) rfl) (xty_u hk (by decide) (Or.inl (by decide))) d kk
theorem g_Model_text (hC : xC X G cc Ts own nL R) {a index : Nat} (hin : ∀ w ∈ wsX50, w ∈ Ts) (hlink : Cond.fieldLink own index "HandBlindsModel" "text" "[I" ∈ Ts) (hk : μ.2.1 a = 6) {c2 : Nat} (hk2 : μ.2.1 (P a 4) = c2) (hc2 : c2 ≠ 0) (d : decode cc pc = .ok (.getfield index, 3)) (kk : xg X G cs μ I P L (pc + 3) (.ref (xZ G + P a 4) :: st)) : xg X G cs μ I P L (pc) (.ref (xZ G + a) :: st) := by
  refine r_get hC (T := TX5) (k := 4) (v := va_rf (xr G (P a 4))) hin hlink rfl (by decide) (by rw [hk]; decide) (xe_Model hk) rfl d ?_
  intro H locs ls h0 hP hS hl
  rw [xr_ne (fun q => hc2 (by rw [← hk2, q]; exact h0.1.1))]
  exact kk H locs ls h0 hP hS hl
theorem p_Model_text (hC : xC X G cc Ts own nL R) {a index v : Nat} (hnm2 : X.2.2.2.2.2.2.2.2.1.name = "<init>") (hown : RX5 = own) (hin : ∀ w ∈ wsX50, w ∈ Ts) (hlink : Cond.fieldLink own index "HandBlindsModel" "text" "[I" ∈ Ts) (hk : μ.2.1 a = 6) (hv : v ≠ 0) (d : decode cc pc = .ok (.putfield index, 3)) (kk : xg X G cs μ I (xu P a 4 v) L (pc + 3) (st)) : xg X G cs μ I P L (pc) (.ref (xZ G + v) :: .ref (xZ G + a) :: st) :=
  r_putF hC (T := TX5) (k := 4) hnm2 hin hlink rfl (by decide) tyX5_ok nmX5 rfl hown rfl rfl (Nat.le_of_ble_eq_true rfl) (by rw [hk]; decide) (xe_Model hk) (by rw [xe_Model hk]; simp [xu, xr, hv, va_rf]) (fun b hb => xe_congr rfl (xu_row hb)) (fun h => h) d kk
theorem g_Model_typed (hC : xC X G cc Ts own nL R) {a index : Nat} (hin : ∀ w ∈ wsX50, w ∈ Ts) (hlink : Cond.fieldLink own index "HandBlindsModel" "typed" "I" ∈ Ts) (hk : μ.2.1 a = 6) (d : decode cc pc = .ok (.getfield index, 3)) (kk : xg X G cs μ I P L (pc + 3) (.int (I a 5) :: st)) : xg X G cs μ I P L (pc) (.ref (xZ G + a) :: st) := r_get hC (T := TX5) (k := 5) hin hlink rfl (by decide) (by rw [hk]; decide) (xe_Model hk) rfl d kk
theorem p_Model_typed (hC : xC X G cc Ts own nL R) {a index : Nat} {v : Int32} (hin : ∀ w ∈ wsX50, w ∈ Ts) (hlink : Cond.fieldLink own index "HandBlindsModel" "typed" "I" ∈ Ts) (hk : μ.2.1 a = 6) (d : decode cc pc = .ok (.putfield index, 3)) (kk : xg X G cs μ (xu I a 5 v) P L (pc + 3) (st)) : xg X G cs μ I P L (pc) (.int v :: .ref (xZ G + a) :: st) :=
  r_put hC (T := TX5) (k := 5) hin hlink rfl (by decide) tyX5_ok nmX5 rfl rfl rfl (Nat.le_of_ble_eq_true rfl) (by rw [hk]; decide) (xe_Model hk) (by rw [xe_Model hk]; simp [xu]) (fun b hb => xe_congr (xu_row hb) rfl) (xty_u hk (by decide) (Or.inl (by decide))) d kk
theorem g_Model_spot (hC : xC X G cc Ts own nL R) {a index : Nat} (hin : ∀ w ∈ wsX50, w ∈ Ts) (hlink : Cond.fieldLink own index "HandBlindsModel" "spot" "I" ∈ Ts) (hk : μ.2.1 a = 6) (d : decode cc pc = .ok (.getfield index, 3)) (kk : xg X G cs μ I P L (pc + 3) (.int (I a 6) :: st)) : xg X G cs μ I P L (pc) (.ref (xZ G + a) :: st) := r_get hC (T := TX5) (k := 6) hin hlink rfl (by decide) (by rw [hk]; decide) (xe_Model hk) rfl d kk
theorem p_Model_spot (hC : xC X G cc Ts own nL R) {a index : Nat} {v : Int32} (hin : ∀ w ∈ wsX50, w ∈ Ts) (hlink : Cond.fieldLink own index "HandBlindsModel" "spot" "I" ∈ Ts) (hk : μ.2.1 a = 6) (d : decode cc pc = .ok (.putfield index, 3)) (kk : xg X G cs μ (xu I a 6 v) P L (pc + 3) (st)) : xg X G cs μ I P L (pc) (.int v :: .ref (xZ G + a) :: st) :=
  r_put hC (T := TX5) (k := 6) hin hlink rfl (by decide) tyX5_ok nmX5 rfl rfl rfl (Nat.le_of_ble_eq_true rfl) (by rw [hk]; decide) (xe_Model hk) (by rw [xe_Model hk]; simp [xu]) (fun b hb => xe_congr (xu_row hb) rfl) (xty_u hk (by decide) (Or.inl (by decide))) d kk
theorem g_Model_from (hC : xC X G cc Ts own nL R) {a index : Nat} (hin : ∀ w ∈ wsX50, w ∈ Ts) (hlink : Cond.fieldLink own index "HandBlindsModel" "from" "I" ∈ Ts) (hk : μ.2.1 a = 6) (d : decode cc pc = .ok (.getfield index, 3)) (kk : xg X G cs μ I P L (pc + 3) (.int (I a 7) :: st)) : xg X G cs μ I P L (pc) (.ref (xZ G + a) :: st) := r_get hC (T := TX5) (k := 7) hin hlink rfl (by decide) (by rw [hk]; decide) (xe_Model hk) rfl d kk
theorem p_Model_from (hC : xC X G cc Ts own nL R) {a index : Nat} {v : Int32} (hin : ∀ w ∈ wsX50, w ∈ Ts) (hlink : Cond.fieldLink own index "HandBlindsModel" "from" "I" ∈ Ts) (hk : μ.2.1 a = 6) (d : decode cc pc = .ok (.putfield index, 3)) (kk : xg X G cs μ (xu I a 7 v) P L (pc + 3) (st)) : xg X G cs μ I P L (pc) (.int v :: .ref (xZ G + a) :: st) :=
  r_put hC (T := TX5) (k := 7) hin hlink rfl (by decide) tyX5_ok nmX5 rfl rfl rfl (Nat.le_of_ble_eq_true rfl) (by rw [hk]; decide) (xe_Model hk) (by rw [xe_Model hk]; simp [xu]) (fun b hb => xe_congr (xu_row hb) rfl) (xty_u hk (by decide) (Or.inl (by decide))) d kk
theorem g_Model_reason (hC : xC X G cc Ts own nL R) {a index : Nat} (hin : ∀ w ∈ wsX50, w ∈ Ts) (hlink : Cond.fieldLink own index "HandBlindsModel" "reason" "I" ∈ Ts) (hk : μ.2.1 a = 6) (d : decode cc pc = .ok (.getfield index, 3)) (kk : xg X G cs μ I P L (pc + 3) (.int (I a 8) :: st)) : xg X G cs μ I P L (pc) (.ref (xZ G + a) :: st) := r_get hC (T := TX5) (k := 8) hin hlink rfl (by decide) (by rw [hk]; decide) (xe_Model hk) rfl d kk
theorem p_Model_reason (hC : xC X G cc Ts own nL R) {a index : Nat} {v : Int32} (hin : ∀ w ∈ wsX50, w ∈ Ts) (hlink : Cond.fieldLink own index "HandBlindsModel" "reason" "I" ∈ Ts) (hk : μ.2.1 a = 6) (d : decode cc pc = .ok (.putfield index, 3)) (kk : xg X G cs μ (xu I a 8 v) P L (pc + 3) (st)) : xg X G cs μ I P L (pc) (.int v :: .ref (xZ G + a) :: st) :=
  r_put hC (T := TX5) (k := 8) hin hlink rfl (by decide) tyX5_ok nmX5 rfl rfl rfl (Nat.le_of_ble_eq_true rfl) (by rw [hk]; decide) (xe_Model hk) (by rw [xe_Model hk]; simp [xu]) (fun b hb => xe_congr (xu_row hb) rfl) (xty_u hk (by decide) (Or.inl (by decide))) d kk
theorem g_Model_cause (hC : xC X G cc Ts own nL R) {a index : Nat} (hin : ∀ w ∈ wsX50, w ∈ Ts) (hlink : Cond.fieldLink own index "HandBlindsModel" "cause" "I" ∈ Ts) (hk : μ.2.1 a = 6) (d : decode cc pc = .ok (.getfield index, 3)) (kk : xg X G cs μ I P L (pc + 3) (.int (I a 9) :: st)) : xg X G cs μ I P L (pc) (.ref (xZ G + a) :: st) := r_get hC (T := TX5) (k := 9) hin hlink rfl (by decide) (by rw [hk]; decide) (xe_Model hk) rfl d kk
theorem p_Model_cause (hC : xC X G cc Ts own nL R) {a index : Nat} {v : Int32} (hin : ∀ w ∈ wsX50, w ∈ Ts) (hlink : Cond.fieldLink own index "HandBlindsModel" "cause" "I" ∈ Ts) (hk : μ.2.1 a = 6) (d : decode cc pc = .ok (.putfield index, 3)) (kk : xg X G cs μ (xu I a 9 v) P L (pc + 3) (st)) : xg X G cs μ I P L (pc) (.int v :: .ref (xZ G + a) :: st) :=
  r_put hC (T := TX5) (k := 9) hin hlink rfl (by decide) tyX5_ok nmX5 rfl rfl rfl (Nat.le_of_ble_eq_true rfl) (by rw [hk]; decide) (xe_Model hk) (by rw [xe_Model hk]; simp [xu]) (fun b hb => xe_congr (xu_row hb) rfl) (xty_u hk (by decide) (Or.inl (by decide))) d kk
theorem g_Model_names (hC : xC X G cc Ts own nL R) {a index : Nat} (hin : ∀ w ∈ wsX50, w ∈ Ts) (hlink : Cond.fieldLink own index "HandBlindsModel" "names" "I" ∈ Ts) (hk : μ.2.1 a = 6) (d : decode cc pc = .ok (.getfield index, 3)) (kk : xg X G cs μ I P L (pc + 3) (.int (I a 10) :: st)) : xg X G cs μ I P L (pc) (.ref (xZ G + a) :: st) := r_get hC (T := TX5) (k := 10) hin hlink rfl (by decide) (by rw [hk]; decide) (xe_Model hk) rfl d kk
theorem p_Model_names (hC : xC X G cc Ts own nL R) {a index : Nat} {v : Int32} (hin : ∀ w ∈ wsX50, w ∈ Ts) (hlink : Cond.fieldLink own index "HandBlindsModel" "names" "I" ∈ Ts) (hk : μ.2.1 a = 6) (d : decode cc pc = .ok (.putfield index, 3)) (kk : xg X G cs μ (xu I a 10 v) P L (pc + 3) (st)) : xg X G cs μ I P L (pc) (.int v :: .ref (xZ G + a) :: st) :=
  r_put hC (T := TX5) (k := 10) hin hlink rfl (by decide) tyX5_ok nmX5 rfl rfl rfl (Nat.le_of_ble_eq_true rfl) (by rw [hk]; decide) (xe_Model hk) (by rw [xe_Model hk]; simp [xu]) (fun b hb => xe_congr (xu_row hb) rfl) (xty_u hk (by decide) (Or.inl (by decide))) d kk
theorem g_Model_gone (hC : xC X G cc Ts own nL R) {a index : Nat} (hin : ∀ w ∈ wsX50, w ∈ Ts) (hlink : Cond.fieldLink own index "HandBlindsModel" "gone" "I" ∈ Ts) (hk : μ.2.1 a = 6) (d : decode cc pc = .ok (.getfield index, 3)) (kk : xg X G cs μ I P L (pc + 3) (.int (I a 11) :: st)) : xg X G cs μ I P L (pc) (.ref (xZ G + a) :: st) := r_get hC (T := TX5) (k := 11) hin hlink rfl (by decide) (by rw [hk]; decide) (xe_Model hk) rfl d kk
theorem p_Model_gone (hC : xC X G cc Ts own nL R) {a index : Nat} {v : Int32} (hin : ∀ w ∈ wsX50, w ∈ Ts) (hlink : Cond.fieldLink own index "HandBlindsModel" "gone" "I" ∈ Ts) (hk : μ.2.1 a = 6) (d : decode cc pc = .ok (.putfield index, 3)) (kk : xg X G cs μ (xu I a 11 v) P L (pc + 3) (st)) : xg X G cs μ I P L (pc) (.int v :: .ref (xZ G + a) :: st) :=
  r_put hC (T := TX5) (k := 11) hin hlink rfl (by decide) tyX5_ok nmX5 rfl rfl rfl (Nat.le_of_ble_eq_true rfl) (by rw [hk]; decide) (xe_Model hk) (by rw [xe_Model hk]; simp [xu]) (fun b hb => xe_congr (xu_row hb) rfl) (xty_u hk (by decide) (Or.inl (by decide))) d kk
theorem g_Model_torn (hC : xC X G cc Ts own nL R) {a index : Nat} (hin : ∀ w ∈ wsX50, w ∈ Ts) (hlink : Cond.fieldLink own index "HandBlindsModel" "torn" "I" ∈ Ts) (hk : μ.2.1 a = 6) (d : decode cc pc = .ok (.getfield index, 3)) (kk : xg X G cs μ I P L (pc + 3) (.int (I a 12) :: st)) : xg X G cs μ I P L (pc) (.ref (xZ G + a) :: st) := r_get hC (T := TX5) (k := 12) hin hlink rfl (by decide) (by rw [hk]; decide) (xe_Model hk) rfl d kk
theorem p_Model_torn (hC : xC X G cc Ts own nL R) {a index : Nat} {v : Int32} (hin : ∀ w ∈ wsX50, w ∈ Ts) (hlink : Cond.fieldLink own index "HandBlindsModel" "torn" "I" ∈ Ts) (hk : μ.2.1 a = 6) (d : decode cc pc = .ok (.putfield index, 3)) (kk : xg X G cs μ (xu I a 12 v) P L (pc + 3) (st)) : xg X G cs μ I P L (pc) (.int v :: .ref (xZ G + a) :: st) :=
  r_put hC (T := TX5) (k := 12) hin hlink rfl (by decide) tyX5_ok nmX5 rfl rfl rfl (Nat.le_of_ble_eq_true rfl) (by rw [hk]; decide) (xe_Model hk) (by rw [xe_Model hk]; simp [xu]) (fun b hb => xe_congr (xu_row hb) rfl) (xty_u hk (by decide) (Or.inl (by decide))) d kk
def xcp (I : xI) (a b N : Nat) : xI := fun c j => if c = b ∧ j < N then I a j else I c j
theorem xcp_row {I : xI} {a b c N : Nat} (h : c ≠ b) : xcp I a b N c = I c := by funext j; simp [xcp, h]
theorem xty_cp {μ : xM} {I : xI} {a b N : Nat} (hk : μ.2.1 b = 7) (h : xty μ I) : xty μ (xcp I a b N) := by
  refine ⟨fun c j hc => ?_, fun c hc => ?_⟩
  · rw [xcp_row (fun e => by rw [e, hk] at hc; cases hc)]; exact h.1 c j hc
  · rw [xcp_row (fun e => by rw [e, hk] at hc; cases hc)]; exact h.2 c hc
theorem xty_cp8 {μ : xM} {I : xI} {a b N : Nat} (hk0 : μ.2.1 a = 8) (hk : μ.2.1 b = 8) (h : xty μ I) : xty μ (xcp I a b N) := by
  refine ⟨fun c j hc => ?_, fun c hc => ?_⟩
  · unfold xcp; split
    · exact h.1 a j hk0
    · exact h.1 c j hc
  · rw [xcp_row (fun e => by rw [e, hk] at hc; cases hc)]; exact h.2 c hc
def xi (i : Int32) (k n : Nat) : Prop := i.toNatClampNeg = k ∧ ¬ i < 0 ∧ k < n
theorem xi_n {k n : Nat} (h : k < n) (hn : n < 2 ^ 31) : xi (nI k) k n := ⟨nI_clamp (by omega), nI_pos (by omega), h⟩
theorem xi_in {i : Int32} {k n : Nat} (h : xi i k n) : vp_in i n := fun q => by
  rcases q with q | q
  · exact h.2.1 q
  · have := h.1; have := h.2.2; omega
theorem xu_upd {f : Nat → Nat → Int32} {a k : Nat} {v : Int32} : xu f a k v a = upd (f a) k v := by funext j; simp [xu, upd]
theorem xe_iarr {a : Nat} (hk : μ.2.1 a = 7) : xe G μ I P a = .inl (G.2.1 0, μ.2.2 a, .inl (I a)) := by simp only [xe, hk]
theorem r_iald (hC : xC X G cc Ts own nL R) {a k : Nat} {i : Int32} (hk : μ.2.1 a = 7) (hi : xi i k (μ.2.2 a)) (d : decode cc pc = .ok (.iaload, 1)) (kk : xg X G cs μ I P L (pc + 1) (.int (I a k) :: st)) : xg X G cs μ I P L (pc) (.int i :: .ref (xZ G + a) :: st) := by
  intro H locs ls h0 hP hS hl
  obtain ⟨j, rfl, hj⟩ := xok_pos (a := a) h0 (by rw [hk]; decide)
  have hw := xw_at (G := G) (I := I) (P := P) hj
  rw [xe_iarr hk] at hw
  refine va_iald hC.1 hC.2.1 hC.2.2.2.2.2.1.1 hP j 0 hw rfl (xi_in hi) d ?_
  rw [hi.1]
  exact kk H locs ls h0 hP hS hl
theorem r_iast (hC : xC X G cc Ts own nL R) {a k : Nat} {i x : Int32} (hk : μ.2.1 a = 7) (hi : xi i k (μ.2.2 a)) (d : decode cc pc = .ok (.iastore, 1)) (kk : xg X G cs μ (xu I a k x) P L (pc + 1) (st)) : xg X G cs μ I P L (pc) (.int x :: .int i :: .ref (xZ G + a) :: st) := by
  intro H locs ls h0 hP hS hl
  obtain ⟨j, rfl, hj⟩ := xok_pos (a := a) h0 (by rw [hk]; decide)
  have hw := xw_at (G := G) (I := I) (P := P) hj
  rw [xe_iarr hk] at hw
  refine va_iast hC.1 hC.2.1 hC.2.2.2.2.2.1.1 hP xw_D hS j 0 hw rfl (xi_in hi) d (fun H1 locs1 hP1 _ hS1 => kk H1 locs1 ls ⟨h0.1, xty_u hk (by decide) (Or.inl (by decide)) h0.2⟩ ?_ hS1 hl)
  rw [xw_set (I' := xu I (j + 1) k x) (P' := P) (by rw [xe_iarr hk, xu_upd, hi.1]) (fun b hb => xe_congr (xu_row hb) rfl)] at hP1
  exact hP1
theorem xe_carr {a : Nat} (hk : μ.2.1 a = 8) : xe G μ I P a = .inl (G.2.1 1, μ.2.2 a, .inl (I a)) := by simp only [xe, hk]
theorem r_cald (hC : xC X G cc Ts own nL R) {a k : Nat} {i : Int32} (hk : μ.2.1 a = 8) (hi : xi i k (μ.2.2 a)) (d : decode cc pc = .ok (.caload, 1)) (kk : xg X G cs μ I P L (pc + 1) (.int (I a k) :: st)) : xg X G cs μ I P L (pc) (.int i :: .ref (xZ G + a) :: st) := by
  intro H locs ls h0 hP hS hl
  obtain ⟨j, rfl, hj⟩ := xok_pos (a := a) h0 (by rw [hk]; decide)
  have hw := xw_at (G := G) (I := I) (P := P) hj
  rw [xe_carr hk] at hw
  refine va_cald hC.1 hC.2.1 hC.2.2.2.2.2.1.1 hP j 1 hw rfl (xi_in hi) d ?_
  rw [hi.1]
  exact kk H locs ls h0 hP hS hl
theorem r_cast (hC : xC X G cc Ts own nL R) {a k : Nat} {i x : Int32} (hk : μ.2.1 a = 8) (hi : xi i k (μ.2.2 a)) (d : decode cc pc = .ok (.castore, 1)) (kk : xg X G cs μ (xu I a k (vp_nar .char x)) P L (pc + 1) (st)) : xg X G cs μ I P L (pc) (.int x :: .int i :: .ref (xZ G + a) :: st) := by
  intro H locs ls h0 hP hS hl
  obtain ⟨j, rfl, hj⟩ := xok_pos (a := a) h0 (by rw [hk]; decide)
  have hw := xw_at (G := G) (I := I) (P := P) hj
  rw [xe_carr hk] at hw
  refine va_cast hC.1 hC.2.1 hC.2.2.2.2.2.1.1 hP xw_D hS j 1 hw rfl (xi_in hi) d (fun H1 locs1 hP1 _ hS1 => kk H1 locs1 ls ⟨h0.1, xty_c hk h0.2⟩ ?_ hS1 hl)
  rw [xw_set (I' := xu I (j + 1) k (vp_nar .char x)) (P' := P) (by rw [xe_carr hk, xu_upd, hi.1]) (fun b hb => xe_congr (xu_row hb) rfl)] at hP1
  exact hP1
theorem xe_Rows {a : Nat} (hk : μ.2.1 a = 9) : xe G μ I P a = .inl (G.2.1 2, μ.2.2 a, .inr (.inr (.inr (.inr (fun j => xr G (P a j)))))) := by simp only [xe, hk]
theorem r_aald_Row (hC : xC X G cc Ts own nL R) {a k : Nat} {i : Int32} (hk : μ.2.1 a = 9) (hi : xi i k (μ.2.2 a)) (hk2 : μ.2.1 (P a k) = 3) (d : decode cc pc = .ok (.aaload, 1)) (kk : xg X G cs μ I P L (pc + 1) (.ref (xZ G + P a k) :: st)) : xg X G cs μ I P L (pc) (.int i :: .ref (xZ G + a) :: st) := by
  intro H locs ls h0 hP hS hl
  obtain ⟨j, rfl, hj⟩ := xok_pos (a := a) h0 (by rw [hk]; decide)
  have hw := xw_at (G := G) (I := I) (P := P) hj
  rw [xe_Rows hk] at hw
  refine va_aldq hC.1 hC.2.1 hC.2.2.2.2.2.1.1 hP j 2 hw rfl (xi_in hi) d ?_
  rw [hi.1, xr_ne (fun q => by rw [q, h0.1.1] at hk2; cases hk2)]
  exact kk H locs ls h0 hP hS hl
theorem r_aast_Row (hC : xC X G cc Ts own nL R) {a k v : Nat} {i : Int32} (hk : μ.2.1 a = 9) (hi : xi i k (μ.2.2 a)) (hk2 : μ.2.1 v = 3) (d : decode cc pc = .ok (.aastore, 1)) (kk : xg X G cs μ I (xu P a k v) L (pc + 1) (st)) : xg X G cs μ I P L (pc) (.ref (xZ G + v) :: .int i :: .ref (xZ G + a) :: st) := by
  intro H locs ls h0 hP hS hl
  obtain ⟨j, rfl, hj⟩ := xok_pos (a := a) h0 (by rw [hk]; decide)
  obtain ⟨jv, rfl, hjv⟩ := xok_pos (a := v) h0 (by rw [hk2]; decide)
  have hw := xw_at (G := G) (I := I) (P := P) hj
  have hwv := xw_at (G := G) (I := I) (P := P) hjv
  rw [xe_Rows hk] at hw
  rw [xe_Row hk2] at hwv
  refine va_astq hC.1 hC.2.1 hC.2.2.2.2.2.1.1 hP xw_D hS j 2 jv 2 (r := (RX2, TX2, 4)) hw rfl hwv rfl (xi_in hi) d (fun H1 locs1 hP1 _ hS1 => kk H1 locs1 ls h0 ?_ hS1 hl)
  have he : xe G μ I (xu P (j + 1) k (jv + 1)) (j + 1) = .inl (G.2.1 2, μ.2.2 (j + 1), .inr (.inr (.inr (.inr (va_up (fun q => xr G (P (j + 1) q)) i.toNatClampNeg (some (xZ G + (jv + 1)))))))) := by
    rw [xe_Rows hk, hi.1]
    congr 7
    funext q
    by_cases hq : q = k
    · subst hq; simp [xu, va_up, xr]
    · simp [xu, va_up, hq]
  rw [xw_set he (fun b hb => xe_congr rfl (xu_row hb))] at hP1
  exact hP1
theorem xe_Routes {a : Nat} (hk : μ.2.1 a = 10) : xe G μ I P a = .inl (G.2.1 3, μ.2.2 a, .inr (.inr (.inr (.inr (fun j => xr G (P a j)))))) := by simp only [xe, hk]
theorem r_aald_Route (hC : xC X G cc Ts own nL R) {a k : Nat} {i : Int32} (hk : μ.2.1 a = 10) (hi : xi i k (μ.2.2 a)) (hk2 : μ.2.1 (P a k) = 2) (d : decode cc pc = .ok (.aaload, 1)) (kk : xg X G cs μ I P L (pc + 1) (.ref (xZ G + P a k) :: st)) : xg X G cs μ I P L (pc) (.int i :: .ref (xZ G + a) :: st) := by
  intro H locs ls h0 hP hS hl
  obtain ⟨j, rfl, hj⟩ := xok_pos (a := a) h0 (by rw [hk]; decide)
  have hw := xw_at (G := G) (I := I) (P := P) hj
  rw [xe_Routes hk] at hw
  refine va_aldq hC.1 hC.2.1 hC.2.2.2.2.2.1.1 hP j 3 hw rfl (xi_in hi) d ?_
  rw [hi.1, xr_ne (fun q => by rw [q, h0.1.1] at hk2; cases hk2)]
  exact kk H locs ls h0 hP hS hl
theorem r_aast_Route (hC : xC X G cc Ts own nL R) {a k v : Nat} {i : Int32} (hk : μ.2.1 a = 10) (hi : xi i k (μ.2.2 a)) (hk2 : μ.2.1 v = 2) (d : decode cc pc = .ok (.aastore, 1)) (kk : xg X G cs μ I (xu P a k v) L (pc + 1) (st)) : xg X G cs μ I P L (pc) (.ref (xZ G + v) :: .int i :: .ref (xZ G + a) :: st) := by
  intro H locs ls h0 hP hS hl
  obtain ⟨j, rfl, hj⟩ := xok_pos (a := a) h0 (by rw [hk]; decide)
  obtain ⟨jv, rfl, hjv⟩ := xok_pos (a := v) h0 (by rw [hk2]; decide)
  have hw := xw_at (G := G) (I := I) (P := P) hj
  have hwv := xw_at (G := G) (I := I) (P := P) hjv
  rw [xe_Routes hk] at hw
  rw [xe_Route hk2] at hwv
  refine va_astq hC.1 hC.2.1 hC.2.2.2.2.2.1.1 hP xw_D hS j 3 jv 1 (r := (RX1, TX1, 3)) hw rfl hwv rfl (xi_in hi) d (fun H1 locs1 hP1 _ hS1 => kk H1 locs1 ls h0 ?_ hS1 hl)
  have he : xe G μ I (xu P (j + 1) k (jv + 1)) (j + 1) = .inl (G.2.1 3, μ.2.2 (j + 1), .inr (.inr (.inr (.inr (va_up (fun q => xr G (P (j + 1) q)) i.toNatClampNeg (some (xZ G + (jv + 1)))))))) := by
    rw [xe_Routes hk, hi.1]
    congr 7
    funext q
    by_cases hq : q = k
    · subst hq; simp [xu, va_up, xr]
    · simp [xu, va_up, hq]
  rw [xw_set he (fun b hb => xe_congr rfl (xu_row hb))] at hP1
  exact hP1
theorem xe_Blinds {a : Nat} (hk : μ.2.1 a = 11) : xe G μ I P a = .inl (G.2.1 4, μ.2.2 a, .inr (.inr (.inr (.inr (fun j => xr G (P a j)))))) := by simp only [xe, hk]
theorem r_aald_Blind (hC : xC X G cc Ts own nL R) {a k : Nat} {i : Int32} (hk : μ.2.1 a = 11) (hi : xi i k (μ.2.2 a)) (hk2 : μ.2.1 (P a k) = 1) (d : decode cc pc = .ok (.aaload, 1)) (kk : xg X G cs μ I P L (pc + 1) (.ref (xZ G + P a k) :: st)) : xg X G cs μ I P L (pc) (.int i :: .ref (xZ G + a) :: st) := by
  intro H locs ls h0 hP hS hl
  obtain ⟨j, rfl, hj⟩ := xok_pos (a := a) h0 (by rw [hk]; decide)
  have hw := xw_at (G := G) (I := I) (P := P) hj
  rw [xe_Blinds hk] at hw
  refine va_aldq hC.1 hC.2.1 hC.2.2.2.2.2.1.1 hP j 4 hw rfl (xi_in hi) d ?_
  rw [hi.1, xr_ne (fun q => by rw [q, h0.1.1] at hk2; cases hk2)]
  exact kk H locs ls h0 hP hS hl
theorem r_aast_Blind (hC : xC X G cc Ts own nL R) {a k v : Nat} {i : Int32} (hk : μ.2.1 a = 11) (hi : xi i k (μ.2.2 a)) (hk2 : μ.2.1 v = 1) (d : decode cc pc = .ok (.aastore, 1)) (kk : xg X G cs μ I (xu P a k v) L (pc + 1) (st)) : xg X G cs μ I P L (pc) (.ref (xZ G + v) :: .int i :: .ref (xZ G + a) :: st) := by
  intro H locs ls h0 hP hS hl
  obtain ⟨j, rfl, hj⟩ := xok_pos (a := a) h0 (by rw [hk]; decide)
  obtain ⟨jv, rfl, hjv⟩ := xok_pos (a := v) h0 (by rw [hk2]; decide)
  have hw := xw_at (G := G) (I := I) (P := P) hj
  have hwv := xw_at (G := G) (I := I) (P := P) hjv
  rw [xe_Blinds hk] at hw
  rw [xe_Blind hk2] at hwv
  refine va_astq hC.1 hC.2.1 hC.2.2.2.2.2.1.1 hP xw_D hS j 4 jv 0 (r := (RX0, TX0, 11)) hw rfl hwv rfl (xi_in hi) d (fun H1 locs1 hP1 _ hS1 => kk H1 locs1 ls h0 ?_ hS1 hl)
  have he : xe G μ I (xu P (j + 1) k (jv + 1)) (j + 1) = .inl (G.2.1 4, μ.2.2 (j + 1), .inr (.inr (.inr (.inr (va_up (fun q => xr G (P (j + 1) q)) i.toNatClampNeg (some (xZ G + (jv + 1)))))))) := by
    rw [xe_Blinds hk, hi.1]
    congr 7
    funext q
    by_cases hq : q = k
    · subst hq; simp [xu, va_up, xr]
    · simp [xu, va_up, hq]
  rw [xw_set he (fun b hb => xe_congr rfl (xu_row hb))] at hP1
  exact hP1
theorem r_run {st0 rest : List Value} {mc ms : Nat} {Ps : xPost} {av : Array Value} (hr : ∀ (H : Heap) (locs : List Loc) (ls : Array Slot), xok μ I → va_P G.1 vwCl (xw G μ I P) H → va_S (xA G) X.2.2.2.2.1.heap H locs → lv_has ls L.length (xL 0 L) → va_Run X.1 X.2.1 X.2.2.1 X.2.2.2.1 X.2.2.2.2.1 X.2.2.2.2.2.1 X.2.2.2.2.2.2.1 X.2.2.2.2.2.2.2.1 X.2.2.2.2.2.2.2.2.1 X.2.2.2.2.2.2.2.2.2.1 H locs cs.1 cs.2 mc ms (F0 X.2.2.2.2.2.1 pc ls st0) rest (xQ G Ps av) (xA G)) (kk : ∀ (v : Option Value) (μ' : xM) (I' : xI) (P' : xP), Ps v μ' I' P' → xg X G (cs.1 + mc, cs.2 + ms) μ' I' P' L (pc + 3) (v.toList ++ rest)) : xg X G cs μ I P L (pc) (st0) := by
  intro H locs ls h0 hP hS hl T hT XX
  obtain ⟨v, st₀, t, T', Lc, e0, X', hL, e1, e2, ⟨⟨v', μ', I', P', hv, hp, ho, hb⟩, hz, hkp⟩, st⟩ := hr H locs ls h0 hP hS hl T hT XX
  cases hv
  rw [e0] at hz hkp
  obtain ⟨t2, a1, b1⟩ := kk v μ' I' P' hp T'.heap (locs ++ Lc) ls ho (by rw [e1]; exact hb) ⟨Nat.le_trans hS.1 (by rw [e1]; exact hz), fun q h1 h2 => by rw [e1, hkp q (Nat.lt_of_lt_of_le h1 hS.1) h2]; exact hS.2.1 q h1 h2, fun q hq => by
      rcases List.mem_append.mp hq with h | h
      · exact hS.2.2 q h
      · exact hL q h⟩ hl T' rfl X'
  exact ⟨t2, st t2 a1, b1⟩
theorem xPre.blind {mc : Nat} {av : List Value} : FrameBlind (va_Pc av (xPre G μ I P mc)) := fun a U g mk q => by
  obtain ⟨q0, q1, q2, q3, q4⟩ := q
  exact ⟨q0, q1, q2, q3, xV.blind (U := U) (V := U.calling g mk a) rfl rfl q4⟩
theorem r_callV (hC : xC X G cc Ts own nL R) {y : MethodName} {bytes : ByteArray} {maxL n index : Nat} {ret : Option FieldType} {ws ws' : List Cond} {rm : Room} {C : String} {Ps : xPost} {a : Nat} {As rest st0 : List Value} {T : u_T} {N ci : Nat} {fs : List Value} (hM : Ct X.2.1 y ws rm G μ I P (.ref (xZ G + a) :: As) 0 0 Ps) (hG : GoodIn Ts (wsV own index C y ws)) (hw : ws = Cond.code y bytes maxL ret :: ws') (hrc : rm.cells = 0) (hrs : rm.slots = 0) (hd : y.cls = C ∧ y.cls ≠ "java/lang/invoke/MethodHandle" ∧ y.cls ≠ "java/lang/invoke/VarHandle" ∧ (parseMethodDescriptor y.desc).map (fun d => d.parameters.length) = some n) (hR : rm.frames + 1 ≤ R.frames ∧ 8 + (maxL + 11) + rm.locals ≤ R.locals) (hn : μ.2.1 a ≠ 0) (he : xe G μ I P a = .inr (ci, fs)) (hc : vwCl[ci]? = some (C, T, N)) (hA : As.length = n) (hs : st0 = As.reverse ++ .ref (xZ G + a) :: rest) (hW : (rest.map fun v => v.category).sum ≤ 8) (hL : L.length = nL) (hcs : cs.1 ≤ R.cells ∧ cs.2 ≤ R.slots) (d : decode cc pc = .ok (.invokevirtual index, 3)) (kk : ∀ (v : Option Value) (μ' : xM) (I' : xI) (P' : xP), Ps v μ' I' P' → xg X G cs μ' I' P' L (pc + 3) (v.toList ++ rest)) : xg X G cs μ I P L (pc) (st0) := by
  refine r_run (mc := 0) (ms := 0) (rest := rest) (Ps := Ps) (av := (Value.ref (xZ G + a) :: As).toArray) (fun H locs ls h0 hP hS hl => ?_) kk
  obtain ⟨hx, hb, hml, hown, hts, hV, hRR⟩ := hC
  obtain ⟨j, rfl, hj⟩ := xok_pos h0 hn
  have hwj := xw_at (G := G) (I := I) (P := P) hj
  rw [he] at hwj
  exact va_runV (rest := rest) ⟨hx, hb, hml, hown, hts⟩ hM (cwV n hts hG hw hrc hrs hd (by rw [hRR]; exact hR)) ⟨xPre.blind, va_recv hV.1 hP hc hwj, fun U hU hW => ⟨rfl, h0, Or.inl rfl, by rw [hU]; exact hP, xV.call hV hW hS hU⟩⟩ rfl hA (hl.1.trans hL) hs (lv_room hW) d (by rw [hRR]; exact hcs)
theorem r_callS (hC : xC X G cc Ts own nL R) {y : MethodName} {bytes : ByteArray} {maxL n index : Nat} {ret : Option FieldType} {ws ws' : List Cond} {rm : Room} {Ps : xPost} {As rest st0 : List Value} (hM : Ct X.2.1 y ws rm G μ I P As 0 0 Ps) (hG : GoodIn Ts (va_wsS own index y ws)) (hw : ws = Cond.code y bytes maxL ret :: ws') (hrc : rm.cells = 0) (hrs : rm.slots = 0) (hd : y.cls ≠ "java/lang/invoke/MethodHandle" ∧ y.cls ≠ "java/lang/invoke/VarHandle" ∧ (parseMethodDescriptor y.desc).map (fun d => d.parameters.length) = some n) (hR : rm.frames + 1 ≤ R.frames ∧ 8 + (maxL + 11) + rm.locals ≤ R.locals) (hA : As.length = n) (hs : st0 = As.reverse ++ rest) (hW : (rest.map fun v => v.category).sum ≤ 8) (hL : L.length = nL) (hcs : cs.1 ≤ R.cells ∧ cs.2 ≤ R.slots) (d : decode cc pc = .ok (.invokestatic index, 3)) (kk : ∀ (v : Option Value) (μ' : xM) (I' : xI) (P' : xP), Ps v μ' I' P' → xg X G cs μ' I' P' L (pc + 3) (v.toList ++ rest)) : xg X G cs μ I P L (pc) (st0) := by
  refine r_run (mc := 0) (ms := 0) (rest := rest) (Ps := Ps) (av := As.toArray) (fun H locs ls h0 hP hS hl => ?_) kk
  obtain ⟨hx, hb, hml, hown, hts, hV, hRR⟩ := hC
  exact va_runS (rest := rest) ⟨hx, hb, hml, hown, hts⟩ hM (va_cwS n hts hG hw hrc hrs hd (by rw [hRR]; exact hR)) ⟨xPre.blind, fun U hU hW => ⟨rfl, h0, Or.inl rfl, by rw [hU]; exact hP, xV.call hV hW hS hU⟩⟩ rfl hA (hl.1.trans hL) hs (lv_room hW) d (by rw [hRR]; exact hcs)
theorem r_callSN (hC : xC X G cc Ts own nL R) {y : MethodName} {bytes : ByteArray} {maxL n index : Nat} {ret : Option FieldType} {ws ws' : List Cond} {rm : Room} {Ps : xPost} {As rest st0 : List Value} {host : String} (hN : xN G X.2.2.2.2.1 → va_Nw (.methodLinkNest own index y host) X.2.2.2.2.1) (hini : Cond.initialized y.cls ∈ Ts) (hsta : Cond.static y ∈ Ts) (hM : Ct X.2.1 y ws rm G μ I P As 0 0 Ps) (hG : GoodIn Ts ws) (hw : ws = Cond.code y bytes maxL ret :: ws') (hrc : rm.cells = 0) (hrs : rm.slots = 0) (hd : y.cls ≠ "java/lang/invoke/MethodHandle" ∧ y.cls ≠ "java/lang/invoke/VarHandle" ∧ (parseMethodDescriptor y.desc).map (fun d => d.parameters.length) = some n) (hR : rm.frames + 1 ≤ R.frames ∧ 8 + (maxL + 11) + rm.locals ≤ R.locals) (hA : As.length = n) (hs : st0 = As.reverse ++ rest) (hW : (rest.map fun v => v.category).sum ≤ 8) (hL : L.length = nL) (hcs : cs.1 ≤ R.cells ∧ cs.2 ≤ R.slots) (d : decode cc pc = .ok (.invokestatic index, 3)) (kk : ∀ (v : Option Value) (μ' : xM) (I' : xI) (P' : xP), Ps v μ' I' P' → xg X G cs μ' I' P' L (pc + 3) (v.toList ++ rest)) : xg X G cs μ I P L (pc) (st0) := by
  refine r_run (mc := 0) (ms := 0) (rest := rest) (Ps := Ps) (av := As.toArray) (fun H locs ls h0 hP hS hl => ?_) kk
  obtain ⟨hx, hb, hml, hown, hts, hV, hRR⟩ := hC
  exact va_runSN (rest := rest) ⟨hx, hb, hml, hown, hts⟩ hM ⟨va_cnB n hts hG hw hrc hrs (hN hV.2.1) (hts _ hini) hd (by rw [hRR]; exact hR), hts _ hsta, trivial⟩ ⟨xPre.blind, fun U hU hW => ⟨rfl, h0, Or.inl rfl, by rw [hU]; exact hP, xV.call hV hW hS hU⟩⟩ rfl hA (hl.1.trans hL) hs (lv_room hW) d (by rw [hRR]; exact hcs)
theorem r_mabs (hC : xC X G cc Ts own nL R) {index : Nat} {x : Int32} (hlink : Cond.methodLink own index Lib.Math.abs.name ∈ Ts) (hstat : Cond.static Lib.Math.abs.name ∈ Ts) (hini : Cond.initialized "java/lang/Math" ∈ Ts) (hcode : Cond.code Lib.Math.abs.name Lib.Math.abs.code 1 (some .int) ∈ Ts) (hR : 1 ≤ R.frames ∧ 21 ≤ R.locals) (hW : (st.map fun v => v.category).sum ≤ 8) (hL : L.length = nL) (hcs : cs.1 ≤ R.cells ∧ cs.2 ≤ R.slots) (d : decode cc pc = .ok (.invokestatic index, 3)) (kk : xg X G cs μ I P L (pc + 3) (.int (if 0 ≤ x then x else 0 - x) :: st)) : xg X G cs μ I P L (pc) (.int x :: st) := by
  intro H locs ls h0 hP hS hl
  obtain ⟨hx, hb, hml, hown, hts, hV, hRR⟩ := hC
  exact va_mabs hx hb (by rw [hml, hl.1, hL]) hown (hts _ hlink) (hts _ hstat) (hts _ hini) (hts _ hcode) (by rw [hRR]; exact hR.1) (by rw [hRR]; omega) (by rw [hRR]; exact hcs.1) (by rw [hRR]; exact hcs.2) d (kk H locs ls h0 hP hS hl)
theorem r_copyi (hC : xC X G cc Ts own nL R) {index a b : Nat} {n : Int32} {N : Nat} (hlink : Cond.methodLink own index arraycopyName ∈ Ts) (hnat : Cond.native arraycopyName ∈ Ts) (hstat : Cond.static arraycopyName ∈ Ts) (hini : Cond.initialized "java/lang/System" ∈ Ts) (hk0 : μ.2.1 a = 7) (hk1 : μ.2.1 b = 7) (hn : xi n N (N + 1)) (h4 : N ≤ μ.2.2 a) (h5 : N ≤ μ.2.2 b) (hR : 1 ≤ R.frames ∧ 8 + (nativeFrameWords "java/lang/System" "arraycopy" 5 + 11) ≤ R.locals) (hW : (st.map fun v => v.category).sum ≤ 8) (hL : L.length = nL) (d : decode cc pc = .ok (.invokestatic index, 3)) (kk : xg X G cs μ (xcp I a b N) P L (pc + 3) (st)) : xg X G cs μ I P L (pc) (.int n :: .int 0 :: .ref (xZ G + b) :: .int 0 :: .ref (xZ G + a) :: st) := by
  intro H locs ls h0 hP hS hl
  obtain ⟨hx, hb, hml, hown, hts, hV, hRR⟩ := hC
  obtain ⟨j, rfl, hj⟩ := xok_pos (a := a) h0 (by rw [hk0]; decide)
  obtain ⟨j1, rfl, hj1⟩ := xok_pos (a := b) h0 (by rw [hk1]; decide)
  have hw := xw_at (G := G) (I := I) (P := P) hj
  have hw1 := xw_at (G := G) (I := I) (P := P) hj1
  rw [xe_iarr hk0] at hw
  rw [xe_iarr hk1] at hw1
  have z0 : (0 : Int32).toNatClampNeg = 0 := by decide
  refine va_copyi hx hb (by rw [hml, hl.1, hL]) hown (hts _ hlink) (hts _ hnat) (hts _ hstat) (hts _ hini) hV.1 hP xw_D hS j j1 0 0 hw hw1 rfl rfl rfl (by decide) (by decide) hn.2.1 (by rw [z0, hn.1]; omega) (by rw [z0, hn.1]; omega) (fun i _ => rfl) (by rw [hRR]; exact hR.1) (by rw [hRR]; omega) d (fun H1 locs1 hP1 _ hS1 => kk H1 locs1 ls ⟨h0.1, xty_cp hk1 h0.2⟩ ?_ hS1 hl)
  rw [xw_set (I' := xcp I (j + 1) (j1 + 1) N) (P' := P) (by rw [xe_iarr hk1, z0, hn.1]; congr 4; funext q; simp [xcp, va_cpy]) (fun c hc => xe_congr (xcp_row hc) rfl)] at hP1
  exact hP1
theorem r_copyc (hC : xC X G cc Ts own nL R) {index a b : Nat} {n : Int32} {N : Nat} (hlink : Cond.methodLink own index arraycopyName ∈ Ts) (hnat : Cond.native arraycopyName ∈ Ts) (hstat : Cond.static arraycopyName ∈ Ts) (hini : Cond.initialized "java/lang/System" ∈ Ts) (hk0 : μ.2.1 a = 8) (hk1 : μ.2.1 b = 8) (hn : xi n N (N + 1)) (h4 : N ≤ μ.2.2 a) (h5 : N ≤ μ.2.2 b) (hR : 1 ≤ R.frames ∧ 8 + (nativeFrameWords "java/lang/System" "arraycopy" 5 + 11) ≤ R.locals) (hW : (st.map fun v => v.category).sum ≤ 8) (hL : L.length = nL) (d : decode cc pc = .ok (.invokestatic index, 3)) (kk : xg X G cs μ (xcp I a b N) P L (pc + 3) (st)) : xg X G cs μ I P L (pc) (.int n :: .int 0 :: .ref (xZ G + b) :: .int 0 :: .ref (xZ G + a) :: st) := by
  intro H locs ls h0 hP hS hl
  obtain ⟨hx, hb, hml, hown, hts, hV, hRR⟩ := hC
  obtain ⟨j, rfl, hj⟩ := xok_pos (a := a) h0 (by rw [hk0]; decide)
  obtain ⟨j1, rfl, hj1⟩ := xok_pos (a := b) h0 (by rw [hk1]; decide)
  have hw := xw_at (G := G) (I := I) (P := P) hj
  have hw1 := xw_at (G := G) (I := I) (P := P) hj1
  rw [xe_carr hk0] at hw
  rw [xe_carr hk1] at hw1
  have z0 : (0 : Int32).toNatClampNeg = 0 := by decide
  refine va_copyi hx hb (by rw [hml, hl.1, hL]) hown (hts _ hlink) (hts _ hnat) (hts _ hstat) (hts _ hini) hV.1 hP xw_D hS j j1 1 1 hw hw1 rfl rfl rfl (by decide) (by decide) hn.2.1 (by rw [z0, hn.1]; omega) (by rw [z0, hn.1]; omega) (fun i _ => h0.2.1 _ _ hk0) (by rw [hRR]; exact hR.1) (by rw [hRR]; omega) d (fun H1 locs1 hP1 _ hS1 => kk H1 locs1 ls ⟨h0.1, xty_cp8 hk0 hk1 h0.2⟩ ?_ hS1 hl)
  rw [xw_set (I' := xcp I (j + 1) (j1 + 1) N) (P' := P) (by rw [xe_carr hk1, z0, hn.1]; congr 4; funext q; simp [xcp, va_cpy]) (fun c hc => xe_congr (xcp_row hc) rfl)] at hP1
  exact hP1
theorem r_lcmp (hC : xC X G cc Ts own nL R) {x y : Int64} (d : decode cc pc = .ok (.lcmp, 1)) (kk : xg X G cs μ I P L (pc + 1) (.int (lg_cmp x y) :: st)) : xg X G cs μ I P L (pc) (.long y :: .long x :: st) := fun H locs ls h0 hP hS hl => W.lcmp hC.1 hC.2.1 d (kk H locs ls h0 hP hS hl)
theorem r_ldc_w (hC : xC X G cc Ts own nL R) {index : Nat} {v : Int32} (d : decode cc pc = .ok (.ldc_w index, 3)) (hw : Cond.constant own index v ∈ Ts) (kk : xg X G cs μ I P L (pc + 3) (.int v :: st)) : xg X G cs μ I P L (pc) (st) := fun H locs ls h0 hP hS hl => lv_ldcw hC.1 hC.2.1 hC.2.2.2.1 (hC.2.2.2.2.1 _ hw) d (kk H locs ls h0 hP hS hl)
end XROWS4
end
section
/-! pure rows: literals, small functions that both sides compute -/
theorem xlit (n : Nat) : (OfNat.ofNat n : Int32) = nI n := rfl
theorem xi_l {i : Int32} {k n m : Nat} (h : m = n) (h1 : i.toNatClampNeg = k) (h2 : ¬ i < 0) (h3 : k < n) : xi i k m := ⟨h1, h2, by omega⟩
theorem xi_e {i : Int32} {k n m : Nat} (hi : i = nI k) (hm : m = n) (h : k < n) (hn : n < 2 ^ 31) : xi i k m := by subst hi; subst hm; exact xi_n h hn
/-- a letter's width -/
def lw (c : Int32) : Int32 := if c = 73 then 1 else if c = 32 then 1 else if c = 77 then 3 else if c = 87 then 3 else 2
def wsum (f : Nat → Int32) : Nat → Int32
  | 0 => 0
  | n + 1 => wsum f n + lw (f n)
theorem wsum_congr {f g : Nat → Int32} : ∀ {n : Nat}, (∀ j, j < n → f j = g j) → wsum f n = wsum g n
  | 0, _ => rfl
  | n + 1, h => by rw [wsum, wsum, wsum_congr (fun j hj => h j (by omega)), h n (by omega)]
/-- how much a name of width w is squeezed on a blind of width b -/
def sq (b w : Int32) : Int32 := if w ≤ b then 100 else w * 100 / b
end
section
abbrev rm_X0_hasRow : Room := { frames := 0, cells := 0, slots := 0, locals := 0 }
theorem wl_X0_hasRow_50 : Cond.fieldLink RX0 50 "HandBlinds$Blind" "rowCount" "I" ∈ wsX0_hasRow := List.mem_of_getElem? (i := 1) (by decide +kernel)
theorem wi_X0_hasRow_0 : ∀ w ∈ wsX00, w ∈ wsX0_hasRow := fun _ h => List.mem_cons_of_mem _ (List.mem_append_right _ h)
theorem hd_X0_hasRow : yX0_hasRow.cls = RX0 ∧ yX0_hasRow.cls ≠ "java/lang/invoke/MethodHandle" ∧ yX0_hasRow.cls ≠ "java/lang/invoke/VarHandle" ∧ (parseMethodDescriptor yX0_hasRow.desc).map (fun d => d.parameters.length) = some 1 := ⟨rfl, by decide +kernel, by decide +kernel, by decide +kernel⟩
set_option maxHeartbeats 4000000 in
set_option maxRecDepth 100000 in
theorem c_X0_hasRow (l : Launch) {G : xG} {μ : xM} {I : xI} {P : xP} {b : Nat} {r : Int32} (kb : μ.2.1 b = 1) : Ct l yX0_hasRow wsX0_hasRow rm_X0_hasRow G μ I P [.ref (xZ G + b), .int r] 0 0 (fun vv μ' I' P' => vv = some (.int (if r < 0 then 0 else if I b 1 ≤ r then 0 else 1)) ∧ μ' = μ ∧ I' = I ∧ P' = P) := by
  refine Ct.of (cc := cX0_hasRow) (maxL := 2) (ret := (some .boolean)) [some (.ref (xZ G + b)), some (.int r)] (by decide) rfl rfl rfl (Nat.le_of_ble_eq_true rfl) ?_
  intro X hC hD h0 _
  refine r_iload_n (pc := 0) hC dX0_hasRow_0 rfl ?_
  refine r_if_lt (pc := 1) (tgt := 16) hC dX0_hasRow_1 (by decide) (fun bq1 => ?_) (fun bq1 => ?_)
  · skip
    refine r_iconst (pc := 16) (v := 0) hC dX0_hasRow_16 (by decide) ?_
    refine r_iret (pc := 17) hC hD rfl dX0_hasRow_17 rfl ?_
    exact ⟨by simp [bq1], rfl, rfl, rfl⟩
  · skip
    refine r_iload_n (pc := 4) hC dX0_hasRow_4 rfl ?_
    refine r_aload_n (pc := 5) hC dX0_hasRow_5 rfl ?_
    refine g_Blind_rowCount (pc := 6) hC wi_X0_hasRow_0 wl_X0_hasRow_50 (by assumption) dX0_hasRow_6 ?_
    refine r_icmp_ge (pc := 9) (tgt := 16) hC dX0_hasRow_9 (by decide) (fun bq9 => ?_) (fun bq9 => ?_)
    · skip
      refine r_iconst (pc := 16) (v := 0) hC dX0_hasRow_16 (by decide) ?_
      refine r_iret (pc := 17) hC hD rfl dX0_hasRow_17 rfl ?_
      exact ⟨by simp [bq1, bq9], rfl, rfl, rfl⟩
    · skip
      refine r_iconst (pc := 12) (v := 1) hC dX0_hasRow_12 (by decide) ?_
      refine r_goto (pc := 13) (tgt := 17) hC dX0_hasRow_13 (by decide) ?_
      refine r_iret (pc := 17) hC hD rfl dX0_hasRow_17 rfl ?_
      exact ⟨by simp [bq1, bq9], rfl, rfl, rfl⟩
theorem k_X0_hasRow {X : xF} {G : xG} {cs : Nat × Nat} {μ : xM} {I : xI} {P : xP} {L : List (Option Value)} {pc : Nat} {rest : List Value} {cc : ByteArray} {Ts : List Cond} {own : String} {nL : Nat} {R : Room} (hC : xC X G cc Ts own nL R) {index : Nat} (hG : GoodIn Ts (wsV own index RX0 yX0_hasRow wsX0_hasRow)) (hR : rm_X0_hasRow.frames + 1 ≤ R.frames ∧ 8 + (2 + 11) + rm_X0_hasRow.locals ≤ R.locals) {b : Nat} {r : Int32} (kb : μ.2.1 b = 1) (hW : (rest.map fun v => v.category).sum ≤ 8) (hL : L.length = nL) (hcs : cs.1 ≤ R.cells ∧ cs.2 ≤ R.slots) (d : decode cc pc = .ok (.invokevirtual index, 3)) (kk : xg X G cs μ I P L (pc + 3) (.int (if r < 0 then 0 else if I b 1 ≤ r then 0 else 1) :: rest)) : xg X G cs μ I P L pc (.int r :: .ref (xZ G + b) :: rest) :=
  r_callV hC (c_X0_hasRow X.2.1 kb) hG rfl rfl rfl hd_X0_hasRow hR (by rw [kb]; decide) (xe_Blind kb) rfl rfl rfl hW hL hcs d (by rintro v μ' I' P' ⟨rfl, rfl, rfl, rfl⟩; exact kk)
abbrev rm_X0_hasRoute : Room := { frames := 0, cells := 0, slots := 0, locals := 0 }
theorem wl_X0_hasRoute_56 : Cond.fieldLink RX0 56 "HandBlinds$Blind" "routeCount" "I" ∈ wsX0_hasRoute := List.mem_of_getElem? (i := 1) (by decide +kernel)
theorem wi_X0_hasRoute_0 : ∀ w ∈ wsX00, w ∈ wsX0_hasRoute := fun _ h => List.mem_cons_of_mem _ (List.mem_append_right _ h)
theorem hd_X0_hasRoute : yX0_hasRoute.cls = RX0 ∧ yX0_hasRoute.cls ≠ "java/lang/invoke/MethodHandle" ∧ yX0_hasRoute.cls ≠ "java/lang/invoke/VarHandle" ∧ (parseMethodDescriptor yX0_hasRoute.desc).map (fun d => d.parameters.length) = some 1 := ⟨rfl, by decide +kernel, by decide +kernel, by decide +kernel⟩
set_option maxHeartbeats 4000000 in
set_option maxRecDepth 100000 in
theorem c_X0_hasRoute (l : Launch) {G : xG} {μ : xM} {I : xI} {P : xP} {b : Nat} {r : Int32} (kb : μ.2.1 b = 1) : Ct l yX0_hasRoute wsX0_hasRoute rm_X0_hasRoute G μ I P [.ref (xZ G + b), .int r] 0 0 (fun vv μ' I' P' => vv = some (.int (if r < 0 then 0 else if I b 4 ≤ r then 0 else 1)) ∧ μ' = μ ∧ I' = I ∧ P' = P) := by
  refine Ct.of (cc := cX0_hasRoute) (maxL := 2) (ret := (some .boolean)) [some (.ref (xZ G + b)), some (.int r)] (by decide) rfl rfl rfl (Nat.le_of_ble_eq_true rfl) ?_
  intro X hC hD h0 _
  refine r_iload_n (pc := 0) hC dX0_hasRoute_0 rfl ?_
  refine r_if_lt (pc := 1) (tgt := 16) hC dX0_hasRoute_1 (by decide) (fun bq1 => ?_) (fun bq1 => ?_)
  · skip
    refine r_iconst (pc := 16) (v := 0) hC dX0_hasRoute_16 (by decide) ?_
    refine r_iret (pc := 17) hC hD rfl dX0_hasRoute_17 rfl ?_
    exact ⟨by simp [bq1], rfl, rfl, rfl⟩
  · skip
    refine r_iload_n (pc := 4) hC dX0_hasRoute_4 rfl ?_
    refine r_aload_n (pc := 5) hC dX0_hasRoute_5 rfl ?_
    refine g_Blind_routeCount (pc := 6) hC wi_X0_hasRoute_0 wl_X0_hasRoute_56 (by assumption) dX0_hasRoute_6 ?_
    refine r_icmp_ge (pc := 9) (tgt := 16) hC dX0_hasRoute_9 (by decide) (fun bq9 => ?_) (fun bq9 => ?_)
    · skip
      refine r_iconst (pc := 16) (v := 0) hC dX0_hasRoute_16 (by decide) ?_
      refine r_iret (pc := 17) hC hD rfl dX0_hasRoute_17 rfl ?_
      exact ⟨by simp [bq1, bq9], rfl, rfl, rfl⟩
    · skip
      refine r_iconst (pc := 12) (v := 1) hC dX0_hasRoute_12 (by decide) ?_
      refine r_goto (pc := 13) (tgt := 17) hC dX0_hasRoute_13 (by decide) ?_
      refine r_iret (pc := 17) hC hD rfl dX0_hasRoute_17 rfl ?_
      exact ⟨by simp [bq1, bq9], rfl, rfl, rfl⟩
theorem k_X0_hasRoute {X : xF} {G : xG} {cs : Nat × Nat} {μ : xM} {I : xI} {P : xP} {L : List (Option Value)} {pc : Nat} {rest : List Value} {cc : ByteArray} {Ts : List Cond} {own : String} {nL : Nat} {R : Room} (hC : xC X G cc Ts own nL R) {index : Nat} (hG : GoodIn Ts (wsV own index RX0 yX0_hasRoute wsX0_hasRoute)) (hR : rm_X0_hasRoute.frames + 1 ≤ R.frames ∧ 8 + (2 + 11) + rm_X0_hasRoute.locals ≤ R.locals) {b : Nat} {r : Int32} (kb : μ.2.1 b = 1) (hW : (rest.map fun v => v.category).sum ≤ 8) (hL : L.length = nL) (hcs : cs.1 ≤ R.cells ∧ cs.2 ≤ R.slots) (d : decode cc pc = .ok (.invokevirtual index, 3)) (kk : xg X G cs μ I P L (pc + 3) (.int (if r < 0 then 0 else if I b 4 ≤ r then 0 else 1) :: rest)) : xg X G cs μ I P L pc (.int r :: .ref (xZ G + b) :: rest) :=
  r_callV hC (c_X0_hasRoute X.2.1 kb) hG rfl rfl rfl hd_X0_hasRoute hR (by rw [kb]; decide) (xe_Blind kb) rfl rfl rfl hW hL hcs d (by rintro v μ' I' P' ⟨rfl, rfl, rfl, rfl⟩; exact kk)
abbrev rm_X0_rowAfter : Room := { frames := 0, cells := 0, slots := 0, locals := 0 }
theorem wl_X0_rowAfter_53 : Cond.fieldLink RX0 53 "HandBlinds$Blind" "shown" "I" ∈ wsX0_rowAfter := List.mem_of_getElem? (i := 1) (by decide +kernel)
theorem wi_X0_rowAfter_0 : ∀ w ∈ wsX00, w ∈ wsX0_rowAfter := fun _ h => List.mem_cons_of_mem _ (List.mem_append_right _ h)
theorem hd_X0_rowAfter : yX0_rowAfter.cls = RX0 ∧ yX0_rowAfter.cls ≠ "java/lang/invoke/MethodHandle" ∧ yX0_rowAfter.cls ≠ "java/lang/invoke/VarHandle" ∧ (parseMethodDescriptor yX0_rowAfter.desc).map (fun d => d.parameters.length) = some 2 := ⟨rfl, by decide +kernel, by decide +kernel, by decide +kernel⟩
set_option maxHeartbeats 4000000 in
set_option maxRecDepth 100000 in
theorem c_X0_rowAfter (l : Launch) {G : xG} {μ : xM} {I : xI} {P : xP} {b : Nat} {w n : Int32} (kb : μ.2.1 b = 1) : Ct l yX0_rowAfter wsX0_rowAfter rm_X0_rowAfter G μ I P [.ref (xZ G + b), .int w, .int n] 0 0 (fun vv μ' I' P' => vv = some (.int (if w ≤ 0 then I b 2 - n else I b 2 + n)) ∧ μ' = μ ∧ I' = I ∧ P' = P) := by
  refine Ct.of (cc := cX0_rowAfter) (maxL := 3) (ret := (some .int)) [some (.ref (xZ G + b)), some (.int w), some (.int n)] (by decide) rfl rfl rfl (Nat.le_of_ble_eq_true rfl) ?_
  intro X hC hD h0 _
  refine r_iload_n (pc := 0) hC dX0_rowAfter_0 rfl ?_
  refine r_if_le (pc := 1) (tgt := 13) hC dX0_rowAfter_1 (by decide) (fun bq1 => ?_) (fun bq1 => ?_)
  · skip
    refine r_aload_n (pc := 13) hC dX0_rowAfter_13 rfl ?_
    refine g_Blind_shown (pc := 14) hC wi_X0_rowAfter_0 wl_X0_rowAfter_53 (by assumption) dX0_rowAfter_14 ?_
    refine r_iload_n (pc := 17) hC dX0_rowAfter_17 rfl ?_
    refine r_isub (pc := 18) hC dX0_rowAfter_18 ?_
    refine r_iret (pc := 19) hC hD rfl dX0_rowAfter_19 rfl ?_
    exact ⟨by simp [bq1], rfl, rfl, rfl⟩
  · skip
    refine r_aload_n (pc := 4) hC dX0_rowAfter_4 rfl ?_
    refine g_Blind_shown (pc := 5) hC wi_X0_rowAfter_0 wl_X0_rowAfter_53 (by assumption) dX0_rowAfter_5 ?_
    refine r_iload_n (pc := 8) hC dX0_rowAfter_8 rfl ?_
    refine r_iadd (pc := 9) hC dX0_rowAfter_9 ?_
    refine r_goto (pc := 10) (tgt := 19) hC dX0_rowAfter_10 (by decide) ?_
    refine r_iret (pc := 19) hC hD rfl dX0_rowAfter_19 rfl ?_
    exact ⟨by simp [bq1], rfl, rfl, rfl⟩
theorem k_X0_rowAfter {X : xF} {G : xG} {cs : Nat × Nat} {μ : xM} {I : xI} {P : xP} {L : List (Option Value)} {pc : Nat} {rest : List Value} {cc : ByteArray} {Ts : List Cond} {own : String} {nL : Nat} {R : Room} (hC : xC X G cc Ts own nL R) {index : Nat} (hG : GoodIn Ts (wsV own index RX0 yX0_rowAfter wsX0_rowAfter)) (hR : rm_X0_rowAfter.frames + 1 ≤ R.frames ∧ 8 + (3 + 11) + rm_X0_rowAfter.locals ≤ R.locals) {b : Nat} {w n : Int32} (kb : μ.2.1 b = 1) (hW : (rest.map fun v => v.category).sum ≤ 8) (hL : L.length = nL) (hcs : cs.1 ≤ R.cells ∧ cs.2 ≤ R.slots) (d : decode cc pc = .ok (.invokevirtual index, 3)) (kk : xg X G cs μ I P L (pc + 3) (.int (if w ≤ 0 then I b 2 - n else I b 2 + n) :: rest)) : xg X G cs μ I P L pc (.int n :: .int w :: .ref (xZ G + b) :: rest) :=
  r_callV hC (c_X0_rowAfter X.2.1 kb) hG rfl rfl rfl hd_X0_rowAfter hR (by rw [kb]; decide) (xe_Blind kb) rfl rfl rfl hW hL hcs d (by rintro v μ' I' P' ⟨rfl, rfl, rfl, rfl⟩; exact kk)
abbrev rm_X0_isEnd : Room := { frames := 0, cells := 0, slots := 0, locals := 0 }
theorem wl_X0_isEnd_50 : Cond.fieldLink RX0 50 "HandBlinds$Blind" "rowCount" "I" ∈ wsX0_isEnd := List.mem_of_getElem? (i := 1) (by decide +kernel)
theorem wi_X0_isEnd_0 : ∀ w ∈ wsX00, w ∈ wsX0_isEnd := fun _ h => List.mem_cons_of_mem _ (List.mem_append_right _ h)
theorem hd_X0_isEnd : yX0_isEnd.cls = RX0 ∧ yX0_isEnd.cls ≠ "java/lang/invoke/MethodHandle" ∧ yX0_isEnd.cls ≠ "java/lang/invoke/VarHandle" ∧ (parseMethodDescriptor yX0_isEnd.desc).map (fun d => d.parameters.length) = some 2 := ⟨rfl, by decide +kernel, by decide +kernel, by decide +kernel⟩
set_option maxHeartbeats 4000000 in
set_option maxRecDepth 100000 in
theorem c_X0_isEnd (l : Launch) {G : xG} {μ : xM} {I : xI} {P : xP} {b : Nat} {w r : Int32} (kb : μ.2.1 b = 1) : Ct l yX0_isEnd wsX0_isEnd rm_X0_isEnd G μ I P [.ref (xZ G + b), .int w, .int r] 0 0 (fun vv μ' I' P' => vv = some (.int (if w ≤ 0 then (if 0 < r then 0 else 1) else if r < I b 1 - 1 then 0 else 1)) ∧ μ' = μ ∧ I' = I ∧ P' = P) := by
  refine Ct.of (cc := cX0_isEnd) (maxL := 3) (ret := (some .boolean)) [some (.ref (xZ G + b)), some (.int w), some (.int r)] (by decide) rfl rfl rfl (Nat.le_of_ble_eq_true rfl) ?_
  intro X hC hD h0 _
  refine r_iload_n (pc := 0) hC dX0_isEnd_0 rfl ?_
  refine r_if_le (pc := 1) (tgt := 22) hC dX0_isEnd_1 (by decide) (fun bq1 => ?_) (fun bq1 => ?_)
  · skip
    refine r_iload_n (pc := 22) hC dX0_isEnd_22 rfl ?_
    refine r_if_gt (pc := 23) (tgt := 30) hC dX0_isEnd_23 (by decide) (fun bq23 => ?_) (fun bq23 => ?_)
    · skip
      refine r_iconst (pc := 30) (v := 0) hC dX0_isEnd_30 (by decide) ?_
      refine r_iret (pc := 31) hC hD rfl dX0_isEnd_31 rfl ?_
      exact ⟨by simp [bq1, bq23], rfl, rfl, rfl⟩
    · skip
      refine r_iconst (pc := 26) (v := 1) hC dX0_isEnd_26 (by decide) ?_
      refine r_goto (pc := 27) (tgt := 31) hC dX0_isEnd_27 (by decide) ?_
      refine r_iret (pc := 31) hC hD rfl dX0_isEnd_31 rfl ?_
      exact ⟨by simp [bq1, bq23], rfl, rfl, rfl⟩
  · skip
    refine r_iload_n (pc := 4) hC dX0_isEnd_4 rfl ?_
    refine r_aload_n (pc := 5) hC dX0_isEnd_5 rfl ?_
    refine g_Blind_rowCount (pc := 6) hC wi_X0_isEnd_0 wl_X0_isEnd_50 (by assumption) dX0_isEnd_6 ?_
    refine r_iconst (pc := 9) (v := 1) hC dX0_isEnd_9 (by decide) ?_
    refine r_isub (pc := 10) hC dX0_isEnd_10 ?_
    refine r_icmp_lt (pc := 11) (tgt := 18) hC dX0_isEnd_11 (by decide) (fun bq11 => ?_) (fun bq11 => ?_)
    · skip
      refine r_iconst (pc := 18) (v := 0) hC dX0_isEnd_18 (by decide) ?_
      refine r_goto (pc := 19) (tgt := 31) hC dX0_isEnd_19 (by decide) ?_
      refine r_iret (pc := 31) hC hD rfl dX0_isEnd_31 rfl ?_
      exact ⟨by simp [bq1, bq11], rfl, rfl, rfl⟩
    · skip
      refine r_iconst (pc := 14) (v := 1) hC dX0_isEnd_14 (by decide) ?_
      refine r_goto (pc := 15) (tgt := 31) hC dX0_isEnd_15 (by decide) ?_
      refine r_iret (pc := 31) hC hD rfl dX0_isEnd_31 rfl ?_
      exact ⟨by simp [bq1, bq11], rfl, rfl, rfl⟩
theorem k_X0_isEnd {X : xF} {G : xG} {cs : Nat × Nat} {μ : xM} {I : xI} {P : xP} {L : List (Option Value)} {pc : Nat} {rest : List Value} {cc : ByteArray} {Ts : List Cond} {own : String} {nL : Nat} {R : Room} (hC : xC X G cc Ts own nL R) {index : Nat} (hG : GoodIn Ts (wsV own index RX0 yX0_isEnd wsX0_isEnd)) (hR : rm_X0_isEnd.frames + 1 ≤ R.frames ∧ 8 + (3 + 11) + rm_X0_isEnd.locals ≤ R.locals) {b : Nat} {w r : Int32} (kb : μ.2.1 b = 1) (hW : (rest.map fun v => v.category).sum ≤ 8) (hL : L.length = nL) (hcs : cs.1 ≤ R.cells ∧ cs.2 ≤ R.slots) (d : decode cc pc = .ok (.invokevirtual index, 3)) (kk : xg X G cs μ I P L (pc + 3) (.int (if w ≤ 0 then (if 0 < r then 0 else 1) else if r < I b 1 - 1 then 0 else 1) :: rest)) : xg X G cs μ I P L pc (.int r :: .int w :: .ref (xZ G + b) :: rest) :=
  r_callV hC (c_X0_isEnd X.2.1 kb) hG rfl rfl rfl hd_X0_isEnd hR (by rw [kb]; decide) (xe_Blind kb) rfl rfl rfl hW hL hcs d (by rintro v μ' I' P' ⟨rfl, rfl, rfl, rfl⟩; exact kk)
abbrev rm_X0_isSkipped : Room := { frames := 0, cells := 0, slots := 0, locals := 0 }
theorem hd_X0_isSkipped : yX0_isSkipped.cls = RX0 ∧ yX0_isSkipped.cls ≠ "java/lang/invoke/MethodHandle" ∧ yX0_isSkipped.cls ≠ "java/lang/invoke/VarHandle" ∧ (parseMethodDescriptor yX0_isSkipped.desc).map (fun d => d.parameters.length) = some 2 := ⟨rfl, by decide +kernel, by decide +kernel, by decide +kernel⟩
set_option maxHeartbeats 4000000 in
set_option maxRecDepth 100000 in
theorem c_X0_isSkipped (l : Launch) {G : xG} {μ : xM} {I : xI} {P : xP} {b : Nat} {i v : Int32} (kb : μ.2.1 b = 1) : Ct l yX0_isSkipped wsX0_isSkipped rm_X0_isSkipped G μ I P [.ref (xZ G + b), .int i, .int v] 0 0 (fun vv μ' I' P' => vv = some (.int (if v = 3 then (if i - i / 2 * 2 = 1 then 1 else 0) else 0)) ∧ μ' = μ ∧ I' = I ∧ P' = P) := by
  refine Ct.of (cc := cX0_isSkipped) (maxL := 3) (ret := (some .boolean)) [some (.ref (xZ G + b)), some (.int i), some (.int v)] (by decide) rfl rfl rfl (Nat.le_of_ble_eq_true rfl) ?_
  intro X hC hD h0 _
  refine r_iload_n (pc := 0) hC dX0_isSkipped_0 rfl ?_
  refine r_iconst (pc := 1) (v := 3) hC dX0_isSkipped_1 (by decide) ?_
  refine r_icmp_ne (pc := 2) (tgt := 16) hC dX0_isSkipped_2 (by decide) (fun bq2 => ?_) (fun bq2 => ?_)
  · skip
    refine r_iconst (pc := 16) (v := 0) hC dX0_isSkipped_16 (by decide) ?_
    refine r_iret (pc := 17) hC hD rfl dX0_isSkipped_17 rfl ?_
    exact ⟨by simp [bq2], rfl, rfl, rfl⟩
  · skip
    refine r_iload_n (pc := 5) hC dX0_isSkipped_5 rfl ?_
    refine r_iconst (pc := 6) (v := 2) hC dX0_isSkipped_6 (by decide) ?_
    refine r_irem (pc := 7) hC dX0_isSkipped_7 (by decide) ?_
    refine r_iconst (pc := 8) (v := 1) hC dX0_isSkipped_8 (by decide) ?_
    refine r_icmp_ne (pc := 9) (tgt := 16) hC dX0_isSkipped_9 (by decide) (fun bq9 => ?_) (fun bq9 => ?_)
    · skip
      refine r_iconst (pc := 16) (v := 0) hC dX0_isSkipped_16 (by decide) ?_
      refine r_iret (pc := 17) hC hD rfl dX0_isSkipped_17 rfl ?_
      exact ⟨by simp [bq2, bq9], rfl, rfl, rfl⟩
    · skip
      refine r_iconst (pc := 12) (v := 1) hC dX0_isSkipped_12 (by decide) ?_
      refine r_goto (pc := 13) (tgt := 17) hC dX0_isSkipped_13 (by decide) ?_
      refine r_iret (pc := 17) hC hD rfl dX0_isSkipped_17 rfl ?_
      exact ⟨by simp [bq2, bq9], rfl, rfl, rfl⟩
theorem k_X0_isSkipped {X : xF} {G : xG} {cs : Nat × Nat} {μ : xM} {I : xI} {P : xP} {L : List (Option Value)} {pc : Nat} {rest : List Value} {cc : ByteArray} {Ts : List Cond} {own : String} {nL : Nat} {R : Room} (hC : xC X G cc Ts own nL R) {index : Nat} (hG : GoodIn Ts (wsV own index RX0 yX0_isSkipped wsX0_isSkipped)) (hR : rm_X0_isSkipped.frames + 1 ≤ R.frames ∧ 8 + (3 + 11) + rm_X0_isSkipped.locals ≤ R.locals) {b : Nat} {i v : Int32} (kb : μ.2.1 b = 1) (hW : (rest.map fun v => v.category).sum ≤ 8) (hL : L.length = nL) (hcs : cs.1 ≤ R.cells ∧ cs.2 ≤ R.slots) (d : decode cc pc = .ok (.invokevirtual index, 3)) (kk : xg X G cs μ I P L (pc + 3) (.int (if v = 3 then (if i - i / 2 * 2 = 1 then 1 else 0) else 0) :: rest)) : xg X G cs μ I P L pc (.int v :: .int i :: .ref (xZ G + b) :: rest) :=
  r_callV hC (c_X0_isSkipped X.2.1 kb) hG rfl rfl rfl hd_X0_isSkipped hR (by rw [kb]; decide) (xe_Blind kb) rfl rfl rfl hW hL hcs d (by rintro v μ' I' P' ⟨rfl, rfl, rfl, rfl⟩; exact kk)
abbrev rm_X1_owns : Room := { frames := 0, cells := 0, slots := 0, locals := 0 }
theorem wl_X1_owns_7 : Cond.fieldLink RX1 7 "HandBlinds$Route" "rows" "I" ∈ wsX1_owns := List.mem_of_getElem? (i := 1) (by decide +kernel)
theorem wi_X1_owns_1 : ∀ w ∈ wsX10, w ∈ wsX1_owns := fun _ h => List.mem_cons_of_mem _ (List.mem_append_right _ h)
theorem hd_X1_owns : yX1_owns.cls = RX1 ∧ yX1_owns.cls ≠ "java/lang/invoke/MethodHandle" ∧ yX1_owns.cls ≠ "java/lang/invoke/VarHandle" ∧ (parseMethodDescriptor yX1_owns.desc).map (fun d => d.parameters.length) = some 1 := ⟨rfl, by decide +kernel, by decide +kernel, by decide +kernel⟩
set_option maxHeartbeats 4000000 in
set_option maxRecDepth 100000 in
theorem c_X1_owns (l : Launch) {G : xG} {μ : xM} {I : xI} {P : xP} {a : Nat} {r : Int32} (ka : μ.2.1 a = 2) : Ct l yX1_owns wsX1_owns rm_X1_owns G μ I P [.ref (xZ G + a), .int r] 0 0 (fun vv μ' I' P' => vv = some (.int (if I a 0 >>> (r &&& 31) &&& 1 = 1 then 1 else 0)) ∧ μ' = μ ∧ I' = I ∧ P' = P) := by
  refine Ct.of (cc := cX1_owns) (maxL := 2) (ret := (some .boolean)) [some (.ref (xZ G + a)), some (.int r)] (by decide) rfl rfl rfl (Nat.le_of_ble_eq_true rfl) ?_
  intro X hC hD h0 _
  refine r_aload_n (pc := 0) hC dX1_owns_0 rfl ?_
  refine g_Route_rows (pc := 1) hC wi_X1_owns_1 wl_X1_owns_7 (by assumption) dX1_owns_1 ?_
  refine r_iload_n (pc := 4) hC dX1_owns_4 rfl ?_
  refine r_ishr (pc := 5) hC dX1_owns_5 ?_
  refine r_iconst (pc := 6) (v := 1) hC dX1_owns_6 (by decide) ?_
  refine r_iand (pc := 7) hC dX1_owns_7 ?_
  refine r_iconst (pc := 8) (v := 1) hC dX1_owns_8 (by decide) ?_
  refine r_icmp_ne (pc := 9) (tgt := 16) hC dX1_owns_9 (by decide) (fun bq9 => ?_) (fun bq9 => ?_)
  · skip
    refine r_iconst (pc := 16) (v := 0) hC dX1_owns_16 (by decide) ?_
    refine r_iret (pc := 17) hC hD rfl dX1_owns_17 rfl ?_
    exact ⟨by simp [bq9], rfl, rfl, rfl⟩
  · skip
    refine r_iconst (pc := 12) (v := 1) hC dX1_owns_12 (by decide) ?_
    refine r_goto (pc := 13) (tgt := 17) hC dX1_owns_13 (by decide) ?_
    refine r_iret (pc := 17) hC hD rfl dX1_owns_17 rfl ?_
    exact ⟨by simp [bq9], rfl, rfl, rfl⟩
theorem k_X1_owns {X : xF} {G : xG} {cs : Nat × Nat} {μ : xM} {I : xI} {P : xP} {L : List (Option Value)} {pc : Nat} {rest : List Value} {cc : ByteArray} {Ts : List Cond} {own : String} {nL : Nat} {R : Room} (hC : xC X G cc Ts own nL R) {index : Nat} (hG : GoodIn Ts (wsV own index RX1 yX1_owns wsX1_owns)) (hR : rm_X1_owns.frames + 1 ≤ R.frames ∧ 8 + (2 + 11) + rm_X1_owns.locals ≤ R.locals) {a : Nat} {r : Int32} (ka : μ.2.1 a = 2) (hW : (rest.map fun v => v.category).sum ≤ 8) (hL : L.length = nL) (hcs : cs.1 ≤ R.cells ∧ cs.2 ≤ R.slots) (d : decode cc pc = .ok (.invokevirtual index, 3)) (kk : xg X G cs μ I P L (pc + 3) (.int (if I a 0 >>> (r &&& 31) &&& 1 = 1 then 1 else 0) :: rest)) : xg X G cs μ I P L pc (.int r :: .ref (xZ G + a) :: rest) :=
  r_callV hC (c_X1_owns X.2.1 ka) hG rfl rfl rfl hd_X1_owns hR (by rw [ka]; decide) (xe_Route ka) rfl rfl rfl hW hL hcs d (by rintro v μ' I' P' ⟨rfl, rfl, rfl, rfl⟩; exact kk)
abbrev rm_X2_patch : Room := { frames := 0, cells := 0, slots := 0, locals := 0 }
theorem wl_X2_patch_25 : Cond.fieldLink RX2 25 "HandBlinds$Row" "wear" "I" ∈ wsX2_patch := List.mem_of_getElem? (i := 1) (by decide +kernel)
theorem wi_X2_patch_2 : ∀ w ∈ wsX20, w ∈ wsX2_patch := fun _ h => List.mem_cons_of_mem _ (List.mem_append_right _ h)
theorem wl_X2_patch_28 : Cond.fieldLink RX2 28 "HandBlinds$Row" "torn" "Z" ∈ wsX2_patch := List.mem_of_getElem? (i := 2) (by decide +kernel)
theorem hd_X2_patch : yX2_patch.cls = RX2 ∧ yX2_patch.cls ≠ "java/lang/invoke/MethodHandle" ∧ yX2_patch.cls ≠ "java/lang/invoke/VarHandle" ∧ (parseMethodDescriptor yX2_patch.desc).map (fun d => d.parameters.length) = some 0 := ⟨rfl, by decide +kernel, by decide +kernel, by decide +kernel⟩
set_option maxHeartbeats 4000000 in
set_option maxRecDepth 100000 in
theorem c_X2_patch (l : Launch) {G : xG} {μ : xM} {I : xI} {P : xP} {a : Nat} (ka : μ.2.1 a = 3) : Ct l yX2_patch wsX2_patch rm_X2_patch G μ I P [.ref (xZ G + a)] 0 0 (fun vv μ' I' P' => vv = none ∧ μ' = μ ∧ I' = xu (xu I a 2 (I a 2 / 2)) a 3 0 ∧ P' = P) := by
  refine Ct.of (cc := cX2_patch) (maxL := 1) (ret := none) [some (.ref (xZ G + a))] (by decide) rfl rfl rfl (Nat.le_of_ble_eq_true rfl) ?_
  intro X hC hD h0 _
  refine r_aload_n (pc := 0) hC dX2_patch_0 rfl ?_
  refine r_aload_n (pc := 1) hC dX2_patch_1 rfl ?_
  refine g_Row_wear (pc := 2) hC wi_X2_patch_2 wl_X2_patch_25 (by assumption) dX2_patch_2 ?_
  refine r_iconst (pc := 5) (v := 2) hC dX2_patch_5 (by decide) ?_
  refine r_idiv (pc := 6) hC dX2_patch_6 (by decide) ?_
  refine p_Row_wear (pc := 7) hC wi_X2_patch_2 wl_X2_patch_25 (by assumption) dX2_patch_7 ?_
  refine r_aload_n (pc := 10) hC dX2_patch_10 rfl ?_
  refine r_iconst (pc := 11) (v := 0) hC dX2_patch_11 (by decide) ?_
  refine p_Row_torn (pc := 12) hC (by first | exact Or.inl rfl | exact Or.inr rfl | assumption) wi_X2_patch_2 wl_X2_patch_28 (by assumption) dX2_patch_12 ?_
  refine r_vret (pc := 15) hC hD dX2_patch_15 rfl ?_
  exact ⟨rfl, rfl, rfl, rfl⟩
theorem k_X2_patch {X : xF} {G : xG} {cs : Nat × Nat} {μ : xM} {I : xI} {P : xP} {L : List (Option Value)} {pc : Nat} {rest : List Value} {cc : ByteArray} {Ts : List Cond} {own : String} {nL : Nat} {R : Room} (hC : xC X G cc Ts own nL R) {index : Nat} (hG : GoodIn Ts (wsV own index RX2 yX2_patch wsX2_patch)) (hR : rm_X2_patch.frames + 1 ≤ R.frames ∧ 8 + (1 + 11) + rm_X2_patch.locals ≤ R.locals) {a : Nat} (ka : μ.2.1 a = 3) (hW : (rest.map fun v => v.category).sum ≤ 8) (hL : L.length = nL) (hcs : cs.1 ≤ R.cells ∧ cs.2 ≤ R.slots) (d : decode cc pc = .ok (.invokevirtual index, 3)) (kk : xg X G cs μ (xu (xu I a 2 (I a 2 / 2)) a 3 0) P L (pc + 3) rest) : xg X G cs μ I P L pc (.ref (xZ G + a) :: rest) :=
  r_callV hC (c_X2_patch X.2.1 ka) hG rfl rfl rfl hd_X2_patch hR (by rw [ka]; decide) (xe_Row ka) rfl rfl rfl hW hL hcs d (by rintro v μ' I' P' ⟨rfl, rfl, rfl, rfl⟩; exact kk)
abbrev rm_X4_letterWidth : Room := { frames := 0, cells := 0, slots := 0, locals := 0 }
theorem hd_X4_letterWidth : yX4_letterWidth.cls = RX4 ∧ yX4_letterWidth.cls ≠ "java/lang/invoke/MethodHandle" ∧ yX4_letterWidth.cls ≠ "java/lang/invoke/VarHandle" ∧ (parseMethodDescriptor yX4_letterWidth.desc).map (fun d => d.parameters.length) = some 1 := ⟨rfl, by decide +kernel, by decide +kernel, by decide +kernel⟩
set_option maxHeartbeats 4000000 in
set_option maxRecDepth 100000 in
theorem c_X4_letterWidth (l : Launch) {G : xG} {μ : xM} {I : xI} {P : xP} {c : Int32}  : Ct l yX4_letterWidth wsX4_letterWidth rm_X4_letterWidth G μ I P [.int c] 0 0 (fun vv μ' I' P' => vv = some (.int (lw c)) ∧ μ' = μ ∧ I' = I ∧ P' = P) := by
  refine Ct.of (cc := cX4_letterWidth) (maxL := 1) (ret := (some .int)) [some (.int c)] (by decide) rfl rfl rfl (Nat.le_of_ble_eq_true rfl) ?_
  intro X hC hD h0 _
  refine r_iload_n (pc := 0) hC dX4_letterWidth_0 rfl ?_
  refine r_bipush (pc := 1) (v := 73) hC dX4_letterWidth_1 (by decide) ?_
  refine r_icmp_eq (pc := 3) (tgt := 12) hC dX4_letterWidth_3 (by decide) (fun bq3 => ?_) (fun bq3 => ?_)
  · skip
    refine r_iconst (pc := 12) (v := 1) hC dX4_letterWidth_12 (by decide) ?_
    refine r_iret (pc := 13) hC hD rfl dX4_letterWidth_13 rfl ?_
    exact ⟨by simp [lw, bq3], rfl, rfl, rfl⟩
  · skip
    refine r_iload_n (pc := 6) hC dX4_letterWidth_6 rfl ?_
    refine r_bipush (pc := 7) (v := 32) hC dX4_letterWidth_7 (by decide) ?_
    refine r_icmp_ne (pc := 9) (tgt := 14) hC dX4_letterWidth_9 (by decide) (fun bq9 => ?_) (fun bq9 => ?_)
    · skip
      refine r_iload_n (pc := 14) hC dX4_letterWidth_14 rfl ?_
      refine r_bipush (pc := 15) (v := 77) hC dX4_letterWidth_15 (by decide) ?_
      refine r_icmp_eq (pc := 17) (tgt := 26) hC dX4_letterWidth_17 (by decide) (fun bq17 => ?_) (fun bq17 => ?_)
      · skip
        refine r_iconst (pc := 26) (v := 3) hC dX4_letterWidth_26 (by decide) ?_
        refine r_goto (pc := 27) (tgt := 31) hC dX4_letterWidth_27 (by decide) ?_
        refine r_iret (pc := 31) hC hD rfl dX4_letterWidth_31 rfl ?_
        exact ⟨by simp [lw, bq3, bq9, bq17], rfl, rfl, rfl⟩
      · skip
        refine r_iload_n (pc := 20) hC dX4_letterWidth_20 rfl ?_
        refine r_bipush (pc := 21) (v := 87) hC dX4_letterWidth_21 (by decide) ?_
        refine r_icmp_ne (pc := 23) (tgt := 30) hC dX4_letterWidth_23 (by decide) (fun bq23 => ?_) (fun bq23 => ?_)
        · skip
          refine r_iconst (pc := 30) (v := 2) hC dX4_letterWidth_30 (by decide) ?_
          refine r_iret (pc := 31) hC hD rfl dX4_letterWidth_31 rfl ?_
          exact ⟨by simp [lw, bq3, bq9, bq17, bq23], rfl, rfl, rfl⟩
        · skip
          refine r_iconst (pc := 26) (v := 3) hC dX4_letterWidth_26 (by decide) ?_
          refine r_goto (pc := 27) (tgt := 31) hC dX4_letterWidth_27 (by decide) ?_
          refine r_iret (pc := 31) hC hD rfl dX4_letterWidth_31 rfl ?_
          exact ⟨by simp [lw, bq3, bq9, bq17, bq23], rfl, rfl, rfl⟩
    · skip
      refine r_iconst (pc := 12) (v := 1) hC dX4_letterWidth_12 (by decide) ?_
      refine r_iret (pc := 13) hC hD rfl dX4_letterWidth_13 rfl ?_
      exact ⟨by simp [lw, bq3, bq9], rfl, rfl, rfl⟩
theorem k_X4_letterWidth {X : xF} {G : xG} {cs : Nat × Nat} {μ : xM} {I : xI} {P : xP} {L : List (Option Value)} {pc : Nat} {rest : List Value} {cc : ByteArray} {Ts : List Cond} {own : String} {nL : Nat} {R : Room} (hC : xC X G cc Ts own nL R) {index : Nat} (hG : GoodIn Ts (va_wsS own index yX4_letterWidth wsX4_letterWidth)) (hR : rm_X4_letterWidth.frames + 1 ≤ R.frames ∧ 8 + (1 + 11) + rm_X4_letterWidth.locals ≤ R.locals) {c : Int32}  (hW : (rest.map fun v => v.category).sum ≤ 8) (hL : L.length = nL) (hcs : cs.1 ≤ R.cells ∧ cs.2 ≤ R.slots) (d : decode cc pc = .ok (.invokestatic index, 3)) (kk : xg X G cs μ I P L (pc + 3) (.int (lw c) :: rest)) : xg X G cs μ I P L pc (.int c :: rest) :=
  r_callS hC (c_X4_letterWidth X.2.1 ) hG rfl rfl rfl hd_X4_letterWidth.2 hR rfl rfl hW hL hcs d (by rintro v μ' I' P' ⟨rfl, rfl, rfl, rfl⟩; exact kk)
theorem k_X4_letterWidth_n {X : xF} {G : xG} {cs : Nat × Nat} {μ : xM} {I : xI} {P : xP} {L : List (Option Value)} {pc : Nat} {rest : List Value} {cc : ByteArray} {Ts : List Cond} {own : String} {nL : Nat} {R : Room} (hC : xC X G cc Ts own nL R) {index : Nat} (hN : xN G X.2.2.2.2.1 → va_Nw (.methodLinkNest own index yX4_letterWidth "HandBlinds") X.2.2.2.2.1) (hini : Cond.initialized RX4 ∈ Ts) (hsta : Cond.static yX4_letterWidth ∈ Ts) (hG : GoodIn Ts wsX4_letterWidth) (hR : rm_X4_letterWidth.frames + 1 ≤ R.frames ∧ 8 + (1 + 11) + rm_X4_letterWidth.locals ≤ R.locals) {c : Int32}  (hW : (rest.map fun v => v.category).sum ≤ 8) (hL : L.length = nL) (hcs : cs.1 ≤ R.cells ∧ cs.2 ≤ R.slots) (d : decode cc pc = .ok (.invokestatic index, 3)) (kk : xg X G cs μ I P L (pc + 3) (.int (lw c) :: rest)) : xg X G cs μ I P L pc (.int c :: rest) :=
  r_callSN hC hN hini hsta (c_X4_letterWidth X.2.1 ) hG rfl rfl rfl hd_X4_letterWidth.2 hR rfl rfl hW hL hcs d (by rintro v μ' I' P' ⟨rfl, rfl, rfl, rfl⟩; exact kk)
abbrev rm_X4_isCranking : Room := { frames := 0, cells := 0, slots := 0, locals := 0 }
theorem hd_X4_isCranking : yX4_isCranking.cls = RX4 ∧ yX4_isCranking.cls ≠ "java/lang/invoke/MethodHandle" ∧ yX4_isCranking.cls ≠ "java/lang/invoke/VarHandle" ∧ (parseMethodDescriptor yX4_isCranking.desc).map (fun d => d.parameters.length) = some 2 := ⟨rfl, by decide +kernel, by decide +kernel, by decide +kernel⟩
set_option maxHeartbeats 4000000 in
set_option maxRecDepth 100000 in
theorem c_X4_isCranking (l : Launch) {G : xG} {μ : xM} {I : xI} {P : xP} {r v : Int32}  : Ct l yX4_isCranking wsX4_isCranking rm_X4_isCranking G μ I P [.int r, .int v] 0 0 (fun vv μ' I' P' => vv = some (.int (if r < -20 then 0 else if 20 < r then 0 else if r = 0 then 0 else if v < 1 then 0 else if 3 < v then 0 else 1)) ∧ μ' = μ ∧ I' = I ∧ P' = P) := by
  refine Ct.of (cc := cX4_isCranking) (maxL := 2) (ret := (some .boolean)) [some (.int r), some (.int v)] (by decide) rfl rfl rfl (Nat.le_of_ble_eq_true rfl) ?_
  intro X hC hD h0 _
  refine r_iload_n (pc := 0) hC dX4_isCranking_0 rfl ?_
  refine r_bipush (pc := 1) (v := -20) hC dX4_isCranking_1 (by decide) ?_
  refine r_icmp_lt (pc := 3) (tgt := 30) hC dX4_isCranking_3 (by decide) (fun bq3 => ?_) (fun bq3 => ?_)
  · skip
    refine r_iconst (pc := 30) (v := 0) hC dX4_isCranking_30 (by decide) ?_
    refine r_iret (pc := 31) hC hD rfl dX4_isCranking_31 rfl ?_
    exact ⟨by simp [bq3], rfl, rfl, rfl⟩
  · skip
    refine r_iload_n (pc := 6) hC dX4_isCranking_6 rfl ?_
    refine r_bipush (pc := 7) (v := 20) hC dX4_isCranking_7 (by decide) ?_
    refine r_icmp_gt (pc := 9) (tgt := 30) hC dX4_isCranking_9 (by decide) (fun bq9 => ?_) (fun bq9 => ?_)
    · skip
      refine r_iconst (pc := 30) (v := 0) hC dX4_isCranking_30 (by decide) ?_
      refine r_iret (pc := 31) hC hD rfl dX4_isCranking_31 rfl ?_
      exact ⟨by simp [bq3, bq9], rfl, rfl, rfl⟩
    · skip
      refine r_iload_n (pc := 12) hC dX4_isCranking_12 rfl ?_
      refine r_if_eq (pc := 13) (tgt := 30) hC dX4_isCranking_13 (by decide) (fun bq13 => ?_) (fun bq13 => ?_)
      · skip
        refine r_iconst (pc := 30) (v := 0) hC dX4_isCranking_30 (by decide) ?_
        refine r_iret (pc := 31) hC hD rfl dX4_isCranking_31 rfl ?_
        exact ⟨by simp [bq3, bq9, bq13], rfl, rfl, rfl⟩
      · skip
        refine r_iload_n (pc := 16) hC dX4_isCranking_16 rfl ?_
        refine r_iconst (pc := 17) (v := 1) hC dX4_isCranking_17 (by decide) ?_
        refine r_icmp_lt (pc := 18) (tgt := 30) hC dX4_isCranking_18 (by decide) (fun bq18 => ?_) (fun bq18 => ?_)
        · skip
          refine r_iconst (pc := 30) (v := 0) hC dX4_isCranking_30 (by decide) ?_
          refine r_iret (pc := 31) hC hD rfl dX4_isCranking_31 rfl ?_
          exact ⟨by simp [bq3, bq9, bq13, bq18], rfl, rfl, rfl⟩
        · skip
          refine r_iload_n (pc := 21) hC dX4_isCranking_21 rfl ?_
          refine r_iconst (pc := 22) (v := 3) hC dX4_isCranking_22 (by decide) ?_
          refine r_icmp_gt (pc := 23) (tgt := 30) hC dX4_isCranking_23 (by decide) (fun bq23 => ?_) (fun bq23 => ?_)
          · skip
            refine r_iconst (pc := 30) (v := 0) hC dX4_isCranking_30 (by decide) ?_
            refine r_iret (pc := 31) hC hD rfl dX4_isCranking_31 rfl ?_
            exact ⟨by simp [bq3, bq9, bq13, bq18, bq23], rfl, rfl, rfl⟩
          · skip
            refine r_iconst (pc := 26) (v := 1) hC dX4_isCranking_26 (by decide) ?_
            refine r_goto (pc := 27) (tgt := 31) hC dX4_isCranking_27 (by decide) ?_
            refine r_iret (pc := 31) hC hD rfl dX4_isCranking_31 rfl ?_
            exact ⟨by simp [bq3, bq9, bq13, bq18, bq23], rfl, rfl, rfl⟩
theorem k_X4_isCranking {X : xF} {G : xG} {cs : Nat × Nat} {μ : xM} {I : xI} {P : xP} {L : List (Option Value)} {pc : Nat} {rest : List Value} {cc : ByteArray} {Ts : List Cond} {own : String} {nL : Nat} {R : Room} (hC : xC X G cc Ts own nL R) {index : Nat} (hG : GoodIn Ts (va_wsS own index yX4_isCranking wsX4_isCranking)) (hR : rm_X4_isCranking.frames + 1 ≤ R.frames ∧ 8 + (2 + 11) + rm_X4_isCranking.locals ≤ R.locals) {r v : Int32}  (hW : (rest.map fun v => v.category).sum ≤ 8) (hL : L.length = nL) (hcs : cs.1 ≤ R.cells ∧ cs.2 ≤ R.slots) (d : decode cc pc = .ok (.invokestatic index, 3)) (kk : xg X G cs μ I P L (pc + 3) (.int (if r < -20 then 0 else if 20 < r then 0 else if r = 0 then 0 else if v < 1 then 0 else if 3 < v then 0 else 1) :: rest)) : xg X G cs μ I P L pc (.int v :: .int r :: rest) :=
  r_callS hC (c_X4_isCranking X.2.1 ) hG rfl rfl rfl hd_X4_isCranking.2 hR rfl rfl hW hL hcs d (by rintro v μ' I' P' ⟨rfl, rfl, rfl, rfl⟩; exact kk)
abbrev rm_X5_in : Room := { frames := 0, cells := 0, slots := 0, locals := 0 }
theorem hd_X5_in : yX5_in.cls = RX5 ∧ yX5_in.cls ≠ "java/lang/invoke/MethodHandle" ∧ yX5_in.cls ≠ "java/lang/invoke/VarHandle" ∧ (parseMethodDescriptor yX5_in.desc).map (fun d => d.parameters.length) = some 3 := ⟨rfl, by decide +kernel, by decide +kernel, by decide +kernel⟩
set_option maxHeartbeats 4000000 in
set_option maxRecDepth 100000 in
theorem c_X5_in (l : Launch) {G : xG} {μ : xM} {I : xI} {P : xP} {v a b : Int32}  : Ct l yX5_in wsX5_in rm_X5_in G μ I P [.int v, .int a, .int b] 0 0 (fun vv μ' I' P' => vv = some (.int (if v < a then 0 else if b < v then 0 else 1)) ∧ μ' = μ ∧ I' = I ∧ P' = P) := by
  refine Ct.of (cc := cX5_in) (maxL := 3) (ret := (some .boolean)) [some (.int v), some (.int a), some (.int b)] (by decide) rfl rfl rfl (Nat.le_of_ble_eq_true rfl) ?_
  intro X hC hD h0 _
  refine r_iload_n (pc := 0) hC dX5_in_0 rfl ?_
  refine r_iload_n (pc := 1) hC dX5_in_1 rfl ?_
  refine r_icmp_lt (pc := 2) (tgt := 14) hC dX5_in_2 (by decide) (fun bq2 => ?_) (fun bq2 => ?_)
  · skip
    refine r_iconst (pc := 14) (v := 0) hC dX5_in_14 (by decide) ?_
    refine r_iret (pc := 15) hC hD rfl dX5_in_15 rfl ?_
    exact ⟨by simp [bq2], rfl, rfl, rfl⟩
  · skip
    refine r_iload_n (pc := 5) hC dX5_in_5 rfl ?_
    refine r_iload_n (pc := 6) hC dX5_in_6 rfl ?_
    refine r_icmp_gt (pc := 7) (tgt := 14) hC dX5_in_7 (by decide) (fun bq7 => ?_) (fun bq7 => ?_)
    · skip
      refine r_iconst (pc := 14) (v := 0) hC dX5_in_14 (by decide) ?_
      refine r_iret (pc := 15) hC hD rfl dX5_in_15 rfl ?_
      exact ⟨by simp [bq2, bq7], rfl, rfl, rfl⟩
    · skip
      refine r_iconst (pc := 10) (v := 1) hC dX5_in_10 (by decide) ?_
      refine r_goto (pc := 11) (tgt := 15) hC dX5_in_11 (by decide) ?_
      refine r_iret (pc := 15) hC hD rfl dX5_in_15 rfl ?_
      exact ⟨by simp [bq2, bq7], rfl, rfl, rfl⟩
theorem k_X5_in {X : xF} {G : xG} {cs : Nat × Nat} {μ : xM} {I : xI} {P : xP} {L : List (Option Value)} {pc : Nat} {rest : List Value} {cc : ByteArray} {Ts : List Cond} {own : String} {nL : Nat} {R : Room} (hC : xC X G cc Ts own nL R) {index : Nat} (hG : GoodIn Ts (va_wsS own index yX5_in wsX5_in)) (hR : rm_X5_in.frames + 1 ≤ R.frames ∧ 8 + (3 + 11) + rm_X5_in.locals ≤ R.locals) {v a b : Int32}  (hW : (rest.map fun v => v.category).sum ≤ 8) (hL : L.length = nL) (hcs : cs.1 ≤ R.cells ∧ cs.2 ≤ R.slots) (d : decode cc pc = .ok (.invokestatic index, 3)) (kk : xg X G cs μ I P L (pc + 3) (.int (if v < a then 0 else if b < v then 0 else 1) :: rest)) : xg X G cs μ I P L pc (.int b :: .int a :: .int v :: rest) :=
  r_callS hC (c_X5_in X.2.1 ) hG rfl rfl rfl hd_X5_in.2 hR rfl rfl hW hL hcs d (by rintro v μ' I' P' ⟨rfl, rfl, rfl, rfl⟩; exact kk)
abbrev rm_X5_wide : Room := { frames := 0, cells := 0, slots := 0, locals := 0 }
theorem hd_X5_wide : yX5_wide.cls = RX5 ∧ yX5_wide.cls ≠ "java/lang/invoke/MethodHandle" ∧ yX5_wide.cls ≠ "java/lang/invoke/VarHandle" ∧ (parseMethodDescriptor yX5_wide.desc).map (fun d => d.parameters.length) = some 1 := ⟨rfl, by decide +kernel, by decide +kernel, by decide +kernel⟩
set_option maxHeartbeats 4000000 in
set_option maxRecDepth 100000 in
theorem c_X5_wide (l : Launch) {G : xG} {μ : xM} {I : xI} {P : xP} {c : Int32}  : Ct l yX5_wide wsX5_wide rm_X5_wide G μ I P [.int c] 0 0 (fun vv μ' I' P' => vv = some (.int (lw c)) ∧ μ' = μ ∧ I' = I ∧ P' = P) := by
  refine Ct.of (cc := cX5_wide) (maxL := 1) (ret := (some .int)) [some (.int c)] (by decide) rfl rfl rfl (Nat.le_of_ble_eq_true rfl) ?_
  intro X hC hD h0 _
  refine r_iload_n (pc := 0) hC dX5_wide_0 rfl ?_
  refine r_bipush (pc := 1) (v := 73) hC dX5_wide_1 (by decide) ?_
  refine r_icmp_eq (pc := 3) (tgt := 12) hC dX5_wide_3 (by decide) (fun bq3 => ?_) (fun bq3 => ?_)
  · skip
    refine r_iconst (pc := 12) (v := 1) hC dX5_wide_12 (by decide) ?_
    refine r_goto (pc := 13) (tgt := 33) hC dX5_wide_13 (by decide) ?_
    refine r_iret (pc := 33) hC hD rfl dX5_wide_33 rfl ?_
    exact ⟨by simp [lw, bq3], rfl, rfl, rfl⟩
  · skip
    refine r_iload_n (pc := 6) hC dX5_wide_6 rfl ?_
    refine r_bipush (pc := 7) (v := 32) hC dX5_wide_7 (by decide) ?_
    refine r_icmp_ne (pc := 9) (tgt := 16) hC dX5_wide_9 (by decide) (fun bq9 => ?_) (fun bq9 => ?_)
    · skip
      refine r_iload_n (pc := 16) hC dX5_wide_16 rfl ?_
      refine r_bipush (pc := 17) (v := 77) hC dX5_wide_17 (by decide) ?_
      refine r_icmp_eq (pc := 19) (tgt := 28) hC dX5_wide_19 (by decide) (fun bq19 => ?_) (fun bq19 => ?_)
      · skip
        refine r_iconst (pc := 28) (v := 3) hC dX5_wide_28 (by decide) ?_
        refine r_goto (pc := 29) (tgt := 33) hC dX5_wide_29 (by decide) ?_
        refine r_iret (pc := 33) hC hD rfl dX5_wide_33 rfl ?_
        exact ⟨by simp [lw, bq3, bq9, bq19], rfl, rfl, rfl⟩
      · skip
        refine r_iload_n (pc := 22) hC dX5_wide_22 rfl ?_
        refine r_bipush (pc := 23) (v := 87) hC dX5_wide_23 (by decide) ?_
        refine r_icmp_ne (pc := 25) (tgt := 32) hC dX5_wide_25 (by decide) (fun bq25 => ?_) (fun bq25 => ?_)
        · skip
          refine r_iconst (pc := 32) (v := 2) hC dX5_wide_32 (by decide) ?_
          refine r_iret (pc := 33) hC hD rfl dX5_wide_33 rfl ?_
          exact ⟨by simp [lw, bq3, bq9, bq19, bq25], rfl, rfl, rfl⟩
        · skip
          refine r_iconst (pc := 28) (v := 3) hC dX5_wide_28 (by decide) ?_
          refine r_goto (pc := 29) (tgt := 33) hC dX5_wide_29 (by decide) ?_
          refine r_iret (pc := 33) hC hD rfl dX5_wide_33 rfl ?_
          exact ⟨by simp [lw, bq3, bq9, bq19, bq25], rfl, rfl, rfl⟩
    · skip
      refine r_iconst (pc := 12) (v := 1) hC dX5_wide_12 (by decide) ?_
      refine r_goto (pc := 13) (tgt := 33) hC dX5_wide_13 (by decide) ?_
      refine r_iret (pc := 33) hC hD rfl dX5_wide_33 rfl ?_
      exact ⟨by simp [lw, bq3, bq9], rfl, rfl, rfl⟩
theorem k_X5_wide {X : xF} {G : xG} {cs : Nat × Nat} {μ : xM} {I : xI} {P : xP} {L : List (Option Value)} {pc : Nat} {rest : List Value} {cc : ByteArray} {Ts : List Cond} {own : String} {nL : Nat} {R : Room} (hC : xC X G cc Ts own nL R) {index : Nat} (hG : GoodIn Ts (va_wsS own index yX5_wide wsX5_wide)) (hR : rm_X5_wide.frames + 1 ≤ R.frames ∧ 8 + (1 + 11) + rm_X5_wide.locals ≤ R.locals) {c : Int32}  (hW : (rest.map fun v => v.category).sum ≤ 8) (hL : L.length = nL) (hcs : cs.1 ≤ R.cells ∧ cs.2 ≤ R.slots) (d : decode cc pc = .ok (.invokestatic index, 3)) (kk : xg X G cs μ I P L (pc + 3) (.int (lw c) :: rest)) : xg X G cs μ I P L pc (.int c :: rest) :=
  r_callS hC (c_X5_wide X.2.1 ) hG rfl rfl rfl hd_X5_wide.2 hR rfl rfl hW hL hcs d (by rintro v μ' I' P' ⟨rfl, rfl, rfl, rfl⟩; exact kk)
abbrev rm_X5_mostOf : Room := { frames := 0, cells := 0, slots := 0, locals := 0 }
theorem hd_X5_mostOf : yX5_mostOf.cls = RX5 ∧ yX5_mostOf.cls ≠ "java/lang/invoke/MethodHandle" ∧ yX5_mostOf.cls ≠ "java/lang/invoke/VarHandle" ∧ (parseMethodDescriptor yX5_mostOf.desc).map (fun d => d.parameters.length) = some 1 := ⟨rfl, by decide +kernel, by decide +kernel, by decide +kernel⟩
set_option maxHeartbeats 4000000 in
set_option maxRecDepth 100000 in
theorem c_X5_mostOf (l : Launch) {G : xG} {μ : xM} {I : xI} {P : xP} {w : Int32}  : Ct l yX5_mostOf wsX5_mostOf rm_X5_mostOf G μ I P [.int w] 0 0 (fun vv μ' I' P' => vv = some (.int (if w = 0 then 60 else if w = 1 then 200 else 50)) ∧ μ' = μ ∧ I' = I ∧ P' = P) := by
  refine Ct.of (cc := cX5_mostOf) (maxL := 1) (ret := (some .int)) [some (.int w)] (by decide) rfl rfl rfl (Nat.le_of_ble_eq_true rfl) ?_
  intro X hC hD h0 _
  refine r_iload_n (pc := 0) hC dX5_mostOf_0 rfl ?_
  refine r_if_ne (pc := 1) (tgt := 9) hC dX5_mostOf_1 (by decide) (fun bq1 => ?_) (fun bq1 => ?_)
  · skip
    refine r_iload_n (pc := 9) hC dX5_mostOf_9 rfl ?_
    refine r_iconst (pc := 10) (v := 1) hC dX5_mostOf_10 (by decide) ?_
    refine r_icmp_ne (pc := 11) (tgt := 20) hC dX5_mostOf_11 (by decide) (fun bq11 => ?_) (fun bq11 => ?_)
    · skip
      refine r_bipush (pc := 20) (v := 50) hC dX5_mostOf_20 (by decide) ?_
      refine r_iret (pc := 22) hC hD rfl dX5_mostOf_22 rfl ?_
      exact ⟨by simp [bq1, bq11], rfl, rfl, rfl⟩
    · skip
      refine r_sipush (pc := 14) (v := 200) hC dX5_mostOf_14 (by decide) ?_
      refine r_goto (pc := 17) (tgt := 22) hC dX5_mostOf_17 (by decide) ?_
      refine r_iret (pc := 22) hC hD rfl dX5_mostOf_22 rfl ?_
      exact ⟨by simp [bq1, bq11], rfl, rfl, rfl⟩
  · skip
    refine r_bipush (pc := 4) (v := 60) hC dX5_mostOf_4 (by decide) ?_
    refine r_goto (pc := 6) (tgt := 22) hC dX5_mostOf_6 (by decide) ?_
    refine r_iret (pc := 22) hC hD rfl dX5_mostOf_22 rfl ?_
    exact ⟨by simp [bq1], rfl, rfl, rfl⟩
theorem k_X5_mostOf {X : xF} {G : xG} {cs : Nat × Nat} {μ : xM} {I : xI} {P : xP} {L : List (Option Value)} {pc : Nat} {rest : List Value} {cc : ByteArray} {Ts : List Cond} {own : String} {nL : Nat} {R : Room} (hC : xC X G cc Ts own nL R) {index : Nat} (hG : GoodIn Ts (va_wsS own index yX5_mostOf wsX5_mostOf)) (hR : rm_X5_mostOf.frames + 1 ≤ R.frames ∧ 8 + (1 + 11) + rm_X5_mostOf.locals ≤ R.locals) {w : Int32}  (hW : (rest.map fun v => v.category).sum ≤ 8) (hL : L.length = nL) (hcs : cs.1 ≤ R.cells ∧ cs.2 ≤ R.slots) (d : decode cc pc = .ok (.invokestatic index, 3)) (kk : xg X G cs μ I P L (pc + 3) (.int (if w = 0 then 60 else if w = 1 then 200 else 50) :: rest)) : xg X G cs μ I P L pc (.int w :: rest) :=
  r_callS hC (c_X5_mostOf X.2.1 ) hG rfl rfl rfl hd_X5_mostOf.2 hR rfl rfl hW hL hcs d (by rintro v μ' I' P' ⟨rfl, rfl, rfl, rfl⟩; exact kk)
abbrev rm_X5_told : Room := { frames := 0, cells := 0, slots := 0, locals := 0 }
theorem wl_X5_told_100 : Cond.constant RX5 100 (-1000004) ∈ wsX5_told := List.mem_of_getElem? (i := 1) (by decide +kernel)
theorem hd_X5_told : yX5_told.cls = RX5 ∧ yX5_told.cls ≠ "java/lang/invoke/MethodHandle" ∧ yX5_told.cls ≠ "java/lang/invoke/VarHandle" ∧ (parseMethodDescriptor yX5_told.desc).map (fun d => d.parameters.length) = some 1 := ⟨rfl, by decide +kernel, by decide +kernel, by decide +kernel⟩
set_option maxHeartbeats 4000000 in
set_option maxRecDepth 100000 in
theorem c_X5_told (l : Launch) {G : xG} {μ : xM} {I : xI} {P : xP} {v : Int32}  : Ct l yX5_told wsX5_told rm_X5_told G μ I P [.int v] 0 0 (fun vv μ' I' P' => vv = some (.int (if 0 ≤ v then v else -1000004)) ∧ μ' = μ ∧ I' = I ∧ P' = P) := by
  refine Ct.of (cc := cX5_told) (maxL := 1) (ret := (some .int)) [some (.int v)] (by decide) rfl rfl rfl (Nat.le_of_ble_eq_true rfl) ?_
  intro X hC hD h0 _
  refine r_iload_n (pc := 0) hC dX5_told_0 rfl ?_
  refine r_if_ge (pc := 1) (tgt := 9) hC dX5_told_1 (by decide) (fun bq1 => ?_) (fun bq1 => ?_)
  · skip
    refine r_iload_n (pc := 9) hC dX5_told_9 rfl ?_
    refine r_iret (pc := 10) hC hD rfl dX5_told_10 rfl ?_
    exact ⟨by simp [bq1], rfl, rfl, rfl⟩
  · skip
    refine r_ldc (pc := 4) (v := -1000004) hC dX5_told_4 wl_X5_told_100 ?_
    refine r_goto (pc := 6) (tgt := 10) hC dX5_told_6 (by decide) ?_
    refine r_iret (pc := 10) hC hD rfl dX5_told_10 rfl ?_
    exact ⟨by simp [bq1], rfl, rfl, rfl⟩
theorem k_X5_told {X : xF} {G : xG} {cs : Nat × Nat} {μ : xM} {I : xI} {P : xP} {L : List (Option Value)} {pc : Nat} {rest : List Value} {cc : ByteArray} {Ts : List Cond} {own : String} {nL : Nat} {R : Room} (hC : xC X G cc Ts own nL R) {index : Nat} (hG : GoodIn Ts (va_wsS own index yX5_told wsX5_told)) (hR : rm_X5_told.frames + 1 ≤ R.frames ∧ 8 + (1 + 11) + rm_X5_told.locals ≤ R.locals) {v : Int32}  (hW : (rest.map fun v => v.category).sum ≤ 8) (hL : L.length = nL) (hcs : cs.1 ≤ R.cells ∧ cs.2 ≤ R.slots) (d : decode cc pc = .ok (.invokestatic index, 3)) (kk : xg X G cs μ I P L (pc + 3) (.int (if 0 ≤ v then v else -1000004) :: rest)) : xg X G cs μ I P L pc (.int v :: rest) :=
  r_callS hC (c_X5_told X.2.1 ) hG rfl rfl rfl hd_X5_told.2 hR rfl rfl hW hL hcs d (by rintro v μ' I' P' ⟨rfl, rfl, rfl, rfl⟩; exact kk)
abbrev rm_X5_without : Room := { frames := 0, cells := 0, slots := 0, locals := 0 }
theorem hd_X5_without : yX5_without.cls = RX5 ∧ yX5_without.cls ≠ "java/lang/invoke/MethodHandle" ∧ yX5_without.cls ≠ "java/lang/invoke/VarHandle" ∧ (parseMethodDescriptor yX5_without.desc).map (fun d => d.parameters.length) = some 2 := ⟨rfl, by decide +kernel, by decide +kernel, by decide +kernel⟩
set_option maxHeartbeats 4000000 in
set_option maxRecDepth 100000 in
theorem c_X5_without (l : Launch) {G : xG} {μ : xM} {I : xI} {P : xP} {s r : Int32}  : Ct l yX5_without wsX5_without rm_X5_without G μ I P [.int s, .int r] 0 0 (fun vv μ' I' P' => vv = some (.int ((s &&& (1 <<< (r &&& 31) - 1)) ||| (s >>> ((r + 1) &&& 31) <<< (r &&& 31)))) ∧ μ' = μ ∧ I' = I ∧ P' = P) := by
  refine Ct.of (cc := cX5_without) (maxL := 3) (ret := (some .int)) [some (.int s), some (.int r), none] (by decide) rfl rfl rfl (Nat.le_of_ble_eq_true rfl) ?_
  intro X hC hD h0 _
  refine r_iload_n (pc := 0) hC dX5_without_0 rfl ?_
  refine r_iconst (pc := 1) (v := 1) hC dX5_without_1 (by decide) ?_
  refine r_iload_n (pc := 2) hC dX5_without_2 rfl ?_
  refine r_ishl (pc := 3) hC dX5_without_3 ?_
  refine r_iconst (pc := 4) (v := 1) hC dX5_without_4 (by decide) ?_
  refine r_isub (pc := 5) hC dX5_without_5 ?_
  refine r_iand (pc := 6) hC dX5_without_6 ?_
  refine r_istore_n (pc := 7) (L' := [_, _, _]) hC dX5_without_7 rfl (Nat.le_of_ble_eq_true rfl) rfl ?_
  refine r_iload_n (pc := 8) hC dX5_without_8 rfl ?_
  refine r_iload_n (pc := 9) hC dX5_without_9 rfl ?_
  refine r_iload_n (pc := 10) hC dX5_without_10 rfl ?_
  refine r_iconst (pc := 11) (v := 1) hC dX5_without_11 (by decide) ?_
  refine r_iadd (pc := 12) hC dX5_without_12 ?_
  refine r_ishr (pc := 13) hC dX5_without_13 ?_
  refine r_iload_n (pc := 14) hC dX5_without_14 rfl ?_
  refine r_ishl (pc := 15) hC dX5_without_15 ?_
  refine r_ior (pc := 16) hC dX5_without_16 ?_
  refine r_iret (pc := 17) hC hD rfl dX5_without_17 rfl ?_
  exact ⟨rfl, rfl, rfl, rfl⟩
theorem k_X5_without {X : xF} {G : xG} {cs : Nat × Nat} {μ : xM} {I : xI} {P : xP} {L : List (Option Value)} {pc : Nat} {rest : List Value} {cc : ByteArray} {Ts : List Cond} {own : String} {nL : Nat} {R : Room} (hC : xC X G cc Ts own nL R) {index : Nat} (hG : GoodIn Ts (va_wsS own index yX5_without wsX5_without)) (hR : rm_X5_without.frames + 1 ≤ R.frames ∧ 8 + (3 + 11) + rm_X5_without.locals ≤ R.locals) {s r : Int32}  (hW : (rest.map fun v => v.category).sum ≤ 8) (hL : L.length = nL) (hcs : cs.1 ≤ R.cells ∧ cs.2 ≤ R.slots) (d : decode cc pc = .ok (.invokestatic index, 3)) (kk : xg X G cs μ I P L (pc + 3) (.int ((s &&& (1 <<< (r &&& 31) - 1)) ||| (s >>> ((r + 1) &&& 31) <<< (r &&& 31))) :: rest)) : xg X G cs μ I P L pc (.int r :: .int s :: rest) :=
  r_callS hC (c_X5_without X.2.1 ) hG rfl rfl rfl hd_X5_without.2 hR rfl rfl hW hL hcs d (by rintro v μ' I' P' ⟨rfl, rfl, rfl, rfl⟩; exact kk)
end
section
abbrev rm_X5_of : Room := { frames := 0, cells := 0, slots := 0, locals := 0 }
theorem wl_X5_of_7 : Cond.fieldLink RX5 7 "HandBlindsModel" "s" "[I" ∈ wsX5_of := List.mem_of_getElem? (i := 1) (by decide +kernel)
theorem wi_X5_of_5 : ∀ w ∈ wsX50, w ∈ wsX5_of := fun _ h => List.mem_cons_of_mem _ (List.mem_append_right _ h)
theorem hd_X5_of : yX5_of.cls = RX5 ∧ yX5_of.cls ≠ "java/lang/invoke/MethodHandle" ∧ yX5_of.cls ≠ "java/lang/invoke/VarHandle" ∧ (parseMethodDescriptor yX5_of.desc).map (fun d => d.parameters.length) = some 2 := ⟨rfl, by decide +kernel, by decide +kernel, by decide +kernel⟩
set_option maxHeartbeats 4000000 in
set_option maxRecDepth 100000 in
theorem c_X5_of (l : Launch) {G : xG} {μ : xM} {I : xI} {P : xP} {m k : Nat} {row w : Int32} (km : μ.2.1 m = 6) (ks : μ.2.1 (P m 0) = 7) (ls : μ.2.2 (P m 0) = 369) (hi : 11 + 17 * row + w = nI k) (hk : k < 369) : Ct l yX5_of wsX5_of rm_X5_of G μ I P [.ref (xZ G + m), .int row, .int w] 0 0 (fun vv μ' I' P' => vv = some (.int (I (P m 0) k)) ∧ μ' = μ ∧ I' = I ∧ P' = P) := by
  refine Ct.of (cc := cX5_of) (maxL := 3) (ret := (some .int)) [some (.ref (xZ G + m)), some (.int row), some (.int w)] (by decide) rfl rfl rfl (Nat.le_of_ble_eq_true rfl) ?_
  intro X hC hD h0 _
  refine r_aload_n (pc := 0) hC dX5_of_0 rfl ?_
  refine g_Model_s (pc := 1) hC wi_X5_of_5 wl_X5_of_7 (by assumption) (c2 := 7) (by assumption) (by decide) dX5_of_1 ?_
  refine r_bipush (pc := 4) (v := 11) hC dX5_of_4 (by decide) ?_
  refine r_bipush (pc := 6) (v := 17) hC dX5_of_6 (by decide) ?_
  refine r_iload_n (pc := 8) hC dX5_of_8 rfl ?_
  refine r_imul (pc := 9) hC dX5_of_9 ?_
  refine r_iadd (pc := 10) hC dX5_of_10 ?_
  refine r_iload_n (pc := 11) hC dX5_of_11 rfl ?_
  refine r_iadd (pc := 12) hC dX5_of_12 ?_
  refine r_iald (pc := 13) hC ks (xi_e (k := k) hi ls hk (by decide)) dX5_of_13 ?_
  refine r_iret (pc := 14) hC hD rfl dX5_of_14 rfl ?_
  exact ⟨rfl, rfl, rfl, rfl⟩
theorem k_X5_of {X : xF} {G : xG} {cs : Nat × Nat} {μ : xM} {I : xI} {P : xP} {L : List (Option Value)} {pc : Nat} {rest : List Value} {cc : ByteArray} {Ts : List Cond} {own : String} {nL : Nat} {R : Room} (hC : xC X G cc Ts own nL R) {index : Nat} (hG : GoodIn Ts (wsV own index RX5 yX5_of wsX5_of)) (hR : rm_X5_of.frames + 1 ≤ R.frames ∧ 8 + (3 + 11) + rm_X5_of.locals ≤ R.locals) {m k : Nat} {row w : Int32} (km : μ.2.1 m = 6) (ks : μ.2.1 (P m 0) = 7) (ls : μ.2.2 (P m 0) = 369) (hi : 11 + 17 * row + w = nI k) (hk : k < 369) (hW : (rest.map fun v => v.category).sum ≤ 8) (hL : L.length = nL) (hcs : cs.1 ≤ R.cells ∧ cs.2 ≤ R.slots) (d : decode cc pc = .ok (.invokevirtual index, 3)) (kk : xg X G cs μ I P L (pc + 3) (.int (I (P m 0) k) :: rest)) : xg X G cs μ I P L pc (.int w :: .int row :: .ref (xZ G + m) :: rest) :=
  r_callV hC (c_X5_of X.2.1 km ks ls hi hk) hG rfl rfl rfl hd_X5_of hR (by rw [km]; decide) (xe_Model km) rfl rfl rfl hW hL hcs d (by rintro v μ' I' P' ⟨rfl, rfl, rfl, rfl⟩; exact kk)
abbrev rm_X5_sets : Room := { frames := 0, cells := 0, slots := 0, locals := 0 }
theorem wl_X5_sets_7 : Cond.fieldLink RX5 7 "HandBlindsModel" "s" "[I" ∈ wsX5_sets := List.mem_of_getElem? (i := 1) (by decide +kernel)
theorem wi_X5_sets_5 : ∀ w ∈ wsX50, w ∈ wsX5_sets := fun _ h => List.mem_cons_of_mem _ (List.mem_append_right _ h)
theorem hd_X5_sets : yX5_sets.cls = RX5 ∧ yX5_sets.cls ≠ "java/lang/invoke/MethodHandle" ∧ yX5_sets.cls ≠ "java/lang/invoke/VarHandle" ∧ (parseMethodDescriptor yX5_sets.desc).map (fun d => d.parameters.length) = some 3 := ⟨rfl, by decide +kernel, by decide +kernel, by decide +kernel⟩
set_option maxHeartbeats 4000000 in
set_option maxRecDepth 100000 in
theorem c_X5_sets (l : Launch) {G : xG} {μ : xM} {I : xI} {P : xP} {m k : Nat} {row w v : Int32} (km : μ.2.1 m = 6) (ks : μ.2.1 (P m 0) = 7) (ls : μ.2.2 (P m 0) = 369) (hi : 11 + 17 * row + w = nI k) (hk : k < 369) : Ct l yX5_sets wsX5_sets rm_X5_sets G μ I P [.ref (xZ G + m), .int row, .int w, .int v] 0 0 (fun vv μ' I' P' => vv = none ∧ μ' = μ ∧ I' = xu I (P m 0) k v ∧ P' = P) := by
  refine Ct.of (cc := cX5_sets) (maxL := 4) (ret := none) [some (.ref (xZ G + m)), some (.int row), some (.int w), some (.int v)] (by decide) rfl rfl rfl (Nat.le_of_ble_eq_true rfl) ?_
  intro X hC hD h0 _
  refine r_aload_n (pc := 0) hC dX5_sets_0 rfl ?_
  refine g_Model_s (pc := 1) hC wi_X5_sets_5 wl_X5_sets_7 (by assumption) (c2 := 7) (by assumption) (by decide) dX5_sets_1 ?_
  refine r_bipush (pc := 4) (v := 11) hC dX5_sets_4 (by decide) ?_
  refine r_bipush (pc := 6) (v := 17) hC dX5_sets_6 (by decide) ?_
  refine r_iload_n (pc := 8) hC dX5_sets_8 rfl ?_
  refine r_imul (pc := 9) hC dX5_sets_9 ?_
  refine r_iadd (pc := 10) hC dX5_sets_10 ?_
  refine r_iload_n (pc := 11) hC dX5_sets_11 rfl ?_
  refine r_iadd (pc := 12) hC dX5_sets_12 ?_
  refine r_iload_n (pc := 13) hC dX5_sets_13 rfl ?_
  refine r_iast (pc := 14) hC ks (xi_e (k := k) hi ls hk (by decide)) dX5_sets_14 ?_
  refine r_vret (pc := 15) hC hD dX5_sets_15 rfl ?_
  exact ⟨rfl, rfl, rfl, rfl⟩
theorem k_X5_sets {X : xF} {G : xG} {cs : Nat × Nat} {μ : xM} {I : xI} {P : xP} {L : List (Option Value)} {pc : Nat} {rest : List Value} {cc : ByteArray} {Ts : List Cond} {own : String} {nL : Nat} {R : Room} (hC : xC X G cc Ts own nL R) {index : Nat} (hG : GoodIn Ts (wsV own index RX5 yX5_sets wsX5_sets)) (hR : rm_X5_sets.frames + 1 ≤ R.frames ∧ 8 + (4 + 11) + rm_X5_sets.locals ≤ R.locals) {m k : Nat} {row w v : Int32} (km : μ.2.1 m = 6) (ks : μ.2.1 (P m 0) = 7) (ls : μ.2.2 (P m 0) = 369) (hi : 11 + 17 * row + w = nI k) (hk : k < 369) (hW : (rest.map fun v => v.category).sum ≤ 8) (hL : L.length = nL) (hcs : cs.1 ≤ R.cells ∧ cs.2 ≤ R.slots) (d : decode cc pc = .ok (.invokevirtual index, 3)) (kk : xg X G cs μ (xu I (P m 0) k v) P L (pc + 3) rest) : xg X G cs μ I P L pc (.int v :: .int w :: .int row :: .ref (xZ G + m) :: rest) :=
  r_callV hC (c_X5_sets X.2.1 km ks ls hi hk) hG rfl rfl rfl hd_X5_sets hR (by rw [km]; decide) (xe_Model km) rfl rfl rfl hW hL hcs d (by rintro v μ' I' P' ⟨rfl, rfl, rfl, rfl⟩; exact kk)
abbrev rm_X5_ofRoute : Room := { frames := 0, cells := 0, slots := 0, locals := 0 }
theorem wl_X5_ofRoute_7 : Cond.fieldLink RX5 7 "HandBlindsModel" "s" "[I" ∈ wsX5_ofRoute := List.mem_of_getElem? (i := 1) (by decide +kernel)
theorem wi_X5_ofRoute_5 : ∀ w ∈ wsX50, w ∈ wsX5_ofRoute := fun _ h => List.mem_cons_of_mem _ (List.mem_append_right _ h)
theorem hd_X5_ofRoute : yX5_ofRoute.cls = RX5 ∧ yX5_ofRoute.cls ≠ "java/lang/invoke/MethodHandle" ∧ yX5_ofRoute.cls ≠ "java/lang/invoke/VarHandle" ∧ (parseMethodDescriptor yX5_ofRoute.desc).map (fun d => d.parameters.length) = some 2 := ⟨rfl, by decide +kernel, by decide +kernel, by decide +kernel⟩
set_option maxHeartbeats 4000000 in
set_option maxRecDepth 100000 in
theorem c_X5_ofRoute (l : Launch) {G : xG} {μ : xM} {I : xI} {P : xP} {m k : Nat} {row w : Int32} (km : μ.2.1 m = 6) (ks : μ.2.1 (P m 0) = 7) (ls : μ.2.2 (P m 0) = 369) (hi : 351 + 3 * row + w = nI k) (hk : k < 369) : Ct l yX5_ofRoute wsX5_ofRoute rm_X5_ofRoute G μ I P [.ref (xZ G + m), .int row, .int w] 0 0 (fun vv μ' I' P' => vv = some (.int (I (P m 0) k)) ∧ μ' = μ ∧ I' = I ∧ P' = P) := by
  refine Ct.of (cc := cX5_ofRoute) (maxL := 3) (ret := (some .int)) [some (.ref (xZ G + m)), some (.int row), some (.int w)] (by decide) rfl rfl rfl (Nat.le_of_ble_eq_true rfl) ?_
  intro X hC hD h0 _
  refine r_aload_n (pc := 0) hC dX5_ofRoute_0 rfl ?_
  refine g_Model_s (pc := 1) hC wi_X5_ofRoute_5 wl_X5_ofRoute_7 (by assumption) (c2 := 7) (by assumption) (by decide) dX5_ofRoute_1 ?_
  refine r_sipush (pc := 4) (v := 351) hC dX5_ofRoute_4 (by decide) ?_
  refine r_iconst (pc := 7) (v := 3) hC dX5_ofRoute_7 (by decide) ?_
  refine r_iload_n (pc := 8) hC dX5_ofRoute_8 rfl ?_
  refine r_imul (pc := 9) hC dX5_ofRoute_9 ?_
  refine r_iadd (pc := 10) hC dX5_ofRoute_10 ?_
  refine r_iload_n (pc := 11) hC dX5_ofRoute_11 rfl ?_
  refine r_iadd (pc := 12) hC dX5_ofRoute_12 ?_
  refine r_iald (pc := 13) hC ks (xi_e (k := k) hi ls hk (by decide)) dX5_ofRoute_13 ?_
  refine r_iret (pc := 14) hC hD rfl dX5_ofRoute_14 rfl ?_
  exact ⟨rfl, rfl, rfl, rfl⟩
theorem k_X5_ofRoute {X : xF} {G : xG} {cs : Nat × Nat} {μ : xM} {I : xI} {P : xP} {L : List (Option Value)} {pc : Nat} {rest : List Value} {cc : ByteArray} {Ts : List Cond} {own : String} {nL : Nat} {R : Room} (hC : xC X G cc Ts own nL R) {index : Nat} (hG : GoodIn Ts (wsV own index RX5 yX5_ofRoute wsX5_ofRoute)) (hR : rm_X5_ofRoute.frames + 1 ≤ R.frames ∧ 8 + (3 + 11) + rm_X5_ofRoute.locals ≤ R.locals) {m k : Nat} {row w : Int32} (km : μ.2.1 m = 6) (ks : μ.2.1 (P m 0) = 7) (ls : μ.2.2 (P m 0) = 369) (hi : 351 + 3 * row + w = nI k) (hk : k < 369) (hW : (rest.map fun v => v.category).sum ≤ 8) (hL : L.length = nL) (hcs : cs.1 ≤ R.cells ∧ cs.2 ≤ R.slots) (d : decode cc pc = .ok (.invokevirtual index, 3)) (kk : xg X G cs μ I P L (pc + 3) (.int (I (P m 0) k) :: rest)) : xg X G cs μ I P L pc (.int w :: .int row :: .ref (xZ G + m) :: rest) :=
  r_callV hC (c_X5_ofRoute X.2.1 km ks ls hi hk) hG rfl rfl rfl hd_X5_ofRoute hR (by rw [km]; decide) (xe_Model km) rfl rfl rfl hW hL hcs d (by rintro v μ' I' P' ⟨rfl, rfl, rfl, rfl⟩; exact kk)
abbrev rm_X5_isRow : Room := { frames := 0, cells := 0, slots := 0, locals := 0 }
theorem wl_X5_isRow_7 : Cond.fieldLink RX5 7 "HandBlindsModel" "s" "[I" ∈ wsX5_isRow := List.mem_of_getElem? (i := 1) (by decide +kernel)
theorem wi_X5_isRow_5 : ∀ w ∈ wsX50, w ∈ wsX5_isRow := fun _ h => List.mem_cons_of_mem _ (List.mem_append_right _ h)
theorem hd_X5_isRow : yX5_isRow.cls = RX5 ∧ yX5_isRow.cls ≠ "java/lang/invoke/MethodHandle" ∧ yX5_isRow.cls ≠ "java/lang/invoke/VarHandle" ∧ (parseMethodDescriptor yX5_isRow.desc).map (fun d => d.parameters.length) = some 1 := ⟨rfl, by decide +kernel, by decide +kernel, by decide +kernel⟩
set_option maxHeartbeats 4000000 in
set_option maxRecDepth 100000 in
theorem c_X5_isRow (l : Launch) {G : xG} {μ : xM} {I : xI} {P : xP} {m : Nat} {r : Int32} (km : μ.2.1 m = 6) (ks : μ.2.1 (P m 0) = 7) (ls : μ.2.2 (P m 0) = 369) : Ct l yX5_isRow wsX5_isRow rm_X5_isRow G μ I P [.ref (xZ G + m), .int r] 0 0 (fun vv μ' I' P' => vv = some (.int (if r < 0 then 0 else if I (P m 0) 0 ≤ r then 0 else 1)) ∧ μ' = μ ∧ I' = I ∧ P' = P) := by
  refine Ct.of (cc := cX5_isRow) (maxL := 2) (ret := (some .boolean)) [some (.ref (xZ G + m)), some (.int r)] (by decide) rfl rfl rfl (Nat.le_of_ble_eq_true rfl) ?_
  intro X hC hD h0 _
  refine r_iload_n (pc := 0) hC dX5_isRow_0 rfl ?_
  refine r_if_lt (pc := 1) (tgt := 18) hC dX5_isRow_1 (by decide) (fun bq1 => ?_) (fun bq1 => ?_)
  · skip
    refine r_iconst (pc := 18) (v := 0) hC dX5_isRow_18 (by decide) ?_
    refine r_iret (pc := 19) hC hD rfl dX5_isRow_19 rfl ?_
    exact ⟨by simp [bq1], rfl, rfl, rfl⟩
  · skip
    refine r_iload_n (pc := 4) hC dX5_isRow_4 rfl ?_
    refine r_aload_n (pc := 5) hC dX5_isRow_5 rfl ?_
    refine g_Model_s (pc := 6) hC wi_X5_isRow_5 wl_X5_isRow_7 (by assumption) (c2 := 7) (by assumption) (by decide) dX5_isRow_6 ?_
    refine r_iconst (pc := 9) (v := 0) hC dX5_isRow_9 (by decide) ?_
    refine r_iald (pc := 10) hC ks (xi_l (k := 0) ls (by decide) (by decide) (by decide)) dX5_isRow_10 ?_
    refine r_icmp_ge (pc := 11) (tgt := 18) hC dX5_isRow_11 (by decide) (fun bq11 => ?_) (fun bq11 => ?_)
    · skip
      refine r_iconst (pc := 18) (v := 0) hC dX5_isRow_18 (by decide) ?_
      refine r_iret (pc := 19) hC hD rfl dX5_isRow_19 rfl ?_
      exact ⟨by simp [bq1, bq11], rfl, rfl, rfl⟩
    · skip
      refine r_iconst (pc := 14) (v := 1) hC dX5_isRow_14 (by decide) ?_
      refine r_goto (pc := 15) (tgt := 19) hC dX5_isRow_15 (by decide) ?_
      refine r_iret (pc := 19) hC hD rfl dX5_isRow_19 rfl ?_
      exact ⟨by simp [bq1, bq11], rfl, rfl, rfl⟩
theorem k_X5_isRow {X : xF} {G : xG} {cs : Nat × Nat} {μ : xM} {I : xI} {P : xP} {L : List (Option Value)} {pc : Nat} {rest : List Value} {cc : ByteArray} {Ts : List Cond} {own : String} {nL : Nat} {R : Room} (hC : xC X G cc Ts own nL R) {index : Nat} (hG : GoodIn Ts (wsV own index RX5 yX5_isRow wsX5_isRow)) (hR : rm_X5_isRow.frames + 1 ≤ R.frames ∧ 8 + (2 + 11) + rm_X5_isRow.locals ≤ R.locals) {m : Nat} {r : Int32} (km : μ.2.1 m = 6) (ks : μ.2.1 (P m 0) = 7) (ls : μ.2.2 (P m 0) = 369) (hW : (rest.map fun v => v.category).sum ≤ 8) (hL : L.length = nL) (hcs : cs.1 ≤ R.cells ∧ cs.2 ≤ R.slots) (d : decode cc pc = .ok (.invokevirtual index, 3)) (kk : xg X G cs μ I P L (pc + 3) (.int (if r < 0 then 0 else if I (P m 0) 0 ≤ r then 0 else 1) :: rest)) : xg X G cs μ I P L pc (.int r :: .ref (xZ G + m) :: rest) :=
  r_callV hC (c_X5_isRow X.2.1 km ks ls) hG rfl rfl rfl hd_X5_isRow hR (by rw [km]; decide) (xe_Model km) rfl rfl rfl hW hL hcs d (by rintro v μ' I' P' ⟨rfl, rfl, rfl, rfl⟩; exact kk)
abbrev rm_X5_isRoute : Room := { frames := 0, cells := 0, slots := 0, locals := 0 }
theorem wl_X5_isRoute_7 : Cond.fieldLink RX5 7 "HandBlindsModel" "s" "[I" ∈ wsX5_isRoute := List.mem_of_getElem? (i := 1) (by decide +kernel)
theorem wi_X5_isRoute_5 : ∀ w ∈ wsX50, w ∈ wsX5_isRoute := fun _ h => List.mem_cons_of_mem _ (List.mem_append_right _ h)
theorem hd_X5_isRoute : yX5_isRoute.cls = RX5 ∧ yX5_isRoute.cls ≠ "java/lang/invoke/MethodHandle" ∧ yX5_isRoute.cls ≠ "java/lang/invoke/VarHandle" ∧ (parseMethodDescriptor yX5_isRoute.desc).map (fun d => d.parameters.length) = some 1 := ⟨rfl, by decide +kernel, by decide +kernel, by decide +kernel⟩
set_option maxHeartbeats 4000000 in
set_option maxRecDepth 100000 in
theorem c_X5_isRoute (l : Launch) {G : xG} {μ : xM} {I : xI} {P : xP} {m : Nat} {r : Int32} (km : μ.2.1 m = 6) (ks : μ.2.1 (P m 0) = 7) (ls : μ.2.2 (P m 0) = 369) : Ct l yX5_isRoute wsX5_isRoute rm_X5_isRoute G μ I P [.ref (xZ G + m), .int r] 0 0 (fun vv μ' I' P' => vv = some (.int (if r < 0 then 0 else if I (P m 0) 2 ≤ r then 0 else 1)) ∧ μ' = μ ∧ I' = I ∧ P' = P) := by
  refine Ct.of (cc := cX5_isRoute) (maxL := 2) (ret := (some .boolean)) [some (.ref (xZ G + m)), some (.int r)] (by decide) rfl rfl rfl (Nat.le_of_ble_eq_true rfl) ?_
  intro X hC hD h0 _
  refine r_iload_n (pc := 0) hC dX5_isRoute_0 rfl ?_
  refine r_if_lt (pc := 1) (tgt := 18) hC dX5_isRoute_1 (by decide) (fun bq1 => ?_) (fun bq1 => ?_)
  · skip
    refine r_iconst (pc := 18) (v := 0) hC dX5_isRoute_18 (by decide) ?_
    refine r_iret (pc := 19) hC hD rfl dX5_isRoute_19 rfl ?_
    exact ⟨by simp [bq1], rfl, rfl, rfl⟩
  · skip
    refine r_iload_n (pc := 4) hC dX5_isRoute_4 rfl ?_
    refine r_aload_n (pc := 5) hC dX5_isRoute_5 rfl ?_
    refine g_Model_s (pc := 6) hC wi_X5_isRoute_5 wl_X5_isRoute_7 (by assumption) (c2 := 7) (by assumption) (by decide) dX5_isRoute_6 ?_
    refine r_iconst (pc := 9) (v := 2) hC dX5_isRoute_9 (by decide) ?_
    refine r_iald (pc := 10) hC ks (xi_l (k := 2) ls (by decide) (by decide) (by decide)) dX5_isRoute_10 ?_
    refine r_icmp_ge (pc := 11) (tgt := 18) hC dX5_isRoute_11 (by decide) (fun bq11 => ?_) (fun bq11 => ?_)
    · skip
      refine r_iconst (pc := 18) (v := 0) hC dX5_isRoute_18 (by decide) ?_
      refine r_iret (pc := 19) hC hD rfl dX5_isRoute_19 rfl ?_
      exact ⟨by simp [bq1, bq11], rfl, rfl, rfl⟩
    · skip
      refine r_iconst (pc := 14) (v := 1) hC dX5_isRoute_14 (by decide) ?_
      refine r_goto (pc := 15) (tgt := 19) hC dX5_isRoute_15 (by decide) ?_
      refine r_iret (pc := 19) hC hD rfl dX5_isRoute_19 rfl ?_
      exact ⟨by simp [bq1, bq11], rfl, rfl, rfl⟩
theorem k_X5_isRoute {X : xF} {G : xG} {cs : Nat × Nat} {μ : xM} {I : xI} {P : xP} {L : List (Option Value)} {pc : Nat} {rest : List Value} {cc : ByteArray} {Ts : List Cond} {own : String} {nL : Nat} {R : Room} (hC : xC X G cc Ts own nL R) {index : Nat} (hG : GoodIn Ts (wsV own index RX5 yX5_isRoute wsX5_isRoute)) (hR : rm_X5_isRoute.frames + 1 ≤ R.frames ∧ 8 + (2 + 11) + rm_X5_isRoute.locals ≤ R.locals) {m : Nat} {r : Int32} (km : μ.2.1 m = 6) (ks : μ.2.1 (P m 0) = 7) (ls : μ.2.2 (P m 0) = 369) (hW : (rest.map fun v => v.category).sum ≤ 8) (hL : L.length = nL) (hcs : cs.1 ≤ R.cells ∧ cs.2 ≤ R.slots) (d : decode cc pc = .ok (.invokevirtual index, 3)) (kk : xg X G cs μ I P L (pc + 3) (.int (if r < 0 then 0 else if I (P m 0) 2 ≤ r then 0 else 1) :: rest)) : xg X G cs μ I P L pc (.int r :: .ref (xZ G + m) :: rest) :=
  r_callV hC (c_X5_isRoute X.2.1 km ks ls) hG rfl rfl rfl hd_X5_isRoute hR (by rw [km]; decide) (xe_Model km) rfl rfl rfl hW hL hcs d (by rintro v μ' I' P' ⟨rfl, rfl, rfl, rfl⟩; exact kk)
abbrev rm_X5_squeezed : Room := { frames := 0, cells := 0, slots := 0, locals := 0 }
theorem wl_X5_squeezed_7 : Cond.fieldLink RX5 7 "HandBlindsModel" "s" "[I" ∈ wsX5_squeezed := List.mem_of_getElem? (i := 1) (by decide +kernel)
theorem wi_X5_squeezed_5 : ∀ w ∈ wsX50, w ∈ wsX5_squeezed := fun _ h => List.mem_cons_of_mem _ (List.mem_append_right _ h)
theorem hd_X5_squeezed : yX5_squeezed.cls = RX5 ∧ yX5_squeezed.cls ≠ "java/lang/invoke/MethodHandle" ∧ yX5_squeezed.cls ≠ "java/lang/invoke/VarHandle" ∧ (parseMethodDescriptor yX5_squeezed.desc).map (fun d => d.parameters.length) = some 1 := ⟨rfl, by decide +kernel, by decide +kernel, by decide +kernel⟩
set_option maxHeartbeats 4000000 in
set_option maxRecDepth 100000 in
theorem c_X5_squeezed (l : Launch) {G : xG} {μ : xM} {I : xI} {P : xP} {m : Nat} {w : Int32} (km : μ.2.1 m = 6) (ks : μ.2.1 (P m 0) = 7) (ls : μ.2.2 (P m 0) = 369) (h8 : ¬ I (P m 0) 8 = 0) : Ct l yX5_squeezed wsX5_squeezed rm_X5_squeezed G μ I P [.ref (xZ G + m), .int w] 0 0 (fun vv μ' I' P' => vv = some (.int (sq (I (P m 0) 8) w)) ∧ μ' = μ ∧ I' = I ∧ P' = P) := by
  refine Ct.of (cc := cX5_squeezed) (maxL := 2) (ret := (some .int)) [some (.ref (xZ G + m)), some (.int w)] (by decide) rfl rfl rfl (Nat.le_of_ble_eq_true rfl) ?_
  intro X hC hD h0 _
  refine r_iload_n (pc := 0) hC dX5_squeezed_0 rfl ?_
  refine r_aload_n (pc := 1) hC dX5_squeezed_1 rfl ?_
  refine g_Model_s (pc := 2) hC wi_X5_squeezed_5 wl_X5_squeezed_7 (by assumption) (c2 := 7) (by assumption) (by decide) dX5_squeezed_2 ?_
  refine r_bipush (pc := 5) (v := 8) hC dX5_squeezed_5 (by decide) ?_
  refine r_iald (pc := 7) hC ks (xi_l (k := 8) ls (by decide) (by decide) (by decide)) dX5_squeezed_7 ?_
  refine r_icmp_le (pc := 8) (tgt := 26) hC dX5_squeezed_8 (by decide) (fun bq8 => ?_) (fun bq8 => ?_)
  · skip
    refine r_bipush (pc := 26) (v := 100) hC dX5_squeezed_26 (by decide) ?_
    refine r_iret (pc := 28) hC hD rfl dX5_squeezed_28 rfl ?_
    exact ⟨by simp [sq, bq8], rfl, rfl, rfl⟩
  · skip
    refine r_iload_n (pc := 11) hC dX5_squeezed_11 rfl ?_
    refine r_bipush (pc := 12) (v := 100) hC dX5_squeezed_12 (by decide) ?_
    refine r_imul (pc := 14) hC dX5_squeezed_14 ?_
    refine r_aload_n (pc := 15) hC dX5_squeezed_15 rfl ?_
    refine g_Model_s (pc := 16) hC wi_X5_squeezed_5 wl_X5_squeezed_7 (by assumption) (c2 := 7) (by assumption) (by decide) dX5_squeezed_16 ?_
    refine r_bipush (pc := 19) (v := 8) hC dX5_squeezed_19 (by decide) ?_
    refine r_iald (pc := 21) hC ks (xi_l (k := 8) ls (by decide) (by decide) (by decide)) dX5_squeezed_21 ?_
    refine r_idiv (pc := 22) hC dX5_squeezed_22 h8 ?_
    refine r_goto (pc := 23) (tgt := 28) hC dX5_squeezed_23 (by decide) ?_
    refine r_iret (pc := 28) hC hD rfl dX5_squeezed_28 rfl ?_
    exact ⟨by simp [sq, bq8], rfl, rfl, rfl⟩
theorem k_X5_squeezed {X : xF} {G : xG} {cs : Nat × Nat} {μ : xM} {I : xI} {P : xP} {L : List (Option Value)} {pc : Nat} {rest : List Value} {cc : ByteArray} {Ts : List Cond} {own : String} {nL : Nat} {R : Room} (hC : xC X G cc Ts own nL R) {index : Nat} (hG : GoodIn Ts (wsV own index RX5 yX5_squeezed wsX5_squeezed)) (hR : rm_X5_squeezed.frames + 1 ≤ R.frames ∧ 8 + (2 + 11) + rm_X5_squeezed.locals ≤ R.locals) {m : Nat} {w : Int32} (km : μ.2.1 m = 6) (ks : μ.2.1 (P m 0) = 7) (ls : μ.2.2 (P m 0) = 369) (h8 : ¬ I (P m 0) 8 = 0) (hW : (rest.map fun v => v.category).sum ≤ 8) (hL : L.length = nL) (hcs : cs.1 ≤ R.cells ∧ cs.2 ≤ R.slots) (d : decode cc pc = .ok (.invokevirtual index, 3)) (kk : xg X G cs μ I P L (pc + 3) (.int (sq (I (P m 0) 8) w) :: rest)) : xg X G cs μ I P L pc (.int w :: .ref (xZ G + m) :: rest) :=
  r_callV hC (c_X5_squeezed X.2.1 km ks ls h8) hG rfl rfl rfl hd_X5_squeezed hR (by rw [km]; decide) (xe_Model km) rfl rfl rfl hW hL hcs d (by rintro v μ' I' P' ⟨rfl, rfl, rfl, rfl⟩; exact kk)
abbrev rm_X5_isTorn : Room := { frames := 1, cells := 0, slots := 0, locals := 22 }
theorem hd_X5_isTorn : yX5_isTorn.cls = RX5 ∧ yX5_isTorn.cls ≠ "java/lang/invoke/MethodHandle" ∧ yX5_isTorn.cls ≠ "java/lang/invoke/VarHandle" ∧ (parseMethodDescriptor yX5_isTorn.desc).map (fun d => d.parameters.length) = some 1 := ⟨rfl, by decide +kernel, by decide +kernel, by decide +kernel⟩
set_option maxHeartbeats 4000000 in
set_option maxRecDepth 100000 in
theorem c_X5_isTorn (l : Launch) {G : xG} {μ : xM} {I : xI} {P : xP} {m r : Nat} {row : Int32} (km : μ.2.1 m = 6) (ks : μ.2.1 (P m 0) = 7) (ls : μ.2.2 (P m 0) = 369) (hr : row = nI r) (hr20 : r < 20) : Ct l yX5_isTorn wsX5_isTorn rm_X5_isTorn G μ I P [.ref (xZ G + m), .int row] 0 0 (fun vv μ' I' P' => vv = some (.int (if I (P m 0) (13 + 17 * r) = 1 then 1 else 0)) ∧ μ' = μ ∧ I' = I ∧ P' = P) := by
  subst hr
  refine Ct.of (cc := cX5_isTorn) (maxL := 2) (ret := (some .boolean)) [some (.ref (xZ G + m)), some (.int (nI r))] (by decide) rfl rfl rfl (Nat.le_of_ble_eq_true rfl) ?_
  intro X hC hD h0 _
  refine r_aload_n (pc := 0) hC dX5_isTorn_0 rfl ?_
  refine r_iload_n (pc := 1) hC dX5_isTorn_1 rfl ?_
  refine r_iconst (pc := 2) (v := 2) hC dX5_isTorn_2 (by decide) ?_
  refine k_X5_of (pc := 3) hC gX5_isTorn_X5_of ⟨Nat.le_of_ble_eq_true rfl, Nat.le_of_ble_eq_true rfl⟩ (k := 13 + 17 * r) km ks ls (by simp only [xlit, nI_add, pk_mul] <;> exact congrArg nI (by omega)) (by omega) (Nat.le_of_ble_eq_true rfl) rfl ⟨Nat.zero_le _, Nat.zero_le _⟩ dX5_isTorn_3 ?_
  refine r_iconst (pc := 6) (v := 1) hC dX5_isTorn_6 (by decide) ?_
  refine r_icmp_ne (pc := 7) (tgt := 14) hC dX5_isTorn_7 (by decide) (fun bq7 => ?_) (fun bq7 => ?_)
  · skip
    refine r_iconst (pc := 14) (v := 0) hC dX5_isTorn_14 (by decide) ?_
    refine r_iret (pc := 15) hC hD rfl dX5_isTorn_15 rfl ?_
    exact ⟨by simp [bq7], rfl, rfl, rfl⟩
  · skip
    refine r_iconst (pc := 10) (v := 1) hC dX5_isTorn_10 (by decide) ?_
    refine r_goto (pc := 11) (tgt := 15) hC dX5_isTorn_11 (by decide) ?_
    refine r_iret (pc := 15) hC hD rfl dX5_isTorn_15 rfl ?_
    exact ⟨by simp [bq7], rfl, rfl, rfl⟩
theorem k_X5_isTorn {X : xF} {G : xG} {cs : Nat × Nat} {μ : xM} {I : xI} {P : xP} {L : List (Option Value)} {pc : Nat} {rest : List Value} {cc : ByteArray} {Ts : List Cond} {own : String} {nL : Nat} {R : Room} (hC : xC X G cc Ts own nL R) {index : Nat} (hG : GoodIn Ts (wsV own index RX5 yX5_isTorn wsX5_isTorn)) (hR : rm_X5_isTorn.frames + 1 ≤ R.frames ∧ 8 + (2 + 11) + rm_X5_isTorn.locals ≤ R.locals) {m r : Nat} {row : Int32} (km : μ.2.1 m = 6) (ks : μ.2.1 (P m 0) = 7) (ls : μ.2.2 (P m 0) = 369) (hr : row = nI r) (hr20 : r < 20) (hW : (rest.map fun v => v.category).sum ≤ 8) (hL : L.length = nL) (hcs : cs.1 ≤ R.cells ∧ cs.2 ≤ R.slots) (d : decode cc pc = .ok (.invokevirtual index, 3)) (kk : xg X G cs μ I P L (pc + 3) (.int (if I (P m 0) (13 + 17 * r) = 1 then 1 else 0) :: rest)) : xg X G cs μ I P L pc (.int row :: .ref (xZ G + m) :: rest) :=
  r_callV hC (c_X5_isTorn X.2.1 km ks ls hr hr20) hG rfl rfl rfl hd_X5_isTorn hR (by rw [km]; decide) (xe_Model km) rfl rfl rfl hW hL hcs d (by rintro v μ' I' P' ⟨rfl, rfl, rfl, rfl⟩; exact kk)
abbrev rm_X5_width : Room := { frames := 1, cells := 0, slots := 0, locals := 22 }
theorem hd_X5_width : yX5_width.cls = RX5 ∧ yX5_width.cls ≠ "java/lang/invoke/MethodHandle" ∧ yX5_width.cls ≠ "java/lang/invoke/VarHandle" ∧ (parseMethodDescriptor yX5_width.desc).map (fun d => d.parameters.length) = some 1 := ⟨rfl, by decide +kernel, by decide +kernel, by decide +kernel⟩
set_option maxHeartbeats 4000000 in
set_option maxRecDepth 100000 in
theorem c_X5_width (l : Launch) {G : xG} {μ : xM} {I : xI} {P : xP} {m r n : Nat} {row : Int32} (km : μ.2.1 m = 6) (ks : μ.2.1 (P m 0) = 7) (ls : μ.2.2 (P m 0) = 369) (hr : row = nI r) (hr20 : r < 20) (hn : I (P m 0) (11 + 17 * r) = nI n) (hn14 : n ≤ 14) : Ct l yX5_width wsX5_width rm_X5_width G μ I P [.ref (xZ G + m), .int row] 0 0 (fun vv μ' I' P' => vv = some (.int (wsum (fun j => I (P m 0) (14 + 17 * r + j)) n)) ∧ μ' = μ ∧ I' = I ∧ P' = P) := by
  subst hr
  refine Ct.of (cc := cX5_width) (maxL := 4) (ret := (some .int)) [some (.ref (xZ G + m)), some (.int (nI r)), none, none] (by decide) rfl rfl rfl (Nat.le_of_ble_eq_true rfl) ?_
  intro X hC hD h0 _
  have loop : ∀ (q k : Nat), k + q = n → xg X G (0, 0) μ I P [some (.ref (xZ G + m)), some (.int (nI r)), some (.int (wsum (fun j => I (P m 0) (14 + 17 * r + j)) k)), some (.int (nI k))] 4 [] := by
    intro q
    induction q with
    | zero =>
      intro k hk
      have ek : k = n := by omega
      subst ek
      refine r_iload_n (pc := 4) hC dX5_width_4 rfl ?_
      refine r_aload_n (pc := 5) hC dX5_width_5 rfl ?_
      refine r_iload_n (pc := 6) hC dX5_width_6 rfl ?_
      refine r_iconst (pc := 7) (v := 0) hC dX5_width_7 (by decide) ?_
      refine k_X5_of (pc := 8) hC gX5_width_X5_of ⟨Nat.le_of_ble_eq_true rfl, Nat.le_of_ble_eq_true rfl⟩ (k := 11 + 17 * r) km ks ls (by simp only [xlit, nI_add, pk_mul] <;> exact congrArg nI (by omega)) (by omega) (Nat.le_of_ble_eq_true rfl) rfl ⟨Nat.zero_le _, Nat.zero_le _⟩ dX5_width_8 ?_
      refine r_icmp_ge (pc := 11) (tgt := 34) hC dX5_width_11 (by decide) (fun bq11 => ?_) (fun bq11 => ?_)
      · skip
        refine r_iload_n (pc := 34) hC dX5_width_34 rfl ?_
        refine r_iret (pc := 35) hC hD rfl dX5_width_35 rfl ?_
        exact ⟨rfl, rfl, rfl, rfl⟩
      · skip
        rw [hn] at bq11; exact absurd (nI_le (by omega) (by omega)) bq11
    | succ q ih =>
      intro k hk
      refine r_iload_n (pc := 4) hC dX5_width_4 rfl ?_
      refine r_aload_n (pc := 5) hC dX5_width_5 rfl ?_
      refine r_iload_n (pc := 6) hC dX5_width_6 rfl ?_
      refine r_iconst (pc := 7) (v := 0) hC dX5_width_7 (by decide) ?_
      refine k_X5_of (pc := 8) hC gX5_width_X5_of ⟨Nat.le_of_ble_eq_true rfl, Nat.le_of_ble_eq_true rfl⟩ (k := 11 + 17 * r) km ks ls (by simp only [xlit, nI_add, pk_mul] <;> exact congrArg nI (by omega)) (by omega) (Nat.le_of_ble_eq_true rfl) rfl ⟨Nat.zero_le _, Nat.zero_le _⟩ dX5_width_8 ?_
      refine r_icmp_ge (pc := 11) (tgt := 34) hC dX5_width_11 (by decide) (fun bq11 => ?_) (fun bq11 => ?_)
      · skip
        rw [hn] at bq11; exact absurd bq11 (nI_ge (by omega) (by omega))
      · skip
        refine r_iload_n (pc := 14) hC dX5_width_14 rfl ?_
        refine r_aload_n (pc := 15) hC dX5_width_15 rfl ?_
        refine r_iload_n (pc := 16) hC dX5_width_16 rfl ?_
        refine r_iconst (pc := 17) (v := 3) hC dX5_width_17 (by decide) ?_
        refine r_iload_n (pc := 18) hC dX5_width_18 rfl ?_
        refine r_iadd (pc := 19) hC dX5_width_19 ?_
        refine k_X5_of (pc := 20) hC gX5_width_X5_of ⟨Nat.le_of_ble_eq_true rfl, Nat.le_of_ble_eq_true rfl⟩ (k := 14 + 17 * r + k) km ks ls (by simp only [xlit, nI_add, pk_mul] <;> exact congrArg nI (by omega)) (by omega) (Nat.le_of_ble_eq_true rfl) rfl ⟨Nat.zero_le _, Nat.zero_le _⟩ dX5_width_20 ?_
        refine k_X5_wide (pc := 23) hC gX5_width_X5_wide ⟨Nat.le_of_ble_eq_true rfl, Nat.le_of_ble_eq_true rfl⟩  (Nat.le_of_ble_eq_true rfl) rfl ⟨Nat.zero_le _, Nat.zero_le _⟩ dX5_width_23 ?_
        refine r_iadd (pc := 26) hC dX5_width_26 ?_
        refine r_istore_n (pc := 27) (L' := [_, _, _, _]) hC dX5_width_27 rfl (Nat.le_of_ble_eq_true rfl) rfl ?_
        refine r_iinc (pc := 28) (v := 1) (L' := [_, _, _, _]) hC dX5_width_28 rfl (by decide) rfl rfl ?_
        refine r_goto (pc := 31) (tgt := 4) hC dX5_width_31 (by decide) ?_
        have z := ih (k + 1) (by omega); rw [nI_succ] at z; exact z
  refine r_iconst (pc := 0) (v := 0) hC dX5_width_0 (by decide) ?_
  refine r_istore_n (pc := 1) (L' := [_, _, _, _]) hC dX5_width_1 rfl (Nat.le_of_ble_eq_true rfl) rfl ?_
  refine r_iconst (pc := 2) (v := 0) hC dX5_width_2 (by decide) ?_
  refine r_istore_n (pc := 3) (L' := [_, _, _, _]) hC dX5_width_3 rfl (Nat.le_of_ble_eq_true rfl) rfl ?_
  exact loop n 0 (by omega)
theorem k_X5_width {X : xF} {G : xG} {cs : Nat × Nat} {μ : xM} {I : xI} {P : xP} {L : List (Option Value)} {pc : Nat} {rest : List Value} {cc : ByteArray} {Ts : List Cond} {own : String} {nL : Nat} {R : Room} (hC : xC X G cc Ts own nL R) {index : Nat} (hG : GoodIn Ts (wsV own index RX5 yX5_width wsX5_width)) (hR : rm_X5_width.frames + 1 ≤ R.frames ∧ 8 + (4 + 11) + rm_X5_width.locals ≤ R.locals) {m r n : Nat} {row : Int32} (km : μ.2.1 m = 6) (ks : μ.2.1 (P m 0) = 7) (ls : μ.2.2 (P m 0) = 369) (hr : row = nI r) (hr20 : r < 20) (hn : I (P m 0) (11 + 17 * r) = nI n) (hn14 : n ≤ 14) (hW : (rest.map fun v => v.category).sum ≤ 8) (hL : L.length = nL) (hcs : cs.1 ≤ R.cells ∧ cs.2 ≤ R.slots) (d : decode cc pc = .ok (.invokevirtual index, 3)) (kk : xg X G cs μ I P L (pc + 3) (.int (wsum (fun j => I (P m 0) (14 + 17 * r + j)) n) :: rest)) : xg X G cs μ I P L pc (.int row :: .ref (xZ G + m) :: rest) :=
  r_callV hC (c_X5_width X.2.1 km ks ls hr hr20 hn hn14) hG rfl rfl rfl hd_X5_width hR (by rw [km]; decide) (xe_Model km) rfl rfl rfl hW hL hcs d (by rintro v μ' I' P' ⟨rfl, rfl, rfl, rfl⟩; exact kk)
end
section
/-! copying: one array onto another, the model's history -/
theorem xcp_0 {I : xI} {a b : Nat} : xcp I a b 0 = I := by funext c j; simp [xcp]
theorem xcp_succ {I : xI} {a b k : Nat} (h : a ≠ b) : xu (xcp I a b k) b k (xcp I a b k a k) = xcp I a b (k + 1) := by
  funext c j
  by_cases hc : c = b
  · subst hc
    by_cases hj : j = k
    · subst hj; simp [xu, xcp, h]
    · by_cases h1 : j < k
      · have : j < k + 1 := by omega
        simp [xu, xcp, hj, h1, this]
      · have : ¬ j < k + 1 := by omega
        simp [xu, xcp, hj, h1, this]
  · simp [xu, xcp, hc]
/-- the model's past after its first k cells have been moved up by one state -/
def xshf (pa k : Nat) (I : xI) : xI := fun a j => if a = pa ∧ j < k then I pa (j + 369) else I a j
theorem xshf_0 {pa : Nat} {I : xI} : xshf pa 0 I = I := by funext a j; simp [xshf]
theorem xshf_succ {pa k : Nat} {I : xI} : xu (xshf pa k I) pa k (xshf pa k I pa (k + 369)) = xshf pa (k + 1) I := by
  funext a j
  have e : ¬ k + 369 < k := by omega
  by_cases ha : a = pa
  · subst ha
    by_cases hj : j = k
    · subst hj; simp [xu, xshf]; intro w; omega
    · by_cases h1 : j < k
      · have : j < k + 1 := by omega
        simp [xu, xshf, hj, h1, this]
      · have : ¬ j < k + 1 := by omega
        simp [xu, xshf, hj, h1, this]
  · simp [xu, xshf, ha]
/-- the model's past after the first k cells of the present state have been put at the place q -/
def xput (sa pa q k : Nat) (I : xI) : xI := fun a j => if a = pa ∧ q ≤ j ∧ j < q + k then I sa (j - q) else I a j
theorem xput_0 {sa pa q : Nat} {I : xI} : xput sa pa q 0 I = I := by
  funext a j
  have : ¬ (q ≤ j ∧ j < q + 0) := by omega
  simp only [xput]
  rw [if_neg (fun z => this z.2)]
theorem xput_succ {sa pa q k : Nat} {I : xI} (h : sa ≠ pa) : xu (xput sa pa q k I) pa (q + k) (xput sa pa q k I sa k) = xput sa pa q (k + 1) I := by
  funext a j
  have e0 : xput sa pa q k I sa k = I sa k := by simp [xput, h]
  rw [e0]
  by_cases ha : a = pa
  · subst ha
    by_cases hj : j = q + k
    · subst hj
      have e1 : q + k - q = k := by omega
      simp [xu, xput, e1]
    · by_cases h1 : q ≤ j ∧ j < q + k
      · have h2 : j < q + (k + 1) := by omega
        simp [xu, xput, hj, h1, h2]
      · have h2 : ¬ (q ≤ j ∧ j < q + (k + 1)) := by omega
        simp only [xu, xput]
        rw [if_neg (fun z => hj z.2), if_neg (fun z => h1 z.2), if_neg (fun z => h2 z.2)]
  · simp [xu, xput, ha]
def xph (h : Nat) : Nat := if h = 4 then 3 else h
/-- a change of the model is recorded -/
def xchg (m sa pa h : Nat) (I : xI) : xI := xu (xput sa pa (369 * xph h) 369 (if h = 4 then xu (xshf pa 1107 I) m 3 (nI 3) else I)) m 3 (nI (xph h + 1))
theorem xchg_s {m sa pa h : Nat} {I : xI} (h1 : sa ≠ pa) (h2 : sa ≠ m) : xchg m sa pa h I sa = I sa := by
  funext j
  by_cases e : h = 4 <;> simp [xchg, xu, xput, xshf, h1, h2, e]
theorem xchg_o {m sa pa h a : Nat} {I : xI} (h1 : a ≠ pa) (h2 : a ≠ m) : xchg m sa pa h I a = I a := by
  funext j
  by_cases e : h = 4 <;> simp [xchg, xu, xput, xshf, h1, h2, e]
theorem xchg_m {m sa pa h j : Nat} {I : xI} (h1 : m ≠ pa) (h2 : j ≠ 3) : xchg m sa pa h I m j = I m j := by
  by_cases e : h = 4 <;> simp [xchg, xu, xput, xshf, h1, h2, e]
theorem xchg_h {m sa pa h : Nat} {I : xI} : xchg m sa pa h I m 3 = nI (xph h + 1) := by simp [xchg, xu]
theorem xph_le {h : Nat} (hh : h ≤ 4) : xph h + 1 ≤ 4 := by unfold xph; split <;> omega
end
section
abbrev rm_X5_copies : Room := { frames := 0, cells := 0, slots := 0, locals := 0 }
theorem hd_X5_copies : yX5_copies.cls = RX5 ∧ yX5_copies.cls ≠ "java/lang/invoke/MethodHandle" ∧ yX5_copies.cls ≠ "java/lang/invoke/VarHandle" ∧ (parseMethodDescriptor yX5_copies.desc).map (fun d => d.parameters.length) = some 2 := ⟨rfl, by decide +kernel, by decide +kernel, by decide +kernel⟩
set_option maxHeartbeats 4000000 in
set_option maxRecDepth 100000 in
theorem c_X5_copies (l : Launch) {G : xG} {μ : xM} {I : xI} {P : xP} {a b : Nat} (ka : μ.2.1 a = 7) (la : μ.2.2 a = 369) (kb : μ.2.1 b = 7) (lb : μ.2.2 b = 369) (hab : a ≠ b) : Ct l yX5_copies wsX5_copies rm_X5_copies G μ I P [.ref (xZ G + a), .ref (xZ G + b)] 0 0 (fun vv μ' I' P' => vv = none ∧ μ' = μ ∧ I' = xcp I a b 369 ∧ P' = P) := by
  refine Ct.of (cc := cX5_copies) (maxL := 3) (ret := none) [some (.ref (xZ G + a)), some (.ref (xZ G + b)), none] (by decide) rfl rfl rfl (Nat.le_of_ble_eq_true rfl) ?_
  intro X hC hD h0 _
  have loop : ∀ (q k : Nat), k + q = 369 → xg X G (0, 0) μ (xcp I a b k) P [some (.ref (xZ G + a)), some (.ref (xZ G + b)), some (.int (nI k))] 2 [] := by
    intro q
    induction q with
    | zero =>
      intro k hk
      have ek : k = 369 := by omega
      subst ek
      refine r_iload_n (pc := 2) hC dX5_copies_2 rfl ?_
      refine r_sipush (pc := 3) (v := 369) hC dX5_copies_3 (by decide) ?_
      refine r_icmp_ge (pc := 6) (tgt := 21) hC dX5_copies_6 (by decide) (fun bq6 => ?_) (fun bq6 => ?_)
      · skip
        refine r_vret (pc := 21) hC hD dX5_copies_21 rfl ?_
        exact ⟨rfl, rfl, rfl, rfl⟩
      · skip
        exact absurd (nI_le (a := 369) (b := 369) (by omega) (by decide)) bq6
    | succ q ih =>
      intro k hk
      refine r_iload_n (pc := 2) hC dX5_copies_2 rfl ?_
      refine r_sipush (pc := 3) (v := 369) hC dX5_copies_3 (by decide) ?_
      refine r_icmp_ge (pc := 6) (tgt := 21) hC dX5_copies_6 (by decide) (fun bq6 => ?_) (fun bq6 => ?_)
      · skip
        exact absurd bq6 (nI_ge (b := 369) (by omega) (by decide))
      · skip
        refine r_aload_n (pc := 9) hC dX5_copies_9 rfl ?_
        refine r_iload_n (pc := 10) hC dX5_copies_10 rfl ?_
        refine r_aload_n (pc := 11) hC dX5_copies_11 rfl ?_
        refine r_iload_n (pc := 12) hC dX5_copies_12 rfl ?_
        refine r_iald (pc := 13) hC ka (xi_n (by rw [la]; omega) (by rw [la]; decide)) dX5_copies_13 ?_
        refine r_iast (pc := 14) hC kb (xi_n (by rw [lb]; omega) (by rw [lb]; decide)) dX5_copies_14 ?_
        refine r_iinc (pc := 15) (v := 1) (L' := [_, _, _]) hC dX5_copies_15 rfl (by decide) rfl rfl ?_
        refine r_goto (pc := 18) (tgt := 2) hC dX5_copies_18 (by decide) ?_
        rw [xcp_succ hab]; have z := ih (k + 1) (by omega); rw [nI_succ] at z; exact z
  refine r_iconst (pc := 0) (v := 0) hC dX5_copies_0 (by decide) ?_
  refine r_istore_n (pc := 1) (L' := [_, _, _]) hC dX5_copies_1 rfl (Nat.le_of_ble_eq_true rfl) rfl ?_
  have z := loop 369 0 rfl; rw [xcp_0] at z; exact z
theorem k_X5_copies {X : xF} {G : xG} {cs : Nat × Nat} {μ : xM} {I : xI} {P : xP} {L : List (Option Value)} {pc : Nat} {rest : List Value} {cc : ByteArray} {Ts : List Cond} {own : String} {nL : Nat} {R : Room} (hC : xC X G cc Ts own nL R) {index : Nat} (hG : GoodIn Ts (va_wsS own index yX5_copies wsX5_copies)) (hR : rm_X5_copies.frames + 1 ≤ R.frames ∧ 8 + (3 + 11) + rm_X5_copies.locals ≤ R.locals) {a b : Nat} (ka : μ.2.1 a = 7) (la : μ.2.2 a = 369) (kb : μ.2.1 b = 7) (lb : μ.2.2 b = 369) (hab : a ≠ b) (hW : (rest.map fun v => v.category).sum ≤ 8) (hL : L.length = nL) (hcs : cs.1 ≤ R.cells ∧ cs.2 ≤ R.slots) (d : decode cc pc = .ok (.invokestatic index, 3)) (kk : xg X G cs μ (xcp I a b 369) P L (pc + 3) rest) : xg X G cs μ I P L pc (.ref (xZ G + b) :: .ref (xZ G + a) :: rest) :=
  r_callS hC (c_X5_copies X.2.1 ka la kb lb hab) hG rfl rfl rfl hd_X5_copies.2 hR rfl rfl hW hL hcs d (by rintro v μ' I' P' ⟨rfl, rfl, rfl, rfl⟩; exact kk)
abbrev rm_X5_changes : Room := { frames := 0, cells := 0, slots := 0, locals := 0 }
theorem wl_X5_changes_22 : Cond.fieldLink RX5 22 "HandBlindsModel" "pasts" "I" ∈ wsX5_changes := List.mem_of_getElem? (i := 1) (by decide +kernel)
theorem wi_X5_changes_5 : ∀ w ∈ wsX50, w ∈ wsX5_changes := fun _ h => List.mem_cons_of_mem _ (List.mem_append_right _ h)
theorem wl_X5_changes_13 : Cond.fieldLink RX5 13 "HandBlindsModel" "past" "[I" ∈ wsX5_changes := List.mem_of_getElem? (i := 2) (by decide +kernel)
theorem wl_X5_changes_7 : Cond.fieldLink RX5 7 "HandBlindsModel" "s" "[I" ∈ wsX5_changes := List.mem_of_getElem? (i := 3) (by decide +kernel)
theorem hd_X5_changes : yX5_changes.cls = RX5 ∧ yX5_changes.cls ≠ "java/lang/invoke/MethodHandle" ∧ yX5_changes.cls ≠ "java/lang/invoke/VarHandle" ∧ (parseMethodDescriptor yX5_changes.desc).map (fun d => d.parameters.length) = some 0 := ⟨rfl, by decide +kernel, by decide +kernel, by decide +kernel⟩
set_option maxHeartbeats 4000000 in
set_option maxRecDepth 100000 in
theorem c_X5_changes (l : Launch) {G : xG} {μ : xM} {I : xI} {P : xP} {m h : Nat} (km : μ.2.1 m = 6) (ks : μ.2.1 (P m 0) = 7) (ls : μ.2.2 (P m 0) = 369) (kp : μ.2.1 (P m 1) = 7) (lp : μ.2.2 (P m 1) = 1476) (hsp : P m 0 ≠ P m 1) (hh : I m 3 = nI h) (hh4 : h ≤ 4) : Ct l yX5_changes wsX5_changes rm_X5_changes G μ I P [.ref (xZ G + m)] 0 0 (fun vv μ' I' P' => vv = none ∧ μ' = μ ∧ I' = xchg m (P m 0) (P m 1) h I ∧ P' = P) := by
  have hmp : m ≠ P m 1 := fun e => by rw [← e, km] at kp; cases kp
  have hms : m ≠ P m 0 := fun e => by rw [← e, km] at ks; cases ks
  refine Ct.of (cc := cX5_changes) (maxL := 2) (ret := none) [some (.ref (xZ G + m)), none] (by decide) rfl rfl rfl (Nat.le_of_ble_eq_true rfl) ?_
  intro X hC hD h0 _
  have loop2 : ∀ (J : xI) (hp : Nat), J m 3 = nI hp → hp ≤ 3 → xu (xput (P m 0) (P m 1) (369 * hp) 369 J) m 3 (nI (hp + 1)) = xchg m (P m 0) (P m 1) h I → ∀ (q k : Nat), k + q = 369 → xg X G (0, 0) μ (xput (P m 0) (P m 1) (369 * hp) k J) P [some (.ref (xZ G + m)), some (.int (nI k))] 51 [] := by
    intro J hp hJ hp3 hfin
    intro q
    induction q with
    | zero =>
      intro k hk
      have e3 : ∀ j, xput (P m 0) (P m 1) (369 * hp) j J m 3 = nI hp := fun j => by simp [xput, hmp, hJ]
      have ek : k = 369 := by omega
      subst ek
      refine r_iload_n (pc := 51) hC dX5_changes_51 rfl ?_
      refine r_sipush (pc := 52) (v := 369) hC dX5_changes_52 (by decide) ?_
      refine r_icmp_ge (pc := 55) (tgt := 85) hC dX5_changes_55 (by decide) (fun bq55 => ?_) (fun bq55 => ?_)
      · skip
        refine r_aload_n (pc := 85) hC dX5_changes_85 rfl ?_
        refine r_dup (pc := 86) hC dX5_changes_86 rfl ?_
        refine g_Model_pasts (pc := 87) hC wi_X5_changes_5 wl_X5_changes_22 (by assumption) dX5_changes_87 ?_
        refine r_iconst (pc := 90) (v := 1) hC dX5_changes_90 (by decide) ?_
        refine r_iadd (pc := 91) hC dX5_changes_91 ?_
        refine p_Model_pasts (pc := 92) hC wi_X5_changes_5 wl_X5_changes_22 (by assumption) dX5_changes_92 ?_
        refine r_vret (pc := 95) hC hD dX5_changes_95 rfl ?_
        rw [e3, nI_1]; exact ⟨rfl, rfl, hfin, rfl⟩
      · skip
        exact absurd (nI_le (a := 369) (b := 369) (by omega) (by decide)) bq55
    | succ q ih =>
      intro k hk
      have e3 : ∀ j, xput (P m 0) (P m 1) (369 * hp) j J m 3 = nI hp := fun j => by simp [xput, hmp, hJ]
      refine r_iload_n (pc := 51) hC dX5_changes_51 rfl ?_
      refine r_sipush (pc := 52) (v := 369) hC dX5_changes_52 (by decide) ?_
      refine r_icmp_ge (pc := 55) (tgt := 85) hC dX5_changes_55 (by decide) (fun bq55 => ?_) (fun bq55 => ?_)
      · skip
        exact absurd bq55 (nI_ge (b := 369) (by omega) (by decide))
      · skip
        refine r_aload_n (pc := 58) hC dX5_changes_58 rfl ?_
        refine g_Model_past (pc := 59) hC wi_X5_changes_5 wl_X5_changes_13 (by assumption) (c2 := 7) (by assumption) (by decide) dX5_changes_59 ?_
        refine r_sipush (pc := 62) (v := 369) hC dX5_changes_62 (by decide) ?_
        refine r_aload_n (pc := 65) hC dX5_changes_65 rfl ?_
        refine g_Model_pasts (pc := 66) hC wi_X5_changes_5 wl_X5_changes_22 (by assumption) dX5_changes_66 ?_
        refine r_imul (pc := 69) hC dX5_changes_69 ?_
        refine r_iload_n (pc := 70) hC dX5_changes_70 rfl ?_
        refine r_iadd (pc := 71) hC dX5_changes_71 ?_
        refine r_aload_n (pc := 72) hC dX5_changes_72 rfl ?_
        refine g_Model_s (pc := 73) hC wi_X5_changes_5 wl_X5_changes_7 (by assumption) (c2 := 7) (by assumption) (by decide) dX5_changes_73 ?_
        refine r_iload_n (pc := 76) hC dX5_changes_76 rfl ?_
        refine r_iald (pc := 77) hC ks (xi_n (by rw [ls]; omega) (by rw [ls]; decide)) dX5_changes_77 ?_
        refine r_iast (pc := 78) hC kp (xi_e (k := 369 * hp + k) (by rw [e3]; simp only [xlit, nI_add, pk_mul]) lp (by omega) (by decide)) dX5_changes_78 ?_
        refine r_iinc (pc := 79) (v := 1) (L' := [_, _]) hC dX5_changes_79 rfl (by decide) rfl rfl ?_
        refine r_goto (pc := 82) (tgt := 51) hC dX5_changes_82 (by decide) ?_
        rw [xput_succ hsp]; have z := ih (k + 1) (by omega); rw [nI_succ] at z; exact z
  have loop : ∀ (h4 : h = 4), ∀ (q k : Nat), k + q = 1107 → xg X G (0, 0) μ (xshf (P m 1) k I) P [some (.ref (xZ G + m)), some (.int (nI k))] 10 [] := by
    intro h4
    intro q
    induction q with
    | zero =>
      intro k hk
      have ek : k = 1107 := by omega
      subst ek
      refine r_iload_n (pc := 10) hC dX5_changes_10 rfl ?_
      refine r_sipush (pc := 11) (v := 1107) hC dX5_changes_11 (by decide) ?_
      refine r_icmp_ge (pc := 14) (tgt := 39) hC dX5_changes_14 (by decide) (fun bq14 => ?_) (fun bq14 => ?_)
      · skip
        refine r_aload_n (pc := 39) hC dX5_changes_39 rfl ?_
        refine r_dup (pc := 40) hC dX5_changes_40 rfl ?_
        refine g_Model_pasts (pc := 41) hC wi_X5_changes_5 wl_X5_changes_22 (by assumption) dX5_changes_41 ?_
        refine r_iconst (pc := 44) (v := 1) hC dX5_changes_44 (by decide) ?_
        refine r_isub (pc := 45) hC dX5_changes_45 ?_
        refine p_Model_pasts (pc := 46) hC wi_X5_changes_5 wl_X5_changes_22 (by assumption) dX5_changes_46 ?_
        refine r_iconst (pc := 49) (v := 0) hC dX5_changes_49 (by decide) ?_
        refine r_istore_n (pc := 50) (L' := [_, _]) hC dX5_changes_50 rfl (Nat.le_of_ble_eq_true rfl) rfl ?_
        have e9 : xshf (P m 1) 1107 I m 3 - 1 = nI 3 := by
          simp only [xshf]; rw [if_neg (fun w => hmp w.1), hh, h4]; rfl
        rw [e9]
        have z := loop2 (xu (xshf (P m 1) 1107 I) m 3 (nI 3)) 3 xu_at (by omega) (by simp [xchg, xph, h4]) 369 0 rfl
        rw [xput_0] at z; exact z
      · skip
        exact absurd (nI_le (a := 1107) (b := 1107) (by omega) (by decide)) bq14
    | succ q ih =>
      intro k hk
      refine r_iload_n (pc := 10) hC dX5_changes_10 rfl ?_
      refine r_sipush (pc := 11) (v := 1107) hC dX5_changes_11 (by decide) ?_
      refine r_icmp_ge (pc := 14) (tgt := 39) hC dX5_changes_14 (by decide) (fun bq14 => ?_) (fun bq14 => ?_)
      · skip
        exact absurd bq14 (nI_ge (b := 1107) (by omega) (by decide))
      · skip
        refine r_aload_n (pc := 17) hC dX5_changes_17 rfl ?_
        refine g_Model_past (pc := 18) hC wi_X5_changes_5 wl_X5_changes_13 (by assumption) (c2 := 7) (by assumption) (by decide) dX5_changes_18 ?_
        refine r_iload_n (pc := 21) hC dX5_changes_21 rfl ?_
        refine r_aload_n (pc := 22) hC dX5_changes_22 rfl ?_
        refine g_Model_past (pc := 23) hC wi_X5_changes_5 wl_X5_changes_13 (by assumption) (c2 := 7) (by assumption) (by decide) dX5_changes_23 ?_
        refine r_iload_n (pc := 26) hC dX5_changes_26 rfl ?_
        refine r_sipush (pc := 27) (v := 369) hC dX5_changes_27 (by decide) ?_
        refine r_iadd (pc := 30) hC dX5_changes_30 ?_
        refine r_iald (pc := 31) hC kp (xi_e (k := k + 369) (by simp only [xlit, nI_add]) lp (by omega) (by decide)) dX5_changes_31 ?_
        refine r_iast (pc := 32) hC kp (xi_n (by rw [lp]; omega) (by rw [lp]; decide)) dX5_changes_32 ?_
        refine r_iinc (pc := 33) (v := 1) (L' := [_, _]) hC dX5_changes_33 rfl (by decide) rfl rfl ?_
        refine r_goto (pc := 36) (tgt := 10) hC dX5_changes_36 (by decide) ?_
        rw [xshf_succ]; have z := ih (k + 1) (by omega); rw [nI_succ] at z; exact z
  refine r_aload_n (pc := 0) hC dX5_changes_0 rfl ?_
  refine g_Model_pasts (pc := 1) hC wi_X5_changes_5 wl_X5_changes_22 (by assumption) dX5_changes_1 ?_
  refine r_iconst (pc := 4) (v := 4) hC dX5_changes_4 (by decide) ?_
  refine r_icmp_ne (pc := 5) (tgt := 49) hC dX5_changes_5 (by decide) (fun bq5 => ?_) (fun bq5 => ?_)
  · skip
    refine r_iconst (pc := 49) (v := 0) hC dX5_changes_49 (by decide) ?_
    refine r_istore_n (pc := 50) (L' := [_, _]) hC dX5_changes_50 rfl (Nat.le_of_ble_eq_true rfl) rfl ?_
    have hn4 : h ≠ 4 := fun e => bq5 (by rw [hh, e]; rfl)
    have z := loop2 I h hh (by omega) (by simp [xchg, xph, hn4]) 369 0 rfl
    rw [xput_0] at z; exact z
  · skip
    refine r_iconst (pc := 8) (v := 0) hC dX5_changes_8 (by decide) ?_
    refine r_istore_n (pc := 9) (L' := [_, _]) hC dX5_changes_9 rfl (Nat.le_of_ble_eq_true rfl) rfl ?_
    have z := loop ((nI_eq (b := 4) (by omega) (by decide)).mp (hh.symm.trans bq5)) 1107 0 rfl; rw [xshf_0] at z; exact z
theorem k_X5_changes {X : xF} {G : xG} {cs : Nat × Nat} {μ : xM} {I : xI} {P : xP} {L : List (Option Value)} {pc : Nat} {rest : List Value} {cc : ByteArray} {Ts : List Cond} {own : String} {nL : Nat} {R : Room} (hC : xC X G cc Ts own nL R) {index : Nat} (hG : GoodIn Ts (wsV own index RX5 yX5_changes wsX5_changes)) (hR : rm_X5_changes.frames + 1 ≤ R.frames ∧ 8 + (2 + 11) + rm_X5_changes.locals ≤ R.locals) {m h : Nat} (km : μ.2.1 m = 6) (ks : μ.2.1 (P m 0) = 7) (ls : μ.2.2 (P m 0) = 369) (kp : μ.2.1 (P m 1) = 7) (lp : μ.2.2 (P m 1) = 1476) (hsp : P m 0 ≠ P m 1) (hh : I m 3 = nI h) (hh4 : h ≤ 4) (hW : (rest.map fun v => v.category).sum ≤ 8) (hL : L.length = nL) (hcs : cs.1 ≤ R.cells ∧ cs.2 ≤ R.slots) (d : decode cc pc = .ok (.invokevirtual index, 3)) (kk : xg X G cs μ (xchg m (P m 0) (P m 1) h I) P L (pc + 3) rest) : xg X G cs μ I P L pc (.ref (xZ G + m) :: rest) :=
  r_callV hC (c_X5_changes X.2.1 km ks ls kp lp hsp hh hh4) hG rfl rfl rfl hd_X5_changes hR (by rw [km]; decide) (xe_Model km) rfl rfl rfl hW hL hcs d (by rintro v μ' I' P' ⟨rfl, rfl, rfl, rfl⟩; exact kk)
end
section
/-! what both sides compute, out of the model's array S -/
def inr (v a b : Int32) : Int32 := if v < a then 0 else if b < v then 0 else 1
theorem pick_eq {c d : Prop} {u v : Nat → Int32} (h : u = v) : u = v := h
/-- the set of the torn rows among the first n (f r: 1 if row r is torn) -/
def tset (f : Nat → Int32) : Nat → Int32
  | 0 => 0
  | n + 1 => tset f n ||| f n <<< (nI n &&& 31)
/-- the set of the routes (g k: the rows of route k) to which a row belongs -/
def rset (g : Nat → Int32) (r : Int32) : Nat → Int32
  | 0 => 0
  | n + 1 => rset g r n ||| (g n >>> (r &&& 31) &&& 1) <<< (nI n &&& 31)
/-- a name as a number to the base 32 -/
def nml (f : Nat → Int32) : Nat → Int64
  | 0 => 0
  | n + 1 => 32 * nml f n + (f n - f n / 32 * 32).toInt64
def kindL (f : Nat → Int32) (n : Nat) : Int32 := if nml f n = 4375028 then 1 else if nml f n = 20433497 then 2 else if nml f n = 17794008709 then 3 else if nI n = 1 then 4 else 0
def sLen (S : Nat → Int32) (r : Nat) : Nat := (S (11 + 17 * r)).toNatClampNeg
def sLet (S : Nat → Int32) (r : Nat) : Nat → Int32 := fun j => S (14 + 17 * r + j)
def sWid (S : Nat → Int32) (r : Nat) : Int32 := wsum (sLet S r) (sLen S r)
def sKind (S : Nat → Int32) (r : Nat) : Int32 := kindL (sLet S r) (sLen S r)
def sDrv (S : Nat → Int32) : Nat := (S 3).toNatClampNeg
/-- by what row r would be wrong at a stop -/
def sWrong (S : Nat → Int32) (r : Nat) : Int32 :=
  if S (13 + 17 * r) = 1 then 2
  else if S 3 < 0 ∧ sKind S r ≠ 1 ∧ sKind S r ≠ 2 then 3
  else if 0 ≤ S 3 ∧ S (351 + 3 * sDrv S) >>> (nI r &&& 31) &&& 1 = 0 ∧ sKind S r ≠ 2 then 4
  else if sq (S 8) (sWid S r) ≤ 120 then 0 else 5
theorem sLen_of {S : Nat → Int32} {r n : Nat} (h : S (11 + 17 * r) = nI n) (hn : n < 2 ^ 31) : sLen S r = n := by rw [sLen, h, nI_clamp hn]
/-- the widest row, as the model looks for it: the row, its width -/
def wid1 (w : Nat → Int32) : Nat → Int32 × Int32
  | 0 => (-1000004, 0)
  | n + 1 => if w n ≤ (wid1 w n).2 then wid1 w n else (nI n, w n)
def msum (w : Nat → Int32) : Nat → Int32
  | 0 => 0
  | n + 1 => msum w n + w n
def mcr (r v n : Int32) : Int32 := if inr r (-20) 20 = 0 then -1000001 else if r = 0 then -1000001 else if inr v 1 3 = 0 then -1000001 else if n = 0 then -1000002 else 0
/-- what a row is when it is left at the speed v as the step-th one -/
def wear1 (S : Nat → Int32) (r : Nat) (v : Int32) : Int32 := S (12 + 17 * r) + v
def tear1 (S : Nat → Int32) (r : Nat) (v : Int32) : Int32 := if S (13 + 17 * r) = 1 then 0 else if wear1 S r v ≤ S 9 then 0 else 1
def torn1 (S : Nat → Int32) (r : Nat) (v : Int32) : Int32 := if S (13 + 17 * r) = 1 then 1 else tear1 S r v
def skip1 (g : Nat) (v : Int32) : Prop := v = 3 ∧ g % 2 = 1
end
section
abbrev rm_X5_tornOnes : Room := { frames := 1, cells := 0, slots := 0, locals := 22 }
theorem wl_X5_tornOnes_7 : Cond.fieldLink RX5 7 "HandBlindsModel" "s" "[I" ∈ wsX5_tornOnes := List.mem_of_getElem? (i := 1) (by decide +kernel)
theorem wi_X5_tornOnes_5 : ∀ w ∈ wsX50, w ∈ wsX5_tornOnes := fun _ h => List.mem_cons_of_mem _ (List.mem_append_right _ h)
theorem hd_X5_tornOnes : yX5_tornOnes.cls = RX5 ∧ yX5_tornOnes.cls ≠ "java/lang/invoke/MethodHandle" ∧ yX5_tornOnes.cls ≠ "java/lang/invoke/VarHandle" ∧ (parseMethodDescriptor yX5_tornOnes.desc).map (fun d => d.parameters.length) = some 0 := ⟨rfl, by decide +kernel, by decide +kernel, by decide +kernel⟩
set_option maxHeartbeats 4000000 in
set_option maxRecDepth 100000 in
theorem c_X5_tornOnes (l : Launch) {G : xG} {μ : xM} {I : xI} {P : xP} {m n : Nat} (km : μ.2.1 m = 6) (ks : μ.2.1 (P m 0) = 7) (ls : μ.2.2 (P m 0) = 369) (hn : I (P m 0) 0 = nI n) (hn20 : n ≤ 20) : Ct l yX5_tornOnes wsX5_tornOnes rm_X5_tornOnes G μ I P [.ref (xZ G + m)] 0 0 (fun vv μ' I' P' => vv = some (.int (tset (fun r => I (P m 0) (13 + 17 * r)) n)) ∧ μ' = μ ∧ I' = I ∧ P' = P) := by
  refine Ct.of (cc := cX5_tornOnes) (maxL := 3) (ret := (some .int)) [some (.ref (xZ G + m)), none, none] (by decide) rfl rfl rfl (Nat.le_of_ble_eq_true rfl) ?_
  intro X hC hD h0 _
  have loop : ∀ (q k : Nat), k + q = n → xg X G (0, 0) μ I P [some (.ref (xZ G + m)), some (.int (tset (fun r => I (P m 0) (13 + 17 * r)) k)), some (.int (nI k))] 4 [] := by
    intro q
    induction q with
    | zero =>
      intro k hk
      have ek : k = n := by omega
      subst ek
      refine r_iload_n (pc := 4) hC dX5_tornOnes_4 rfl ?_
      refine r_aload_n (pc := 5) hC dX5_tornOnes_5 rfl ?_
      refine g_Model_s (pc := 6) hC wi_X5_tornOnes_5 wl_X5_tornOnes_7 (by assumption) (c2 := 7) (by assumption) (by decide) dX5_tornOnes_6 ?_
      refine r_iconst (pc := 9) (v := 0) hC dX5_tornOnes_9 (by decide) ?_
      refine r_iald (pc := 10) hC ks (xi_l (k := 0) ls (by decide) (by decide) (by decide)) dX5_tornOnes_10 ?_
      refine r_icmp_ge (pc := 11) (tgt := 31) hC dX5_tornOnes_11 (by decide) (fun bq11 => ?_) (fun bq11 => ?_)
      · skip
        refine r_iload_n (pc := 31) hC dX5_tornOnes_31 rfl ?_
        refine r_iret (pc := 32) hC hD rfl dX5_tornOnes_32 rfl ?_
        exact ⟨rfl, rfl, rfl, rfl⟩
      · skip
        rw [hn] at bq11; exact absurd (nI_le (by omega) (by omega)) bq11
    | succ q ih =>
      intro k hk
      refine r_iload_n (pc := 4) hC dX5_tornOnes_4 rfl ?_
      refine r_aload_n (pc := 5) hC dX5_tornOnes_5 rfl ?_
      refine g_Model_s (pc := 6) hC wi_X5_tornOnes_5 wl_X5_tornOnes_7 (by assumption) (c2 := 7) (by assumption) (by decide) dX5_tornOnes_6 ?_
      refine r_iconst (pc := 9) (v := 0) hC dX5_tornOnes_9 (by decide) ?_
      refine r_iald (pc := 10) hC ks (xi_l (k := 0) ls (by decide) (by decide) (by decide)) dX5_tornOnes_10 ?_
      refine r_icmp_ge (pc := 11) (tgt := 31) hC dX5_tornOnes_11 (by decide) (fun bq11 => ?_) (fun bq11 => ?_)
      · skip
        rw [hn] at bq11; exact absurd bq11 (nI_ge (by omega) (by omega))
      · skip
        refine r_iload_n (pc := 14) hC dX5_tornOnes_14 rfl ?_
        refine r_aload_n (pc := 15) hC dX5_tornOnes_15 rfl ?_
        refine r_iload_n (pc := 16) hC dX5_tornOnes_16 rfl ?_
        refine r_iconst (pc := 17) (v := 2) hC dX5_tornOnes_17 (by decide) ?_
        refine k_X5_of (pc := 18) hC gX5_tornOnes_X5_of ⟨Nat.le_of_ble_eq_true rfl, Nat.le_of_ble_eq_true rfl⟩ (k := 13 + 17 * k) km ks ls (by simp only [xlit, nI_add, pk_mul] <;> exact congrArg nI (by omega)) (by omega) (Nat.le_of_ble_eq_true rfl) rfl ⟨Nat.zero_le _, Nat.zero_le _⟩ dX5_tornOnes_18 ?_
        refine r_iload_n (pc := 21) hC dX5_tornOnes_21 rfl ?_
        refine r_ishl (pc := 22) hC dX5_tornOnes_22 ?_
        refine r_ior (pc := 23) hC dX5_tornOnes_23 ?_
        refine r_istore_n (pc := 24) (L' := [_, _, _]) hC dX5_tornOnes_24 rfl (Nat.le_of_ble_eq_true rfl) rfl ?_
        refine r_iinc (pc := 25) (v := 1) (L' := [_, _, _]) hC dX5_tornOnes_25 rfl (by decide) rfl rfl ?_
        refine r_goto (pc := 28) (tgt := 4) hC dX5_tornOnes_28 (by decide) ?_
        have z := ih (k + 1) (by omega); rw [nI_succ] at z; exact z
  refine r_iconst (pc := 0) (v := 0) hC dX5_tornOnes_0 (by decide) ?_
  refine r_istore_n (pc := 1) (L' := [_, _, _]) hC dX5_tornOnes_1 rfl (Nat.le_of_ble_eq_true rfl) rfl ?_
  refine r_iconst (pc := 2) (v := 0) hC dX5_tornOnes_2 (by decide) ?_
  refine r_istore_n (pc := 3) (L' := [_, _, _]) hC dX5_tornOnes_3 rfl (Nat.le_of_ble_eq_true rfl) rfl ?_
  exact loop n 0 (by omega)
theorem k_X5_tornOnes {X : xF} {G : xG} {cs : Nat × Nat} {μ : xM} {I : xI} {P : xP} {L : List (Option Value)} {pc : Nat} {rest : List Value} {cc : ByteArray} {Ts : List Cond} {own : String} {nL : Nat} {R : Room} (hC : xC X G cc Ts own nL R) {index : Nat} (hG : GoodIn Ts (wsV own index RX5 yX5_tornOnes wsX5_tornOnes)) (hR : rm_X5_tornOnes.frames + 1 ≤ R.frames ∧ 8 + (3 + 11) + rm_X5_tornOnes.locals ≤ R.locals) {m n : Nat} (km : μ.2.1 m = 6) (ks : μ.2.1 (P m 0) = 7) (ls : μ.2.2 (P m 0) = 369) (hn : I (P m 0) 0 = nI n) (hn20 : n ≤ 20) (hW : (rest.map fun v => v.category).sum ≤ 8) (hL : L.length = nL) (hcs : cs.1 ≤ R.cells ∧ cs.2 ≤ R.slots) (d : decode cc pc = .ok (.invokevirtual index, 3)) (kk : xg X G cs μ I P L (pc + 3) (.int (tset (fun r => I (P m 0) (13 + 17 * r)) n) :: rest)) : xg X G cs μ I P L pc (.ref (xZ G + m) :: rest) :=
  r_callV hC (c_X5_tornOnes X.2.1 km ks ls hn hn20) hG rfl rfl rfl hd_X5_tornOnes hR (by rw [km]; decide) (xe_Model km) rfl rfl rfl hW hL hcs d (by rintro v μ' I' P' ⟨rfl, rfl, rfl, rfl⟩; exact kk)
abbrev rm_X5_routesOf : Room := { frames := 1, cells := 0, slots := 0, locals := 22 }
theorem wl_X5_routesOf_7 : Cond.fieldLink RX5 7 "HandBlindsModel" "s" "[I" ∈ wsX5_routesOf := List.mem_of_getElem? (i := 1) (by decide +kernel)
theorem wi_X5_routesOf_5 : ∀ w ∈ wsX50, w ∈ wsX5_routesOf := fun _ h => List.mem_cons_of_mem _ (List.mem_append_right _ h)
theorem hd_X5_routesOf : yX5_routesOf.cls = RX5 ∧ yX5_routesOf.cls ≠ "java/lang/invoke/MethodHandle" ∧ yX5_routesOf.cls ≠ "java/lang/invoke/VarHandle" ∧ (parseMethodDescriptor yX5_routesOf.desc).map (fun d => d.parameters.length) = some 1 := ⟨rfl, by decide +kernel, by decide +kernel, by decide +kernel⟩
set_option maxHeartbeats 4000000 in
set_option maxRecDepth 100000 in
theorem c_X5_routesOf (l : Launch) {G : xG} {μ : xM} {I : xI} {P : xP} {m n : Nat} {r : Int32} (km : μ.2.1 m = 6) (ks : μ.2.1 (P m 0) = 7) (ls : μ.2.2 (P m 0) = 369) (hq : I (P m 0) 2 = nI n) (hq6 : n ≤ 6) : Ct l yX5_routesOf wsX5_routesOf rm_X5_routesOf G μ I P [.ref (xZ G + m), .int r] 0 0 (fun vv μ' I' P' => vv = some (.int (rset (fun k => I (P m 0) (351 + 3 * k)) r n)) ∧ μ' = μ ∧ I' = I ∧ P' = P) := by
  refine Ct.of (cc := cX5_routesOf) (maxL := 4) (ret := (some .int)) [some (.ref (xZ G + m)), some (.int r), none, none] (by decide) rfl rfl rfl (Nat.le_of_ble_eq_true rfl) ?_
  intro X hC hD h0 _
  have loop : ∀ (q k : Nat), k + q = n → xg X G (0, 0) μ I P [some (.ref (xZ G + m)), some (.int r), some (.int (rset (fun k => I (P m 0) (351 + 3 * k)) r k)), some (.int (nI k))] 4 [] := by
    intro q
    induction q with
    | zero =>
      intro k hk
      have ek : k = n := by omega
      subst ek
      refine r_iload_n (pc := 4) hC dX5_routesOf_4 rfl ?_
      refine r_aload_n (pc := 5) hC dX5_routesOf_5 rfl ?_
      refine g_Model_s (pc := 6) hC wi_X5_routesOf_5 wl_X5_routesOf_7 (by assumption) (c2 := 7) (by assumption) (by decide) dX5_routesOf_6 ?_
      refine r_iconst (pc := 9) (v := 2) hC dX5_routesOf_9 (by decide) ?_
      refine r_iald (pc := 10) hC ks (xi_l (k := 2) ls (by decide) (by decide) (by decide)) dX5_routesOf_10 ?_
      refine r_icmp_ge (pc := 11) (tgt := 35) hC dX5_routesOf_11 (by decide) (fun bq11 => ?_) (fun bq11 => ?_)
      · skip
        refine r_iload_n (pc := 35) hC dX5_routesOf_35 rfl ?_
        refine r_iret (pc := 36) hC hD rfl dX5_routesOf_36 rfl ?_
        exact ⟨rfl, rfl, rfl, rfl⟩
      · skip
        rw [hq] at bq11; exact absurd (nI_le (by omega) (by omega)) bq11
    | succ q ih =>
      intro k hk
      refine r_iload_n (pc := 4) hC dX5_routesOf_4 rfl ?_
      refine r_aload_n (pc := 5) hC dX5_routesOf_5 rfl ?_
      refine g_Model_s (pc := 6) hC wi_X5_routesOf_5 wl_X5_routesOf_7 (by assumption) (c2 := 7) (by assumption) (by decide) dX5_routesOf_6 ?_
      refine r_iconst (pc := 9) (v := 2) hC dX5_routesOf_9 (by decide) ?_
      refine r_iald (pc := 10) hC ks (xi_l (k := 2) ls (by decide) (by decide) (by decide)) dX5_routesOf_10 ?_
      refine r_icmp_ge (pc := 11) (tgt := 35) hC dX5_routesOf_11 (by decide) (fun bq11 => ?_) (fun bq11 => ?_)
      · skip
        rw [hq] at bq11; exact absurd bq11 (nI_ge (by omega) (by omega))
      · skip
        refine r_iload_n (pc := 14) hC dX5_routesOf_14 rfl ?_
        refine r_aload_n (pc := 15) hC dX5_routesOf_15 rfl ?_
        refine r_iload_n (pc := 16) hC dX5_routesOf_16 rfl ?_
        refine r_iconst (pc := 17) (v := 0) hC dX5_routesOf_17 (by decide) ?_
        refine k_X5_ofRoute (pc := 18) hC gX5_routesOf_X5_ofRoute ⟨Nat.le_of_ble_eq_true rfl, Nat.le_of_ble_eq_true rfl⟩ (k := 351 + 3 * k) km ks ls (by simp only [xlit, nI_add, pk_mul] <;> exact congrArg nI (by omega)) (by omega) (Nat.le_of_ble_eq_true rfl) rfl ⟨Nat.zero_le _, Nat.zero_le _⟩ dX5_routesOf_18 ?_
        refine r_iload_n (pc := 21) hC dX5_routesOf_21 rfl ?_
        refine r_ishr (pc := 22) hC dX5_routesOf_22 ?_
        refine r_iconst (pc := 23) (v := 1) hC dX5_routesOf_23 (by decide) ?_
        refine r_iand (pc := 24) hC dX5_routesOf_24 ?_
        refine r_iload_n (pc := 25) hC dX5_routesOf_25 rfl ?_
        refine r_ishl (pc := 26) hC dX5_routesOf_26 ?_
        refine r_ior (pc := 27) hC dX5_routesOf_27 ?_
        refine r_istore_n (pc := 28) (L' := [_, _, _, _]) hC dX5_routesOf_28 rfl (Nat.le_of_ble_eq_true rfl) rfl ?_
        refine r_iinc (pc := 29) (v := 1) (L' := [_, _, _, _]) hC dX5_routesOf_29 rfl (by decide) rfl rfl ?_
        refine r_goto (pc := 32) (tgt := 4) hC dX5_routesOf_32 (by decide) ?_
        have z := ih (k + 1) (by omega); rw [nI_succ] at z; exact z
  refine r_iconst (pc := 0) (v := 0) hC dX5_routesOf_0 (by decide) ?_
  refine r_istore_n (pc := 1) (L' := [_, _, _, _]) hC dX5_routesOf_1 rfl (Nat.le_of_ble_eq_true rfl) rfl ?_
  refine r_iconst (pc := 2) (v := 0) hC dX5_routesOf_2 (by decide) ?_
  refine r_istore_n (pc := 3) (L' := [_, _, _, _]) hC dX5_routesOf_3 rfl (Nat.le_of_ble_eq_true rfl) rfl ?_
  exact loop n 0 (by omega)
theorem k_X5_routesOf {X : xF} {G : xG} {cs : Nat × Nat} {μ : xM} {I : xI} {P : xP} {L : List (Option Value)} {pc : Nat} {rest : List Value} {cc : ByteArray} {Ts : List Cond} {own : String} {nL : Nat} {R : Room} (hC : xC X G cc Ts own nL R) {index : Nat} (hG : GoodIn Ts (wsV own index RX5 yX5_routesOf wsX5_routesOf)) (hR : rm_X5_routesOf.frames + 1 ≤ R.frames ∧ 8 + (4 + 11) + rm_X5_routesOf.locals ≤ R.locals) {m n : Nat} {r : Int32} (km : μ.2.1 m = 6) (ks : μ.2.1 (P m 0) = 7) (ls : μ.2.2 (P m 0) = 369) (hq : I (P m 0) 2 = nI n) (hq6 : n ≤ 6) (hW : (rest.map fun v => v.category).sum ≤ 8) (hL : L.length = nL) (hcs : cs.1 ≤ R.cells ∧ cs.2 ≤ R.slots) (d : decode cc pc = .ok (.invokevirtual index, 3)) (kk : xg X G cs μ I P L (pc + 3) (.int (rset (fun k => I (P m 0) (351 + 3 * k)) r n) :: rest)) : xg X G cs μ I P L pc (.int r :: .ref (xZ G + m) :: rest) :=
  r_callV hC (c_X5_routesOf X.2.1 km ks ls hq hq6) hG rfl rfl rfl hd_X5_routesOf hR (by rw [km]; decide) (xe_Model km) rfl rfl rfl hW hL hcs d (by rintro v μ' I' P' ⟨rfl, rfl, rfl, rfl⟩; exact kk)
abbrev rm_X5_isName : Room := { frames := 1, cells := 0, slots := 0, locals := 22 }
theorem wl_X5_isName_34 : Cond.constantLong RX5 34 (32) ∈ wsX5_isName := List.mem_of_getElem? (i := 1) (by decide +kernel)
theorem hd_X5_isName : yX5_isName.cls = RX5 ∧ yX5_isName.cls ≠ "java/lang/invoke/MethodHandle" ∧ yX5_isName.cls ≠ "java/lang/invoke/VarHandle" ∧ (parseMethodDescriptor yX5_isName.desc).map (fun d => d.parameters.length) = some 2 := ⟨rfl, by decide +kernel, by decide +kernel, by decide +kernel⟩
set_option maxHeartbeats 4000000 in
set_option maxRecDepth 100000 in
theorem c_X5_isName (l : Launch) {G : xG} {μ : xM} {I : xI} {P : xP} {m r n : Nat} {row : Int32} {x : Int64} (km : μ.2.1 m = 6) (ks : μ.2.1 (P m 0) = 7) (ls : μ.2.2 (P m 0) = 369) (hr : row = nI r) (hr20 : r < 20) (hl : I (P m 0) (11 + 17 * r) = nI n) (hn14 : n ≤ 14) : Ct l yX5_isName wsX5_isName rm_X5_isName G μ I P [.ref (xZ G + m), .int row, .long x] 0 0 (fun vv μ' I' P' => vv = some (.int (if nml (fun j => I (P m 0) (14 + 17 * r + j)) n = x then 1 else 0)) ∧ μ' = μ ∧ I' = I ∧ P' = P) := by
  subst hr
  refine Ct.of (cc := cX5_isName) (maxL := 7) (ret := (some .boolean)) [some (.ref (xZ G + m)), some (.int (nI r)), some (.long x), none, none, none, none] (by decide) rfl rfl rfl (Nat.le_of_ble_eq_true rfl) ?_
  intro X hC hD h0 _
  have loop : ∀ (q k : Nat), k + q = n → xg X G (0, 0) μ I P [some (.ref (xZ G + m)), some (.int (nI r)), some (.long x), none, some (.long (nml (fun j => I (P m 0) (14 + 17 * r + j)) k)), none, some (.int (nI k))] 6 [] := by
    intro q
    induction q with
    | zero =>
      intro k hk
      have ek : k = n := by omega
      subst ek
      refine r_iload (pc := 6) hC dX5_isName_6 rfl ?_
      refine r_aload_n (pc := 8) hC dX5_isName_8 rfl ?_
      refine r_iload_n (pc := 9) hC dX5_isName_9 rfl ?_
      refine r_iconst (pc := 10) (v := 0) hC dX5_isName_10 (by decide) ?_
      refine k_X5_of (pc := 11) hC gX5_isName_X5_of ⟨Nat.le_of_ble_eq_true rfl, Nat.le_of_ble_eq_true rfl⟩ (k := 11 + 17 * r) km ks ls (by simp only [xlit, nI_add, pk_mul] <;> exact congrArg nI (by omega)) (by omega) (Nat.le_of_ble_eq_true rfl) rfl ⟨Nat.zero_le _, Nat.zero_le _⟩ dX5_isName_11 ?_
      refine r_icmp_ge (pc := 14) (tgt := 45) hC dX5_isName_14 (by decide) (fun bq14 => ?_) (fun bq14 => ?_)
      · skip
        refine r_lload (pc := 45) hC dX5_isName_45 rfl ?_
        refine r_lload_n (pc := 47) hC dX5_isName_47 rfl ?_
        refine r_lcmp (pc := 48) hC dX5_isName_48 ?_
        refine r_if_ne (pc := 49) (tgt := 56) hC dX5_isName_49 (by decide) (fun bq49 => ?_) (fun bq49 => ?_)
        · skip
          refine r_iconst (pc := 56) (v := 0) hC dX5_isName_56 (by decide) ?_
          refine r_iret (pc := 57) hC hD rfl dX5_isName_57 rfl ?_
          rw [lg_cmp_eq] at bq49
          exact ⟨by simp [bq49], rfl, rfl, rfl⟩
        · skip
          refine r_iconst (pc := 52) (v := 1) hC dX5_isName_52 (by decide) ?_
          refine r_goto (pc := 53) (tgt := 57) hC dX5_isName_53 (by decide) ?_
          refine r_iret (pc := 57) hC hD rfl dX5_isName_57 rfl ?_
          rw [lg_cmp_eq] at bq49
          exact ⟨by simp [bq49], rfl, rfl, rfl⟩
      · skip
        rw [hl] at bq14; exact absurd (nI_le (by omega) (by omega)) bq14
    | succ q ih =>
      intro k hk
      refine r_iload (pc := 6) hC dX5_isName_6 rfl ?_
      refine r_aload_n (pc := 8) hC dX5_isName_8 rfl ?_
      refine r_iload_n (pc := 9) hC dX5_isName_9 rfl ?_
      refine r_iconst (pc := 10) (v := 0) hC dX5_isName_10 (by decide) ?_
      refine k_X5_of (pc := 11) hC gX5_isName_X5_of ⟨Nat.le_of_ble_eq_true rfl, Nat.le_of_ble_eq_true rfl⟩ (k := 11 + 17 * r) km ks ls (by simp only [xlit, nI_add, pk_mul] <;> exact congrArg nI (by omega)) (by omega) (Nat.le_of_ble_eq_true rfl) rfl ⟨Nat.zero_le _, Nat.zero_le _⟩ dX5_isName_11 ?_
      refine r_icmp_ge (pc := 14) (tgt := 45) hC dX5_isName_14 (by decide) (fun bq14 => ?_) (fun bq14 => ?_)
      · skip
        rw [hl] at bq14; exact absurd bq14 (nI_ge (by omega) (by omega))
      · skip
        refine r_ldc2 (pc := 17) (v := 32) hC dX5_isName_17 wl_X5_isName_34 ?_
        refine r_lload (pc := 20) hC dX5_isName_20 rfl ?_
        refine r_lmul (pc := 22) hC dX5_isName_22 ?_
        refine r_aload_n (pc := 23) hC dX5_isName_23 rfl ?_
        refine r_iload_n (pc := 24) hC dX5_isName_24 rfl ?_
        refine r_iconst (pc := 25) (v := 3) hC dX5_isName_25 (by decide) ?_
        refine r_iload (pc := 26) hC dX5_isName_26 rfl ?_
        refine r_iadd (pc := 28) hC dX5_isName_28 ?_
        refine k_X5_of (pc := 29) hC gX5_isName_X5_of ⟨Nat.le_of_ble_eq_true rfl, Nat.le_of_ble_eq_true rfl⟩ (k := 14 + 17 * r + k) km ks ls (by simp only [xlit, nI_add, pk_mul] <;> exact congrArg nI (by omega)) (by omega) (Nat.le_of_ble_eq_true rfl) rfl ⟨Nat.zero_le _, Nat.zero_le _⟩ dX5_isName_29 ?_
        refine r_bipush (pc := 32) (v := 32) hC dX5_isName_32 (by decide) ?_
        refine r_irem (pc := 34) hC dX5_isName_34 (by decide) ?_
        refine r_i2l (pc := 35) hC dX5_isName_35 ?_
        refine r_ladd (pc := 36) hC dX5_isName_36 ?_
        refine r_lstore (pc := 37) (L' := [_, _, _, _, _, _, _]) hC dX5_isName_37 rfl (Nat.le_of_ble_eq_true rfl) rfl ?_
        refine r_iinc (pc := 39) (v := 1) (L' := [_, _, _, _, _, _, _]) hC dX5_isName_39 rfl (by decide) rfl rfl ?_
        refine r_goto (pc := 42) (tgt := 6) hC dX5_isName_42 (by decide) ?_
        have z := ih (k + 1) (by omega); rw [nI_succ] at z; exact z
  refine r_lconst (pc := 0) (v := 0) hC dX5_isName_0 rfl ?_
  refine r_lstore (pc := 1) (L' := [_, _, _, _, _, _, _]) hC dX5_isName_1 rfl (Nat.le_of_ble_eq_true rfl) rfl ?_
  refine r_iconst (pc := 3) (v := 0) hC dX5_isName_3 (by decide) ?_
  refine r_istore (pc := 4) (L' := [_, _, _, _, _, _, _]) hC dX5_isName_4 rfl (Nat.le_of_ble_eq_true rfl) rfl ?_
  exact loop n 0 (by omega)
theorem k_X5_isName {X : xF} {G : xG} {cs : Nat × Nat} {μ : xM} {I : xI} {P : xP} {L : List (Option Value)} {pc : Nat} {rest : List Value} {cc : ByteArray} {Ts : List Cond} {own : String} {nL : Nat} {R : Room} (hC : xC X G cc Ts own nL R) {index : Nat} (hG : GoodIn Ts (wsV own index RX5 yX5_isName wsX5_isName)) (hR : rm_X5_isName.frames + 1 ≤ R.frames ∧ 8 + (7 + 11) + rm_X5_isName.locals ≤ R.locals) {m r n : Nat} {row : Int32} {x : Int64} (km : μ.2.1 m = 6) (ks : μ.2.1 (P m 0) = 7) (ls : μ.2.2 (P m 0) = 369) (hr : row = nI r) (hr20 : r < 20) (hl : I (P m 0) (11 + 17 * r) = nI n) (hn14 : n ≤ 14) (hW : (rest.map fun v => v.category).sum ≤ 8) (hL : L.length = nL) (hcs : cs.1 ≤ R.cells ∧ cs.2 ≤ R.slots) (d : decode cc pc = .ok (.invokevirtual index, 3)) (kk : xg X G cs μ I P L (pc + 3) (.int (if nml (fun j => I (P m 0) (14 + 17 * r + j)) n = x then 1 else 0) :: rest)) : xg X G cs μ I P L pc (.long x :: .int row :: .ref (xZ G + m) :: rest) :=
  r_callV hC (c_X5_isName X.2.1 km ks ls hr hr20 hl hn14) hG rfl rfl rfl hd_X5_isName hR (by rw [km]; decide) (xe_Model km) rfl rfl rfl hW hL hcs d (by rintro v μ' I' P' ⟨rfl, rfl, rfl, rfl⟩; exact kk)
abbrev rm_X5_kind : Room := { frames := 2, cells := 0, slots := 0, locals := 48 }
theorem wl_X5_kind_36 : Cond.constantLong RX5 36 (4375028) ∈ wsX5_kind := List.mem_of_getElem? (i := 1) (by decide +kernel)
theorem wl_X5_kind_42 : Cond.constantLong RX5 42 (20433497) ∈ wsX5_kind := List.mem_of_getElem? (i := 2) (by decide +kernel)
theorem wl_X5_kind_44 : Cond.constantLong RX5 44 (17794008709) ∈ wsX5_kind := List.mem_of_getElem? (i := 3) (by decide +kernel)
theorem hd_X5_kind : yX5_kind.cls = RX5 ∧ yX5_kind.cls ≠ "java/lang/invoke/MethodHandle" ∧ yX5_kind.cls ≠ "java/lang/invoke/VarHandle" ∧ (parseMethodDescriptor yX5_kind.desc).map (fun d => d.parameters.length) = some 1 := ⟨rfl, by decide +kernel, by decide +kernel, by decide +kernel⟩
set_option maxHeartbeats 4000000 in
set_option maxRecDepth 100000 in
theorem c_X5_kind (l : Launch) {G : xG} {μ : xM} {I : xI} {P : xP} {m r n : Nat} {row : Int32} (km : μ.2.1 m = 6) (ks : μ.2.1 (P m 0) = 7) (ls : μ.2.2 (P m 0) = 369) (hr : row = nI r) (hr20 : r < 20) (hl : I (P m 0) (11 + 17 * r) = nI n) (hn14 : n ≤ 14) : Ct l yX5_kind wsX5_kind rm_X5_kind G μ I P [.ref (xZ G + m), .int row] 0 0 (fun vv μ' I' P' => vv = some (.int (kindL (fun j => I (P m 0) (14 + 17 * r + j)) n)) ∧ μ' = μ ∧ I' = I ∧ P' = P) := by
  subst hr
  refine Ct.of (cc := cX5_kind) (maxL := 2) (ret := (some .int)) [some (.ref (xZ G + m)), some (.int (nI r))] (by decide) rfl rfl rfl (Nat.le_of_ble_eq_true rfl) ?_
  intro X hC hD h0 _
  refine r_aload_n (pc := 0) hC dX5_kind_0 rfl ?_
  refine r_iload_n (pc := 1) hC dX5_kind_1 rfl ?_
  refine r_ldc2 (pc := 2) (v := 4375028) hC dX5_kind_2 wl_X5_kind_36 ?_
  refine k_X5_isName (pc := 5) hC gX5_kind_X5_isName ⟨Nat.le_of_ble_eq_true rfl, Nat.le_of_ble_eq_true rfl⟩ km ks ls rfl hr20 hl hn14 (Nat.le_of_ble_eq_true rfl) rfl ⟨Nat.zero_le _, Nat.zero_le _⟩ dX5_kind_5 ?_
  refine r_if_eq (pc := 8) (tgt := 13) hC dX5_kind_8 (by decide) (fun bq8 => ?_) (fun bq8 => ?_)
  · skip
    refine r_aload_n (pc := 13) hC dX5_kind_13 rfl ?_
    refine r_iload_n (pc := 14) hC dX5_kind_14 rfl ?_
    refine r_ldc2 (pc := 15) (v := 20433497) hC dX5_kind_15 wl_X5_kind_42 ?_
    refine k_X5_isName (pc := 18) hC gX5_kind_X5_isName ⟨Nat.le_of_ble_eq_true rfl, Nat.le_of_ble_eq_true rfl⟩ km ks ls rfl hr20 hl hn14 (Nat.le_of_ble_eq_true rfl) rfl ⟨Nat.zero_le _, Nat.zero_le _⟩ dX5_kind_18 ?_
    refine r_if_eq (pc := 21) (tgt := 26) hC dX5_kind_21 (by decide) (fun bq21 => ?_) (fun bq21 => ?_)
    · skip
      refine r_aload_n (pc := 26) hC dX5_kind_26 rfl ?_
      refine r_iload_n (pc := 27) hC dX5_kind_27 rfl ?_
      refine r_ldc2 (pc := 28) (v := 17794008709) hC dX5_kind_28 wl_X5_kind_44 ?_
      refine k_X5_isName (pc := 31) hC gX5_kind_X5_isName ⟨Nat.le_of_ble_eq_true rfl, Nat.le_of_ble_eq_true rfl⟩ km ks ls rfl hr20 hl hn14 (Nat.le_of_ble_eq_true rfl) rfl ⟨Nat.zero_le _, Nat.zero_le _⟩ dX5_kind_31 ?_
      refine r_if_eq (pc := 34) (tgt := 39) hC dX5_kind_34 (by decide) (fun bq34 => ?_) (fun bq34 => ?_)
      · skip
        refine r_aload_n (pc := 39) hC dX5_kind_39 rfl ?_
        refine r_iload_n (pc := 40) hC dX5_kind_40 rfl ?_
        refine r_iconst (pc := 41) (v := 0) hC dX5_kind_41 (by decide) ?_
        refine k_X5_of (pc := 42) hC gX5_kind_X5_of ⟨Nat.le_of_ble_eq_true rfl, Nat.le_of_ble_eq_true rfl⟩ (k := 11 + 17 * r) km ks ls (by simp only [xlit, nI_add, pk_mul] <;> exact congrArg nI (by omega)) (by omega) (Nat.le_of_ble_eq_true rfl) rfl ⟨Nat.zero_le _, Nat.zero_le _⟩ dX5_kind_42 ?_
        refine r_iconst (pc := 45) (v := 1) hC dX5_kind_45 (by decide) ?_
        rw [hl]
        refine r_icmp_ne (pc := 46) (tgt := 53) hC dX5_kind_46 (by decide) (fun bq46 => ?_) (fun bq46 => ?_)
        · skip
          refine r_iconst (pc := 53) (v := 0) hC dX5_kind_53 (by decide) ?_
          refine r_iret (pc := 54) hC hD rfl dX5_kind_54 rfl ?_
          exact ⟨by simp_all [kindL], rfl, rfl, rfl⟩
        · skip
          refine r_iconst (pc := 49) (v := 4) hC dX5_kind_49 (by decide) ?_
          refine r_goto (pc := 50) (tgt := 54) hC dX5_kind_50 (by decide) ?_
          refine r_iret (pc := 54) hC hD rfl dX5_kind_54 rfl ?_
          exact ⟨by simp_all [kindL], rfl, rfl, rfl⟩
      · skip
        refine r_iconst (pc := 37) (v := 3) hC dX5_kind_37 (by decide) ?_
        refine r_iret (pc := 38) hC hD rfl dX5_kind_38 rfl ?_
        exact ⟨by simp_all [kindL], rfl, rfl, rfl⟩
    · skip
      refine r_iconst (pc := 24) (v := 2) hC dX5_kind_24 (by decide) ?_
      refine r_iret (pc := 25) hC hD rfl dX5_kind_25 rfl ?_
      exact ⟨by simp_all [kindL], rfl, rfl, rfl⟩
  · skip
    refine r_iconst (pc := 11) (v := 1) hC dX5_kind_11 (by decide) ?_
    refine r_iret (pc := 12) hC hD rfl dX5_kind_12 rfl ?_
    exact ⟨by simp_all [kindL], rfl, rfl, rfl⟩
theorem k_X5_kind {X : xF} {G : xG} {cs : Nat × Nat} {μ : xM} {I : xI} {P : xP} {L : List (Option Value)} {pc : Nat} {rest : List Value} {cc : ByteArray} {Ts : List Cond} {own : String} {nL : Nat} {R : Room} (hC : xC X G cc Ts own nL R) {index : Nat} (hG : GoodIn Ts (wsV own index RX5 yX5_kind wsX5_kind)) (hR : rm_X5_kind.frames + 1 ≤ R.frames ∧ 8 + (2 + 11) + rm_X5_kind.locals ≤ R.locals) {m r n : Nat} {row : Int32} (km : μ.2.1 m = 6) (ks : μ.2.1 (P m 0) = 7) (ls : μ.2.2 (P m 0) = 369) (hr : row = nI r) (hr20 : r < 20) (hl : I (P m 0) (11 + 17 * r) = nI n) (hn14 : n ≤ 14) (hW : (rest.map fun v => v.category).sum ≤ 8) (hL : L.length = nL) (hcs : cs.1 ≤ R.cells ∧ cs.2 ≤ R.slots) (d : decode cc pc = .ok (.invokevirtual index, 3)) (kk : xg X G cs μ I P L (pc + 3) (.int (kindL (fun j => I (P m 0) (14 + 17 * r + j)) n) :: rest)) : xg X G cs μ I P L pc (.int row :: .ref (xZ G + m) :: rest) :=
  r_callV hC (c_X5_kind X.2.1 km ks ls hr hr20 hl hn14) hG rfl rfl rfl hd_X5_kind hR (by rw [km]; decide) (xe_Model km) rfl rfl rfl hW hL hcs d (by rintro v μ' I' P' ⟨rfl, rfl, rfl, rfl⟩; exact kk)
abbrev rm_X5_mayCrank : Room := { frames := 1, cells := 0, slots := 0, locals := 22 }
theorem wl_X5_mayCrank_92 : Cond.constant RX5 92 (-1000001) ∈ wsX5_mayCrank := List.mem_of_getElem? (i := 1) (by decide +kernel)
theorem wl_X5_mayCrank_7 : Cond.fieldLink RX5 7 "HandBlindsModel" "s" "[I" ∈ wsX5_mayCrank := List.mem_of_getElem? (i := 2) (by decide +kernel)
theorem wi_X5_mayCrank_5 : ∀ w ∈ wsX50, w ∈ wsX5_mayCrank := fun _ h => List.mem_cons_of_mem _ (List.mem_append_right _ h)
theorem wl_X5_mayCrank_101 : Cond.constant RX5 101 (-1000002) ∈ wsX5_mayCrank := List.mem_of_getElem? (i := 3) (by decide +kernel)
theorem hd_X5_mayCrank : yX5_mayCrank.cls = RX5 ∧ yX5_mayCrank.cls ≠ "java/lang/invoke/MethodHandle" ∧ yX5_mayCrank.cls ≠ "java/lang/invoke/VarHandle" ∧ (parseMethodDescriptor yX5_mayCrank.desc).map (fun d => d.parameters.length) = some 2 := ⟨rfl, by decide +kernel, by decide +kernel, by decide +kernel⟩
set_option maxHeartbeats 4000000 in
set_option maxRecDepth 100000 in
theorem c_X5_mayCrank (l : Launch) {G : xG} {μ : xM} {I : xI} {P : xP} {m : Nat} {r v : Int32} (km : μ.2.1 m = 6) (ks : μ.2.1 (P m 0) = 7) (ls : μ.2.2 (P m 0) = 369) : Ct l yX5_mayCrank wsX5_mayCrank rm_X5_mayCrank G μ I P [.ref (xZ G + m), .int r, .int v] 0 0 (fun vv μ' I' P' => vv = some (.int (mcr r v (I (P m 0) 0))) ∧ μ' = μ ∧ I' = I ∧ P' = P) := by
  refine Ct.of (cc := cX5_mayCrank) (maxL := 3) (ret := (some .int)) [some (.ref (xZ G + m)), some (.int r), some (.int v)] (by decide) rfl rfl rfl (Nat.le_of_ble_eq_true rfl) ?_
  intro X hC hD h0 _
  refine r_iload_n (pc := 0) hC dX5_mayCrank_0 rfl ?_
  refine r_bipush (pc := 1) (v := -20) hC dX5_mayCrank_1 (by decide) ?_
  refine r_bipush (pc := 3) (v := 20) hC dX5_mayCrank_3 (by decide) ?_
  refine k_X5_in (pc := 5) hC gX5_mayCrank_X5_in ⟨Nat.le_of_ble_eq_true rfl, Nat.le_of_ble_eq_true rfl⟩  (Nat.le_of_ble_eq_true rfl) rfl ⟨Nat.zero_le _, Nat.zero_le _⟩ dX5_mayCrank_5 ?_
  refine r_if_eq (pc := 8) (tgt := 24) hC dX5_mayCrank_8 (by decide) (fun bq8 => ?_) (fun bq8 => ?_)
  · skip
    refine r_ldc (pc := 24) (v := -1000001) hC dX5_mayCrank_24 wl_X5_mayCrank_92 ?_
    refine r_goto (pc := 26) (tgt := 44) hC dX5_mayCrank_26 (by decide) ?_
    refine r_iret (pc := 44) hC hD rfl dX5_mayCrank_44 rfl ?_
    exact ⟨by simp_all [mcr, inr], rfl, rfl, rfl⟩
  · skip
    refine r_iload_n (pc := 11) hC dX5_mayCrank_11 rfl ?_
    refine r_if_eq (pc := 12) (tgt := 24) hC dX5_mayCrank_12 (by decide) (fun bq12 => ?_) (fun bq12 => ?_)
    · skip
      refine r_ldc (pc := 24) (v := -1000001) hC dX5_mayCrank_24 wl_X5_mayCrank_92 ?_
      refine r_goto (pc := 26) (tgt := 44) hC dX5_mayCrank_26 (by decide) ?_
      refine r_iret (pc := 44) hC hD rfl dX5_mayCrank_44 rfl ?_
      exact ⟨by simp_all [mcr, inr], rfl, rfl, rfl⟩
    · skip
      refine r_iload_n (pc := 15) hC dX5_mayCrank_15 rfl ?_
      refine r_iconst (pc := 16) (v := 1) hC dX5_mayCrank_16 (by decide) ?_
      refine r_iconst (pc := 17) (v := 3) hC dX5_mayCrank_17 (by decide) ?_
      refine k_X5_in (pc := 18) hC gX5_mayCrank_X5_in ⟨Nat.le_of_ble_eq_true rfl, Nat.le_of_ble_eq_true rfl⟩  (Nat.le_of_ble_eq_true rfl) rfl ⟨Nat.zero_le _, Nat.zero_le _⟩ dX5_mayCrank_18 ?_
      refine r_if_ne (pc := 21) (tgt := 29) hC dX5_mayCrank_21 (by decide) (fun bq21 => ?_) (fun bq21 => ?_)
      · skip
        refine r_aload_n (pc := 29) hC dX5_mayCrank_29 rfl ?_
        refine g_Model_s (pc := 30) hC wi_X5_mayCrank_5 wl_X5_mayCrank_7 (by assumption) (c2 := 7) (by assumption) (by decide) dX5_mayCrank_30 ?_
        refine r_iconst (pc := 33) (v := 0) hC dX5_mayCrank_33 (by decide) ?_
        refine r_iald (pc := 34) hC ks (xi_l (k := 0) ls (by decide) (by decide) (by decide)) dX5_mayCrank_34 ?_
        refine r_if_ne (pc := 35) (tgt := 43) hC dX5_mayCrank_35 (by decide) (fun bq35 => ?_) (fun bq35 => ?_)
        · skip
          refine r_iconst (pc := 43) (v := 0) hC dX5_mayCrank_43 (by decide) ?_
          refine r_iret (pc := 44) hC hD rfl dX5_mayCrank_44 rfl ?_
          exact ⟨by simp_all [mcr, inr], rfl, rfl, rfl⟩
        · skip
          refine r_ldc (pc := 38) (v := -1000002) hC dX5_mayCrank_38 wl_X5_mayCrank_101 ?_
          refine r_goto (pc := 40) (tgt := 44) hC dX5_mayCrank_40 (by decide) ?_
          refine r_iret (pc := 44) hC hD rfl dX5_mayCrank_44 rfl ?_
          exact ⟨by simp_all [mcr, inr], rfl, rfl, rfl⟩
      · skip
        refine r_ldc (pc := 24) (v := -1000001) hC dX5_mayCrank_24 wl_X5_mayCrank_92 ?_
        refine r_goto (pc := 26) (tgt := 44) hC dX5_mayCrank_26 (by decide) ?_
        refine r_iret (pc := 44) hC hD rfl dX5_mayCrank_44 rfl ?_
        exact ⟨by simp_all [mcr, inr], rfl, rfl, rfl⟩
theorem k_X5_mayCrank {X : xF} {G : xG} {cs : Nat × Nat} {μ : xM} {I : xI} {P : xP} {L : List (Option Value)} {pc : Nat} {rest : List Value} {cc : ByteArray} {Ts : List Cond} {own : String} {nL : Nat} {R : Room} (hC : xC X G cc Ts own nL R) {index : Nat} (hG : GoodIn Ts (wsV own index RX5 yX5_mayCrank wsX5_mayCrank)) (hR : rm_X5_mayCrank.frames + 1 ≤ R.frames ∧ 8 + (3 + 11) + rm_X5_mayCrank.locals ≤ R.locals) {m : Nat} {r v : Int32} (km : μ.2.1 m = 6) (ks : μ.2.1 (P m 0) = 7) (ls : μ.2.2 (P m 0) = 369) (hW : (rest.map fun v => v.category).sum ≤ 8) (hL : L.length = nL) (hcs : cs.1 ≤ R.cells ∧ cs.2 ≤ R.slots) (d : decode cc pc = .ok (.invokevirtual index, 3)) (kk : xg X G cs μ I P L (pc + 3) (.int (mcr r v (I (P m 0) 0)) :: rest)) : xg X G cs μ I P L pc (.int v :: .int r :: .ref (xZ G + m) :: rest) :=
  r_callV hC (c_X5_mayCrank X.2.1 km ks ls) hG rfl rfl rfl hd_X5_mayCrank hR (by rw [km]; decide) (xe_Model km) rfl rfl rfl hW hL hcs d (by rintro v μ' I' P' ⟨rfl, rfl, rfl, rfl⟩; exact kk)
abbrev rm_X5_widest : Room := { frames := 2, cells := 0, slots := 0, locals := 45 }
theorem wl_X5_widest_7 : Cond.fieldLink RX5 7 "HandBlindsModel" "s" "[I" ∈ wsX5_widest := List.mem_of_getElem? (i := 2) (by decide +kernel)
theorem wi_X5_widest_5 : ∀ w ∈ wsX50, w ∈ wsX5_widest := fun _ h => List.mem_cons_of_mem _ (List.mem_append_right _ h)
theorem wl_X5_widest_100 : Cond.constant RX5 100 (-1000004) ∈ wsX5_widest := List.mem_of_getElem? (i := 1) (by decide +kernel)
theorem hd_X5_widest : yX5_widest.cls = RX5 ∧ yX5_widest.cls ≠ "java/lang/invoke/MethodHandle" ∧ yX5_widest.cls ≠ "java/lang/invoke/VarHandle" ∧ (parseMethodDescriptor yX5_widest.desc).map (fun d => d.parameters.length) = some 0 := ⟨rfl, by decide +kernel, by decide +kernel, by decide +kernel⟩
set_option maxHeartbeats 4000000 in
set_option maxRecDepth 100000 in
theorem c_X5_widest (l : Launch) {G : xG} {μ : xM} {I : xI} {P : xP} {m n : Nat} (km : μ.2.1 m = 6) (ks : μ.2.1 (P m 0) = 7) (ls : μ.2.2 (P m 0) = 369) (hn : I (P m 0) 0 = nI n) (hn20 : n ≤ 20) (hl : ∀ r, r < n → ∃ q, I (P m 0) (11 + 17 * r) = nI q ∧ q ≤ 14) : Ct l yX5_widest wsX5_widest rm_X5_widest G μ I P [.ref (xZ G + m)] 0 0 (fun vv μ' I' P' => vv = some (.int ((wid1 (sWid (I (P m 0))) n).1)) ∧ μ' = μ ∧ I' = I ∧ P' = P) := by
  refine Ct.of (cc := cX5_widest) (maxL := 4) (ret := (some .int)) [some (.ref (xZ G + m)), none, none, none] (by decide) rfl rfl rfl (Nat.le_of_ble_eq_true rfl) ?_
  intro X hC hD h0 _
  have loop : ∀ (q k : Nat), k + q = n → xg X G (0, 0) μ I P [some (.ref (xZ G + m)), some (.int (wid1 (sWid (I (P m 0))) k).1), some (.int (wid1 (sWid (I (P m 0))) k).2), some (.int (nI k))] 7 [] := by
    intro q
    induction q with
    | zero =>
      intro k hk
      have ek : k = n := by omega
      subst ek
      refine r_iload_n (pc := 7) hC dX5_widest_7 rfl ?_
      refine r_aload_n (pc := 8) hC dX5_widest_8 rfl ?_
      refine g_Model_s (pc := 9) hC wi_X5_widest_5 wl_X5_widest_7 (by assumption) (c2 := 7) (by assumption) (by decide) dX5_widest_9 ?_
      refine r_iconst (pc := 12) (v := 0) hC dX5_widest_12 (by decide) ?_
      refine r_iald (pc := 13) hC ks (xi_l (k := 0) ls (by decide) (by decide) (by decide)) dX5_widest_13 ?_
      refine r_icmp_ge (pc := 14) (tgt := 57) hC dX5_widest_14 (by decide) (fun bq14 => ?_) (fun bq14 => ?_)
      · skip
        refine r_iload_n (pc := 57) hC dX5_widest_57 rfl ?_
        refine r_iret (pc := 58) hC hD rfl dX5_widest_58 rfl ?_
        exact ⟨rfl, rfl, rfl, rfl⟩
      · skip
        rw [hn] at bq14; exact absurd (nI_le (by omega) (by omega)) bq14
    | succ q ih =>
      intro k hk
      obtain ⟨qk, hlk, hk14⟩ := hl k (by omega)
      have hsw : sWid (I (P m 0)) k = wsum (fun j => I (P m 0) (14 + 17 * k + j)) qk := by rw [sWid, sLen_of hlk (by omega)]; rfl
      refine r_iload_n (pc := 7) hC dX5_widest_7 rfl ?_
      refine r_aload_n (pc := 8) hC dX5_widest_8 rfl ?_
      refine g_Model_s (pc := 9) hC wi_X5_widest_5 wl_X5_widest_7 (by assumption) (c2 := 7) (by assumption) (by decide) dX5_widest_9 ?_
      refine r_iconst (pc := 12) (v := 0) hC dX5_widest_12 (by decide) ?_
      refine r_iald (pc := 13) hC ks (xi_l (k := 0) ls (by decide) (by decide) (by decide)) dX5_widest_13 ?_
      refine r_icmp_ge (pc := 14) (tgt := 57) hC dX5_widest_14 (by decide) (fun bq14 => ?_) (fun bq14 => ?_)
      · skip
        rw [hn] at bq14; exact absurd bq14 (nI_ge (by omega) (by omega))
      · skip
        refine r_aload_n (pc := 17) hC dX5_widest_17 rfl ?_
        refine r_iload_n (pc := 18) hC dX5_widest_18 rfl ?_
        refine k_X5_width (pc := 19) hC gX5_widest_X5_width ⟨Nat.le_of_ble_eq_true rfl, Nat.le_of_ble_eq_true rfl⟩ km ks ls rfl (by omega) hlk hk14 (Nat.le_of_ble_eq_true rfl) rfl ⟨Nat.zero_le _, Nat.zero_le _⟩ dX5_widest_19 ?_
        refine r_iload_n (pc := 22) hC dX5_widest_22 rfl ?_
        refine r_icmp_le (pc := 23) (tgt := 30) hC dX5_widest_23 (by decide) (fun bq23 => ?_) (fun bq23 => ?_)
        · skip
          refine r_iload_n (pc := 30) hC dX5_widest_30 rfl ?_
          refine r_istore_n (pc := 31) (L' := [_, _, _, _]) hC dX5_widest_31 rfl (Nat.le_of_ble_eq_true rfl) rfl ?_
          refine r_aload_n (pc := 32) hC dX5_widest_32 rfl ?_
          refine r_iload_n (pc := 33) hC dX5_widest_33 rfl ?_
          refine k_X5_width (pc := 34) hC gX5_widest_X5_width ⟨Nat.le_of_ble_eq_true rfl, Nat.le_of_ble_eq_true rfl⟩ km ks ls rfl (by omega) hlk hk14 (Nat.le_of_ble_eq_true rfl) rfl ⟨Nat.zero_le _, Nat.zero_le _⟩ dX5_widest_34 ?_
          refine r_iload_n (pc := 37) hC dX5_widest_37 rfl ?_
          refine r_icmp_le (pc := 38) (tgt := 49) hC dX5_widest_38 (by decide) (fun bq38 => ?_) (fun bq38 => ?_)
          · skip
            refine r_iload_n (pc := 49) hC dX5_widest_49 rfl ?_
            refine r_istore_n (pc := 50) (L' := [_, _, _, _]) hC dX5_widest_50 rfl (Nat.le_of_ble_eq_true rfl) rfl ?_
            refine r_iinc (pc := 51) (v := 1) (L' := [_, _, _, _]) hC dX5_widest_51 rfl (by decide) rfl rfl ?_
            refine r_goto (pc := 54) (tgt := 7) hC dX5_widest_54 (by decide) ?_
            have z := ih (k + 1) (by omega)
            rw [nI_succ, wid1, hsw, if_pos bq23] at z
            exact z
          · skip
            refine r_aload_n (pc := 41) hC dX5_widest_41 rfl ?_
            refine r_iload_n (pc := 42) hC dX5_widest_42 rfl ?_
            refine k_X5_width (pc := 43) hC gX5_widest_X5_width ⟨Nat.le_of_ble_eq_true rfl, Nat.le_of_ble_eq_true rfl⟩ km ks ls rfl (by omega) hlk hk14 (Nat.le_of_ble_eq_true rfl) rfl ⟨Nat.zero_le _, Nat.zero_le _⟩ dX5_widest_43 ?_
            refine r_goto (pc := 46) (tgt := 50) hC dX5_widest_46 (by decide) ?_
            refine r_istore_n (pc := 50) (L' := [_, _, _, _]) hC dX5_widest_50 rfl (Nat.le_of_ble_eq_true rfl) rfl ?_
            refine r_iinc (pc := 51) (v := 1) (L' := [_, _, _, _]) hC dX5_widest_51 rfl (by decide) rfl rfl ?_
            refine r_goto (pc := 54) (tgt := 7) hC dX5_widest_54 (by decide) ?_
            exact absurd bq23 bq38
        · skip
          refine r_iload_n (pc := 26) hC dX5_widest_26 rfl ?_
          refine r_goto (pc := 27) (tgt := 31) hC dX5_widest_27 (by decide) ?_
          refine r_istore_n (pc := 31) (L' := [_, _, _, _]) hC dX5_widest_31 rfl (Nat.le_of_ble_eq_true rfl) rfl ?_
          refine r_aload_n (pc := 32) hC dX5_widest_32 rfl ?_
          refine r_iload_n (pc := 33) hC dX5_widest_33 rfl ?_
          refine k_X5_width (pc := 34) hC gX5_widest_X5_width ⟨Nat.le_of_ble_eq_true rfl, Nat.le_of_ble_eq_true rfl⟩ km ks ls rfl (by omega) hlk hk14 (Nat.le_of_ble_eq_true rfl) rfl ⟨Nat.zero_le _, Nat.zero_le _⟩ dX5_widest_34 ?_
          refine r_iload_n (pc := 37) hC dX5_widest_37 rfl ?_
          refine r_icmp_le (pc := 38) (tgt := 49) hC dX5_widest_38 (by decide) (fun bq38 => ?_) (fun bq38 => ?_)
          · skip
            refine r_iload_n (pc := 49) hC dX5_widest_49 rfl ?_
            refine r_istore_n (pc := 50) (L' := [_, _, _, _]) hC dX5_widest_50 rfl (Nat.le_of_ble_eq_true rfl) rfl ?_
            refine r_iinc (pc := 51) (v := 1) (L' := [_, _, _, _]) hC dX5_widest_51 rfl (by decide) rfl rfl ?_
            refine r_goto (pc := 54) (tgt := 7) hC dX5_widest_54 (by decide) ?_
            exact absurd bq38 bq23
          · skip
            refine r_aload_n (pc := 41) hC dX5_widest_41 rfl ?_
            refine r_iload_n (pc := 42) hC dX5_widest_42 rfl ?_
            refine k_X5_width (pc := 43) hC gX5_widest_X5_width ⟨Nat.le_of_ble_eq_true rfl, Nat.le_of_ble_eq_true rfl⟩ km ks ls rfl (by omega) hlk hk14 (Nat.le_of_ble_eq_true rfl) rfl ⟨Nat.zero_le _, Nat.zero_le _⟩ dX5_widest_43 ?_
            refine r_goto (pc := 46) (tgt := 50) hC dX5_widest_46 (by decide) ?_
            refine r_istore_n (pc := 50) (L' := [_, _, _, _]) hC dX5_widest_50 rfl (Nat.le_of_ble_eq_true rfl) rfl ?_
            refine r_iinc (pc := 51) (v := 1) (L' := [_, _, _, _]) hC dX5_widest_51 rfl (by decide) rfl rfl ?_
            refine r_goto (pc := 54) (tgt := 7) hC dX5_widest_54 (by decide) ?_
            have z := ih (k + 1) (by omega)
            rw [nI_succ, wid1, hsw, if_neg bq23] at z
            exact z
  refine r_ldc (pc := 0) (v := -1000004) hC dX5_widest_0 wl_X5_widest_100 ?_
  refine r_istore_n (pc := 2) (L' := [_, _, _, _]) hC dX5_widest_2 rfl (Nat.le_of_ble_eq_true rfl) rfl ?_
  refine r_iconst (pc := 3) (v := 0) hC dX5_widest_3 (by decide) ?_
  refine r_istore_n (pc := 4) (L' := [_, _, _, _]) hC dX5_widest_4 rfl (Nat.le_of_ble_eq_true rfl) rfl ?_
  refine r_iconst (pc := 5) (v := 0) hC dX5_widest_5 (by decide) ?_
  refine r_istore_n (pc := 6) (L' := [_, _, _, _]) hC dX5_widest_6 rfl (Nat.le_of_ble_eq_true rfl) rfl ?_
  exact loop n 0 (by omega)
theorem k_X5_widest {X : xF} {G : xG} {cs : Nat × Nat} {μ : xM} {I : xI} {P : xP} {L : List (Option Value)} {pc : Nat} {rest : List Value} {cc : ByteArray} {Ts : List Cond} {own : String} {nL : Nat} {R : Room} (hC : xC X G cc Ts own nL R) {index : Nat} (hG : GoodIn Ts (wsV own index RX5 yX5_widest wsX5_widest)) (hR : rm_X5_widest.frames + 1 ≤ R.frames ∧ 8 + (4 + 11) + rm_X5_widest.locals ≤ R.locals) {m n : Nat} (km : μ.2.1 m = 6) (ks : μ.2.1 (P m 0) = 7) (ls : μ.2.2 (P m 0) = 369) (hn : I (P m 0) 0 = nI n) (hn20 : n ≤ 20) (hl : ∀ r, r < n → ∃ q, I (P m 0) (11 + 17 * r) = nI q ∧ q ≤ 14) (hW : (rest.map fun v => v.category).sum ≤ 8) (hL : L.length = nL) (hcs : cs.1 ≤ R.cells ∧ cs.2 ≤ R.slots) (d : decode cc pc = .ok (.invokevirtual index, 3)) (kk : xg X G cs μ I P L (pc + 3) (.int ((wid1 (sWid (I (P m 0))) n).1) :: rest)) : xg X G cs μ I P L pc (.ref (xZ G + m) :: rest) :=
  r_callV hC (c_X5_widest X.2.1 km ks ls hn hn20 hl) hG rfl rfl rfl hd_X5_widest hR (by rw [km]; decide) (xe_Model km) rfl rfl rfl hW hL hcs d (by rintro v μ' I' P' ⟨rfl, rfl, rfl, rfl⟩; exact kk)
end
