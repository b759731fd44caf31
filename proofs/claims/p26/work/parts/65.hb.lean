theorem inr_03 {w : Int32} (h : ¬ inr w 0 3 = 0) (h0 : ¬ w = 0) (h1 : ¬ w = 1) (h2 : ¬ w = 2) : w = 3 := by
  have ha : ¬ w < 0 := fun c => h (by rw [inr, if_pos c])
  have hb : ¬ 3 < w := fun c => h (by rw [inr, if_neg ha, if_pos c])
  obtain ⟨k, hk, hk2, rfl⟩ := nI_btw (lo := 0) (hi := 3) (Int32.not_lt.mp ha) (Int32.not_lt.mp hb) (by decide) (by decide)
  have hc : k = 0 ∨ k = 1 ∨ k = 2 ∨ k = 3 := by omega
  rcases hc with rfl | rfl | rfl | rfl
  · exact absurd rfl h0
  · exact absurd rfl h1
  · exact absurd rfl h2
  · rfl
abbrev rm_X4_count : Room := { frames := 7, cells := 0, slots := 0, locals := 149 }
theorem wl_X4_count_19 : Cond.fieldLink RX4 19 "HandBlinds" "now" "LHandBlinds$Blind;" ∈ wsX4_count := List.mem_of_getElem? (i := 1) (by decide +kernel)
theorem wi_X4_count_4 : ∀ w ∈ wsX40, w ∈ wsX4_count := fun _ h => List.mem_cons_of_mem _ (List.mem_append_left _ (List.mem_append_left _ (List.mem_append_left _ (List.mem_append_left _ (List.mem_append_right _ h)))))
theorem wl_X4_count_62 : Cond.fieldLink RX4 62 "HandBlinds$Blind" "rowCount" "I" ∈ wsX4_count := List.mem_of_getElem? (i := 2) (by decide +kernel)
theorem wi_X4_count_0 : ∀ w ∈ wsX00, w ∈ wsX4_count := fun _ h => List.mem_cons_of_mem _ (List.mem_append_left _ (List.mem_append_left _ (List.mem_append_left _ (List.mem_append_right _ h))))
theorem wl_X4_count_65 : Cond.fieldLink RX4 65 "HandBlinds$Blind" "shown" "I" ∈ wsX4_count := List.mem_of_getElem? (i := 4) (by decide +kernel)
theorem wl_X4_count_138 : Cond.constant RX4 138 (-1000004) ∈ wsX4_count := List.mem_of_getElem? (i := 3) (by decide +kernel)
theorem wl_X4_count_95 : Cond.fieldLink RX4 95 "HandBlinds$Blind" "routeCount" "I" ∈ wsX4_count := List.mem_of_getElem? (i := 5) (by decide +kernel)
theorem wl_X4_count_105 : Cond.fieldLink RX4 105 "HandBlinds$Blind" "driven" "I" ∈ wsX4_count := List.mem_of_getElem? (i := 6) (by decide +kernel)
theorem wl_X4_count_196 : Cond.fieldLink RX4 196 "HandBlinds$Blind" "tears" "I" ∈ wsX4_count := List.mem_of_getElem? (i := 7) (by decide +kernel)
theorem wl_X4_count_199 : Cond.fieldLink RX4 199 "HandBlinds$Blind" "passed" "I" ∈ wsX4_count := List.mem_of_getElem? (i := 8) (by decide +kernel)
theorem wl_X4_count_202 : Cond.fieldLink RX4 202 "HandBlinds$Blind" "stops" "I" ∈ wsX4_count := List.mem_of_getElem? (i := 9) (by decide +kernel)
theorem wl_X4_count_203 : Cond.fieldLink RX4 203 "HandBlinds$Blind" "rightStops" "I" ∈ wsX4_count := List.mem_of_getElem? (i := 10) (by decide +kernel)
theorem wl_X4_count_27 : Cond.fieldLink RX4 27 "HandBlinds" "states" "I" ∈ wsX4_count := List.mem_of_getElem? (i := 11) (by decide +kernel)
theorem wl_X4_count_10 : Cond.fieldLink RX4 10 "HandBlinds" "text" "LHandBlinds$Text;" ∈ wsX4_count := List.mem_of_getElem? (i := 12) (by decide +kernel)
theorem wl_X4_count_39 : Cond.fieldLink RX4 39 "HandBlinds$Text" "length" "I" ∈ wsX4_count := List.mem_of_getElem? (i := 13) (by decide +kernel)
theorem wi_X4_count_3 : ∀ w ∈ wsX30, w ∈ wsX4_count := fun _ h => List.mem_cons_of_mem _ (List.mem_append_left _ (List.mem_append_left _ (List.mem_append_right _ h)))
theorem wl_X4_count_57 : Cond.constant RX4 57 (-1000001) ∈ wsX4_count := List.mem_of_getElem? (i := 15) (by decide +kernel)
theorem wl_X4_count_118 : Cond.fieldLink RX4 118 "HandBlinds$Blind" "settings" "[I" ∈ wsX4_count := List.mem_of_getElem? (i := 14) (by decide +kernel)
theorem hd_X4_count : yX4_count.cls = RX4 ∧ yX4_count.cls ≠ "java/lang/invoke/MethodHandle" ∧ yX4_count.cls ≠ "java/lang/invoke/VarHandle" ∧ (parseMethodDescriptor yX4_count.desc).map (fun d => d.parameters.length) = some 1 := ⟨rfl, by decide +kernel, by decide +kernel, by decide +kernel⟩
set_option maxHeartbeats 4000000 in
set_option maxRecDepth 100000 in
theorem c_X4_count (l : Launch) {G : xG} {μ : xM} {I : xI} {P : xP} {h n rq st t : Nat} {S tx : Nat → Int32} {H : Nat → Nat → Int32} {w : Int32} (kh : μ.2.1 h = 5) (hs : oS μ h) (hp : oP P h) (hr : oR I P h S n rq st H t tx) (hinv : invN S n rq) : Ct l yX4_count wsX4_count rm_X4_count G μ I P [.ref (xZ G + h), .int w] 0 0 (fun vv μ' I' P' => vv = some (.int (aCount S (nI st) (nI t) w)) ∧ μ' = μ ∧ I' = (I) ∧ P' = (P)) := by
  obtain ⟨⟨u0, u1, u2, u3⟩, ⟨kx, ksg, lsg⟩, ⟨kb, hbS, hbP, hB⟩, ⟨kh2, lh2⟩, hist, ⟨hst, hst4⟩, ⟨ht, ht60⟩, htx⟩ := oF hs hp hr
  have hA := bA_of hbS hbP
  have hA0 := hA
  have hB0 := hB
  have hinv0 := hinv
  obtain ⟨⟨k0, l0⟩, ⟨k3, l3⟩, ⟨k6, l6⟩, hrw, hrt⟩ := hA
  have hrowf := fun {i : Nat} (hi : i < n) => bRow hB hinv hi
  obtain ⟨b1, b2, b4, b5, b7, b8, b9, b10, bst, brw, brt⟩ := hB
  obtain ⟨hn20, hn, hq6, hq, hcur, hdr, h8, h9, h10, hrows⟩ := hinv
  have b1n : I (P h 1) 1 = nI n := b1.trans hn
  have b4q : I (P h 1) 4 = nI rq := b4.trans hq
  have hro : ∀ r : Int32, (if r < 0 then (0 : Int32) else if I (P h 1) 1 ≤ r then 0 else 1) = isR r (S 0) := fun r => by rw [b1]; rfl
  have hrq : ∀ r : Int32, (if r < 0 then (0 : Int32) else if I (P h 1) 4 ≤ r then 0 else 1) = isR r (S 2) := fun r => by rw [b4]; rfl
  refine Ct.of (cc := cX4_count) (maxL := 2) (ret := (some .int)) [some (.ref (xZ G + h)), some (.int w)] (by decide) rfl rfl rfl (Nat.le_of_ble_eq_true rfl) ?_
  intro X hC hD h0 _
  refine r_iload_n (pc := 0) hC dX4_count_0 rfl ?_
  by_cases sw0 : w = 0
  · subst sw0
    refine r_tableIn (pc := 1) (off := 107) (tgt := 108) hC dX4_count_1 (by decide) (by decide) rfl (by decide) ?_
    refine r_aload_n (pc := 108) hC dX4_count_108 rfl ?_
    refine g_HB_now (pc := 109) hC wi_X4_count_4 wl_X4_count_19 (by assumption) (c2 := 1) (by assumption) (by decide) dX4_count_109 ?_
    refine g_Blind_rowCount (pc := 112) hC wi_X4_count_0 wl_X4_count_62 (by assumption) dX4_count_112 ?_
    refine r_iret (pc := 115) hC hD rfl dX4_count_115 rfl ?_
    exact ⟨by rw [aCount, if_pos rfl, b1], rfl, rfl, rfl⟩
  by_cases sw1 : w = 1
  · subst sw1
    refine r_tableIn (pc := 1) (off := 115) (tgt := 116) hC dX4_count_1 (by decide) (by decide) rfl (by decide) ?_
    refine r_aload_n (pc := 116) hC dX4_count_116 rfl ?_
    refine g_HB_now (pc := 117) hC wi_X4_count_4 wl_X4_count_19 (by assumption) (c2 := 1) (by assumption) (by decide) dX4_count_117 ?_
    refine g_Blind_rowCount (pc := 120) hC wi_X4_count_0 wl_X4_count_62 (by assumption) dX4_count_120 ?_
    refine r_if_ne (pc := 123) (tgt := 131) hC dX4_count_123 (by decide) (fun bq123 => ?_) (fun bq123 => ?_)
    · skip
      refine r_aload_n (pc := 131) hC dX4_count_131 rfl ?_
      refine g_HB_now (pc := 132) hC wi_X4_count_4 wl_X4_count_19 (by assumption) (c2 := 1) (by assumption) (by decide) dX4_count_132 ?_
      refine g_Blind_shown (pc := 135) hC wi_X4_count_0 wl_X4_count_65 (by assumption) dX4_count_135 ?_
      refine r_iret (pc := 138) hC hD rfl dX4_count_138 rfl ?_
      obtain ⟨a, ha, hs1⟩ : ∃ a, a < n ∧ S 1 = nI a := hcur.resolve_left (fun w => bq123 (by rw [b1n, w.1]; rfl))
      exact ⟨by rw [aCount, if_neg (by decide), if_pos rfl, b2, hs1, if_neg (nI_pos (by omega)), if_pos (nI_pos' (by omega))], rfl, rfl, rfl⟩
    · skip
      refine r_ldc (pc := 126) (v := -1000004) hC dX4_count_126 wl_X4_count_138 ?_
      refine r_goto (pc := 128) (tgt := 138) hC dX4_count_128 (by decide) ?_
      refine r_iret (pc := 138) hC hD rfl dX4_count_138 rfl ?_
      have h1 : S 1 = -1 := by
        rcases hcur with ⟨w1, w2⟩ | ⟨a, w1, w2⟩
        · exact w2
        · have := (nI_eq (a := n) (b := 0) (by omega) (by decide)).mp (by rw [← b1n]; exact bq123); omega
      exact ⟨by rw [aCount, if_neg (by decide), if_pos rfl, h1]; rfl, rfl, rfl, rfl⟩
  by_cases sw2 : w = 2
  · subst sw2
    refine r_tableIn (pc := 1) (off := 138) (tgt := 139) hC dX4_count_1 (by decide) (by decide) rfl (by decide) ?_
    refine r_aload_n (pc := 139) hC dX4_count_139 rfl ?_
    refine g_HB_now (pc := 140) hC wi_X4_count_4 wl_X4_count_19 (by assumption) (c2 := 1) (by assumption) (by decide) dX4_count_140 ?_
    refine g_Blind_routeCount (pc := 143) hC wi_X4_count_0 wl_X4_count_95 (by assumption) dX4_count_143 ?_
    refine r_iret (pc := 146) hC hD rfl dX4_count_146 rfl ?_
    exact ⟨by rw [aCount, if_neg (by decide), if_neg (by decide), if_pos rfl, b4], rfl, rfl, rfl⟩
  by_cases sw3 : w = 3
  · subst sw3
    refine r_tableIn (pc := 1) (off := 146) (tgt := 147) hC dX4_count_1 (by decide) (by decide) rfl (by decide) ?_
    refine r_aload_n (pc := 147) hC dX4_count_147 rfl ?_
    refine g_HB_now (pc := 148) hC wi_X4_count_4 wl_X4_count_19 (by assumption) (c2 := 1) (by assumption) (by decide) dX4_count_148 ?_
    refine g_Blind_driven (pc := 151) hC wi_X4_count_0 wl_X4_count_105 (by assumption) dX4_count_151 ?_
    refine r_iconst (pc := 154) (v := -1) hC dX4_count_154 (by decide) ?_
    refine r_icmp_ne (pc := 155) (tgt := 163) hC dX4_count_155 (by decide) (fun bq155 => ?_) (fun bq155 => ?_)
    · skip
      refine r_aload_n (pc := 163) hC dX4_count_163 rfl ?_
      refine g_HB_now (pc := 164) hC wi_X4_count_4 wl_X4_count_19 (by assumption) (c2 := 1) (by assumption) (by decide) dX4_count_164 ?_
      refine g_Blind_driven (pc := 167) hC wi_X4_count_0 wl_X4_count_105 (by assumption) dX4_count_167 ?_
      refine r_iret (pc := 170) hC hD rfl dX4_count_170 rfl ?_
      obtain ⟨d, hd, hd3⟩ := hdr.resolve_left (fun w => bq155 (by rw [b5, w]))
      exact ⟨by rw [aCount, if_neg (by decide), if_neg (by decide), if_neg (by decide), if_pos rfl, b5, hd3, if_pos (nI_pos' (by omega))], rfl, rfl, rfl⟩
    · skip
      refine r_ldc (pc := 158) (v := -1000004) hC dX4_count_158 wl_X4_count_138 ?_
      refine r_goto (pc := 160) (tgt := 170) hC dX4_count_160 (by decide) ?_
      refine r_iret (pc := 170) hC hD rfl dX4_count_170 rfl ?_
      exact ⟨by rw [aCount, if_neg (by decide), if_neg (by decide), if_neg (by decide), if_pos rfl, ← b5, bq155]; rfl, rfl, rfl, rfl⟩
  by_cases sw4 : w = 4
  · subst sw4
    refine r_tableIn (pc := 1) (off := 170) (tgt := 171) hC dX4_count_1 (by decide) (by decide) rfl (by decide) ?_
    refine r_aload_n (pc := 171) hC dX4_count_171 rfl ?_
    refine g_HB_now (pc := 172) hC wi_X4_count_4 wl_X4_count_19 (by assumption) (c2 := 1) (by assumption) (by decide) dX4_count_172 ?_
    refine k_X0_tornRows (pc := 175) hC gX4_count_X0_tornRows ⟨Nat.le_of_ble_eq_true rfl, Nat.le_of_ble_eq_true rfl⟩ kb hA0 hB0 hinv0 (Nat.le_of_ble_eq_true rfl) rfl ⟨Nat.zero_le _, Nat.zero_le _⟩ dX4_count_175 ?_
    refine r_iret (pc := 178) hC hD rfl dX4_count_178 rfl ?_
    exact ⟨by rw [aCount, if_neg (by decide), if_neg (by decide), if_neg (by decide), if_neg (by decide), if_pos rfl, hn, nI_clamp (by omega)], rfl, rfl, rfl⟩
  by_cases sw5 : w = 5
  · subst sw5
    refine r_tableIn (pc := 1) (off := 178) (tgt := 179) hC dX4_count_1 (by decide) (by decide) rfl (by decide) ?_
    refine r_aload_n (pc := 179) hC dX4_count_179 rfl ?_
    refine g_HB_now (pc := 180) hC wi_X4_count_4 wl_X4_count_19 (by assumption) (c2 := 1) (by assumption) (by decide) dX4_count_180 ?_
    refine g_Blind_tears (pc := 183) hC wi_X4_count_0 wl_X4_count_196 (by assumption) dX4_count_183 ?_
    refine r_iret (pc := 186) hC hD rfl dX4_count_186 rfl ?_
    exact ⟨by rw [aCount, if_neg (by decide), if_neg (by decide), if_neg (by decide), if_neg (by decide), if_neg (by decide), if_pos rfl, b7], rfl, rfl, rfl⟩
  by_cases sw6 : w = 6
  · subst sw6
    refine r_tableIn (pc := 1) (off := 186) (tgt := 187) hC dX4_count_1 (by decide) (by decide) rfl (by decide) ?_
    refine r_aload_n (pc := 187) hC dX4_count_187 rfl ?_
    refine g_HB_now (pc := 188) hC wi_X4_count_4 wl_X4_count_19 (by assumption) (c2 := 1) (by assumption) (by decide) dX4_count_188 ?_
    refine g_Blind_passed (pc := 191) hC wi_X4_count_0 wl_X4_count_199 (by assumption) dX4_count_191 ?_
    refine r_iret (pc := 194) hC hD rfl dX4_count_194 rfl ?_
    exact ⟨by rw [aCount, if_neg (by decide), if_neg (by decide), if_neg (by decide), if_neg (by decide), if_neg (by decide), if_neg (by decide), if_pos rfl, b8], rfl, rfl, rfl⟩
  by_cases sw7 : w = 7
  · subst sw7
    refine r_tableIn (pc := 1) (off := 194) (tgt := 195) hC dX4_count_1 (by decide) (by decide) rfl (by decide) ?_
    refine r_aload_n (pc := 195) hC dX4_count_195 rfl ?_
    refine g_HB_now (pc := 196) hC wi_X4_count_4 wl_X4_count_19 (by assumption) (c2 := 1) (by assumption) (by decide) dX4_count_196 ?_
    refine g_Blind_stops (pc := 199) hC wi_X4_count_0 wl_X4_count_202 (by assumption) dX4_count_199 ?_
    refine r_iret (pc := 202) hC hD rfl dX4_count_202 rfl ?_
    exact ⟨by rw [aCount, if_neg (by decide), if_neg (by decide), if_neg (by decide), if_neg (by decide), if_neg (by decide), if_neg (by decide), if_neg (by decide), if_pos rfl, b9], rfl, rfl, rfl⟩
  by_cases sw8 : w = 8
  · subst sw8
    refine r_tableIn (pc := 1) (off := 202) (tgt := 203) hC dX4_count_1 (by decide) (by decide) rfl (by decide) ?_
    refine r_aload_n (pc := 203) hC dX4_count_203 rfl ?_
    refine g_HB_now (pc := 204) hC wi_X4_count_4 wl_X4_count_19 (by assumption) (c2 := 1) (by assumption) (by decide) dX4_count_204 ?_
    refine g_Blind_rightStops (pc := 207) hC wi_X4_count_0 wl_X4_count_203 (by assumption) dX4_count_207 ?_
    refine r_iret (pc := 210) hC hD rfl dX4_count_210 rfl ?_
    exact ⟨by rw [aCount, if_neg (by decide), if_neg (by decide), if_neg (by decide), if_neg (by decide), if_neg (by decide), if_neg (by decide), if_neg (by decide), if_neg (by decide), if_pos rfl, b10], rfl, rfl, rfl⟩
  by_cases sw9 : w = 9
  · subst sw9
    refine r_tableIn (pc := 1) (off := 210) (tgt := 211) hC dX4_count_1 (by decide) (by decide) rfl (by decide) ?_
    refine r_aload_n (pc := 211) hC dX4_count_211 rfl ?_
    refine g_HB_now (pc := 212) hC wi_X4_count_4 wl_X4_count_19 (by assumption) (c2 := 1) (by assumption) (by decide) dX4_count_212 ?_
    refine r_aload_n (pc := 215) hC dX4_count_215 rfl ?_
    refine g_HB_now (pc := 216) hC wi_X4_count_4 wl_X4_count_19 (by assumption) (c2 := 1) (by assumption) (by decide) dX4_count_216 ?_
    refine g_Blind_shown (pc := 219) hC wi_X4_count_0 wl_X4_count_65 (by assumption) dX4_count_219 ?_
    refine k_X0_wrongOf (pc := 222) hC gX4_count_X0_wrongOf ⟨Nat.le_of_ble_eq_true rfl, Nat.le_of_ble_eq_true rfl⟩ kb hA0 hB0 hinv0 (Nat.le_of_ble_eq_true rfl) rfl ⟨Nat.zero_le _, Nat.zero_le _⟩ dX4_count_222 ?_
    refine r_iret (pc := 225) hC hD rfl dX4_count_225 rfl ?_
    exact ⟨by rw [aCount, if_neg (by decide), if_neg (by decide), if_neg (by decide), if_neg (by decide), if_neg (by decide), if_neg (by decide), if_neg (by decide), if_neg (by decide), if_neg (by decide), if_pos rfl, wr_shown hB0 hinv0], rfl, rfl, rfl⟩
  by_cases sw10 : w = 10
  · subst sw10
    refine r_tableIn (pc := 1) (off := 225) (tgt := 226) hC dX4_count_1 (by decide) (by decide) rfl (by decide) ?_
    refine r_aload_n (pc := 226) hC dX4_count_226 rfl ?_
    refine g_HB_now (pc := 227) hC wi_X4_count_4 wl_X4_count_19 (by assumption) (c2 := 1) (by assumption) (by decide) dX4_count_227 ?_
    refine g_Blind_rowCount (pc := 230) hC wi_X4_count_0 wl_X4_count_62 (by assumption) dX4_count_230 ?_
    refine r_if_ne (pc := 233) (tgt := 241) hC dX4_count_233 (by decide) (fun bq233 => ?_) (fun bq233 => ?_)
    · skip
      have hn1 : 1 ≤ n := by
        rcases Nat.eq_zero_or_pos n with w0 | w0
        · exact absurd (show I (P h 1) 1 = 0 by rw [b1n, w0]; rfl) bq233
        · exact w0
      refine r_aload_n (pc := 241) hC dX4_count_241 rfl ?_
      refine g_HB_now (pc := 242) hC wi_X4_count_4 wl_X4_count_19 (by assumption) (c2 := 1) (by assumption) (by decide) dX4_count_242 ?_
      refine k_X0_widest (pc := 245) hC gX4_count_X0_widest ⟨Nat.le_of_ble_eq_true rfl, Nat.le_of_ble_eq_true rfl⟩ kb hA0 hB0 hinv0 hn1 (Nat.le_of_ble_eq_true rfl) rfl ⟨Nat.zero_le _, Nat.zero_le _⟩ dX4_count_245 ?_
      refine r_iret (pc := 248) hC hD rfl dX4_count_248 rfl ?_
      exact ⟨by rw [aCount, if_neg (by decide), if_neg (by decide), if_neg (by decide), if_neg (by decide), if_neg (by decide), if_neg (by decide), if_neg (by decide), if_neg (by decide), if_neg (by decide), if_neg (by decide), if_pos rfl, hn, nI_clamp (by omega)], rfl, rfl, rfl⟩
    · skip
      refine r_ldc (pc := 236) (v := -1000004) hC dX4_count_236 wl_X4_count_138 ?_
      refine r_goto (pc := 238) (tgt := 248) hC dX4_count_238 (by decide) ?_
      refine r_iret (pc := 248) hC hD rfl dX4_count_248 rfl ?_
      have hn0 : n = 0 := (nI_eq (b := 0) (by omega) (by decide)).mp (by rw [← b1n]; exact bq233)
      exact ⟨by rw [aCount, if_neg (by decide), if_neg (by decide), if_neg (by decide), if_neg (by decide), if_neg (by decide), if_neg (by decide), if_neg (by decide), if_neg (by decide), if_neg (by decide), if_neg (by decide), if_pos rfl, hn, hn0]; rfl, rfl, rfl, rfl⟩
  by_cases sw11 : w = 11
  · subst sw11
    refine r_tableIn (pc := 1) (off := 248) (tgt := 249) hC dX4_count_1 (by decide) (by decide) rfl (by decide) ?_
    refine r_aload_n (pc := 249) hC dX4_count_249 rfl ?_
    refine g_HB_states (pc := 250) hC wi_X4_count_4 wl_X4_count_27 (by assumption) dX4_count_250 ?_
    refine r_iret (pc := 253) hC hD rfl dX4_count_253 rfl ?_
    exact ⟨by rw [aCount, if_neg (by decide), if_neg (by decide), if_neg (by decide), if_neg (by decide), if_neg (by decide), if_neg (by decide), if_neg (by decide), if_neg (by decide), if_neg (by decide), if_neg (by decide), if_neg (by decide), if_pos rfl, hst], rfl, rfl, rfl⟩
  by_cases sw12 : w = 12
  · subst sw12
    refine r_tableIn (pc := 1) (off := 253) (tgt := 254) hC dX4_count_1 (by decide) (by decide) rfl (by decide) ?_
    refine r_aload_n (pc := 254) hC dX4_count_254 rfl ?_
    refine g_HB_text (pc := 255) hC wi_X4_count_4 wl_X4_count_10 (by assumption) (c2 := 4) (by assumption) (by decide) dX4_count_255 ?_
    refine g_Text_length (pc := 258) hC wi_X4_count_3 wl_X4_count_39 (by assumption) dX4_count_258 ?_
    refine r_iret (pc := 261) hC hD rfl dX4_count_261 rfl ?_
    exact ⟨by rw [aCount, if_neg (by decide), if_neg (by decide), if_neg (by decide), if_neg (by decide), if_neg (by decide), if_neg (by decide), if_neg (by decide), if_neg (by decide), if_neg (by decide), if_neg (by decide), if_neg (by decide), if_neg (by decide), if_pos rfl, ht], rfl, rfl, rfl⟩
  by_cases sw13 : w = 13
  · subst sw13
    refine r_tableIn (pc := 1) (off := 291) (tgt := 292) hC dX4_count_1 (by decide) (by decide) rfl (by decide) ?_
    refine r_ldc (pc := 292) (v := -1000001) hC dX4_count_292 wl_X4_count_57 ?_
    refine r_iret (pc := 294) hC hD rfl dX4_count_294 rfl ?_
    exact ⟨by rw [aCount, if_neg (by decide), if_neg (by decide), if_neg (by decide), if_neg (by decide), if_neg (by decide), if_neg (by decide), if_neg (by decide), if_neg (by decide), if_neg (by decide), if_neg (by decide), if_neg (by decide), if_neg (by decide), if_neg (by decide), if_pos (by decide)], rfl, rfl, rfl⟩
  by_cases sw14 : w = 14
  · subst sw14
    refine r_tableIn (pc := 1) (off := 291) (tgt := 292) hC dX4_count_1 (by decide) (by decide) rfl (by decide) ?_
    refine r_ldc (pc := 292) (v := -1000001) hC dX4_count_292 wl_X4_count_57 ?_
    refine r_iret (pc := 294) hC hD rfl dX4_count_294 rfl ?_
    exact ⟨by rw [aCount, if_neg (by decide), if_neg (by decide), if_neg (by decide), if_neg (by decide), if_neg (by decide), if_neg (by decide), if_neg (by decide), if_neg (by decide), if_neg (by decide), if_neg (by decide), if_neg (by decide), if_neg (by decide), if_neg (by decide), if_pos (by decide)], rfl, rfl, rfl⟩
  by_cases sw15 : w = 15
  · subst sw15
    refine r_tableIn (pc := 1) (off := 291) (tgt := 292) hC dX4_count_1 (by decide) (by decide) rfl (by decide) ?_
    refine r_ldc (pc := 292) (v := -1000001) hC dX4_count_292 wl_X4_count_57 ?_
    refine r_iret (pc := 294) hC hD rfl dX4_count_294 rfl ?_
    exact ⟨by rw [aCount, if_neg (by decide), if_neg (by decide), if_neg (by decide), if_neg (by decide), if_neg (by decide), if_neg (by decide), if_neg (by decide), if_neg (by decide), if_neg (by decide), if_neg (by decide), if_neg (by decide), if_neg (by decide), if_neg (by decide), if_pos (by decide)], rfl, rfl, rfl⟩
  by_cases sw16 : w = 16
  · subst sw16
    refine r_tableIn (pc := 1) (off := 291) (tgt := 292) hC dX4_count_1 (by decide) (by decide) rfl (by decide) ?_
    refine r_ldc (pc := 292) (v := -1000001) hC dX4_count_292 wl_X4_count_57 ?_
    refine r_iret (pc := 294) hC hD rfl dX4_count_294 rfl ?_
    exact ⟨by rw [aCount, if_neg (by decide), if_neg (by decide), if_neg (by decide), if_neg (by decide), if_neg (by decide), if_neg (by decide), if_neg (by decide), if_neg (by decide), if_neg (by decide), if_neg (by decide), if_neg (by decide), if_neg (by decide), if_neg (by decide), if_pos (by decide)], rfl, rfl, rfl⟩
  by_cases sw17 : w = 17
  · subst sw17
    refine r_tableIn (pc := 1) (off := 291) (tgt := 292) hC dX4_count_1 (by decide) (by decide) rfl (by decide) ?_
    refine r_ldc (pc := 292) (v := -1000001) hC dX4_count_292 wl_X4_count_57 ?_
    refine r_iret (pc := 294) hC hD rfl dX4_count_294 rfl ?_
    exact ⟨by rw [aCount, if_neg (by decide), if_neg (by decide), if_neg (by decide), if_neg (by decide), if_neg (by decide), if_neg (by decide), if_neg (by decide), if_neg (by decide), if_neg (by decide), if_neg (by decide), if_neg (by decide), if_neg (by decide), if_neg (by decide), if_pos (by decide)], rfl, rfl, rfl⟩
  by_cases sw18 : w = 18
  · subst sw18
    refine r_tableIn (pc := 1) (off := 291) (tgt := 292) hC dX4_count_1 (by decide) (by decide) rfl (by decide) ?_
    refine r_ldc (pc := 292) (v := -1000001) hC dX4_count_292 wl_X4_count_57 ?_
    refine r_iret (pc := 294) hC hD rfl dX4_count_294 rfl ?_
    exact ⟨by rw [aCount, if_neg (by decide), if_neg (by decide), if_neg (by decide), if_neg (by decide), if_neg (by decide), if_neg (by decide), if_neg (by decide), if_neg (by decide), if_neg (by decide), if_neg (by decide), if_neg (by decide), if_neg (by decide), if_neg (by decide), if_pos (by decide)], rfl, rfl, rfl⟩
  by_cases sw19 : w = 19
  · subst sw19
    refine r_tableIn (pc := 1) (off := 291) (tgt := 292) hC dX4_count_1 (by decide) (by decide) rfl (by decide) ?_
    refine r_ldc (pc := 292) (v := -1000001) hC dX4_count_292 wl_X4_count_57 ?_
    refine r_iret (pc := 294) hC hD rfl dX4_count_294 rfl ?_
    exact ⟨by rw [aCount, if_neg (by decide), if_neg (by decide), if_neg (by decide), if_neg (by decide), if_neg (by decide), if_neg (by decide), if_neg (by decide), if_neg (by decide), if_neg (by decide), if_neg (by decide), if_neg (by decide), if_neg (by decide), if_neg (by decide), if_pos (by decide)], rfl, rfl, rfl⟩
  by_cases sw20 : w = 20
  · subst sw20
    refine r_tableIn (pc := 1) (off := 261) (tgt := 262) hC dX4_count_1 (by decide) (by decide) rfl (by decide) ?_
    refine r_aload_n (pc := 262) hC dX4_count_262 rfl ?_
    refine g_HB_now (pc := 263) hC wi_X4_count_4 wl_X4_count_19 (by assumption) (c2 := 1) (by assumption) (by decide) dX4_count_263 ?_
    refine g_Blind_settings (pc := 266) hC wi_X4_count_0 wl_X4_count_118 (by assumption) (c2 := 7) (by assumption) (by decide) dX4_count_266 ?_
    refine r_iconst (pc := 269) (v := 0) hC dX4_count_269 (by decide) ?_
    refine r_iald (pc := 270) hC k6 (xi_l (k := 0) l6 (by decide) (by decide) (by decide)) dX4_count_270 ?_
    refine r_iret (pc := 271) hC hD rfl dX4_count_271 rfl ?_
    exact ⟨by rw [aCount, if_neg (by decide), if_neg (by decide), if_neg (by decide), if_neg (by decide), if_neg (by decide), if_neg (by decide), if_neg (by decide), if_neg (by decide), if_neg (by decide), if_neg (by decide), if_neg (by decide), if_neg (by decide), if_neg (by decide), if_neg (by decide), bst 0 (by decide)]; rfl, rfl, rfl, rfl⟩
  by_cases sw21 : w = 21
  · subst sw21
    refine r_tableIn (pc := 1) (off := 271) (tgt := 272) hC dX4_count_1 (by decide) (by decide) rfl (by decide) ?_
    refine r_aload_n (pc := 272) hC dX4_count_272 rfl ?_
    refine g_HB_now (pc := 273) hC wi_X4_count_4 wl_X4_count_19 (by assumption) (c2 := 1) (by assumption) (by decide) dX4_count_273 ?_
    refine g_Blind_settings (pc := 276) hC wi_X4_count_0 wl_X4_count_118 (by assumption) (c2 := 7) (by assumption) (by decide) dX4_count_276 ?_
    refine r_iconst (pc := 279) (v := 1) hC dX4_count_279 (by decide) ?_
    refine r_iald (pc := 280) hC k6 (xi_l (k := 1) l6 (by decide) (by decide) (by decide)) dX4_count_280 ?_
    refine r_iret (pc := 281) hC hD rfl dX4_count_281 rfl ?_
    exact ⟨by rw [aCount, if_neg (by decide), if_neg (by decide), if_neg (by decide), if_neg (by decide), if_neg (by decide), if_neg (by decide), if_neg (by decide), if_neg (by decide), if_neg (by decide), if_neg (by decide), if_neg (by decide), if_neg (by decide), if_neg (by decide), if_neg (by decide), bst 1 (by decide)]; rfl, rfl, rfl, rfl⟩
  by_cases sw22 : w = 22
  · subst sw22
    refine r_tableIn (pc := 1) (off := 281) (tgt := 282) hC dX4_count_1 (by decide) (by decide) rfl (by decide) ?_
    refine r_aload_n (pc := 282) hC dX4_count_282 rfl ?_
    refine g_HB_now (pc := 283) hC wi_X4_count_4 wl_X4_count_19 (by assumption) (c2 := 1) (by assumption) (by decide) dX4_count_283 ?_
    refine g_Blind_settings (pc := 286) hC wi_X4_count_0 wl_X4_count_118 (by assumption) (c2 := 7) (by assumption) (by decide) dX4_count_286 ?_
    refine r_iconst (pc := 289) (v := 2) hC dX4_count_289 (by decide) ?_
    refine r_iald (pc := 290) hC k6 (xi_l (k := 2) l6 (by decide) (by decide) (by decide)) dX4_count_290 ?_
    refine r_iret (pc := 291) hC hD rfl dX4_count_291 rfl ?_
    exact ⟨by rw [aCount, if_neg (by decide), if_neg (by decide), if_neg (by decide), if_neg (by decide), if_neg (by decide), if_neg (by decide), if_neg (by decide), if_neg (by decide), if_neg (by decide), if_neg (by decide), if_neg (by decide), if_neg (by decide), if_neg (by decide), if_neg (by decide), bst 2 (by decide)]; rfl, rfl, rfl, rfl⟩
  refine r_tableOut (pc := 1) (tgt := 292) hC dX4_count_1 (tab_out (hi := 22) (by decide) (fun j hj e => by
    have hc : j = 0 ∨ j = 1 ∨ j = 2 ∨ j = 3 ∨ j = 4 ∨ j = 5 ∨ j = 6 ∨ j = 7 ∨ j = 8 ∨ j = 9 ∨ j = 10 ∨ j = 11 ∨ j = 12 ∨ j = 13 ∨ j = 14 ∨ j = 15 ∨ j = 16 ∨ j = 17 ∨ j = 18 ∨ j = 19 ∨ j = 20 ∨ j = 21 ∨ j = 22 := by omega
    rcases hc with rfl | rfl | rfl | rfl | rfl | rfl | rfl | rfl | rfl | rfl | rfl | rfl | rfl | rfl | rfl | rfl | rfl | rfl | rfl | rfl | rfl | rfl | rfl
    · exact sw0 e
    · exact sw1 e
    · exact sw2 e
    · exact sw3 e
    · exact sw4 e
    · exact sw5 e
    · exact sw6 e
    · exact sw7 e
    · exact sw8 e
    · exact sw9 e
    · exact sw10 e
    · exact sw11 e
    · exact sw12 e
    · exact sw13 e
    · exact sw14 e
    · exact sw15 e
    · exact sw16 e
    · exact sw17 e
    · exact sw18 e
    · exact sw19 e
    · exact sw20 e
    · exact sw21 e
    · exact sw22 e)) (by decide) ?_
  refine r_ldc (pc := 292) (v := -1000001) hC dX4_count_292 wl_X4_count_57 ?_
  refine r_iret (pc := 294) hC hD rfl dX4_count_294 rfl ?_
  have hin : inr w 20 22 = 0 := Classical.byContradiction fun e => by
    rcases inr_2022 e with e | e | e
    · exact sw20 e
    · exact sw21 e
    · exact sw22 e
  exact ⟨by rw [aCount, if_neg sw0, if_neg sw1, if_neg sw2, if_neg sw3, if_neg sw4, if_neg sw5, if_neg sw6, if_neg sw7, if_neg sw8, if_neg sw9, if_neg sw10, if_neg sw11, if_neg sw12, if_pos hin], rfl, rfl, rfl⟩
theorem k_X4_count {X : xF} {G : xG} {cs : Nat × Nat} {μ : xM} {I : xI} {P : xP} {L : List (Option Value)} {pc : Nat} {rest : List Value} {cc : ByteArray} {Ts : List Cond} {own : String} {nL : Nat} {R : Room} (hC : xC X G cc Ts own nL R) {index : Nat} (hG : GoodIn Ts (wsV own index RX4 yX4_count wsX4_count)) (hR : rm_X4_count.frames + 1 ≤ R.frames ∧ 8 + (2 + 11) + rm_X4_count.locals ≤ R.locals) {h n rq st t : Nat} {S tx : Nat → Int32} {H : Nat → Nat → Int32} {w : Int32} (kh : μ.2.1 h = 5) (hs : oS μ h) (hp : oP P h) (hr : oR I P h S n rq st H t tx) (hinv : invN S n rq) (hW : (rest.map fun v => v.category).sum ≤ 8) (hL : L.length = nL) (hcs : cs.1 ≤ R.cells ∧ cs.2 ≤ R.slots) (hdec : decode cc pc = .ok (.invokevirtual index, 3)) (kk : xg X G cs μ I P L (pc + 3) (.int (aCount S (nI st) (nI t) w) :: rest)) : xg X G cs μ I P L pc (.int w :: .ref (xZ G + h) :: rest) :=
  r_callV hC (c_X4_count X.2.1 kh hs hp hr hinv) hG rfl rfl rfl hd_X4_count hR (by rw [kh]; decide) (xe_HB kh) rfl rfl rfl hW hL hcs hdec (by rintro v μ' I' P' ⟨rfl, rfl, rfl, rfl⟩; exact kk)
