/-! the law: a case a call -/
section XLAW
variable {X : xF} {G : xG} {cs : Nat × Nat} {μ : xM} {I : xI} {P : xP} {L : List (Option Value)} {pc : Nat} {st : List Value} {cc : ByteArray} {Ts : List Cond} {own : String} {nL : Nat} {R : Room}
theorem r_sld (hC : xC X G cc Ts own nL R) {b N : Nat} {xs : Nat → Int32} (hX : va_X b N xs X.2.2.2.2.1 X.2.2.2.2.1.heap) (hbl : b < X.2.2.2.2.1.heap.size) (hbA : ¬ xA G b) {i : Int32} {k : Nat} (hi : xi i k N) (d : decode cc pc = .ok (.iaload, 1)) (kk : xg X G cs μ I P L (pc + 1) (.int (xs k) :: st)) : xg X G cs μ I P L pc (.int i :: .ref b :: st) := fun H locs ls h0 hP hS hl => va_sld hC.1 hC.2.1 hX hbl hbA hS (xi_in hi) d (by rw [hi.1]; exact kk H locs ls h0 hP hS hl)
theorem r_scl (hC : xC X G cc Ts own nL R) {b N : Nat} {xs : Nat → Int32} (hX : va_X b N xs X.2.2.2.2.1 X.2.2.2.2.1.heap) (hbl : b < X.2.2.2.2.1.heap.size) (hbA : ¬ xA G b) (d : decode cc pc = .ok (.arraylength, 1)) (kk : xg X G cs μ I P L (pc + 1) (.int (nI N) :: st)) : xg X G cs μ I P L pc (.ref b :: st) := fun H locs ls h0 hP hS hl => va_slen hC.1 hC.2.1 hX hbl hbA hS d (kk H locs ls h0 hP hS hl)
end XLAW
set_option maxHeartbeats 4000000 in
set_option maxRecDepth 100000 in
/-- add -/
theorem law_add {X : xF} {G : xG} {μ : xM} {b N k : Nat} {xs : Nat → Int32} (hC : xC X G cL_law wsL_law RL 4 room_1) (hX : va_X b N xs X.2.2.2.2.1 X.2.2.2.2.1.heap) (hbl : b < X.2.2.2.2.1.heap.size) (hbA : ¬ xA G b) (hN : N ≤ 2048) (hs : oS μ 1) (kh : μ.2.1 1 = 5) (hk : 4 * k + 3 < N) (hG : ∀ (I : xI) (P : xP), wL μ I P → xg X G (259, 4447) μ I P [some (.ref b), some (.ref (xZ G + 1)), some (.ref (xZ G + 255)), some (.int (nI (4 * k)))] 699 []) {I : xI} {P : xP} (hW : wL μ I P) : xg X G (259, 4447) μ I P [some (.ref b), some (.ref (xZ G + 1)), some (.ref (xZ G + 255)), some (.int (nI (4 * k)))] 140 [] := by
  obtain ⟨S, n, q, st, H, t, tx, hp, hr, hi, hK, hJ⟩ := hW
  have hst4 := hr.2.1.2
  have ht60 := hr.2.2.2.1.2
  refine r_aload_n (pc := 140) hC dL_law_140 rfl ?_
  refine k_X4_add (pc := 141) hC gL_law_X4_add ⟨Nat.le_of_ble_eq_true rfl, Nat.le_of_ble_eq_true rfl⟩ kh hs hp hr hi (Nat.le_of_ble_eq_true rfl) rfl ⟨Nat.le_of_ble_eq_true rfl, Nat.le_of_ble_eq_true rfl⟩ dL_law_141 ?_
  intro J Q rP rT rN rF
  obtain ⟨hK1, hJ1⟩ := wT hK hJ rF
  obtain ⟨⟨km, ks, ls, kp, lp, hsp⟩, ⟨kta, lta, hst2, hpt, hxs, hxt, hxp, kt, lt⟩, eS, e3, e5, e4⟩ := wF hK1 hJ1
  have hinv : invN (J (Q 255 0)) n q := by rw [eS]; exact hi
  refine r_aload_n (pc := 144) hC dL_law_144 rfl ?_
  refine k_X5_add (pc := 145) hC gL_law_X5_add ⟨Nat.le_of_ble_eq_true rfl, Nat.le_of_ble_eq_true rfl⟩ km ks ls kp lp hsp e3 hst4 kta lta hst2 hpt hxs hxt hxp kt lt e5 ht60 hinv (Nat.le_of_ble_eq_true rfl) rfl ⟨Nat.le_of_ble_eq_true rfl, Nat.le_of_ble_eq_true rfl⟩ dL_law_145 ?_
  intro I2 hQ
  rw [eS, e4] at hQ ⊢
  refine r_icmp_eq (pc := 148) (tgt := 699) hC dL_law_148 (by decide) (fun _ => ?_) (fun c => absurd rfl c)
  exact hG _ _ (wL_chg rP rT rN (fun e => by rw [sAdd, if_neg (by rw [e]; decide)]) hi (fun e => add_inv hi e) hst4 hK1 hJ1 hQ)
set_option maxHeartbeats 4000000 in
set_option maxRecDepth 100000 in
/-- cut -/
theorem law_cut {X : xF} {G : xG} {μ : xM} {b N k : Nat} {xs : Nat → Int32} (hC : xC X G cL_law wsL_law RL 4 room_1) (hX : va_X b N xs X.2.2.2.2.1 X.2.2.2.2.1.heap) (hbl : b < X.2.2.2.2.1.heap.size) (hbA : ¬ xA G b) (hN : N ≤ 2048) (hs : oS μ 1) (kh : μ.2.1 1 = 5) (hk : 4 * k + 3 < N) (hG : ∀ (I : xI) (P : xP), wL μ I P → xg X G (259, 4447) μ I P [some (.ref b), some (.ref (xZ G + 1)), some (.ref (xZ G + 255)), some (.int (nI (4 * k)))] 699 []) {I : xI} {P : xP} (hW : wL μ I P) : xg X G (259, 4447) μ I P [some (.ref b), some (.ref (xZ G + 1)), some (.ref (xZ G + 255)), some (.int (nI (4 * k)))] 153 [] := by
  obtain ⟨S, n, q, st, H, t, tx, hp, hr, hi, hK, hJ⟩ := hW
  have hst4 := hr.2.1.2
  have ht60 := hr.2.2.2.1.2
  refine r_aload_n (pc := 153) hC dL_law_153 rfl ?_
  refine r_aload_n (pc := 154) hC dL_law_154 rfl ?_
  refine r_iload_n (pc := 155) hC dL_law_155 rfl ?_
  refine r_iconst (pc := 156) (v := 1) hC dL_law_156 (by decide) ?_
  refine r_iadd (pc := 157) hC dL_law_157 ?_
  rw [show nI (4 * k) + 1 = nI (4 * k + 1) from nI_add _ 1]
  refine r_sld (pc := 158) (k := 4 * k + 1) hC hX hbl hbA (xi_n (by omega) (by omega)) dL_law_158 ?_
  refine k_X4_cut (pc := 159) hC gL_law_X4_cut ⟨Nat.le_of_ble_eq_true rfl, Nat.le_of_ble_eq_true rfl⟩ kh hs hp hr hi (Nat.le_of_ble_eq_true rfl) rfl ⟨Nat.le_of_ble_eq_true rfl, Nat.le_of_ble_eq_true rfl⟩ dL_law_159 ?_
  intro J Q rP rT rN rF
  obtain ⟨hK1, hJ1⟩ := wT hK hJ rF
  obtain ⟨⟨km, ks, ls, kp, lp, hsp⟩, ⟨kta, lta, hst2, hpt, hxs, hxt, hxp, kt, lt⟩, eS, e3, e5, e4⟩ := wF hK1 hJ1
  have hinv : invN (J (Q 255 0)) n q := by rw [eS]; exact hi
  refine r_aload_n (pc := 162) hC dL_law_162 rfl ?_
  refine r_aload_n (pc := 163) hC dL_law_163 rfl ?_
  refine r_iload_n (pc := 164) hC dL_law_164 rfl ?_
  refine r_iconst (pc := 165) (v := 1) hC dL_law_165 (by decide) ?_
  refine r_iadd (pc := 166) hC dL_law_166 ?_
  rw [show nI (4 * k) + 1 = nI (4 * k + 1) from nI_add _ 1]
  refine r_sld (pc := 167) (k := 4 * k + 1) hC hX hbl hbA (xi_n (by omega) (by omega)) dL_law_167 ?_
  refine k_X5_cut (pc := 168) hC gL_law_X5_cut ⟨Nat.le_of_ble_eq_true rfl, Nat.le_of_ble_eq_true rfl⟩ km ks ls kp lp hsp e3 hst4 hinv (Nat.le_of_ble_eq_true rfl) rfl ⟨Nat.le_of_ble_eq_true rfl, Nat.le_of_ble_eq_true rfl⟩ dL_law_168 ?_
  intro I2 hQ
  rw [eS] at hQ ⊢
  refine r_icmp_eq (pc := 171) (tgt := 699) hC dL_law_171 (by decide) (fun _ => ?_) (fun c => absurd rfl c)
  exact hG _ _ (wL_chg rP rT rN (fun e => by rw [sCut, if_neg (by rw [e]; decide)]) hi (fun e => inv_cut hi e) hst4 hK1 hJ1 hQ)
set_option maxHeartbeats 4000000 in
set_option maxRecDepth 100000 in
/-- swap -/
theorem law_swap {X : xF} {G : xG} {μ : xM} {b N k : Nat} {xs : Nat → Int32} (hC : xC X G cL_law wsL_law RL 4 room_1) (hX : va_X b N xs X.2.2.2.2.1 X.2.2.2.2.1.heap) (hbl : b < X.2.2.2.2.1.heap.size) (hbA : ¬ xA G b) (hN : N ≤ 2048) (hs : oS μ 1) (kh : μ.2.1 1 = 5) (hk : 4 * k + 3 < N) (hG : ∀ (I : xI) (P : xP), wL μ I P → xg X G (259, 4447) μ I P [some (.ref b), some (.ref (xZ G + 1)), some (.ref (xZ G + 255)), some (.int (nI (4 * k)))] 699 []) {I : xI} {P : xP} (hW : wL μ I P) : xg X G (259, 4447) μ I P [some (.ref b), some (.ref (xZ G + 1)), some (.ref (xZ G + 255)), some (.int (nI (4 * k)))] 176 [] := by
  obtain ⟨S, n, q, st, H, t, tx, hp, hr, hi, hK, hJ⟩ := hW
  have hst4 := hr.2.1.2
  have ht60 := hr.2.2.2.1.2
  refine r_aload_n (pc := 176) hC dL_law_176 rfl ?_
  refine r_aload_n (pc := 177) hC dL_law_177 rfl ?_
  refine r_iload_n (pc := 178) hC dL_law_178 rfl ?_
  refine r_iconst (pc := 179) (v := 1) hC dL_law_179 (by decide) ?_
  refine r_iadd (pc := 180) hC dL_law_180 ?_
  rw [show nI (4 * k) + 1 = nI (4 * k + 1) from nI_add _ 1]
  refine r_sld (pc := 181) (k := 4 * k + 1) hC hX hbl hbA (xi_n (by omega) (by omega)) dL_law_181 ?_
  refine r_aload_n (pc := 182) hC dL_law_182 rfl ?_
  refine r_iload_n (pc := 183) hC dL_law_183 rfl ?_
  refine r_iconst (pc := 184) (v := 2) hC dL_law_184 (by decide) ?_
  refine r_iadd (pc := 185) hC dL_law_185 ?_
  rw [show nI (4 * k) + 2 = nI (4 * k + 2) from nI_add _ 2]
  refine r_sld (pc := 186) (k := 4 * k + 2) hC hX hbl hbA (xi_n (by omega) (by omega)) dL_law_186 ?_
  refine k_X4_swap (pc := 187) hC gL_law_X4_swap ⟨Nat.le_of_ble_eq_true rfl, Nat.le_of_ble_eq_true rfl⟩ kh hs hp hr hi (Nat.le_of_ble_eq_true rfl) rfl ⟨Nat.le_of_ble_eq_true rfl, Nat.le_of_ble_eq_true rfl⟩ dL_law_187 ?_
  intro J Q rP rT rN rF
  obtain ⟨hK1, hJ1⟩ := wT hK hJ rF
  obtain ⟨⟨km, ks, ls, kp, lp, hsp⟩, ⟨kta, lta, hst2, hpt, hxs, hxt, hxp, kt, lt⟩, eS, e3, e5, e4⟩ := wF hK1 hJ1
  have hinv : invN (J (Q 255 0)) n q := by rw [eS]; exact hi
  refine r_aload_n (pc := 190) hC dL_law_190 rfl ?_
  refine r_aload_n (pc := 191) hC dL_law_191 rfl ?_
  refine r_iload_n (pc := 192) hC dL_law_192 rfl ?_
  refine r_iconst (pc := 193) (v := 1) hC dL_law_193 (by decide) ?_
  refine r_iadd (pc := 194) hC dL_law_194 ?_
  rw [show nI (4 * k) + 1 = nI (4 * k + 1) from nI_add _ 1]
  refine r_sld (pc := 195) (k := 4 * k + 1) hC hX hbl hbA (xi_n (by omega) (by omega)) dL_law_195 ?_
  refine r_aload_n (pc := 196) hC dL_law_196 rfl ?_
  refine r_iload_n (pc := 197) hC dL_law_197 rfl ?_
  refine r_iconst (pc := 198) (v := 2) hC dL_law_198 (by decide) ?_
  refine r_iadd (pc := 199) hC dL_law_199 ?_
  rw [show nI (4 * k) + 2 = nI (4 * k + 2) from nI_add _ 2]
  refine r_sld (pc := 200) (k := 4 * k + 2) hC hX hbl hbA (xi_n (by omega) (by omega)) dL_law_200 ?_
  refine k_X5_swap (pc := 201) hC gL_law_X5_swap ⟨Nat.le_of_ble_eq_true rfl, Nat.le_of_ble_eq_true rfl⟩ km ks ls kp lp hsp e3 hst4 hinv (Nat.le_of_ble_eq_true rfl) rfl ⟨Nat.le_of_ble_eq_true rfl, Nat.le_of_ble_eq_true rfl⟩ dL_law_201 ?_
  intro I2 hQ
  rw [eS] at hQ ⊢
  refine r_icmp_eq (pc := 204) (tgt := 699) hC dL_law_204 (by decide) (fun _ => ?_) (fun c => absurd rfl c)
  exact hG _ _ (wL_chg rP rT rN (fun e => by rw [sSwap, if_neg (by rw [e]; decide)]) hi (fun e => inv_swap hi e) hst4 hK1 hJ1 hQ)
set_option maxHeartbeats 4000000 in
set_option maxRecDepth 100000 in
/-- mend -/
theorem law_mend {X : xF} {G : xG} {μ : xM} {b N k : Nat} {xs : Nat → Int32} (hC : xC X G cL_law wsL_law RL 4 room_1) (hX : va_X b N xs X.2.2.2.2.1 X.2.2.2.2.1.heap) (hbl : b < X.2.2.2.2.1.heap.size) (hbA : ¬ xA G b) (hN : N ≤ 2048) (hs : oS μ 1) (kh : μ.2.1 1 = 5) (hk : 4 * k + 3 < N) (hG : ∀ (I : xI) (P : xP), wL μ I P → xg X G (259, 4447) μ I P [some (.ref b), some (.ref (xZ G + 1)), some (.ref (xZ G + 255)), some (.int (nI (4 * k)))] 699 []) {I : xI} {P : xP} (hW : wL μ I P) : xg X G (259, 4447) μ I P [some (.ref b), some (.ref (xZ G + 1)), some (.ref (xZ G + 255)), some (.int (nI (4 * k)))] 209 [] := by
  obtain ⟨S, n, q, st, H, t, tx, hp, hr, hi, hK, hJ⟩ := hW
  have hst4 := hr.2.1.2
  have ht60 := hr.2.2.2.1.2
  refine r_aload_n (pc := 209) hC dL_law_209 rfl ?_
  refine r_aload_n (pc := 210) hC dL_law_210 rfl ?_
  refine r_iload_n (pc := 211) hC dL_law_211 rfl ?_
  refine r_iconst (pc := 212) (v := 1) hC dL_law_212 (by decide) ?_
  refine r_iadd (pc := 213) hC dL_law_213 ?_
  rw [show nI (4 * k) + 1 = nI (4 * k + 1) from nI_add _ 1]
  refine r_sld (pc := 214) (k := 4 * k + 1) hC hX hbl hbA (xi_n (by omega) (by omega)) dL_law_214 ?_
  refine k_X4_mend (pc := 215) hC gL_law_X4_mend ⟨Nat.le_of_ble_eq_true rfl, Nat.le_of_ble_eq_true rfl⟩ kh hs hp hr hi (Nat.le_of_ble_eq_true rfl) rfl ⟨Nat.le_of_ble_eq_true rfl, Nat.le_of_ble_eq_true rfl⟩ dL_law_215 ?_
  intro J Q rP rT rN rF
  obtain ⟨hK1, hJ1⟩ := wT hK hJ rF
  obtain ⟨⟨km, ks, ls, kp, lp, hsp⟩, ⟨kta, lta, hst2, hpt, hxs, hxt, hxp, kt, lt⟩, eS, e3, e5, e4⟩ := wF hK1 hJ1
  have hinv : invN (J (Q 255 0)) n q := by rw [eS]; exact hi
  refine r_aload_n (pc := 218) hC dL_law_218 rfl ?_
  refine r_aload_n (pc := 219) hC dL_law_219 rfl ?_
  refine r_iload_n (pc := 220) hC dL_law_220 rfl ?_
  refine r_iconst (pc := 221) (v := 1) hC dL_law_221 (by decide) ?_
  refine r_iadd (pc := 222) hC dL_law_222 ?_
  rw [show nI (4 * k) + 1 = nI (4 * k + 1) from nI_add _ 1]
  refine r_sld (pc := 223) (k := 4 * k + 1) hC hX hbl hbA (xi_n (by omega) (by omega)) dL_law_223 ?_
  refine k_X5_mend (pc := 224) hC gL_law_X5_mend ⟨Nat.le_of_ble_eq_true rfl, Nat.le_of_ble_eq_true rfl⟩ km ks ls kp lp hsp e3 hst4 hinv (Nat.le_of_ble_eq_true rfl) rfl ⟨Nat.le_of_ble_eq_true rfl, Nat.le_of_ble_eq_true rfl⟩ dL_law_224 ?_
  intro I2 hQ
  rw [eS] at hQ ⊢
  refine r_icmp_eq (pc := 227) (tgt := 699) hC dL_law_227 (by decide) (fun _ => ?_) (fun c => absurd rfl c)
  exact hG _ _ (wL_chg rP rT rN (fun e => by rw [sMend, if_neg (by rw [e]; decide)]) hi (fun e => inv_mend hi e) hst4 hK1 hJ1 hQ)
set_option maxHeartbeats 4000000 in
set_option maxRecDepth 100000 in
/-- crank -/
theorem law_crank {X : xF} {G : xG} {μ : xM} {b N k : Nat} {xs : Nat → Int32} (hC : xC X G cL_law wsL_law RL 4 room_1) (hX : va_X b N xs X.2.2.2.2.1 X.2.2.2.2.1.heap) (hbl : b < X.2.2.2.2.1.heap.size) (hbA : ¬ xA G b) (hN : N ≤ 2048) (hs : oS μ 1) (kh : μ.2.1 1 = 5) (hk : 4 * k + 3 < N) (hG : ∀ (I : xI) (P : xP), wL μ I P → xg X G (259, 4447) μ I P [some (.ref b), some (.ref (xZ G + 1)), some (.ref (xZ G + 255)), some (.int (nI (4 * k)))] 699 []) {I : xI} {P : xP} (hW : wL μ I P) : xg X G (259, 4447) μ I P [some (.ref b), some (.ref (xZ G + 1)), some (.ref (xZ G + 255)), some (.int (nI (4 * k)))] 232 [] := by
  obtain ⟨S, n, q, st, H, t, tx, hp, hr, hi, hK, hJ⟩ := hW
  have hst4 := hr.2.1.2
  have ht60 := hr.2.2.2.1.2
  refine r_aload_n (pc := 232) hC dL_law_232 rfl ?_
  refine r_aload_n (pc := 233) hC dL_law_233 rfl ?_
  refine r_iload_n (pc := 234) hC dL_law_234 rfl ?_
  refine r_iconst (pc := 235) (v := 1) hC dL_law_235 (by decide) ?_
  refine r_iadd (pc := 236) hC dL_law_236 ?_
  rw [show nI (4 * k) + 1 = nI (4 * k + 1) from nI_add _ 1]
  refine r_sld (pc := 237) (k := 4 * k + 1) hC hX hbl hbA (xi_n (by omega) (by omega)) dL_law_237 ?_
  refine r_aload_n (pc := 238) hC dL_law_238 rfl ?_
  refine r_iload_n (pc := 239) hC dL_law_239 rfl ?_
  refine r_iconst (pc := 240) (v := 2) hC dL_law_240 (by decide) ?_
  refine r_iadd (pc := 241) hC dL_law_241 ?_
  rw [show nI (4 * k) + 2 = nI (4 * k + 2) from nI_add _ 2]
  refine r_sld (pc := 242) (k := 4 * k + 2) hC hX hbl hbA (xi_n (by omega) (by omega)) dL_law_242 ?_
  refine k_X4_crank (pc := 243) hC gL_law_X4_crank ⟨Nat.le_of_ble_eq_true rfl, Nat.le_of_ble_eq_true rfl⟩ kh hs hp hr hi (Nat.le_of_ble_eq_true rfl) rfl ⟨Nat.le_of_ble_eq_true rfl, Nat.le_of_ble_eq_true rfl⟩ dL_law_243 ?_
  intro J Q rP rT rN rF
  obtain ⟨hK1, hJ1⟩ := wT hK hJ rF
  obtain ⟨⟨km, ks, ls, kp, lp, hsp⟩, ⟨kta, lta, hst2, hpt, hxs, hxt, hxp, kt, lt⟩, eS, e3, e5, e4⟩ := wF hK1 hJ1
  have hinv : invN (J (Q 255 0)) n q := by rw [eS]; exact hi
  refine r_aload_n (pc := 246) hC dL_law_246 rfl ?_
  refine r_aload_n (pc := 247) hC dL_law_247 rfl ?_
  refine r_iload_n (pc := 248) hC dL_law_248 rfl ?_
  refine r_iconst (pc := 249) (v := 1) hC dL_law_249 (by decide) ?_
  refine r_iadd (pc := 250) hC dL_law_250 ?_
  rw [show nI (4 * k) + 1 = nI (4 * k + 1) from nI_add _ 1]
  refine r_sld (pc := 251) (k := 4 * k + 1) hC hX hbl hbA (xi_n (by omega) (by omega)) dL_law_251 ?_
  refine r_aload_n (pc := 252) hC dL_law_252 rfl ?_
  refine r_iload_n (pc := 253) hC dL_law_253 rfl ?_
  refine r_iconst (pc := 254) (v := 2) hC dL_law_254 (by decide) ?_
  refine r_iadd (pc := 255) hC dL_law_255 ?_
  rw [show nI (4 * k) + 2 = nI (4 * k + 2) from nI_add _ 2]
  refine r_sld (pc := 256) (k := 4 * k + 2) hC hX hbl hbA (xi_n (by omega) (by omega)) dL_law_256 ?_
  refine k_X5_crank (pc := 257) hC gL_law_X5_crank ⟨Nat.le_of_ble_eq_true rfl, Nat.le_of_ble_eq_true rfl⟩ km ks ls kp lp hsp e3 hst4 hinv (Nat.le_of_ble_eq_true rfl) rfl ⟨Nat.le_of_ble_eq_true rfl, Nat.le_of_ble_eq_true rfl⟩ dL_law_257 ?_
  intro I2 hQ
  rw [eS] at hQ ⊢
  refine r_icmp_eq (pc := 260) (tgt := 699) hC dL_law_260 (by decide) (fun _ => ?_) (fun c => absurd rfl c)
  exact hG _ _ (wL_chg rP rT rN (fun e => by rw [sCrank, if_neg (by rw [e]; decide)]) hi (fun e => inv_crank hi e) hst4 hK1 hJ1 hQ)
set_option maxHeartbeats 4000000 in
set_option maxRecDepth 100000 in
/-- route -/
theorem law_route {X : xF} {G : xG} {μ : xM} {b N k : Nat} {xs : Nat → Int32} (hC : xC X G cL_law wsL_law RL 4 room_1) (hX : va_X b N xs X.2.2.2.2.1 X.2.2.2.2.1.heap) (hbl : b < X.2.2.2.2.1.heap.size) (hbA : ¬ xA G b) (hN : N ≤ 2048) (hs : oS μ 1) (kh : μ.2.1 1 = 5) (hk : 4 * k + 3 < N) (hG : ∀ (I : xI) (P : xP), wL μ I P → xg X G (259, 4447) μ I P [some (.ref b), some (.ref (xZ G + 1)), some (.ref (xZ G + 255)), some (.int (nI (4 * k)))] 699 []) {I : xI} {P : xP} (hW : wL μ I P) : xg X G (259, 4447) μ I P [some (.ref b), some (.ref (xZ G + 1)), some (.ref (xZ G + 255)), some (.int (nI (4 * k)))] 265 [] := by
  obtain ⟨S, n, q, st, H, t, tx, hp, hr, hi, hK, hJ⟩ := hW
  have hst4 := hr.2.1.2
  have ht60 := hr.2.2.2.1.2
  refine r_aload_n (pc := 265) hC dL_law_265 rfl ?_
  refine r_aload_n (pc := 266) hC dL_law_266 rfl ?_
  refine r_iload_n (pc := 267) hC dL_law_267 rfl ?_
  refine r_iconst (pc := 268) (v := 1) hC dL_law_268 (by decide) ?_
  refine r_iadd (pc := 269) hC dL_law_269 ?_
  rw [show nI (4 * k) + 1 = nI (4 * k + 1) from nI_add _ 1]
  refine r_sld (pc := 270) (k := 4 * k + 1) hC hX hbl hbA (xi_n (by omega) (by omega)) dL_law_270 ?_
  refine k_X4_route (pc := 271) hC gL_law_X4_route ⟨Nat.le_of_ble_eq_true rfl, Nat.le_of_ble_eq_true rfl⟩ kh hs hp hr hi (Nat.le_of_ble_eq_true rfl) rfl ⟨Nat.le_of_ble_eq_true rfl, Nat.le_of_ble_eq_true rfl⟩ dL_law_271 ?_
  intro J Q rP rT rN rF
  obtain ⟨hK1, hJ1⟩ := wT hK hJ rF
  obtain ⟨⟨km, ks, ls, kp, lp, hsp⟩, ⟨kta, lta, hst2, hpt, hxs, hxt, hxp, kt, lt⟩, eS, e3, e5, e4⟩ := wF hK1 hJ1
  have hinv : invN (J (Q 255 0)) n q := by rw [eS]; exact hi
  refine r_aload_n (pc := 274) hC dL_law_274 rfl ?_
  refine r_aload_n (pc := 275) hC dL_law_275 rfl ?_
  refine r_iload_n (pc := 276) hC dL_law_276 rfl ?_
  refine r_iconst (pc := 277) (v := 1) hC dL_law_277 (by decide) ?_
  refine r_iadd (pc := 278) hC dL_law_278 ?_
  rw [show nI (4 * k) + 1 = nI (4 * k + 1) from nI_add _ 1]
  refine r_sld (pc := 279) (k := 4 * k + 1) hC hX hbl hbA (xi_n (by omega) (by omega)) dL_law_279 ?_
  refine k_X5_route (pc := 280) hC gL_law_X5_route ⟨Nat.le_of_ble_eq_true rfl, Nat.le_of_ble_eq_true rfl⟩ km ks ls kp lp hsp e3 hst4 hinv (Nat.le_of_ble_eq_true rfl) rfl ⟨Nat.le_of_ble_eq_true rfl, Nat.le_of_ble_eq_true rfl⟩ dL_law_280 ?_
  intro I2 hQ
  rw [eS] at hQ ⊢
  refine r_icmp_eq (pc := 283) (tgt := 699) hC dL_law_283 (by decide) (fun _ => ?_) (fun c => absurd rfl c)
  exact hG _ _ (wL_chg rP rT rN (fun e => by rw [sRoute, if_neg (by rw [e]; decide)]) hi (fun e => inv_route hi e) hst4 hK1 hJ1 hQ)
set_option maxHeartbeats 4000000 in
set_option maxRecDepth 100000 in
/-- drive -/
theorem law_drive {X : xF} {G : xG} {μ : xM} {b N k : Nat} {xs : Nat → Int32} (hC : xC X G cL_law wsL_law RL 4 room_1) (hX : va_X b N xs X.2.2.2.2.1 X.2.2.2.2.1.heap) (hbl : b < X.2.2.2.2.1.heap.size) (hbA : ¬ xA G b) (hN : N ≤ 2048) (hs : oS μ 1) (kh : μ.2.1 1 = 5) (hk : 4 * k + 3 < N) (hG : ∀ (I : xI) (P : xP), wL μ I P → xg X G (259, 4447) μ I P [some (.ref b), some (.ref (xZ G + 1)), some (.ref (xZ G + 255)), some (.int (nI (4 * k)))] 699 []) {I : xI} {P : xP} (hW : wL μ I P) : xg X G (259, 4447) μ I P [some (.ref b), some (.ref (xZ G + 1)), some (.ref (xZ G + 255)), some (.int (nI (4 * k)))] 288 [] := by
  obtain ⟨S, n, q, st, H, t, tx, hp, hr, hi, hK, hJ⟩ := hW
  have hst4 := hr.2.1.2
  have ht60 := hr.2.2.2.1.2
  refine r_aload_n (pc := 288) hC dL_law_288 rfl ?_
  refine r_aload_n (pc := 289) hC dL_law_289 rfl ?_
  refine r_iload_n (pc := 290) hC dL_law_290 rfl ?_
  refine r_iconst (pc := 291) (v := 1) hC dL_law_291 (by decide) ?_
  refine r_iadd (pc := 292) hC dL_law_292 ?_
  rw [show nI (4 * k) + 1 = nI (4 * k + 1) from nI_add _ 1]
  refine r_sld (pc := 293) (k := 4 * k + 1) hC hX hbl hbA (xi_n (by omega) (by omega)) dL_law_293 ?_
  refine k_X4_drive (pc := 294) hC gL_law_X4_drive ⟨Nat.le_of_ble_eq_true rfl, Nat.le_of_ble_eq_true rfl⟩ kh hs hp hr hi (Nat.le_of_ble_eq_true rfl) rfl ⟨Nat.le_of_ble_eq_true rfl, Nat.le_of_ble_eq_true rfl⟩ dL_law_294 ?_
  intro J Q rP rT rN rF
  obtain ⟨hK1, hJ1⟩ := wT hK hJ rF
  obtain ⟨⟨km, ks, ls, kp, lp, hsp⟩, ⟨kta, lta, hst2, hpt, hxs, hxt, hxp, kt, lt⟩, eS, e3, e5, e4⟩ := wF hK1 hJ1
  have hinv : invN (J (Q 255 0)) n q := by rw [eS]; exact hi
  refine r_aload_n (pc := 297) hC dL_law_297 rfl ?_
  refine r_aload_n (pc := 298) hC dL_law_298 rfl ?_
  refine r_iload_n (pc := 299) hC dL_law_299 rfl ?_
  refine r_iconst (pc := 300) (v := 1) hC dL_law_300 (by decide) ?_
  refine r_iadd (pc := 301) hC dL_law_301 ?_
  rw [show nI (4 * k) + 1 = nI (4 * k + 1) from nI_add _ 1]
  refine r_sld (pc := 302) (k := 4 * k + 1) hC hX hbl hbA (xi_n (by omega) (by omega)) dL_law_302 ?_
  refine k_X5_drive (pc := 303) hC gL_law_X5_drive ⟨Nat.le_of_ble_eq_true rfl, Nat.le_of_ble_eq_true rfl⟩ km ks ls kp lp hsp e3 hst4 hinv (Nat.le_of_ble_eq_true rfl) rfl ⟨Nat.le_of_ble_eq_true rfl, Nat.le_of_ble_eq_true rfl⟩ dL_law_303 ?_
  intro I2 hQ
  rw [eS] at hQ ⊢
  refine r_icmp_eq (pc := 306) (tgt := 699) hC dL_law_306 (by decide) (fun _ => ?_) (fun c => absurd rfl c)
  exact hG _ _ (wL_chg rP rT rN (fun e => by rw [sDrive, if_neg (by rw [e]; decide)]) hi (fun e => inv_drive hi e) hst4 hK1 hJ1 hQ)
set_option maxHeartbeats 4000000 in
set_option maxRecDepth 100000 in
/-- stop -/
theorem law_stop {X : xF} {G : xG} {μ : xM} {b N k : Nat} {xs : Nat → Int32} (hC : xC X G cL_law wsL_law RL 4 room_1) (hX : va_X b N xs X.2.2.2.2.1 X.2.2.2.2.1.heap) (hbl : b < X.2.2.2.2.1.heap.size) (hbA : ¬ xA G b) (hN : N ≤ 2048) (hs : oS μ 1) (kh : μ.2.1 1 = 5) (hk : 4 * k + 3 < N) (hG : ∀ (I : xI) (P : xP), wL μ I P → xg X G (259, 4447) μ I P [some (.ref b), some (.ref (xZ G + 1)), some (.ref (xZ G + 255)), some (.int (nI (4 * k)))] 699 []) {I : xI} {P : xP} (hW : wL μ I P) : xg X G (259, 4447) μ I P [some (.ref b), some (.ref (xZ G + 1)), some (.ref (xZ G + 255)), some (.int (nI (4 * k)))] 311 [] := by
  obtain ⟨S, n, q, st, H, t, tx, hp, hr, hi, hK, hJ⟩ := hW
  have hst4 := hr.2.1.2
  have ht60 := hr.2.2.2.1.2
  refine r_aload_n (pc := 311) hC dL_law_311 rfl ?_
  refine k_X4_stop (pc := 312) hC gL_law_X4_stop ⟨Nat.le_of_ble_eq_true rfl, Nat.le_of_ble_eq_true rfl⟩ kh hs hp hr hi (Nat.le_of_ble_eq_true rfl) rfl ⟨Nat.le_of_ble_eq_true rfl, Nat.le_of_ble_eq_true rfl⟩ dL_law_312 ?_
  intro J Q rP rT rN rF
  obtain ⟨hK1, hJ1⟩ := wT hK hJ rF
  obtain ⟨⟨km, ks, ls, kp, lp, hsp⟩, ⟨kta, lta, hst2, hpt, hxs, hxt, hxp, kt, lt⟩, eS, e3, e5, e4⟩ := wF hK1 hJ1
  have hinv : invN (J (Q 255 0)) n q := by rw [eS]; exact hi
  refine r_aload_n (pc := 315) hC dL_law_315 rfl ?_
  refine k_X5_stop (pc := 316) hC gL_law_X5_stop ⟨Nat.le_of_ble_eq_true rfl, Nat.le_of_ble_eq_true rfl⟩ km ks ls kp lp hsp e3 hst4 hinv (Nat.le_of_ble_eq_true rfl) rfl ⟨Nat.le_of_ble_eq_true rfl, Nat.le_of_ble_eq_true rfl⟩ dL_law_316 ?_
  intro I2 hQ
  rw [eS] at hQ ⊢
  refine r_icmp_eq (pc := 319) (tgt := 699) hC dL_law_319 (by decide) (fun _ => ?_) (fun c => absurd rfl c)
  exact hG _ _ (wL_chg (ok := true) rP rT rN (fun e => absurd e (by decide)) hi (fun _ => inv_stop hi) hst4 hK1 hJ1 (by rw [if_pos rfl]; exact hQ))
set_option maxHeartbeats 4000000 in
set_option maxRecDepth 100000 in
/-- set -/
theorem law_set {X : xF} {G : xG} {μ : xM} {b N k : Nat} {xs : Nat → Int32} (hC : xC X G cL_law wsL_law RL 4 room_1) (hX : va_X b N xs X.2.2.2.2.1 X.2.2.2.2.1.heap) (hbl : b < X.2.2.2.2.1.heap.size) (hbA : ¬ xA G b) (hN : N ≤ 2048) (hs : oS μ 1) (kh : μ.2.1 1 = 5) (hk : 4 * k + 3 < N) (hG : ∀ (I : xI) (P : xP), wL μ I P → xg X G (259, 4447) μ I P [some (.ref b), some (.ref (xZ G + 1)), some (.ref (xZ G + 255)), some (.int (nI (4 * k)))] 699 []) {I : xI} {P : xP} (hW : wL μ I P) : xg X G (259, 4447) μ I P [some (.ref b), some (.ref (xZ G + 1)), some (.ref (xZ G + 255)), some (.int (nI (4 * k)))] 324 [] := by
  obtain ⟨S, n, q, st, H, t, tx, hp, hr, hi, hK, hJ⟩ := hW
  have hst4 := hr.2.1.2
  have ht60 := hr.2.2.2.1.2
  refine r_aload_n (pc := 324) hC dL_law_324 rfl ?_
  refine r_aload_n (pc := 325) hC dL_law_325 rfl ?_
  refine r_iload_n (pc := 326) hC dL_law_326 rfl ?_
  refine r_iconst (pc := 327) (v := 1) hC dL_law_327 (by decide) ?_
  refine r_iadd (pc := 328) hC dL_law_328 ?_
  rw [show nI (4 * k) + 1 = nI (4 * k + 1) from nI_add _ 1]
  refine r_sld (pc := 329) (k := 4 * k + 1) hC hX hbl hbA (xi_n (by omega) (by omega)) dL_law_329 ?_
  refine r_aload_n (pc := 330) hC dL_law_330 rfl ?_
  refine r_iload_n (pc := 331) hC dL_law_331 rfl ?_
  refine r_iconst (pc := 332) (v := 2) hC dL_law_332 (by decide) ?_
  refine r_iadd (pc := 333) hC dL_law_333 ?_
  rw [show nI (4 * k) + 2 = nI (4 * k + 2) from nI_add _ 2]
  refine r_sld (pc := 334) (k := 4 * k + 2) hC hX hbl hbA (xi_n (by omega) (by omega)) dL_law_334 ?_
  refine k_X4_set (pc := 335) hC gL_law_X4_set ⟨Nat.le_of_ble_eq_true rfl, Nat.le_of_ble_eq_true rfl⟩ kh hs hp hr hi (Nat.le_of_ble_eq_true rfl) rfl ⟨Nat.le_of_ble_eq_true rfl, Nat.le_of_ble_eq_true rfl⟩ dL_law_335 ?_
  intro J Q rP rT rN rF
  obtain ⟨hK1, hJ1⟩ := wT hK hJ rF
  obtain ⟨⟨km, ks, ls, kp, lp, hsp⟩, ⟨kta, lta, hst2, hpt, hxs, hxt, hxp, kt, lt⟩, eS, e3, e5, e4⟩ := wF hK1 hJ1
  have hinv : invN (J (Q 255 0)) n q := by rw [eS]; exact hi
  refine r_aload_n (pc := 338) hC dL_law_338 rfl ?_
  refine r_aload_n (pc := 339) hC dL_law_339 rfl ?_
  refine r_iload_n (pc := 340) hC dL_law_340 rfl ?_
  refine r_iconst (pc := 341) (v := 1) hC dL_law_341 (by decide) ?_
  refine r_iadd (pc := 342) hC dL_law_342 ?_
  rw [show nI (4 * k) + 1 = nI (4 * k + 1) from nI_add _ 1]
  refine r_sld (pc := 343) (k := 4 * k + 1) hC hX hbl hbA (xi_n (by omega) (by omega)) dL_law_343 ?_
  refine r_aload_n (pc := 344) hC dL_law_344 rfl ?_
  refine r_iload_n (pc := 345) hC dL_law_345 rfl ?_
  refine r_iconst (pc := 346) (v := 2) hC dL_law_346 (by decide) ?_
  refine r_iadd (pc := 347) hC dL_law_347 ?_
  rw [show nI (4 * k) + 2 = nI (4 * k + 2) from nI_add _ 2]
  refine r_sld (pc := 348) (k := 4 * k + 2) hC hX hbl hbA (xi_n (by omega) (by omega)) dL_law_348 ?_
  refine k_X5_set (pc := 349) hC gL_law_X5_set ⟨Nat.le_of_ble_eq_true rfl, Nat.le_of_ble_eq_true rfl⟩ km ks ls kp lp hsp e3 hst4 hinv (Nat.le_of_ble_eq_true rfl) rfl ⟨Nat.le_of_ble_eq_true rfl, Nat.le_of_ble_eq_true rfl⟩ dL_law_349 ?_
  intro I2 hQ
  rw [eS] at hQ ⊢
  refine r_icmp_eq (pc := 352) (tgt := 699) hC dL_law_352 (by decide) (fun _ => ?_) (fun c => absurd rfl c)
  exact hG _ _ (wL_chg rP rT rN (fun e => by rw [sSet, if_neg (by rw [e]; decide)]) hi (fun e => inv_set hi e) hst4 hK1 hJ1 hQ)
set_option maxHeartbeats 4000000 in
set_option maxRecDepth 100000 in
/-- rowOf -/
theorem law_rowOf {X : xF} {G : xG} {μ : xM} {b N k : Nat} {xs : Nat → Int32} (hC : xC X G cL_law wsL_law RL 4 room_1) (hX : va_X b N xs X.2.2.2.2.1 X.2.2.2.2.1.heap) (hbl : b < X.2.2.2.2.1.heap.size) (hbA : ¬ xA G b) (hN : N ≤ 2048) (hs : oS μ 1) (kh : μ.2.1 1 = 5) (hk : 4 * k + 3 < N) (hG : ∀ (I : xI) (P : xP), wL μ I P → xg X G (259, 4447) μ I P [some (.ref b), some (.ref (xZ G + 1)), some (.ref (xZ G + 255)), some (.int (nI (4 * k)))] 699 []) {I : xI} {P : xP} (hW : wL μ I P) : xg X G (259, 4447) μ I P [some (.ref b), some (.ref (xZ G + 1)), some (.ref (xZ G + 255)), some (.int (nI (4 * k)))] 357 [] := by
  obtain ⟨S, n, q, st, H, t, tx, hp, hr, hi, hK, hJ⟩ := hW
  have hst4 := hr.2.1.2
  have ht60 := hr.2.2.2.1.2
  refine r_aload_n (pc := 357) hC dL_law_357 rfl ?_
  refine r_aload_n (pc := 358) hC dL_law_358 rfl ?_
  refine r_iload_n (pc := 359) hC dL_law_359 rfl ?_
  refine r_iconst (pc := 360) (v := 1) hC dL_law_360 (by decide) ?_
  refine r_iadd (pc := 361) hC dL_law_361 ?_
  rw [show nI (4 * k) + 1 = nI (4 * k + 1) from nI_add _ 1]
  refine r_sld (pc := 362) (k := 4 * k + 1) hC hX hbl hbA (xi_n (by omega) (by omega)) dL_law_362 ?_
  refine r_aload_n (pc := 363) hC dL_law_363 rfl ?_
  refine r_iload_n (pc := 364) hC dL_law_364 rfl ?_
  refine r_iconst (pc := 365) (v := 2) hC dL_law_365 (by decide) ?_
  refine r_iadd (pc := 366) hC dL_law_366 ?_
  rw [show nI (4 * k) + 2 = nI (4 * k + 2) from nI_add _ 2]
  refine r_sld (pc := 367) (k := 4 * k + 2) hC hX hbl hbA (xi_n (by omega) (by omega)) dL_law_367 ?_
  refine k_X4_rowOf (pc := 368) hC gL_law_X4_rowOf ⟨Nat.le_of_ble_eq_true rfl, Nat.le_of_ble_eq_true rfl⟩ kh hs hp hr hi (Nat.le_of_ble_eq_true rfl) rfl ⟨Nat.le_of_ble_eq_true rfl, Nat.le_of_ble_eq_true rfl⟩ dL_law_368 ?_
  have hK1 := hK
  have hJ1 := hJ
  obtain ⟨⟨km, ks, ls, kp, lp, hsp⟩, ⟨kta, lta, hst2, hpt, hxs, hxt, hxp, kt, lt⟩, eS, e3, e5, e4⟩ := wF hK1 hJ1
  have hinv : invN (I (P 255 0)) n q := by rw [eS]; exact hi
  refine r_aload_n (pc := 371) hC dL_law_371 rfl ?_
  refine r_aload_n (pc := 372) hC dL_law_372 rfl ?_
  refine r_iload_n (pc := 373) hC dL_law_373 rfl ?_
  refine r_iconst (pc := 374) (v := 1) hC dL_law_374 (by decide) ?_
  refine r_iadd (pc := 375) hC dL_law_375 ?_
  rw [show nI (4 * k) + 1 = nI (4 * k + 1) from nI_add _ 1]
  refine r_sld (pc := 376) (k := 4 * k + 1) hC hX hbl hbA (xi_n (by omega) (by omega)) dL_law_376 ?_
  refine r_aload_n (pc := 377) hC dL_law_377 rfl ?_
  refine r_iload_n (pc := 378) hC dL_law_378 rfl ?_
  refine r_iconst (pc := 379) (v := 2) hC dL_law_379 (by decide) ?_
  refine r_iadd (pc := 380) hC dL_law_380 ?_
  rw [show nI (4 * k) + 2 = nI (4 * k + 2) from nI_add _ 2]
  refine r_sld (pc := 381) (k := 4 * k + 2) hC hX hbl hbA (xi_n (by omega) (by omega)) dL_law_381 ?_
  refine k_X5_rowOf (pc := 382) hC gL_law_X5_rowOf ⟨Nat.le_of_ble_eq_true rfl, Nat.le_of_ble_eq_true rfl⟩ km ks ls hinv (Nat.le_of_ble_eq_true rfl) rfl ⟨Nat.le_of_ble_eq_true rfl, Nat.le_of_ble_eq_true rfl⟩ dL_law_382 ?_
  rw [eS]
  refine r_icmp_eq (pc := 385) (tgt := 699) hC dL_law_385 (by decide) (fun _ => ?_) (fun c => absurd rfl c)
  exact hG _ _ ⟨S, n, q, st, H, t, tx, hp, hr, hi, hK, hJ⟩
set_option maxHeartbeats 4000000 in
set_option maxRecDepth 100000 in
/-- letter -/
theorem law_letter {X : xF} {G : xG} {μ : xM} {b N k : Nat} {xs : Nat → Int32} (hC : xC X G cL_law wsL_law RL 4 room_1) (hX : va_X b N xs X.2.2.2.2.1 X.2.2.2.2.1.heap) (hbl : b < X.2.2.2.2.1.heap.size) (hbA : ¬ xA G b) (hN : N ≤ 2048) (hs : oS μ 1) (kh : μ.2.1 1 = 5) (hk : 4 * k + 3 < N) (hG : ∀ (I : xI) (P : xP), wL μ I P → xg X G (259, 4447) μ I P [some (.ref b), some (.ref (xZ G + 1)), some (.ref (xZ G + 255)), some (.int (nI (4 * k)))] 699 []) {I : xI} {P : xP} (hW : wL μ I P) : xg X G (259, 4447) μ I P [some (.ref b), some (.ref (xZ G + 1)), some (.ref (xZ G + 255)), some (.int (nI (4 * k)))] 390 [] := by
  obtain ⟨S, n, q, st, H, t, tx, hp, hr, hi, hK, hJ⟩ := hW
  have hst4 := hr.2.1.2
  have ht60 := hr.2.2.2.1.2
  refine r_aload_n (pc := 390) hC dL_law_390 rfl ?_
  refine r_aload_n (pc := 391) hC dL_law_391 rfl ?_
  refine r_iload_n (pc := 392) hC dL_law_392 rfl ?_
  refine r_iconst (pc := 393) (v := 1) hC dL_law_393 (by decide) ?_
  refine r_iadd (pc := 394) hC dL_law_394 ?_
  rw [show nI (4 * k) + 1 = nI (4 * k + 1) from nI_add _ 1]
  refine r_sld (pc := 395) (k := 4 * k + 1) hC hX hbl hbA (xi_n (by omega) (by omega)) dL_law_395 ?_
  refine r_aload_n (pc := 396) hC dL_law_396 rfl ?_
  refine r_iload_n (pc := 397) hC dL_law_397 rfl ?_
  refine r_iconst (pc := 398) (v := 2) hC dL_law_398 (by decide) ?_
  refine r_iadd (pc := 399) hC dL_law_399 ?_
  rw [show nI (4 * k) + 2 = nI (4 * k + 2) from nI_add _ 2]
  refine r_sld (pc := 400) (k := 4 * k + 2) hC hX hbl hbA (xi_n (by omega) (by omega)) dL_law_400 ?_
  refine k_X4_letter (pc := 401) hC gL_law_X4_letter ⟨Nat.le_of_ble_eq_true rfl, Nat.le_of_ble_eq_true rfl⟩ kh hs hp hr hi (Nat.le_of_ble_eq_true rfl) rfl ⟨Nat.le_of_ble_eq_true rfl, Nat.le_of_ble_eq_true rfl⟩ dL_law_401 ?_
  have hK1 := hK
  have hJ1 := hJ
  obtain ⟨⟨km, ks, ls, kp, lp, hsp⟩, ⟨kta, lta, hst2, hpt, hxs, hxt, hxp, kt, lt⟩, eS, e3, e5, e4⟩ := wF hK1 hJ1
  have hinv : invN (I (P 255 0)) n q := by rw [eS]; exact hi
  refine r_aload_n (pc := 404) hC dL_law_404 rfl ?_
  refine r_aload_n (pc := 405) hC dL_law_405 rfl ?_
  refine r_iload_n (pc := 406) hC dL_law_406 rfl ?_
  refine r_iconst (pc := 407) (v := 1) hC dL_law_407 (by decide) ?_
  refine r_iadd (pc := 408) hC dL_law_408 ?_
  rw [show nI (4 * k) + 1 = nI (4 * k + 1) from nI_add _ 1]
  refine r_sld (pc := 409) (k := 4 * k + 1) hC hX hbl hbA (xi_n (by omega) (by omega)) dL_law_409 ?_
  refine r_aload_n (pc := 410) hC dL_law_410 rfl ?_
  refine r_iload_n (pc := 411) hC dL_law_411 rfl ?_
  refine r_iconst (pc := 412) (v := 2) hC dL_law_412 (by decide) ?_
  refine r_iadd (pc := 413) hC dL_law_413 ?_
  rw [show nI (4 * k) + 2 = nI (4 * k + 2) from nI_add _ 2]
  refine r_sld (pc := 414) (k := 4 * k + 2) hC hX hbl hbA (xi_n (by omega) (by omega)) dL_law_414 ?_
  refine k_X5_letter (pc := 415) hC gL_law_X5_letter ⟨Nat.le_of_ble_eq_true rfl, Nat.le_of_ble_eq_true rfl⟩ km ks ls hinv (Nat.le_of_ble_eq_true rfl) rfl ⟨Nat.le_of_ble_eq_true rfl, Nat.le_of_ble_eq_true rfl⟩ dL_law_415 ?_
  rw [eS]
  refine r_icmp_eq (pc := 418) (tgt := 699) hC dL_law_418 (by decide) (fun _ => ?_) (fun c => absurd rfl c)
  exact hG _ _ ⟨S, n, q, st, H, t, tx, hp, hr, hi, hK, hJ⟩
set_option maxHeartbeats 4000000 in
set_option maxRecDepth 100000 in
/-- routeOf -/
theorem law_routeOf {X : xF} {G : xG} {μ : xM} {b N k : Nat} {xs : Nat → Int32} (hC : xC X G cL_law wsL_law RL 4 room_1) (hX : va_X b N xs X.2.2.2.2.1 X.2.2.2.2.1.heap) (hbl : b < X.2.2.2.2.1.heap.size) (hbA : ¬ xA G b) (hN : N ≤ 2048) (hs : oS μ 1) (kh : μ.2.1 1 = 5) (hk : 4 * k + 3 < N) (hG : ∀ (I : xI) (P : xP), wL μ I P → xg X G (259, 4447) μ I P [some (.ref b), some (.ref (xZ G + 1)), some (.ref (xZ G + 255)), some (.int (nI (4 * k)))] 699 []) {I : xI} {P : xP} (hW : wL μ I P) : xg X G (259, 4447) μ I P [some (.ref b), some (.ref (xZ G + 1)), some (.ref (xZ G + 255)), some (.int (nI (4 * k)))] 423 [] := by
  obtain ⟨S, n, q, st, H, t, tx, hp, hr, hi, hK, hJ⟩ := hW
  have hst4 := hr.2.1.2
  have ht60 := hr.2.2.2.1.2
  refine r_aload_n (pc := 423) hC dL_law_423 rfl ?_
  refine r_aload_n (pc := 424) hC dL_law_424 rfl ?_
  refine r_iload_n (pc := 425) hC dL_law_425 rfl ?_
  refine r_iconst (pc := 426) (v := 1) hC dL_law_426 (by decide) ?_
  refine r_iadd (pc := 427) hC dL_law_427 ?_
  rw [show nI (4 * k) + 1 = nI (4 * k + 1) from nI_add _ 1]
  refine r_sld (pc := 428) (k := 4 * k + 1) hC hX hbl hbA (xi_n (by omega) (by omega)) dL_law_428 ?_
  refine r_aload_n (pc := 429) hC dL_law_429 rfl ?_
  refine r_iload_n (pc := 430) hC dL_law_430 rfl ?_
  refine r_iconst (pc := 431) (v := 2) hC dL_law_431 (by decide) ?_
  refine r_iadd (pc := 432) hC dL_law_432 ?_
  rw [show nI (4 * k) + 2 = nI (4 * k + 2) from nI_add _ 2]
  refine r_sld (pc := 433) (k := 4 * k + 2) hC hX hbl hbA (xi_n (by omega) (by omega)) dL_law_433 ?_
  refine k_X4_routeOf (pc := 434) hC gL_law_X4_routeOf ⟨Nat.le_of_ble_eq_true rfl, Nat.le_of_ble_eq_true rfl⟩ kh hs hp hr hi (Nat.le_of_ble_eq_true rfl) rfl ⟨Nat.le_of_ble_eq_true rfl, Nat.le_of_ble_eq_true rfl⟩ dL_law_434 ?_
  have hK1 := hK
  have hJ1 := hJ
  obtain ⟨⟨km, ks, ls, kp, lp, hsp⟩, ⟨kta, lta, hst2, hpt, hxs, hxt, hxp, kt, lt⟩, eS, e3, e5, e4⟩ := wF hK1 hJ1
  have hinv : invN (I (P 255 0)) n q := by rw [eS]; exact hi
  refine r_aload_n (pc := 437) hC dL_law_437 rfl ?_
  refine r_aload_n (pc := 438) hC dL_law_438 rfl ?_
  refine r_iload_n (pc := 439) hC dL_law_439 rfl ?_
  refine r_iconst (pc := 440) (v := 1) hC dL_law_440 (by decide) ?_
  refine r_iadd (pc := 441) hC dL_law_441 ?_
  rw [show nI (4 * k) + 1 = nI (4 * k + 1) from nI_add _ 1]
  refine r_sld (pc := 442) (k := 4 * k + 1) hC hX hbl hbA (xi_n (by omega) (by omega)) dL_law_442 ?_
  refine r_aload_n (pc := 443) hC dL_law_443 rfl ?_
  refine r_iload_n (pc := 444) hC dL_law_444 rfl ?_
  refine r_iconst (pc := 445) (v := 2) hC dL_law_445 (by decide) ?_
  refine r_iadd (pc := 446) hC dL_law_446 ?_
  rw [show nI (4 * k) + 2 = nI (4 * k + 2) from nI_add _ 2]
  refine r_sld (pc := 447) (k := 4 * k + 2) hC hX hbl hbA (xi_n (by omega) (by omega)) dL_law_447 ?_
  refine k_X5_routeOf (pc := 448) hC gL_law_X5_routeOf ⟨Nat.le_of_ble_eq_true rfl, Nat.le_of_ble_eq_true rfl⟩ km ks ls hinv (Nat.le_of_ble_eq_true rfl) rfl ⟨Nat.le_of_ble_eq_true rfl, Nat.le_of_ble_eq_true rfl⟩ dL_law_448 ?_
  rw [eS]
  refine r_icmp_eq (pc := 451) (tgt := 699) hC dL_law_451 (by decide) (fun _ => ?_) (fun c => absurd rfl c)
  exact hG _ _ ⟨S, n, q, st, H, t, tx, hp, hr, hi, hK, hJ⟩
set_option maxHeartbeats 4000000 in
set_option maxRecDepth 100000 in
/-- would -/
theorem law_would {X : xF} {G : xG} {μ : xM} {b N k : Nat} {xs : Nat → Int32} (hC : xC X G cL_law wsL_law RL 4 room_1) (hX : va_X b N xs X.2.2.2.2.1 X.2.2.2.2.1.heap) (hbl : b < X.2.2.2.2.1.heap.size) (hbA : ¬ xA G b) (hN : N ≤ 2048) (hs : oS μ 1) (kh : μ.2.1 1 = 5) (hk : 4 * k + 3 < N) (hG : ∀ (I : xI) (P : xP), wL μ I P → xg X G (259, 4447) μ I P [some (.ref b), some (.ref (xZ G + 1)), some (.ref (xZ G + 255)), some (.int (nI (4 * k)))] 699 []) {I : xI} {P : xP} (hW : wL μ I P) : xg X G (259, 4447) μ I P [some (.ref b), some (.ref (xZ G + 1)), some (.ref (xZ G + 255)), some (.int (nI (4 * k)))] 456 [] := by
  obtain ⟨S, n, q, st, H, t, tx, hp, hr, hi, hK, hJ⟩ := hW
  have hst4 := hr.2.1.2
  have ht60 := hr.2.2.2.1.2
  refine r_aload_n (pc := 456) hC dL_law_456 rfl ?_
  refine r_aload_n (pc := 457) hC dL_law_457 rfl ?_
  refine r_iload_n (pc := 458) hC dL_law_458 rfl ?_
  refine r_iconst (pc := 459) (v := 1) hC dL_law_459 (by decide) ?_
  refine r_iadd (pc := 460) hC dL_law_460 ?_
  rw [show nI (4 * k) + 1 = nI (4 * k + 1) from nI_add _ 1]
  refine r_sld (pc := 461) (k := 4 * k + 1) hC hX hbl hbA (xi_n (by omega) (by omega)) dL_law_461 ?_
  refine r_aload_n (pc := 462) hC dL_law_462 rfl ?_
  refine r_iload_n (pc := 463) hC dL_law_463 rfl ?_
  refine r_iconst (pc := 464) (v := 2) hC dL_law_464 (by decide) ?_
  refine r_iadd (pc := 465) hC dL_law_465 ?_
  rw [show nI (4 * k) + 2 = nI (4 * k + 2) from nI_add _ 2]
  refine r_sld (pc := 466) (k := 4 * k + 2) hC hX hbl hbA (xi_n (by omega) (by omega)) dL_law_466 ?_
  refine r_aload_n (pc := 467) hC dL_law_467 rfl ?_
  refine r_iload_n (pc := 468) hC dL_law_468 rfl ?_
  refine r_iconst (pc := 469) (v := 3) hC dL_law_469 (by decide) ?_
  refine r_iadd (pc := 470) hC dL_law_470 ?_
  rw [show nI (4 * k) + 3 = nI (4 * k + 3) from nI_add _ 3]
  refine r_sld (pc := 471) (k := 4 * k + 3) hC hX hbl hbA (xi_n (by omega) (by omega)) dL_law_471 ?_
  refine k_X4_would (pc := 472) hC gL_law_X4_would ⟨Nat.le_of_ble_eq_true rfl, Nat.le_of_ble_eq_true rfl⟩ kh hs hp hr hi (Nat.le_of_ble_eq_true rfl) rfl ⟨Nat.le_of_ble_eq_true rfl, Nat.le_of_ble_eq_true rfl⟩ dL_law_472 ?_
  have hK1 := hK
  have hJ1 := hJ
  obtain ⟨⟨km, ks, ls, kp, lp, hsp⟩, ⟨kta, lta, hst2, hpt, hxs, hxt, hxp, kt, lt⟩, eS, e3, e5, e4⟩ := wF hK1 hJ1
  have hinv : invN (I (P 255 0)) n q := by rw [eS]; exact hi
  refine r_aload_n (pc := 475) hC dL_law_475 rfl ?_
  refine r_aload_n (pc := 476) hC dL_law_476 rfl ?_
  refine r_iload_n (pc := 477) hC dL_law_477 rfl ?_
  refine r_iconst (pc := 478) (v := 1) hC dL_law_478 (by decide) ?_
  refine r_iadd (pc := 479) hC dL_law_479 ?_
  rw [show nI (4 * k) + 1 = nI (4 * k + 1) from nI_add _ 1]
  refine r_sld (pc := 480) (k := 4 * k + 1) hC hX hbl hbA (xi_n (by omega) (by omega)) dL_law_480 ?_
  refine r_aload_n (pc := 481) hC dL_law_481 rfl ?_
  refine r_iload_n (pc := 482) hC dL_law_482 rfl ?_
  refine r_iconst (pc := 483) (v := 2) hC dL_law_483 (by decide) ?_
  refine r_iadd (pc := 484) hC dL_law_484 ?_
  rw [show nI (4 * k) + 2 = nI (4 * k + 2) from nI_add _ 2]
  refine r_sld (pc := 485) (k := 4 * k + 2) hC hX hbl hbA (xi_n (by omega) (by omega)) dL_law_485 ?_
  refine r_aload_n (pc := 486) hC dL_law_486 rfl ?_
  refine r_iload_n (pc := 487) hC dL_law_487 rfl ?_
  refine r_iconst (pc := 488) (v := 3) hC dL_law_488 (by decide) ?_
  refine r_iadd (pc := 489) hC dL_law_489 ?_
  rw [show nI (4 * k) + 3 = nI (4 * k + 3) from nI_add _ 3]
  refine r_sld (pc := 490) (k := 4 * k + 3) hC hX hbl hbA (xi_n (by omega) (by omega)) dL_law_490 ?_
  refine k_X5_would (pc := 491) hC gL_law_X5_would ⟨Nat.le_of_ble_eq_true rfl, Nat.le_of_ble_eq_true rfl⟩ km ks ls kp lp hsp e3 hst4 kta lta hst2 hpt hinv (Nat.le_of_ble_eq_true rfl) rfl ⟨Nat.le_of_ble_eq_true rfl, Nat.le_of_ble_eq_true rfl⟩ dL_law_491 ?_
  intro I2 hQ
  rw [eS] at hQ ⊢
  refine r_icmp_eq (pc := 494) (tgt := 699) hC dL_law_494 (by decide) (fun _ => ?_) (fun c => absurd rfl c)
  exact hG _ _ (wL_same hp hr hi hst4 hK hJ hQ)
set_option maxHeartbeats 4000000 in
set_option maxRecDepth 100000 in
/-- nearest -/
theorem law_nearest {X : xF} {G : xG} {μ : xM} {b N k : Nat} {xs : Nat → Int32} (hC : xC X G cL_law wsL_law RL 4 room_1) (hX : va_X b N xs X.2.2.2.2.1 X.2.2.2.2.1.heap) (hbl : b < X.2.2.2.2.1.heap.size) (hbA : ¬ xA G b) (hN : N ≤ 2048) (hs : oS μ 1) (kh : μ.2.1 1 = 5) (hk : 4 * k + 3 < N) (hG : ∀ (I : xI) (P : xP), wL μ I P → xg X G (259, 4447) μ I P [some (.ref b), some (.ref (xZ G + 1)), some (.ref (xZ G + 255)), some (.int (nI (4 * k)))] 699 []) {I : xI} {P : xP} (hW : wL μ I P) : xg X G (259, 4447) μ I P [some (.ref b), some (.ref (xZ G + 1)), some (.ref (xZ G + 255)), some (.int (nI (4 * k)))] 499 [] := by
  obtain ⟨S, n, q, st, H, t, tx, hp, hr, hi, hK, hJ⟩ := hW
  have hst4 := hr.2.1.2
  have ht60 := hr.2.2.2.1.2
  refine r_aload_n (pc := 499) hC dL_law_499 rfl ?_
  refine r_aload_n (pc := 500) hC dL_law_500 rfl ?_
  refine r_iload_n (pc := 501) hC dL_law_501 rfl ?_
  refine r_iconst (pc := 502) (v := 1) hC dL_law_502 (by decide) ?_
  refine r_iadd (pc := 503) hC dL_law_503 ?_
  rw [show nI (4 * k) + 1 = nI (4 * k + 1) from nI_add _ 1]
  refine r_sld (pc := 504) (k := 4 * k + 1) hC hX hbl hbA (xi_n (by omega) (by omega)) dL_law_504 ?_
  refine k_X4_nearest (pc := 505) hC gL_law_X4_nearest ⟨Nat.le_of_ble_eq_true rfl, Nat.le_of_ble_eq_true rfl⟩ kh hs hp hr hi (Nat.le_of_ble_eq_true rfl) rfl ⟨Nat.le_of_ble_eq_true rfl, Nat.le_of_ble_eq_true rfl⟩ dL_law_505 ?_
  have hK1 := hK
  have hJ1 := hJ
  obtain ⟨⟨km, ks, ls, kp, lp, hsp⟩, ⟨kta, lta, hst2, hpt, hxs, hxt, hxp, kt, lt⟩, eS, e3, e5, e4⟩ := wF hK1 hJ1
  have hinv : invN (I (P 255 0)) n q := by rw [eS]; exact hi
  refine r_aload_n (pc := 508) hC dL_law_508 rfl ?_
  refine r_aload_n (pc := 509) hC dL_law_509 rfl ?_
  refine r_iload_n (pc := 510) hC dL_law_510 rfl ?_
  refine r_iconst (pc := 511) (v := 1) hC dL_law_511 (by decide) ?_
  refine r_iadd (pc := 512) hC dL_law_512 ?_
  rw [show nI (4 * k) + 1 = nI (4 * k + 1) from nI_add _ 1]
  refine r_sld (pc := 513) (k := 4 * k + 1) hC hX hbl hbA (xi_n (by omega) (by omega)) dL_law_513 ?_
  refine k_X5_nearest (pc := 514) hC gL_law_X5_nearest ⟨Nat.le_of_ble_eq_true rfl, Nat.le_of_ble_eq_true rfl⟩ km ks ls hinv (Nat.le_of_ble_eq_true rfl) rfl ⟨Nat.le_of_ble_eq_true rfl, Nat.le_of_ble_eq_true rfl⟩ dL_law_514 ?_
  rw [eS]
  refine r_icmp_eq (pc := 517) (tgt := 699) hC dL_law_517 (by decide) (fun _ => ?_) (fun c => absurd rfl c)
  exact hG _ _ ⟨S, n, q, st, H, t, tx, hp, hr, hi, hK, hJ⟩
set_option maxHeartbeats 4000000 in
set_option maxRecDepth 100000 in
/-- alike -/
theorem law_alike {X : xF} {G : xG} {μ : xM} {b N k : Nat} {xs : Nat → Int32} (hC : xC X G cL_law wsL_law RL 4 room_1) (hX : va_X b N xs X.2.2.2.2.1 X.2.2.2.2.1.heap) (hbl : b < X.2.2.2.2.1.heap.size) (hbA : ¬ xA G b) (hN : N ≤ 2048) (hs : oS μ 1) (kh : μ.2.1 1 = 5) (hk : 4 * k + 3 < N) (hG : ∀ (I : xI) (P : xP), wL μ I P → xg X G (259, 4447) μ I P [some (.ref b), some (.ref (xZ G + 1)), some (.ref (xZ G + 255)), some (.int (nI (4 * k)))] 699 []) {I : xI} {P : xP} (hW : wL μ I P) : xg X G (259, 4447) μ I P [some (.ref b), some (.ref (xZ G + 1)), some (.ref (xZ G + 255)), some (.int (nI (4 * k)))] 522 [] := by
  obtain ⟨S, n, q, st, H, t, tx, hp, hr, hi, hK, hJ⟩ := hW
  have hst4 := hr.2.1.2
  have ht60 := hr.2.2.2.1.2
  refine r_aload_n (pc := 522) hC dL_law_522 rfl ?_
  refine r_aload_n (pc := 523) hC dL_law_523 rfl ?_
  refine r_iload_n (pc := 524) hC dL_law_524 rfl ?_
  refine r_iconst (pc := 525) (v := 1) hC dL_law_525 (by decide) ?_
  refine r_iadd (pc := 526) hC dL_law_526 ?_
  rw [show nI (4 * k) + 1 = nI (4 * k + 1) from nI_add _ 1]
  refine r_sld (pc := 527) (k := 4 * k + 1) hC hX hbl hbA (xi_n (by omega) (by omega)) dL_law_527 ?_
  refine r_aload_n (pc := 528) hC dL_law_528 rfl ?_
  refine r_iload_n (pc := 529) hC dL_law_529 rfl ?_
  refine r_iconst (pc := 530) (v := 2) hC dL_law_530 (by decide) ?_
  refine r_iadd (pc := 531) hC dL_law_531 ?_
  rw [show nI (4 * k) + 2 = nI (4 * k + 2) from nI_add _ 2]
  refine r_sld (pc := 532) (k := 4 * k + 2) hC hX hbl hbA (xi_n (by omega) (by omega)) dL_law_532 ?_
  refine k_X4_alike (pc := 533) hC gL_law_X4_alike ⟨Nat.le_of_ble_eq_true rfl, Nat.le_of_ble_eq_true rfl⟩ kh hs hp hr hi (Nat.le_of_ble_eq_true rfl) rfl ⟨Nat.le_of_ble_eq_true rfl, Nat.le_of_ble_eq_true rfl⟩ dL_law_533 ?_
  have hK1 := hK
  have hJ1 := hJ
  obtain ⟨⟨km, ks, ls, kp, lp, hsp⟩, ⟨kta, lta, hst2, hpt, hxs, hxt, hxp, kt, lt⟩, eS, e3, e5, e4⟩ := wF hK1 hJ1
  have hinv : invN (I (P 255 0)) n q := by rw [eS]; exact hi
  refine r_aload_n (pc := 536) hC dL_law_536 rfl ?_
  refine r_aload_n (pc := 537) hC dL_law_537 rfl ?_
  refine r_iload_n (pc := 538) hC dL_law_538 rfl ?_
  refine r_iconst (pc := 539) (v := 1) hC dL_law_539 (by decide) ?_
  refine r_iadd (pc := 540) hC dL_law_540 ?_
  rw [show nI (4 * k) + 1 = nI (4 * k + 1) from nI_add _ 1]
  refine r_sld (pc := 541) (k := 4 * k + 1) hC hX hbl hbA (xi_n (by omega) (by omega)) dL_law_541 ?_
  refine r_aload_n (pc := 542) hC dL_law_542 rfl ?_
  refine r_iload_n (pc := 543) hC dL_law_543 rfl ?_
  refine r_iconst (pc := 544) (v := 2) hC dL_law_544 (by decide) ?_
  refine r_iadd (pc := 545) hC dL_law_545 ?_
  rw [show nI (4 * k) + 2 = nI (4 * k + 2) from nI_add _ 2]
  refine r_sld (pc := 546) (k := 4 * k + 2) hC hX hbl hbA (xi_n (by omega) (by omega)) dL_law_546 ?_
  refine k_X5_alike (pc := 547) hC gL_law_X5_alike ⟨Nat.le_of_ble_eq_true rfl, Nat.le_of_ble_eq_true rfl⟩ km ks ls hinv (Nat.le_of_ble_eq_true rfl) rfl ⟨Nat.le_of_ble_eq_true rfl, Nat.le_of_ble_eq_true rfl⟩ dL_law_547 ?_
  rw [eS]
  refine r_icmp_eq (pc := 550) (tgt := 699) hC dL_law_550 (by decide) (fun _ => ?_) (fun c => absurd rfl c)
  exact hG _ _ ⟨S, n, q, st, H, t, tx, hp, hr, hi, hK, hJ⟩
set_option maxHeartbeats 4000000 in
set_option maxRecDepth 100000 in
/-- read -/
theorem law_read {X : xF} {G : xG} {μ : xM} {b N k : Nat} {xs : Nat → Int32} (hC : xC X G cL_law wsL_law RL 4 room_1) (hX : va_X b N xs X.2.2.2.2.1 X.2.2.2.2.1.heap) (hbl : b < X.2.2.2.2.1.heap.size) (hbA : ¬ xA G b) (hN : N ≤ 2048) (hs : oS μ 1) (kh : μ.2.1 1 = 5) (hk : 4 * k + 3 < N) (hG : ∀ (I : xI) (P : xP), wL μ I P → xg X G (259, 4447) μ I P [some (.ref b), some (.ref (xZ G + 1)), some (.ref (xZ G + 255)), some (.int (nI (4 * k)))] 699 []) {I : xI} {P : xP} (hW : wL μ I P) : xg X G (259, 4447) μ I P [some (.ref b), some (.ref (xZ G + 1)), some (.ref (xZ G + 255)), some (.int (nI (4 * k)))] 555 [] := by
  obtain ⟨S, n, q, st, H, t, tx, hp, hr, hi, hK, hJ⟩ := hW
  have hst4 := hr.2.1.2
  have ht60 := hr.2.2.2.1.2
  refine r_aload_n (pc := 555) hC dL_law_555 rfl ?_
  refine r_aload_n (pc := 556) hC dL_law_556 rfl ?_
  refine r_iload_n (pc := 557) hC dL_law_557 rfl ?_
  refine r_iconst (pc := 558) (v := 1) hC dL_law_558 (by decide) ?_
  refine r_iadd (pc := 559) hC dL_law_559 ?_
  rw [show nI (4 * k) + 1 = nI (4 * k + 1) from nI_add _ 1]
  refine r_sld (pc := 560) (k := 4 * k + 1) hC hX hbl hbA (xi_n (by omega) (by omega)) dL_law_560 ?_
  refine k_X4_read (pc := 561) hC gL_law_X4_read ⟨Nat.le_of_ble_eq_true rfl, Nat.le_of_ble_eq_true rfl⟩ kh hs hp hr hi (Nat.le_of_ble_eq_true rfl) rfl ⟨Nat.le_of_ble_eq_true rfl, Nat.le_of_ble_eq_true rfl⟩ dL_law_561 ?_
  have hK1 := hK
  have hJ1 := hJ
  obtain ⟨⟨km, ks, ls, kp, lp, hsp⟩, ⟨kta, lta, hst2, hpt, hxs, hxt, hxp, kt, lt⟩, eS, e3, e5, e4⟩ := wF hK1 hJ1
  have hinv : invN (I (P 255 0)) n q := by rw [eS]; exact hi
  refine r_aload_n (pc := 564) hC dL_law_564 rfl ?_
  refine r_aload_n (pc := 565) hC dL_law_565 rfl ?_
  refine r_iload_n (pc := 566) hC dL_law_566 rfl ?_
  refine r_iconst (pc := 567) (v := 1) hC dL_law_567 (by decide) ?_
  refine r_iadd (pc := 568) hC dL_law_568 ?_
  rw [show nI (4 * k) + 1 = nI (4 * k + 1) from nI_add _ 1]
  refine r_sld (pc := 569) (k := 4 * k + 1) hC hX hbl hbA (xi_n (by omega) (by omega)) dL_law_569 ?_
  refine k_X5_read (pc := 570) hC gL_law_X5_read ⟨Nat.le_of_ble_eq_true rfl, Nat.le_of_ble_eq_true rfl⟩ km ks ls hinv (Nat.le_of_ble_eq_true rfl) rfl ⟨Nat.le_of_ble_eq_true rfl, Nat.le_of_ble_eq_true rfl⟩ dL_law_570 ?_
  rw [eS]
  refine r_icmp_eq (pc := 573) (tgt := 699) hC dL_law_573 (by decide) (fun _ => ?_) (fun c => absurd rfl c)
  exact hG _ _ ⟨S, n, q, st, H, t, tx, hp, hr, hi, hK, hJ⟩
set_option maxHeartbeats 4000000 in
set_option maxRecDepth 100000 in
/-- find -/
theorem law_find {X : xF} {G : xG} {μ : xM} {b N k : Nat} {xs : Nat → Int32} (hC : xC X G cL_law wsL_law RL 4 room_1) (hX : va_X b N xs X.2.2.2.2.1 X.2.2.2.2.1.heap) (hbl : b < X.2.2.2.2.1.heap.size) (hbA : ¬ xA G b) (hN : N ≤ 2048) (hs : oS μ 1) (kh : μ.2.1 1 = 5) (hk : 4 * k + 3 < N) (hG : ∀ (I : xI) (P : xP), wL μ I P → xg X G (259, 4447) μ I P [some (.ref b), some (.ref (xZ G + 1)), some (.ref (xZ G + 255)), some (.int (nI (4 * k)))] 699 []) {I : xI} {P : xP} (hW : wL μ I P) : xg X G (259, 4447) μ I P [some (.ref b), some (.ref (xZ G + 1)), some (.ref (xZ G + 255)), some (.int (nI (4 * k)))] 578 [] := by
  obtain ⟨S, n, q, st, H, t, tx, hp, hr, hi, hK, hJ⟩ := hW
  have hst4 := hr.2.1.2
  have ht60 := hr.2.2.2.1.2
  refine r_aload_n (pc := 578) hC dL_law_578 rfl ?_
  refine k_X4_find (pc := 579) hC gL_law_X4_find ⟨Nat.le_of_ble_eq_true rfl, Nat.le_of_ble_eq_true rfl⟩ kh hs hp hr hi (Nat.le_of_ble_eq_true rfl) rfl ⟨Nat.le_of_ble_eq_true rfl, Nat.le_of_ble_eq_true rfl⟩ dL_law_579 ?_
  have hK1 := hK
  have hJ1 := hJ
  obtain ⟨⟨km, ks, ls, kp, lp, hsp⟩, ⟨kta, lta, hst2, hpt, hxs, hxt, hxp, kt, lt⟩, eS, e3, e5, e4⟩ := wF hK1 hJ1
  have hinv : invN (I (P 255 0)) n q := by rw [eS]; exact hi
  refine r_aload_n (pc := 582) hC dL_law_582 rfl ?_
  refine k_X5_find (pc := 583) hC gL_law_X5_find ⟨Nat.le_of_ble_eq_true rfl, Nat.le_of_ble_eq_true rfl⟩ km ks ls hinv kt lt e5 ht60 (Nat.le_of_ble_eq_true rfl) rfl ⟨Nat.le_of_ble_eq_true rfl, Nat.le_of_ble_eq_true rfl⟩ dL_law_583 ?_
  rw [eS, e4]
  refine r_icmp_eq (pc := 586) (tgt := 699) hC dL_law_586 (by decide) (fun _ => ?_) (fun c => absurd rfl c)
  exact hG _ _ ⟨S, n, q, st, H, t, tx, hp, hr, hi, hK, hJ⟩
set_option maxHeartbeats 4000000 in
set_option maxRecDepth 100000 in
/-- mean -/
theorem law_mean {X : xF} {G : xG} {μ : xM} {b N k : Nat} {xs : Nat → Int32} (hC : xC X G cL_law wsL_law RL 4 room_1) (hX : va_X b N xs X.2.2.2.2.1 X.2.2.2.2.1.heap) (hbl : b < X.2.2.2.2.1.heap.size) (hbA : ¬ xA G b) (hN : N ≤ 2048) (hs : oS μ 1) (kh : μ.2.1 1 = 5) (hk : 4 * k + 3 < N) (hG : ∀ (I : xI) (P : xP), wL μ I P → xg X G (259, 4447) μ I P [some (.ref b), some (.ref (xZ G + 1)), some (.ref (xZ G + 255)), some (.int (nI (4 * k)))] 699 []) {I : xI} {P : xP} (hW : wL μ I P) : xg X G (259, 4447) μ I P [some (.ref b), some (.ref (xZ G + 1)), some (.ref (xZ G + 255)), some (.int (nI (4 * k)))] 591 [] := by
  obtain ⟨S, n, q, st, H, t, tx, hp, hr, hi, hK, hJ⟩ := hW
  have hst4 := hr.2.1.2
  have ht60 := hr.2.2.2.1.2
  refine r_aload_n (pc := 591) hC dL_law_591 rfl ?_
  refine k_X4_mean (pc := 592) hC gL_law_X4_mean ⟨Nat.le_of_ble_eq_true rfl, Nat.le_of_ble_eq_true rfl⟩ kh hs hp hr hi (Nat.le_of_ble_eq_true rfl) rfl ⟨Nat.le_of_ble_eq_true rfl, Nat.le_of_ble_eq_true rfl⟩ dL_law_592 ?_
  have hK1 := hK
  have hJ1 := hJ
  obtain ⟨⟨km, ks, ls, kp, lp, hsp⟩, ⟨kta, lta, hst2, hpt, hxs, hxt, hxp, kt, lt⟩, eS, e3, e5, e4⟩ := wF hK1 hJ1
  have hinv : invN (I (P 255 0)) n q := by rw [eS]; exact hi
  refine r_aload_n (pc := 595) hC dL_law_595 rfl ?_
  refine k_X5_mean (pc := 596) hC gL_law_X5_mean ⟨Nat.le_of_ble_eq_true rfl, Nat.le_of_ble_eq_true rfl⟩ km ks ls hinv (Nat.le_of_ble_eq_true rfl) rfl ⟨Nat.le_of_ble_eq_true rfl, Nat.le_of_ble_eq_true rfl⟩ dL_law_596 ?_
  rw [eS]
  refine r_icmp_eq (pc := 599) (tgt := 699) hC dL_law_599 (by decide) (fun _ => ?_) (fun c => absurd rfl c)
  exact hG _ _ ⟨S, n, q, st, H, t, tx, hp, hr, hi, hK, hJ⟩
set_option maxHeartbeats 4000000 in
set_option maxRecDepth 100000 in
/-- count -/
theorem law_count {X : xF} {G : xG} {μ : xM} {b N k : Nat} {xs : Nat → Int32} (hC : xC X G cL_law wsL_law RL 4 room_1) (hX : va_X b N xs X.2.2.2.2.1 X.2.2.2.2.1.heap) (hbl : b < X.2.2.2.2.1.heap.size) (hbA : ¬ xA G b) (hN : N ≤ 2048) (hs : oS μ 1) (kh : μ.2.1 1 = 5) (hk : 4 * k + 3 < N) (hG : ∀ (I : xI) (P : xP), wL μ I P → xg X G (259, 4447) μ I P [some (.ref b), some (.ref (xZ G + 1)), some (.ref (xZ G + 255)), some (.int (nI (4 * k)))] 699 []) {I : xI} {P : xP} (hW : wL μ I P) : xg X G (259, 4447) μ I P [some (.ref b), some (.ref (xZ G + 1)), some (.ref (xZ G + 255)), some (.int (nI (4 * k)))] 604 [] := by
  obtain ⟨S, n, q, st, H, t, tx, hp, hr, hi, hK, hJ⟩ := hW
  have hst4 := hr.2.1.2
  have ht60 := hr.2.2.2.1.2
  refine r_aload_n (pc := 604) hC dL_law_604 rfl ?_
  refine r_aload_n (pc := 605) hC dL_law_605 rfl ?_
  refine r_iload_n (pc := 606) hC dL_law_606 rfl ?_
  refine r_iconst (pc := 607) (v := 1) hC dL_law_607 (by decide) ?_
  refine r_iadd (pc := 608) hC dL_law_608 ?_
  rw [show nI (4 * k) + 1 = nI (4 * k + 1) from nI_add _ 1]
  refine r_sld (pc := 609) (k := 4 * k + 1) hC hX hbl hbA (xi_n (by omega) (by omega)) dL_law_609 ?_
  refine k_X4_count (pc := 610) hC gL_law_X4_count ⟨Nat.le_of_ble_eq_true rfl, Nat.le_of_ble_eq_true rfl⟩ kh hs hp hr hi (Nat.le_of_ble_eq_true rfl) rfl ⟨Nat.le_of_ble_eq_true rfl, Nat.le_of_ble_eq_true rfl⟩ dL_law_610 ?_
  have hK1 := hK
  have hJ1 := hJ
  obtain ⟨⟨km, ks, ls, kp, lp, hsp⟩, ⟨kta, lta, hst2, hpt, hxs, hxt, hxp, kt, lt⟩, eS, e3, e5, e4⟩ := wF hK1 hJ1
  have hinv : invN (I (P 255 0)) n q := by rw [eS]; exact hi
  refine r_aload_n (pc := 613) hC dL_law_613 rfl ?_
  refine r_aload_n (pc := 614) hC dL_law_614 rfl ?_
  refine r_iload_n (pc := 615) hC dL_law_615 rfl ?_
  refine r_iconst (pc := 616) (v := 1) hC dL_law_616 (by decide) ?_
  refine r_iadd (pc := 617) hC dL_law_617 ?_
  rw [show nI (4 * k) + 1 = nI (4 * k + 1) from nI_add _ 1]
  refine r_sld (pc := 618) (k := 4 * k + 1) hC hX hbl hbA (xi_n (by omega) (by omega)) dL_law_618 ?_
  refine k_X5_count (pc := 619) hC gL_law_X5_count ⟨Nat.le_of_ble_eq_true rfl, Nat.le_of_ble_eq_true rfl⟩ km ks ls hinv (Nat.le_of_ble_eq_true rfl) rfl ⟨Nat.le_of_ble_eq_true rfl, Nat.le_of_ble_eq_true rfl⟩ dL_law_619 ?_
  rw [eS, e3, e5]
  refine r_icmp_eq (pc := 622) (tgt := 699) hC dL_law_622 (by decide) (fun _ => ?_) (fun c => absurd rfl c)
  exact hG _ _ ⟨S, n, q, st, H, t, tx, hp, hr, hi, hK, hJ⟩
set_option maxHeartbeats 4000000 in
set_option maxRecDepth 100000 in
/-- undo -/
theorem law_undo {X : xF} {G : xG} {μ : xM} {b N k : Nat} {xs : Nat → Int32} (hC : xC X G cL_law wsL_law RL 4 room_1) (hX : va_X b N xs X.2.2.2.2.1 X.2.2.2.2.1.heap) (hbl : b < X.2.2.2.2.1.heap.size) (hbA : ¬ xA G b) (hN : N ≤ 2048) (hs : oS μ 1) (kh : μ.2.1 1 = 5) (hk : 4 * k + 3 < N) (hG : ∀ (I : xI) (P : xP), wL μ I P → xg X G (259, 4447) μ I P [some (.ref b), some (.ref (xZ G + 1)), some (.ref (xZ G + 255)), some (.int (nI (4 * k)))] 699 []) {I : xI} {P : xP} (hW : wL μ I P) : xg X G (259, 4447) μ I P [some (.ref b), some (.ref (xZ G + 1)), some (.ref (xZ G + 255)), some (.int (nI (4 * k)))] 627 [] := by
  obtain ⟨S, n, q, st, H, t, tx, hp, hr, hi, hK, hJ⟩ := hW
  have hst4 := hr.2.1.2
  have ht60 := hr.2.2.2.1.2
  refine r_aload_n (pc := 627) hC dL_law_627 rfl ?_
  refine k_X4_undo (pc := 628) hC gL_law_X4_undo ⟨Nat.le_of_ble_eq_true rfl, Nat.le_of_ble_eq_true rfl⟩ kh hs hp hr hi (Nat.le_of_ble_eq_true rfl) rfl ⟨Nat.le_of_ble_eq_true rfl, Nat.le_of_ble_eq_true rfl⟩ dL_law_628 ?_
  intro J Q rP rT rF
  obtain ⟨hK1, hJ1⟩ := wT hK hJ rF
  obtain ⟨⟨km, ks, ls, kp, lp, hsp⟩, ⟨kta, lta, hst2, hpt, hxs, hxt, hxp, kt, lt⟩, eS, e3, e5, e4⟩ := wF hK1 hJ1
  have hinv : invN (J (Q 255 0)) n q := by rw [eS]; exact hi
  refine r_aload_n (pc := 631) hC dL_law_631 rfl ?_
  refine k_X5_undo (pc := 632) hC gL_law_X5_undo ⟨Nat.le_of_ble_eq_true rfl, Nat.le_of_ble_eq_true rfl⟩ km ks ls kp lp hsp e3 hst4 (Nat.le_of_ble_eq_true rfl) rfl ⟨Nat.le_of_ble_eq_true rfl, Nat.le_of_ble_eq_true rfl⟩ dL_law_632 ?_
  skip
  refine r_icmp_eq (pc := 635) (tgt := 699) hC dL_law_635 (by decide) (fun _ => ?_) (fun c => absurd rfl c)
  exact hG _ _ (wL_undo rP rT.1 rT.2 hi hst4 hK1 hJ1)
set_option maxHeartbeats 4000000 in
set_option maxRecDepth 100000 in
/-- type -/
theorem law_type {X : xF} {G : xG} {μ : xM} {b N k : Nat} {xs : Nat → Int32} (hC : xC X G cL_law wsL_law RL 4 room_1) (hX : va_X b N xs X.2.2.2.2.1 X.2.2.2.2.1.heap) (hbl : b < X.2.2.2.2.1.heap.size) (hbA : ¬ xA G b) (hN : N ≤ 2048) (hs : oS μ 1) (kh : μ.2.1 1 = 5) (hk : 4 * k + 3 < N) (hG : ∀ (I : xI) (P : xP), wL μ I P → xg X G (259, 4447) μ I P [some (.ref b), some (.ref (xZ G + 1)), some (.ref (xZ G + 255)), some (.int (nI (4 * k)))] 699 []) {I : xI} {P : xP} (hW : wL μ I P) : xg X G (259, 4447) μ I P [some (.ref b), some (.ref (xZ G + 1)), some (.ref (xZ G + 255)), some (.int (nI (4 * k)))] 640 [] := by
  obtain ⟨S, n, q, st, H, t, tx, hp, hr, hi, hK, hJ⟩ := hW
  have hst4 := hr.2.1.2
  have ht60 := hr.2.2.2.1.2
  refine r_aload_n (pc := 640) hC dL_law_640 rfl ?_
  refine r_aload_n (pc := 641) hC dL_law_641 rfl ?_
  refine r_iload_n (pc := 642) hC dL_law_642 rfl ?_
  refine r_iconst (pc := 643) (v := 1) hC dL_law_643 (by decide) ?_
  refine r_iadd (pc := 644) hC dL_law_644 ?_
  rw [show nI (4 * k) + 1 = nI (4 * k + 1) from nI_add _ 1]
  refine r_sld (pc := 645) (k := 4 * k + 1) hC hX hbl hbA (xi_n (by omega) (by omega)) dL_law_645 ?_
  refine k_X4_type (pc := 646) hC gL_law_X4_type ⟨Nat.le_of_ble_eq_true rfl, Nat.le_of_ble_eq_true rfl⟩ kh hs hp hr hi (Nat.le_of_ble_eq_true rfl) rfl ⟨Nat.le_of_ble_eq_true rfl, Nat.le_of_ble_eq_true rfl⟩ dL_law_646 ?_
  intro J rT rF
  obtain ⟨hK1, hJ1⟩ := wT hK hJ (fun c hc => ⟨rF c hc, rfl⟩)
  obtain ⟨⟨km, ks, ls, kp, lp, hsp⟩, ⟨kta, lta, hst2, hpt, hxs, hxt, hxp, kt, lt⟩, eS, e3, e5, e4⟩ := wF hK1 hJ1
  have hinv : invN (J (P 255 0)) n q := by rw [eS]; exact hi
  refine r_aload_n (pc := 649) hC dL_law_649 rfl ?_
  refine r_aload_n (pc := 650) hC dL_law_650 rfl ?_
  refine r_iload_n (pc := 651) hC dL_law_651 rfl ?_
  refine r_iconst (pc := 652) (v := 1) hC dL_law_652 (by decide) ?_
  refine r_iadd (pc := 653) hC dL_law_653 ?_
  rw [show nI (4 * k) + 1 = nI (4 * k + 1) from nI_add _ 1]
  refine r_sld (pc := 654) (k := 4 * k + 1) hC hX hbl hbA (xi_n (by omega) (by omega)) dL_law_654 ?_
  refine k_X5_type (pc := 655) hC gL_law_X5_type ⟨Nat.le_of_ble_eq_true rfl, Nat.le_of_ble_eq_true rfl⟩ km kt lt e5 ht60 (Nat.le_of_ble_eq_true rfl) rfl ⟨Nat.le_of_ble_eq_true rfl, Nat.le_of_ble_eq_true rfl⟩ dL_law_655 ?_
  skip
  refine r_icmp_eq (pc := 658) (tgt := 699) hC dL_law_658 (by decide) (fun _ => ?_) (fun c => absurd rfl c)
  exact hG _ _ (wL_type hp rT.1 rT.2 hi hK1 hJ1)
set_option maxHeartbeats 4000000 in
set_option maxRecDepth 100000 in
/-- clearText -/
theorem law_clearText {X : xF} {G : xG} {μ : xM} {b N k : Nat} {xs : Nat → Int32} (hC : xC X G cL_law wsL_law RL 4 room_1) (hX : va_X b N xs X.2.2.2.2.1 X.2.2.2.2.1.heap) (hbl : b < X.2.2.2.2.1.heap.size) (hbA : ¬ xA G b) (hN : N ≤ 2048) (hs : oS μ 1) (kh : μ.2.1 1 = 5) (hk : 4 * k + 3 < N) (hG : ∀ (I : xI) (P : xP), wL μ I P → xg X G (259, 4447) μ I P [some (.ref b), some (.ref (xZ G + 1)), some (.ref (xZ G + 255)), some (.int (nI (4 * k)))] 699 []) {I : xI} {P : xP} (hW : wL μ I P) : xg X G (259, 4447) μ I P [some (.ref b), some (.ref (xZ G + 1)), some (.ref (xZ G + 255)), some (.int (nI (4 * k)))] 663 [] := by
  obtain ⟨S, n, q, st, H, t, tx, hp, hr, hi, hK, hJ⟩ := hW
  have hst4 := hr.2.1.2
  have ht60 := hr.2.2.2.1.2
  refine r_aload_n (pc := 663) hC dL_law_663 rfl ?_
  refine k_X4_clearText (pc := 664) hC gL_law_X4_clearText ⟨Nat.le_of_ble_eq_true rfl, Nat.le_of_ble_eq_true rfl⟩ kh hs hp hr hi (Nat.le_of_ble_eq_true rfl) rfl ⟨Nat.le_of_ble_eq_true rfl, Nat.le_of_ble_eq_true rfl⟩ dL_law_664 ?_
  intro J rT rF
  obtain ⟨hK1, hJ1⟩ := wT hK hJ (fun c hc => ⟨rF c hc, rfl⟩)
  obtain ⟨⟨km, ks, ls, kp, lp, hsp⟩, ⟨kta, lta, hst2, hpt, hxs, hxt, hxp, kt, lt⟩, eS, e3, e5, e4⟩ := wF hK1 hJ1
  have hinv : invN (J (P 255 0)) n q := by rw [eS]; exact hi
  refine r_aload_n (pc := 667) hC dL_law_667 rfl ?_
  refine k_X5_clearText (pc := 668) hC gL_law_X5_clearText ⟨Nat.le_of_ble_eq_true rfl, Nat.le_of_ble_eq_true rfl⟩ km (Nat.le_of_ble_eq_true rfl) rfl ⟨Nat.le_of_ble_eq_true rfl, Nat.le_of_ble_eq_true rfl⟩ dL_law_668 ?_
  rw [e5]
  refine r_icmp_eq (pc := 671) (tgt := 699) hC dL_law_671 (by decide) (fun _ => ?_) (fun c => absurd rfl c)
  exact hG _ _ (wL_clear hp rT hi hK1 hJ1)
set_option maxHeartbeats 4000000 in
set_option maxRecDepth 100000 in
/-- fault -/
theorem law_fault {X : xF} {G : xG} {μ : xM} {b N k : Nat} {xs : Nat → Int32} (hC : xC X G cL_law wsL_law RL 4 room_1) (hX : va_X b N xs X.2.2.2.2.1 X.2.2.2.2.1.heap) (hbl : b < X.2.2.2.2.1.heap.size) (hbA : ¬ xA G b) (hN : N ≤ 2048) (hs : oS μ 1) (kh : μ.2.1 1 = 5) (hk : 4 * k + 3 < N) (hG : ∀ (I : xI) (P : xP), wL μ I P → xg X G (259, 4447) μ I P [some (.ref b), some (.ref (xZ G + 1)), some (.ref (xZ G + 255)), some (.int (nI (4 * k)))] 699 []) {I : xI} {P : xP} (hW : wL μ I P) : xg X G (259, 4447) μ I P [some (.ref b), some (.ref (xZ G + 1)), some (.ref (xZ G + 255)), some (.int (nI (4 * k)))] 676 [] := by
  obtain ⟨S, n, q, st, H, t, tx, hp, hr, hi, hK, hJ⟩ := hW
  have hst4 := hr.2.1.2
  have ht60 := hr.2.2.2.1.2
  refine r_aload_n (pc := 676) hC dL_law_676 rfl ?_
  refine r_aload_n (pc := 677) hC dL_law_677 rfl ?_
  refine r_iload_n (pc := 678) hC dL_law_678 rfl ?_
  refine r_iconst (pc := 679) (v := 1) hC dL_law_679 (by decide) ?_
  refine r_iadd (pc := 680) hC dL_law_680 ?_
  rw [show nI (4 * k) + 1 = nI (4 * k + 1) from nI_add _ 1]
  refine r_sld (pc := 681) (k := 4 * k + 1) hC hX hbl hbA (xi_n (by omega) (by omega)) dL_law_681 ?_
  refine k_X4_fault (pc := 682) hC gL_law_X4_fault ⟨Nat.le_of_ble_eq_true rfl, Nat.le_of_ble_eq_true rfl⟩ kh hs hp hr hi (Nat.le_of_ble_eq_true rfl) rfl ⟨Nat.le_of_ble_eq_true rfl, Nat.le_of_ble_eq_true rfl⟩ dL_law_682 ?_
  have hK1 := hK
  have hJ1 := hJ
  obtain ⟨⟨km, ks, ls, kp, lp, hsp⟩, ⟨kta, lta, hst2, hpt, hxs, hxt, hxp, kt, lt⟩, eS, e3, e5, e4⟩ := wF hK1 hJ1
  have hinv : invN (I (P 255 0)) n q := by rw [eS]; exact hi
  refine r_aload_n (pc := 685) hC dL_law_685 rfl ?_
  refine r_aload_n (pc := 686) hC dL_law_686 rfl ?_
  refine r_iload_n (pc := 687) hC dL_law_687 rfl ?_
  refine r_iconst (pc := 688) (v := 1) hC dL_law_688 (by decide) ?_
  refine r_iadd (pc := 689) hC dL_law_689 ?_
  rw [show nI (4 * k) + 1 = nI (4 * k + 1) from nI_add _ 1]
  refine r_sld (pc := 690) (k := 4 * k + 1) hC hX hbl hbA (xi_n (by omega) (by omega)) dL_law_690 ?_
  refine k_X5_fault (pc := 691) hC gL_law_X5_fault ⟨Nat.le_of_ble_eq_true rfl, Nat.le_of_ble_eq_true rfl⟩ km ks ls kp lp hsp e3 hst4 kta lta hst2 hpt hxs hxt hxp kt lt e5 ht60 hinv (Nat.le_of_ble_eq_true rfl) rfl ⟨Nat.le_of_ble_eq_true rfl, Nat.le_of_ble_eq_true rfl⟩ dL_law_691 ?_
  intro I2 hQ
  rw [eS] at hQ ⊢
  rw [e4]
  refine r_icmp_eq (pc := 694) (tgt := 699) hC dL_law_694 (by decide) (fun _ => ?_) (fun c => absurd rfl c)
  exact hG _ _ (wL_same hp hr hi hst4 hK hJ hQ)
