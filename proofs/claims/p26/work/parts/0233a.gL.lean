theorem in_of_map {ws big : List Cond} {ps : List Nat} (h : ws.map some = ps.map (fun i => big[i]?)) : ∀ w ∈ ws, w ∈ big := fun w hw => by
  have h1 : some w ∈ ws.map some := List.mem_map.mpr ⟨w, hw, rfl⟩
  rw [h] at h1
  obtain ⟨i, -, hi⟩ := List.mem_map.mp h1
  exact List.mem_of_getElem? hi
theorem goodIn_cons {big b : List Cond} {c : Cond} (ha : GoodIn big [c]) (hb : GoodIn big b) : GoodIn big (c :: b) := fun w h => (List.mem_cons.mp h).elim (fun e => ha w (List.mem_cons.mpr (Or.inl e))) (hb w)
set_option maxRecDepth 20000 in
theorem ggL_width_L_sign : GoodIn wsL_width wsL_sign := goodIn_r _ [4, 5] (by decide +kernel) (by decide +kernel)
set_option maxRecDepth 20000 in
theorem gL_width_L_sign : GoodIn wsL_width (va_wsS RL 11 yL_sign wsL_sign) := goodIn_app (goodIn_of _ (by decide +kernel)) ggL_width_L_sign
set_option maxRecDepth 20000 in
theorem ggL_width_L_wide : GoodIn wsL_width wsL_wide := goodIn_r _ [8] (by decide +kernel) (by decide +kernel)
set_option maxRecDepth 20000 in
theorem gL_width_L_wide : GoodIn wsL_width (va_wsS RL 17 yL_wide wsL_wide) := goodIn_app (goodIn_of _ (by decide +kernel)) ggL_width_L_wide
set_option maxRecDepth 20000 in
theorem ggL_is_L_sign : GoodIn wsL_is wsL_sign := goodIn_r _ [5, 6] (by decide +kernel) (by decide +kernel)
set_option maxRecDepth 20000 in
theorem gL_is_L_sign : GoodIn wsL_is (va_wsS RL 11 yL_sign wsL_sign) := goodIn_app (goodIn_of _ (by decide +kernel)) ggL_is_L_sign
set_option maxRecDepth 20000 in
theorem ggL_kind_L_is : GoodIn wsL_kind wsL_is := goodIn_r _ [7, 8, 9, 10, 6, 11, 12] (by decide +kernel) (by decide +kernel)
set_option maxRecDepth 20000 in
theorem gL_kind_L_is : GoodIn wsL_kind (va_wsS RL 25 yL_is wsL_is) := goodIn_app (goodIn_of _ (by decide +kernel)) ggL_kind_L_is
set_option maxRecDepth 20000 in
theorem ggL_wrong_L_kind : GoodIn wsL_wrong wsL_kind := goodIn_r _ [4, 5, 6, 7, 8, 9, 3, 10, 11, 12, 13, 14, 15] (by decide +kernel) (by decide +kernel)
set_option maxRecDepth 20000 in
theorem gL_wrong_L_kind : GoodIn wsL_wrong (va_wsS RL 33 yL_kind wsL_kind) := goodIn_app (goodIn_of _ (by decide +kernel)) ggL_wrong_L_kind
set_option maxRecDepth 20000 in
theorem ggL_wrong_L_width : GoodIn wsL_wrong wsL_width := goodIn_r _ [18, 12, 13, 3, 14, 15, 19, 20, 21] (by decide +kernel) (by decide +kernel)
set_option maxRecDepth 20000 in
theorem gL_wrong_L_width : GoodIn wsL_wrong (va_wsS RL 37 yL_width wsL_width) := goodIn_app (goodIn_of _ (by decide +kernel)) ggL_wrong_L_width
set_option maxRecDepth 20000 in
theorem ggL_wrong_L_squeeze : GoodIn wsL_wrong wsL_squeeze := goodIn_r _ [24] (by decide +kernel) (by decide +kernel)
set_option maxRecDepth 20000 in
theorem gL_wrong_L_squeeze : GoodIn wsL_wrong (va_wsS RL 40 yL_squeeze wsL_squeeze) := goodIn_app (goodIn_of _ (by decide +kernel)) ggL_wrong_L_squeeze
set_option maxRecDepth 20000 in
theorem ggL_names_X4_clearText : GoodIn wsL_names wsX4_clearText := goodIn_r _ [10, 11, 12, 150, 151, 152, 153, 154, 155] (by decide +kernel) (by decide +kernel)
set_option maxRecDepth 20000 in
theorem gL_names_X4_clearText : GoodIn wsL_names (wsV RL 49 RX4 yX4_clearText wsX4_clearText) := goodIn_app (goodIn_of _ (by decide +kernel)) ggL_names_X4_clearText
set_option maxRecDepth 20000 in
theorem ggL_names_L_name : GoodIn wsL_names wsL_name := goodIn_r _ [16] (by decide +kernel) (by decide +kernel)
set_option maxRecDepth 20000 in
theorem gL_names_L_name : GoodIn wsL_names (va_wsS RL 53 yL_name wsL_name) := goodIn_app (goodIn_of _ (by decide +kernel)) ggL_names_L_name
set_option maxRecDepth 20000 in
theorem ggL_names_L_wide : GoodIn wsL_names wsL_wide := goodIn_r _ [19] (by decide +kernel) (by decide +kernel)
set_option maxRecDepth 20000 in
theorem gL_names_L_wide : GoodIn wsL_names (va_wsS RL 17 yL_wide wsL_wide) := goodIn_app (goodIn_of _ (by decide +kernel)) ggL_names_L_wide
set_option maxRecDepth 20000 in
theorem ggL_names_X4_type : GoodIn wsL_names wsX4_type := goodIn_r _ [23, 24, 11, 12, 25, 26, 27, 28, 29, 30, 31, 32, 150, 151, 152, 153, 154, 155] (by decide +kernel) (by decide +kernel)
set_option maxRecDepth 20000 in
theorem gL_names_X4_type : GoodIn wsL_names (wsV RL 44 RX4 yX4_type wsX4_type) := goodIn_app (goodIn_of _ (by decide +kernel)) ggL_names_X4_type
set_option maxRecDepth 20000 in
theorem ggL_names_L_squeeze : GoodIn wsL_names wsL_squeeze := goodIn_r _ [35] (by decide +kernel) (by decide +kernel)
set_option maxRecDepth 20000 in
theorem gL_names_L_squeeze : GoodIn wsL_names (va_wsS RL 40 yL_squeeze wsL_squeeze) := goodIn_app (goodIn_of _ (by decide +kernel)) ggL_names_L_squeeze
set_option maxRecDepth 20000 in
theorem ggL_names_X4_fault : GoodIn wsL_names wsX4_fault := goodIn_r _ [39, 24, 40, 41, 42, 43, 9, 44, 11, 12, 45, 46, 47, 29, 48, 31, 32, 49, 50, 51, 52, 53, 54, 55, 56, 57, 58, 59, 60, 61, 62, 63, 64, 65, 66, 67, 68, 69, 70, 71, 72, 73, 74, 75, 76, 77, 78, 79, 80, 81, 82, 150, 151, 152, 153, 154, 155, 156, 157, 158, 159, 160, 161, 162, 163, 164, 165, 166] (by decide +kernel) (by decide +kernel)
