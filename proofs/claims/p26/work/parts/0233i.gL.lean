set_option maxRecDepth 20000 in
theorem gL_areRows_X4_rowOf : GoodIn wsL_areRows (wsV RL 117 RX4 yX4_rowOf wsX4_rowOf) := goodIn_app (goodIn_of _ (by decide +kernel)) ggL_areRows_X4_rowOf
set_option maxRecDepth 20000 in
theorem ggL_areRows_X4_letter : GoodIn wsL_areRows wsX4_letter := goodIn_r _ [107, 8, 9, 10, 11, 108, 109, 15, 16, 17, 18, 19, 20, 172, 173, 174, 175, 176, 177, 178, 179, 180, 181, 182, 183, 184, 185, 186, 187, 188, 189, 190] (by decide +kernel) (by decide +kernel)
set_option maxRecDepth 20000 in
theorem gL_areRows_X4_letter : GoodIn wsL_areRows (wsV RL 120 RX4 yX4_letter wsX4_letter) := goodIn_app (goodIn_of _ (by decide +kernel)) ggL_areRows_X4_letter
set_option maxRecDepth 20000 in
theorem ggL_areRows_L_width : GoodIn wsL_areRows wsL_width := goodIn_r _ [113, 114, 115, 112, 116, 117, 118, 119, 120] (by decide +kernel) (by decide +kernel)
set_option maxRecDepth 20000 in
theorem gL_areRows_L_width : GoodIn wsL_areRows (va_wsS RL 37 yL_width wsL_width) := goodIn_app (goodIn_of _ (by decide +kernel)) ggL_areRows_L_width
set_option maxRecDepth 20000 in
theorem ggL_areRows_L_squeeze : GoodIn wsL_areRows wsL_squeeze := goodIn_r _ [123] (by decide +kernel) (by decide +kernel)
set_option maxRecDepth 20000 in
theorem gL_areRows_L_squeeze : GoodIn wsL_areRows (va_wsS RL 40 yL_squeeze wsL_squeeze) := goodIn_app (goodIn_of _ (by decide +kernel)) ggL_areRows_L_squeeze
set_option maxRecDepth 20000 in
theorem ggL_areRows_L_kind : GoodIn wsL_areRows wsL_kind := goodIn_r _ [126, 127, 128, 129, 130, 131, 112, 132, 133, 114, 115, 116, 117] (by decide +kernel) (by decide +kernel)
set_option maxRecDepth 20000 in
theorem gL_areRows_L_kind : GoodIn wsL_areRows (va_wsS RL 33 yL_kind wsL_kind) := goodIn_app (goodIn_of _ (by decide +kernel)) ggL_areRows_L_kind
set_option maxRecDepth 20000 in
theorem ggL_areRows_L_sign : GoodIn wsL_areRows wsL_sign := goodIn_r _ [116, 117] (by decide +kernel) (by decide +kernel)
set_option maxRecDepth 20000 in
theorem gL_areRows_L_sign : GoodIn wsL_areRows (va_wsS RL 11 yL_sign wsL_sign) := goodIn_app (goodIn_of _ (by decide +kernel)) ggL_areRows_L_sign
set_option maxRecDepth 20000 in
theorem ggL_areRows_X4_count_wsX4_count_r1 : GoodIn wsL_areRows wsX4_count_r1 := goodIn_sub (in_of_map (ps := [8, 138, 109, 14, 139, 140, 141, 142, 143, 144, 145, 146, 147, 148, 9, 149, 150, 151, 18, 152, 20, 153, 154, 155]) (by decide +kernel)) (by decide +kernel)
set_option maxRecDepth 20000 in
theorem ggL_areRows_X4_count_wsX4_count_r2 : GoodIn wsL_areRows wsX4_count_r2 := goodIn_sub (in_of_map (ps := [156, 157, 158, 159, 97, 160, 16, 17, 19, 161, 36, 37, 24, 38, 26, 39, 40, 41, 42, 27, 43, 44, 45, 46]) (by decide +kernel)) (by decide +kernel)
set_option maxRecDepth 20000 in
theorem ggL_areRows_X4_count_wsX4_count_r3 : GoodIn wsL_areRows wsX4_count_r3 := goodIn_sub (in_of_map (ps := [47, 48, 49, 50, 51, 52, 53, 54, 55, 56, 57, 58, 59, 60, 61, 62, 63, 64, 65, 66, 67, 68, 69, 70]) (by decide +kernel)) (by decide +kernel)
set_option maxRecDepth 20000 in
theorem ggL_areRows_X4_count_wsX4_count_r4 : GoodIn wsL_areRows wsX4_count_r4 := goodIn_sub (in_of_map (ps := [71, 72, 73, 74, 75, 76, 77, 78, 79, 80, 81, 82, 83, 84, 85, 86, 87, 88, 89, 90, 91, 162, 163, 164]) (by decide +kernel)) (by decide +kernel)
set_option maxRecDepth 20000 in
theorem ggL_areRows_X4_count_wsX4_count_r5 : GoodIn wsL_areRows wsX4_count_r5 := goodIn_sub (in_of_map (ps := [165, 96, 98, 99, 100, 101, 102, 103, 166, 22, 23, 25, 28, 6, 29, 167, 31, 32, 33, 34, 168, 169, 170, 171]) (by decide +kernel)) (by decide +kernel)
set_option maxRecDepth 20000 in
theorem ggL_areRows_X4_count_wsX40 : GoodIn wsL_areRows wsX40 := goodIn_sub (in_of_map (ps := [172, 173, 174, 175]) (by decide +kernel)) (by decide +kernel)
set_option maxRecDepth 20000 in
theorem ggL_areRows_X4_count_wsX00 : GoodIn wsL_areRows wsX00 := goodIn_sub (in_of_map (ps := [176, 177, 178, 179, 180, 181, 182, 183, 184, 185, 186]) (by decide +kernel)) (by decide +kernel)
set_option maxRecDepth 20000 in
theorem ggL_areRows_X4_count_wsX30 : GoodIn wsL_areRows wsX30 := goodIn_sub (in_of_map (ps := [194, 195]) (by decide +kernel)) (by decide +kernel)
set_option maxRecDepth 20000 in
theorem ggL_areRows_X4_count_wsX20 : GoodIn wsL_areRows wsX20 := goodIn_sub (in_of_map (ps := [187, 188, 189, 190]) (by decide +kernel)) (by decide +kernel)
set_option maxRecDepth 20000 in
theorem ggL_areRows_X4_count_wsX10 : GoodIn wsL_areRows wsX10 := goodIn_sub (in_of_map (ps := [191, 192, 193]) (by decide +kernel)) (by decide +kernel)
theorem ggL_areRows_X4_count : GoodIn wsL_areRows wsX4_count := goodIn_cons (goodIn_sub (in_of_map (ps := [137]) rfl) (by decide +kernel)) (goodIn_app (goodIn_app (goodIn_app (goodIn_app (goodIn_app (goodIn_app (ggL_areRows_X4_count_wsX4_count_r1) (goodIn_app (ggL_areRows_X4_count_wsX4_count_r2) (goodIn_app (ggL_areRows_X4_count_wsX4_count_r3) (goodIn_app (ggL_areRows_X4_count_wsX4_count_r4) (ggL_areRows_X4_count_wsX4_count_r5))))) (ggL_areRows_X4_count_wsX40)) (ggL_areRows_X4_count_wsX00)) (ggL_areRows_X4_count_wsX30)) (ggL_areRows_X4_count_wsX20)) (ggL_areRows_X4_count_wsX10))
