set_option maxRecDepth 20000 in
theorem gL_areRoutes_X4_count : GoodIn wsL_areRoutes (wsV RL 123 RX4 yX4_count wsX4_count) := goodIn_app (goodIn_of _ (by decide +kernel)) ggL_areRoutes_X4_count
set_option maxRecDepth 20000 in
theorem ggL_isSo_L_areRows_wsL_areRows_r1 : GoodIn wsL_isSo wsL_areRows_r1 := goodIn_sub (in_of_map (ps := [6, 1, 7, 8, 9, 10, 11, 12, 13, 14, 15, 16, 17, 18, 19, 20, 21, 22, 23, 24, 25, 26, 27, 28]) (by decide +kernel)) (by decide +kernel)
set_option maxRecDepth 20000 in
theorem ggL_isSo_L_areRows_wsL_areRows_r2 : GoodIn wsL_isSo wsL_areRows_r2 := goodIn_sub (in_of_map (ps := [29, 30, 31, 32, 33, 34, 35, 36, 37, 38, 39, 40, 41, 42, 43, 44, 45, 46, 47, 48, 49, 50, 51, 52]) (by decide +kernel)) (by decide +kernel)
set_option maxRecDepth 20000 in
theorem ggL_isSo_L_areRows_wsL_areRows_r3 : GoodIn wsL_isSo wsL_areRows_r3 := goodIn_sub (in_of_map (ps := [53, 54, 55, 56, 57, 58, 59, 60, 61, 62, 63, 64, 65, 66, 67, 68, 69, 70, 71, 72, 73, 74, 75, 76]) (by decide +kernel)) (by decide +kernel)
set_option maxRecDepth 20000 in
theorem ggL_isSo_L_areRows_wsL_areRows_r4 : GoodIn wsL_isSo wsL_areRows_r4 := goodIn_sub (in_of_map (ps := [77, 78, 79, 80, 81, 82, 83, 84, 85, 86, 87, 88, 89, 90, 91, 92, 93, 94, 95, 96, 97, 98, 99, 100]) (by decide +kernel)) (by decide +kernel)
set_option maxRecDepth 20000 in
theorem ggL_isSo_L_areRows_wsL_areRows_r5 : GoodIn wsL_isSo wsL_areRows_r5 := goodIn_sub (in_of_map (ps := [101, 102, 103, 104, 105, 106, 107, 108, 109, 110, 111, 112, 113, 114, 115, 4, 116, 117, 118, 119, 120, 121, 122, 123]) (by decide +kernel)) (by decide +kernel)
set_option maxRecDepth 20000 in
theorem ggL_isSo_L_areRows_wsL_areRows_r6 : GoodIn wsL_isSo wsL_areRows_r6 := goodIn_sub (in_of_map (ps := [124, 125, 126, 127, 128, 129, 130, 131, 132, 133, 134, 135, 136, 137, 138, 139, 140, 141, 142, 143, 144, 145, 146, 147]) (by decide +kernel)) (by decide +kernel)
set_option maxRecDepth 20000 in
theorem ggL_isSo_L_areRows_wsL_areRows_r7 : GoodIn wsL_isSo wsL_areRows_r7 := goodIn_sub (in_of_map (ps := [148, 149, 150, 151, 152, 153, 154, 155, 156, 157, 158, 159, 160, 161, 162, 163, 164, 165, 166, 167, 168, 169, 170, 171]) (by decide +kernel)) (by decide +kernel)
set_option maxRecDepth 20000 in
theorem ggL_isSo_L_areRows_wsL_areRows_r8 : GoodIn wsL_isSo wsL_areRows_r8 := goodIn_sub (in_of_map (ps := [172, 173, 174]) (by decide +kernel)) (by decide +kernel)
set_option maxRecDepth 20000 in
theorem ggL_isSo_L_areRows_wsX40 : GoodIn wsL_isSo wsX40 := goodIn_sub (in_of_map (ps := [197, 198, 199, 200]) (by decide +kernel)) (by decide +kernel)
set_option maxRecDepth 20000 in
theorem ggL_isSo_L_areRows_wsX00 : GoodIn wsL_isSo wsX00 := goodIn_sub (in_of_map (ps := [201, 202, 203, 204, 205, 206, 207, 208, 209, 210, 211]) (by decide +kernel)) (by decide +kernel)
set_option maxRecDepth 20000 in
theorem ggL_isSo_L_areRows_wsX20 : GoodIn wsL_isSo wsX20 := goodIn_sub (in_of_map (ps := [212, 213, 214, 215]) (by decide +kernel)) (by decide +kernel)
set_option maxRecDepth 20000 in
theorem ggL_isSo_L_areRows_wsX10 : GoodIn wsL_isSo wsX10 := goodIn_sub (in_of_map (ps := [216, 217, 218]) (by decide +kernel)) (by decide +kernel)
set_option maxRecDepth 20000 in
theorem ggL_isSo_L_areRows_wsX30 : GoodIn wsL_isSo wsX30 := goodIn_sub (in_of_map (ps := [219, 220]) (by decide +kernel)) (by decide +kernel)
theorem ggL_isSo_L_areRows : GoodIn wsL_isSo wsL_areRows := goodIn_cons (goodIn_sub (in_of_map (ps := [5]) rfl) (by decide +kernel)) (goodIn_app (goodIn_app (goodIn_app (goodIn_app (goodIn_app (goodIn_app (ggL_isSo_L_areRows_wsL_areRows_r1) (goodIn_app (ggL_isSo_L_areRows_wsL_areRows_r2) (goodIn_app (ggL_isSo_L_areRows_wsL_areRows_r3) (goodIn_app (ggL_isSo_L_areRows_wsL_areRows_r4) (goodIn_app (ggL_isSo_L_areRows_wsL_areRows_r5) (goodIn_app (ggL_isSo_L_areRows_wsL_areRows_r6) (goodIn_app (ggL_isSo_L_areRows_wsL_areRows_r7) (ggL_isSo_L_areRows_wsL_areRows_r8)))))))) (ggL_isSo_L_areRows_wsX40)) (ggL_isSo_L_areRows_wsX00)) (ggL_isSo_L_areRows_wsX20)) (ggL_isSo_L_areRows_wsX10)) (ggL_isSo_L_areRows_wsX30))
