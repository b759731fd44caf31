set_option maxRecDepth 20000 in
theorem gL_isSo_L_areRows : GoodIn wsL_isSo (va_wsS RL 129 yL_areRows wsL_areRows) := goodIn_app (goodIn_of _ (by decide +kernel)) ggL_isSo_L_areRows
set_option maxRecDepth 20000 in
theorem ggL_isSo_L_areRoutes_wsL_areRoutes_r1 : GoodIn wsL_isSo wsL_areRoutes_r1 := goodIn_sub (in_of_map (ps := [6, 178, 179, 180, 10, 181, 12, 13, 182, 183, 184, 185, 186, 166, 167, 22, 168, 100, 187, 188, 189, 190, 191, 192]) (by decide +kernel)) (by decide +kernel)
set_option maxRecDepth 20000 in
theorem ggL_isSo_L_areRoutes_wsL_areRoutes_r2 : GoodIn wsL_isSo wsL_areRoutes_r2 := goodIn_sub (in_of_map (ps := [193, 152, 153, 154, 155, 24, 156, 157, 137, 138, 139, 140, 141, 113, 18, 142, 143, 144, 145, 146, 147, 148, 149, 150]) (by decide +kernel)) (by decide +kernel)
set_option maxRecDepth 20000 in
theorem ggL_isSo_L_areRoutes_wsL_areRoutes_r3 : GoodIn wsL_isSo wsL_areRoutes_r3 := goodIn_sub (in_of_map (ps := [151, 158, 159, 160, 161, 162, 101, 163, 20, 21, 23, 164, 40, 41, 28, 42, 30, 43, 44, 45, 46, 31, 47, 48]) (by decide +kernel)) (by decide +kernel)
set_option maxRecDepth 20000 in
theorem ggL_isSo_L_areRoutes_wsL_areRoutes_r4 : GoodIn wsL_isSo wsL_areRoutes_r4 := goodIn_sub (in_of_map (ps := [49, 50, 51, 52, 53, 54, 55, 56, 57, 58, 59, 60, 61, 62, 63, 64, 65, 66, 67, 68, 69, 70, 71, 72]) (by decide +kernel)) (by decide +kernel)
set_option maxRecDepth 20000 in
theorem ggL_isSo_L_areRoutes_wsL_areRoutes_r5 : GoodIn wsL_isSo wsL_areRoutes_r5 := goodIn_sub (in_of_map (ps := [73, 74, 75, 76, 77, 78, 79, 80, 81, 82, 83, 84, 85, 86, 87, 88, 89, 90, 91, 92, 93, 94, 95, 165]) (by decide +kernel)) (by decide +kernel)
set_option maxRecDepth 20000 in
theorem ggL_isSo_L_areRoutes_wsL_areRoutes_r6 : GoodIn wsL_isSo wsL_areRoutes_r6 := goodIn_sub (in_of_map (ps := [102, 103, 104, 105, 106, 107, 169, 26, 27, 29, 32, 33, 170, 35, 36, 37, 38, 171, 172, 173, 174]) (by decide +kernel)) (by decide +kernel)
set_option maxRecDepth 20000 in
theorem ggL_isSo_L_areRoutes_wsX40 : GoodIn wsL_isSo wsX40 := goodIn_sub (in_of_map (ps := [197, 198, 199, 200]) (by decide +kernel)) (by decide +kernel)
set_option maxRecDepth 20000 in
theorem ggL_isSo_L_areRoutes_wsX00 : GoodIn wsL_isSo wsX00 := goodIn_sub (in_of_map (ps := [201, 202, 203, 204, 205, 206, 207, 208, 209, 210, 211]) (by decide +kernel)) (by decide +kernel)
set_option maxRecDepth 20000 in
theorem ggL_isSo_L_areRoutes_wsX10 : GoodIn wsL_isSo wsX10 := goodIn_sub (in_of_map (ps := [216, 217, 218]) (by decide +kernel)) (by decide +kernel)
set_option maxRecDepth 20000 in
theorem ggL_isSo_L_areRoutes_wsX20 : GoodIn wsL_isSo wsX20 := goodIn_sub (in_of_map (ps := [212, 213, 214, 215]) (by decide +kernel)) (by decide +kernel)
set_option maxRecDepth 20000 in
theorem ggL_isSo_L_areRoutes_wsX30 : GoodIn wsL_isSo wsX30 := goodIn_sub (in_of_map (ps := [219, 220]) (by decide +kernel)) (by decide +kernel)
theorem ggL_isSo_L_areRoutes : GoodIn wsL_isSo wsL_areRoutes := goodIn_cons (goodIn_sub (in_of_map (ps := [177]) rfl) (by decide +kernel)) (goodIn_app (goodIn_app (goodIn_app (goodIn_app (goodIn_app (goodIn_app (ggL_isSo_L_areRoutes_wsL_areRoutes_r1) (goodIn_app (ggL_isSo_L_areRoutes_wsL_areRoutes_r2) (goodIn_app (ggL_isSo_L_areRoutes_wsL_areRoutes_r3) (goodIn_app (ggL_isSo_L_areRoutes_wsL_areRoutes_r4) (goodIn_app (ggL_isSo_L_areRoutes_wsL_areRoutes_r5) (ggL_isSo_L_areRoutes_wsL_areRoutes_r6)))))) (ggL_isSo_L_areRoutes_wsX40)) (ggL_isSo_L_areRoutes_wsX00)) (ggL_isSo_L_areRoutes_wsX10)) (ggL_isSo_L_areRoutes_wsX20)) (ggL_isSo_L_areRoutes_wsX30))
