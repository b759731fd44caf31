set_option maxRecDepth 20000 in
theorem gL_rolls_X4_route : GoodIn wsL_rolls (wsV RL 79 RX4 yX4_route wsX4_route) := goodIn_app (goodIn_of _ (by decide +kernel)) ggL_rolls_X4_route
set_option maxRecDepth 20000 in
theorem ggL_rolls_L_moved : GoodIn wsL_rolls wsL_moved := goodIn_r _ [139] (by decide +kernel) (by decide +kernel)
set_option maxRecDepth 20000 in
theorem gL_rolls_L_moved : GoodIn wsL_rolls (va_wsS RL 82 yL_moved wsL_moved) := goodIn_app (goodIn_of _ (by decide +kernel)) ggL_rolls_L_moved
set_option maxRecDepth 20000 in
theorem ggL_rolls_X4_swap : GoodIn wsL_rolls wsX4_swap := goodIn_r _ [143, 9, 10, 12, 13, 14, 15, 16, 17, 18, 19, 20, 21, 7, 22, 23, 24, 25, 26, 27, 28, 29, 30, 31, 32, 33, 34, 35, 36, 37, 38, 39, 40, 41, 42, 43, 44, 45, 46, 47, 48, 49, 50, 51, 52, 53, 54, 55, 56, 57, 58, 59, 60, 144, 145, 146, 147, 148, 149, 150, 151, 152, 153, 154, 155, 159, 160, 161, 162, 163, 164, 165, 166, 167, 168, 169, 170, 171, 172, 173, 174, 175, 176, 177, 178, 179, 180] (by decide +kernel) (by decide +kernel)
set_option maxRecDepth 20000 in
theorem gL_rolls_X4_swap : GoodIn wsL_rolls (wsV RL 85 RX4 yX4_swap wsX4_swap) := goodIn_app (goodIn_of _ (by decide +kernel)) ggL_rolls_X4_swap
set_option maxRecDepth 20000 in
theorem ggL_rolls_L_crank : GoodIn wsL_rolls wsL_crank := goodIn_r _ [158] (by decide +kernel) (by decide +kernel)
set_option maxRecDepth 20000 in
theorem gL_rolls_L_crank : GoodIn wsL_rolls (va_wsS RL 88 yL_crank wsL_crank) := goodIn_app (goodIn_of _ (by decide +kernel)) ggL_rolls_L_crank
set_option maxRecDepth 20000 in
theorem ggL_acts_L_low : GoodIn wsL_acts wsL_low := goodIn_r _ [6, 7] (by decide +kernel) (by decide +kernel)
set_option maxRecDepth 20000 in
theorem gL_acts_L_low : GoodIn wsL_acts (va_wsS RL 93 yL_low wsL_low) := goodIn_app (goodIn_of _ (by decide +kernel)) ggL_acts_L_low
set_option maxRecDepth 20000 in
theorem ggL_acts_L_names_wsL_names_r1 : GoodIn wsL_acts wsL_names_r1 := goodIn_sub (in_of_map (ps := [11, 12, 13, 14, 15, 16, 17, 18, 19, 20, 21, 22, 23, 24, 5, 25, 26, 27, 28, 29, 30, 31, 32, 33]) (by decide +kernel)) (by decide +kernel)
set_option maxRecDepth 20000 in
theorem ggL_acts_L_names_wsL_names_r2 : GoodIn wsL_acts wsL_names_r2 := goodIn_sub (in_of_map (ps := [34, 35, 36, 37, 38, 39, 40, 41, 42, 43, 44, 45, 46, 47, 48, 49, 50, 51, 52, 53, 54, 55, 56, 57]) (by decide +kernel)) (by decide +kernel)
set_option maxRecDepth 20000 in
theorem ggL_acts_L_names_wsL_names_r3 : GoodIn wsL_acts wsL_names_r3 := goodIn_sub (in_of_map (ps := [58, 59, 60, 61, 62, 63, 64, 65, 66, 67, 68, 69, 70, 71, 72, 73, 74, 75, 76, 77, 78, 79, 80, 81]) (by decide +kernel)) (by decide +kernel)
set_option maxRecDepth 20000 in
theorem ggL_acts_L_names_wsL_names_r4 : GoodIn wsL_acts wsL_names_r4 := goodIn_sub (in_of_map (ps := [82, 83, 84, 85, 86, 87, 88, 89, 90, 91, 92, 93, 94, 95, 96, 97, 98, 99, 100, 101, 102, 103, 104, 105]) (by decide +kernel)) (by decide +kernel)
set_option maxRecDepth 20000 in
theorem ggL_acts_L_names_wsL_names_r5 : GoodIn wsL_acts wsL_names_r5 := goodIn_sub (in_of_map (ps := [106, 107, 108, 109, 110, 111, 112, 113, 114, 115, 116, 117, 118, 119, 120, 121, 122, 123, 124, 125, 126, 127, 128, 129]) (by decide +kernel)) (by decide +kernel)
set_option maxRecDepth 20000 in
theorem ggL_acts_L_names_wsL_names_r6 : GoodIn wsL_acts wsL_names_r6 := goodIn_sub (in_of_map (ps := [130, 131, 132, 133, 134, 135, 136, 137, 138, 139, 140, 141, 142, 143, 144, 145, 146, 147, 148, 149, 150, 151, 152, 153]) (by decide +kernel)) (by decide +kernel)
set_option maxRecDepth 20000 in
theorem ggL_acts_L_names_wsL_names_r7 : GoodIn wsL_acts wsL_names_r7 := goodIn_sub (in_of_map (ps := [154, 155, 156, 157, 158]) (by decide +kernel)) (by decide +kernel)
set_option maxRecDepth 20000 in
theorem ggL_acts_L_names_wsX40 : GoodIn wsL_acts wsX40 := goodIn_sub (in_of_map (ps := [376, 377, 378, 379]) (by decide +kernel)) (by decide +kernel)
set_option maxRecDepth 20000 in
theorem ggL_acts_L_names_wsX30 : GoodIn wsL_acts wsX30 := goodIn_sub (in_of_map (ps := [380, 381]) (by decide +kernel)) (by decide +kernel)
set_option maxRecDepth 20000 in
theorem ggL_acts_L_names_wsX00 : GoodIn wsL_acts wsX00 := goodIn_sub (in_of_map (ps := [382, 383, 384, 385, 386, 387, 388, 389, 390, 391, 392]) (by decide +kernel)) (by decide +kernel)
set_option maxRecDepth 20000 in
theorem ggL_acts_L_names_wsX20 : GoodIn wsL_acts wsX20 := goodIn_sub (in_of_map (ps := [393, 394, 395, 396]) (by decide +kernel)) (by decide +kernel)
set_option maxRecDepth 20000 in
theorem ggL_acts_L_names_wsX10 : GoodIn wsL_acts wsX10 := goodIn_sub (in_of_map (ps := [397, 398, 399]) (by decide +kernel)) (by decide +kernel)
theorem ggL_acts_L_names : GoodIn wsL_acts wsL_names := goodIn_cons (goodIn_sub (in_of_map (ps := [10]) rfl) (by decide +kernel)) (goodIn_app (goodIn_app (goodIn_app (goodIn_app (goodIn_app (goodIn_app (ggL_acts_L_names_wsL_names_r1) (goodIn_app (ggL_acts_L_names_wsL_names_r2) (goodIn_app (ggL_acts_L_names_wsL_names_r3) (goodIn_app (ggL_acts_L_names_wsL_names_r4) (goodIn_app (ggL_acts_L_names_wsL_names_r5) (goodIn_app (ggL_acts_L_names_wsL_names_r6) (ggL_acts_L_names_wsL_names_r7))))))) (ggL_acts_L_names_wsX40)) (ggL_acts_L_names_wsX30)) (ggL_acts_L_names_wsX00)) (ggL_acts_L_names_wsX20)) (ggL_acts_L_names_wsX10))
