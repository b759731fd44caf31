set_option maxRecDepth 20000 in
theorem ggL_law_X4_init : GoodIn wsL_law wsX4_init := goodIn_r _ [9, 10, 11, 12, 13, 14, 15, 16, 17, 18, 19, 20, 21, 22, 23, 24, 25, 26, 27, 28, 29, 30, 31, 32, 33, 34, 35, 36, 37, 38, 39, 40, 41, 3, 42, 43, 44, 45, 46, 47, 48, 49, 50, 51, 52, 53, 54, 55, 477, 478, 473, 474, 475, 476, 479, 480, 481, 482, 483, 484, 485, 486, 487, 488, 489, 490, 491, 492, 493, 494, 495, 496] (by decide +kernel) (by decide +kernel)
set_option maxRecDepth 20000 in
theorem gL_law_X4_init : GoodIn wsL_law (wsX4_init) := ggL_law_X4_init
set_option maxRecDepth 20000 in
theorem ggL_law_X4_count_wsX4_count_r1 : GoodIn wsL_law wsX4_count_r1 := goodIn_sub (in_of_map (ps := [20, 60, 61, 62, 63, 64, 65, 66, 67, 68, 22, 16, 69, 70, 71, 72, 73, 74, 19, 75, 76, 35, 77, 78]) (by decide +kernel)) (by decide +kernel)
set_option maxRecDepth 20000 in
theorem ggL_law_X4_count_wsX4_count_r2 : GoodIn wsL_law wsX4_count_r2 := goodIn_sub (in_of_map (ps := [79, 80, 81, 47, 39, 82, 83, 84, 85, 86, 87, 88, 37, 89, 90, 91, 92, 93, 94, 52, 95, 96, 97, 98]) (by decide +kernel)) (by decide +kernel)
set_option maxRecDepth 20000 in
theorem ggL_law_X4_count_wsX4_count_r3 : GoodIn wsL_law wsX4_count_r3 := goodIn_sub (in_of_map (ps := [99, 100, 101, 102, 103, 104, 105, 106, 107, 108, 109, 110, 111, 112, 113, 114, 115, 116, 117, 118, 119, 120, 121, 122]) (by decide +kernel)) (by decide +kernel)
set_option maxRecDepth 20000 in
theorem ggL_law_X4_count_wsX4_count_r4 : GoodIn wsL_law wsX4_count_r4 := goodIn_sub (in_of_map (ps := [123, 124, 125, 126, 127, 128, 129, 130, 131, 132, 133, 134, 135, 136, 137, 138, 139, 140, 141, 142, 143, 144, 145, 146]) (by decide +kernel)) (by decide +kernel)
set_option maxRecDepth 20000 in
theorem ggL_law_X4_count_wsX4_count_r5 : GoodIn wsL_law wsX4_count_r5 := goodIn_sub (in_of_map (ps := [147, 148, 149, 150, 151, 41, 152, 153, 154, 155, 156, 157, 158, 2, 159, 160, 161, 162, 163, 42, 164, 165, 166, 167]) (by decide +kernel)) (by decide +kernel)
set_option maxRecDepth 20000 in
theorem ggL_law_X4_count_wsX40 : GoodIn wsL_law wsX40 := goodIn_sub (in_of_map (ps := [473, 474, 475, 476]) (by decide +kernel)) (by decide +kernel)
set_option maxRecDepth 20000 in
theorem ggL_law_X4_count_wsX00 : GoodIn wsL_law wsX00 := goodIn_sub (in_of_map (ps := [479, 480, 481, 482, 483, 484, 485, 486, 487, 488, 489]) (by decide +kernel)) (by decide +kernel)
set_option maxRecDepth 20000 in
theorem ggL_law_X4_count_wsX30 : GoodIn wsL_law wsX30 := goodIn_sub (in_of_map (ps := [477, 478]) (by decide +kernel)) (by decide +kernel)
set_option maxRecDepth 20000 in
theorem ggL_law_X4_count_wsX20 : GoodIn wsL_law wsX20 := goodIn_sub (in_of_map (ps := [490, 491, 492, 493]) (by decide +kernel)) (by decide +kernel)
set_option maxRecDepth 20000 in
theorem ggL_law_X4_count_wsX10 : GoodIn wsL_law wsX10 := goodIn_sub (in_of_map (ps := [494, 495, 496]) (by decide +kernel)) (by decide +kernel)
theorem ggL_law_X4_count : GoodIn wsL_law wsX4_count := goodIn_cons (goodIn_sub (in_of_map (ps := [59]) rfl) (by decide +kernel)) (goodIn_app (goodIn_app (goodIn_app (goodIn_app (goodIn_app (goodIn_app (ggL_law_X4_count_wsX4_count_r1) (goodIn_app (ggL_law_X4_count_wsX4_count_r2) (goodIn_app (ggL_law_X4_count_wsX4_count_r3) (goodIn_app (ggL_law_X4_count_wsX4_count_r4) (ggL_law_X4_count_wsX4_count_r5))))) (ggL_law_X4_count_wsX40)) (ggL_law_X4_count_wsX00)) (ggL_law_X4_count_wsX30)) (ggL_law_X4_count_wsX20)) (ggL_law_X4_count_wsX10))
set_option maxRecDepth 20000 in
theorem gL_law_X4_count : GoodIn wsL_law (wsV RL 123 RX4 yX4_count wsX4_count) := goodIn_app (goodIn_of _ (by decide +kernel)) ggL_law_X4_count
