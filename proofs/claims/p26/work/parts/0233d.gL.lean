set_option maxRecDepth 20000 in
theorem gL_rolls_X4_mend : GoodIn wsL_rolls (wsV RL 72 RX4 yX4_mend wsX4_mend) := goodIn_app (goodIn_of _ (by decide +kernel)) ggL_rolls_X4_mend
set_option maxRecDepth 20000 in
theorem ggL_rolls_X4_crank_wsX4_crank_r1 : GoodIn wsL_rolls wsX4_crank_r1 := goodIn_sub (in_of_map (ps := [10, 9, 11, 75, 12, 85, 86, 7, 87, 19, 20, 21, 22, 23, 24, 25, 26, 27, 16, 28, 29, 30, 31, 32]) (by decide +kernel)) (by decide +kernel)
set_option maxRecDepth 20000 in
theorem ggL_rolls_X4_crank_wsX4_crank_r2 : GoodIn wsL_rolls wsX4_crank_r2 := goodIn_sub (in_of_map (ps := [33, 34, 35, 18, 36, 37, 38, 39, 40, 41, 42, 43, 44, 45, 46, 47, 48, 49, 50, 51, 52, 53, 54, 55]) (by decide +kernel)) (by decide +kernel)
set_option maxRecDepth 20000 in
theorem ggL_rolls_X4_crank_wsX4_crank_r3 : GoodIn wsL_rolls wsX4_crank_r3 := goodIn_sub (in_of_map (ps := [56, 57, 58, 59, 60, 88, 89, 90, 91, 92, 93, 94, 95, 96, 97, 98, 99, 100, 101, 102, 103, 104, 105, 106]) (by decide +kernel)) (by decide +kernel)
set_option maxRecDepth 20000 in
theorem ggL_rolls_X4_crank_wsX4_crank_r4 : GoodIn wsL_rolls wsX4_crank_r4 := goodIn_sub (in_of_map (ps := [107, 108, 109, 110, 111, 112, 113, 114, 115, 116, 117, 118, 119, 120, 121]) (by decide +kernel)) (by decide +kernel)
set_option maxRecDepth 20000 in
theorem ggL_rolls_X4_crank_wsX40 : GoodIn wsL_rolls wsX40 := goodIn_sub (in_of_map (ps := [159, 160, 161, 162]) (by decide +kernel)) (by decide +kernel)
set_option maxRecDepth 20000 in
theorem ggL_rolls_X4_crank_wsX00 : GoodIn wsL_rolls wsX00 := goodIn_sub (in_of_map (ps := [163, 164, 165, 166, 167, 168, 169, 170, 171, 172, 173]) (by decide +kernel)) (by decide +kernel)
set_option maxRecDepth 20000 in
theorem ggL_rolls_X4_crank_wsX20 : GoodIn wsL_rolls wsX20 := goodIn_sub (in_of_map (ps := [174, 175, 176, 177]) (by decide +kernel)) (by decide +kernel)
set_option maxRecDepth 20000 in
theorem ggL_rolls_X4_crank_wsX10 : GoodIn wsL_rolls wsX10 := goodIn_sub (in_of_map (ps := [178, 179, 180]) (by decide +kernel)) (by decide +kernel)
theorem ggL_rolls_X4_crank : GoodIn wsL_rolls wsX4_crank := goodIn_cons (goodIn_sub (in_of_map (ps := [84]) rfl) (by decide +kernel)) (goodIn_app (goodIn_app (goodIn_app (goodIn_app (goodIn_app (ggL_rolls_X4_crank_wsX4_crank_r1) (goodIn_app (ggL_rolls_X4_crank_wsX4_crank_r2) (goodIn_app (ggL_rolls_X4_crank_wsX4_crank_r3) (ggL_rolls_X4_crank_wsX4_crank_r4)))) (ggL_rolls_X4_crank_wsX40)) (ggL_rolls_X4_crank_wsX00)) (ggL_rolls_X4_crank_wsX20)) (ggL_rolls_X4_crank_wsX10))
set_option maxRecDepth 20000 in
theorem gL_rolls_X4_crank : GoodIn wsL_rolls (wsV RL 75 RX4 yX4_crank wsX4_crank) := goodIn_app (goodIn_of _ (by decide +kernel)) ggL_rolls_X4_crank
set_option maxRecDepth 20000 in
theorem ggL_rolls_X4_route : GoodIn wsL_rolls wsX4_route := goodIn_r _ [125, 9, 11, 10, 126, 127, 19, 20, 21, 7, 22, 23, 24, 25, 26, 27, 16, 28, 29, 30, 31, 32, 33, 34, 35, 18, 36, 37, 38, 39, 40, 41, 42, 43, 44, 45, 46, 47, 48, 49, 50, 51, 52, 53, 54, 55, 56, 57, 58, 59, 60, 128, 129, 130, 131, 132, 133, 134, 135, 159, 160, 161, 162, 163, 164, 165, 166, 167, 168, 169, 170, 171, 172, 173, 174, 175, 176, 177, 178, 179, 180] (by decide +kernel) (by decide +kernel)
