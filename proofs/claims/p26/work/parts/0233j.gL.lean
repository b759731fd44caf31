set_option maxRecDepth 20000 in
theorem gL_areRows_X4_count : GoodIn wsL_areRows (wsV RL 123 RX4 yX4_count wsX4_count) := goodIn_app (goodIn_of _ (by decide +kernel)) ggL_areRows_X4_count
set_option maxRecDepth 20000 in
theorem ggL_areRoutes_X4_routeOf : GoodIn wsL_areRoutes wsX4_routeOf := goodIn_r _ [6, 7, 8, 9, 10, 11, 12, 13, 14, 15, 16, 17, 18, 19, 20, 21, 22, 23, 24, 25, 26, 27, 28, 29, 30, 31, 32, 142, 143, 144, 145, 146, 147, 148, 149, 150, 151, 152, 153, 154, 155, 156, 157, 158, 159, 160, 161, 162, 163] (by decide +kernel) (by decide +kernel)
set_option maxRecDepth 20000 in
theorem gL_areRoutes_X4_routeOf : GoodIn wsL_areRoutes (wsV RL 126 RX4 yX4_routeOf wsX4_routeOf) := goodIn_app (goodIn_of _ (by decide +kernel)) ggL_areRoutes_X4_routeOf
set_option maxRecDepth 20000 in
theorem ggL_areRoutes_X4_count_wsX4_count_r1 : GoodIn wsL_areRoutes wsX4_count_r1 := goodIn_sub (in_of_map (ps := [7, 37, 38, 39, 40, 41, 42, 43, 44, 45, 46, 47, 48, 49, 8, 26, 27, 28, 16, 29, 30, 31, 32, 50]) (by decide +kernel)) (by decide +kernel)
set_option maxRecDepth 20000 in
theorem ggL_areRoutes_X4_count_wsX4_count_r2 : GoodIn wsL_areRoutes wsX4_count_r2 := goodIn_sub (in_of_map (ps := [51, 52, 53, 54, 55, 56, 57, 58, 59, 60, 61, 62, 63, 64, 65, 66, 67, 68, 69, 70, 71, 72, 73, 74]) (by decide +kernel)) (by decide +kernel)
set_option maxRecDepth 20000 in
theorem ggL_areRoutes_X4_count_wsX4_count_r3 : GoodIn wsL_areRoutes wsX4_count_r3 := goodIn_sub (in_of_map (ps := [75, 76, 77, 78, 79, 80, 81, 82, 83, 84, 85, 86, 87, 88, 89, 90, 91, 92, 93, 94, 95, 96, 97, 98]) (by decide +kernel)) (by decide +kernel)
set_option maxRecDepth 20000 in
theorem ggL_areRoutes_X4_count_wsX4_count_r4 : GoodIn wsL_areRoutes wsX4_count_r4 := goodIn_sub (in_of_map (ps := [99, 100, 101, 102, 103, 104, 105, 106, 107, 108, 109, 110, 111, 112, 113, 114, 115, 116, 117, 118, 119, 120, 14, 15]) (by decide +kernel)) (by decide +kernel)
set_option maxRecDepth 20000 in
theorem ggL_areRoutes_X4_count_wsX4_count_r5 : GoodIn wsL_areRoutes wsX4_count_r5 := goodIn_sub (in_of_map (ps := [17, 18, 121, 122, 123, 124, 125, 126, 127, 128, 129, 130, 131, 5, 132, 133, 134, 135, 136, 137, 138, 139, 140, 141]) (by decide +kernel)) (by decide +kernel)
set_option maxRecDepth 20000 in
theorem ggL_areRoutes_X4_count_wsX40 : GoodIn wsL_areRoutes wsX40 := goodIn_sub (in_of_map (ps := [142, 143, 144, 145]) (by decide +kernel)) (by decide +kernel)
set_option maxRecDepth 20000 in
theorem ggL_areRoutes_X4_count_wsX00 : GoodIn wsL_areRoutes wsX00 := goodIn_sub (in_of_map (ps := [146, 147, 148, 149, 150, 151, 152, 153, 154, 155, 156]) (by decide +kernel)) (by decide +kernel)
set_option maxRecDepth 20000 in
theorem ggL_areRoutes_X4_count_wsX30 : GoodIn wsL_areRoutes wsX30 := goodIn_sub (in_of_map (ps := [164, 165]) (by decide +kernel)) (by decide +kernel)
set_option maxRecDepth 20000 in
theorem ggL_areRoutes_X4_count_wsX20 : GoodIn wsL_areRoutes wsX20 := goodIn_sub (in_of_map (ps := [160, 161, 162, 163]) (by decide +kernel)) (by decide +kernel)
set_option maxRecDepth 20000 in
theorem ggL_areRoutes_X4_count_wsX10 : GoodIn wsL_areRoutes wsX10 := goodIn_sub (in_of_map (ps := [157, 158, 159]) (by decide +kernel)) (by decide +kernel)
theorem ggL_areRoutes_X4_count : GoodIn wsL_areRoutes wsX4_count := goodIn_cons (goodIn_sub (in_of_map (ps := [36]) rfl) (by decide +kernel)) (goodIn_app (goodIn_app (goodIn_app (goodIn_app (goodIn_app (goodIn_app (ggL_areRoutes_X4_count_wsX4_count_r1) (goodIn_app (ggL_areRoutes_X4_count_wsX4_count_r2) (goodIn_app (ggL_areRoutes_X4_count_wsX4_count_r3) (goodIn_app (ggL_areRoutes_X4_count_wsX4_count_r4) (ggL_areRoutes_X4_count_wsX4_count_r5))))) (ggL_areRoutes_X4_count_wsX40)) (ggL_areRoutes_X4_count_wsX00)) (ggL_areRoutes_X4_count_wsX30)) (ggL_areRoutes_X4_count_wsX20)) (ggL_areRoutes_X4_count_wsX10))
