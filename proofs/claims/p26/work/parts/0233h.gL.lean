set_option maxRecDepth 20000 in
theorem gL_acts_X4_stop : GoodIn wsL_acts (wsV RL 111 RX4 yX4_stop wsX4_stop) := goodIn_app (goodIn_of _ (by decide +kernel)) ggL_acts_X4_stop
set_option maxRecDepth 20000 in
theorem ggL_acts_X4_set : GoodIn wsL_acts wsX4_set := goodIn_r _ [372, 373, 374, 33, 62, 375, 97, 98, 99, 19, 100, 101, 102, 103, 104, 105, 85, 106, 107, 108, 87, 109, 110, 111, 112, 113, 114, 115, 116, 117, 118, 119, 120, 121, 122, 123, 124, 125, 126, 127, 128, 129, 130, 131, 132, 133, 134, 135, 136, 137, 138, 376, 377, 378, 379, 382, 383, 384, 385, 386, 387, 388, 389, 390, 391, 392, 393, 394, 395, 396, 397, 398, 399] (by decide +kernel) (by decide +kernel)
set_option maxRecDepth 20000 in
theorem gL_acts_X4_set : GoodIn wsL_acts (wsV RL 114 RX4 yX4_set wsX4_set) := goodIn_app (goodIn_of _ (by decide +kernel)) ggL_acts_X4_set
set_option maxRecDepth 20000 in
theorem ggL_areRows_X4_rowOf_wsX4_rowOf_r1 : GoodIn wsL_areRows wsX4_rowOf_r1 := goodIn_sub (in_of_map (ps := [8, 9, 10, 11, 12, 13, 14, 15, 16, 17, 18, 19, 20, 21, 22, 23, 24, 25, 26, 27, 28, 6, 29, 30]) (by decide +kernel)) (by decide +kernel)
set_option maxRecDepth 20000 in
theorem ggL_areRows_X4_rowOf_wsX4_rowOf_r2 : GoodIn wsL_areRows wsX4_rowOf_r2 := goodIn_sub (in_of_map (ps := [31, 32, 33, 34, 35, 36, 37, 38, 39, 40, 41, 42, 43, 44, 45, 46, 47, 48, 49, 50, 51, 52, 53, 54]) (by decide +kernel)) (by decide +kernel)
set_option maxRecDepth 20000 in
theorem ggL_areRows_X4_rowOf_wsX4_rowOf_r3 : GoodIn wsL_areRows wsX4_rowOf_r3 := goodIn_sub (in_of_map (ps := [55, 56, 57, 58, 59, 60, 61, 62, 63, 64, 65, 66, 67, 68, 69, 70, 71, 72, 73, 74, 75, 76, 77, 78]) (by decide +kernel)) (by decide +kernel)
set_option maxRecDepth 20000 in
theorem ggL_areRows_X4_rowOf_wsX4_rowOf_r4 : GoodIn wsL_areRows wsX4_rowOf_r4 := goodIn_sub (in_of_map (ps := [79, 80, 81, 82, 83, 84, 85, 86, 87, 88, 89, 90, 91, 92, 93, 94, 95, 96, 97, 98, 99, 100, 101, 102]) (by decide +kernel)) (by decide +kernel)
set_option maxRecDepth 20000 in
theorem ggL_areRows_X4_rowOf_wsX4_rowOf_r5 : GoodIn wsL_areRows wsX4_rowOf_r5 := goodIn_sub (in_of_map (ps := [103]) (by decide +kernel)) (by decide +kernel)
set_option maxRecDepth 20000 in
theorem ggL_areRows_X4_rowOf_wsX40 : GoodIn wsL_areRows wsX40 := goodIn_sub (in_of_map (ps := [172, 173, 174, 175]) (by decide +kernel)) (by decide +kernel)
set_option maxRecDepth 20000 in
theorem ggL_areRows_X4_rowOf_wsX00 : GoodIn wsL_areRows wsX00 := goodIn_sub (in_of_map (ps := [176, 177, 178, 179, 180, 181, 182, 183, 184, 185, 186]) (by decide +kernel)) (by decide +kernel)
set_option maxRecDepth 20000 in
theorem ggL_areRows_X4_rowOf_wsX20 : GoodIn wsL_areRows wsX20 := goodIn_sub (in_of_map (ps := [187, 188, 189, 190]) (by decide +kernel)) (by decide +kernel)
set_option maxRecDepth 20000 in
theorem ggL_areRows_X4_rowOf_wsX10 : GoodIn wsL_areRows wsX10 := goodIn_sub (in_of_map (ps := [191, 192, 193]) (by decide +kernel)) (by decide +kernel)
theorem ggL_areRows_X4_rowOf : GoodIn wsL_areRows wsX4_rowOf := goodIn_cons (goodIn_sub (in_of_map (ps := [7]) rfl) (by decide +kernel)) (goodIn_app (goodIn_app (goodIn_app (goodIn_app (goodIn_app (ggL_areRows_X4_rowOf_wsX4_rowOf_r1) (goodIn_app (ggL_areRows_X4_rowOf_wsX4_rowOf_r2) (goodIn_app (ggL_areRows_X4_rowOf_wsX4_rowOf_r3) (goodIn_app (ggL_areRows_X4_rowOf_wsX4_rowOf_r4) (ggL_areRows_X4_rowOf_wsX4_rowOf_r5))))) (ggL_areRows_X4_rowOf_wsX40)) (ggL_areRows_X4_rowOf_wsX00)) (ggL_areRows_X4_rowOf_wsX20)) (ggL_areRows_X4_rowOf_wsX10))
