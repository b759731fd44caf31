set_option maxRecDepth 20000 in
theorem gL_names_X4_fault : GoodIn wsL_names (wsV RL 57 RX4 yX4_fault wsX4_fault) := goodIn_app (goodIn_of _ (by decide +kernel)) ggL_names_X4_fault
set_option maxRecDepth 20000 in
theorem ggL_names_X4_add_wsX4_add_r1 : GoodIn wsL_names wsX4_add_r1 := goodIn_sub (in_of_map (ps := [87, 11, 12, 53, 41, 42, 43, 9, 44, 45, 46, 47, 29, 48, 31, 32, 49, 50, 51, 52, 54, 55, 56, 57]) (by decide +kernel)) (by decide +kernel)
set_option maxRecDepth 20000 in
theorem ggL_names_X4_add_wsX4_add_r2 : GoodIn wsL_names wsX4_add_r2 := goodIn_sub (in_of_map (ps := [58, 59, 60, 61, 62, 63, 64, 65, 66, 67, 68, 69, 70, 71, 72, 73, 74, 75, 76, 77, 78, 88, 89, 90]) (by decide +kernel)) (by decide +kernel)
set_option maxRecDepth 20000 in
theorem ggL_names_X4_add_wsX4_add_r3 : GoodIn wsL_names wsX4_add_r3 := goodIn_sub (in_of_map (ps := [91, 92, 93, 94, 95, 96, 97, 98, 99, 100, 101, 102, 103, 104, 105, 106, 107, 108, 109, 110, 111, 112, 113, 114]) (by decide +kernel)) (by decide +kernel)
set_option maxRecDepth 20000 in
theorem ggL_names_X4_add_wsX4_add_r4 : GoodIn wsL_names wsX4_add_r4 := goodIn_sub (in_of_map (ps := [115, 116, 117, 118, 119, 120, 121, 122, 123, 124, 125, 126, 127, 128, 129, 130, 131, 132, 133, 134, 135, 136, 137, 138]) (by decide +kernel)) (by decide +kernel)
set_option maxRecDepth 20000 in
theorem ggL_names_X4_add_wsX40 : GoodIn wsL_names wsX40 := goodIn_sub (in_of_map (ps := [150, 151, 152, 153]) (by decide +kernel)) (by decide +kernel)
set_option maxRecDepth 20000 in
theorem ggL_names_X4_add_wsX30 : GoodIn wsL_names wsX30 := goodIn_sub (in_of_map (ps := [154, 155]) (by decide +kernel)) (by decide +kernel)
set_option maxRecDepth 20000 in
theorem ggL_names_X4_add_wsX00 : GoodIn wsL_names wsX00 := goodIn_sub (in_of_map (ps := [156, 157, 158, 159, 160, 161, 162, 163, 164, 165, 166]) (by decide +kernel)) (by decide +kernel)
set_option maxRecDepth 20000 in
theorem ggL_names_X4_add_wsX20 : GoodIn wsL_names wsX20 := goodIn_sub (in_of_map (ps := [167, 168, 169, 170]) (by decide +kernel)) (by decide +kernel)
set_option maxRecDepth 20000 in
theorem ggL_names_X4_add_wsX10 : GoodIn wsL_names wsX10 := goodIn_sub (in_of_map (ps := [171, 172, 173]) (by decide +kernel)) (by decide +kernel)
theorem ggL_names_X4_add : GoodIn wsL_names wsX4_add := goodIn_cons (goodIn_sub (in_of_map (ps := [86]) rfl) (by decide +kernel)) (goodIn_app (goodIn_app (goodIn_app (goodIn_app (goodIn_app (goodIn_app (ggL_names_X4_add_wsX4_add_r1) (goodIn_app (ggL_names_X4_add_wsX4_add_r2) (goodIn_app (ggL_names_X4_add_wsX4_add_r3) (ggL_names_X4_add_wsX4_add_r4)))) (ggL_names_X4_add_wsX40)) (ggL_names_X4_add_wsX30)) (ggL_names_X4_add_wsX00)) (ggL_names_X4_add_wsX20)) (ggL_names_X4_add_wsX10))
set_option maxRecDepth 20000 in
theorem gL_names_X4_add : GoodIn wsL_names (wsV RL 61 RX4 yX4_add wsX4_add) := goodIn_app (goodIn_of _ (by decide +kernel)) ggL_names_X4_add
set_option maxRecDepth 20000 in
theorem ggL_names_X4_find : GoodIn wsL_names wsX4_find := goodIn_r _ [142, 53, 54, 11, 143, 40, 144, 145, 146, 29, 147, 148, 31, 149, 32, 150, 151, 152, 153, 156, 157, 158, 159, 160, 161, 162, 163, 164, 165, 166, 167, 168, 169, 170, 154, 155] (by decide +kernel) (by decide +kernel)
