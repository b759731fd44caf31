set_option maxRecDepth 20000 in
theorem ggL_width_L_sign : GoodIn wsL_width wsL_sign := goodIn_r _ [4, 5] (by decide +kernel) (by decide +kernel)
set_option maxRecDepth 20000 in
theorem gL_width_L_sign : GoodIn wsL_width (va_wsS RL 11 yL_sign wsL_sign) := goodIn_app (goodIn_of _ (by decide +kernel)) ggL_width_L_sign
set_option maxRecDepth 20000 in
theorem ggL_width_L_wide : GoodIn wsL_width wsL_wide := goodIn_r _ [8] (by decide +kernel) (by decide +kernel)
set_option maxRecDepth 20000 in
theorem gL_width_L_wide : GoodIn wsL_width (va_wsS RL 17 yL_wide wsL_wide) := goodIn_app (goodIn_of _ (by decide +kernel)) ggL_width_L_wide
set_option maxRecDepth 20000 in
theorem ggL_is_L_sign : GoodIn wsL_is wsL_sign := goodIn_r _ [5, 6] (by decide +kernel) (by decide +kernel)
set_option maxRecDepth 20000 in
theorem gL_is_L_sign : GoodIn wsL_is (va_wsS RL 11 yL_sign wsL_sign) := goodIn_app (goodIn_of _ (by decide +kernel)) ggL_is_L_sign
set_option maxRecDepth 20000 in
theorem ggL_kind_L_is : GoodIn wsL_kind wsL_is := goodIn_r _ [7, 8, 9, 10, 6, 11, 12] (by decide +kernel) (by decide +kernel)
set_option maxRecDepth 20000 in
theorem gL_kind_L_is : GoodIn wsL_kind (va_wsS RL 25 yL_is wsL_is) := goodIn_app (goodIn_of _ (by decide +kernel)) ggL_kind_L_is
set_option maxRecDepth 20000 in
theorem ggL_wrong_L_kind : GoodIn wsL_wrong wsL_kind := goodIn_r _ [4, 5, 6, 7, 8, 9, 3, 10, 11, 12, 13, 14, 15] (by decide +kernel) (by decide +kernel)
set_option maxRecDepth 20000 in
theorem gL_wrong_L_kind : GoodIn wsL_wrong (va_wsS RL 33 yL_kind wsL_kind) := goodIn_app (goodIn_of _ (by decide +kernel)) ggL_wrong_L_kind
set_option maxRecDepth 20000 in
theorem ggL_wrong_L_width : GoodIn wsL_wrong wsL_width := goodIn_r _ [18, 12, 13, 3, 14, 15, 19, 20, 21] (by decide +kernel) (by decide +kernel)
set_option maxRecDepth 20000 in
theorem gL_wrong_L_width : GoodIn wsL_wrong (va_wsS RL 37 yL_width wsL_width) := goodIn_app (goodIn_of _ (by decide +kernel)) ggL_wrong_L_width
set_option maxRecDepth 20000 in
theorem ggL_wrong_L_squeeze : GoodIn wsL_wrong wsL_squeeze := goodIn_r _ [24] (by decide +kernel) (by decide +kernel)
set_option maxRecDepth 20000 in
theorem gL_wrong_L_squeeze : GoodIn wsL_wrong (va_wsS RL 40 yL_squeeze wsL_squeeze) := goodIn_app (goodIn_of _ (by decide +kernel)) ggL_wrong_L_squeeze
set_option maxRecDepth 20000 in
theorem ggL_names_X4_clearText : GoodIn wsL_names wsX4_clearText := goodIn_r _ [10, 11, 12, 150, 151, 152, 153, 154, 155] (by decide +kernel) (by decide +kernel)
set_option maxRecDepth 20000 in
theorem gL_names_X4_clearText : GoodIn wsL_names (wsV RL 49 RX4 yX4_clearText wsX4_clearText) := goodIn_app (goodIn_of _ (by decide +kernel)) ggL_names_X4_clearText
set_option maxRecDepth 20000 in
theorem ggL_names_L_name : GoodIn wsL_names wsL_name := goodIn_r _ [16] (by decide +kernel) (by decide +kernel)
set_option maxRecDepth 20000 in
theorem gL_names_L_name : GoodIn wsL_names (va_wsS RL 53 yL_name wsL_name) := goodIn_app (goodIn_of _ (by decide +kernel)) ggL_names_L_name
set_option maxRecDepth 20000 in
theorem ggL_names_L_wide : GoodIn wsL_names wsL_wide := goodIn_r _ [19] (by decide +kernel) (by decide +kernel)
set_option maxRecDepth 20000 in
theorem gL_names_L_wide : GoodIn wsL_names (va_wsS RL 17 yL_wide wsL_wide) := goodIn_app (goodIn_of _ (by decide +kernel)) ggL_names_L_wide
set_option maxRecDepth 20000 in
theorem ggL_names_X4_type : GoodIn wsL_names wsX4_type := goodIn_r _ [23, 24, 11, 12, 25, 26, 27, 28, 29, 30, 31, 32, 150, 151, 152, 153, 154, 155] (by decide +kernel) (by decide +kernel)
set_option maxRecDepth 20000 in
theorem gL_names_X4_type : GoodIn wsL_names (wsV RL 44 RX4 yX4_type wsX4_type) := goodIn_app (goodIn_of _ (by decide +kernel)) ggL_names_X4_type
set_option maxRecDepth 20000 in
theorem ggL_names_L_squeeze : GoodIn wsL_names wsL_squeeze := goodIn_r _ [35] (by decide +kernel) (by decide +kernel)
set_option maxRecDepth 20000 in
theorem gL_names_L_squeeze : GoodIn wsL_names (va_wsS RL 40 yL_squeeze wsL_squeeze) := goodIn_app (goodIn_of _ (by decide +kernel)) ggL_names_L_squeeze
set_option maxRecDepth 20000 in
theorem ggL_names_X4_fault : GoodIn wsL_names wsX4_fault := goodIn_r _ [39, 24, 40, 41, 42, 43, 9, 44, 11, 12, 45, 46, 47, 29, 48, 31, 32, 49, 50, 51, 52, 53, 54, 55, 56, 57, 58, 59, 60, 61, 62, 63, 64, 65, 66, 67, 68, 69, 70, 71, 72, 73, 74, 75, 76, 77, 78, 79, 80, 81, 82, 150, 151, 152, 153, 154, 155, 156, 157, 158, 159, 160, 161, 162, 163, 164, 165, 166] (by decide +kernel) (by decide +kernel)
set_option maxRecDepth 20000 in
theorem gL_names_X4_fault : GoodIn wsL_names (wsV RL 57 RX4 yX4_fault wsX4_fault) := goodIn_app (goodIn_of _ (by decide +kernel)) ggL_names_X4_fault
set_option maxRecDepth 20000 in
theorem ggL_names_X4_add : GoodIn wsL_names wsX4_add := goodIn_r _ [86, 87, 11, 12, 53, 41, 42, 43, 9, 44, 45, 46, 47, 29, 48, 31, 32, 49, 50, 51, 52, 54, 55, 56, 57, 58, 59, 60, 61, 62, 63, 64, 65, 66, 67, 68, 69, 70, 71, 72, 73, 74, 75, 76, 77, 78, 88, 89, 90, 91, 92, 93, 94, 95, 96, 97, 98, 99, 100, 101, 102, 103, 104, 105, 106, 107, 108, 109, 110, 111, 112, 113, 114, 115, 116, 117, 118, 119, 120, 121, 122, 123, 124, 125, 126, 127, 128, 129, 130, 131, 132, 133, 134, 135, 136, 137, 138, 150, 151, 152, 153, 154, 155, 156, 157, 158, 159, 160, 161, 162, 163, 164, 165, 166, 167, 168, 169, 170, 171, 172, 173] (by decide +kernel) (by decide +kernel)
set_option maxRecDepth 20000 in
theorem gL_names_X4_add : GoodIn wsL_names (wsV RL 61 RX4 yX4_add wsX4_add) := goodIn_app (goodIn_of _ (by decide +kernel)) ggL_names_X4_add
set_option maxRecDepth 20000 in
theorem ggL_names_X4_find : GoodIn wsL_names wsX4_find := goodIn_r _ [142, 53, 54, 11, 143, 40, 144, 145, 146, 29, 147, 148, 31, 149, 32, 150, 151, 152, 153, 156, 157, 158, 159, 160, 161, 162, 163, 164, 165, 166, 167, 168, 169, 170, 154, 155] (by decide +kernel) (by decide +kernel)
set_option maxRecDepth 20000 in
theorem gL_names_X4_find : GoodIn wsL_names (wsV RL 65 RX4 yX4_find wsX4_find) := goodIn_app (goodIn_of _ (by decide +kernel)) ggL_names_X4_find
set_option maxRecDepth 20000 in
theorem ggL_rolls_X4_cut : GoodIn wsL_rolls wsX4_cut := goodIn_r _ [8, 9, 10, 11, 12, 13, 14, 15, 16, 17, 18, 19, 20, 21, 7, 22, 23, 24, 25, 26, 27, 28, 29, 30, 31, 32, 33, 34, 35, 36, 37, 38, 39, 40, 41, 42, 43, 44, 45, 46, 47, 48, 49, 50, 51, 52, 53, 54, 55, 56, 57, 58, 59, 60, 61, 62, 63, 64, 65, 66, 67, 68, 159, 160, 161, 162, 163, 164, 165, 166, 167, 168, 169, 170, 171, 172, 173, 174, 175, 176, 177, 178, 179, 180] (by decide +kernel) (by decide +kernel)
set_option maxRecDepth 20000 in
theorem gL_rolls_X4_cut : GoodIn wsL_rolls (wsV RL 68 RX4 yX4_cut wsX4_cut) := goodIn_app (goodIn_of _ (by decide +kernel)) ggL_rolls_X4_cut
set_option maxRecDepth 20000 in
theorem ggL_rolls_X4_mend : GoodIn wsL_rolls wsX4_mend := goodIn_r _ [72, 9, 10, 73, 74, 75, 76, 13, 14, 15, 16, 17, 18, 19, 20, 21, 7, 22, 23, 24, 25, 26, 27, 28, 29, 30, 31, 32, 33, 34, 35, 36, 37, 38, 39, 40, 41, 42, 43, 44, 45, 46, 47, 48, 49, 50, 51, 52, 53, 54, 55, 56, 57, 58, 59, 60, 77, 78, 79, 80, 159, 160, 161, 162, 163, 164, 165, 166, 167, 168, 169, 170, 171, 172, 173, 174, 175, 176, 177, 178, 179, 180] (by decide +kernel) (by decide +kernel)
set_option maxRecDepth 20000 in
theorem gL_rolls_X4_mend : GoodIn wsL_rolls (wsV RL 72 RX4 yX4_mend wsX4_mend) := goodIn_app (goodIn_of _ (by decide +kernel)) ggL_rolls_X4_mend
set_option maxRecDepth 20000 in
theorem ggL_rolls_X4_crank : GoodIn wsL_rolls wsX4_crank := goodIn_r _ [84, 10, 9, 11, 75, 12, 85, 86, 7, 87, 19, 20, 21, 22, 23, 24, 25, 26, 27, 16, 28, 29, 30, 31, 32, 33, 34, 35, 18, 36, 37, 38, 39, 40, 41, 42, 43, 44, 45, 46, 47, 48, 49, 50, 51, 52, 53, 54, 55, 56, 57, 58, 59, 60, 88, 89, 90, 91, 92, 93, 94, 95, 96, 97, 98, 99, 100, 101, 102, 103, 104, 105, 106, 107, 108, 109, 110, 111, 112, 113, 114, 115, 116, 117, 118, 119, 120, 121, 159, 160, 161, 162, 163, 164, 165, 166, 167, 168, 169, 170, 171, 172, 173, 174, 175, 176, 177, 178, 179, 180] (by decide +kernel) (by decide +kernel)
set_option maxRecDepth 20000 in
theorem gL_rolls_X4_crank : GoodIn wsL_rolls (wsV RL 75 RX4 yX4_crank wsX4_crank) := goodIn_app (goodIn_of _ (by decide +kernel)) ggL_rolls_X4_crank
set_option maxRecDepth 20000 in
theorem ggL_rolls_X4_route : GoodIn wsL_rolls wsX4_route := goodIn_r _ [125, 9, 11, 10, 126, 127, 19, 20, 21, 7, 22, 23, 24, 25, 26, 27, 16, 28, 29, 30, 31, 32, 33, 34, 35, 18, 36, 37, 38, 39, 40, 41, 42, 43, 44, 45, 46, 47, 48, 49, 50, 51, 52, 53, 54, 55, 56, 57, 58, 59, 60, 128, 129, 130, 131, 132, 133, 134, 135, 159, 160, 161, 162, 163, 164, 165, 166, 167, 168, 169, 170, 171, 172, 173, 174, 175, 176, 177, 178, 179, 180] (by decide +kernel) (by decide +kernel)
set_option maxRecDepth 20000 in
theorem gL_rolls_X4_route : GoodIn wsL_rolls (wsV RL 79 RX4 yX4_route wsX4_route) := goodIn_app (goodIn_of _ (by decide +kernel)) ggL_rolls_X4_route
set_option maxRecDepth 20000 in
theorem ggL_rolls_L_moved : GoodIn wsL_rolls wsL_moved := goodIn_r _ [139] (by decide +kernel) (by decide +kernel)
set_option maxRecDepth 20000 in
theorem gL_rolls_L_moved : GoodIn wsL_rolls (va_wsS RL 82 yL_moved wsL_moved) := goodIn_app (goodIn_of _ (by decide +kernel)) ggL_rolls_L_moved
