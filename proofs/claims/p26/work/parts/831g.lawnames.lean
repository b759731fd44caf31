set_option maxRecDepth 20000 in
theorem ggL_law_L_isSo_wsL_isSo_r1 : GoodIn wsL_law wsL_isSo_r1 := goodIn_sub (in_of_map (ps := [186, 436, 437, 170, 438, 6, 439, 440, 441, 2, 442, 20, 71, 291, 443, 320, 319, 62, 306, 83, 84, 19, 85, 76]) rfl) (by decide +kernel)
set_option maxRecDepth 20000 in
theorem ggL_law_L_isSo_wsL_isSo_r2 : GoodIn wsL_law wsL_isSo_r2 := goodIn_sub (in_of_map (ps := [444, 155, 156, 37, 157, 90, 52, 158, 159, 242, 161, 162, 163, 42, 445, 87, 88, 89, 91, 92, 93, 94, 95, 96]) (by decide +kernel)) (by decide +kernel)
set_option maxRecDepth 20000 in
theorem ggL_law_L_isSo_wsL_isSo_r3 : GoodIn wsL_law wsL_isSo_r3 := goodIn_sub (in_of_map (ps := [97, 98, 99, 100, 101, 102, 103, 104, 105, 106, 107, 108, 109, 110, 111, 112, 113, 114, 115, 116, 117, 118, 119, 120]) (by decide +kernel)) (by decide +kernel)
set_option maxRecDepth 20000 in
theorem ggL_law_L_isSo_wsL_isSo_r4 : GoodIn wsL_law wsL_isSo_r4 := goodIn_sub (in_of_map (ps := [121, 122, 123, 124, 125, 126, 127, 128, 129, 130, 131, 132, 133, 134, 135, 136, 137, 138, 139, 140, 141, 142, 143, 446]) (by decide +kernel)) (by decide +kernel)
set_option maxRecDepth 20000 in
theorem ggL_law_L_isSo_wsL_isSo_r5 : GoodIn wsL_law wsL_isSo_r5 := goodIn_sub (in_of_map (ps := [447, 448, 449, 148, 39, 149, 150, 151, 41, 152, 153, 450, 451, 452, 453, 454, 61, 415, 416, 417, 411, 412, 413, 414]) (by decide +kernel)) (by decide +kernel)
set_option maxRecDepth 20000 in
theorem ggL_law_L_isSo_wsL_isSo_r6 : GoodIn wsL_law wsL_isSo_r6 := goodIn_sub (in_of_map (ps := [195, 196, 197, 207, 208, 209, 404, 405, 406, 183, 184, 407, 408, 409, 410, 185, 56, 57, 58, 59, 60, 63, 64, 65]) (by decide +kernel)) (by decide +kernel)
set_option maxRecDepth 20000 in
theorem ggL_law_L_isSo_wsL_isSo_r7 : GoodIn wsL_law wsL_isSo_r7 := goodIn_sub (in_of_map (ps := [66, 67, 68, 22, 16, 69, 70, 72, 73, 74, 75, 35, 77, 78, 79, 80, 81, 47, 82, 86, 144, 145, 146, 147]) (by decide +kernel)) (by decide +kernel)
set_option maxRecDepth 20000 in
theorem ggL_law_L_isSo_wsL_isSo_r8 : GoodIn wsL_law wsL_isSo_r8 := goodIn_sub (in_of_map (ps := [154, 160, 164, 165, 166, 167, 455, 456, 457, 458, 459, 460, 461, 462, 463, 464, 465, 400, 466, 467, 468, 469, 470, 471]) rfl) (by decide +kernel)
set_option maxRecDepth 20000 in
theorem ggL_law_L_isSo_wsL_isSo_r9 : GoodIn wsL_law wsL_isSo_r9 := goodIn_sub (in_of_map (ps := [472, 401, 402, 403]) (by decide +kernel)) (by decide +kernel)
set_option maxRecDepth 20000 in
theorem ggL_law_L_isSo_wsX40 : GoodIn wsL_law wsX40 := goodIn_sub (in_of_map (ps := [473, 474, 475, 476]) (by decide +kernel)) (by decide +kernel)
set_option maxRecDepth 20000 in
theorem ggL_law_L_isSo_wsX00 : GoodIn wsL_law wsX00 := goodIn_sub (in_of_map (ps := [479, 480, 481, 482, 483, 484, 485, 486, 487, 488, 489]) (by decide +kernel)) (by decide +kernel)
set_option maxRecDepth 20000 in
theorem ggL_law_L_isSo_wsX20 : GoodIn wsL_law wsX20 := goodIn_sub (in_of_map (ps := [490, 491, 492, 493]) (by decide +kernel)) (by decide +kernel)
set_option maxRecDepth 20000 in
theorem ggL_law_L_isSo_wsX10 : GoodIn wsL_law wsX10 := goodIn_sub (in_of_map (ps := [494, 495, 496]) (by decide +kernel)) (by decide +kernel)
set_option maxRecDepth 20000 in
theorem ggL_law_L_isSo_wsX30 : GoodIn wsL_law wsX30 := goodIn_sub (in_of_map (ps := [477, 478]) (by decide +kernel)) (by decide +kernel)
theorem ggL_law_L_isSo : GoodIn wsL_law wsL_isSo := goodIn_cons (goodIn_sub (in_of_map (ps := [435]) rfl) (by decide +kernel)) (goodIn_app (goodIn_app (goodIn_app (goodIn_app (goodIn_app (goodIn_app (ggL_law_L_isSo_wsL_isSo_r1) (goodIn_app (ggL_law_L_isSo_wsL_isSo_r2) (goodIn_app (ggL_law_L_isSo_wsL_isSo_r3) (goodIn_app (ggL_law_L_isSo_wsL_isSo_r4) (goodIn_app (ggL_law_L_isSo_wsL_isSo_r5) (goodIn_app (ggL_law_L_isSo_wsL_isSo_r6) (goodIn_app (ggL_law_L_isSo_wsL_isSo_r7) (goodIn_app (ggL_law_L_isSo_wsL_isSo_r8) (ggL_law_L_isSo_wsL_isSo_r9))))))))) (ggL_law_L_isSo_wsX40)) (ggL_law_L_isSo_wsX00)) (ggL_law_L_isSo_wsX20)) (ggL_law_L_isSo_wsX10)) (ggL_law_L_isSo_wsX30))
set_option maxRecDepth 20000 in
theorem gL_law_L_isSo : GoodIn wsL_law (va_wsS RL 145 yL_isSo wsL_isSo) := goodIn_app (goodIn_of _ (by decide +kernel)) ggL_law_L_isSo
set_option maxRecDepth 20000 in
theorem ggL_law_L_low : GoodIn wsL_law wsL_low := goodIn_r _ [179, 5] (by decide +kernel) (by decide +kernel)
set_option maxRecDepth 20000 in
theorem gL_law_L_low : GoodIn wsL_law (va_wsS RL 93 yL_low wsL_low) := goodIn_app (goodIn_of _ (by decide +kernel)) ggL_law_L_low
