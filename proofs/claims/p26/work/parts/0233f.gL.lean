set_option maxRecDepth 20000 in
theorem gL_acts_L_names : GoodIn wsL_acts (va_wsS RL 96 yL_names wsL_names) := goodIn_app (goodIn_of _ (by decide +kernel)) ggL_acts_L_names
set_option maxRecDepth 20000 in
theorem ggL_acts_L_rolls_wsL_rolls_r1 : GoodIn wsL_acts wsL_rolls_r1 := goodIn_sub (in_of_map (ps := [2, 15, 162, 163, 164, 165, 19, 166, 62, 33, 63, 167, 168, 169, 170, 85, 171, 113, 97, 98, 99, 100, 101, 102]) (by decide +kernel)) (by decide +kernel)
set_option maxRecDepth 20000 in
theorem ggL_acts_L_rolls_wsL_rolls_r2 : GoodIn wsL_acts wsL_rolls_r2 := goodIn_sub (in_of_map (ps := [103, 104, 105, 106, 107, 108, 87, 109, 110, 111, 112, 114, 115, 116, 117, 118, 119, 120, 121, 122, 123, 124, 125, 126]) (by decide +kernel)) (by decide +kernel)
set_option maxRecDepth 20000 in
theorem ggL_acts_L_rolls_wsL_rolls_r3 : GoodIn wsL_acts wsL_rolls_r3 := goodIn_sub (in_of_map (ps := [127, 128, 129, 130, 131, 132, 133, 134, 135, 136, 137, 138, 172, 173, 174, 175, 176, 177, 178, 179, 180, 181, 182, 183]) (by decide +kernel)) (by decide +kernel)
set_option maxRecDepth 20000 in
theorem ggL_acts_L_rolls_wsL_rolls_r4 : GoodIn wsL_acts wsL_rolls_r4 := goodIn_sub (in_of_map (ps := [152, 184, 96, 185, 186, 187, 188, 189, 190, 191, 192, 193, 194, 195, 196, 197, 198, 199, 200, 201, 202, 203, 204, 205]) (by decide +kernel)) (by decide +kernel)
set_option maxRecDepth 20000 in
theorem ggL_acts_L_rolls_wsL_rolls_r5 : GoodIn wsL_acts wsL_rolls_r5 := goodIn_sub (in_of_map (ps := [206, 207, 208, 209, 210, 211, 212, 213, 214, 215, 216, 217, 218, 219, 220, 221, 222, 223, 224, 225, 226, 227, 228, 229]) (by decide +kernel)) (by decide +kernel)
set_option maxRecDepth 20000 in
theorem ggL_acts_L_rolls_wsL_rolls_r6 : GoodIn wsL_acts wsL_rolls_r6 := goodIn_sub (in_of_map (ps := [230, 231, 232, 233, 234, 235, 34, 236, 237, 238, 239, 240, 241, 242, 243, 244, 245, 5, 246, 247, 248, 249, 250, 251]) (by decide +kernel)) (by decide +kernel)
set_option maxRecDepth 20000 in
theorem ggL_acts_L_rolls_wsL_rolls_r7 : GoodIn wsL_acts wsL_rolls_r7 := goodIn_sub (in_of_map (ps := [252, 253, 254, 255, 256, 257, 258, 259, 260, 261, 262, 263, 264, 265]) rfl) (by decide +kernel)
set_option maxRecDepth 20000 in
theorem ggL_acts_L_rolls_wsX40 : GoodIn wsL_acts wsX40 := goodIn_sub (in_of_map (ps := [376, 377, 378, 379]) (by decide +kernel)) (by decide +kernel)
set_option maxRecDepth 20000 in
theorem ggL_acts_L_rolls_wsX00 : GoodIn wsL_acts wsX00 := goodIn_sub (in_of_map (ps := [382, 383, 384, 385, 386, 387, 388, 389, 390, 391, 392]) (by decide +kernel)) (by decide +kernel)
set_option maxRecDepth 20000 in
theorem ggL_acts_L_rolls_wsX20 : GoodIn wsL_acts wsX20 := goodIn_sub (in_of_map (ps := [393, 394, 395, 396]) (by decide +kernel)) (by decide +kernel)
set_option maxRecDepth 20000 in
theorem ggL_acts_L_rolls_wsX10 : GoodIn wsL_acts wsX10 := goodIn_sub (in_of_map (ps := [397, 398, 399]) (by decide +kernel)) (by decide +kernel)
theorem ggL_acts_L_rolls : GoodIn wsL_acts wsL_rolls := goodIn_cons (goodIn_sub (in_of_map (ps := [161]) rfl) (by decide +kernel)) (goodIn_app (goodIn_app (goodIn_app (goodIn_app (goodIn_app (ggL_acts_L_rolls_wsL_rolls_r1) (goodIn_app (ggL_acts_L_rolls_wsL_rolls_r2) (goodIn_app (ggL_acts_L_rolls_wsL_rolls_r3) (goodIn_app (ggL_acts_L_rolls_wsL_rolls_r4) (goodIn_app (ggL_acts_L_rolls_wsL_rolls_r5) (goodIn_app (ggL_acts_L_rolls_wsL_rolls_r6) (ggL_acts_L_rolls_wsL_rolls_r7))))))) (ggL_acts_L_rolls_wsX40)) (ggL_acts_L_rolls_wsX00)) (ggL_acts_L_rolls_wsX20)) (ggL_acts_L_rolls_wsX10))
