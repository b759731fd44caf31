set_option maxRecDepth 20000 in
theorem gL_acts_L_rolls : GoodIn wsL_acts (va_wsS RL 100 yL_rolls wsL_rolls) := goodIn_app (goodIn_of _ (by decide +kernel)) ggL_acts_L_rolls
set_option maxRecDepth 20000 in
theorem ggL_acts_X4_drive : GoodIn wsL_acts wsX4_drive := goodIn_r _ [269, 62, 33, 270, 271, 272, 273, 85, 274, 115, 97, 98, 99, 19, 100, 101, 102, 103, 104, 105, 106, 107, 108, 87, 109, 110, 111, 112, 113, 114, 116, 117, 118, 119, 120, 121, 122, 123, 124, 125, 126, 127, 128, 129, 130, 131, 132, 133, 134, 135, 136, 137, 138, 376, 377, 378, 379, 382, 383, 384, 385, 386, 387, 388, 389, 390, 391, 392, 393, 394, 395, 396, 397, 398, 399] (by decide +kernel) (by decide +kernel)
set_option maxRecDepth 20000 in
theorem gL_acts_X4_drive : GoodIn wsL_acts (wsV RL 104 RX4 yX4_drive wsX4_drive) := goodIn_app (goodIn_of _ (by decide +kernel)) ggL_acts_X4_drive
set_option maxRecDepth 20000 in
theorem ggL_acts_L_wrong : GoodIn wsL_acts wsL_wrong := goodIn_r _ [277, 278, 279, 5, 280, 11, 12, 281, 282, 283, 284, 13, 285, 286, 287, 288, 289, 290, 291, 26, 27, 28, 42, 43, 44] (by decide +kernel) (by decide +kernel)
set_option maxRecDepth 20000 in
theorem gL_acts_L_wrong : GoodIn wsL_acts (va_wsS RL 107 yL_wrong wsL_wrong) := goodIn_app (goodIn_of _ (by decide +kernel)) ggL_acts_L_wrong
set_option maxRecDepth 20000 in
theorem ggL_acts_X4_stop_wsX4_stop_r1 : GoodIn wsL_acts wsX4_stop_r1 := goodIn_sub (in_of_map (ps := [62, 97, 98, 99, 19, 100, 101, 102, 103, 104, 105, 85, 106, 107, 108, 87, 109, 110, 111, 112, 113, 114, 115, 116]) (by decide +kernel)) (by decide +kernel)
set_option maxRecDepth 20000 in
theorem ggL_acts_X4_stop_wsX4_stop_r2 : GoodIn wsL_acts wsX4_stop_r2 := goodIn_sub (in_of_map (ps := [117, 118, 119, 120, 121, 122, 123, 124, 125, 126, 127, 128, 129, 130, 131, 132, 133, 134, 135, 136, 137, 138, 296, 297]) (by decide +kernel)) (by decide +kernel)
set_option maxRecDepth 20000 in
theorem ggL_acts_X4_stop_wsX4_stop_r3 : GoodIn wsL_acts wsX4_stop_r3 := goodIn_sub (in_of_map (ps := [298, 299, 242, 243, 300, 301, 302, 303, 209, 304, 169, 170, 171, 305, 306, 307, 308, 309, 310, 311, 312, 313, 314, 315]) (by decide +kernel)) (by decide +kernel)
set_option maxRecDepth 20000 in
theorem ggL_acts_X4_stop_wsX4_stop_r4 : GoodIn wsL_acts wsX4_stop_r4 := goodIn_sub (in_of_map (ps := [316, 317, 318, 319, 320, 321, 322, 323, 324, 325, 326, 327, 328, 329, 330, 331, 332, 333, 334, 335, 336, 337, 338, 339]) (by decide +kernel)) (by decide +kernel)
set_option maxRecDepth 20000 in
theorem ggL_acts_X4_stop_wsX4_stop_r5 : GoodIn wsL_acts wsX4_stop_r5 := goodIn_sub (in_of_map (ps := [340, 341, 342, 343, 344, 345, 346, 347, 348, 349, 350, 351, 352, 353, 354, 355, 356, 357, 358, 359, 360, 361, 362, 272]) (by decide +kernel)) (by decide +kernel)
set_option maxRecDepth 20000 in
theorem ggL_acts_X4_stop_wsX4_stop_r6 : GoodIn wsL_acts wsX4_stop_r6 := goodIn_sub (in_of_map (ps := [273, 274, 363, 260, 261, 262, 364, 365, 366, 367, 80, 81, 368, 83, 84, 86]) (by decide +kernel)) (by decide +kernel)
set_option maxRecDepth 20000 in
theorem ggL_acts_X4_stop_wsX40 : GoodIn wsL_acts wsX40 := goodIn_sub (in_of_map (ps := [376, 377, 378, 379]) (by decide +kernel)) (by decide +kernel)
set_option maxRecDepth 20000 in
theorem ggL_acts_X4_stop_wsX00 : GoodIn wsL_acts wsX00 := goodIn_sub (in_of_map (ps := [382, 383, 384, 385, 386, 387, 388, 389, 390, 391, 392]) (by decide +kernel)) (by decide +kernel)
set_option maxRecDepth 20000 in
theorem ggL_acts_X4_stop_wsX20 : GoodIn wsL_acts wsX20 := goodIn_sub (in_of_map (ps := [393, 394, 395, 396]) (by decide +kernel)) (by decide +kernel)
set_option maxRecDepth 20000 in
theorem ggL_acts_X4_stop_wsX10 : GoodIn wsL_acts wsX10 := goodIn_sub (in_of_map (ps := [397, 398, 399]) (by decide +kernel)) (by decide +kernel)
theorem ggL_acts_X4_stop : GoodIn wsL_acts wsX4_stop := goodIn_cons (goodIn_sub (in_of_map (ps := [295]) rfl) (by decide +kernel)) (goodIn_app (goodIn_app (goodIn_app (goodIn_app (goodIn_app (ggL_acts_X4_stop_wsX4_stop_r1) (goodIn_app (ggL_acts_X4_stop_wsX4_stop_r2) (goodIn_app (ggL_acts_X4_stop_wsX4_stop_r3) (goodIn_app (ggL_acts_X4_stop_wsX4_stop_r4) (goodIn_app (ggL_acts_X4_stop_wsX4_stop_r5) (ggL_acts_X4_stop_wsX4_stop_r6)))))) (ggL_acts_X4_stop_wsX40)) (ggL_acts_X4_stop_wsX00)) (ggL_acts_X4_stop_wsX20)) (ggL_acts_X4_stop_wsX10))
