set_option maxRecDepth 20000 in
theorem ggL_law_L_cell : GoodIn wsL_law wsL_cell := goodIn_r _ [171, 172] (by decide +kernel) (by decide +kernel)
set_option maxRecDepth 20000 in
theorem gL_law_L_cell : GoodIn wsL_law (va_wsS RL 138 yL_cell wsL_cell) := goodIn_app (goodIn_of _ (by decide +kernel)) ggL_law_L_cell
set_option maxRecDepth 20000 in
theorem ggL_law_L_acts_wsL_acts_r1 : GoodIn wsL_law wsL_acts_r1 := goodIn_sub (in_of_map (ps := [176, 6, 177, 178, 170, 179, 5, 180, 181, 182, 183, 184, 185, 186, 187, 188, 189, 190, 2, 191, 16, 69, 192, 193]) rfl) (by decide +kernel)
set_option maxRecDepth 20000 in
theorem ggL_law_L_acts_wsL_acts_r2 : GoodIn wsL_law wsL_acts_r2 := goodIn_sub (in_of_map (ps := [194, 195, 196, 197, 198, 199, 200, 201, 71, 202, 203, 204, 205, 15, 206, 29, 28, 207, 208, 209, 210, 211, 212, 213]) (by decide +kernel)) (by decide +kernel)
set_option maxRecDepth 20000 in
theorem ggL_law_L_acts_wsL_acts_r3 : GoodIn wsL_law wsL_acts_r3 := goodIn_sub (in_of_map (ps := [61, 214, 215, 216, 217, 218, 219, 220, 221, 222, 223, 224, 225, 20, 60, 226, 227, 228, 229, 230, 231, 232, 233, 234]) (by decide +kernel)) (by decide +kernel)
set_option maxRecDepth 20000 in
theorem ggL_law_L_acts_wsL_acts_r4 : GoodIn wsL_law wsL_acts_r4 := goodIn_sub (in_of_map (ps := [235, 236, 237, 238, 239, 240, 241, 158, 159, 242, 161, 162, 19, 163, 42, 243, 244, 245, 246, 247, 248, 249, 250, 251]) (by decide +kernel)) (by decide +kernel)
set_option maxRecDepth 20000 in
theorem ggL_law_L_acts_wsL_acts_r5 : GoodIn wsL_law wsL_acts_r5 := goodIn_sub (in_of_map (ps := [252, 253, 254, 255, 22, 21, 256, 257, 258, 259, 35, 39, 43, 44, 45, 46, 76, 260, 148, 47, 261, 262, 263, 264]) (by decide +kernel)) (by decide +kernel)
set_option maxRecDepth 20000 in
theorem ggL_law_L_acts_wsL_acts_r6 : GoodIn wsL_law wsL_acts_r6 := goodIn_sub (in_of_map (ps := [265, 266, 267, 37, 268, 52, 269, 90, 270, 271, 272, 273, 274, 41, 275, 153, 276, 277, 278, 279, 280, 281, 282, 283]) (by decide +kernel)) (by decide +kernel)
set_option maxRecDepth 20000 in
theorem ggL_law_L_acts_wsL_acts_r7 : GoodIn wsL_law wsL_acts_r7 := goodIn_sub (in_of_map (ps := [284, 285, 286, 287, 288, 289, 290, 291, 292, 293, 294, 295, 296, 297, 298, 299, 300, 301, 302, 303, 304, 305, 62, 306]) rfl) (by decide +kernel)
set_option maxRecDepth 20000 in
theorem ggL_law_L_acts_wsL_acts_r8 : GoodIn wsL_law wsL_acts_r8 := goodIn_sub (in_of_map (ps := [83, 84, 85, 307, 308, 309, 310, 311, 312, 313, 314, 315, 316, 317, 318, 319, 320, 321, 322, 323, 324, 325, 326, 327]) (by decide +kernel)) (by decide +kernel)
set_option maxRecDepth 20000 in
theorem ggL_law_L_acts_wsL_acts_r9 : GoodIn wsL_law wsL_acts_r9 := goodIn_sub (in_of_map (ps := [328, 329, 330, 331, 332, 333, 334, 335, 336, 337, 338, 339, 340, 341, 342, 343, 77, 344, 345, 346, 347, 348, 349, 350]) (by decide +kernel)) (by decide +kernel)
set_option maxRecDepth 20000 in
theorem ggL_law_L_acts_wsL_acts_r10 : GoodIn wsL_law wsL_acts_r10 := goodIn_sub (in_of_map (ps := [351, 352, 353, 354, 355, 356, 357, 358, 359, 360, 361, 362, 363, 364, 365, 366, 367, 368, 63, 369, 370, 371, 372, 373]) (by decide +kernel)) (by decide +kernel)
set_option maxRecDepth 20000 in
theorem ggL_law_L_acts_wsL_acts_r11 : GoodIn wsL_law wsL_acts_r11 := goodIn_sub (in_of_map (ps := [374, 375, 376, 377, 378, 379, 380, 381, 382, 383, 384, 385, 386, 387, 388, 389, 390, 391, 392, 150, 151, 152, 393, 394]) (by decide +kernel)) (by decide +kernel)
set_option maxRecDepth 20000 in
theorem ggL_law_L_acts_wsL_acts_r12 : GoodIn wsL_law wsL_acts_r12 := goodIn_sub (in_of_map (ps := [395, 396, 397, 398, 399, 64, 400, 145, 146, 147, 401, 402, 403, 404, 405, 406, 407, 408, 409, 410, 411, 412, 413, 414]) rfl) (by decide +kernel)
set_option maxRecDepth 20000 in
theorem ggL_law_L_acts_wsL_acts_r13 : GoodIn wsL_law wsL_acts_r13 := goodIn_sub (in_of_map (ps := [415, 416, 417, 418, 419, 420, 421, 422, 423, 424, 425, 426, 79, 80, 81, 82, 86, 87, 88, 89, 91, 92, 93, 94]) (by decide +kernel)) (by decide +kernel)
set_option maxRecDepth 20000 in
theorem ggL_law_L_acts_wsL_acts_r14 : GoodIn wsL_law wsL_acts_r14 := goodIn_sub (in_of_map (ps := [95, 96, 97, 98, 99, 100, 101, 102, 103, 104, 105, 106, 107, 108, 109, 110, 111, 112, 113, 114, 115, 116, 117, 118]) (by decide +kernel)) (by decide +kernel)
set_option maxRecDepth 20000 in
theorem ggL_law_L_acts_wsL_acts_r15 : GoodIn wsL_law wsL_acts_r15 := goodIn_sub (in_of_map (ps := [119, 120, 121, 122, 123, 124, 125, 126, 127, 128, 129, 130, 131, 132, 133, 134, 135, 136, 137, 138, 139, 140, 141, 142]) (by decide +kernel)) (by decide +kernel)
set_option maxRecDepth 20000 in
theorem ggL_law_L_acts_wsL_acts_r16 : GoodIn wsL_law wsL_acts_r16 := goodIn_sub (in_of_map (ps := [143, 144, 149, 154, 155, 156, 157, 160, 427, 428, 429, 430, 431, 432, 70]) (by decide +kernel)) (by decide +kernel)
set_option maxRecDepth 20000 in
theorem ggL_law_L_acts_wsX40 : GoodIn wsL_law wsX40 := goodIn_sub (in_of_map (ps := [473, 474, 475, 476]) (by decide +kernel)) (by decide +kernel)
set_option maxRecDepth 20000 in
theorem ggL_law_L_acts_wsX30 : GoodIn wsL_law wsX30 := goodIn_sub (in_of_map (ps := [477, 478]) (by decide +kernel)) (by decide +kernel)
set_option maxRecDepth 20000 in
theorem ggL_law_L_acts_wsX00 : GoodIn wsL_law wsX00 := goodIn_sub (in_of_map (ps := [479, 480, 481, 482, 483, 484, 485, 486, 487, 488, 489]) (by decide +kernel)) (by decide +kernel)
set_option maxRecDepth 20000 in
theorem ggL_law_L_acts_wsX20 : GoodIn wsL_law wsX20 := goodIn_sub (in_of_map (ps := [490, 491, 492, 493]) (by decide +kernel)) (by decide +kernel)
set_option maxRecDepth 20000 in
theorem ggL_law_L_acts_wsX10 : GoodIn wsL_law wsX10 := goodIn_sub (in_of_map (ps := [494, 495, 496]) (by decide +kernel)) (by decide +kernel)
theorem ggL_law_L_acts : GoodIn wsL_law wsL_acts := goodIn_cons (goodIn_sub (in_of_map (ps := [175]) rfl) (by decide +kernel)) (goodIn_app (goodIn_app (goodIn_app (goodIn_app (goodIn_app (goodIn_app (ggL_law_L_acts_wsL_acts_r1) (goodIn_app (ggL_law_L_acts_wsL_acts_r2) (goodIn_app (ggL_law_L_acts_wsL_acts_r3) (goodIn_app (ggL_law_L_acts_wsL_acts_r4) (goodIn_app (ggL_law_L_acts_wsL_acts_r5) (goodIn_app (ggL_law_L_acts_wsL_acts_r6) (goodIn_app (ggL_law_L_acts_wsL_acts_r7) (goodIn_app (ggL_law_L_acts_wsL_acts_r8) (goodIn_app (ggL_law_L_acts_wsL_acts_r9) (goodIn_app (ggL_law_L_acts_wsL_acts_r10) (goodIn_app (ggL_law_L_acts_wsL_acts_r11) (goodIn_app (ggL_law_L_acts_wsL_acts_r12) (goodIn_app (ggL_law_L_acts_wsL_acts_r13) (goodIn_app (ggL_law_L_acts_wsL_acts_r14) (goodIn_app (ggL_law_L_acts_wsL_acts_r15) (ggL_law_L_acts_wsL_acts_r16)))))))))))))))) (ggL_law_L_acts_wsX40)) (ggL_law_L_acts_wsX30)) (ggL_law_L_acts_wsX00)) (ggL_law_L_acts_wsX20)) (ggL_law_L_acts_wsX10))
set_option maxRecDepth 20000 in
theorem gL_law_L_acts : GoodIn wsL_law (va_wsS RL 141 yL_acts wsL_acts) := goodIn_app (goodIn_of _ (by decide +kernel)) ggL_law_L_acts
