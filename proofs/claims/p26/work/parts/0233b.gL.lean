set_option maxRecDepth 20000 in
theorem ggL_rolls_X4_swap : GoodIn wsL_rolls wsX4_swap := goodIn_r _ [143, 9, 10, 12, 13, 14, 15, 16, 17, 18, 19, 20, 21, 7, 22, 23, 24, 25, 26, 27, 28, 29, 30, 31, 32, 33, 34, 35, 36, 37, 38, 39, 40, 41, 42, 43, 44, 45, 46, 47, 48, 49, 50, 51, 52, 53, 54, 55, 56, 57, 58, 59, 60, 144, 145, 146, 147, 148, 149, 150, 151, 152, 153, 154, 155, 159, 160, 161, 162, 163, 164, 165, 166, 167, 168, 169, 170, 171, 172, 173, 174, 175, 176, 177, 178, 179, 180] (by decide +kernel) (by decide +kernel)
set_option maxRecDepth 20000 in
theorem gL_rolls_X4_swap : GoodIn wsL_rolls (wsV RL 85 RX4 yX4_swap wsX4_swap) := goodIn_app (goodIn_of _ (by decide +kernel)) ggL_rolls_X4_swap
set_option maxRecDepth 20000 in
theorem ggL_rolls_L_crank : GoodIn wsL_rolls wsL_crank := goodIn_r _ [158] (by decide +kernel) (by decide +kernel)
set_option maxRecDepth 20000 in
theorem gL_rolls_L_crank : GoodIn wsL_rolls (va_wsS RL 88 yL_crank wsL_crank) := goodIn_app (goodIn_of _ (by decide +kernel)) ggL_rolls_L_crank
set_option maxRecDepth 20000 in
theorem ggL_acts_L_low : GoodIn wsL_acts wsL_low := goodIn_r _ [6, 7] (by decide +kernel) (by decide +kernel)
set_option maxRecDepth 20000 in
theorem gL_acts_L_low : GoodIn wsL_acts (va_wsS RL 93 yL_low wsL_low) := goodIn_app (goodIn_of _ (by decide +kernel)) ggL_acts_L_low
set_option maxRecDepth 20000 in
theorem ggL_acts_L_names : GoodIn wsL_acts wsL_names := goodIn_r _ [10, 11, 12, 13, 14, 15, 16, 17, 18, 19, 20, 21, 22, 23, 24, 5, 25, 26, 27, 28, 29, 30, 31, 32, 33, 34, 35, 36, 37, 38, 39, 40, 41, 42, 43, 44, 45, 46, 47, 48, 49, 50, 51, 52, 53, 54, 55, 56, 57, 58, 59, 60, 61, 62, 63, 64, 65, 66, 67, 68, 69, 70, 71, 72, 73, 74, 75, 76, 77, 78, 79, 80, 81, 82, 83, 84, 85, 86, 87, 88, 89, 90, 91, 92, 93, 94, 95, 96, 97, 98, 99, 100, 101, 102, 103, 104, 105, 106, 107, 108, 109, 110, 111, 112, 113, 114, 115, 116, 117, 118, 119, 120, 121, 122, 123, 124, 125, 126, 127, 128, 129, 130, 131, 132, 133, 134, 135, 136, 137, 138, 139, 140, 141, 142, 143, 144, 145, 146, 147, 148, 149, 150, 151, 152, 153, 154, 155, 156, 157, 158, 376, 377, 378, 379, 380, 381, 382, 383, 384, 385, 386, 387, 388, 389, 390, 391, 392, 393, 394, 395, 396, 397, 398, 399] (by decide +kernel) (by decide +kernel)
set_option maxRecDepth 20000 in
theorem gL_acts_L_names : GoodIn wsL_acts (va_wsS RL 96 yL_names wsL_names) := goodIn_app (goodIn_of _ (by decide +kernel)) ggL_acts_L_names
set_option maxRecDepth 20000 in
theorem ggL_acts_L_rolls : GoodIn wsL_acts wsL_rolls := goodIn_r _ [161, 2, 15, 162, 163, 164, 165, 19, 166, 62, 33, 63, 167, 168, 169, 170, 85, 171, 113, 97, 98, 99, 100, 101, 102, 103, 104, 105, 106, 107, 108, 87, 109, 110, 111, 112, 114, 115, 116, 117, 118, 119, 120, 121, 122, 123, 124, 125, 126, 127, 128, 129, 130, 131, 132, 133, 134, 135, 136, 137, 138, 172, 173, 174, 175, 176, 177, 178, 179, 180, 181, 182, 183, 152, 184, 96, 185, 186, 187, 188, 189, 190, 191, 192, 193, 194, 195, 196, 197, 198, 199, 200, 201, 202, 203, 204, 205, 206, 207, 208, 209, 210, 211, 212, 213, 214, 215, 216, 217, 218, 219, 220, 221, 222, 223, 224, 225, 226, 227, 228, 229, 230, 231, 232, 233, 234, 235, 34, 236, 237, 238, 239, 240, 241, 242, 243, 244, 245, 5, 246, 247, 248, 249, 250, 251, 252, 253, 254, 255, 256, 257, 258, 259, 260, 261, 262, 263, 264, 265, 376, 377, 378, 379, 382, 383, 384, 385, 386, 387, 388, 389, 390, 391, 392, 393, 394, 395, 396, 397, 398, 399] (by decide +kernel) (by decide +kernel)
set_option maxRecDepth 20000 in
theorem gL_acts_L_rolls : GoodIn wsL_acts (va_wsS RL 100 yL_rolls wsL_rolls) := goodIn_app (goodIn_of _ (by decide +kernel)) ggL_acts_L_rolls
set_option maxRecDepth 20000 in
theorem ggL_acts_X4_drive : GoodIn wsL_acts wsX4_drive := goodIn_r _ [269, 62, 33, 270, 271, 272, 273, 85, 274, 115, 97, 98, 99, 19, 100, 101, 102, 103, 104, 105, 106, 107, 108, 87, 109, 110, 111, 112, 113, 114, 116, 117, 118, 119, 120, 121, 122, 123, 124, 125, 126, 127, 128, 129, 130, 131, 132, 133, 134, 135, 136, 137, 138, 376, 377, 378, 379, 382, 383, 384, 385, 386, 387, 388, 389, 390, 391, 392, 393, 394, 395, 396, 397, 398, 399] (by decide +kernel) (by decide +kernel)
set_option maxRecDepth 20000 in
theorem gL_acts_X4_drive : GoodIn wsL_acts (wsV RL 104 RX4 yX4_drive wsX4_drive) := goodIn_app (goodIn_of _ (by decide +kernel)) ggL_acts_X4_drive
set_option maxRecDepth 20000 in
theorem ggL_acts_L_wrong : GoodIn wsL_acts wsL_wrong := goodIn_r _ [277, 278, 279, 5, 280, 11, 12, 281, 282, 283, 284, 13, 285, 286, 287, 288, 289, 290, 291, 26, 27, 28, 42, 43, 44] (by decide +kernel) (by decide +kernel)
set_option maxRecDepth 20000 in
theorem gL_acts_L_wrong : GoodIn wsL_acts (va_wsS RL 107 yL_wrong wsL_wrong) := goodIn_app (goodIn_of _ (by decide +kernel)) ggL_acts_L_wrong
set_option maxRecDepth 20000 in
theorem ggL_acts_X4_stop : GoodIn wsL_acts wsX4_stop := goodIn_r _ [295, 62, 97, 98, 99, 19, 100, 101, 102, 103, 104, 105, 85, 106, 107, 108, 87, 109, 110, 111, 112, 113, 114, 115, 116, 117, 118, 119, 120, 121, 122, 123, 124, 125, 126, 127, 128, 129, 130, 131, 132, 133, 134, 135, 136, 137, 138, 296, 297, 298, 299, 242, 243, 300, 301, 302, 303, 209, 304, 169, 170, 171, 305, 306, 307, 308, 309, 310, 311, 312, 313, 314, 315, 316, 317, 318, 319, 320, 321, 322, 323, 324, 325, 326, 327, 328, 329, 330, 331, 332, 333, 334, 335, 336, 337, 338, 339, 340, 341, 342, 343, 344, 345, 346, 347, 348, 349, 350, 351, 352, 353, 354, 355, 356, 357, 358, 359, 360, 361, 362, 272, 273, 274, 363, 260, 261, 262, 364, 365, 366, 367, 80, 81, 368, 83, 84, 86, 376, 377, 378, 379, 382, 383, 384, 385, 386, 387, 388, 389, 390, 391, 392, 393, 394, 395, 396, 397, 398, 399] (by decide +kernel) (by decide +kernel)
set_option maxRecDepth 20000 in
theorem gL_acts_X4_stop : GoodIn wsL_acts (wsV RL 111 RX4 yX4_stop wsX4_stop) := goodIn_app (goodIn_of _ (by decide +kernel)) ggL_acts_X4_stop
set_option maxRecDepth 20000 in
theorem ggL_acts_X4_set : GoodIn wsL_acts wsX4_set := goodIn_r _ [372, 373, 374, 33, 62, 375, 97, 98, 99, 19, 100, 101, 102, 103, 104, 105, 85, 106, 107, 108, 87, 109, 110, 111, 112, 113, 114, 115, 116, 117, 118, 119, 120, 121, 122, 123, 124, 125, 126, 127, 128, 129, 130, 131, 132, 133, 134, 135, 136, 137, 138, 376, 377, 378, 379, 382, 383, 384, 385, 386, 387, 388, 389, 390, 391, 392, 393, 394, 395, 396, 397, 398, 399] (by decide +kernel) (by decide +kernel)
set_option maxRecDepth 20000 in
theorem gL_acts_X4_set : GoodIn wsL_acts (wsV RL 114 RX4 yX4_set wsX4_set) := goodIn_app (goodIn_of _ (by decide +kernel)) ggL_acts_X4_set
set_option maxRecDepth 20000 in
theorem ggL_areRows_X4_rowOf : GoodIn wsL_areRows wsX4_rowOf := goodIn_r _ [7, 8, 9, 10, 11, 12, 13, 14, 15, 16, 17, 18, 19, 20, 21, 22, 23, 24, 25, 26, 27, 28, 6, 29, 30, 31, 32, 33, 34, 35, 36, 37, 38, 39, 40, 41, 42, 43, 44, 45, 46, 47, 48, 49, 50, 51, 52, 53, 54, 55, 56, 57, 58, 59, 60, 61, 62, 63, 64, 65, 66, 67, 68, 69, 70, 71, 72, 73, 74, 75, 76, 77, 78, 79, 80, 81, 82, 83, 84, 85, 86, 87, 88, 89, 90, 91, 92, 93, 94, 95, 96, 97, 98, 99, 100, 101, 102, 103, 172, 173, 174, 175, 176, 177, 178, 179, 180, 181, 182, 183, 184, 185, 186, 187, 188, 189, 190, 191, 192, 193] (by decide +kernel) (by decide +kernel)
set_option maxRecDepth 20000 in
theorem gL_areRows_X4_rowOf : GoodIn wsL_areRows (wsV RL 117 RX4 yX4_rowOf wsX4_rowOf) := goodIn_app (goodIn_of _ (by decide +kernel)) ggL_areRows_X4_rowOf
set_option maxRecDepth 20000 in
theorem ggL_areRows_X4_letter : GoodIn wsL_areRows wsX4_letter := goodIn_r _ [107, 8, 9, 10, 11, 108, 109, 15, 16, 17, 18, 19, 20, 172, 173, 174, 175, 176, 177, 178, 179, 180, 181, 182, 183, 184, 185, 186, 187, 188, 189, 190] (by decide +kernel) (by decide +kernel)
set_option maxRecDepth 20000 in
theorem gL_areRows_X4_letter : GoodIn wsL_areRows (wsV RL 120 RX4 yX4_letter wsX4_letter) := goodIn_app (goodIn_of _ (by decide +kernel)) ggL_areRows_X4_letter
set_option maxRecDepth 20000 in
theorem ggL_areRows_L_width : GoodIn wsL_areRows wsL_width := goodIn_r _ [113, 114, 115, 112, 116, 117, 118, 119, 120] (by decide +kernel) (by decide +kernel)
set_option maxRecDepth 20000 in
theorem gL_areRows_L_width : GoodIn wsL_areRows (va_wsS RL 37 yL_width wsL_width) := goodIn_app (goodIn_of _ (by decide +kernel)) ggL_areRows_L_width
set_option maxRecDepth 20000 in
theorem ggL_areRows_L_squeeze : GoodIn wsL_areRows wsL_squeeze := goodIn_r _ [123] (by decide +kernel) (by decide +kernel)
set_option maxRecDepth 20000 in
theorem gL_areRows_L_squeeze : GoodIn wsL_areRows (va_wsS RL 40 yL_squeeze wsL_squeeze) := goodIn_app (goodIn_of _ (by decide +kernel)) ggL_areRows_L_squeeze
set_option maxRecDepth 20000 in
theorem ggL_areRows_L_kind : GoodIn wsL_areRows wsL_kind := goodIn_r _ [126, 127, 128, 129, 130, 131, 112, 132, 133, 114, 115, 116, 117] (by decide +kernel) (by decide +kernel)
set_option maxRecDepth 20000 in
theorem gL_areRows_L_kind : GoodIn wsL_areRows (va_wsS RL 33 yL_kind wsL_kind) := goodIn_app (goodIn_of _ (by decide +kernel)) ggL_areRows_L_kind
set_option maxRecDepth 20000 in
theorem ggL_areRows_L_sign : GoodIn wsL_areRows wsL_sign := goodIn_r _ [116, 117] (by decide +kernel) (by decide +kernel)
