set_option maxRecDepth 20000 in
theorem in_wsL_law_r8 : ∀ w ∈ wsL_law_r8, w ∈ lw_tbl := in_of_map (ps := [264, 265, 4, 266, 267, 272, 273, 274, 275, 268, 269, 270, 276, 277, 278, 286, 287, 288, 342, 373, 279, 280, 281, 282]) rfl
set_option maxRecDepth 20000 in
theorem in_wsL_law_r9 : ∀ w ∈ wsL_law_r9, w ∈ lw_tbl := in_of_map (ps := [283, 284, 285, 289, 290, 291, 292, 293, 294, 295, 296, 297, 298, 299, 300, 301, 302, 303, 304, 305, 306, 307, 308, 310]) rfl
set_option maxRecDepth 20000 in
theorem in_wsL_law_r10 : ∀ w ∈ wsL_law_r10, w ∈ lw_tbl := in_of_map (ps := [0, 311, 312, 313, 314, 315, 316, 318, 1, 319, 320, 321, 322, 323, 324, 325, 326, 327, 328, 329, 330, 331, 332, 333]) (by decide +kernel)
set_option maxRecDepth 20000 in
theorem in_wsL_law_r11 : ∀ w ∈ wsL_law_r11, w ∈ lw_tbl := in_of_map (ps := [334, 335, 337, 338, 340, 2, 341, 343, 344, 345, 346, 347, 348, 350, 3, 351, 352, 353, 354, 355, 107, 117, 119, 121]) (by decide +kernel)
set_option maxRecDepth 20000 in
theorem in_wsL_law_r12 : ∀ w ∈ wsL_law_r12, w ∈ lw_tbl := in_of_map (ps := [123, 356, 357, 358, 359, 360, 60, 63, 361, 362, 363, 364, 85, 88, 365, 366, 367, 368, 369, 370, 371, 372, 32, 374]) (by decide +kernel)
set_option maxRecDepth 20000 in
theorem in_wsL_law_r13 : ∀ w ∈ wsL_law_r13, w ∈ lw_tbl := in_of_map (ps := [375, 376, 377, 104, 378, 379, 380, 381, 58, 55, 382, 383, 384, 473, 385, 386, 387, 388, 389, 390, 391, 392, 393, 394]) rfl
set_option maxRecDepth 20000 in
theorem in_wsL_law_r14 : ∀ w ∈ wsL_law_r14, w ∈ lw_tbl := in_of_map (ps := [395, 396, 397, 399, 400, 401, 402, 64, 61, 403, 404, 405, 406, 407, 408, 409, 410, 411, 412, 413, 414, 415, 416, 417]) (by decide +kernel)
