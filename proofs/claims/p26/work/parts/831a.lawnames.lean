/-! the law's words are the tables' -/
set_option maxRecDepth 20000 in
theorem in_wsL_law_r1 : ∀ w ∈ wsL_law_r1, w ∈ lw_tbl := in_of_map (ps := [17, 18, 5, 148, 546, 271, 398, 19, 20, 21, 22, 23, 24, 25, 26, 6, 150, 41, 42, 7, 151, 152, 153, 27]) (by decide +kernel)
set_option maxRecDepth 20000 in
theorem in_wsL_law_r2 : ∀ w ∈ wsL_law_r2, w ∈ lw_tbl := in_of_map (ps := [28, 29, 30, 40, 31, 33, 43, 44, 45, 46, 47, 103, 49, 8, 75, 109, 77, 9, 115, 100, 102, 101, 10, 113]) (by decide +kernel)
set_option maxRecDepth 20000 in
theorem in_wsL_law_r3 : ∀ w ∈ wsL_law_r3, w ∈ lw_tbl := in_of_map (ps := [50, 51, 52, 53, 54, 79, 80, 81, 163, 164, 165, 166, 106, 167, 108, 112, 114, 118, 120, 122, 124, 34, 116, 262]) (by decide +kernel)
set_option maxRecDepth 20000 in
theorem in_wsL_law_r4 : ∀ w ∈ wsL_law_r4, w ∈ lw_tbl := in_of_map (ps := [168, 169, 170, 171, 105, 65, 172, 173, 174, 175, 176, 177, 178, 179, 180, 181, 182, 183, 57, 185, 186, 187, 188, 189]) (by decide +kernel)
set_option maxRecDepth 20000 in
theorem in_wsL_law_r5 : ∀ w ∈ wsL_law_r5, w ∈ lw_tbl := in_of_map (ps := [190, 191, 11, 192, 547, 193, 194, 195, 196, 197, 548, 199, 200, 201, 202, 203, 204, 205, 206, 207, 208, 12, 209, 210]) (by decide +kernel)
set_option maxRecDepth 20000 in
theorem in_wsL_law_r6 : ∀ w ∈ wsL_law_r6, w ∈ lw_tbl := in_of_map (ps := [211, 212, 213, 215, 216, 13, 217, 218, 219, 14, 220, 221, 222, 223, 224, 225, 226, 227, 228, 229, 230, 231, 233, 235]) (by decide +kernel)
set_option maxRecDepth 20000 in
theorem in_wsL_law_r7 : ∀ w ∈ wsL_law_r7, w ∈ lw_tbl := in_of_map (ps := [239, 240, 241, 242, 111, 243, 244, 245, 246, 82, 247, 248, 249, 250, 252, 253, 254, 255, 256, 257, 258, 259, 260, 261]) (by decide +kernel)
