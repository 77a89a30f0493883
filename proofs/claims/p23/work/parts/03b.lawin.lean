set_option maxRecDepth 20000 in
theorem lin_wsL_law_r6 : ∀ w ∈ wsL_law_r6, w ∈ lw_tbl := mem_r _ [233, 234, 355, 240, 241, 242, 251, 252, 18, 253, 243, 245, 2, 246, 258, 259, 260, 247, 248, 249, 250, 254, 255, 256] (by decide +kernel)
set_option maxRecDepth 20000 in
theorem lin_wsL_law_r7 : ∀ w ∈ wsL_law_r7, w ∈ lw_tbl := mem_r _ [257, 261, 262, 263, 264, 265, 267, 3, 268, 270, 271, 272, 274, 4, 275, 279, 280, 281, 277, 278, 356, 357, 358, 359] (by decide +kernel)
set_option maxRecDepth 20000 in
theorem lin_wsL_law_r8 : ∀ w ∈ wsL_law_r8, w ∈ lw_tbl := mem_r _ [360, 205, 206, 207, 208, 210, 209, 19, 211, 212, 213, 214, 215, 56, 361, 362, 363, 364, 235, 236, 237, 238, 239, 282] (by decide +kernel)
set_option maxRecDepth 20000 in
theorem lin_wsL_law_r9 : ∀ w ∈ wsL_law_r9, w ∈ lw_tbl := mem_r _ [284, 5, 285, 286, 288, 6, 289, 290, 292, 7, 293, 294, 296, 8, 297, 298, 300, 9, 301, 302, 303, 20, 304, 305] (by decide +kernel)
set_option maxRecDepth 20000 in
theorem lin_wsL_law_r10 : ∀ w ∈ wsL_law_r10, w ∈ lw_tbl := mem_r _ [306, 307, 308, 309, 372, 373, 374, 375, 376, 377, 378, 379, 159, 196, 198, 0, 199, 158, 200, 201, 18, 202, 204, 380] (by decide +kernel)
