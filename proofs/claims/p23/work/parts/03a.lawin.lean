theorem mem_r {big : List Cond} (ws : List Cond) (ps : List Nat) (hp : ws = ps.filterMap (fun i => big[i]?)) : ∀ w ∈ ws, w ∈ big := by
  intro w hw
  rw [hp] at hw
  obtain ⟨i, -, hi⟩ := List.mem_filterMap.mp hw
  exact List.mem_of_getElem? hi
set_option maxRecDepth 20000 in
theorem lin_wsL_law_r1 : ∀ w ∈ wsL_law_r1, w ∈ lw_tbl := mem_r _ [21, 22, 13, 412, 23, 24, 25, 26, 27, 28, 29, 30, 14, 168, 169, 125, 126, 16, 170, 149, 150, 17, 171, 172] (by decide +kernel)
set_option maxRecDepth 20000 in
theorem lin_wsL_law_r2 : ∀ w ∈ wsL_law_r2, w ∈ lw_tbl := mem_r _ [31, 32, 33, 34, 37, 38, 39, 40, 41, 43, 71, 44, 45, 15, 72, 74, 75, 76, 46, 47, 48, 49, 70, 50] (by decide +kernel)
set_option maxRecDepth 20000 in
theorem lin_wsL_law_r3 : ∀ w ∈ wsL_law_r3, w ∈ lw_tbl := mem_r _ [51, 52, 55, 127, 128, 129, 130, 148, 131, 151, 152, 153, 154, 155, 157, 387, 388, 12, 389, 342, 343, 344, 345, 346] (by decide +kernel)
set_option maxRecDepth 20000 in
theorem lin_wsL_law_r4 : ∀ w ∈ wsL_law_r4, w ∈ lw_tbl := mem_r _ [347, 348, 349, 83, 81, 82, 85, 86, 87, 88, 89, 318, 319, 320, 321, 322, 323, 324, 325, 77, 79, 326, 328, 10] (by decide +kernel)
set_option maxRecDepth 20000 in
theorem lin_wsL_law_r5 : ∀ w ∈ wsL_law_r5, w ∈ lw_tbl := mem_r _ [329, 330, 331, 332, 333, 78, 80, 390, 391, 392, 334, 335, 336, 337, 338, 339, 340, 341, 53, 350, 351, 352, 353, 354] (by decide +kernel)
