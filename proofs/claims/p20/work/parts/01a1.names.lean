set_option maxRecDepth 20000 in
theorem in_wsL_law0_r1 : ∀ w ∈ wsL_law0_r1, w ∈ lw_tbl := fun w h => (goodIn_r wsL_law0_r1 [31, 32, 18, 34, 35, 19, 88, 235, 150, 36, 37, 38, 39, 40, 41, 42, 43, 20, 137, 136, 138, 89, 90] (by decide +kernel) (by decide +kernel) w h).1
set_option maxRecDepth 20000 in
theorem in_wsL_law0_r2 : ∀ w ∈ wsL_law0_r2, w ∈ lw_tbl := fun w h => (goodIn_r wsL_law0_r2 [21, 139, 140, 44, 45, 46, 47, 51, 54, 55, 56, 58, 61, 64, 66, 91, 92, 93, 94, 102, 104, 106, 108, 109] (by decide +kernel) (by decide +kernel) w h).1
set_option maxRecDepth 20000 in
theorem in_wsL_law0_r3 : ∀ w ∈ wsL_law0_r3, w ∈ lw_tbl := fun w h => (goodIn_r wsL_law0_r3 [110, 95, 97, 0, 98, 111, 113, 115, 99, 100, 22, 101, 151, 152, 153, 154, 155, 156, 157, 158, 160, 161, 162] (by decide +kernel) (by decide +kernel) w h).1
set_option maxRecDepth 20000 in
theorem in_wsL_law0_r4 : ∀ w ∈ wsL_law0_r4, w ∈ lw_tbl := fun w h => (goodIn_r wsL_law0_r4 [163, 167, 26, 240, 27, 164, 165, 166, 256, 257, 258, 259, 48, 260, 262, 2, 263, 264, 266, 3, 267, 269, 270, 271] (by decide +kernel) (by decide +kernel) w h).1
