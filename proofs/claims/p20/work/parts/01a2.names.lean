set_option maxRecDepth 20000 in
theorem in_wsL_law0_r5 : ∀ w ∈ wsL_law0_r5, w ∈ lw_tbl := fun w h => (goodIn_r wsL_law0_r5 [272, 273, 274, 276, 4, 277, 278, 279, 280, 281, 282, 284, 5, 285, 286, 288, 6, 289, 290, 292, 7, 293, 294, 296] (by decide +kernel) (by decide +kernel) w h).1
set_option maxRecDepth 20000 in
theorem in_wsL_law0_r6 : ∀ w ∈ wsL_law0_r6, w ∈ lw_tbl := fun w h => (goodIn_r wsL_law0_r6 [8, 297, 298, 300, 9, 301, 302, 304, 10, 305, 306, 308, 11, 309, 310, 312, 12, 313, 314, 316, 13, 317, 318, 319] (by decide +kernel) (by decide +kernel) w h).1
set_option maxRecDepth 20000 in
theorem in_wsL_law0_r7 : ∀ w ∈ wsL_law0_r7, w ∈ lw_tbl := fun w h => (goodIn_r wsL_law0_r7 [320, 321, 323, 14, 324, 325, 326, 327, 328, 329, 330, 331, 336, 28, 332, 334, 15, 335, 352, 353, 354, 355, 356, 358] (by decide +kernel) (by decide +kernel) w h).1
set_option maxRecDepth 20000 in
theorem in_wsL_law0_r8 : ∀ w ∈ wsL_law0_r8, w ∈ lw_tbl := fun w h => (goodIn_r wsL_law0_r8 [16, 359, 360, 361, 362, 363, 364, 365, 366, 367, 369, 372, 373, 374, 375, 376, 377, 29, 378, 379, 380, 381, 382, 383] (by decide +kernel) (by decide +kernel) w h).1
