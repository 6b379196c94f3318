set_option maxRecDepth 20000 in
theorem ggL_law_X2_init : GoodIn wsL_law wsX2_init := goodIn_r _ [9, 10, 11, 12, 13, 14, 15, 16, 17, 18, 19, 20, 21, 22, 23, 24, 25, 26, 27, 28, 29, 30, 31, 32, 33, 34, 35, 36, 37, 38, 39, 40, 41, 42, 43, 44, 45, 46, 47, 48, 49, 50, 51, 52, 53, 54, 55, 56, 57, 481, 482, 483, 484, 485, 486, 487, 488, 489, 459, 460, 461, 462, 490, 491, 492, 493, 494, 495, 496, 497, 498] (by decide +kernel) (by decide +kernel)
set_option maxRecDepth 20000 in
theorem gL_law_X2_init : GoodIn wsL_law (wsX2_init) := ggL_law_X2_init
set_option maxRecDepth 20000 in
theorem ggL_law_X3_init : GoodIn wsL_law wsX3_init := goodIn_r _ [60, 61, 11, 12, 28, 62, 63, 64, 65, 66, 67, 68, 17, 69, 70, 71, 72, 73, 74, 75, 76, 463, 464, 465, 466, 467, 468, 469, 470, 471, 472, 473, 474, 475, 476, 477, 478, 479, 480] (by decide +kernel) (by decide +kernel)
set_option maxRecDepth 20000 in
theorem gL_law_X3_init : GoodIn wsL_law (wsX3_init) := ggL_law_X3_init
set_option maxRecDepth 20000 in
theorem ggL_law_L_aim : GoodIn wsL_law wsL_aim := goodIn_ca (goodIn_ca (goodIn_r _ [80, 81, 82, 83, 84, 85, 2, 86, 87, 88, 89, 90, 16, 91, 92, 93, 94, 95, 96, 15, 97, 98, 29, 30, 31, 32, 34, 99, 100, 101, 102, 36, 103, 104, 105, 106, 35, 107, 108, 109, 110, 111, 112, 113, 114, 115, 23, 22, 18, 116, 117, 118, 21, 119, 47, 48, 49, 50, 41, 42, 43, 44, 45, 46, 51, 52, 53, 54, 55, 56, 57, 120, 121, 122, 123, 124, 125, 126, 127, 128, 129, 130, 131, 132, 133, 134, 135, 136, 137, 138, 139, 140, 141, 142, 143, 144, 145, 146, 147, 148, 149, 150, 151, 152, 153, 154, 155, 156, 157, 158, 159, 160, 161, 162, 459, 460, 461, 462, 481, 482, 483, 484, 485, 486, 487, 488, 489, 490, 491, 492, 493, 494, 495, 496, 497, 498] (by decide +kernel) (by decide +kernel)) (goodIn_sub (fun _ h => List.mem_append_left _ (List.mem_append_left _ (List.mem_append_left _ (List.mem_append_right _ h)))) (by decide +kernel))) (goodIn_sub (fun _ h => List.mem_append_left _ (List.mem_append_left _ (List.mem_append_right _ h))) (by decide +kernel))
set_option maxRecDepth 20000 in
theorem gL_law_L_aim : GoodIn wsL_law (va_wsS RL 61 yL_aim wsL_aim) := goodIn_app (goodIn_of _ (by decide +kernel)) ggL_law_L_aim
set_option maxRecDepth 20000 in
theorem ggL_law_X3_aim : GoodIn wsL_law wsX3_aim := goodIn_r _ [166, 167, 62, 63, 64, 65, 68, 168, 169, 5, 170, 171, 172, 173, 174, 175, 463, 464, 465, 466, 467, 468, 469, 470, 471, 472, 473, 474, 475, 476, 477, 478, 479, 480] (by decide +kernel) (by decide +kernel)
set_option maxRecDepth 20000 in
theorem gL_law_X3_aim : GoodIn wsL_law (wsV RL 66 RX3 yX3_aim wsX3_aim) := goodIn_app (goodIn_of _ (by decide +kernel)) ggL_law_X3_aim
set_option maxRecDepth 20000 in
theorem ggL_law_X3_thrown : GoodIn wsL_law wsX3_thrown := goodIn_r _ [179, 175, 463, 464, 465, 466, 467, 468, 469, 470, 471, 472, 473, 474, 475, 476, 477, 478, 479, 480] (by decide +kernel) (by decide +kernel)
set_option maxRecDepth 20000 in
theorem gL_law_X3_thrown : GoodIn wsL_law (wsV RL 67 RX3 yX3_thrown wsX3_thrown) := goodIn_app (goodIn_of _ (by decide +kernel)) ggL_law_X3_thrown
set_option maxRecDepth 20000 in
theorem ggL_law_L_need : GoodIn wsL_law wsL_need := goodIn_ca (goodIn_ca (goodIn_ca (goodIn_r _ [182, 183, 81, 82, 184, 185, 186, 2, 187, 188, 189, 87, 88, 89, 90, 16, 190, 191, 192, 193, 91, 92, 93, 194, 107, 108, 195, 196, 197, 15, 198, 35, 98, 199, 200, 201, 202, 203, 204, 205, 206, 99, 100, 101, 102, 36, 30, 103, 104, 105, 106, 109, 110, 111, 112, 113, 114, 115, 23, 22, 18, 116, 117, 118, 21, 119, 47, 48, 49, 50, 41, 42, 43, 44, 45, 46, 51, 52, 53, 54, 55, 56, 57, 120, 121, 122, 123, 124, 125, 126, 127, 128, 129, 130, 131, 132, 133, 134, 135, 136, 137, 138, 139, 140, 141, 142, 143, 144, 145, 146, 147, 148, 149, 150, 151, 152, 153, 154, 155, 156, 157, 158, 159, 160, 161, 162, 207, 208, 209, 210, 211, 212, 213, 459, 460, 461, 462, 481, 482, 483, 484, 485, 486, 487, 488, 489, 490, 491, 492, 493, 494, 495, 496, 497, 498] (by decide +kernel) (by decide +kernel)) (goodIn_sub (fun _ h => List.mem_append_left _ (List.mem_append_right _ h)) (by decide +kernel))) (goodIn_sub (fun _ h => List.mem_append_left _ (List.mem_append_left _ (List.mem_append_left _ (List.mem_append_right _ h)))) (by decide +kernel))) (goodIn_sub (fun _ h => List.mem_append_left _ (List.mem_append_left _ (List.mem_append_right _ h))) (by decide +kernel))
set_option maxRecDepth 20000 in
theorem gL_law_L_need : GoodIn wsL_law (va_wsS RL 71 yL_need wsL_need) := goodIn_app (goodIn_of _ (by decide +kernel)) ggL_law_L_need
set_option maxRecDepth 20000 in
theorem ggL_law_X3_need : GoodIn wsL_law wsX3_need := goodIn_r _ [217, 66, 218, 219, 220, 5, 221, 167, 168, 169, 170, 222, 223, 224, 225, 226, 227, 228, 229, 171, 172, 173, 174, 175, 230, 231, 232, 463, 464, 465, 466, 467, 468, 469, 470, 471, 472, 473, 474, 475, 476, 477, 478, 479, 480] (by decide +kernel) (by decide +kernel)
set_option maxRecDepth 20000 in
theorem gL_law_X3_need : GoodIn wsL_law (wsV RL 74 RX3 yX3_need wsX3_need) := goodIn_app (goodIn_of _ (by decide +kernel)) ggL_law_X3_need
set_option maxRecDepth 20000 in
theorem ggL_law_L_free : GoodIn wsL_law wsL_free := goodIn_ca (goodIn_ca (goodIn_r _ [235, 183, 236, 237, 238, 239, 2, 240, 188, 189, 241, 242, 16, 190, 191, 192, 193, 91, 92, 93, 194, 107, 108, 203, 204, 205, 15, 206, 35, 99, 100, 101, 102, 98, 36, 30, 103, 104, 105, 106, 109, 110, 111, 112, 113, 114, 115, 23, 22, 18, 116, 117, 118, 21, 119, 47, 48, 49, 50, 41, 42, 43, 44, 45, 46, 51, 52, 53, 54, 55, 56, 57, 120, 121, 122, 123, 124, 125, 126, 127, 128, 129, 130, 131, 132, 133, 134, 135, 136, 137, 138, 139, 140, 141, 142, 143, 144, 145, 146, 147, 148, 149, 150, 151, 152, 153, 154, 155, 156, 157, 158, 159, 160, 161, 162, 207, 208, 209, 210, 211, 212, 213, 459, 460, 461, 462, 481, 482, 483, 484, 485, 486, 487, 488, 489, 490, 491, 492, 493, 494, 495, 496, 497, 498] (by decide +kernel) (by decide +kernel)) (goodIn_sub (fun _ h => List.mem_append_left _ (List.mem_append_right _ h)) (by decide +kernel))) (goodIn_sub (fun _ h => List.mem_append_right _ h) (by decide +kernel))
set_option maxRecDepth 20000 in
theorem gL_law_L_free : GoodIn wsL_law (va_wsS RL 75 yL_free wsL_free) := goodIn_app (goodIn_of _ (by decide +kernel)) ggL_law_L_free
set_option maxRecDepth 20000 in
theorem ggL_law_X3_free : GoodIn wsL_law wsX3_free := goodIn_r _ [246, 66, 218, 219, 220, 5, 221, 167, 168, 169, 170, 222, 223, 224, 225, 171, 172, 173, 174, 175, 230, 231, 232, 463, 464, 465, 466, 467, 468, 469, 470, 471, 472, 473, 474, 475, 476, 477, 478, 479, 480] (by decide +kernel) (by decide +kernel)
set_option maxRecDepth 20000 in
theorem gL_law_X3_free : GoodIn wsL_law (wsV RL 77 RX3 yX3_free wsX3_free) := goodIn_app (goodIn_of _ (by decide +kernel)) ggL_law_X3_free
set_option maxRecDepth 20000 in
theorem ggL_law_L_revisits : GoodIn wsL_law wsL_revisits := goodIn_ca (goodIn_ca (goodIn_r _ [249, 183, 81, 250, 251, 252, 2, 253, 188, 189, 87, 88, 16, 190, 191, 192, 193, 91, 92, 93, 112, 113, 114, 115, 23, 22, 18, 116, 117, 118, 21, 119, 47, 48, 49, 50, 41, 42, 43, 44, 45, 46, 51, 52, 53, 54, 55, 56, 57, 120, 121, 122, 123, 124, 125, 126, 127, 128, 129, 130, 131, 132, 133, 134, 135, 136, 137, 138, 139, 140, 141, 142, 143, 144, 145, 146, 147, 148, 149, 150, 151, 152, 153, 154, 155, 156, 157, 158, 159, 160, 161, 162, 459, 460, 461, 462, 481, 482, 483, 484, 485, 486, 487, 488, 489, 490, 491, 492, 493, 494, 495, 496, 497, 498] (by decide +kernel) (by decide +kernel)) (goodIn_sub (fun _ h => List.mem_append_left _ (List.mem_append_right _ h)) (by decide +kernel))) (goodIn_sub (fun _ h => List.mem_append_left _ (List.mem_append_left _ (List.mem_append_left _ (List.mem_append_right _ h)))) (by decide +kernel))
set_option maxRecDepth 20000 in
theorem gL_law_L_revisits : GoodIn wsL_law (va_wsS RL 78 yL_revisits wsL_revisits) := goodIn_app (goodIn_of _ (by decide +kernel)) ggL_law_L_revisits
set_option maxRecDepth 20000 in
theorem ggL_law_X3_revisits : GoodIn wsL_law wsX3_revisits := goodIn_r _ [257, 67, 68, 218, 219, 220, 5, 221, 167, 168, 169, 170, 171, 172, 173, 174, 175, 463, 464, 465, 466, 467, 468, 469, 470, 471, 472, 473, 474, 475, 476, 477, 478, 479, 480] (by decide +kernel) (by decide +kernel)
set_option maxRecDepth 20000 in
theorem gL_law_X3_revisits : GoodIn wsL_law (wsV RL 81 RX3 yX3_revisits wsX3_revisits) := goodIn_app (goodIn_of _ (by decide +kernel)) ggL_law_X3_revisits
set_option maxRecDepth 20000 in
theorem ggL_law_X2_aims : GoodIn wsL_law wsX2_aims := goodIn_r _ [261, 16, 459, 460, 461, 462, 481, 482, 483, 484, 485, 486, 487, 488, 489] (by decide +kernel) (by decide +kernel)
set_option maxRecDepth 20000 in
theorem gL_law_X2_aims : GoodIn wsL_law (wsV RL 82 RX2 yX2_aims wsX2_aims) := goodIn_app (goodIn_of _ (by decide +kernel)) ggL_law_X2_aims
set_option maxRecDepth 20000 in
theorem ggL_law_X3_aims : GoodIn wsL_law wsX3_aims := goodIn_r _ [265, 175, 167, 463, 464, 465, 466, 467, 468, 469, 470, 471, 472, 473, 474, 475, 476, 477, 478, 479, 480] (by decide +kernel) (by decide +kernel)
set_option maxRecDepth 20000 in
theorem gL_law_X3_aims : GoodIn wsL_law (wsV RL 85 RX3 yX3_aims wsX3_aims) := goodIn_app (goodIn_of _ (by decide +kernel)) ggL_law_X3_aims
set_option maxRecDepth 20000 in
theorem ggL_law_L_allNeeds : GoodIn wsL_law wsL_allNeeds := goodIn_ca (goodIn_r _ [268, 183, 269, 270, 271, 2, 272, 188, 189, 16, 190, 191, 192, 193, 91, 92, 93, 195, 196, 197, 15, 198, 35, 98, 199, 200, 201, 202, 107, 108, 459, 460, 461, 462, 481, 482, 483, 484, 485, 486, 487, 488, 489] (by decide +kernel) (by decide +kernel)) (goodIn_sub (fun _ h => List.mem_append_left _ (List.mem_append_right _ h)) (by decide +kernel))
set_option maxRecDepth 20000 in
theorem gL_law_L_allNeeds : GoodIn wsL_law (va_wsS RL 86 yL_allNeeds wsL_allNeeds) := goodIn_app (goodIn_of _ (by decide +kernel)) ggL_law_L_allNeeds
set_option maxRecDepth 20000 in
theorem ggL_law_X3_allNeeds : GoodIn wsL_law wsX3_allNeeds := goodIn_r _ [276, 218, 219, 220, 5, 221, 167, 168, 169, 170, 171, 172, 173, 174, 175, 226, 227, 228, 229, 66, 463, 464, 465, 466, 467, 468, 469, 470, 471, 472, 473, 474, 475, 476, 477, 478, 479, 480] (by decide +kernel) (by decide +kernel)
set_option maxRecDepth 20000 in
theorem gL_law_X3_allNeeds : GoodIn wsL_law (wsV RL 89 RX3 yX3_allNeeds wsX3_allNeeds) := goodIn_app (goodIn_of _ (by decide +kernel)) ggL_law_X3_allNeeds
set_option maxRecDepth 20000 in
theorem ggL_law_L_ordered : GoodIn wsL_law wsL_ordered := goodIn_ca (goodIn_r _ [279, 183, 280, 281, 282, 2, 283, 188, 189, 16, 91, 92, 93, 459, 460, 461, 462, 481, 482, 483, 484, 485, 486, 487, 488, 489] (by decide +kernel) (by decide +kernel)) (goodIn_sub (fun _ h => List.mem_append_left _ (List.mem_append_right _ h)) (by decide +kernel))
set_option maxRecDepth 20000 in
theorem gL_law_L_ordered : GoodIn wsL_law (va_wsS RL 90 yL_ordered wsL_ordered) := goodIn_app (goodIn_of _ (by decide +kernel)) ggL_law_L_ordered
set_option maxRecDepth 20000 in
theorem ggL_law_X3_ordered : GoodIn wsL_law wsX3_ordered := goodIn_r _ [287, 167, 70, 168, 169, 5, 170, 171, 172, 173, 174, 175, 288, 289, 290, 291, 66, 63, 463, 464, 465, 466, 467, 468, 469, 470, 471, 472, 473, 474, 475, 476, 477, 478, 479, 480] (by decide +kernel) (by decide +kernel)
set_option maxRecDepth 20000 in
theorem gL_law_X3_ordered : GoodIn wsL_law (wsV RL 92 RX3 yX3_ordered wsX3_ordered) := goodIn_app (goodIn_of _ (by decide +kernel)) ggL_law_X3_ordered
set_option maxRecDepth 20000 in
theorem ggL_law_L_lose : GoodIn wsL_law wsL_lose := goodIn_ca (goodIn_ca (goodIn_r _ [294, 183, 82, 295, 296, 297, 2, 298, 188, 189, 89, 90, 18, 22, 23, 299, 300, 301, 91, 92, 93, 112, 113, 114, 115, 16, 116, 117, 118, 21, 119, 47, 48, 49, 50, 41, 42, 43, 44, 45, 46, 51, 52, 53, 54, 55, 56, 57, 120, 121, 122, 123, 124, 125, 126, 127, 128, 129, 130, 131, 132, 133, 134, 135, 136, 137, 138, 139, 140, 141, 142, 143, 144, 145, 146, 147, 148, 149, 150, 151, 152, 153, 154, 155, 156, 157, 158, 159, 160, 161, 162, 302, 303, 304, 305, 306, 307, 308, 459, 460, 461, 462, 490, 491, 492, 493, 494, 495, 496, 497, 498, 481, 482, 483, 484, 485, 486, 487, 488, 489] (by decide +kernel) (by decide +kernel)) (goodIn_sub (fun _ h => List.mem_append_left _ (List.mem_append_right _ h)) (by decide +kernel))) (goodIn_sub (fun _ h => List.mem_append_left _ (List.mem_append_left _ (List.mem_append_right _ h))) (by decide +kernel))
set_option maxRecDepth 20000 in
theorem gL_law_L_lose : GoodIn wsL_law (va_wsS RL 93 yL_lose wsL_lose) := goodIn_app (goodIn_of _ (by decide +kernel)) ggL_law_L_lose
set_option maxRecDepth 20000 in
theorem ggL_law_X3_lose : GoodIn wsL_law wsX3_lose := goodIn_r _ [312, 69, 76, 168, 169, 5, 170, 171, 172, 173, 174, 175, 313, 314, 315, 316, 317, 74, 75, 72, 73, 71, 288, 289, 290, 291, 167, 66, 63, 70, 318, 319, 320, 321, 322, 323, 324, 325, 62, 67, 68, 326, 327, 328, 329, 330, 331, 332, 333, 334, 335, 336, 337, 65, 338, 339, 340, 341, 463, 464, 465, 466, 467, 468, 469, 470, 471, 472, 473, 474, 475, 476, 477, 478, 479, 480] (by decide +kernel) (by decide +kernel)
set_option maxRecDepth 20000 in
theorem gL_law_X3_lose : GoodIn wsL_law (wsV RL 95 RX3 yX3_lose wsX3_lose) := goodIn_app (goodIn_of _ (by decide +kernel)) ggL_law_X3_lose
set_option maxRecDepth 20000 in
theorem ggL_law_L_on : GoodIn wsL_law wsL_on := goodIn_ca (goodIn_r _ [344, 183, 345, 346, 347, 2, 348, 188, 189, 22, 299, 300, 301, 91, 92, 93, 459, 460, 461, 462, 490, 491, 492, 493, 494, 495, 496, 497, 498] (by decide +kernel) (by decide +kernel)) (goodIn_sub (fun _ h => List.mem_append_left _ (List.mem_append_right _ h)) (by decide +kernel))
set_option maxRecDepth 20000 in
theorem gL_law_L_on : GoodIn wsL_law (va_wsS RL 96 yL_on wsL_on) := goodIn_app (goodIn_of _ (by decide +kernel)) ggL_law_L_on
set_option maxRecDepth 20000 in
theorem ggL_law_X3_on : GoodIn wsL_law wsX3_on := goodIn_r _ [352, 71, 168, 169, 5, 170, 171, 172, 173, 174, 175, 313, 314, 315, 316, 317, 74, 75, 72, 73, 69, 288, 289, 290, 291, 167, 66, 63, 70, 318, 319, 320, 321, 322, 323, 324, 325, 62, 67, 68, 326, 327, 328, 329, 330, 331, 332, 333, 334, 335, 336, 337, 65, 463, 464, 465, 466, 467, 468, 469, 470, 471, 472, 473, 474, 475, 476, 477, 478, 479, 480] (by decide +kernel) (by decide +kernel)
set_option maxRecDepth 20000 in
theorem gL_law_X3_on : GoodIn wsL_law (wsV RL 98 RX3 yX3_on wsX3_on) := goodIn_app (goodIn_of _ (by decide +kernel)) ggL_law_X3_on
set_option maxRecDepth 20000 in
theorem ggL_law_L_lessonDay : GoodIn wsL_law wsL_lessonDay := goodIn_ca (goodIn_r _ [355, 183, 356, 357, 358, 2, 359, 188, 189, 16, 22, 190, 191, 192, 193, 91, 92, 93, 459, 460, 461, 462, 481, 482, 483, 484, 485, 486, 487, 488, 489, 490, 491, 492, 493, 494, 495, 496, 497, 498] (by decide +kernel) (by decide +kernel)) (goodIn_sub (fun _ h => List.mem_append_left _ (List.mem_append_right _ h)) (by decide +kernel))
set_option maxRecDepth 20000 in
theorem gL_law_L_lessonDay : GoodIn wsL_law (va_wsS RL 99 yL_lessonDay wsL_lessonDay) := goodIn_app (goodIn_of _ (by decide +kernel)) ggL_law_L_lessonDay
set_option maxRecDepth 20000 in
theorem ggL_law_X3_lessonDay : GoodIn wsL_law wsX3_lessonDay := goodIn_r _ [363, 62, 72, 218, 219, 220, 5, 221, 167, 168, 169, 170, 171, 172, 173, 174, 175, 313, 314, 315, 316, 317, 74, 75, 73, 71, 69, 288, 289, 290, 291, 66, 63, 70, 318, 319, 320, 321, 322, 323, 324, 325, 67, 68, 326, 327, 328, 329, 330, 331, 332, 333, 334, 335, 336, 337, 65, 463, 464, 465, 466, 467, 468, 469, 470, 471, 472, 473, 474, 475, 476, 477, 478, 479, 480] (by decide +kernel) (by decide +kernel)
set_option maxRecDepth 20000 in
theorem gL_law_X3_lessonDay : GoodIn wsL_law (wsV RL 101 RX3 yX3_lessonDay wsX3_lessonDay) := goodIn_app (goodIn_of _ (by decide +kernel)) ggL_law_X3_lessonDay
set_option maxRecDepth 20000 in
theorem ggL_law_L_revisitDay : GoodIn wsL_law wsL_revisitDay := goodIn_ca (goodIn_r _ [366, 183, 367, 368, 369, 2, 370, 188, 189, 16, 22, 190, 191, 192, 193, 91, 92, 93, 459, 460, 461, 462, 481, 482, 483, 484, 485, 486, 487, 488, 489, 490, 491, 492, 493, 494, 495, 496, 497, 498] (by decide +kernel) (by decide +kernel)) (goodIn_sub (fun _ h => List.mem_append_left _ (List.mem_append_right _ h)) (by decide +kernel))
set_option maxRecDepth 20000 in
theorem gL_law_L_revisitDay : GoodIn wsL_law (va_wsS RL 102 yL_revisitDay wsL_revisitDay) := goodIn_app (goodIn_of _ (by decide +kernel)) ggL_law_L_revisitDay
set_option maxRecDepth 20000 in
theorem ggL_law_X3_revisitDay : GoodIn wsL_law wsX3_revisitDay := goodIn_r _ [374, 67, 73, 218, 219, 220, 5, 221, 167, 168, 169, 170, 171, 172, 173, 174, 175, 313, 314, 315, 316, 317, 74, 75, 72, 71, 69, 288, 289, 290, 291, 66, 63, 70, 318, 319, 320, 321, 322, 323, 324, 325, 62, 68, 326, 327, 328, 329, 330, 331, 332, 333, 334, 335, 336, 337, 65, 463, 464, 465, 466, 467, 468, 469, 470, 471, 472, 473, 474, 475, 476, 477, 478, 479, 480] (by decide +kernel) (by decide +kernel)
set_option maxRecDepth 20000 in
theorem gL_law_X3_revisitDay : GoodIn wsL_law (wsV RL 104 RX3 yX3_revisitDay wsX3_revisitDay) := goodIn_app (goodIn_of _ (by decide +kernel)) ggL_law_X3_revisitDay
set_option maxRecDepth 20000 in
theorem ggL_law_X2_laid : GoodIn wsL_law wsX2_laid := goodIn_r _ [378, 22, 459, 460, 461, 462, 490, 491, 492, 493, 494, 495, 496, 497, 498] (by decide +kernel) (by decide +kernel)
set_option maxRecDepth 20000 in
theorem gL_law_X2_laid : GoodIn wsL_law (wsV RL 105 RX2 yX2_laid wsX2_laid) := goodIn_app (goodIn_of _ (by decide +kernel)) ggL_law_X2_laid
set_option maxRecDepth 20000 in
theorem ggL_law_X3_laid : GoodIn wsL_law wsX3_laid := goodIn_r _ [382, 175, 71, 313, 314, 315, 5, 316, 317, 74, 75, 72, 73, 69, 288, 289, 290, 291, 167, 66, 63, 70, 318, 319, 320, 321, 322, 323, 324, 325, 62, 67, 68, 326, 327, 328, 329, 330, 331, 332, 333, 334, 335, 336, 337, 65, 463, 464, 465, 466, 467, 468, 469, 470, 471, 472, 473, 474, 475, 476, 477, 478, 479, 480] (by decide +kernel) (by decide +kernel)
set_option maxRecDepth 20000 in
theorem gL_law_X3_laid : GoodIn wsL_law (wsV RL 108 RX3 yX3_laid wsX3_laid) := goodIn_app (goodIn_of _ (by decide +kernel)) ggL_law_X3_laid
set_option maxRecDepth 20000 in
theorem ggL_law_X2_late : GoodIn wsL_law wsX2_late := goodIn_r _ [386, 22, 459, 460, 461, 462, 490, 491, 492, 493, 494, 495, 496, 497, 498] (by decide +kernel) (by decide +kernel)
set_option maxRecDepth 20000 in
theorem gL_law_X2_late : GoodIn wsL_law (wsV RL 109 RX2 yX2_late wsX2_late) := goodIn_app (goodIn_of _ (by decide +kernel)) ggL_law_X2_late
set_option maxRecDepth 20000 in
theorem ggL_law_X3_late : GoodIn wsL_law wsX3_late := goodIn_r _ [390, 175, 317, 313, 314, 315, 5, 316, 74, 75, 72, 73, 71, 69, 288, 289, 290, 291, 167, 66, 63, 70, 318, 319, 320, 321, 322, 323, 324, 325, 62, 67, 68, 326, 327, 328, 329, 330, 331, 332, 333, 334, 335, 336, 337, 65, 463, 464, 465, 466, 467, 468, 469, 470, 471, 472, 473, 474, 475, 476, 477, 478, 479, 480] (by decide +kernel) (by decide +kernel)
set_option maxRecDepth 20000 in
theorem gL_law_X3_late : GoodIn wsL_law (wsV RL 112 RX3 yX3_late wsX3_late) := goodIn_app (goodIn_of _ (by decide +kernel)) ggL_law_X3_late
set_option maxRecDepth 20000 in
theorem ggL_law_X2_lastDay : GoodIn wsL_law wsX2_lastDay := goodIn_r _ [394, 22, 459, 460, 461, 462, 490, 491, 492, 493, 494, 495, 496, 497, 498] (by decide +kernel) (by decide +kernel)
set_option maxRecDepth 20000 in
theorem gL_law_X2_lastDay : GoodIn wsL_law (wsV RL 113 RX2 yX2_lastDay wsX2_lastDay) := goodIn_app (goodIn_of _ (by decide +kernel)) ggL_law_X2_lastDay
set_option maxRecDepth 20000 in
theorem ggL_law_X3_lastDay : GoodIn wsL_law wsX3_lastDay := goodIn_r _ [398, 175, 71, 313, 314, 315, 5, 316, 317, 74, 75, 72, 73, 69, 288, 289, 290, 291, 167, 66, 63, 70, 318, 319, 320, 321, 322, 323, 324, 325, 62, 67, 68, 326, 327, 328, 329, 330, 331, 332, 333, 334, 335, 336, 337, 65, 463, 464, 465, 466, 467, 468, 469, 470, 471, 472, 473, 474, 475, 476, 477, 478, 479, 480] (by decide +kernel) (by decide +kernel)
set_option maxRecDepth 20000 in
theorem gL_law_X3_lastDay : GoodIn wsL_law (wsV RL 116 RX3 yX3_lastDay wsX3_lastDay) := goodIn_app (goodIn_of _ (by decide +kernel)) ggL_law_X3_lastDay
set_option maxRecDepth 20000 in
theorem ggL_law_L_worthwhile : GoodIn wsL_law wsL_worthwhile := goodIn_ca (goodIn_r _ [401, 81, 402, 403, 404, 2, 405, 87, 88, 16, 91, 92, 93, 406, 407, 408, 15, 409, 98, 410, 411, 412, 413, 35, 107, 108, 109, 110, 111, 414, 415, 416, 417, 31, 29, 418, 208, 209, 210, 211, 212, 213, 459, 460, 461, 462, 481, 482, 483, 484, 485, 486, 487, 488, 489] (by decide +kernel) (by decide +kernel)) (goodIn_sub (fun _ h => List.mem_append_left _ (List.mem_append_left _ (List.mem_append_left _ (List.mem_append_right _ h)))) (by decide +kernel))
set_option maxRecDepth 20000 in
theorem gL_law_L_worthwhile : GoodIn wsL_law (va_wsS RL 117 yL_worthwhile wsL_worthwhile) := goodIn_app (goodIn_of _ (by decide +kernel)) ggL_law_L_worthwhile
set_option maxRecDepth 20000 in
theorem ggL_law_X3_worthwhile : GoodIn wsL_law wsX3_worthwhile := goodIn_r _ [422, 168, 169, 5, 170, 171, 172, 173, 174, 175, 423, 424, 425, 426, 167, 427, 428, 429, 430, 66, 431, 432, 433, 434, 64, 62, 230, 231, 232, 463, 464, 465, 466, 467, 468, 469, 470, 471, 472, 473, 474, 475, 476, 477, 478, 479, 480] (by decide +kernel) (by decide +kernel)
set_option maxRecDepth 20000 in
theorem gL_law_X3_worthwhile : GoodIn wsL_law (wsV RL 119 RX3 yX3_worthwhile wsX3_worthwhile) := goodIn_app (goodIn_of _ (by decide +kernel)) ggL_law_X3_worthwhile
set_option maxRecDepth 20000 in
theorem ggL_law_L_bestNet : GoodIn wsL_law wsL_bestNet := goodIn_ca (goodIn_r _ [437, 81, 438, 439, 440, 2, 441, 87, 88, 16, 91, 92, 93, 406, 407, 408, 15, 409, 98, 410, 411, 412, 413, 35, 107, 108, 109, 110, 111, 414, 415, 416, 417, 31, 29, 418, 208, 209, 210, 211, 212, 213, 442, 459, 460, 461, 462, 481, 482, 483, 484, 485, 486, 487, 488, 489] (by decide +kernel) (by decide +kernel)) (goodIn_sub (fun _ h => List.mem_append_left _ (List.mem_append_left _ (List.mem_append_left _ (List.mem_append_right _ h)))) (by decide +kernel))
set_option maxRecDepth 20000 in
theorem gL_law_L_bestNet : GoodIn wsL_law (va_wsS RL 120 yL_bestNet wsL_bestNet) := goodIn_app (goodIn_of _ (by decide +kernel)) ggL_law_L_bestNet
set_option maxRecDepth 20000 in
theorem ggL_law_X3_bestNet : GoodIn wsL_law wsX3_bestNet := goodIn_r _ [446, 168, 169, 5, 170, 171, 172, 173, 174, 175, 423, 424, 425, 426, 167, 427, 428, 429, 430, 66, 431, 432, 433, 434, 64, 62, 230, 231, 232, 463, 464, 465, 466, 467, 468, 469, 470, 471, 472, 473, 474, 475, 476, 477, 478, 479, 480] (by decide +kernel) (by decide +kernel)
set_option maxRecDepth 20000 in
theorem gL_law_X3_bestNet : GoodIn wsL_law (wsV RL 122 RX3 yX3_bestNet wsX3_bestNet) := goodIn_app (goodIn_of _ (by decide +kernel)) ggL_law_X3_bestNet
set_option maxRecDepth 20000 in
theorem ggL_law_X2_closedSets : GoodIn wsL_law wsX2_closedSets := goodIn_r _ [450, 16, 451, 452, 453, 15, 454, 98, 410, 411, 412, 413, 35, 107, 2, 108, 109, 110, 111, 459, 460, 461, 462, 481, 482, 483, 484, 485, 486, 487, 488, 489] (by decide +kernel) (by decide +kernel)
set_option maxRecDepth 20000 in
theorem gL_law_X2_closedSets : GoodIn wsL_law (wsV RL 123 RX2 yX2_closedSets wsX2_closedSets) := goodIn_app (goodIn_of _ (by decide +kernel)) ggL_law_X2_closedSets
set_option maxRecDepth 20000 in
theorem ggL_law_X3_closedSets : GoodIn wsL_law wsX3_closedSets := goodIn_r _ [458, 175, 167, 427, 428, 429, 5, 430, 66, 463, 464, 465, 466, 467, 468, 469, 470, 471, 472, 473, 474, 475, 476, 477, 478, 479, 480] (by decide +kernel) (by decide +kernel)
set_option maxRecDepth 20000 in
theorem gL_law_X3_closedSets : GoodIn wsL_law (wsV RL 126 RX3 yX3_closedSets wsX3_closedSets) := goodIn_app (goodIn_of _ (by decide +kernel)) ggL_law_X3_closedSets
