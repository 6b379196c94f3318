theorem dJ6_bitCount_0f7a4_0 : decode cJ6_bitCount_0f7a4 0 = .ok (.iload_n 0, 1) := by decide +kernel
theorem dJ6_bitCount_0f7a4_1 : decode cJ6_bitCount_0f7a4 1 = .ok (.iload_n 0, 1) := by decide +kernel
theorem dJ6_bitCount_0f7a4_2 : decode cJ6_bitCount_0f7a4 2 = .ok (.iconst 1, 1) := by decide +kernel
theorem dJ6_bitCount_0f7a4_3 : decode cJ6_bitCount_0f7a4 3 = .ok (.iushr, 1) := by decide +kernel
theorem dJ6_bitCount_0f7a4_4 : decode cJ6_bitCount_0f7a4 4 = .ok (.ldc_w 265, 3) := by decide +kernel
theorem dJ6_bitCount_0f7a4_7 : decode cJ6_bitCount_0f7a4 7 = .ok (.iand, 1) := by decide +kernel
theorem dJ6_bitCount_0f7a4_8 : decode cJ6_bitCount_0f7a4 8 = .ok (.isub, 1) := by decide +kernel
theorem dJ6_bitCount_0f7a4_9 : decode cJ6_bitCount_0f7a4 9 = .ok (.istore_n 0, 1) := by decide +kernel
theorem dJ6_bitCount_0f7a4_10 : decode cJ6_bitCount_0f7a4 10 = .ok (.iload_n 0, 1) := by decide +kernel
theorem dJ6_bitCount_0f7a4_11 : decode cJ6_bitCount_0f7a4 11 = .ok (.ldc_w 266, 3) := by decide +kernel
theorem dJ6_bitCount_0f7a4_14 : decode cJ6_bitCount_0f7a4 14 = .ok (.iand, 1) := by decide +kernel
theorem dJ6_bitCount_0f7a4_15 : decode cJ6_bitCount_0f7a4 15 = .ok (.iload_n 0, 1) := by decide +kernel
theorem dJ6_bitCount_0f7a4_16 : decode cJ6_bitCount_0f7a4 16 = .ok (.iconst 2, 1) := by decide +kernel
theorem dJ6_bitCount_0f7a4_17 : decode cJ6_bitCount_0f7a4 17 = .ok (.iushr, 1) := by decide +kernel
theorem dJ6_bitCount_0f7a4_18 : decode cJ6_bitCount_0f7a4 18 = .ok (.ldc_w 266, 3) := by decide +kernel
theorem dJ6_bitCount_0f7a4_21 : decode cJ6_bitCount_0f7a4 21 = .ok (.iand, 1) := by decide +kernel
theorem dJ6_bitCount_0f7a4_22 : decode cJ6_bitCount_0f7a4 22 = .ok (.iadd, 1) := by decide +kernel
theorem dJ6_bitCount_0f7a4_23 : decode cJ6_bitCount_0f7a4 23 = .ok (.istore_n 0, 1) := by decide +kernel
theorem dJ6_bitCount_0f7a4_24 : decode cJ6_bitCount_0f7a4 24 = .ok (.iload_n 0, 1) := by decide +kernel
theorem dJ6_bitCount_0f7a4_25 : decode cJ6_bitCount_0f7a4 25 = .ok (.iload_n 0, 1) := by decide +kernel
theorem dJ6_bitCount_0f7a4_26 : decode cJ6_bitCount_0f7a4 26 = .ok (.iconst 4, 1) := by decide +kernel
theorem dJ6_bitCount_0f7a4_27 : decode cJ6_bitCount_0f7a4 27 = .ok (.iushr, 1) := by decide +kernel
theorem dJ6_bitCount_0f7a4_28 : decode cJ6_bitCount_0f7a4 28 = .ok (.iadd, 1) := by decide +kernel
theorem dJ6_bitCount_0f7a4_29 : decode cJ6_bitCount_0f7a4 29 = .ok (.ldc_w 267, 3) := by decide +kernel
theorem dJ6_bitCount_0f7a4_32 : decode cJ6_bitCount_0f7a4 32 = .ok (.iand, 1) := by decide +kernel
theorem dJ6_bitCount_0f7a4_33 : decode cJ6_bitCount_0f7a4 33 = .ok (.istore_n 0, 1) := by decide +kernel
theorem dJ6_bitCount_0f7a4_34 : decode cJ6_bitCount_0f7a4 34 = .ok (.iload_n 0, 1) := by decide +kernel
theorem dJ6_bitCount_0f7a4_35 : decode cJ6_bitCount_0f7a4 35 = .ok (.iload_n 0, 1) := by decide +kernel
theorem dJ6_bitCount_0f7a4_36 : decode cJ6_bitCount_0f7a4 36 = .ok (.bipush 8, 2) := by decide +kernel
theorem dJ6_bitCount_0f7a4_38 : decode cJ6_bitCount_0f7a4 38 = .ok (.iushr, 1) := by decide +kernel
theorem dJ6_bitCount_0f7a4_39 : decode cJ6_bitCount_0f7a4 39 = .ok (.iadd, 1) := by decide +kernel
theorem dJ6_bitCount_0f7a4_40 : decode cJ6_bitCount_0f7a4 40 = .ok (.istore_n 0, 1) := by decide +kernel
theorem dJ6_bitCount_0f7a4_41 : decode cJ6_bitCount_0f7a4 41 = .ok (.iload_n 0, 1) := by decide +kernel
theorem dJ6_bitCount_0f7a4_42 : decode cJ6_bitCount_0f7a4 42 = .ok (.iload_n 0, 1) := by decide +kernel
theorem dJ6_bitCount_0f7a4_43 : decode cJ6_bitCount_0f7a4 43 = .ok (.bipush 16, 2) := by decide +kernel
theorem dJ6_bitCount_0f7a4_45 : decode cJ6_bitCount_0f7a4 45 = .ok (.iushr, 1) := by decide +kernel
theorem dJ6_bitCount_0f7a4_46 : decode cJ6_bitCount_0f7a4 46 = .ok (.iadd, 1) := by decide +kernel
theorem dJ6_bitCount_0f7a4_47 : decode cJ6_bitCount_0f7a4 47 = .ok (.istore_n 0, 1) := by decide +kernel
theorem dJ6_bitCount_0f7a4_48 : decode cJ6_bitCount_0f7a4 48 = .ok (.iload_n 0, 1) := by decide +kernel
theorem dJ6_bitCount_0f7a4_49 : decode cJ6_bitCount_0f7a4 49 = .ok (.bipush 63, 2) := by decide +kernel
theorem dJ6_bitCount_0f7a4_51 : decode cJ6_bitCount_0f7a4 51 = .ok (.iand, 1) := by decide +kernel
theorem dJ6_bitCount_0f7a4_52 : decode cJ6_bitCount_0f7a4 52 = .ok (.ireturn, 1) := by decide +kernel
theorem dJ7_fill_53178_0 : decode cJ7_fill_53178 0 = .ok (.iconst 0, 1) := by decide +kernel
theorem dJ7_fill_53178_1 : decode cJ7_fill_53178 1 = .ok (.istore_n 2, 1) := by decide +kernel
theorem dJ7_fill_53178_2 : decode cJ7_fill_53178 2 = .ok (.aload_n 0, 1) := by decide +kernel
theorem dJ7_fill_53178_3 : decode cJ7_fill_53178 3 = .ok (.arraylength, 1) := by decide +kernel
theorem dJ7_fill_53178_4 : decode cJ7_fill_53178 4 = .ok (.istore_n 3, 1) := by decide +kernel
theorem dJ7_fill_53178_5 : decode cJ7_fill_53178 5 = .ok (.iload_n 2, 1) := by decide +kernel
theorem dJ7_fill_53178_6 : decode cJ7_fill_53178 6 = .ok (.iload_n 3, 1) := by decide +kernel
theorem dJ7_fill_53178_7 : decode cJ7_fill_53178 7 = .ok (.if_icmp .ge 13, 3) := by decide +kernel
theorem dJ7_fill_53178_10 : decode cJ7_fill_53178 10 = .ok (.aload_n 0, 1) := by decide +kernel
theorem dJ7_fill_53178_11 : decode cJ7_fill_53178 11 = .ok (.iload_n 2, 1) := by decide +kernel
theorem dJ7_fill_53178_12 : decode cJ7_fill_53178 12 = .ok (.iload_n 1, 1) := by decide +kernel
theorem dJ7_fill_53178_13 : decode cJ7_fill_53178 13 = .ok (.iastore, 1) := by decide +kernel
theorem dJ7_fill_53178_14 : decode cJ7_fill_53178 14 = .ok (.iinc 2 1, 3) := by decide +kernel
theorem dJ7_fill_53178_17 : decode cJ7_fill_53178 17 = .ok (.goto (-12), 3) := by decide +kernel
theorem dJ7_fill_53178_20 : decode cJ7_fill_53178 20 = .ok (.return_, 1) := by decide +kernel
set_option maxRecDepth 20000 in
theorem ggL_aim_X2_aim : GoodIn wsL_aim wsX2_aim := goodIn_ca (goodIn_ca (goodIn_r _ [7, 8, 9, 10, 11, 12, 13, 14, 6, 15, 16, 17, 18, 19, 20, 21, 22, 23, 24, 25, 26, 27, 28, 29, 30, 31, 32, 33, 34, 35, 36, 37, 38, 39, 40, 41, 42, 43, 44, 45, 46, 47, 48, 49, 50, 51, 52, 53, 54, 55, 56, 57, 58, 59, 60, 61, 62, 63, 64, 65, 66, 67, 68, 69, 70, 71, 72, 73, 74, 75, 76, 77, 78, 79, 80, 81, 82, 83, 84, 85, 86, 87, 88, 89, 90, 91, 92, 93, 94, 95, 96, 97, 98, 99, 100, 101, 102, 103, 104, 105, 106, 107, 108, 109, 110, 111, 112, 113, 114, 115, 116, 117, 118, 119, 120, 121, 122, 123, 124, 125, 126, 127, 128, 129, 130, 131, 132, 133, 134, 135] (by decide +kernel) (by decide +kernel)) (goodIn_sub (fun _ h => List.mem_cons_of_mem _ (List.mem_append_left _ (List.mem_append_right _ h))) (by decide +kernel))) (goodIn_sub (fun _ h => List.mem_cons_of_mem _ (List.mem_append_right _ h)) (by decide +kernel))
set_option maxRecDepth 20000 in
theorem gL_aim_X2_aim : GoodIn wsL_aim (wsV RL 7 RX2 yX2_aim wsX2_aim) := goodIn_app (goodIn_of _ (by decide +kernel)) ggL_aim_X2_aim
theorem dL_aim_0 : decode cL_aim 0 = .ok (.aload 5, 2) := by decide +kernel
theorem dL_aim_2 : decode cL_aim 2 = .ok (.iconst 0, 1) := by decide +kernel
theorem dL_aim_3 : decode cL_aim 3 = .ok (.aload_n 0, 1) := by decide +kernel
theorem dL_aim_4 : decode cL_aim 4 = .ok (.iload_n 1, 1) := by decide +kernel
theorem dL_aim_5 : decode cL_aim 5 = .ok (.iload_n 2, 1) := by decide +kernel
theorem dL_aim_6 : decode cL_aim 6 = .ok (.iload_n 3, 1) := by decide +kernel
theorem dL_aim_7 : decode cL_aim 7 = .ok (.iload 4, 2) := by decide +kernel
theorem dL_aim_9 : decode cL_aim 9 = .ok (.invokevirtual 7, 3) := by decide +kernel
theorem dL_aim_12 : decode cL_aim 12 = .ok (.i2l, 1) := by decide +kernel
theorem dL_aim_13 : decode cL_aim 13 = .ok (.lastore, 1) := by decide +kernel
theorem dL_aim_14 : decode cL_aim 14 = .ok (.goto 11, 3) := by decide +kernel
theorem dL_aim_17 : decode cL_aim 17 = .ok (.astore 6, 2) := by decide +kernel
theorem dL_aim_19 : decode cL_aim 19 = .ok (.iconst 1, 1) := by decide +kernel
theorem dL_aim_20 : decode cL_aim 20 = .ok (.ireturn, 1) := by decide +kernel
theorem dL_aim_21 : decode cL_aim 21 = .ok (.astore 6, 2) := by decide +kernel
theorem dL_aim_23 : decode cL_aim 23 = .ok (.iconst 2, 1) := by decide +kernel
theorem dL_aim_24 : decode cL_aim 24 = .ok (.ireturn, 1) := by decide +kernel
theorem dL_aim_25 : decode cL_aim 25 = .ok (.iconst 0, 1) := by decide +kernel
theorem dL_aim_26 : decode cL_aim 26 = .ok (.ireturn, 1) := by decide +kernel
set_option maxRecDepth 20000 in
theorem ggL_need_X2_need : GoodIn wsL_need wsX2_need := goodIn_ca (goodIn_ca (goodIn_ca (goodIn_r _ [8, 9, 10, 11, 12, 13, 14, 15, 16, 17, 18, 7, 19, 20, 21, 22, 23, 24, 25, 26, 27, 28, 29, 30, 31, 32, 33, 34, 35, 36, 37, 38, 39, 40, 41, 42, 43, 44, 45, 46, 47, 48, 49, 50, 51, 52, 53, 54, 55, 56, 57, 58, 59, 60, 61, 62, 63, 64, 65, 66, 67, 68, 69, 70, 71, 72, 73, 74, 75, 76, 77, 78, 79, 80, 81, 82, 83, 84, 85, 86, 87, 88, 89, 90, 91, 92, 93, 94, 95, 96, 97, 98, 99, 100, 101, 102, 103, 104, 105, 106, 107, 108, 109, 110, 111, 112, 113, 114, 115, 116, 117, 118, 119, 120, 121, 122, 123, 124, 125, 126, 127, 128, 129, 130, 131, 132, 133, 134, 135, 136, 137, 138, 139, 140, 141, 142, 143, 144, 145, 146, 147, 148, 149, 150, 151, 152, 153, 154] (by decide +kernel) (by decide +kernel)) (goodIn_sub (fun _ h => List.mem_cons_of_mem _ (List.mem_append_left _ (List.mem_append_left _ (List.mem_append_right _ h)))) (by decide +kernel))) (goodIn_sub (fun _ h => List.mem_cons_of_mem _ (List.mem_append_left _ (List.mem_append_right _ h))) (by decide +kernel))) (goodIn_sub (fun _ h => List.mem_cons_of_mem _ (List.mem_append_right _ h)) (by decide +kernel))
set_option maxRecDepth 20000 in
theorem gL_need_X2_need : GoodIn wsL_need (wsV RL 17 RX2 yX2_need wsX2_need) := goodIn_app (goodIn_of _ (by decide +kernel)) ggL_need_X2_need
theorem dL_need_0 : decode cL_need 0 = .ok (.aload_n 3, 1) := by decide +kernel
theorem dL_need_1 : decode cL_need 1 = .ok (.iconst 0, 1) := by decide +kernel
theorem dL_need_2 : decode cL_need 2 = .ok (.aload_n 0, 1) := by decide +kernel
theorem dL_need_3 : decode cL_need 3 = .ok (.iload_n 1, 1) := by decide +kernel
theorem dL_need_4 : decode cL_need 4 = .ok (.iload_n 2, 1) := by decide +kernel
theorem dL_need_5 : decode cL_need 5 = .ok (.invokevirtual 17, 3) := by decide +kernel
theorem dL_need_8 : decode cL_need 8 = .ok (.i2l, 1) := by decide +kernel
theorem dL_need_9 : decode cL_need 9 = .ok (.lastore, 1) := by decide +kernel
theorem dL_need_10 : decode cL_need 10 = .ok (.goto 15, 3) := by decide +kernel
theorem dL_need_13 : decode cL_need 13 = .ok (.astore 4, 2) := by decide +kernel
theorem dL_need_15 : decode cL_need 15 = .ok (.iconst 1, 1) := by decide +kernel
theorem dL_need_16 : decode cL_need 16 = .ok (.ireturn, 1) := by decide +kernel
theorem dL_need_17 : decode cL_need 17 = .ok (.astore 4, 2) := by decide +kernel
theorem dL_need_19 : decode cL_need 19 = .ok (.iconst 2, 1) := by decide +kernel
theorem dL_need_20 : decode cL_need 20 = .ok (.ireturn, 1) := by decide +kernel
theorem dL_need_21 : decode cL_need 21 = .ok (.astore 4, 2) := by decide +kernel
theorem dL_need_23 : decode cL_need 23 = .ok (.iconst 3, 1) := by decide +kernel
theorem dL_need_24 : decode cL_need 24 = .ok (.ireturn, 1) := by decide +kernel
theorem dL_need_25 : decode cL_need 25 = .ok (.iconst 0, 1) := by decide +kernel
theorem dL_need_26 : decode cL_need 26 = .ok (.ireturn, 1) := by decide +kernel
set_option maxRecDepth 20000 in
theorem ggL_free_X2_free : GoodIn wsL_free wsX2_free := goodIn_ca (goodIn_ca (goodIn_r _ [7, 8, 9, 10, 11, 12, 13, 14, 15, 6, 16, 17, 18, 19, 20, 21, 22, 23, 24, 25, 26, 27, 28, 29, 30, 31, 32, 33, 34, 35, 36, 37, 38, 39, 40, 41, 42, 43, 44, 45, 46, 47, 48, 49, 50, 51, 52, 53, 54, 55, 56, 57, 58, 59, 60, 61, 62, 63, 64, 65, 66, 67, 68, 69, 70, 71, 72, 73, 74, 75, 76, 77, 78, 79, 80, 81, 82, 83, 84, 85, 86, 87, 88, 89, 90, 91, 92, 93, 94, 95, 96, 97, 98, 99, 100, 101, 102, 103, 104, 105, 106, 107, 108, 109, 110, 111, 112, 113, 114, 115, 116, 117, 118, 119, 120, 121, 122, 123, 124, 125, 126, 127, 128, 129, 130, 131, 132, 133, 134, 135, 136, 137, 138, 139, 140, 141, 142, 143] (by decide +kernel) (by decide +kernel)) (goodIn_sub (fun _ h => List.mem_cons_of_mem _ (List.mem_append_left _ (List.mem_append_right _ h))) (by decide +kernel))) (goodIn_sub (fun _ h => List.mem_cons_of_mem _ (List.mem_append_right _ h)) (by decide +kernel))
set_option maxRecDepth 20000 in
theorem gL_free_X2_free : GoodIn wsL_free (wsV RL 23 RX2 yX2_free wsX2_free) := goodIn_app (goodIn_of _ (by decide +kernel)) ggL_free_X2_free
theorem dL_free_0 : decode cL_free 0 = .ok (.aload_n 3, 1) := by decide +kernel
theorem dL_free_1 : decode cL_free 1 = .ok (.iconst 0, 1) := by decide +kernel
theorem dL_free_2 : decode cL_free 2 = .ok (.aload_n 0, 1) := by decide +kernel
theorem dL_free_3 : decode cL_free 3 = .ok (.iload_n 1, 1) := by decide +kernel
theorem dL_free_4 : decode cL_free 4 = .ok (.iload_n 2, 1) := by decide +kernel
theorem dL_free_5 : decode cL_free 5 = .ok (.invokevirtual 23, 3) := by decide +kernel
theorem dL_free_8 : decode cL_free 8 = .ok (.i2l, 1) := by decide +kernel
theorem dL_free_9 : decode cL_free 9 = .ok (.lastore, 1) := by decide +kernel
theorem dL_free_10 : decode cL_free 10 = .ok (.goto 11, 3) := by decide +kernel
theorem dL_free_13 : decode cL_free 13 = .ok (.astore 4, 2) := by decide +kernel
theorem dL_free_15 : decode cL_free 15 = .ok (.iconst 1, 1) := by decide +kernel
theorem dL_free_16 : decode cL_free 16 = .ok (.ireturn, 1) := by decide +kernel
theorem dL_free_17 : decode cL_free 17 = .ok (.astore 4, 2) := by decide +kernel
theorem dL_free_19 : decode cL_free 19 = .ok (.iconst 2, 1) := by decide +kernel
theorem dL_free_20 : decode cL_free 20 = .ok (.ireturn, 1) := by decide +kernel
theorem dL_free_21 : decode cL_free 21 = .ok (.iconst 0, 1) := by decide +kernel
theorem dL_free_22 : decode cL_free 22 = .ok (.ireturn, 1) := by decide +kernel
set_option maxRecDepth 20000 in
theorem ggL_revisits_X2_revisits : GoodIn wsL_revisits wsX2_revisits := goodIn_ca (goodIn_ca (goodIn_r _ [7, 8, 9, 10, 11, 12, 13, 14, 15, 6, 16, 17, 18, 19, 20, 21, 22, 23, 24, 25, 26, 27, 28, 29, 30, 31, 32, 33, 34, 35, 36, 37, 38, 39, 40, 41, 42, 43, 44, 45, 46, 47, 48, 49, 50, 51, 52, 53, 54, 55, 56, 57, 58, 59, 60, 61, 62, 63, 64, 65, 66, 67, 68, 69, 70, 71, 72, 73, 74, 75, 76, 77, 78, 79, 80, 81, 82, 83, 84, 85, 86, 87, 88, 89, 90, 91, 92, 93, 94, 95, 96, 97, 98, 99, 100, 101, 102, 103, 104, 105, 106, 107, 108, 109, 110, 111, 112, 113] (by decide +kernel) (by decide +kernel)) (goodIn_sub (fun _ h => List.mem_cons_of_mem _ (List.mem_append_left _ (List.mem_append_right _ h))) (by decide +kernel))) (goodIn_sub (fun _ h => List.mem_cons_of_mem _ (List.mem_append_right _ h)) (by decide +kernel))
set_option maxRecDepth 20000 in
theorem gL_revisits_X2_revisits : GoodIn wsL_revisits (wsV RL 28 RX2 yX2_revisits wsX2_revisits) := goodIn_app (goodIn_of _ (by decide +kernel)) ggL_revisits_X2_revisits
theorem dL_revisits_0 : decode cL_revisits 0 = .ok (.aload 4, 2) := by decide +kernel
theorem dL_revisits_2 : decode cL_revisits 2 = .ok (.iconst 0, 1) := by decide +kernel
theorem dL_revisits_3 : decode cL_revisits 3 = .ok (.aload_n 0, 1) := by decide +kernel
theorem dL_revisits_4 : decode cL_revisits 4 = .ok (.iload_n 1, 1) := by decide +kernel
theorem dL_revisits_5 : decode cL_revisits 5 = .ok (.iload_n 2, 1) := by decide +kernel
theorem dL_revisits_6 : decode cL_revisits 6 = .ok (.iload_n 3, 1) := by decide +kernel
theorem dL_revisits_7 : decode cL_revisits 7 = .ok (.invokevirtual 28, 3) := by decide +kernel
theorem dL_revisits_10 : decode cL_revisits 10 = .ok (.i2l, 1) := by decide +kernel
theorem dL_revisits_11 : decode cL_revisits 11 = .ok (.lastore, 1) := by decide +kernel
theorem dL_revisits_12 : decode cL_revisits 12 = .ok (.goto 11, 3) := by decide +kernel
theorem dL_revisits_15 : decode cL_revisits 15 = .ok (.astore 5, 2) := by decide +kernel
theorem dL_revisits_17 : decode cL_revisits 17 = .ok (.iconst 1, 1) := by decide +kernel
theorem dL_revisits_18 : decode cL_revisits 18 = .ok (.ireturn, 1) := by decide +kernel
theorem dL_revisits_19 : decode cL_revisits 19 = .ok (.astore 5, 2) := by decide +kernel
theorem dL_revisits_21 : decode cL_revisits 21 = .ok (.iconst 2, 1) := by decide +kernel
theorem dL_revisits_22 : decode cL_revisits 22 = .ok (.ireturn, 1) := by decide +kernel
theorem dL_revisits_23 : decode cL_revisits 23 = .ok (.iconst 0, 1) := by decide +kernel
theorem dL_revisits_24 : decode cL_revisits 24 = .ok (.ireturn, 1) := by decide +kernel
set_option maxRecDepth 20000 in
theorem ggL_allNeeds_X2_allNeeds : GoodIn wsL_allNeeds wsX2_allNeeds := goodIn_ca (goodIn_r _ [6, 7, 8, 9, 10, 11, 12, 5, 13, 14, 15, 16, 17, 18, 19, 20, 21, 22, 23, 24, 25, 26, 27, 28, 29, 30, 31, 32, 33, 34, 35, 36, 37, 38, 39, 40, 41, 42] (by decide +kernel) (by decide +kernel)) (goodIn_sub (fun _ h => List.mem_cons_of_mem _ (List.mem_append_right _ h)) (by decide +kernel))
set_option maxRecDepth 20000 in
theorem gL_allNeeds_X2_allNeeds : GoodIn wsL_allNeeds (wsV RL 32 RX2 yX2_allNeeds wsX2_allNeeds) := goodIn_app (goodIn_of _ (by decide +kernel)) ggL_allNeeds_X2_allNeeds
theorem dL_allNeeds_0 : decode cL_allNeeds 0 = .ok (.aload_n 2, 1) := by decide +kernel
theorem dL_allNeeds_1 : decode cL_allNeeds 1 = .ok (.iconst 0, 1) := by decide +kernel
theorem dL_allNeeds_2 : decode cL_allNeeds 2 = .ok (.aload_n 0, 1) := by decide +kernel
theorem dL_allNeeds_3 : decode cL_allNeeds 3 = .ok (.iload_n 1, 1) := by decide +kernel
theorem dL_allNeeds_4 : decode cL_allNeeds 4 = .ok (.invokevirtual 32, 3) := by decide +kernel
theorem dL_allNeeds_7 : decode cL_allNeeds 7 = .ok (.i2l, 1) := by decide +kernel
theorem dL_allNeeds_8 : decode cL_allNeeds 8 = .ok (.lastore, 1) := by decide +kernel
theorem dL_allNeeds_9 : decode cL_allNeeds 9 = .ok (.goto 6, 3) := by decide +kernel
theorem dL_allNeeds_12 : decode cL_allNeeds 12 = .ok (.astore_n 3, 1) := by decide +kernel
theorem dL_allNeeds_13 : decode cL_allNeeds 13 = .ok (.iconst 1, 1) := by decide +kernel
theorem dL_allNeeds_14 : decode cL_allNeeds 14 = .ok (.ireturn, 1) := by decide +kernel
theorem dL_allNeeds_15 : decode cL_allNeeds 15 = .ok (.iconst 0, 1) := by decide +kernel
theorem dL_allNeeds_16 : decode cL_allNeeds 16 = .ok (.ireturn, 1) := by decide +kernel
set_option maxRecDepth 20000 in
theorem ggL_ordered_X2_ordered : GoodIn wsL_ordered wsX2_ordered := goodIn_ca (goodIn_r _ [6, 7, 8, 9, 10, 11, 5, 12, 13, 14, 15, 16, 17, 18, 19, 20, 21, 22, 23, 24, 25] (by decide +kernel) (by decide +kernel)) (goodIn_sub (fun _ h => List.mem_cons_of_mem _ (List.mem_append_right _ h)) (by decide +kernel))
set_option maxRecDepth 20000 in
theorem gL_ordered_X2_ordered : GoodIn wsL_ordered (wsV RL 36 RX2 yX2_ordered wsX2_ordered) := goodIn_app (goodIn_of _ (by decide +kernel)) ggL_ordered_X2_ordered
theorem dL_ordered_0 : decode cL_ordered 0 = .ok (.aload_n 2, 1) := by decide +kernel
theorem dL_ordered_1 : decode cL_ordered 1 = .ok (.iconst 0, 1) := by decide +kernel
theorem dL_ordered_2 : decode cL_ordered 2 = .ok (.aload_n 0, 1) := by decide +kernel
theorem dL_ordered_3 : decode cL_ordered 3 = .ok (.iload_n 1, 1) := by decide +kernel
theorem dL_ordered_4 : decode cL_ordered 4 = .ok (.invokevirtual 36, 3) := by decide +kernel
theorem dL_ordered_7 : decode cL_ordered 7 = .ok (.i2l, 1) := by decide +kernel
theorem dL_ordered_8 : decode cL_ordered 8 = .ok (.lastore, 1) := by decide +kernel
theorem dL_ordered_9 : decode cL_ordered 9 = .ok (.goto 6, 3) := by decide +kernel
theorem dL_ordered_12 : decode cL_ordered 12 = .ok (.astore_n 3, 1) := by decide +kernel
theorem dL_ordered_13 : decode cL_ordered 13 = .ok (.iconst 1, 1) := by decide +kernel
theorem dL_ordered_14 : decode cL_ordered 14 = .ok (.ireturn, 1) := by decide +kernel
theorem dL_ordered_15 : decode cL_ordered 15 = .ok (.iconst 0, 1) := by decide +kernel
theorem dL_ordered_16 : decode cL_ordered 16 = .ok (.ireturn, 1) := by decide +kernel
set_option maxRecDepth 20000 in
theorem ggL_lose_X2_lose : GoodIn wsL_lose wsX2_lose := goodIn_ca (goodIn_ca (goodIn_r _ [7, 8, 9, 10, 11, 12, 13, 14, 15, 16, 6, 17, 18, 19, 20, 21, 22, 23, 24, 25, 26, 27, 28, 29, 30, 31, 32, 33, 34, 35, 36, 37, 38, 39, 40, 41, 42, 43, 44, 45, 46, 47, 48, 49, 50, 51, 52, 53, 54, 55, 56, 57, 58, 59, 60, 61, 62, 63, 64, 65, 66, 67, 68, 69, 70, 71, 72, 73, 74, 75, 76, 77, 78, 79, 80, 81, 82, 83, 84, 85, 86, 87, 88, 89, 90, 91, 92, 93, 94, 95, 96, 97, 98, 99, 100, 101, 102, 103, 104, 105, 106, 107, 108, 109, 110, 111, 112, 113, 114, 115, 116, 117, 118, 119] (by decide +kernel) (by decide +kernel)) (goodIn_sub (fun _ h => List.mem_cons_of_mem _ (List.mem_append_left _ (List.mem_append_right _ h))) (by decide +kernel))) (goodIn_sub (fun _ h => List.mem_cons_of_mem _ (List.mem_append_right _ h)) (by decide +kernel))
set_option maxRecDepth 20000 in
theorem gL_lose_X2_lose : GoodIn wsL_lose (wsV RL 39 RX2 yX2_lose wsX2_lose) := goodIn_app (goodIn_of _ (by decide +kernel)) ggL_lose_X2_lose
theorem dL_lose_0 : decode cL_lose 0 = .ok (.aload_n 2, 1) := by decide +kernel
theorem dL_lose_1 : decode cL_lose 1 = .ok (.iconst 0, 1) := by decide +kernel
theorem dL_lose_2 : decode cL_lose 2 = .ok (.aload_n 0, 1) := by decide +kernel
theorem dL_lose_3 : decode cL_lose 3 = .ok (.iload_n 1, 1) := by decide +kernel
theorem dL_lose_4 : decode cL_lose 4 = .ok (.invokevirtual 39, 3) := by decide +kernel
theorem dL_lose_7 : decode cL_lose 7 = .ok (.i2l, 1) := by decide +kernel
theorem dL_lose_8 : decode cL_lose 8 = .ok (.lastore, 1) := by decide +kernel
theorem dL_lose_9 : decode cL_lose 9 = .ok (.goto 9, 3) := by decide +kernel
theorem dL_lose_12 : decode cL_lose 12 = .ok (.astore_n 3, 1) := by decide +kernel
theorem dL_lose_13 : decode cL_lose 13 = .ok (.iconst 1, 1) := by decide +kernel
theorem dL_lose_14 : decode cL_lose 14 = .ok (.ireturn, 1) := by decide +kernel
theorem dL_lose_15 : decode cL_lose 15 = .ok (.astore_n 3, 1) := by decide +kernel
theorem dL_lose_16 : decode cL_lose 16 = .ok (.iconst 2, 1) := by decide +kernel
theorem dL_lose_17 : decode cL_lose 17 = .ok (.ireturn, 1) := by decide +kernel
theorem dL_lose_18 : decode cL_lose 18 = .ok (.iconst 0, 1) := by decide +kernel
theorem dL_lose_19 : decode cL_lose 19 = .ok (.ireturn, 1) := by decide +kernel
set_option maxRecDepth 20000 in
theorem ggL_on_X2_on : GoodIn wsL_on wsX2_on := goodIn_ca (goodIn_r _ [6, 7, 8, 9, 10, 11, 5, 12, 13, 14, 15, 16, 17, 18, 19, 20, 21, 22, 23, 24, 25, 26, 27, 28] (by decide +kernel) (by decide +kernel)) (goodIn_sub (fun _ h => List.mem_cons_of_mem _ (List.mem_append_right _ h)) (by decide +kernel))
set_option maxRecDepth 20000 in
theorem gL_on_X2_on : GoodIn wsL_on (wsV RL 42 RX2 yX2_on wsX2_on) := goodIn_app (goodIn_of _ (by decide +kernel)) ggL_on_X2_on
theorem dL_on_0 : decode cL_on 0 = .ok (.aload_n 2, 1) := by decide +kernel
theorem dL_on_1 : decode cL_on 1 = .ok (.iconst 0, 1) := by decide +kernel
theorem dL_on_2 : decode cL_on 2 = .ok (.aload_n 0, 1) := by decide +kernel
theorem dL_on_3 : decode cL_on 3 = .ok (.iload_n 1, 1) := by decide +kernel
theorem dL_on_4 : decode cL_on 4 = .ok (.invokevirtual 42, 3) := by decide +kernel
theorem dL_on_7 : decode cL_on 7 = .ok (.i2l, 1) := by decide +kernel
theorem dL_on_8 : decode cL_on 8 = .ok (.lastore, 1) := by decide +kernel
theorem dL_on_9 : decode cL_on 9 = .ok (.goto 6, 3) := by decide +kernel
theorem dL_on_12 : decode cL_on 12 = .ok (.astore_n 3, 1) := by decide +kernel
theorem dL_on_13 : decode cL_on 13 = .ok (.iconst 1, 1) := by decide +kernel
theorem dL_on_14 : decode cL_on 14 = .ok (.ireturn, 1) := by decide +kernel
theorem dL_on_15 : decode cL_on 15 = .ok (.iconst 0, 1) := by decide +kernel
theorem dL_on_16 : decode cL_on 16 = .ok (.ireturn, 1) := by decide +kernel
set_option maxRecDepth 20000 in
theorem ggL_lessonDay_X2_lessonDay : GoodIn wsL_lessonDay wsX2_lessonDay := goodIn_ca (goodIn_r _ [6, 7, 8, 9, 10, 11, 12, 13, 5, 14, 15, 16, 17, 18, 19, 20, 21, 22, 23, 24, 25, 26, 27, 28, 29, 30, 31, 32, 33, 34, 35, 36, 37, 38, 39] (by decide +kernel) (by decide +kernel)) (goodIn_sub (fun _ h => List.mem_cons_of_mem _ (List.mem_append_right _ h)) (by decide +kernel))
set_option maxRecDepth 20000 in
theorem gL_lessonDay_X2_lessonDay : GoodIn wsL_lessonDay (wsV RL 45 RX2 yX2_lessonDay wsX2_lessonDay) := goodIn_app (goodIn_of _ (by decide +kernel)) ggL_lessonDay_X2_lessonDay
theorem dL_lessonDay_0 : decode cL_lessonDay 0 = .ok (.aload_n 3, 1) := by decide +kernel
theorem dL_lessonDay_1 : decode cL_lessonDay 1 = .ok (.iconst 0, 1) := by decide +kernel
theorem dL_lessonDay_2 : decode cL_lessonDay 2 = .ok (.aload_n 0, 1) := by decide +kernel
theorem dL_lessonDay_3 : decode cL_lessonDay 3 = .ok (.iload_n 1, 1) := by decide +kernel
theorem dL_lessonDay_4 : decode cL_lessonDay 4 = .ok (.iload_n 2, 1) := by decide +kernel
theorem dL_lessonDay_5 : decode cL_lessonDay 5 = .ok (.invokevirtual 45, 3) := by decide +kernel
theorem dL_lessonDay_8 : decode cL_lessonDay 8 = .ok (.i2l, 1) := by decide +kernel
theorem dL_lessonDay_9 : decode cL_lessonDay 9 = .ok (.lastore, 1) := by decide +kernel
theorem dL_lessonDay_10 : decode cL_lessonDay 10 = .ok (.goto 7, 3) := by decide +kernel
theorem dL_lessonDay_13 : decode cL_lessonDay 13 = .ok (.astore 4, 2) := by decide +kernel
theorem dL_lessonDay_15 : decode cL_lessonDay 15 = .ok (.iconst 1, 1) := by decide +kernel
theorem dL_lessonDay_16 : decode cL_lessonDay 16 = .ok (.ireturn, 1) := by decide +kernel
theorem dL_lessonDay_17 : decode cL_lessonDay 17 = .ok (.iconst 0, 1) := by decide +kernel
theorem dL_lessonDay_18 : decode cL_lessonDay 18 = .ok (.ireturn, 1) := by decide +kernel
set_option maxRecDepth 20000 in
theorem ggL_revisitDay_X2_revisitDay : GoodIn wsL_revisitDay wsX2_revisitDay := goodIn_ca (goodIn_r _ [6, 7, 8, 9, 10, 11, 12, 13, 5, 14, 15, 16, 17, 18, 19, 20, 21, 22, 23, 24, 25, 26, 27, 28, 29, 30, 31, 32, 33, 34, 35, 36, 37, 38, 39] (by decide +kernel) (by decide +kernel)) (goodIn_sub (fun _ h => List.mem_cons_of_mem _ (List.mem_append_right _ h)) (by decide +kernel))
set_option maxRecDepth 20000 in
theorem gL_revisitDay_X2_revisitDay : GoodIn wsL_revisitDay (wsV RL 48 RX2 yX2_revisitDay wsX2_revisitDay) := goodIn_app (goodIn_of _ (by decide +kernel)) ggL_revisitDay_X2_revisitDay
theorem dL_revisitDay_0 : decode cL_revisitDay 0 = .ok (.aload_n 3, 1) := by decide +kernel
theorem dL_revisitDay_1 : decode cL_revisitDay 1 = .ok (.iconst 0, 1) := by decide +kernel
theorem dL_revisitDay_2 : decode cL_revisitDay 2 = .ok (.aload_n 0, 1) := by decide +kernel
theorem dL_revisitDay_3 : decode cL_revisitDay 3 = .ok (.iload_n 1, 1) := by decide +kernel
theorem dL_revisitDay_4 : decode cL_revisitDay 4 = .ok (.iload_n 2, 1) := by decide +kernel
theorem dL_revisitDay_5 : decode cL_revisitDay 5 = .ok (.invokevirtual 48, 3) := by decide +kernel
theorem dL_revisitDay_8 : decode cL_revisitDay 8 = .ok (.i2l, 1) := by decide +kernel
theorem dL_revisitDay_9 : decode cL_revisitDay 9 = .ok (.lastore, 1) := by decide +kernel
theorem dL_revisitDay_10 : decode cL_revisitDay 10 = .ok (.goto 7, 3) := by decide +kernel
theorem dL_revisitDay_13 : decode cL_revisitDay 13 = .ok (.astore 4, 2) := by decide +kernel
theorem dL_revisitDay_15 : decode cL_revisitDay 15 = .ok (.iconst 1, 1) := by decide +kernel
theorem dL_revisitDay_16 : decode cL_revisitDay 16 = .ok (.ireturn, 1) := by decide +kernel
theorem dL_revisitDay_17 : decode cL_revisitDay 17 = .ok (.iconst 0, 1) := by decide +kernel
theorem dL_revisitDay_18 : decode cL_revisitDay 18 = .ok (.ireturn, 1) := by decide +kernel
set_option maxRecDepth 20000 in
theorem ggL_worthwhile_X2_worthwhile : GoodIn wsL_worthwhile wsX2_worthwhile := goodIn_ca (goodIn_r _ [6, 7, 8, 9, 10, 11, 5, 12, 13, 14, 15, 16, 17, 18, 19, 20, 21, 22, 23, 24, 25, 26, 27, 28, 29, 30, 31, 32, 33, 34, 35, 36, 37, 38, 39, 40, 41, 42, 43, 44, 45, 46, 47, 48, 49, 50, 51, 52, 53, 54] (by decide +kernel) (by decide +kernel)) (goodIn_sub (fun _ h => List.mem_cons_of_mem _ (List.mem_append_right _ h)) (by decide +kernel))
set_option maxRecDepth 20000 in
theorem gL_worthwhile_X2_worthwhile : GoodIn wsL_worthwhile (wsV RL 51 RX2 yX2_worthwhile wsX2_worthwhile) := goodIn_app (goodIn_of _ (by decide +kernel)) ggL_worthwhile_X2_worthwhile
theorem dL_worthwhile_0 : decode cL_worthwhile 0 = .ok (.aload_n 2, 1) := by decide +kernel
theorem dL_worthwhile_1 : decode cL_worthwhile 1 = .ok (.iconst 0, 1) := by decide +kernel
theorem dL_worthwhile_2 : decode cL_worthwhile 2 = .ok (.aload_n 0, 1) := by decide +kernel
theorem dL_worthwhile_3 : decode cL_worthwhile 3 = .ok (.iload_n 1, 1) := by decide +kernel
theorem dL_worthwhile_4 : decode cL_worthwhile 4 = .ok (.invokevirtual 51, 3) := by decide +kernel
theorem dL_worthwhile_7 : decode cL_worthwhile 7 = .ok (.i2l, 1) := by decide +kernel
theorem dL_worthwhile_8 : decode cL_worthwhile 8 = .ok (.lastore, 1) := by decide +kernel
theorem dL_worthwhile_9 : decode cL_worthwhile 9 = .ok (.goto 6, 3) := by decide +kernel
theorem dL_worthwhile_12 : decode cL_worthwhile 12 = .ok (.astore_n 3, 1) := by decide +kernel
theorem dL_worthwhile_13 : decode cL_worthwhile 13 = .ok (.iconst 1, 1) := by decide +kernel
theorem dL_worthwhile_14 : decode cL_worthwhile 14 = .ok (.ireturn, 1) := by decide +kernel
theorem dL_worthwhile_15 : decode cL_worthwhile 15 = .ok (.iconst 0, 1) := by decide +kernel
theorem dL_worthwhile_16 : decode cL_worthwhile 16 = .ok (.ireturn, 1) := by decide +kernel
set_option maxRecDepth 20000 in
theorem ggL_bestNet_X2_bestNet : GoodIn wsL_bestNet wsX2_bestNet := goodIn_ca (goodIn_r _ [6, 7, 8, 9, 10, 11, 5, 12, 13, 14, 15, 16, 17, 18, 19, 20, 21, 22, 23, 24, 25, 26, 27, 28, 29, 30, 31, 32, 33, 34, 35, 36, 37, 38, 39, 40, 41, 42, 43, 44, 45, 46, 47, 48, 49, 50, 51, 52, 53, 54, 55] (by decide +kernel) (by decide +kernel)) (goodIn_sub (fun _ h => List.mem_cons_of_mem _ (List.mem_append_right _ h)) (by decide +kernel))
set_option maxRecDepth 20000 in
theorem gL_bestNet_X2_bestNet : GoodIn wsL_bestNet (wsV RL 54 RX2 yX2_bestNet wsX2_bestNet) := goodIn_app (goodIn_of _ (by decide +kernel)) ggL_bestNet_X2_bestNet
theorem dL_bestNet_0 : decode cL_bestNet 0 = .ok (.aload_n 2, 1) := by decide +kernel
theorem dL_bestNet_1 : decode cL_bestNet 1 = .ok (.iconst 0, 1) := by decide +kernel
theorem dL_bestNet_2 : decode cL_bestNet 2 = .ok (.aload_n 0, 1) := by decide +kernel
theorem dL_bestNet_3 : decode cL_bestNet 3 = .ok (.iload_n 1, 1) := by decide +kernel
theorem dL_bestNet_4 : decode cL_bestNet 4 = .ok (.invokevirtual 54, 3) := by decide +kernel
theorem dL_bestNet_7 : decode cL_bestNet 7 = .ok (.i2l, 1) := by decide +kernel
theorem dL_bestNet_8 : decode cL_bestNet 8 = .ok (.lastore, 1) := by decide +kernel
theorem dL_bestNet_9 : decode cL_bestNet 9 = .ok (.goto 6, 3) := by decide +kernel
theorem dL_bestNet_12 : decode cL_bestNet 12 = .ok (.astore_n 3, 1) := by decide +kernel
theorem dL_bestNet_13 : decode cL_bestNet 13 = .ok (.iconst 1, 1) := by decide +kernel
theorem dL_bestNet_14 : decode cL_bestNet 14 = .ok (.ireturn, 1) := by decide +kernel
theorem dL_bestNet_15 : decode cL_bestNet 15 = .ok (.iconst 0, 1) := by decide +kernel
theorem dL_bestNet_16 : decode cL_bestNet 16 = .ok (.ireturn, 1) := by decide +kernel
