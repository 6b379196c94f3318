set_option maxRecDepth 20000 in
theorem gX2_revisits_X2_isAim : GoodIn wsX2_revisits (wsV RX2 63 RX2 yX2_isAim wsX2_isAim) := goodIn_app (goodIn_of _ (by decide +kernel)) ggX2_revisits_X2_isAim
set_option maxRecDepth 20000 in
theorem ggX2_revisits_X2_isWithin : GoodIn wsX2_revisits wsX2_isWithin := goodIn_r _ [13] (by decide +kernel) (by decide +kernel)
set_option maxRecDepth 20000 in
theorem gX2_revisits_X2_isWithin : GoodIn wsX2_revisits (va_wsS RX2 30 yX2_isWithin wsX2_isWithin) := goodIn_app (goodIn_of _ (by decide +kernel)) ggX2_revisits_X2_isWithin
set_option maxRecDepth 20000 in
theorem ggX2_revisits_X2_planAnew : GoodIn wsX2_revisits wsX2_planAnew := goodIn_r _ [17, 18, 19, 5, 20, 21, 22, 23, 24, 25, 26, 27, 28, 29, 30, 31, 32, 33, 34, 35, 36, 37, 38, 39, 40, 41, 42, 43, 44, 45, 46, 47, 48, 49, 50, 51, 52, 53, 54, 55, 56, 57, 58, 59, 60, 61, 62, 63, 64, 65, 66, 67, 68, 69, 70, 71, 72, 73, 74, 75, 76, 77, 78, 79, 80, 81, 82, 83, 84, 85, 86, 87, 88, 89, 99, 100, 101, 102, 103, 104, 105, 106, 107, 90, 91, 92, 93, 94, 95, 96, 97, 98] (by decide +kernel) (by decide +kernel)
set_option maxRecDepth 20000 in
theorem gX2_revisits_X2_planAnew : GoodIn wsX2_revisits (wsV RX2 60 RX2 yX2_planAnew wsX2_planAnew) := goodIn_app (goodIn_of _ (by decide +kernel)) ggX2_revisits_X2_planAnew
theorem dX2_revisits_0 : decode cX2_revisits 0 = .ok (.aload_n 0, 1) := by decide +kernel
theorem dX2_revisits_1 : decode cX2_revisits 1 = .ok (.iload_n 1, 1) := by decide +kernel
theorem dX2_revisits_2 : decode cX2_revisits 2 = .ok (.invokevirtual 63, 3) := by decide +kernel
theorem dX2_revisits_5 : decode cX2_revisits 5 = .ok (.ifCond .ne 13, 3) := by decide +kernel
theorem dX2_revisits_8 : decode cX2_revisits 8 = .ok (.new 67, 3) := by decide +kernel
theorem dX2_revisits_11 : decode cX2_revisits 11 = .ok (.dup, 1) := by decide +kernel
theorem dX2_revisits_12 : decode cX2_revisits 12 = .ok (.ldc 69, 2) := by decide +kernel
theorem dX2_revisits_14 : decode cX2_revisits 14 = .ok (.invokespecial 71, 3) := by decide +kernel
theorem dX2_revisits_17 : decode cX2_revisits 17 = .ok (.athrow, 1) := by decide +kernel
theorem dX2_revisits_18 : decode cX2_revisits 18 = .ok (.iload_n 2, 1) := by decide +kernel
theorem dX2_revisits_19 : decode cX2_revisits 19 = .ok (.iconst 0, 1) := by decide +kernel
theorem dX2_revisits_20 : decode cX2_revisits 20 = .ok (.iconst 3, 1) := by decide +kernel
theorem dX2_revisits_21 : decode cX2_revisits 21 = .ok (.invokestatic 30, 3) := by decide +kernel
theorem dX2_revisits_24 : decode cX2_revisits 24 = .ok (.ifCond .ne 13, 3) := by decide +kernel
theorem dX2_revisits_27 : decode cX2_revisits 27 = .ok (.new 34, 3) := by decide +kernel
theorem dX2_revisits_30 : decode cX2_revisits 30 = .ok (.dup, 1) := by decide +kernel
theorem dX2_revisits_31 : decode cX2_revisits 31 = .ok (.ldc 104, 2) := by decide +kernel
theorem dX2_revisits_33 : decode cX2_revisits 33 = .ok (.invokespecial 38, 3) := by decide +kernel
theorem dX2_revisits_36 : decode cX2_revisits 36 = .ok (.athrow, 1) := by decide +kernel
theorem dX2_revisits_37 : decode cX2_revisits 37 = .ok (.iload_n 3, 1) := by decide +kernel
theorem dX2_revisits_38 : decode cX2_revisits 38 = .ok (.iconst 1, 1) := by decide +kernel
theorem dX2_revisits_39 : decode cX2_revisits 39 = .ok (.bipush 20, 2) := by decide +kernel
theorem dX2_revisits_41 : decode cX2_revisits 41 = .ok (.invokestatic 30, 3) := by decide +kernel
theorem dX2_revisits_44 : decode cX2_revisits 44 = .ok (.ifCond .ne 13, 3) := by decide +kernel
theorem dX2_revisits_47 : decode cX2_revisits 47 = .ok (.new 34, 3) := by decide +kernel
theorem dX2_revisits_50 : decode cX2_revisits 50 = .ok (.dup, 1) := by decide +kernel
theorem dX2_revisits_51 : decode cX2_revisits 51 = .ok (.ldc 106, 2) := by decide +kernel
theorem dX2_revisits_53 : decode cX2_revisits 53 = .ok (.invokespecial 38, 3) := by decide +kernel
theorem dX2_revisits_56 : decode cX2_revisits 56 = .ok (.athrow, 1) := by decide +kernel
theorem dX2_revisits_57 : decode cX2_revisits 57 = .ok (.aload_n 0, 1) := by decide +kernel
theorem dX2_revisits_58 : decode cX2_revisits 58 = .ok (.getfield 10, 3) := by decide +kernel
theorem dX2_revisits_61 : decode cX2_revisits 61 = .ok (.getfield 108, 3) := by decide +kernel
theorem dX2_revisits_64 : decode cX2_revisits 64 = .ok (.iload_n 1, 1) := by decide +kernel
theorem dX2_revisits_65 : decode cX2_revisits 65 = .ok (.iaload, 1) := by decide +kernel
theorem dX2_revisits_66 : decode cX2_revisits 66 = .ok (.istore 4, 2) := by decide +kernel
theorem dX2_revisits_68 : decode cX2_revisits 68 = .ok (.aload_n 0, 1) := by decide +kernel
theorem dX2_revisits_69 : decode cX2_revisits 69 = .ok (.getfield 10, 3) := by decide +kernel
theorem dX2_revisits_72 : decode cX2_revisits 72 = .ok (.getfield 108, 3) := by decide +kernel
theorem dX2_revisits_75 : decode cX2_revisits 75 = .ok (.iload_n 1, 1) := by decide +kernel
theorem dX2_revisits_76 : decode cX2_revisits 76 = .ok (.iload_n 2, 1) := by decide +kernel
theorem dX2_revisits_77 : decode cX2_revisits 77 = .ok (.iastore, 1) := by decide +kernel
theorem dX2_revisits_78 : decode cX2_revisits 78 = .ok (.aload_n 0, 1) := by decide +kernel
theorem dX2_revisits_79 : decode cX2_revisits 79 = .ok (.getfield 10, 3) := by decide +kernel
theorem dX2_revisits_82 : decode cX2_revisits 82 = .ok (.getfield 111, 3) := by decide +kernel
theorem dX2_revisits_85 : decode cX2_revisits 85 = .ok (.iload_n 1, 1) := by decide +kernel
theorem dX2_revisits_86 : decode cX2_revisits 86 = .ok (.iload_n 3, 1) := by decide +kernel
theorem dX2_revisits_87 : decode cX2_revisits 87 = .ok (.iastore, 1) := by decide +kernel
theorem dX2_revisits_88 : decode cX2_revisits 88 = .ok (.aload_n 0, 1) := by decide +kernel
theorem dX2_revisits_89 : decode cX2_revisits 89 = .ok (.invokevirtual 60, 3) := by decide +kernel
theorem dX2_revisits_92 : decode cX2_revisits 92 = .ok (.iload 4, 2) := by decide +kernel
theorem dX2_revisits_94 : decode cX2_revisits 94 = .ok (.ireturn, 1) := by decide +kernel
theorem dX2_aims_0 : decode cX2_aims 0 = .ok (.aload_n 0, 1) := by decide +kernel
theorem dX2_aims_1 : decode cX2_aims 1 = .ok (.getfield 10, 3) := by decide +kernel
theorem dX2_aims_4 : decode cX2_aims 4 = .ok (.getfield 47, 3) := by decide +kernel
theorem dX2_aims_7 : decode cX2_aims 7 = .ok (.ireturn, 1) := by decide +kernel
set_option maxRecDepth 20000 in
theorem ggX2_allNeeds_X2_isAim : GoodIn wsX2_allNeeds wsX2_isAim := goodIn_r _ [8, 3, 9, 10, 7, 11, 25, 26, 27, 28, 29, 30, 31, 32, 33, 34, 35, 36, 37] (by decide +kernel) (by decide +kernel)
set_option maxRecDepth 20000 in
theorem gX2_allNeeds_X2_isAim : GoodIn wsX2_allNeeds (wsV RX2 63 RX2 yX2_isAim wsX2_isAim) := goodIn_app (goodIn_of _ (by decide +kernel)) ggX2_allNeeds_X2_isAim
set_option maxRecDepth 20000 in
theorem ggX2_allNeeds_X1_reach : GoodIn wsX2_allNeeds wsX1_reach := goodIn_r _ [16, 17, 18, 19, 20, 21, 15, 22, 23, 7, 24, 29, 30, 31, 32, 33, 34, 35, 36, 37] (by decide +kernel) (by decide +kernel)
set_option maxRecDepth 20000 in
theorem gX2_allNeeds_X1_reach : GoodIn wsX2_allNeeds (wsV RX2 84 RX1 yX1_reach wsX1_reach) := goodIn_app (goodIn_of _ (by decide +kernel)) ggX2_allNeeds_X1_reach
theorem dX2_allNeeds_0 : decode cX2_allNeeds 0 = .ok (.aload_n 0, 1) := by decide +kernel
theorem dX2_allNeeds_1 : decode cX2_allNeeds 1 = .ok (.iload_n 1, 1) := by decide +kernel
theorem dX2_allNeeds_2 : decode cX2_allNeeds 2 = .ok (.invokevirtual 63, 3) := by decide +kernel
theorem dX2_allNeeds_5 : decode cX2_allNeeds 5 = .ok (.ifCond .ne 13, 3) := by decide +kernel
theorem dX2_allNeeds_8 : decode cX2_allNeeds 8 = .ok (.new 67, 3) := by decide +kernel
theorem dX2_allNeeds_11 : decode cX2_allNeeds 11 = .ok (.dup, 1) := by decide +kernel
theorem dX2_allNeeds_12 : decode cX2_allNeeds 12 = .ok (.ldc 69, 2) := by decide +kernel
theorem dX2_allNeeds_14 : decode cX2_allNeeds 14 = .ok (.invokespecial 71, 3) := by decide +kernel
theorem dX2_allNeeds_17 : decode cX2_allNeeds 17 = .ok (.athrow, 1) := by decide +kernel
theorem dX2_allNeeds_18 : decode cX2_allNeeds 18 = .ok (.aload_n 0, 1) := by decide +kernel
theorem dX2_allNeeds_19 : decode cX2_allNeeds 19 = .ok (.getfield 10, 3) := by decide +kernel
theorem dX2_allNeeds_22 : decode cX2_allNeeds 22 = .ok (.iload_n 1, 1) := by decide +kernel
theorem dX2_allNeeds_23 : decode cX2_allNeeds 23 = .ok (.invokevirtual 84, 3) := by decide +kernel
theorem dX2_allNeeds_26 : decode cX2_allNeeds 26 = .ok (.ireturn, 1) := by decide +kernel
set_option maxRecDepth 20000 in
theorem ggX2_ordered_X2_isWithin : GoodIn wsX2_ordered wsX2_isWithin := goodIn_r _ [7] (by decide +kernel) (by decide +kernel)
set_option maxRecDepth 20000 in
theorem gX2_ordered_X2_isWithin : GoodIn wsX2_ordered (va_wsS RX2 30 yX2_isWithin wsX2_isWithin) := goodIn_app (goodIn_of _ (by decide +kernel)) ggX2_ordered_X2_isWithin
theorem dX2_ordered_0 : decode cX2_ordered 0 = .ok (.iload_n 1, 1) := by decide +kernel
theorem dX2_ordered_1 : decode cX2_ordered 1 = .ok (.iconst 0, 1) := by decide +kernel
theorem dX2_ordered_2 : decode cX2_ordered 2 = .ok (.aload_n 0, 1) := by decide +kernel
theorem dX2_ordered_3 : decode cX2_ordered 3 = .ok (.getfield 10, 3) := by decide +kernel
theorem dX2_ordered_6 : decode cX2_ordered 6 = .ok (.getfield 47, 3) := by decide +kernel
theorem dX2_ordered_9 : decode cX2_ordered 9 = .ok (.iconst 1, 1) := by decide +kernel
theorem dX2_ordered_10 : decode cX2_ordered 10 = .ok (.isub, 1) := by decide +kernel
theorem dX2_ordered_11 : decode cX2_ordered 11 = .ok (.invokestatic 30, 3) := by decide +kernel
theorem dX2_ordered_14 : decode cX2_ordered 14 = .ok (.ifCond .ne 13, 3) := by decide +kernel
theorem dX2_ordered_17 : decode cX2_ordered 17 = .ok (.new 67, 3) := by decide +kernel
theorem dX2_ordered_20 : decode cX2_ordered 20 = .ok (.dup, 1) := by decide +kernel
theorem dX2_ordered_21 : decode cX2_ordered 21 = .ok (.ldc 114, 2) := by decide +kernel
theorem dX2_ordered_23 : decode cX2_ordered 23 = .ok (.invokespecial 71, 3) := by decide +kernel
theorem dX2_ordered_26 : decode cX2_ordered 26 = .ok (.athrow, 1) := by decide +kernel
theorem dX2_ordered_27 : decode cX2_ordered 27 = .ok (.aload_n 0, 1) := by decide +kernel
theorem dX2_ordered_28 : decode cX2_ordered 28 = .ok (.getfield 10, 3) := by decide +kernel
theorem dX2_ordered_31 : decode cX2_ordered 31 = .ok (.getfield 116, 3) := by decide +kernel
theorem dX2_ordered_34 : decode cX2_ordered 34 = .ok (.iload_n 1, 1) := by decide +kernel
theorem dX2_ordered_35 : decode cX2_ordered 35 = .ok (.iaload, 1) := by decide +kernel
theorem dX2_ordered_36 : decode cX2_ordered 36 = .ok (.ireturn, 1) := by decide +kernel
set_option maxRecDepth 20000 in
theorem ggX2_lose_X2_isDay : GoodIn wsX2_lose wsX2_isDay := goodIn_r _ [11, 12, 13, 10, 14] (by decide +kernel) (by decide +kernel)
set_option maxRecDepth 20000 in
theorem gX2_lose_X2_isDay : GoodIn wsX2_lose (va_wsS RX2 119 yX2_isDay wsX2_isDay) := goodIn_app (goodIn_of _ (by decide +kernel)) ggX2_lose_X2_isDay
set_option maxRecDepth 20000 in
theorem ggX2_lose_X2_planAnew : GoodIn wsX2_lose wsX2_planAnew := goodIn_r _ [18, 7, 6, 19, 5, 20, 21, 22, 23, 24, 25, 26, 27, 28, 29, 30, 31, 32, 33, 34, 35, 36, 37, 38, 39, 40, 41, 42, 43, 44, 45, 46, 47, 48, 49, 50, 51, 52, 53, 54, 55, 56, 57, 58, 59, 60, 61, 62, 63, 64, 65, 66, 67, 68, 69, 70, 71, 72, 73, 74, 75, 76, 77, 78, 79, 80, 81, 82, 83, 84, 92, 93, 94, 95, 96, 97, 98, 99, 100, 101, 102, 103, 104, 105, 106, 107, 108, 109, 110, 111, 112, 113] (by decide +kernel) (by decide +kernel)
set_option maxRecDepth 20000 in
theorem gX2_lose_X2_planAnew : GoodIn wsX2_lose (wsV RX2 60 RX2 yX2_planAnew wsX2_planAnew) := goodIn_app (goodIn_of _ (by decide +kernel)) ggX2_lose_X2_planAnew
set_option maxRecDepth 20000 in
theorem ggX2_lose_X0_movedSince : GoodIn wsX2_lose wsX0_movedSince := goodIn_r _ [88, 30, 31, 89, 90, 23, 91, 96, 97, 98, 99, 100, 101, 102, 103, 104] (by decide +kernel) (by decide +kernel)
set_option maxRecDepth 20000 in
theorem gX2_lose_X0_movedSince : GoodIn wsX2_lose (wsV RX2 126 RX0 yX0_movedSince wsX0_movedSince) := goodIn_app (goodIn_of _ (by decide +kernel)) ggX2_lose_X0_movedSince
theorem dX2_lose_0 : decode cX2_lose 0 = .ok (.iload_n 1, 1) := by decide +kernel
theorem dX2_lose_1 : decode cX2_lose 1 = .ok (.invokestatic 119, 3) := by decide +kernel
theorem dX2_lose_4 : decode cX2_lose 4 = .ok (.ifCond .ne 13, 3) := by decide +kernel
theorem dX2_lose_7 : decode cX2_lose 7 = .ok (.new 67, 3) := by decide +kernel
theorem dX2_lose_10 : decode cX2_lose 10 = .ok (.dup, 1) := by decide +kernel
theorem dX2_lose_11 : decode cX2_lose 11 = .ok (.ldc 122, 2) := by decide +kernel
theorem dX2_lose_13 : decode cX2_lose 13 = .ok (.invokespecial 71, 3) := by decide +kernel
theorem dX2_lose_16 : decode cX2_lose 16 = .ok (.athrow, 1) := by decide +kernel
theorem dX2_lose_17 : decode cX2_lose 17 = .ok (.aload_n 0, 1) := by decide +kernel
theorem dX2_lose_18 : decode cX2_lose 18 = .ok (.getfield 16, 3) := by decide +kernel
theorem dX2_lose_21 : decode cX2_lose 21 = .ok (.iload_n 1, 1) := by decide +kernel
theorem dX2_lose_22 : decode cX2_lose 22 = .ok (.baload, 1) := by decide +kernel
theorem dX2_lose_23 : decode cX2_lose 23 = .ok (.ifCond .eq 13, 3) := by decide +kernel
theorem dX2_lose_26 : decode cX2_lose 26 = .ok (.new 51, 3) := by decide +kernel
theorem dX2_lose_29 : decode cX2_lose 29 = .ok (.dup, 1) := by decide +kernel
theorem dX2_lose_30 : decode cX2_lose 30 = .ok (.ldc 124, 2) := by decide +kernel
theorem dX2_lose_32 : decode cX2_lose 32 = .ok (.invokespecial 55, 3) := by decide +kernel
theorem dX2_lose_35 : decode cX2_lose 35 = .ok (.athrow, 1) := by decide +kernel
theorem dX2_lose_36 : decode cX2_lose 36 = .ok (.aload_n 0, 1) := by decide +kernel
theorem dX2_lose_37 : decode cX2_lose 37 = .ok (.getfield 16, 3) := by decide +kernel
theorem dX2_lose_40 : decode cX2_lose 40 = .ok (.iload_n 1, 1) := by decide +kernel
theorem dX2_lose_41 : decode cX2_lose 41 = .ok (.iconst 1, 1) := by decide +kernel
theorem dX2_lose_42 : decode cX2_lose 42 = .ok (.bastore, 1) := by decide +kernel
theorem dX2_lose_43 : decode cX2_lose 43 = .ok (.aload_n 0, 1) := by decide +kernel
theorem dX2_lose_44 : decode cX2_lose 44 = .ok (.invokevirtual 60, 3) := by decide +kernel
theorem dX2_lose_47 : decode cX2_lose 47 = .ok (.aload_n 0, 1) := by decide +kernel
theorem dX2_lose_48 : decode cX2_lose 48 = .ok (.getfield 23, 3) := by decide +kernel
theorem dX2_lose_51 : decode cX2_lose 51 = .ok (.aload_n 0, 1) := by decide +kernel
theorem dX2_lose_52 : decode cX2_lose 52 = .ok (.getfield 27, 3) := by decide +kernel
theorem dX2_lose_55 : decode cX2_lose 55 = .ok (.invokevirtual 126, 3) := by decide +kernel
theorem dX2_lose_58 : decode cX2_lose 58 = .ok (.ireturn, 1) := by decide +kernel
set_option maxRecDepth 20000 in
theorem ggX2_on_X2_isDay : GoodIn wsX2_on wsX2_isDay := goodIn_r _ [7, 8, 9, 6, 10] (by decide +kernel) (by decide +kernel)
set_option maxRecDepth 20000 in
theorem gX2_on_X2_isDay : GoodIn wsX2_on (va_wsS RX2 119 yX2_isDay wsX2_isDay) := goodIn_app (goodIn_of _ (by decide +kernel)) ggX2_on_X2_isDay
theorem dX2_on_0 : decode cX2_on 0 = .ok (.iload_n 1, 1) := by decide +kernel
theorem dX2_on_1 : decode cX2_on 1 = .ok (.invokestatic 119, 3) := by decide +kernel
theorem dX2_on_4 : decode cX2_on 4 = .ok (.ifCond .ne 13, 3) := by decide +kernel
theorem dX2_on_7 : decode cX2_on 7 = .ok (.new 67, 3) := by decide +kernel
theorem dX2_on_10 : decode cX2_on 10 = .ok (.dup, 1) := by decide +kernel
theorem dX2_on_11 : decode cX2_on 11 = .ok (.ldc 122, 2) := by decide +kernel
theorem dX2_on_13 : decode cX2_on 13 = .ok (.invokespecial 71, 3) := by decide +kernel
theorem dX2_on_16 : decode cX2_on 16 = .ok (.athrow, 1) := by decide +kernel
theorem dX2_on_17 : decode cX2_on 17 = .ok (.aload_n 0, 1) := by decide +kernel
theorem dX2_on_18 : decode cX2_on 18 = .ok (.getfield 23, 3) := by decide +kernel
theorem dX2_on_21 : decode cX2_on 21 = .ok (.getfield 130, 3) := by decide +kernel
theorem dX2_on_24 : decode cX2_on 24 = .ok (.iload_n 1, 1) := by decide +kernel
theorem dX2_on_25 : decode cX2_on 25 = .ok (.iaload, 1) := by decide +kernel
theorem dX2_on_26 : decode cX2_on 26 = .ok (.ireturn, 1) := by decide +kernel
set_option maxRecDepth 20000 in
theorem ggX2_lessonDay_X2_isAim : GoodIn wsX2_lessonDay wsX2_isAim := goodIn_r _ [9, 3, 10, 11, 8, 12, 13, 14, 15, 16, 17, 18, 19, 20, 21, 22, 23, 24, 25] (by decide +kernel) (by decide +kernel)
set_option maxRecDepth 20000 in
theorem gX2_lessonDay_X2_isAim : GoodIn wsX2_lessonDay (wsV RX2 63 RX2 yX2_isAim wsX2_isAim) := goodIn_app (goodIn_of _ (by decide +kernel)) ggX2_lessonDay_X2_isAim
set_option maxRecDepth 20000 in
theorem ggX2_lessonDay_X2_isWithin : GoodIn wsX2_lessonDay wsX2_isWithin := goodIn_r _ [12] (by decide +kernel) (by decide +kernel)
set_option maxRecDepth 20000 in
theorem gX2_lessonDay_X2_isWithin : GoodIn wsX2_lessonDay (va_wsS RX2 30 yX2_isWithin wsX2_isWithin) := goodIn_app (goodIn_of _ (by decide +kernel)) ggX2_lessonDay_X2_isWithin
theorem dX2_lessonDay_0 : decode cX2_lessonDay 0 = .ok (.aload_n 0, 1) := by decide +kernel
theorem dX2_lessonDay_1 : decode cX2_lessonDay 1 = .ok (.iload_n 1, 1) := by decide +kernel
theorem dX2_lessonDay_2 : decode cX2_lessonDay 2 = .ok (.invokevirtual 63, 3) := by decide +kernel
theorem dX2_lessonDay_5 : decode cX2_lessonDay 5 = .ok (.ifCond .ne 13, 3) := by decide +kernel
theorem dX2_lessonDay_8 : decode cX2_lessonDay 8 = .ok (.new 67, 3) := by decide +kernel
theorem dX2_lessonDay_11 : decode cX2_lessonDay 11 = .ok (.dup, 1) := by decide +kernel
theorem dX2_lessonDay_12 : decode cX2_lessonDay 12 = .ok (.ldc 69, 2) := by decide +kernel
theorem dX2_lessonDay_14 : decode cX2_lessonDay 14 = .ok (.invokespecial 71, 3) := by decide +kernel
theorem dX2_lessonDay_17 : decode cX2_lessonDay 17 = .ok (.athrow, 1) := by decide +kernel
theorem dX2_lessonDay_18 : decode cX2_lessonDay 18 = .ok (.iload_n 2, 1) := by decide +kernel
theorem dX2_lessonDay_19 : decode cX2_lessonDay 19 = .ok (.iconst 0, 1) := by decide +kernel
theorem dX2_lessonDay_20 : decode cX2_lessonDay 20 = .ok (.aload_n 0, 1) := by decide +kernel
theorem dX2_lessonDay_21 : decode cX2_lessonDay 21 = .ok (.getfield 10, 3) := by decide +kernel
theorem dX2_lessonDay_24 : decode cX2_lessonDay 24 = .ok (.getfield 133, 3) := by decide +kernel
theorem dX2_lessonDay_27 : decode cX2_lessonDay 27 = .ok (.iload_n 1, 1) := by decide +kernel
theorem dX2_lessonDay_28 : decode cX2_lessonDay 28 = .ok (.iaload, 1) := by decide +kernel
theorem dX2_lessonDay_29 : decode cX2_lessonDay 29 = .ok (.iconst 1, 1) := by decide +kernel
theorem dX2_lessonDay_30 : decode cX2_lessonDay 30 = .ok (.isub, 1) := by decide +kernel
theorem dX2_lessonDay_31 : decode cX2_lessonDay 31 = .ok (.invokestatic 30, 3) := by decide +kernel
theorem dX2_lessonDay_34 : decode cX2_lessonDay 34 = .ok (.ifCond .ne 13, 3) := by decide +kernel
theorem dX2_lessonDay_37 : decode cX2_lessonDay 37 = .ok (.new 67, 3) := by decide +kernel
theorem dX2_lessonDay_40 : decode cX2_lessonDay 40 = .ok (.dup, 1) := by decide +kernel
theorem dX2_lessonDay_41 : decode cX2_lessonDay 41 = .ok (.ldc 136, 2) := by decide +kernel
theorem dX2_lessonDay_43 : decode cX2_lessonDay 43 = .ok (.invokespecial 71, 3) := by decide +kernel
theorem dX2_lessonDay_46 : decode cX2_lessonDay 46 = .ok (.athrow, 1) := by decide +kernel
theorem dX2_lessonDay_47 : decode cX2_lessonDay 47 = .ok (.aload_n 0, 1) := by decide +kernel
theorem dX2_lessonDay_48 : decode cX2_lessonDay 48 = .ok (.getfield 23, 3) := by decide +kernel
theorem dX2_lessonDay_51 : decode cX2_lessonDay 51 = .ok (.getfield 138, 3) := by decide +kernel
theorem dX2_lessonDay_54 : decode cX2_lessonDay 54 = .ok (.iload_n 1, 1) := by decide +kernel
theorem dX2_lessonDay_55 : decode cX2_lessonDay 55 = .ok (.iconst 5, 1) := by decide +kernel
theorem dX2_lessonDay_56 : decode cX2_lessonDay 56 = .ok (.imul, 1) := by decide +kernel
theorem dX2_lessonDay_57 : decode cX2_lessonDay 57 = .ok (.iload_n 2, 1) := by decide +kernel
theorem dX2_lessonDay_58 : decode cX2_lessonDay 58 = .ok (.iadd, 1) := by decide +kernel
theorem dX2_lessonDay_59 : decode cX2_lessonDay 59 = .ok (.iaload, 1) := by decide +kernel
theorem dX2_lessonDay_60 : decode cX2_lessonDay 60 = .ok (.ireturn, 1) := by decide +kernel
set_option maxRecDepth 20000 in
theorem ggX2_revisitDay_X2_isAim : GoodIn wsX2_revisitDay wsX2_isAim := goodIn_r _ [9, 3, 10, 11, 8, 12, 13, 14, 15, 16, 17, 18, 19, 20, 21, 22, 23, 24, 25] (by decide +kernel) (by decide +kernel)
set_option maxRecDepth 20000 in
theorem gX2_revisitDay_X2_isAim : GoodIn wsX2_revisitDay (wsV RX2 63 RX2 yX2_isAim wsX2_isAim) := goodIn_app (goodIn_of _ (by decide +kernel)) ggX2_revisitDay_X2_isAim
set_option maxRecDepth 20000 in
theorem ggX2_revisitDay_X2_isWithin : GoodIn wsX2_revisitDay wsX2_isWithin := goodIn_r _ [12] (by decide +kernel) (by decide +kernel)
set_option maxRecDepth 20000 in
theorem gX2_revisitDay_X2_isWithin : GoodIn wsX2_revisitDay (va_wsS RX2 30 yX2_isWithin wsX2_isWithin) := goodIn_app (goodIn_of _ (by decide +kernel)) ggX2_revisitDay_X2_isWithin
theorem dX2_revisitDay_0 : decode cX2_revisitDay 0 = .ok (.aload_n 0, 1) := by decide +kernel
theorem dX2_revisitDay_1 : decode cX2_revisitDay 1 = .ok (.iload_n 1, 1) := by decide +kernel
theorem dX2_revisitDay_2 : decode cX2_revisitDay 2 = .ok (.invokevirtual 63, 3) := by decide +kernel
theorem dX2_revisitDay_5 : decode cX2_revisitDay 5 = .ok (.ifCond .ne 13, 3) := by decide +kernel
theorem dX2_revisitDay_8 : decode cX2_revisitDay 8 = .ok (.new 67, 3) := by decide +kernel
theorem dX2_revisitDay_11 : decode cX2_revisitDay 11 = .ok (.dup, 1) := by decide +kernel
theorem dX2_revisitDay_12 : decode cX2_revisitDay 12 = .ok (.ldc 69, 2) := by decide +kernel
theorem dX2_revisitDay_14 : decode cX2_revisitDay 14 = .ok (.invokespecial 71, 3) := by decide +kernel
theorem dX2_revisitDay_17 : decode cX2_revisitDay 17 = .ok (.athrow, 1) := by decide +kernel
theorem dX2_revisitDay_18 : decode cX2_revisitDay 18 = .ok (.iload_n 2, 1) := by decide +kernel
theorem dX2_revisitDay_19 : decode cX2_revisitDay 19 = .ok (.iconst 0, 1) := by decide +kernel
theorem dX2_revisitDay_20 : decode cX2_revisitDay 20 = .ok (.aload_n 0, 1) := by decide +kernel
theorem dX2_revisitDay_21 : decode cX2_revisitDay 21 = .ok (.getfield 10, 3) := by decide +kernel
theorem dX2_revisitDay_24 : decode cX2_revisitDay 24 = .ok (.getfield 108, 3) := by decide +kernel
theorem dX2_revisitDay_27 : decode cX2_revisitDay 27 = .ok (.iload_n 1, 1) := by decide +kernel
theorem dX2_revisitDay_28 : decode cX2_revisitDay 28 = .ok (.iaload, 1) := by decide +kernel
theorem dX2_revisitDay_29 : decode cX2_revisitDay 29 = .ok (.iconst 1, 1) := by decide +kernel
theorem dX2_revisitDay_30 : decode cX2_revisitDay 30 = .ok (.isub, 1) := by decide +kernel
theorem dX2_revisitDay_31 : decode cX2_revisitDay 31 = .ok (.invokestatic 30, 3) := by decide +kernel
theorem dX2_revisitDay_34 : decode cX2_revisitDay 34 = .ok (.ifCond .ne 13, 3) := by decide +kernel
theorem dX2_revisitDay_37 : decode cX2_revisitDay 37 = .ok (.new 67, 3) := by decide +kernel
theorem dX2_revisitDay_40 : decode cX2_revisitDay 40 = .ok (.dup, 1) := by decide +kernel
theorem dX2_revisitDay_41 : decode cX2_revisitDay 41 = .ok (.ldc 141, 2) := by decide +kernel
theorem dX2_revisitDay_43 : decode cX2_revisitDay 43 = .ok (.invokespecial 71, 3) := by decide +kernel
theorem dX2_revisitDay_46 : decode cX2_revisitDay 46 = .ok (.athrow, 1) := by decide +kernel
theorem dX2_revisitDay_47 : decode cX2_revisitDay 47 = .ok (.aload_n 0, 1) := by decide +kernel
theorem dX2_revisitDay_48 : decode cX2_revisitDay 48 = .ok (.getfield 23, 3) := by decide +kernel
theorem dX2_revisitDay_51 : decode cX2_revisitDay 51 = .ok (.getfield 143, 3) := by decide +kernel
theorem dX2_revisitDay_54 : decode cX2_revisitDay 54 = .ok (.iload_n 1, 1) := by decide +kernel
theorem dX2_revisitDay_55 : decode cX2_revisitDay 55 = .ok (.iconst 3, 1) := by decide +kernel
theorem dX2_revisitDay_56 : decode cX2_revisitDay 56 = .ok (.imul, 1) := by decide +kernel
theorem dX2_revisitDay_57 : decode cX2_revisitDay 57 = .ok (.iload_n 2, 1) := by decide +kernel
theorem dX2_revisitDay_58 : decode cX2_revisitDay 58 = .ok (.iadd, 1) := by decide +kernel
theorem dX2_revisitDay_59 : decode cX2_revisitDay 59 = .ok (.iaload, 1) := by decide +kernel
theorem dX2_revisitDay_60 : decode cX2_revisitDay 60 = .ok (.ireturn, 1) := by decide +kernel
theorem dX2_laid_0 : decode cX2_laid 0 = .ok (.aload_n 0, 1) := by decide +kernel
theorem dX2_laid_1 : decode cX2_laid 1 = .ok (.getfield 23, 3) := by decide +kernel
theorem dX2_laid_4 : decode cX2_laid 4 = .ok (.getfield 146, 3) := by decide +kernel
theorem dX2_laid_7 : decode cX2_laid 7 = .ok (.ireturn, 1) := by decide +kernel
theorem dX2_late_0 : decode cX2_late 0 = .ok (.aload_n 0, 1) := by decide +kernel
theorem dX2_late_1 : decode cX2_late 1 = .ok (.getfield 23, 3) := by decide +kernel
theorem dX2_late_4 : decode cX2_late 4 = .ok (.getfield 149, 3) := by decide +kernel
theorem dX2_late_7 : decode cX2_late 7 = .ok (.ireturn, 1) := by decide +kernel
theorem dX2_lastDay_0 : decode cX2_lastDay 0 = .ok (.aload_n 0, 1) := by decide +kernel
theorem dX2_lastDay_1 : decode cX2_lastDay 1 = .ok (.getfield 23, 3) := by decide +kernel
theorem dX2_lastDay_4 : decode cX2_lastDay 4 = .ok (.getfield 152, 3) := by decide +kernel
theorem dX2_lastDay_7 : decode cX2_lastDay 7 = .ok (.ireturn, 1) := by decide +kernel
set_option maxRecDepth 20000 in
theorem ggX2_worthwhile_X2_isWithin : GoodIn wsX2_worthwhile wsX2_isWithin := goodIn_r _ [7] (by decide +kernel) (by decide +kernel)
set_option maxRecDepth 20000 in
theorem gX2_worthwhile_X2_isWithin : GoodIn wsX2_worthwhile (va_wsS RX2 30 yX2_isWithin wsX2_isWithin) := goodIn_app (goodIn_of _ (by decide +kernel)) ggX2_worthwhile_X2_isWithin
set_option maxRecDepth 20000 in
theorem ggX2_worthwhile_X1_bestSet : GoodIn wsX2_worthwhile wsX1_bestSet := goodIn_r _ [12, 13, 14, 15, 16, 11, 17, 18, 19, 6, 20, 21, 22, 23, 24, 25, 26, 27, 28, 29, 30, 31, 32, 33, 34, 35, 36, 41, 42, 43, 44, 45, 46, 47, 48, 49] (by decide +kernel) (by decide +kernel)
set_option maxRecDepth 20000 in
theorem gX2_worthwhile_X1_bestSet : GoodIn wsX2_worthwhile (wsV RX2 157 RX1 yX1_bestSet wsX1_bestSet) := goodIn_app (goodIn_of _ (by decide +kernel)) ggX2_worthwhile_X1_bestSet
theorem dX2_worthwhile_0 : decode cX2_worthwhile 0 = .ok (.iload_n 1, 1) := by decide +kernel
theorem dX2_worthwhile_1 : decode cX2_worthwhile 1 = .ok (.iconst 0, 1) := by decide +kernel
theorem dX2_worthwhile_2 : decode cX2_worthwhile 2 = .ok (.bipush 99, 2) := by decide +kernel
theorem dX2_worthwhile_4 : decode cX2_worthwhile 4 = .ok (.invokestatic 30, 3) := by decide +kernel
theorem dX2_worthwhile_7 : decode cX2_worthwhile 7 = .ok (.ifCond .ne 13, 3) := by decide +kernel
theorem dX2_worthwhile_10 : decode cX2_worthwhile 10 = .ok (.new 34, 3) := by decide +kernel
theorem dX2_worthwhile_13 : decode cX2_worthwhile 13 = .ok (.dup, 1) := by decide +kernel
theorem dX2_worthwhile_14 : decode cX2_worthwhile 14 = .ok (.ldc 155, 2) := by decide +kernel
theorem dX2_worthwhile_16 : decode cX2_worthwhile 16 = .ok (.invokespecial 38, 3) := by decide +kernel
theorem dX2_worthwhile_19 : decode cX2_worthwhile 19 = .ok (.athrow, 1) := by decide +kernel
theorem dX2_worthwhile_20 : decode cX2_worthwhile 20 = .ok (.aload_n 0, 1) := by decide +kernel
theorem dX2_worthwhile_21 : decode cX2_worthwhile 21 = .ok (.getfield 10, 3) := by decide +kernel
theorem dX2_worthwhile_24 : decode cX2_worthwhile 24 = .ok (.iload_n 1, 1) := by decide +kernel
theorem dX2_worthwhile_25 : decode cX2_worthwhile 25 = .ok (.invokevirtual 157, 3) := by decide +kernel
theorem dX2_worthwhile_28 : decode cX2_worthwhile 28 = .ok (.ireturn, 1) := by decide +kernel
set_option maxRecDepth 20000 in
theorem ggX2_bestNet_X2_isWithin : GoodIn wsX2_bestNet wsX2_isWithin := goodIn_r _ [7] (by decide +kernel) (by decide +kernel)
set_option maxRecDepth 20000 in
theorem gX2_bestNet_X2_isWithin : GoodIn wsX2_bestNet (va_wsS RX2 30 yX2_isWithin wsX2_isWithin) := goodIn_app (goodIn_of _ (by decide +kernel)) ggX2_bestNet_X2_isWithin
set_option maxRecDepth 20000 in
theorem ggX2_bestNet_X1_bestSet : GoodIn wsX2_bestNet wsX1_bestSet := goodIn_r _ [12, 13, 14, 15, 16, 11, 17, 18, 19, 6, 20, 21, 22, 23, 24, 25, 26, 27, 28, 29, 30, 31, 32, 33, 34, 35, 36, 42, 43, 44, 45, 46, 47, 48, 49, 50] (by decide +kernel) (by decide +kernel)
set_option maxRecDepth 20000 in
theorem gX2_bestNet_X1_bestSet : GoodIn wsX2_bestNet (wsV RX2 157 RX1 yX1_bestSet wsX1_bestSet) := goodIn_app (goodIn_of _ (by decide +kernel)) ggX2_bestNet_X1_bestSet
set_option maxRecDepth 20000 in
theorem ggX2_bestNet_X1_netOf : GoodIn wsX2_bestNet wsX1_netOf := goodIn_r _ [27, 13, 28, 29, 19, 6, 20, 42, 43, 44, 45, 46, 47, 48, 49, 50] (by decide +kernel) (by decide +kernel)
set_option maxRecDepth 20000 in
theorem gX2_bestNet_X1_netOf : GoodIn wsX2_bestNet (wsV RX2 160 RX1 yX1_netOf wsX1_netOf) := goodIn_app (goodIn_of _ (by decide +kernel)) ggX2_bestNet_X1_netOf
theorem dX2_bestNet_0 : decode cX2_bestNet 0 = .ok (.iload_n 1, 1) := by decide +kernel
theorem dX2_bestNet_1 : decode cX2_bestNet 1 = .ok (.iconst 0, 1) := by decide +kernel
theorem dX2_bestNet_2 : decode cX2_bestNet 2 = .ok (.bipush 99, 2) := by decide +kernel
theorem dX2_bestNet_4 : decode cX2_bestNet 4 = .ok (.invokestatic 30, 3) := by decide +kernel
theorem dX2_bestNet_7 : decode cX2_bestNet 7 = .ok (.ifCond .ne 13, 3) := by decide +kernel
theorem dX2_bestNet_10 : decode cX2_bestNet 10 = .ok (.new 34, 3) := by decide +kernel
theorem dX2_bestNet_13 : decode cX2_bestNet 13 = .ok (.dup, 1) := by decide +kernel
theorem dX2_bestNet_14 : decode cX2_bestNet 14 = .ok (.ldc 155, 2) := by decide +kernel
theorem dX2_bestNet_16 : decode cX2_bestNet 16 = .ok (.invokespecial 38, 3) := by decide +kernel
theorem dX2_bestNet_19 : decode cX2_bestNet 19 = .ok (.athrow, 1) := by decide +kernel
theorem dX2_bestNet_20 : decode cX2_bestNet 20 = .ok (.aload_n 0, 1) := by decide +kernel
theorem dX2_bestNet_21 : decode cX2_bestNet 21 = .ok (.getfield 10, 3) := by decide +kernel
theorem dX2_bestNet_24 : decode cX2_bestNet 24 = .ok (.aload_n 0, 1) := by decide +kernel
theorem dX2_bestNet_25 : decode cX2_bestNet 25 = .ok (.getfield 10, 3) := by decide +kernel
theorem dX2_bestNet_28 : decode cX2_bestNet 28 = .ok (.iload_n 1, 1) := by decide +kernel
theorem dX2_bestNet_29 : decode cX2_bestNet 29 = .ok (.invokevirtual 157, 3) := by decide +kernel
theorem dX2_bestNet_32 : decode cX2_bestNet 32 = .ok (.iload_n 1, 1) := by decide +kernel
theorem dX2_bestNet_33 : decode cX2_bestNet 33 = .ok (.invokevirtual 160, 3) := by decide +kernel
theorem dX2_bestNet_36 : decode cX2_bestNet 36 = .ok (.ireturn, 1) := by decide +kernel
set_option maxRecDepth 20000 in
theorem ggX2_closedSets_X1_countClosed : GoodIn wsX2_closedSets wsX1_countClosed := goodIn_r _ [6, 7, 8, 9, 10, 5, 11, 12, 13, 14, 15, 16, 17, 18, 23, 24, 25, 26, 27, 28, 29, 30, 31] (by decide +kernel) (by decide +kernel)
set_option maxRecDepth 20000 in
theorem gX2_closedSets_X1_countClosed : GoodIn wsX2_closedSets (wsV RX2 164 RX1 yX1_countClosed wsX1_countClosed) := goodIn_app (goodIn_of _ (by decide +kernel)) ggX2_closedSets_X1_countClosed
theorem dX2_closedSets_0 : decode cX2_closedSets 0 = .ok (.aload_n 0, 1) := by decide +kernel
theorem dX2_closedSets_1 : decode cX2_closedSets 1 = .ok (.getfield 10, 3) := by decide +kernel
theorem dX2_closedSets_4 : decode cX2_closedSets 4 = .ok (.invokevirtual 164, 3) := by decide +kernel
theorem dX2_closedSets_7 : decode cX2_closedSets 7 = .ok (.ireturn, 1) := by decide +kernel
set_option maxRecDepth 20000 in
theorem ggX2_isAim_X2_isWithin : GoodIn wsX2_isAim wsX2_isWithin := goodIn_r _ [5] (by decide +kernel) (by decide +kernel)
set_option maxRecDepth 20000 in
theorem gX2_isAim_X2_isWithin : GoodIn wsX2_isAim (va_wsS RX2 30 yX2_isWithin wsX2_isWithin) := goodIn_app (goodIn_of _ (by decide +kernel)) ggX2_isAim_X2_isWithin
theorem dX2_isAim_0 : decode cX2_isAim 0 = .ok (.iload_n 1, 1) := by decide +kernel
theorem dX2_isAim_1 : decode cX2_isAim 1 = .ok (.iconst 0, 1) := by decide +kernel
theorem dX2_isAim_2 : decode cX2_isAim 2 = .ok (.aload_n 0, 1) := by decide +kernel
theorem dX2_isAim_3 : decode cX2_isAim 3 = .ok (.getfield 10, 3) := by decide +kernel
theorem dX2_isAim_6 : decode cX2_isAim 6 = .ok (.getfield 47, 3) := by decide +kernel
theorem dX2_isAim_9 : decode cX2_isAim 9 = .ok (.iconst 1, 1) := by decide +kernel
theorem dX2_isAim_10 : decode cX2_isAim 10 = .ok (.isub, 1) := by decide +kernel
theorem dX2_isAim_11 : decode cX2_isAim 11 = .ok (.invokestatic 30, 3) := by decide +kernel
theorem dX2_isAim_14 : decode cX2_isAim 14 = .ok (.ireturn, 1) := by decide +kernel
set_option maxRecDepth 20000 in
theorem ggX2_planAnew_X0_lay : GoodIn wsX2_planAnew wsX0_lay := goodIn_r _ [9, 10, 11, 12, 8, 13, 14, 15, 16, 17, 18, 19, 20, 21, 22, 23, 24, 25, 26, 27, 28, 29, 30, 31, 32, 33, 34, 35, 36, 37, 38, 39, 40, 41, 42, 43, 44, 45, 46, 47, 48, 49, 50, 51, 52, 53, 54, 55, 56, 57, 58, 59, 60, 61, 62, 63, 64, 65, 66, 67, 68, 69, 74, 75, 76, 77, 78, 79, 80, 81, 82, 83, 84, 85, 86, 87, 88, 89, 90, 91] (by decide +kernel) (by decide +kernel)
set_option maxRecDepth 20000 in
theorem gX2_planAnew_X0_lay : GoodIn wsX2_planAnew (wsV RX2 168 RX0 yX0_lay wsX0_lay) := goodIn_app (goodIn_of _ (by decide +kernel)) ggX2_planAnew_X0_lay
theorem dX2_planAnew_0 : decode cX2_planAnew 0 = .ok (.aload_n 0, 1) := by decide +kernel
theorem dX2_planAnew_1 : decode cX2_planAnew 1 = .ok (.getfield 27, 3) := by decide +kernel
theorem dX2_planAnew_4 : decode cX2_planAnew 4 = .ok (.astore_n 1, 1) := by decide +kernel
theorem dX2_planAnew_5 : decode cX2_planAnew 5 = .ok (.aload_n 0, 1) := by decide +kernel
theorem dX2_planAnew_6 : decode cX2_planAnew 6 = .ok (.aload_n 0, 1) := by decide +kernel
theorem dX2_planAnew_7 : decode cX2_planAnew 7 = .ok (.getfield 23, 3) := by decide +kernel
theorem dX2_planAnew_10 : decode cX2_planAnew 10 = .ok (.putfield 27, 3) := by decide +kernel
theorem dX2_planAnew_13 : decode cX2_planAnew 13 = .ok (.aload_n 0, 1) := by decide +kernel
theorem dX2_planAnew_14 : decode cX2_planAnew 14 = .ok (.aload_n 1, 1) := by decide +kernel
theorem dX2_planAnew_15 : decode cX2_planAnew 15 = .ok (.putfield 23, 3) := by decide +kernel
theorem dX2_planAnew_18 : decode cX2_planAnew 18 = .ok (.aload_n 0, 1) := by decide +kernel
theorem dX2_planAnew_19 : decode cX2_planAnew 19 = .ok (.getfield 23, 3) := by decide +kernel
theorem dX2_planAnew_22 : decode cX2_planAnew 22 = .ok (.aload_n 0, 1) := by decide +kernel
theorem dX2_planAnew_23 : decode cX2_planAnew 23 = .ok (.getfield 10, 3) := by decide +kernel
theorem dX2_planAnew_26 : decode cX2_planAnew 26 = .ok (.aload_n 0, 1) := by decide +kernel
theorem dX2_planAnew_27 : decode cX2_planAnew 27 = .ok (.getfield 16, 3) := by decide +kernel
theorem dX2_planAnew_30 : decode cX2_planAnew 30 = .ok (.invokevirtual 168, 3) := by decide +kernel
theorem dX2_planAnew_33 : decode cX2_planAnew 33 = .ok (.return_, 1) := by decide +kernel
set_option maxRecDepth 20000 in
theorem ggX2_isDay_X2_isWithin : GoodIn wsX2_isDay wsX2_isWithin := goodIn_r _ [4] (by decide +kernel) (by decide +kernel)
set_option maxRecDepth 20000 in
theorem gX2_isDay_X2_isWithin : GoodIn wsX2_isDay (va_wsS RX2 30 yX2_isWithin wsX2_isWithin) := goodIn_app (goodIn_of _ (by decide +kernel)) ggX2_isDay_X2_isWithin
theorem dX2_isDay_0 : decode cX2_isDay 0 = .ok (.iload_n 0, 1) := by decide +kernel
theorem dX2_isDay_1 : decode cX2_isDay 1 = .ok (.iconst 0, 1) := by decide +kernel
theorem dX2_isDay_2 : decode cX2_isDay 2 = .ok (.bipush 99, 2) := by decide +kernel
theorem dX2_isDay_4 : decode cX2_isDay 4 = .ok (.invokestatic 30, 3) := by decide +kernel
theorem dX2_isDay_7 : decode cX2_isDay 7 = .ok (.ireturn, 1) := by decide +kernel
theorem dX2_isWithin_0 : decode cX2_isWithin 0 = .ok (.iload_n 0, 1) := by decide +kernel
theorem dX2_isWithin_1 : decode cX2_isWithin 1 = .ok (.iload_n 1, 1) := by decide +kernel
theorem dX2_isWithin_2 : decode cX2_isWithin 2 = .ok (.if_icmp .lt 12, 3) := by decide +kernel
theorem dX2_isWithin_5 : decode cX2_isWithin 5 = .ok (.iload_n 0, 1) := by decide +kernel
theorem dX2_isWithin_6 : decode cX2_isWithin 6 = .ok (.iload_n 2, 1) := by decide +kernel
theorem dX2_isWithin_7 : decode cX2_isWithin 7 = .ok (.if_icmp .gt 7, 3) := by decide +kernel
theorem dX2_isWithin_10 : decode cX2_isWithin 10 = .ok (.iconst 1, 1) := by decide +kernel
theorem dX2_isWithin_11 : decode cX2_isWithin 11 = .ok (.goto 4, 3) := by decide +kernel
theorem dX2_isWithin_14 : decode cX2_isWithin 14 = .ok (.iconst 0, 1) := by decide +kernel
theorem dX2_isWithin_15 : decode cX2_isWithin 15 = .ok (.ireturn, 1) := by decide +kernel
theorem dX2_has_0 : decode cX2_has 0 = .ok (.iload_n 0, 1) := by decide +kernel
theorem dX2_has_1 : decode cX2_has 1 = .ok (.iload_n 1, 1) := by decide +kernel
theorem dX2_has_2 : decode cX2_has 2 = .ok (.ishr, 1) := by decide +kernel
theorem dX2_has_3 : decode cX2_has 3 = .ok (.iconst 1, 1) := by decide +kernel
theorem dX2_has_4 : decode cX2_has 4 = .ok (.iand, 1) := by decide +kernel
theorem dX2_has_5 : decode cX2_has 5 = .ok (.iconst 1, 1) := by decide +kernel
theorem dX2_has_6 : decode cX2_has 6 = .ok (.if_icmp .ne 7, 3) := by decide +kernel
theorem dX2_has_9 : decode cX2_has 9 = .ok (.iconst 1, 1) := by decide +kernel
theorem dX2_has_10 : decode cX2_has 10 = .ok (.goto 4, 3) := by decide +kernel
theorem dX2_has_13 : decode cX2_has 13 = .ok (.iconst 0, 1) := by decide +kernel
theorem dX2_has_14 : decode cX2_has 14 = .ok (.ireturn, 1) := by decide +kernel
theorem dJ6_bitCount_0f7a4_0 : decode cJ6_bitCount_0f7a4 0 = .ok (.iload_n 0, 1) := by decide +kernel
theorem dJ6_bitCount_0f7a4_1 : decode cJ6_bitCount_0f7a4 1 = .ok (.iload_n 0, 1) := by decide +kernel
theorem dJ6_bitCount_0f7a4_2 : decode cJ6_bitCount_0f7a4 2 = .ok (.iconst 1, 1) := by decide +kernel
theorem dJ6_bitCount_0f7a4_3 : decode cJ6_bitCount_0f7a4 3 = .ok (.iushr, 1) := by decide +kernel
theorem dJ6_bitCount_0f7a4_4 : decode cJ6_bitCount_0f7a4 4 = .ok (.ldc_w 265, 3) := by decide +kernel
theorem dJ6_bitCount_0f7a4_7 : decode cJ6_bitCount_0f7a4 7 = .ok (.iand, 1) := by decide +kernel
theorem dJ6_bitCount_0f7a4_8 : decode cJ6_bitCount_0f7a4 8 = .ok (.isub, 1) := by decide +kernel
theorem dJ6_bitCount_0f7a4_9 : decode cJ6_bitCount_0f7a4 9 = .ok (.istore_n 0, 1) := by decide +kernel
theorem dJ6_bitCount_0f7a4_10 : decode cJ6_bitCount_0f7a4 10 = .ok (.iload_n 0, 1) := by decide +kernel
theorem dJ6_bitCount_0f7a4_11 : decode cJ6_bitCount_0f7a4 11 = .ok (.ldc_w 266, 3) := by decide +kernel
theorem dJ6_bitCount_0f7a4_14 : decode cJ6_bitCount_0f7a4 14 = .ok (.iand, 1) := by decide +kernel
theorem dJ6_bitCount_0f7a4_15 : decode cJ6_bitCount_0f7a4 15 = .ok (.iload_n 0, 1) := by decide +kernel
theorem dJ6_bitCount_0f7a4_16 : decode cJ6_bitCount_0f7a4 16 = .ok (.iconst 2, 1) := by decide +kernel
theorem dJ6_bitCount_0f7a4_17 : decode cJ6_bitCount_0f7a4 17 = .ok (.iushr, 1) := by decide +kernel
theorem dJ6_bitCount_0f7a4_18 : decode cJ6_bitCount_0f7a4 18 = .ok (.ldc_w 266, 3) := by decide +kernel
theorem dJ6_bitCount_0f7a4_21 : decode cJ6_bitCount_0f7a4 21 = .ok (.iand, 1) := by decide +kernel
theorem dJ6_bitCount_0f7a4_22 : decode cJ6_bitCount_0f7a4 22 = .ok (.iadd, 1) := by decide +kernel
theorem dJ6_bitCount_0f7a4_23 : decode cJ6_bitCount_0f7a4 23 = .ok (.istore_n 0, 1) := by decide +kernel
theorem dJ6_bitCount_0f7a4_24 : decode cJ6_bitCount_0f7a4 24 = .ok (.iload_n 0, 1) := by decide +kernel
theorem dJ6_bitCount_0f7a4_25 : decode cJ6_bitCount_0f7a4 25 = .ok (.iload_n 0, 1) := by decide +kernel
theorem dJ6_bitCount_0f7a4_26 : decode cJ6_bitCount_0f7a4 26 = .ok (.iconst 4, 1) := by decide +kernel
theorem dJ6_bitCount_0f7a4_27 : decode cJ6_bitCount_0f7a4 27 = .ok (.iushr, 1) := by decide +kernel
theorem dJ6_bitCount_0f7a4_28 : decode cJ6_bitCount_0f7a4 28 = .ok (.iadd, 1) := by decide +kernel
theorem dJ6_bitCount_0f7a4_29 : decode cJ6_bitCount_0f7a4 29 = .ok (.ldc_w 267, 3) := by decide +kernel
theorem dJ6_bitCount_0f7a4_32 : decode cJ6_bitCount_0f7a4 32 = .ok (.iand, 1) := by decide +kernel
theorem dJ6_bitCount_0f7a4_33 : decode cJ6_bitCount_0f7a4 33 = .ok (.istore_n 0, 1) := by decide +kernel
theorem dJ6_bitCount_0f7a4_34 : decode cJ6_bitCount_0f7a4 34 = .ok (.iload_n 0, 1) := by decide +kernel
theorem dJ6_bitCount_0f7a4_35 : decode cJ6_bitCount_0f7a4 35 = .ok (.iload_n 0, 1) := by decide +kernel
theorem dJ6_bitCount_0f7a4_36 : decode cJ6_bitCount_0f7a4 36 = .ok (.bipush 8, 2) := by decide +kernel
theorem dJ6_bitCount_0f7a4_38 : decode cJ6_bitCount_0f7a4 38 = .ok (.iushr, 1) := by decide +kernel
theorem dJ6_bitCount_0f7a4_39 : decode cJ6_bitCount_0f7a4 39 = .ok (.iadd, 1) := by decide +kernel
theorem dJ6_bitCount_0f7a4_40 : decode cJ6_bitCount_0f7a4 40 = .ok (.istore_n 0, 1) := by decide +kernel
theorem dJ6_bitCount_0f7a4_41 : decode cJ6_bitCount_0f7a4 41 = .ok (.iload_n 0, 1) := by decide +kernel
theorem dJ6_bitCount_0f7a4_42 : decode cJ6_bitCount_0f7a4 42 = .ok (.iload_n 0, 1) := by decide +kernel
theorem dJ6_bitCount_0f7a4_43 : decode cJ6_bitCount_0f7a4 43 = .ok (.bipush 16, 2) := by decide +kernel
theorem dJ6_bitCount_0f7a4_45 : decode cJ6_bitCount_0f7a4 45 = .ok (.iushr, 1) := by decide +kernel
theorem dJ6_bitCount_0f7a4_46 : decode cJ6_bitCount_0f7a4 46 = .ok (.iadd, 1) := by decide +kernel
theorem dJ6_bitCount_0f7a4_47 : decode cJ6_bitCount_0f7a4 47 = .ok (.istore_n 0, 1) := by decide +kernel
theorem dJ6_bitCount_0f7a4_48 : decode cJ6_bitCount_0f7a4 48 = .ok (.iload_n 0, 1) := by decide +kernel
theorem dJ6_bitCount_0f7a4_49 : decode cJ6_bitCount_0f7a4 49 = .ok (.bipush 63, 2) := by decide +kernel
theorem dJ6_bitCount_0f7a4_51 : decode cJ6_bitCount_0f7a4 51 = .ok (.iand, 1) := by decide +kernel
theorem dJ6_bitCount_0f7a4_52 : decode cJ6_bitCount_0f7a4 52 = .ok (.ireturn, 1) := by decide +kernel
theorem dJ7_fill_53178_0 : decode cJ7_fill_53178 0 = .ok (.iconst 0, 1) := by decide +kernel
theorem dJ7_fill_53178_1 : decode cJ7_fill_53178 1 = .ok (.istore_n 2, 1) := by decide +kernel
theorem dJ7_fill_53178_2 : decode cJ7_fill_53178 2 = .ok (.aload_n 0, 1) := by decide +kernel
theorem dJ7_fill_53178_3 : decode cJ7_fill_53178 3 = .ok (.arraylength, 1) := by decide +kernel
theorem dJ7_fill_53178_4 : decode cJ7_fill_53178 4 = .ok (.istore_n 3, 1) := by decide +kernel
theorem dJ7_fill_53178_5 : decode cJ7_fill_53178 5 = .ok (.iload_n 2, 1) := by decide +kernel
theorem dJ7_fill_53178_6 : decode cJ7_fill_53178 6 = .ok (.iload_n 3, 1) := by decide +kernel
theorem dJ7_fill_53178_7 : decode cJ7_fill_53178 7 = .ok (.if_icmp .ge 13, 3) := by decide +kernel
theorem dJ7_fill_53178_10 : decode cJ7_fill_53178 10 = .ok (.aload_n 0, 1) := by decide +kernel
theorem dJ7_fill_53178_11 : decode cJ7_fill_53178 11 = .ok (.iload_n 2, 1) := by decide +kernel
theorem dJ7_fill_53178_12 : decode cJ7_fill_53178 12 = .ok (.iload_n 1, 1) := by decide +kernel
theorem dJ7_fill_53178_13 : decode cJ7_fill_53178 13 = .ok (.iastore, 1) := by decide +kernel
theorem dJ7_fill_53178_14 : decode cJ7_fill_53178 14 = .ok (.iinc 2 1, 3) := by decide +kernel
theorem dJ7_fill_53178_17 : decode cJ7_fill_53178 17 = .ok (.goto (-12), 3) := by decide +kernel
theorem dJ7_fill_53178_20 : decode cJ7_fill_53178 20 = .ok (.return_, 1) := by decide +kernel
theorem dL_draw_0 : decode cL_draw 0 = .ok (.iload_n 1, 1) := by decide +kernel
theorem dL_draw_1 : decode cL_draw 1 = .ok (.aload_n 0, 1) := by decide +kernel
theorem dL_draw_2 : decode cL_draw 2 = .ok (.arraylength, 1) := by decide +kernel
theorem dL_draw_3 : decode cL_draw 3 = .ok (.if_icmp .ge 9, 3) := by decide +kernel
theorem dL_draw_6 : decode cL_draw 6 = .ok (.aload_n 0, 1) := by decide +kernel
theorem dL_draw_7 : decode cL_draw 7 = .ok (.iload_n 1, 1) := by decide +kernel
theorem dL_draw_8 : decode cL_draw 8 = .ok (.iaload, 1) := by decide +kernel
theorem dL_draw_9 : decode cL_draw 9 = .ok (.goto 13, 3) := by decide +kernel
theorem dL_draw_12 : decode cL_draw 12 = .ok (.ldc 7, 2) := by decide +kernel
theorem dL_draw_14 : decode cL_draw 14 = .ok (.iload_n 1, 1) := by decide +kernel
theorem dL_draw_15 : decode cL_draw 15 = .ok (.bipush 107, 2) := by decide +kernel
theorem dL_draw_17 : decode cL_draw 17 = .ok (.iadd, 1) := by decide +kernel
theorem dL_draw_18 : decode cL_draw 18 = .ok (.imul, 1) := by decide +kernel
theorem dL_draw_19 : decode cL_draw 19 = .ok (.ldc 8, 2) := by decide +kernel
theorem dL_draw_21 : decode cL_draw 21 = .ok (.iadd, 1) := by decide +kernel
theorem dL_draw_22 : decode cL_draw 22 = .ok (.istore_n 3, 1) := by decide +kernel
theorem dL_draw_23 : decode cL_draw 23 = .ok (.iload_n 3, 1) := by decide +kernel
theorem dL_draw_24 : decode cL_draw 24 = .ok (.ldc 9, 2) := by decide +kernel
theorem dL_draw_26 : decode cL_draw 26 = .ok (.iand, 1) := by decide +kernel
theorem dL_draw_27 : decode cL_draw 27 = .ok (.iload_n 2, 1) := by decide +kernel
theorem dL_draw_28 : decode cL_draw 28 = .ok (.irem, 1) := by decide +kernel
theorem dL_draw_29 : decode cL_draw 29 = .ok (.ireturn, 1) := by decide +kernel
theorem dL_size_0 : decode cL_size 0 = .ok (.iconst 0, 1) := by decide +kernel
theorem dL_size_1 : decode cL_size 1 = .ok (.istore_n 1, 1) := by decide +kernel
theorem dL_size_2 : decode cL_size 2 = .ok (.iload_n 0, 1) := by decide +kernel
theorem dL_size_3 : decode cL_size 3 = .ok (.istore_n 2, 1) := by decide +kernel
theorem dL_size_4 : decode cL_size 4 = .ok (.iload_n 2, 1) := by decide +kernel
theorem dL_size_5 : decode cL_size 5 = .ok (.ifCond .eq 15, 3) := by decide +kernel
theorem dL_size_8 : decode cL_size 8 = .ok (.iinc 1 1, 3) := by decide +kernel
theorem dL_size_11 : decode cL_size 11 = .ok (.iload_n 2, 1) := by decide +kernel
theorem dL_size_12 : decode cL_size 12 = .ok (.iload_n 2, 1) := by decide +kernel
theorem dL_size_13 : decode cL_size 13 = .ok (.iconst 1, 1) := by decide +kernel
theorem dL_size_14 : decode cL_size 14 = .ok (.isub, 1) := by decide +kernel
theorem dL_size_15 : decode cL_size 15 = .ok (.iand, 1) := by decide +kernel
theorem dL_size_16 : decode cL_size 16 = .ok (.istore_n 2, 1) := by decide +kernel
theorem dL_size_17 : decode cL_size 17 = .ok (.goto (-13), 3) := by decide +kernel
theorem dL_size_20 : decode cL_size 20 = .ok (.iload_n 1, 1) := by decide +kernel
theorem dL_size_21 : decode cL_size 21 = .ok (.ireturn, 1) := by decide +kernel
theorem dL_isIn_0 : decode cL_isIn 0 = .ok (.iload_n 0, 1) := by decide +kernel
theorem dL_isIn_1 : decode cL_isIn 1 = .ok (.iload_n 1, 1) := by decide +kernel
theorem dL_isIn_2 : decode cL_isIn 2 = .ok (.ishr, 1) := by decide +kernel
theorem dL_isIn_3 : decode cL_isIn 3 = .ok (.iconst 1, 1) := by decide +kernel
theorem dL_isIn_4 : decode cL_isIn 4 = .ok (.iand, 1) := by decide +kernel
theorem dL_isIn_5 : decode cL_isIn 5 = .ok (.iconst 1, 1) := by decide +kernel
theorem dL_isIn_6 : decode cL_isIn 6 = .ok (.if_icmp .ne 7, 3) := by decide +kernel
theorem dL_isIn_9 : decode cL_isIn 9 = .ok (.iconst 1, 1) := by decide +kernel
theorem dL_isIn_10 : decode cL_isIn 10 = .ok (.goto 4, 3) := by decide +kernel
theorem dL_isIn_13 : decode cL_isIn 13 = .ok (.iconst 0, 1) := by decide +kernel
theorem dL_isIn_14 : decode cL_isIn 14 = .ok (.ireturn, 1) := by decide +kernel
theorem dL_isLost_0 : decode cL_isLost 0 = .ok (.aload_n 0, 1) := by decide +kernel
theorem dL_isLost_1 : decode cL_isLost 1 = .ok (.iload_n 1, 1) := by decide +kernel
theorem dL_isLost_2 : decode cL_isLost 2 = .ok (.bipush 50, 2) := by decide +kernel
theorem dL_isLost_4 : decode cL_isLost 4 = .ok (.idiv, 1) := by decide +kernel
theorem dL_isLost_5 : decode cL_isLost 5 = .ok (.laload, 1) := by decide +kernel
theorem dL_isLost_6 : decode cL_isLost 6 = .ok (.iload_n 1, 1) := by decide +kernel
theorem dL_isLost_7 : decode cL_isLost 7 = .ok (.bipush 50, 2) := by decide +kernel
theorem dL_isLost_9 : decode cL_isLost 9 = .ok (.irem, 1) := by decide +kernel
theorem dL_isLost_10 : decode cL_isLost 10 = .ok (.lshr, 1) := by decide +kernel
theorem dL_isLost_11 : decode cL_isLost 11 = .ok (.lconst 1, 1) := by decide +kernel
theorem dL_isLost_12 : decode cL_isLost 12 = .ok (.land, 1) := by decide +kernel
theorem dL_isLost_13 : decode cL_isLost 13 = .ok (.lconst 1, 1) := by decide +kernel
theorem dL_isLost_14 : decode cL_isLost 14 = .ok (.lcmp, 1) := by decide +kernel
theorem dL_isLost_15 : decode cL_isLost 15 = .ok (.ifCond .ne 7, 3) := by decide +kernel
theorem dL_isLost_18 : decode cL_isLost 18 = .ok (.iconst 1, 1) := by decide +kernel
theorem dL_isLost_19 : decode cL_isLost 19 = .ok (.goto 4, 3) := by decide +kernel
theorem dL_isLost_22 : decode cL_isLost 22 = .ok (.iconst 0, 1) := by decide +kernel
theorem dL_isLost_23 : decode cL_isLost 23 = .ok (.ireturn, 1) := by decide +kernel
set_option maxRecDepth 20000 in
theorem ggL_needs_X2_need : GoodIn wsL_needs wsX2_need := goodIn_ca (goodIn_ca (goodIn_ca (goodIn_r _ [6, 7, 8, 9, 10, 11, 12, 13, 14, 15, 16, 5, 17, 18, 19, 20, 21, 22, 23, 24, 25, 26, 27, 28, 29, 30, 31, 32, 33, 34, 35, 36, 37, 38, 39, 40, 41, 42, 43, 44, 45, 46, 47, 48, 49, 50, 51, 52, 53, 54, 55, 56, 57, 58, 59, 60, 61, 62, 63, 64, 65, 66, 67, 68, 69, 70, 71, 72, 73, 74, 75, 76, 77, 78, 79, 80, 81, 82, 83, 84, 85, 86, 87, 88, 89, 90, 91, 92, 93, 94, 95, 96, 97, 98, 99, 100, 101, 102, 103, 104, 105, 106, 107, 108, 109, 110, 111, 112, 113, 114, 115, 116, 117, 118, 119, 120, 121, 122, 123, 124, 125, 126, 127, 128, 129, 130, 131, 132, 133, 134, 135, 136, 137, 138, 139, 140, 141, 142, 143, 144, 145, 146, 147, 148, 149, 150, 151, 152] (by decide +kernel) (by decide +kernel)) (goodIn_sub (fun _ h => List.mem_cons_of_mem _ (List.mem_append_left _ (List.mem_append_left _ (List.mem_append_right _ h)))) (by decide +kernel))) (goodIn_sub (fun _ h => List.mem_cons_of_mem _ (List.mem_append_left _ (List.mem_append_right _ h))) (by decide +kernel))) (goodIn_sub (fun _ h => List.mem_cons_of_mem _ (List.mem_append_right _ h)) (by decide +kernel))
set_option maxRecDepth 20000 in
theorem gL_needs_X2_need : GoodIn wsL_needs (wsV RL 10 RX2 yX2_need wsX2_need) := goodIn_app (goodIn_of _ (by decide +kernel)) ggL_needs_X2_need
theorem dL_needs_0 : decode cL_needs 0 = .ok (.aload_n 0, 1) := by decide +kernel
theorem dL_needs_1 : decode cL_needs 1 = .ok (.iload_n 1, 1) := by decide +kernel
theorem dL_needs_2 : decode cL_needs 2 = .ok (.iload_n 2, 1) := by decide +kernel
theorem dL_needs_3 : decode cL_needs 3 = .ok (.invokevirtual 10, 3) := by decide +kernel
theorem dL_needs_6 : decode cL_needs 6 = .ok (.ireturn, 1) := by decide +kernel
theorem dL_needs_7 : decode cL_needs 7 = .ok (.astore_n 3, 1) := by decide +kernel
theorem dL_needs_8 : decode cL_needs 8 = .ok (.bipush (-8), 2) := by decide +kernel
theorem dL_needs_10 : decode cL_needs 10 = .ok (.ireturn, 1) := by decide +kernel
set_option maxRecDepth 20000 in
theorem ggL_frees_X2_free : GoodIn wsL_frees wsX2_free := goodIn_ca (goodIn_ca (goodIn_r _ [6, 7, 8, 9, 10, 11, 12, 13, 14, 5, 15, 16, 17, 18, 19, 20, 21, 22, 23, 24, 25, 26, 27, 28, 29, 30, 31, 32, 33, 34, 35, 36, 37, 38, 39, 40, 41, 42, 43, 44, 45, 46, 47, 48, 49, 50, 51, 52, 53, 54, 55, 56, 57, 58, 59, 60, 61, 62, 63, 64, 65, 66, 67, 68, 69, 70, 71, 72, 73, 74, 75, 76, 77, 78, 79, 80, 81, 82, 83, 84, 85, 86, 87, 88, 89, 90, 91, 92, 93, 94, 95, 96, 97, 98, 99, 100, 101, 102, 103, 104, 105, 106, 107, 108, 109, 110, 111, 112, 113, 114, 115, 116, 117, 118, 119, 120, 121, 122, 123, 124, 125, 126, 127, 128, 129, 130, 131, 132, 133, 134, 135, 136, 137, 138, 139, 140, 141, 142] (by decide +kernel) (by decide +kernel)) (goodIn_sub (fun _ h => List.mem_cons_of_mem _ (List.mem_append_left _ (List.mem_append_right _ h))) (by decide +kernel))) (goodIn_sub (fun _ h => List.mem_cons_of_mem _ (List.mem_append_right _ h)) (by decide +kernel))
set_option maxRecDepth 20000 in
theorem gL_frees_X2_free : GoodIn wsL_frees (wsV RL 18 RX2 yX2_free wsX2_free) := goodIn_app (goodIn_of _ (by decide +kernel)) ggL_frees_X2_free
theorem dL_frees_0 : decode cL_frees 0 = .ok (.aload_n 0, 1) := by decide +kernel
theorem dL_frees_1 : decode cL_frees 1 = .ok (.iload_n 1, 1) := by decide +kernel
theorem dL_frees_2 : decode cL_frees 2 = .ok (.iload_n 2, 1) := by decide +kernel
theorem dL_frees_3 : decode cL_frees 3 = .ok (.invokevirtual 18, 3) := by decide +kernel
theorem dL_frees_6 : decode cL_frees 6 = .ok (.ireturn, 1) := by decide +kernel
theorem dL_frees_7 : decode cL_frees 7 = .ok (.astore_n 3, 1) := by decide +kernel
theorem dL_frees_8 : decode cL_frees 8 = .ok (.bipush (-9), 2) := by decide +kernel
theorem dL_frees_10 : decode cL_frees 10 = .ok (.ireturn, 1) := by decide +kernel
set_option maxRecDepth 20000 in
theorem ggL_isOrder_X2_aims : GoodIn wsL_isOrder wsX2_aims := goodIn_r _ [5, 6, 41, 42, 43, 44, 45, 46, 47, 48, 49, 50, 51, 52, 53] (by decide +kernel) (by decide +kernel)
set_option maxRecDepth 20000 in
theorem gL_isOrder_X2_aims : GoodIn wsL_isOrder (wsV RL 23 RX2 yX2_aims wsX2_aims) := goodIn_app (goodIn_of _ (by decide +kernel)) ggL_isOrder_X2_aims
set_option maxRecDepth 20000 in
theorem ggL_isOrder_X2_ordered : GoodIn wsL_isOrder wsX2_ordered := goodIn_ca (goodIn_r _ [10, 11, 12, 6, 13, 14, 4, 15, 41, 42, 43, 44, 45, 46, 47, 48, 49, 50, 51, 52, 53] (by decide +kernel) (by decide +kernel)) (goodIn_sub (fun _ h => List.mem_cons_of_mem _ (List.mem_append_right _ h)) (by decide +kernel))
set_option maxRecDepth 20000 in
theorem gL_isOrder_X2_ordered : GoodIn wsL_isOrder (wsV RL 27 RX2 yX2_ordered wsX2_ordered) := goodIn_app (goodIn_of _ (by decide +kernel)) ggL_isOrder_X2_ordered
