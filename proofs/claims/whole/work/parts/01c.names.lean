set_option maxRecDepth 20000 in
theorem ggX2_init_X1_init : GoodIn wsX2_init wsX1_init := goodIn_r _ [17, 18, 2, 3, 19, 20, 21, 22, 23, 24, 25, 26, 27, 49, 50, 51, 52, 53, 54, 55, 56, 57] (by decide +kernel) (by decide +kernel)
set_option maxRecDepth 20000 in
theorem gX2_init_X1_init : GoodIn wsX2_init (wsX1_init) := ggX2_init_X1_init
set_option maxRecDepth 20000 in
theorem ggX2_init_X0_init : GoodIn wsX2_init wsX0_init := goodIn_r _ [30, 31, 2, 3, 19, 32, 33, 34, 35, 36, 37, 38, 39, 40, 12, 41, 42, 43, 44, 45, 46, 47, 48, 62, 63, 64, 65, 66, 67, 68, 69, 70] (by decide +kernel) (by decide +kernel)
set_option maxRecDepth 20000 in
theorem gX2_init_X0_init : GoodIn wsX2_init (wsX0_init) := ggX2_init_X0_init
theorem dX2_init_0 : decode cX2_init 0 = .ok (.aload_n 0, 1) := by decide +kernel
theorem dX2_init_1 : decode cX2_init 1 = .ok (.invokespecial 1, 3) := by decide +kernel
theorem dX2_init_4 : decode cX2_init 4 = .ok (.aload_n 0, 1) := by decide +kernel
theorem dX2_init_5 : decode cX2_init 5 = .ok (.new 7, 3) := by decide +kernel
theorem dX2_init_8 : decode cX2_init 8 = .ok (.dup, 1) := by decide +kernel
theorem dX2_init_9 : decode cX2_init 9 = .ok (.invokespecial 9, 3) := by decide +kernel
theorem dX2_init_12 : decode cX2_init 12 = .ok (.putfield 10, 3) := by decide +kernel
theorem dX2_init_15 : decode cX2_init 15 = .ok (.aload_n 0, 1) := by decide +kernel
theorem dX2_init_16 : decode cX2_init 16 = .ok (.bipush 100, 2) := by decide +kernel
theorem dX2_init_18 : decode cX2_init 18 = .ok (.newarray .boolean, 2) := by decide +kernel
theorem dX2_init_20 : decode cX2_init 20 = .ok (.putfield 16, 3) := by decide +kernel
theorem dX2_init_23 : decode cX2_init 23 = .ok (.aload_n 0, 1) := by decide +kernel
theorem dX2_init_24 : decode cX2_init 24 = .ok (.new 20, 3) := by decide +kernel
theorem dX2_init_27 : decode cX2_init 27 = .ok (.dup, 1) := by decide +kernel
theorem dX2_init_28 : decode cX2_init 28 = .ok (.invokespecial 22, 3) := by decide +kernel
theorem dX2_init_31 : decode cX2_init 31 = .ok (.putfield 23, 3) := by decide +kernel
theorem dX2_init_34 : decode cX2_init 34 = .ok (.aload_n 0, 1) := by decide +kernel
theorem dX2_init_35 : decode cX2_init 35 = .ok (.new 20, 3) := by decide +kernel
theorem dX2_init_38 : decode cX2_init 38 = .ok (.dup, 1) := by decide +kernel
theorem dX2_init_39 : decode cX2_init 39 = .ok (.invokespecial 22, 3) := by decide +kernel
theorem dX2_init_42 : decode cX2_init 42 = .ok (.putfield 27, 3) := by decide +kernel
theorem dX2_init_45 : decode cX2_init 45 = .ok (.return_, 1) := by decide +kernel
set_option maxRecDepth 20000 in
theorem ggX2_aim_X2_isWithin : GoodIn wsX2_aim wsX2_isWithin := goodIn_r _ [9] (by decide +kernel) (by decide +kernel)
set_option maxRecDepth 20000 in
theorem gX2_aim_X2_isWithin : GoodIn wsX2_aim (va_wsS RX2 30 yX2_isWithin wsX2_isWithin) := goodIn_app (goodIn_of _ (by decide +kernel)) ggX2_aim_X2_isWithin
set_option maxRecDepth 20000 in
theorem ggX2_aim_X1_add : GoodIn wsX2_aim wsX1_add := goodIn_r _ [14, 15, 16, 17, 18, 19, 20, 21, 22, 23, 13, 24, 25, 26, 27, 28, 29, 30, 31, 8, 32, 33, 34, 35, 112, 113, 114, 115, 116, 117, 118, 119, 120] (by decide +kernel) (by decide +kernel)
set_option maxRecDepth 20000 in
theorem gX2_aim_X1_add : GoodIn wsX2_aim (wsV RX2 56 RX1 yX1_add wsX1_add) := goodIn_app (goodIn_of _ (by decide +kernel)) ggX2_aim_X1_add
set_option maxRecDepth 20000 in
theorem ggX2_aim_X2_planAnew : GoodIn wsX2_aim wsX2_planAnew := goodIn_r _ [39, 40, 41, 5, 42, 43, 44, 45, 46, 47, 48, 49, 50, 51, 52, 53, 54, 55, 56, 57, 58, 59, 60, 61, 62, 63, 64, 65, 66, 67, 68, 69, 70, 71, 72, 73, 74, 75, 76, 77, 78, 79, 80, 81, 82, 83, 84, 85, 86, 87, 88, 89, 90, 91, 92, 93, 94, 95, 96, 97, 98, 99, 100, 101, 102, 103, 104, 105, 106, 107, 108, 109, 110, 111, 121, 122, 123, 124, 125, 126, 127, 128, 129, 112, 113, 114, 115, 116, 117, 118, 119, 120] (by decide +kernel) (by decide +kernel)
set_option maxRecDepth 20000 in
theorem gX2_aim_X2_planAnew : GoodIn wsX2_aim (wsV RX2 60 RX2 yX2_planAnew wsX2_planAnew) := goodIn_app (goodIn_of _ (by decide +kernel)) ggX2_aim_X2_planAnew
theorem dX2_aim_0 : decode cX2_aim 0 = .ok (.iload_n 1, 1) := by decide +kernel
theorem dX2_aim_1 : decode cX2_aim 1 = .ok (.iconst 1, 1) := by decide +kernel
theorem dX2_aim_2 : decode cX2_aim 2 = .ok (.iconst 5, 1) := by decide +kernel
theorem dX2_aim_3 : decode cX2_aim 3 = .ok (.invokestatic 30, 3) := by decide +kernel
theorem dX2_aim_6 : decode cX2_aim 6 = .ok (.ifCond .ne 13, 3) := by decide +kernel
theorem dX2_aim_9 : decode cX2_aim 9 = .ok (.new 34, 3) := by decide +kernel
theorem dX2_aim_12 : decode cX2_aim 12 = .ok (.dup, 1) := by decide +kernel
theorem dX2_aim_13 : decode cX2_aim 13 = .ok (.ldc 36, 2) := by decide +kernel
theorem dX2_aim_15 : decode cX2_aim 15 = .ok (.invokespecial 38, 3) := by decide +kernel
theorem dX2_aim_18 : decode cX2_aim 18 = .ok (.athrow, 1) := by decide +kernel
theorem dX2_aim_19 : decode cX2_aim 19 = .ok (.iload_n 2, 1) := by decide +kernel
theorem dX2_aim_20 : decode cX2_aim 20 = .ok (.iconst 0, 1) := by decide +kernel
theorem dX2_aim_21 : decode cX2_aim 21 = .ok (.iconst 3, 1) := by decide +kernel
theorem dX2_aim_22 : decode cX2_aim 22 = .ok (.invokestatic 30, 3) := by decide +kernel
theorem dX2_aim_25 : decode cX2_aim 25 = .ok (.ifCond .ne 13, 3) := by decide +kernel
theorem dX2_aim_28 : decode cX2_aim 28 = .ok (.new 34, 3) := by decide +kernel
theorem dX2_aim_31 : decode cX2_aim 31 = .ok (.dup, 1) := by decide +kernel
theorem dX2_aim_32 : decode cX2_aim 32 = .ok (.ldc 41, 2) := by decide +kernel
theorem dX2_aim_34 : decode cX2_aim 34 = .ok (.invokespecial 38, 3) := by decide +kernel
theorem dX2_aim_37 : decode cX2_aim 37 = .ok (.athrow, 1) := by decide +kernel
theorem dX2_aim_38 : decode cX2_aim 38 = .ok (.iload_n 3, 1) := by decide +kernel
theorem dX2_aim_39 : decode cX2_aim 39 = .ok (.iconst 1, 1) := by decide +kernel
theorem dX2_aim_40 : decode cX2_aim 40 = .ok (.bipush 99, 2) := by decide +kernel
theorem dX2_aim_42 : decode cX2_aim 42 = .ok (.invokestatic 30, 3) := by decide +kernel
theorem dX2_aim_45 : decode cX2_aim 45 = .ok (.ifCond .ne 13, 3) := by decide +kernel
theorem dX2_aim_48 : decode cX2_aim 48 = .ok (.new 34, 3) := by decide +kernel
theorem dX2_aim_51 : decode cX2_aim 51 = .ok (.dup, 1) := by decide +kernel
theorem dX2_aim_52 : decode cX2_aim 52 = .ok (.ldc 43, 2) := by decide +kernel
theorem dX2_aim_54 : decode cX2_aim 54 = .ok (.invokespecial 38, 3) := by decide +kernel
theorem dX2_aim_57 : decode cX2_aim 57 = .ok (.athrow, 1) := by decide +kernel
theorem dX2_aim_58 : decode cX2_aim 58 = .ok (.iload 4, 2) := by decide +kernel
theorem dX2_aim_60 : decode cX2_aim 60 = .ok (.iconst (-1), 1) := by decide +kernel
theorem dX2_aim_61 : decode cX2_aim 61 = .ok (.if_icmp .eq 23, 3) := by decide +kernel
theorem dX2_aim_64 : decode cX2_aim 64 = .ok (.iload 4, 2) := by decide +kernel
theorem dX2_aim_66 : decode cX2_aim 66 = .ok (.iconst 0, 1) := by decide +kernel
theorem dX2_aim_67 : decode cX2_aim 67 = .ok (.iconst 2, 1) := by decide +kernel
theorem dX2_aim_68 : decode cX2_aim 68 = .ok (.invokestatic 30, 3) := by decide +kernel
theorem dX2_aim_71 : decode cX2_aim 71 = .ok (.ifCond .ne 13, 3) := by decide +kernel
theorem dX2_aim_74 : decode cX2_aim 74 = .ok (.new 34, 3) := by decide +kernel
theorem dX2_aim_77 : decode cX2_aim 77 = .ok (.dup, 1) := by decide +kernel
theorem dX2_aim_78 : decode cX2_aim 78 = .ok (.ldc 45, 2) := by decide +kernel
theorem dX2_aim_80 : decode cX2_aim 80 = .ok (.invokespecial 38, 3) := by decide +kernel
theorem dX2_aim_83 : decode cX2_aim 83 = .ok (.athrow, 1) := by decide +kernel
theorem dX2_aim_84 : decode cX2_aim 84 = .ok (.aload_n 0, 1) := by decide +kernel
theorem dX2_aim_85 : decode cX2_aim 85 = .ok (.getfield 10, 3) := by decide +kernel
theorem dX2_aim_88 : decode cX2_aim 88 = .ok (.getfield 47, 3) := by decide +kernel
theorem dX2_aim_91 : decode cX2_aim 91 = .ok (.bipush 12, 2) := by decide +kernel
theorem dX2_aim_93 : decode cX2_aim 93 = .ok (.if_icmp .lt 13, 3) := by decide +kernel
theorem dX2_aim_96 : decode cX2_aim 96 = .ok (.new 51, 3) := by decide +kernel
theorem dX2_aim_99 : decode cX2_aim 99 = .ok (.dup, 1) := by decide +kernel
theorem dX2_aim_100 : decode cX2_aim 100 = .ok (.ldc 53, 2) := by decide +kernel
theorem dX2_aim_102 : decode cX2_aim 102 = .ok (.invokespecial 55, 3) := by decide +kernel
theorem dX2_aim_105 : decode cX2_aim 105 = .ok (.athrow, 1) := by decide +kernel
theorem dX2_aim_106 : decode cX2_aim 106 = .ok (.aload_n 0, 1) := by decide +kernel
theorem dX2_aim_107 : decode cX2_aim 107 = .ok (.getfield 10, 3) := by decide +kernel
theorem dX2_aim_110 : decode cX2_aim 110 = .ok (.iload_n 1, 1) := by decide +kernel
theorem dX2_aim_111 : decode cX2_aim 111 = .ok (.iload_n 2, 1) := by decide +kernel
theorem dX2_aim_112 : decode cX2_aim 112 = .ok (.iload_n 3, 1) := by decide +kernel
theorem dX2_aim_113 : decode cX2_aim 113 = .ok (.iload 4, 2) := by decide +kernel
theorem dX2_aim_115 : decode cX2_aim 115 = .ok (.invokevirtual 56, 3) := by decide +kernel
theorem dX2_aim_118 : decode cX2_aim 118 = .ok (.istore 5, 2) := by decide +kernel
theorem dX2_aim_120 : decode cX2_aim 120 = .ok (.aload_n 0, 1) := by decide +kernel
theorem dX2_aim_121 : decode cX2_aim 121 = .ok (.invokevirtual 60, 3) := by decide +kernel
theorem dX2_aim_124 : decode cX2_aim 124 = .ok (.iload 5, 2) := by decide +kernel
theorem dX2_aim_126 : decode cX2_aim 126 = .ok (.ireturn, 1) := by decide +kernel
set_option maxRecDepth 20000 in
theorem ggX2_need_X2_isAim : GoodIn wsX2_need wsX2_isAim := goodIn_r _ [12, 7, 13, 14, 11, 15, 126, 127, 128, 129, 130, 131, 132, 133, 134, 135, 136, 137, 138] (by decide +kernel) (by decide +kernel)
set_option maxRecDepth 20000 in
theorem gX2_need_X2_isAim : GoodIn wsX2_need (wsV RX2 63 RX2 yX2_isAim wsX2_isAim) := goodIn_app (goodIn_of _ (by decide +kernel)) ggX2_need_X2_isAim
set_option maxRecDepth 20000 in
theorem ggX2_need_X2_has : GoodIn wsX2_need wsX2_has := goodIn_r _ [18] (by decide +kernel) (by decide +kernel)
set_option maxRecDepth 20000 in
theorem gX2_need_X2_has : GoodIn wsX2_need (va_wsS RX2 78 yX2_has wsX2_has) := goodIn_app (goodIn_of _ (by decide +kernel)) ggX2_need_X2_has
set_option maxRecDepth 20000 in
theorem ggX2_need_X1_reach : GoodIn wsX2_need wsX1_reach := goodIn_r _ [23, 24, 25, 26, 27, 28, 22, 29, 17, 11, 18, 130, 131, 132, 133, 134, 135, 136, 137, 138] (by decide +kernel) (by decide +kernel)
set_option maxRecDepth 20000 in
theorem gX2_need_X1_reach : GoodIn wsX2_need (wsV RX2 84 RX1 yX1_reach wsX1_reach) := goodIn_app (goodIn_of _ (by decide +kernel)) ggX2_need_X1_reach
set_option maxRecDepth 20000 in
theorem ggX2_need_X1_setNeeds : GoodIn wsX2_need wsX1_setNeeds := goodIn_r _ [33, 24, 34, 35, 36, 22, 37, 25, 38, 39, 40, 41, 42, 43, 17, 11, 18, 44, 45, 46, 130, 131, 132, 133, 134, 135, 136, 137, 138] (by decide +kernel) (by decide +kernel)
set_option maxRecDepth 20000 in
theorem gX2_need_X1_setNeeds : GoodIn wsX2_need (wsV RX2 90 RX1 yX1_setNeeds wsX1_setNeeds) := goodIn_app (goodIn_of _ (by decide +kernel)) ggX2_need_X1_setNeeds
set_option maxRecDepth 20000 in
theorem ggX2_need_X2_planAnew : GoodIn wsX2_need wsX2_planAnew := goodIn_r _ [50, 51, 52, 7, 53, 54, 55, 56, 57, 58, 59, 60, 61, 62, 63, 64, 65, 66, 67, 68, 69, 70, 71, 72, 73, 74, 75, 76, 77, 78, 79, 80, 81, 82, 83, 84, 85, 86, 87, 88, 89, 90, 91, 92, 93, 94, 95, 96, 97, 98, 99, 100, 101, 102, 103, 104, 105, 106, 107, 108, 109, 110, 111, 112, 113, 114, 115, 116, 117, 118, 126, 127, 128, 129, 139, 140, 141, 142, 143, 144, 145, 146, 147, 130, 131, 132, 133, 134, 135, 136, 137, 138] (by decide +kernel) (by decide +kernel)
set_option maxRecDepth 20000 in
theorem gX2_need_X2_planAnew : GoodIn wsX2_need (wsV RX2 60 RX2 yX2_planAnew wsX2_planAnew) := goodIn_app (goodIn_of _ (by decide +kernel)) ggX2_need_X2_planAnew
set_option maxRecDepth 20000 in
theorem ggX2_need_J6_bitCount_0f7a4 : GoodIn wsX2_need wsJ6_bitCount_0f7a4 := goodIn_r _ [122, 123, 124, 125] (by decide +kernel) (by decide +kernel)
set_option maxRecDepth 20000 in
theorem gX2_need_J6_bitCount_0f7a4 : GoodIn wsX2_need (va_wsS RX2 94 yJ6_bitCount_0f7a4 wsJ6_bitCount_0f7a4) := goodIn_app (goodIn_of _ (by decide +kernel)) ggX2_need_J6_bitCount_0f7a4
theorem dX2_need_0 : decode cX2_need 0 = .ok (.aload_n 0, 1) := by decide +kernel
theorem dX2_need_1 : decode cX2_need 1 = .ok (.iload_n 1, 1) := by decide +kernel
theorem dX2_need_2 : decode cX2_need 2 = .ok (.invokevirtual 63, 3) := by decide +kernel
theorem dX2_need_5 : decode cX2_need 5 = .ok (.ifCond .eq 11, 3) := by decide +kernel
theorem dX2_need_8 : decode cX2_need 8 = .ok (.aload_n 0, 1) := by decide +kernel
theorem dX2_need_9 : decode cX2_need 9 = .ok (.iload_n 2, 1) := by decide +kernel
theorem dX2_need_10 : decode cX2_need 10 = .ok (.invokevirtual 63, 3) := by decide +kernel
theorem dX2_need_13 : decode cX2_need 13 = .ok (.ifCond .ne 13, 3) := by decide +kernel
theorem dX2_need_16 : decode cX2_need 16 = .ok (.new 67, 3) := by decide +kernel
theorem dX2_need_19 : decode cX2_need 19 = .ok (.dup, 1) := by decide +kernel
theorem dX2_need_20 : decode cX2_need 20 = .ok (.ldc 69, 2) := by decide +kernel
theorem dX2_need_22 : decode cX2_need 22 = .ok (.invokespecial 71, 3) := by decide +kernel
theorem dX2_need_25 : decode cX2_need 25 = .ok (.athrow, 1) := by decide +kernel
theorem dX2_need_26 : decode cX2_need 26 = .ok (.iload_n 1, 1) := by decide +kernel
theorem dX2_need_27 : decode cX2_need 27 = .ok (.iload_n 2, 1) := by decide +kernel
theorem dX2_need_28 : decode cX2_need 28 = .ok (.if_icmp .ne 13, 3) := by decide +kernel
theorem dX2_need_31 : decode cX2_need 31 = .ok (.new 34, 3) := by decide +kernel
theorem dX2_need_34 : decode cX2_need 34 = .ok (.dup, 1) := by decide +kernel
theorem dX2_need_35 : decode cX2_need 35 = .ok (.ldc 72, 2) := by decide +kernel
theorem dX2_need_37 : decode cX2_need 37 = .ok (.invokespecial 38, 3) := by decide +kernel
theorem dX2_need_40 : decode cX2_need 40 = .ok (.athrow, 1) := by decide +kernel
theorem dX2_need_41 : decode cX2_need 41 = .ok (.aload_n 0, 1) := by decide +kernel
theorem dX2_need_42 : decode cX2_need 42 = .ok (.getfield 10, 3) := by decide +kernel
theorem dX2_need_45 : decode cX2_need 45 = .ok (.getfield 74, 3) := by decide +kernel
theorem dX2_need_48 : decode cX2_need 48 = .ok (.iload_n 1, 1) := by decide +kernel
theorem dX2_need_49 : decode cX2_need 49 = .ok (.iaload, 1) := by decide +kernel
theorem dX2_need_50 : decode cX2_need 50 = .ok (.iload_n 2, 1) := by decide +kernel
theorem dX2_need_51 : decode cX2_need 51 = .ok (.invokestatic 78, 3) := by decide +kernel
theorem dX2_need_54 : decode cX2_need 54 = .ok (.ifCond .eq 13, 3) := by decide +kernel
theorem dX2_need_57 : decode cX2_need 57 = .ok (.new 51, 3) := by decide +kernel
theorem dX2_need_60 : decode cX2_need 60 = .ok (.dup, 1) := by decide +kernel
theorem dX2_need_61 : decode cX2_need 61 = .ok (.ldc 82, 2) := by decide +kernel
theorem dX2_need_63 : decode cX2_need 63 = .ok (.invokespecial 55, 3) := by decide +kernel
theorem dX2_need_66 : decode cX2_need 66 = .ok (.athrow, 1) := by decide +kernel
theorem dX2_need_67 : decode cX2_need 67 = .ok (.aload_n 0, 1) := by decide +kernel
theorem dX2_need_68 : decode cX2_need 68 = .ok (.getfield 10, 3) := by decide +kernel
theorem dX2_need_71 : decode cX2_need 71 = .ok (.iload_n 2, 1) := by decide +kernel
theorem dX2_need_72 : decode cX2_need 72 = .ok (.invokevirtual 84, 3) := by decide +kernel
theorem dX2_need_75 : decode cX2_need 75 = .ok (.iload_n 1, 1) := by decide +kernel
theorem dX2_need_76 : decode cX2_need 76 = .ok (.invokestatic 78, 3) := by decide +kernel
theorem dX2_need_79 : decode cX2_need 79 = .ok (.ifCond .eq 13, 3) := by decide +kernel
theorem dX2_need_82 : decode cX2_need 82 = .ok (.new 51, 3) := by decide +kernel
theorem dX2_need_85 : decode cX2_need 85 = .ok (.dup, 1) := by decide +kernel
theorem dX2_need_86 : decode cX2_need 86 = .ok (.ldc 88, 2) := by decide +kernel
theorem dX2_need_88 : decode cX2_need 88 = .ok (.invokespecial 55, 3) := by decide +kernel
theorem dX2_need_91 : decode cX2_need 91 = .ok (.athrow, 1) := by decide +kernel
theorem dX2_need_92 : decode cX2_need 92 = .ok (.aload_n 0, 1) := by decide +kernel
theorem dX2_need_93 : decode cX2_need 93 = .ok (.getfield 10, 3) := by decide +kernel
theorem dX2_need_96 : decode cX2_need 96 = .ok (.iload_n 1, 1) := by decide +kernel
theorem dX2_need_97 : decode cX2_need 97 = .ok (.aload_n 0, 1) := by decide +kernel
theorem dX2_need_98 : decode cX2_need 98 = .ok (.getfield 10, 3) := by decide +kernel
theorem dX2_need_101 : decode cX2_need 101 = .ok (.getfield 74, 3) := by decide +kernel
theorem dX2_need_104 : decode cX2_need 104 = .ok (.iload_n 1, 1) := by decide +kernel
theorem dX2_need_105 : decode cX2_need 105 = .ok (.iaload, 1) := by decide +kernel
theorem dX2_need_106 : decode cX2_need 106 = .ok (.iconst 1, 1) := by decide +kernel
theorem dX2_need_107 : decode cX2_need 107 = .ok (.iload_n 2, 1) := by decide +kernel
theorem dX2_need_108 : decode cX2_need 108 = .ok (.ishl, 1) := by decide +kernel
theorem dX2_need_109 : decode cX2_need 109 = .ok (.ior, 1) := by decide +kernel
theorem dX2_need_110 : decode cX2_need 110 = .ok (.invokevirtual 90, 3) := by decide +kernel
theorem dX2_need_113 : decode cX2_need 113 = .ok (.aload_n 0, 1) := by decide +kernel
theorem dX2_need_114 : decode cX2_need 114 = .ok (.invokevirtual 60, 3) := by decide +kernel
theorem dX2_need_117 : decode cX2_need 117 = .ok (.aload_n 0, 1) := by decide +kernel
theorem dX2_need_118 : decode cX2_need 118 = .ok (.getfield 10, 3) := by decide +kernel
theorem dX2_need_121 : decode cX2_need 121 = .ok (.getfield 74, 3) := by decide +kernel
theorem dX2_need_124 : decode cX2_need 124 = .ok (.iload_n 1, 1) := by decide +kernel
theorem dX2_need_125 : decode cX2_need 125 = .ok (.iaload, 1) := by decide +kernel
theorem dX2_need_126 : decode cX2_need 126 = .ok (.invokestatic 94, 3) := by decide +kernel
theorem dX2_need_129 : decode cX2_need 129 = .ok (.ireturn, 1) := by decide +kernel
set_option maxRecDepth 20000 in
theorem ggX2_free_X2_isAim : GoodIn wsX2_free wsX2_isAim := goodIn_r _ [10, 5, 11, 12, 9, 13, 116, 117, 118, 119, 120, 121, 122, 123, 124, 125, 126, 127, 128] (by decide +kernel) (by decide +kernel)
set_option maxRecDepth 20000 in
theorem gX2_free_X2_isAim : GoodIn wsX2_free (wsV RX2 63 RX2 yX2_isAim wsX2_isAim) := goodIn_app (goodIn_of _ (by decide +kernel)) ggX2_free_X2_isAim
set_option maxRecDepth 20000 in
theorem ggX2_free_X2_has : GoodIn wsX2_free wsX2_has := goodIn_r _ [16] (by decide +kernel) (by decide +kernel)
set_option maxRecDepth 20000 in
theorem gX2_free_X2_has : GoodIn wsX2_free (va_wsS RX2 78 yX2_has wsX2_has) := goodIn_app (goodIn_of _ (by decide +kernel)) ggX2_free_X2_has
set_option maxRecDepth 20000 in
theorem ggX2_free_X1_setNeeds : GoodIn wsX2_free wsX1_setNeeds := goodIn_r _ [21, 22, 23, 24, 25, 20, 26, 27, 28, 29, 30, 31, 32, 33, 15, 9, 16, 34, 35, 36, 120, 121, 122, 123, 124, 125, 126, 127, 128] (by decide +kernel) (by decide +kernel)
set_option maxRecDepth 20000 in
theorem gX2_free_X1_setNeeds : GoodIn wsX2_free (wsV RX2 90 RX1 yX1_setNeeds wsX1_setNeeds) := goodIn_app (goodIn_of _ (by decide +kernel)) ggX2_free_X1_setNeeds
set_option maxRecDepth 20000 in
theorem ggX2_free_X2_planAnew : GoodIn wsX2_free wsX2_planAnew := goodIn_r _ [40, 41, 42, 5, 43, 44, 45, 46, 47, 48, 49, 50, 51, 52, 53, 54, 55, 56, 57, 58, 59, 60, 61, 62, 63, 64, 65, 66, 67, 68, 69, 70, 71, 72, 73, 74, 75, 76, 77, 78, 79, 80, 81, 82, 83, 84, 85, 86, 87, 88, 89, 90, 91, 92, 93, 94, 95, 96, 97, 98, 99, 100, 101, 102, 103, 104, 105, 106, 107, 108, 116, 117, 118, 119, 129, 130, 131, 132, 133, 134, 135, 136, 137, 120, 121, 122, 123, 124, 125, 126, 127, 128] (by decide +kernel) (by decide +kernel)
set_option maxRecDepth 20000 in
theorem gX2_free_X2_planAnew : GoodIn wsX2_free (wsV RX2 60 RX2 yX2_planAnew wsX2_planAnew) := goodIn_app (goodIn_of _ (by decide +kernel)) ggX2_free_X2_planAnew
set_option maxRecDepth 20000 in
theorem ggX2_free_J6_bitCount_0f7a4 : GoodIn wsX2_free wsJ6_bitCount_0f7a4 := goodIn_r _ [112, 113, 114, 115] (by decide +kernel) (by decide +kernel)
set_option maxRecDepth 20000 in
theorem gX2_free_J6_bitCount_0f7a4 : GoodIn wsX2_free (va_wsS RX2 94 yJ6_bitCount_0f7a4 wsJ6_bitCount_0f7a4) := goodIn_app (goodIn_of _ (by decide +kernel)) ggX2_free_J6_bitCount_0f7a4
theorem dX2_free_0 : decode cX2_free 0 = .ok (.aload_n 0, 1) := by decide +kernel
theorem dX2_free_1 : decode cX2_free 1 = .ok (.iload_n 1, 1) := by decide +kernel
theorem dX2_free_2 : decode cX2_free 2 = .ok (.invokevirtual 63, 3) := by decide +kernel
theorem dX2_free_5 : decode cX2_free 5 = .ok (.ifCond .eq 11, 3) := by decide +kernel
theorem dX2_free_8 : decode cX2_free 8 = .ok (.aload_n 0, 1) := by decide +kernel
theorem dX2_free_9 : decode cX2_free 9 = .ok (.iload_n 2, 1) := by decide +kernel
theorem dX2_free_10 : decode cX2_free 10 = .ok (.invokevirtual 63, 3) := by decide +kernel
theorem dX2_free_13 : decode cX2_free 13 = .ok (.ifCond .ne 13, 3) := by decide +kernel
theorem dX2_free_16 : decode cX2_free 16 = .ok (.new 67, 3) := by decide +kernel
theorem dX2_free_19 : decode cX2_free 19 = .ok (.dup, 1) := by decide +kernel
theorem dX2_free_20 : decode cX2_free 20 = .ok (.ldc 69, 2) := by decide +kernel
theorem dX2_free_22 : decode cX2_free 22 = .ok (.invokespecial 71, 3) := by decide +kernel
theorem dX2_free_25 : decode cX2_free 25 = .ok (.athrow, 1) := by decide +kernel
theorem dX2_free_26 : decode cX2_free 26 = .ok (.aload_n 0, 1) := by decide +kernel
theorem dX2_free_27 : decode cX2_free 27 = .ok (.getfield 10, 3) := by decide +kernel
theorem dX2_free_30 : decode cX2_free 30 = .ok (.getfield 74, 3) := by decide +kernel
theorem dX2_free_33 : decode cX2_free 33 = .ok (.iload_n 1, 1) := by decide +kernel
theorem dX2_free_34 : decode cX2_free 34 = .ok (.iaload, 1) := by decide +kernel
theorem dX2_free_35 : decode cX2_free 35 = .ok (.iload_n 2, 1) := by decide +kernel
theorem dX2_free_36 : decode cX2_free 36 = .ok (.invokestatic 78, 3) := by decide +kernel
theorem dX2_free_39 : decode cX2_free 39 = .ok (.ifCond .ne 13, 3) := by decide +kernel
theorem dX2_free_42 : decode cX2_free 42 = .ok (.new 99, 3) := by decide +kernel
theorem dX2_free_45 : decode cX2_free 45 = .ok (.dup, 1) := by decide +kernel
theorem dX2_free_46 : decode cX2_free 46 = .ok (.ldc 101, 2) := by decide +kernel
theorem dX2_free_48 : decode cX2_free 48 = .ok (.invokespecial 103, 3) := by decide +kernel
theorem dX2_free_51 : decode cX2_free 51 = .ok (.athrow, 1) := by decide +kernel
theorem dX2_free_52 : decode cX2_free 52 = .ok (.aload_n 0, 1) := by decide +kernel
theorem dX2_free_53 : decode cX2_free 53 = .ok (.getfield 10, 3) := by decide +kernel
theorem dX2_free_56 : decode cX2_free 56 = .ok (.iload_n 1, 1) := by decide +kernel
theorem dX2_free_57 : decode cX2_free 57 = .ok (.aload_n 0, 1) := by decide +kernel
theorem dX2_free_58 : decode cX2_free 58 = .ok (.getfield 10, 3) := by decide +kernel
theorem dX2_free_61 : decode cX2_free 61 = .ok (.getfield 74, 3) := by decide +kernel
theorem dX2_free_64 : decode cX2_free 64 = .ok (.iload_n 1, 1) := by decide +kernel
theorem dX2_free_65 : decode cX2_free 65 = .ok (.iaload, 1) := by decide +kernel
theorem dX2_free_66 : decode cX2_free 66 = .ok (.iconst 1, 1) := by decide +kernel
theorem dX2_free_67 : decode cX2_free 67 = .ok (.iload_n 2, 1) := by decide +kernel
theorem dX2_free_68 : decode cX2_free 68 = .ok (.ishl, 1) := by decide +kernel
theorem dX2_free_69 : decode cX2_free 69 = .ok (.iconst (-1), 1) := by decide +kernel
theorem dX2_free_70 : decode cX2_free 70 = .ok (.ixor, 1) := by decide +kernel
theorem dX2_free_71 : decode cX2_free 71 = .ok (.iand, 1) := by decide +kernel
theorem dX2_free_72 : decode cX2_free 72 = .ok (.invokevirtual 90, 3) := by decide +kernel
theorem dX2_free_75 : decode cX2_free 75 = .ok (.aload_n 0, 1) := by decide +kernel
theorem dX2_free_76 : decode cX2_free 76 = .ok (.invokevirtual 60, 3) := by decide +kernel
theorem dX2_free_79 : decode cX2_free 79 = .ok (.aload_n 0, 1) := by decide +kernel
theorem dX2_free_80 : decode cX2_free 80 = .ok (.getfield 10, 3) := by decide +kernel
theorem dX2_free_83 : decode cX2_free 83 = .ok (.getfield 74, 3) := by decide +kernel
theorem dX2_free_86 : decode cX2_free 86 = .ok (.iload_n 1, 1) := by decide +kernel
theorem dX2_free_87 : decode cX2_free 87 = .ok (.iaload, 1) := by decide +kernel
theorem dX2_free_88 : decode cX2_free 88 = .ok (.invokestatic 94, 3) := by decide +kernel
theorem dX2_free_91 : decode cX2_free 91 = .ok (.ireturn, 1) := by decide +kernel
set_option maxRecDepth 20000 in
theorem ggX2_revisits_X2_isAim : GoodIn wsX2_revisits wsX2_isAim := goodIn_r _ [10, 5, 11, 12, 9, 13, 86, 87, 88, 89, 90, 91, 92, 93, 94, 95, 96, 97, 98] (by decide +kernel) (by decide +kernel)
set_option maxRecDepth 20000 in
theorem gX2_revisits_X2_isAim : GoodIn wsX2_revisits (wsV RX2 63 RX2 yX2_isAim wsX2_isAim) := goodIn_app (goodIn_of _ (by decide +kernel)) ggX2_revisits_X2_isAim
set_option maxRecDepth 20000 in
theorem ggX2_revisits_X2_isWithin : GoodIn wsX2_revisits wsX2_isWithin := goodIn_r _ [13] (by decide +kernel) (by decide +kernel)
set_option maxRecDepth 20000 in
theorem gX2_revisits_X2_isWithin : GoodIn wsX2_revisits (va_wsS RX2 30 yX2_isWithin wsX2_isWithin) := goodIn_app (goodIn_of _ (by decide +kernel)) ggX2_revisits_X2_isWithin
set_option maxRecDepth 20000 in
theorem ggX2_revisits_X2_planAnew : GoodIn wsX2_revisits wsX2_planAnew := goodIn_r _ [17, 18, 19, 5, 20, 21, 22, 23, 24, 25, 26, 27, 28, 29, 30, 31, 32, 33, 34, 35, 36, 37, 38, 39, 40, 41, 42, 43, 44, 45, 46, 47, 48, 49, 50, 51, 52, 53, 54, 55, 56, 57, 58, 59, 60, 61, 62, 63, 64, 65, 66, 67, 68, 69, 70, 71, 72, 73, 74, 75, 76, 77, 78, 79, 80, 81, 82, 83, 84, 85, 86, 87, 88, 89, 99, 100, 101, 102, 103, 104, 105, 106, 107, 90, 91, 92, 93, 94, 95, 96, 97, 98] (by decide +kernel) (by decide +kernel)
set_option maxRecDepth 20000 in
theorem gX2_revisits_X2_planAnew : GoodIn wsX2_revisits (wsV RX2 60 RX2 yX2_planAnew wsX2_planAnew) := goodIn_app (goodIn_of _ (by decide +kernel)) ggX2_revisits_X2_planAnew
theorem dX2_revisits_0 : decode cX2_revisits 0 = .ok (.aload_n 0, 1) := by decide +kernel
theorem dX2_revisits_1 : decode cX2_revisits 1 = .ok (.iload_n 1, 1) := by decide +kernel
theorem dX2_revisits_2 : decode cX2_revisits 2 = .ok (.invokevirtual 63, 3) := by decide +kernel
theorem dX2_revisits_5 : decode cX2_revisits 5 = .ok (.ifCond .ne 13, 3) := by decide +kernel
theorem dX2_revisits_8 : decode cX2_revisits 8 = .ok (.new 67, 3) := by decide +kernel
theorem dX2_revisits_11 : decode cX2_revisits 11 = .ok (.dup, 1) := by decide +kernel
theorem dX2_revisits_12 : decode cX2_revisits 12 = .ok (.ldc 69, 2) := by decide +kernel
theorem dX2_revisits_14 : decode cX2_revisits 14 = .ok (.invokespecial 71, 3) := by decide +kernel
theorem dX2_revisits_17 : decode cX2_revisits 17 = .ok (.athrow, 1) := by decide +kernel
theorem dX2_revisits_18 : decode cX2_revisits 18 = .ok (.iload_n 2, 1) := by decide +kernel
theorem dX2_revisits_19 : decode cX2_revisits 19 = .ok (.iconst 0, 1) := by decide +kernel
theorem dX2_revisits_20 : decode cX2_revisits 20 = .ok (.iconst 3, 1) := by decide +kernel
theorem dX2_revisits_21 : decode cX2_revisits 21 = .ok (.invokestatic 30, 3) := by decide +kernel
theorem dX2_revisits_24 : decode cX2_revisits 24 = .ok (.ifCond .ne 13, 3) := by decide +kernel
theorem dX2_revisits_27 : decode cX2_revisits 27 = .ok (.new 34, 3) := by decide +kernel
theorem dX2_revisits_30 : decode cX2_revisits 30 = .ok (.dup, 1) := by decide +kernel
theorem dX2_revisits_31 : decode cX2_revisits 31 = .ok (.ldc 104, 2) := by decide +kernel
theorem dX2_revisits_33 : decode cX2_revisits 33 = .ok (.invokespecial 38, 3) := by decide +kernel
theorem dX2_revisits_36 : decode cX2_revisits 36 = .ok (.athrow, 1) := by decide +kernel
theorem dX2_revisits_37 : decode cX2_revisits 37 = .ok (.iload_n 3, 1) := by decide +kernel
theorem dX2_revisits_38 : decode cX2_revisits 38 = .ok (.iconst 1, 1) := by decide +kernel
theorem dX2_revisits_39 : decode cX2_revisits 39 = .ok (.bipush 20, 2) := by decide +kernel
theorem dX2_revisits_41 : decode cX2_revisits 41 = .ok (.invokestatic 30, 3) := by decide +kernel
theorem dX2_revisits_44 : decode cX2_revisits 44 = .ok (.ifCond .ne 13, 3) := by decide +kernel
theorem dX2_revisits_47 : decode cX2_revisits 47 = .ok (.new 34, 3) := by decide +kernel
theorem dX2_revisits_50 : decode cX2_revisits 50 = .ok (.dup, 1) := by decide +kernel
theorem dX2_revisits_51 : decode cX2_revisits 51 = .ok (.ldc 106, 2) := by decide +kernel
theorem dX2_revisits_53 : decode cX2_revisits 53 = .ok (.invokespecial 38, 3) := by decide +kernel
theorem dX2_revisits_56 : decode cX2_revisits 56 = .ok (.athrow, 1) := by decide +kernel
theorem dX2_revisits_57 : decode cX2_revisits 57 = .ok (.aload_n 0, 1) := by decide +kernel
theorem dX2_revisits_58 : decode cX2_revisits 58 = .ok (.getfield 10, 3) := by decide +kernel
theorem dX2_revisits_61 : decode cX2_revisits 61 = .ok (.getfield 108, 3) := by decide +kernel
theorem dX2_revisits_64 : decode cX2_revisits 64 = .ok (.iload_n 1, 1) := by decide +kernel
theorem dX2_revisits_65 : decode cX2_revisits 65 = .ok (.iaload, 1) := by decide +kernel
theorem dX2_revisits_66 : decode cX2_revisits 66 = .ok (.istore 4, 2) := by decide +kernel
theorem dX2_revisits_68 : decode cX2_revisits 68 = .ok (.aload_n 0, 1) := by decide +kernel
theorem dX2_revisits_69 : decode cX2_revisits 69 = .ok (.getfield 10, 3) := by decide +kernel
theorem dX2_revisits_72 : decode cX2_revisits 72 = .ok (.getfield 108, 3) := by decide +kernel
theorem dX2_revisits_75 : decode cX2_revisits 75 = .ok (.iload_n 1, 1) := by decide +kernel
theorem dX2_revisits_76 : decode cX2_revisits 76 = .ok (.iload_n 2, 1) := by decide +kernel
theorem dX2_revisits_77 : decode cX2_revisits 77 = .ok (.iastore, 1) := by decide +kernel
theorem dX2_revisits_78 : decode cX2_revisits 78 = .ok (.aload_n 0, 1) := by decide +kernel
theorem dX2_revisits_79 : decode cX2_revisits 79 = .ok (.getfield 10, 3) := by decide +kernel
theorem dX2_revisits_82 : decode cX2_revisits 82 = .ok (.getfield 111, 3) := by decide +kernel
theorem dX2_revisits_85 : decode cX2_revisits 85 = .ok (.iload_n 1, 1) := by decide +kernel
theorem dX2_revisits_86 : decode cX2_revisits 86 = .ok (.iload_n 3, 1) := by decide +kernel
theorem dX2_revisits_87 : decode cX2_revisits 87 = .ok (.iastore, 1) := by decide +kernel
theorem dX2_revisits_88 : decode cX2_revisits 88 = .ok (.aload_n 0, 1) := by decide +kernel
theorem dX2_revisits_89 : decode cX2_revisits 89 = .ok (.invokevirtual 60, 3) := by decide +kernel
theorem dX2_revisits_92 : decode cX2_revisits 92 = .ok (.iload 4, 2) := by decide +kernel
theorem dX2_revisits_94 : decode cX2_revisits 94 = .ok (.ireturn, 1) := by decide +kernel
theorem dX2_aims_0 : decode cX2_aims 0 = .ok (.aload_n 0, 1) := by decide +kernel
theorem dX2_aims_1 : decode cX2_aims 1 = .ok (.getfield 10, 3) := by decide +kernel
theorem dX2_aims_4 : decode cX2_aims 4 = .ok (.getfield 47, 3) := by decide +kernel
theorem dX2_aims_7 : decode cX2_aims 7 = .ok (.ireturn, 1) := by decide +kernel
set_option maxRecDepth 20000 in
theorem ggX2_allNeeds_X2_isAim : GoodIn wsX2_allNeeds wsX2_isAim := goodIn_r _ [8, 3, 9, 10, 7, 11, 25, 26, 27, 28, 29, 30, 31, 32, 33, 34, 35, 36, 37] (by decide +kernel) (by decide +kernel)
set_option maxRecDepth 20000 in
theorem gX2_allNeeds_X2_isAim : GoodIn wsX2_allNeeds (wsV RX2 63 RX2 yX2_isAim wsX2_isAim) := goodIn_app (goodIn_of _ (by decide +kernel)) ggX2_allNeeds_X2_isAim
set_option maxRecDepth 20000 in
theorem ggX2_allNeeds_X1_reach : GoodIn wsX2_allNeeds wsX1_reach := goodIn_r _ [16, 17, 18, 19, 20, 21, 15, 22, 23, 7, 24, 29, 30, 31, 32, 33, 34, 35, 36, 37] (by decide +kernel) (by decide +kernel)
set_option maxRecDepth 20000 in
theorem gX2_allNeeds_X1_reach : GoodIn wsX2_allNeeds (wsV RX2 84 RX1 yX1_reach wsX1_reach) := goodIn_app (goodIn_of _ (by decide +kernel)) ggX2_allNeeds_X1_reach
theorem dX2_allNeeds_0 : decode cX2_allNeeds 0 = .ok (.aload_n 0, 1) := by decide +kernel
theorem dX2_allNeeds_1 : decode cX2_allNeeds 1 = .ok (.iload_n 1, 1) := by decide +kernel
theorem dX2_allNeeds_2 : decode cX2_allNeeds 2 = .ok (.invokevirtual 63, 3) := by decide +kernel
theorem dX2_allNeeds_5 : decode cX2_allNeeds 5 = .ok (.ifCond .ne 13, 3) := by decide +kernel
theorem dX2_allNeeds_8 : decode cX2_allNeeds 8 = .ok (.new 67, 3) := by decide +kernel
theorem dX2_allNeeds_11 : decode cX2_allNeeds 11 = .ok (.dup, 1) := by decide +kernel
theorem dX2_allNeeds_12 : decode cX2_allNeeds 12 = .ok (.ldc 69, 2) := by decide +kernel
theorem dX2_allNeeds_14 : decode cX2_allNeeds 14 = .ok (.invokespecial 71, 3) := by decide +kernel
theorem dX2_allNeeds_17 : decode cX2_allNeeds 17 = .ok (.athrow, 1) := by decide +kernel
theorem dX2_allNeeds_18 : decode cX2_allNeeds 18 = .ok (.aload_n 0, 1) := by decide +kernel
theorem dX2_allNeeds_19 : decode cX2_allNeeds 19 = .ok (.getfield 10, 3) := by decide +kernel
theorem dX2_allNeeds_22 : decode cX2_allNeeds 22 = .ok (.iload_n 1, 1) := by decide +kernel
theorem dX2_allNeeds_23 : decode cX2_allNeeds 23 = .ok (.invokevirtual 84, 3) := by decide +kernel
theorem dX2_allNeeds_26 : decode cX2_allNeeds 26 = .ok (.ireturn, 1) := by decide +kernel
set_option maxRecDepth 20000 in
theorem ggX2_ordered_X2_isWithin : GoodIn wsX2_ordered wsX2_isWithin := goodIn_r _ [7] (by decide +kernel) (by decide +kernel)
set_option maxRecDepth 20000 in
theorem gX2_ordered_X2_isWithin : GoodIn wsX2_ordered (va_wsS RX2 30 yX2_isWithin wsX2_isWithin) := goodIn_app (goodIn_of _ (by decide +kernel)) ggX2_ordered_X2_isWithin
theorem dX2_ordered_0 : decode cX2_ordered 0 = .ok (.iload_n 1, 1) := by decide +kernel
theorem dX2_ordered_1 : decode cX2_ordered 1 = .ok (.iconst 0, 1) := by decide +kernel
theorem dX2_ordered_2 : decode cX2_ordered 2 = .ok (.aload_n 0, 1) := by decide +kernel
theorem dX2_ordered_3 : decode cX2_ordered 3 = .ok (.getfield 10, 3) := by decide +kernel
theorem dX2_ordered_6 : decode cX2_ordered 6 = .ok (.getfield 47, 3) := by decide +kernel
theorem dX2_ordered_9 : decode cX2_ordered 9 = .ok (.iconst 1, 1) := by decide +kernel
theorem dX2_ordered_10 : decode cX2_ordered 10 = .ok (.isub, 1) := by decide +kernel
theorem dX2_ordered_11 : decode cX2_ordered 11 = .ok (.invokestatic 30, 3) := by decide +kernel
theorem dX2_ordered_14 : decode cX2_ordered 14 = .ok (.ifCond .ne 13, 3) := by decide +kernel
theorem dX2_ordered_17 : decode cX2_ordered 17 = .ok (.new 67, 3) := by decide +kernel
theorem dX2_ordered_20 : decode cX2_ordered 20 = .ok (.dup, 1) := by decide +kernel
theorem dX2_ordered_21 : decode cX2_ordered 21 = .ok (.ldc 114, 2) := by decide +kernel
theorem dX2_ordered_23 : decode cX2_ordered 23 = .ok (.invokespecial 71, 3) := by decide +kernel
theorem dX2_ordered_26 : decode cX2_ordered 26 = .ok (.athrow, 1) := by decide +kernel
theorem dX2_ordered_27 : decode cX2_ordered 27 = .ok (.aload_n 0, 1) := by decide +kernel
theorem dX2_ordered_28 : decode cX2_ordered 28 = .ok (.getfield 10, 3) := by decide +kernel
theorem dX2_ordered_31 : decode cX2_ordered 31 = .ok (.getfield 116, 3) := by decide +kernel
theorem dX2_ordered_34 : decode cX2_ordered 34 = .ok (.iload_n 1, 1) := by decide +kernel
theorem dX2_ordered_35 : decode cX2_ordered 35 = .ok (.iaload, 1) := by decide +kernel
theorem dX2_ordered_36 : decode cX2_ordered 36 = .ok (.ireturn, 1) := by decide +kernel
set_option maxRecDepth 20000 in
theorem ggX2_lose_X2_isDay : GoodIn wsX2_lose wsX2_isDay := goodIn_r _ [11, 12, 13, 10, 14] (by decide +kernel) (by decide +kernel)
set_option maxRecDepth 20000 in
theorem gX2_lose_X2_isDay : GoodIn wsX2_lose (va_wsS RX2 119 yX2_isDay wsX2_isDay) := goodIn_app (goodIn_of _ (by decide +kernel)) ggX2_lose_X2_isDay
set_option maxRecDepth 20000 in
theorem ggX2_lose_X2_planAnew : GoodIn wsX2_lose wsX2_planAnew := goodIn_r _ [18, 7, 6, 19, 5, 20, 21, 22, 23, 24, 25, 26, 27, 28, 29, 30, 31, 32, 33, 34, 35, 36, 37, 38, 39, 40, 41, 42, 43, 44, 45, 46, 47, 48, 49, 50, 51, 52, 53, 54, 55, 56, 57, 58, 59, 60, 61, 62, 63, 64, 65, 66, 67, 68, 69, 70, 71, 72, 73, 74, 75, 76, 77, 78, 79, 80, 81, 82, 83, 84, 92, 93, 94, 95, 96, 97, 98, 99, 100, 101, 102, 103, 104, 105, 106, 107, 108, 109, 110, 111, 112, 113] (by decide +kernel) (by decide +kernel)
set_option maxRecDepth 20000 in
theorem gX2_lose_X2_planAnew : GoodIn wsX2_lose (wsV RX2 60 RX2 yX2_planAnew wsX2_planAnew) := goodIn_app (goodIn_of _ (by decide +kernel)) ggX2_lose_X2_planAnew
set_option maxRecDepth 20000 in
theorem ggX2_lose_X0_movedSince : GoodIn wsX2_lose wsX0_movedSince := goodIn_r _ [88, 30, 31, 89, 90, 23, 91, 96, 97, 98, 99, 100, 101, 102, 103, 104] (by decide +kernel) (by decide +kernel)
set_option maxRecDepth 20000 in
theorem gX2_lose_X0_movedSince : GoodIn wsX2_lose (wsV RX2 126 RX0 yX0_movedSince wsX0_movedSince) := goodIn_app (goodIn_of _ (by decide +kernel)) ggX2_lose_X0_movedSince
theorem dX2_lose_0 : decode cX2_lose 0 = .ok (.iload_n 1, 1) := by decide +kernel
theorem dX2_lose_1 : decode cX2_lose 1 = .ok (.invokestatic 119, 3) := by decide +kernel
theorem dX2_lose_4 : decode cX2_lose 4 = .ok (.ifCond .ne 13, 3) := by decide +kernel
theorem dX2_lose_7 : decode cX2_lose 7 = .ok (.new 67, 3) := by decide +kernel
theorem dX2_lose_10 : decode cX2_lose 10 = .ok (.dup, 1) := by decide +kernel
theorem dX2_lose_11 : decode cX2_lose 11 = .ok (.ldc 122, 2) := by decide +kernel
theorem dX2_lose_13 : decode cX2_lose 13 = .ok (.invokespecial 71, 3) := by decide +kernel
theorem dX2_lose_16 : decode cX2_lose 16 = .ok (.athrow, 1) := by decide +kernel
theorem dX2_lose_17 : decode cX2_lose 17 = .ok (.aload_n 0, 1) := by decide +kernel
theorem dX2_lose_18 : decode cX2_lose 18 = .ok (.getfield 16, 3) := by decide +kernel
theorem dX2_lose_21 : decode cX2_lose 21 = .ok (.iload_n 1, 1) := by decide +kernel
theorem dX2_lose_22 : decode cX2_lose 22 = .ok (.baload, 1) := by decide +kernel
theorem dX2_lose_23 : decode cX2_lose 23 = .ok (.ifCond .eq 13, 3) := by decide +kernel
theorem dX2_lose_26 : decode cX2_lose 26 = .ok (.new 51, 3) := by decide +kernel
theorem dX2_lose_29 : decode cX2_lose 29 = .ok (.dup, 1) := by decide +kernel
theorem dX2_lose_30 : decode cX2_lose 30 = .ok (.ldc 124, 2) := by decide +kernel
theorem dX2_lose_32 : decode cX2_lose 32 = .ok (.invokespecial 55, 3) := by decide +kernel
theorem dX2_lose_35 : decode cX2_lose 35 = .ok (.athrow, 1) := by decide +kernel
theorem dX2_lose_36 : decode cX2_lose 36 = .ok (.aload_n 0, 1) := by decide +kernel
theorem dX2_lose_37 : decode cX2_lose 37 = .ok (.getfield 16, 3) := by decide +kernel
theorem dX2_lose_40 : decode cX2_lose 40 = .ok (.iload_n 1, 1) := by decide +kernel
theorem dX2_lose_41 : decode cX2_lose 41 = .ok (.iconst 1, 1) := by decide +kernel
theorem dX2_lose_42 : decode cX2_lose 42 = .ok (.bastore, 1) := by decide +kernel
theorem dX2_lose_43 : decode cX2_lose 43 = .ok (.aload_n 0, 1) := by decide +kernel
theorem dX2_lose_44 : decode cX2_lose 44 = .ok (.invokevirtual 60, 3) := by decide +kernel
theorem dX2_lose_47 : decode cX2_lose 47 = .ok (.aload_n 0, 1) := by decide +kernel
theorem dX2_lose_48 : decode cX2_lose 48 = .ok (.getfield 23, 3) := by decide +kernel
theorem dX2_lose_51 : decode cX2_lose 51 = .ok (.aload_n 0, 1) := by decide +kernel
theorem dX2_lose_52 : decode cX2_lose 52 = .ok (.getfield 27, 3) := by decide +kernel
theorem dX2_lose_55 : decode cX2_lose 55 = .ok (.invokevirtual 126, 3) := by decide +kernel
theorem dX2_lose_58 : decode cX2_lose 58 = .ok (.ireturn, 1) := by decide +kernel
set_option maxRecDepth 20000 in
theorem ggX2_on_X2_isDay : GoodIn wsX2_on wsX2_isDay := goodIn_r _ [7, 8, 9, 6, 10] (by decide +kernel) (by decide +kernel)
set_option maxRecDepth 20000 in
theorem gX2_on_X2_isDay : GoodIn wsX2_on (va_wsS RX2 119 yX2_isDay wsX2_isDay) := goodIn_app (goodIn_of _ (by decide +kernel)) ggX2_on_X2_isDay
theorem dX2_on_0 : decode cX2_on 0 = .ok (.iload_n 1, 1) := by decide +kernel
theorem dX2_on_1 : decode cX2_on 1 = .ok (.invokestatic 119, 3) := by decide +kernel
theorem dX2_on_4 : decode cX2_on 4 = .ok (.ifCond .ne 13, 3) := by decide +kernel
theorem dX2_on_7 : decode cX2_on 7 = .ok (.new 67, 3) := by decide +kernel
theorem dX2_on_10 : decode cX2_on 10 = .ok (.dup, 1) := by decide +kernel
theorem dX2_on_11 : decode cX2_on 11 = .ok (.ldc 122, 2) := by decide +kernel
theorem dX2_on_13 : decode cX2_on 13 = .ok (.invokespecial 71, 3) := by decide +kernel
theorem dX2_on_16 : decode cX2_on 16 = .ok (.athrow, 1) := by decide +kernel
theorem dX2_on_17 : decode cX2_on 17 = .ok (.aload_n 0, 1) := by decide +kernel
theorem dX2_on_18 : decode cX2_on 18 = .ok (.getfield 23, 3) := by decide +kernel
theorem dX2_on_21 : decode cX2_on 21 = .ok (.getfield 130, 3) := by decide +kernel
theorem dX2_on_24 : decode cX2_on 24 = .ok (.iload_n 1, 1) := by decide +kernel
theorem dX2_on_25 : decode cX2_on 25 = .ok (.iaload, 1) := by decide +kernel
theorem dX2_on_26 : decode cX2_on 26 = .ok (.ireturn, 1) := by decide +kernel
set_option maxRecDepth 20000 in
theorem ggX2_lessonDay_X2_isAim : GoodIn wsX2_lessonDay wsX2_isAim := goodIn_r _ [9, 3, 10, 11, 8, 12, 13, 14, 15, 16, 17, 18, 19, 20, 21, 22, 23, 24, 25] (by decide +kernel) (by decide +kernel)
set_option maxRecDepth 20000 in
theorem gX2_lessonDay_X2_isAim : GoodIn wsX2_lessonDay (wsV RX2 63 RX2 yX2_isAim wsX2_isAim) := goodIn_app (goodIn_of _ (by decide +kernel)) ggX2_lessonDay_X2_isAim
set_option maxRecDepth 20000 in
theorem ggX2_lessonDay_X2_isWithin : GoodIn wsX2_lessonDay wsX2_isWithin := goodIn_r _ [12] (by decide +kernel) (by decide +kernel)
set_option maxRecDepth 20000 in
theorem gX2_lessonDay_X2_isWithin : GoodIn wsX2_lessonDay (va_wsS RX2 30 yX2_isWithin wsX2_isWithin) := goodIn_app (goodIn_of _ (by decide +kernel)) ggX2_lessonDay_X2_isWithin
theorem dX2_lessonDay_0 : decode cX2_lessonDay 0 = .ok (.aload_n 0, 1) := by decide +kernel
theorem dX2_lessonDay_1 : decode cX2_lessonDay 1 = .ok (.iload_n 1, 1) := by decide +kernel
theorem dX2_lessonDay_2 : decode cX2_lessonDay 2 = .ok (.invokevirtual 63, 3) := by decide +kernel
theorem dX2_lessonDay_5 : decode cX2_lessonDay 5 = .ok (.ifCond .ne 13, 3) := by decide +kernel
theorem dX2_lessonDay_8 : decode cX2_lessonDay 8 = .ok (.new 67, 3) := by decide +kernel
theorem dX2_lessonDay_11 : decode cX2_lessonDay 11 = .ok (.dup, 1) := by decide +kernel
theorem dX2_lessonDay_12 : decode cX2_lessonDay 12 = .ok (.ldc 69, 2) := by decide +kernel
theorem dX2_lessonDay_14 : decode cX2_lessonDay 14 = .ok (.invokespecial 71, 3) := by decide +kernel
theorem dX2_lessonDay_17 : decode cX2_lessonDay 17 = .ok (.athrow, 1) := by decide +kernel
theorem dX2_lessonDay_18 : decode cX2_lessonDay 18 = .ok (.iload_n 2, 1) := by decide +kernel
theorem dX2_lessonDay_19 : decode cX2_lessonDay 19 = .ok (.iconst 0, 1) := by decide +kernel
theorem dX2_lessonDay_20 : decode cX2_lessonDay 20 = .ok (.aload_n 0, 1) := by decide +kernel
theorem dX2_lessonDay_21 : decode cX2_lessonDay 21 = .ok (.getfield 10, 3) := by decide +kernel
theorem dX2_lessonDay_24 : decode cX2_lessonDay 24 = .ok (.getfield 133, 3) := by decide +kernel
theorem dX2_lessonDay_27 : decode cX2_lessonDay 27 = .ok (.iload_n 1, 1) := by decide +kernel
theorem dX2_lessonDay_28 : decode cX2_lessonDay 28 = .ok (.iaload, 1) := by decide +kernel
theorem dX2_lessonDay_29 : decode cX2_lessonDay 29 = .ok (.iconst 1, 1) := by decide +kernel
theorem dX2_lessonDay_30 : decode cX2_lessonDay 30 = .ok (.isub, 1) := by decide +kernel
theorem dX2_lessonDay_31 : decode cX2_lessonDay 31 = .ok (.invokestatic 30, 3) := by decide +kernel
theorem dX2_lessonDay_34 : decode cX2_lessonDay 34 = .ok (.ifCond .ne 13, 3) := by decide +kernel
theorem dX2_lessonDay_37 : decode cX2_lessonDay 37 = .ok (.new 67, 3) := by decide +kernel
theorem dX2_lessonDay_40 : decode cX2_lessonDay 40 = .ok (.dup, 1) := by decide +kernel
theorem dX2_lessonDay_41 : decode cX2_lessonDay 41 = .ok (.ldc 136, 2) := by decide +kernel
theorem dX2_lessonDay_43 : decode cX2_lessonDay 43 = .ok (.invokespecial 71, 3) := by decide +kernel
theorem dX2_lessonDay_46 : decode cX2_lessonDay 46 = .ok (.athrow, 1) := by decide +kernel
theorem dX2_lessonDay_47 : decode cX2_lessonDay 47 = .ok (.aload_n 0, 1) := by decide +kernel
theorem dX2_lessonDay_48 : decode cX2_lessonDay 48 = .ok (.getfield 23, 3) := by decide +kernel
theorem dX2_lessonDay_51 : decode cX2_lessonDay 51 = .ok (.getfield 138, 3) := by decide +kernel
theorem dX2_lessonDay_54 : decode cX2_lessonDay 54 = .ok (.iload_n 1, 1) := by decide +kernel
theorem dX2_lessonDay_55 : decode cX2_lessonDay 55 = .ok (.iconst 5, 1) := by decide +kernel
theorem dX2_lessonDay_56 : decode cX2_lessonDay 56 = .ok (.imul, 1) := by decide +kernel
theorem dX2_lessonDay_57 : decode cX2_lessonDay 57 = .ok (.iload_n 2, 1) := by decide +kernel
theorem dX2_lessonDay_58 : decode cX2_lessonDay 58 = .ok (.iadd, 1) := by decide +kernel
theorem dX2_lessonDay_59 : decode cX2_lessonDay 59 = .ok (.iaload, 1) := by decide +kernel
theorem dX2_lessonDay_60 : decode cX2_lessonDay 60 = .ok (.ireturn, 1) := by decide +kernel
set_option maxRecDepth 20000 in
theorem ggX2_revisitDay_X2_isAim : GoodIn wsX2_revisitDay wsX2_isAim := goodIn_r _ [9, 3, 10, 11, 8, 12, 13, 14, 15, 16, 17, 18, 19, 20, 21, 22, 23, 24, 25] (by decide +kernel) (by decide +kernel)
set_option maxRecDepth 20000 in
theorem gX2_revisitDay_X2_isAim : GoodIn wsX2_revisitDay (wsV RX2 63 RX2 yX2_isAim wsX2_isAim) := goodIn_app (goodIn_of _ (by decide +kernel)) ggX2_revisitDay_X2_isAim
set_option maxRecDepth 20000 in
theorem ggX2_revisitDay_X2_isWithin : GoodIn wsX2_revisitDay wsX2_isWithin := goodIn_r _ [12] (by decide +kernel) (by decide +kernel)
set_option maxRecDepth 20000 in
theorem gX2_revisitDay_X2_isWithin : GoodIn wsX2_revisitDay (va_wsS RX2 30 yX2_isWithin wsX2_isWithin) := goodIn_app (goodIn_of _ (by decide +kernel)) ggX2_revisitDay_X2_isWithin
theorem dX2_revisitDay_0 : decode cX2_revisitDay 0 = .ok (.aload_n 0, 1) := by decide +kernel
theorem dX2_revisitDay_1 : decode cX2_revisitDay 1 = .ok (.iload_n 1, 1) := by decide +kernel
theorem dX2_revisitDay_2 : decode cX2_revisitDay 2 = .ok (.invokevirtual 63, 3) := by decide +kernel
theorem dX2_revisitDay_5 : decode cX2_revisitDay 5 = .ok (.ifCond .ne 13, 3) := by decide +kernel
theorem dX2_revisitDay_8 : decode cX2_revisitDay 8 = .ok (.new 67, 3) := by decide +kernel
theorem dX2_revisitDay_11 : decode cX2_revisitDay 11 = .ok (.dup, 1) := by decide +kernel
theorem dX2_revisitDay_12 : decode cX2_revisitDay 12 = .ok (.ldc 69, 2) := by decide +kernel
theorem dX2_revisitDay_14 : decode cX2_revisitDay 14 = .ok (.invokespecial 71, 3) := by decide +kernel
theorem dX2_revisitDay_17 : decode cX2_revisitDay 17 = .ok (.athrow, 1) := by decide +kernel
theorem dX2_revisitDay_18 : decode cX2_revisitDay 18 = .ok (.iload_n 2, 1) := by decide +kernel
theorem dX2_revisitDay_19 : decode cX2_revisitDay 19 = .ok (.iconst 0, 1) := by decide +kernel
theorem dX2_revisitDay_20 : decode cX2_revisitDay 20 = .ok (.aload_n 0, 1) := by decide +kernel
theorem dX2_revisitDay_21 : decode cX2_revisitDay 21 = .ok (.getfield 10, 3) := by decide +kernel
theorem dX2_revisitDay_24 : decode cX2_revisitDay 24 = .ok (.getfield 108, 3) := by decide +kernel
theorem dX2_revisitDay_27 : decode cX2_revisitDay 27 = .ok (.iload_n 1, 1) := by decide +kernel
theorem dX2_revisitDay_28 : decode cX2_revisitDay 28 = .ok (.iaload, 1) := by decide +kernel
theorem dX2_revisitDay_29 : decode cX2_revisitDay 29 = .ok (.iconst 1, 1) := by decide +kernel
theorem dX2_revisitDay_30 : decode cX2_revisitDay 30 = .ok (.isub, 1) := by decide +kernel
theorem dX2_revisitDay_31 : decode cX2_revisitDay 31 = .ok (.invokestatic 30, 3) := by decide +kernel
theorem dX2_revisitDay_34 : decode cX2_revisitDay 34 = .ok (.ifCond .ne 13, 3) := by decide +kernel
theorem dX2_revisitDay_37 : decode cX2_revisitDay 37 = .ok (.new 67, 3) := by decide +kernel
theorem dX2_revisitDay_40 : decode cX2_revisitDay 40 = .ok (.dup, 1) := by decide +kernel
theorem dX2_revisitDay_41 : decode cX2_revisitDay 41 = .ok (.ldc 141, 2) := by decide +kernel
theorem dX2_revisitDay_43 : decode cX2_revisitDay 43 = .ok (.invokespecial 71, 3) := by decide +kernel
theorem dX2_revisitDay_46 : decode cX2_revisitDay 46 = .ok (.athrow, 1) := by decide +kernel
theorem dX2_revisitDay_47 : decode cX2_revisitDay 47 = .ok (.aload_n 0, 1) := by decide +kernel
theorem dX2_revisitDay_48 : decode cX2_revisitDay 48 = .ok (.getfield 23, 3) := by decide +kernel
theorem dX2_revisitDay_51 : decode cX2_revisitDay 51 = .ok (.getfield 143, 3) := by decide +kernel
theorem dX2_revisitDay_54 : decode cX2_revisitDay 54 = .ok (.iload_n 1, 1) := by decide +kernel
theorem dX2_revisitDay_55 : decode cX2_revisitDay 55 = .ok (.iconst 3, 1) := by decide +kernel
theorem dX2_revisitDay_56 : decode cX2_revisitDay 56 = .ok (.imul, 1) := by decide +kernel
theorem dX2_revisitDay_57 : decode cX2_revisitDay 57 = .ok (.iload_n 2, 1) := by decide +kernel
theorem dX2_revisitDay_58 : decode cX2_revisitDay 58 = .ok (.iadd, 1) := by decide +kernel
theorem dX2_revisitDay_59 : decode cX2_revisitDay 59 = .ok (.iaload, 1) := by decide +kernel
theorem dX2_revisitDay_60 : decode cX2_revisitDay 60 = .ok (.ireturn, 1) := by decide +kernel
theorem dX2_laid_0 : decode cX2_laid 0 = .ok (.aload_n 0, 1) := by decide +kernel
theorem dX2_laid_1 : decode cX2_laid 1 = .ok (.getfield 23, 3) := by decide +kernel
theorem dX2_laid_4 : decode cX2_laid 4 = .ok (.getfield 146, 3) := by decide +kernel
theorem dX2_laid_7 : decode cX2_laid 7 = .ok (.ireturn, 1) := by decide +kernel
theorem dX2_late_0 : decode cX2_late 0 = .ok (.aload_n 0, 1) := by decide +kernel
theorem dX2_late_1 : decode cX2_late 1 = .ok (.getfield 23, 3) := by decide +kernel
theorem dX2_late_4 : decode cX2_late 4 = .ok (.getfield 149, 3) := by decide +kernel
theorem dX2_late_7 : decode cX2_late 7 = .ok (.ireturn, 1) := by decide +kernel
theorem dX2_lastDay_0 : decode cX2_lastDay 0 = .ok (.aload_n 0, 1) := by decide +kernel
theorem dX2_lastDay_1 : decode cX2_lastDay 1 = .ok (.getfield 23, 3) := by decide +kernel
theorem dX2_lastDay_4 : decode cX2_lastDay 4 = .ok (.getfield 152, 3) := by decide +kernel
theorem dX2_lastDay_7 : decode cX2_lastDay 7 = .ok (.ireturn, 1) := by decide +kernel
set_option maxRecDepth 20000 in
theorem ggX2_worthwhile_X2_isWithin : GoodIn wsX2_worthwhile wsX2_isWithin := goodIn_r _ [7] (by decide +kernel) (by decide +kernel)
set_option maxRecDepth 20000 in
theorem gX2_worthwhile_X2_isWithin : GoodIn wsX2_worthwhile (va_wsS RX2 30 yX2_isWithin wsX2_isWithin) := goodIn_app (goodIn_of _ (by decide +kernel)) ggX2_worthwhile_X2_isWithin
set_option maxRecDepth 20000 in
theorem ggX2_worthwhile_X1_bestSet : GoodIn wsX2_worthwhile wsX1_bestSet := goodIn_r _ [12, 13, 14, 15, 16, 11, 17, 18, 19, 6, 20, 21, 22, 23, 24, 25, 26, 27, 28, 29, 30, 31, 32, 33, 34, 35, 36, 41, 42, 43, 44, 45, 46, 47, 48, 49] (by decide +kernel) (by decide +kernel)
set_option maxRecDepth 20000 in
theorem gX2_worthwhile_X1_bestSet : GoodIn wsX2_worthwhile (wsV RX2 157 RX1 yX1_bestSet wsX1_bestSet) := goodIn_app (goodIn_of _ (by decide +kernel)) ggX2_worthwhile_X1_bestSet
theorem dX2_worthwhile_0 : decode cX2_worthwhile 0 = .ok (.iload_n 1, 1) := by decide +kernel
theorem dX2_worthwhile_1 : decode cX2_worthwhile 1 = .ok (.iconst 0, 1) := by decide +kernel
theorem dX2_worthwhile_2 : decode cX2_worthwhile 2 = .ok (.bipush 99, 2) := by decide +kernel
theorem dX2_worthwhile_4 : decode cX2_worthwhile 4 = .ok (.invokestatic 30, 3) := by decide +kernel
theorem dX2_worthwhile_7 : decode cX2_worthwhile 7 = .ok (.ifCond .ne 13, 3) := by decide +kernel
theorem dX2_worthwhile_10 : decode cX2_worthwhile 10 = .ok (.new 34, 3) := by decide +kernel
theorem dX2_worthwhile_13 : decode cX2_worthwhile 13 = .ok (.dup, 1) := by decide +kernel
theorem dX2_worthwhile_14 : decode cX2_worthwhile 14 = .ok (.ldc 155, 2) := by decide +kernel
theorem dX2_worthwhile_16 : decode cX2_worthwhile 16 = .ok (.invokespecial 38, 3) := by decide +kernel
theorem dX2_worthwhile_19 : decode cX2_worthwhile 19 = .ok (.athrow, 1) := by decide +kernel
theorem dX2_worthwhile_20 : decode cX2_worthwhile 20 = .ok (.aload_n 0, 1) := by decide +kernel
theorem dX2_worthwhile_21 : decode cX2_worthwhile 21 = .ok (.getfield 10, 3) := by decide +kernel
theorem dX2_worthwhile_24 : decode cX2_worthwhile 24 = .ok (.iload_n 1, 1) := by decide +kernel
theorem dX2_worthwhile_25 : decode cX2_worthwhile 25 = .ok (.invokevirtual 157, 3) := by decide +kernel
theorem dX2_worthwhile_28 : decode cX2_worthwhile 28 = .ok (.ireturn, 1) := by decide +kernel
set_option maxRecDepth 20000 in
theorem ggX2_bestNet_X2_isWithin : GoodIn wsX2_bestNet wsX2_isWithin := goodIn_r _ [7] (by decide +kernel) (by decide +kernel)
set_option maxRecDepth 20000 in
theorem gX2_bestNet_X2_isWithin : GoodIn wsX2_bestNet (va_wsS RX2 30 yX2_isWithin wsX2_isWithin) := goodIn_app (goodIn_of _ (by decide +kernel)) ggX2_bestNet_X2_isWithin
set_option maxRecDepth 20000 in
theorem ggX2_bestNet_X1_bestSet : GoodIn wsX2_bestNet wsX1_bestSet := goodIn_r _ [12, 13, 14, 15, 16, 11, 17, 18, 19, 6, 20, 21, 22, 23, 24, 25, 26, 27, 28, 29, 30, 31, 32, 33, 34, 35, 36, 42, 43, 44, 45, 46, 47, 48, 49, 50] (by decide +kernel) (by decide +kernel)
set_option maxRecDepth 20000 in
theorem gX2_bestNet_X1_bestSet : GoodIn wsX2_bestNet (wsV RX2 157 RX1 yX1_bestSet wsX1_bestSet) := goodIn_app (goodIn_of _ (by decide +kernel)) ggX2_bestNet_X1_bestSet
set_option maxRecDepth 20000 in
theorem ggX2_bestNet_X1_netOf : GoodIn wsX2_bestNet wsX1_netOf := goodIn_r _ [27, 13, 28, 29, 19, 6, 20, 42, 43, 44, 45, 46, 47, 48, 49, 50] (by decide +kernel) (by decide +kernel)
set_option maxRecDepth 20000 in
theorem gX2_bestNet_X1_netOf : GoodIn wsX2_bestNet (wsV RX2 160 RX1 yX1_netOf wsX1_netOf) := goodIn_app (goodIn_of _ (by decide +kernel)) ggX2_bestNet_X1_netOf
theorem dX2_bestNet_0 : decode cX2_bestNet 0 = .ok (.iload_n 1, 1) := by decide +kernel
theorem dX2_bestNet_1 : decode cX2_bestNet 1 = .ok (.iconst 0, 1) := by decide +kernel
theorem dX2_bestNet_2 : decode cX2_bestNet 2 = .ok (.bipush 99, 2) := by decide +kernel
theorem dX2_bestNet_4 : decode cX2_bestNet 4 = .ok (.invokestatic 30, 3) := by decide +kernel
theorem dX2_bestNet_7 : decode cX2_bestNet 7 = .ok (.ifCond .ne 13, 3) := by decide +kernel
theorem dX2_bestNet_10 : decode cX2_bestNet 10 = .ok (.new 34, 3) := by decide +kernel
theorem dX2_bestNet_13 : decode cX2_bestNet 13 = .ok (.dup, 1) := by decide +kernel
theorem dX2_bestNet_14 : decode cX2_bestNet 14 = .ok (.ldc 155, 2) := by decide +kernel
theorem dX2_bestNet_16 : decode cX2_bestNet 16 = .ok (.invokespecial 38, 3) := by decide +kernel
theorem dX2_bestNet_19 : decode cX2_bestNet 19 = .ok (.athrow, 1) := by decide +kernel
theorem dX2_bestNet_20 : decode cX2_bestNet 20 = .ok (.aload_n 0, 1) := by decide +kernel
theorem dX2_bestNet_21 : decode cX2_bestNet 21 = .ok (.getfield 10, 3) := by decide +kernel
theorem dX2_bestNet_24 : decode cX2_bestNet 24 = .ok (.aload_n 0, 1) := by decide +kernel
theorem dX2_bestNet_25 : decode cX2_bestNet 25 = .ok (.getfield 10, 3) := by decide +kernel
theorem dX2_bestNet_28 : decode cX2_bestNet 28 = .ok (.iload_n 1, 1) := by decide +kernel
theorem dX2_bestNet_29 : decode cX2_bestNet 29 = .ok (.invokevirtual 157, 3) := by decide +kernel
theorem dX2_bestNet_32 : decode cX2_bestNet 32 = .ok (.iload_n 1, 1) := by decide +kernel
theorem dX2_bestNet_33 : decode cX2_bestNet 33 = .ok (.invokevirtual 160, 3) := by decide +kernel
theorem dX2_bestNet_36 : decode cX2_bestNet 36 = .ok (.ireturn, 1) := by decide +kernel
set_option maxRecDepth 20000 in
theorem ggX2_closedSets_X1_countClosed : GoodIn wsX2_closedSets wsX1_countClosed := goodIn_r _ [6, 7, 8, 9, 10, 5, 11, 12, 13, 14, 15, 16, 17, 18, 23, 24, 25, 26, 27, 28, 29, 30, 31] (by decide +kernel) (by decide +kernel)
set_option maxRecDepth 20000 in
theorem gX2_closedSets_X1_countClosed : GoodIn wsX2_closedSets (wsV RX2 164 RX1 yX1_countClosed wsX1_countClosed) := goodIn_app (goodIn_of _ (by decide +kernel)) ggX2_closedSets_X1_countClosed
theorem dX2_closedSets_0 : decode cX2_closedSets 0 = .ok (.aload_n 0, 1) := by decide +kernel
theorem dX2_closedSets_1 : decode cX2_closedSets 1 = .ok (.getfield 10, 3) := by decide +kernel
theorem dX2_closedSets_4 : decode cX2_closedSets 4 = .ok (.invokevirtual 164, 3) := by decide +kernel
theorem dX2_closedSets_7 : decode cX2_closedSets 7 = .ok (.ireturn, 1) := by decide +kernel
set_option maxRecDepth 20000 in
theorem ggX2_isAim_X2_isWithin : GoodIn wsX2_isAim wsX2_isWithin := goodIn_r _ [5] (by decide +kernel) (by decide +kernel)
set_option maxRecDepth 20000 in
theorem gX2_isAim_X2_isWithin : GoodIn wsX2_isAim (va_wsS RX2 30 yX2_isWithin wsX2_isWithin) := goodIn_app (goodIn_of _ (by decide +kernel)) ggX2_isAim_X2_isWithin
theorem dX2_isAim_0 : decode cX2_isAim 0 = .ok (.iload_n 1, 1) := by decide +kernel
theorem dX2_isAim_1 : decode cX2_isAim 1 = .ok (.iconst 0, 1) := by decide +kernel
theorem dX2_isAim_2 : decode cX2_isAim 2 = .ok (.aload_n 0, 1) := by decide +kernel
theorem dX2_isAim_3 : decode cX2_isAim 3 = .ok (.getfield 10, 3) := by decide +kernel
theorem dX2_isAim_6 : decode cX2_isAim 6 = .ok (.getfield 47, 3) := by decide +kernel
theorem dX2_isAim_9 : decode cX2_isAim 9 = .ok (.iconst 1, 1) := by decide +kernel
theorem dX2_isAim_10 : decode cX2_isAim 10 = .ok (.isub, 1) := by decide +kernel
theorem dX2_isAim_11 : decode cX2_isAim 11 = .ok (.invokestatic 30, 3) := by decide +kernel
theorem dX2_isAim_14 : decode cX2_isAim 14 = .ok (.ireturn, 1) := by decide +kernel
set_option maxRecDepth 20000 in
theorem ggX2_planAnew_X0_lay : GoodIn wsX2_planAnew wsX0_lay := goodIn_r _ [9, 10, 11, 12, 8, 13, 14, 15, 16, 17, 18, 19, 20, 21, 22, 23, 24, 25, 26, 27, 28, 29, 30, 31, 32, 33, 34, 35, 36, 37, 38, 39, 40, 41, 42, 43, 44, 45, 46, 47, 48, 49, 50, 51, 52, 53, 54, 55, 56, 57, 58, 59, 60, 61, 62, 63, 64, 65, 66, 67, 68, 69, 74, 75, 76, 77, 78, 79, 80, 81, 82, 83, 84, 85, 86, 87, 88, 89, 90, 91] (by decide +kernel) (by decide +kernel)
set_option maxRecDepth 20000 in
theorem gX2_planAnew_X0_lay : GoodIn wsX2_planAnew (wsV RX2 168 RX0 yX0_lay wsX0_lay) := goodIn_app (goodIn_of _ (by decide +kernel)) ggX2_planAnew_X0_lay
theorem dX2_planAnew_0 : decode cX2_planAnew 0 = .ok (.aload_n 0, 1) := by decide +kernel
theorem dX2_planAnew_1 : decode cX2_planAnew 1 = .ok (.getfield 27, 3) := by decide +kernel
theorem dX2_planAnew_4 : decode cX2_planAnew 4 = .ok (.astore_n 1, 1) := by decide +kernel
theorem dX2_planAnew_5 : decode cX2_planAnew 5 = .ok (.aload_n 0, 1) := by decide +kernel
theorem dX2_planAnew_6 : decode cX2_planAnew 6 = .ok (.aload_n 0, 1) := by decide +kernel
theorem dX2_planAnew_7 : decode cX2_planAnew 7 = .ok (.getfield 23, 3) := by decide +kernel
theorem dX2_planAnew_10 : decode cX2_planAnew 10 = .ok (.putfield 27, 3) := by decide +kernel
theorem dX2_planAnew_13 : decode cX2_planAnew 13 = .ok (.aload_n 0, 1) := by decide +kernel
theorem dX2_planAnew_14 : decode cX2_planAnew 14 = .ok (.aload_n 1, 1) := by decide +kernel
theorem dX2_planAnew_15 : decode cX2_planAnew 15 = .ok (.putfield 23, 3) := by decide +kernel
theorem dX2_planAnew_18 : decode cX2_planAnew 18 = .ok (.aload_n 0, 1) := by decide +kernel
theorem dX2_planAnew_19 : decode cX2_planAnew 19 = .ok (.getfield 23, 3) := by decide +kernel
theorem dX2_planAnew_22 : decode cX2_planAnew 22 = .ok (.aload_n 0, 1) := by decide +kernel
theorem dX2_planAnew_23 : decode cX2_planAnew 23 = .ok (.getfield 10, 3) := by decide +kernel
theorem dX2_planAnew_26 : decode cX2_planAnew 26 = .ok (.aload_n 0, 1) := by decide +kernel
theorem dX2_planAnew_27 : decode cX2_planAnew 27 = .ok (.getfield 16, 3) := by decide +kernel
theorem dX2_planAnew_30 : decode cX2_planAnew 30 = .ok (.invokevirtual 168, 3) := by decide +kernel
theorem dX2_planAnew_33 : decode cX2_planAnew 33 = .ok (.return_, 1) := by decide +kernel
set_option maxRecDepth 20000 in
theorem ggX2_isDay_X2_isWithin : GoodIn wsX2_isDay wsX2_isWithin := goodIn_r _ [4] (by decide +kernel) (by decide +kernel)
set_option maxRecDepth 20000 in
theorem gX2_isDay_X2_isWithin : GoodIn wsX2_isDay (va_wsS RX2 30 yX2_isWithin wsX2_isWithin) := goodIn_app (goodIn_of _ (by decide +kernel)) ggX2_isDay_X2_isWithin
theorem dX2_isDay_0 : decode cX2_isDay 0 = .ok (.iload_n 0, 1) := by decide +kernel
theorem dX2_isDay_1 : decode cX2_isDay 1 = .ok (.iconst 0, 1) := by decide +kernel
theorem dX2_isDay_2 : decode cX2_isDay 2 = .ok (.bipush 99, 2) := by decide +kernel
theorem dX2_isDay_4 : decode cX2_isDay 4 = .ok (.invokestatic 30, 3) := by decide +kernel
theorem dX2_isDay_7 : decode cX2_isDay 7 = .ok (.ireturn, 1) := by decide +kernel
theorem dX2_isWithin_0 : decode cX2_isWithin 0 = .ok (.iload_n 0, 1) := by decide +kernel
theorem dX2_isWithin_1 : decode cX2_isWithin 1 = .ok (.iload_n 1, 1) := by decide +kernel
theorem dX2_isWithin_2 : decode cX2_isWithin 2 = .ok (.if_icmp .lt 12, 3) := by decide +kernel
theorem dX2_isWithin_5 : decode cX2_isWithin 5 = .ok (.iload_n 0, 1) := by decide +kernel
theorem dX2_isWithin_6 : decode cX2_isWithin 6 = .ok (.iload_n 2, 1) := by decide +kernel
theorem dX2_isWithin_7 : decode cX2_isWithin 7 = .ok (.if_icmp .gt 7, 3) := by decide +kernel
theorem dX2_isWithin_10 : decode cX2_isWithin 10 = .ok (.iconst 1, 1) := by decide +kernel
theorem dX2_isWithin_11 : decode cX2_isWithin 11 = .ok (.goto 4, 3) := by decide +kernel
theorem dX2_isWithin_14 : decode cX2_isWithin 14 = .ok (.iconst 0, 1) := by decide +kernel
theorem dX2_isWithin_15 : decode cX2_isWithin 15 = .ok (.ireturn, 1) := by decide +kernel
theorem dX2_has_0 : decode cX2_has 0 = .ok (.iload_n 0, 1) := by decide +kernel
theorem dX2_has_1 : decode cX2_has 1 = .ok (.iload_n 1, 1) := by decide +kernel
theorem dX2_has_2 : decode cX2_has 2 = .ok (.ishr, 1) := by decide +kernel
theorem dX2_has_3 : decode cX2_has 3 = .ok (.iconst 1, 1) := by decide +kernel
theorem dX2_has_4 : decode cX2_has 4 = .ok (.iand, 1) := by decide +kernel
theorem dX2_has_5 : decode cX2_has 5 = .ok (.iconst 1, 1) := by decide +kernel
theorem dX2_has_6 : decode cX2_has 6 = .ok (.if_icmp .ne 7, 3) := by decide +kernel
theorem dX2_has_9 : decode cX2_has 9 = .ok (.iconst 1, 1) := by decide +kernel
theorem dX2_has_10 : decode cX2_has 10 = .ok (.goto 4, 3) := by decide +kernel
theorem dX2_has_13 : decode cX2_has 13 = .ok (.iconst 0, 1) := by decide +kernel
theorem dX2_has_14 : decode cX2_has 14 = .ok (.ireturn, 1) := by decide +kernel
