theorem dX3_init_0 : decode cX3_init 0 = .ok (.aload_n 0, 1) := by decide +kernel
theorem dX3_init_1 : decode cX3_init 1 = .ok (.invokespecial 1, 3) := by decide +kernel
theorem dX3_init_4 : decode cX3_init 4 = .ok (.aload_n 0, 1) := by decide +kernel
theorem dX3_init_5 : decode cX3_init 5 = .ok (.bipush 12, 2) := by decide +kernel
theorem dX3_init_7 : decode cX3_init 7 = .ok (.newarray .int, 2) := by decide +kernel
theorem dX3_init_9 : decode cX3_init 9 = .ok (.putfield 7, 3) := by decide +kernel
theorem dX3_init_12 : decode cX3_init 12 = .ok (.aload_n 0, 1) := by decide +kernel
theorem dX3_init_13 : decode cX3_init 13 = .ok (.bipush 12, 2) := by decide +kernel
theorem dX3_init_15 : decode cX3_init 15 = .ok (.newarray .int, 2) := by decide +kernel
theorem dX3_init_17 : decode cX3_init 17 = .ok (.putfield 13, 3) := by decide +kernel
theorem dX3_init_20 : decode cX3_init 20 = .ok (.aload_n 0, 1) := by decide +kernel
theorem dX3_init_21 : decode cX3_init 21 = .ok (.bipush 12, 2) := by decide +kernel
theorem dX3_init_23 : decode cX3_init 23 = .ok (.newarray .int, 2) := by decide +kernel
theorem dX3_init_25 : decode cX3_init 25 = .ok (.putfield 16, 3) := by decide +kernel
theorem dX3_init_28 : decode cX3_init 28 = .ok (.aload_n 0, 1) := by decide +kernel
theorem dX3_init_29 : decode cX3_init 29 = .ok (.bipush 12, 2) := by decide +kernel
theorem dX3_init_31 : decode cX3_init 31 = .ok (.newarray .int, 2) := by decide +kernel
theorem dX3_init_33 : decode cX3_init 33 = .ok (.putfield 19, 3) := by decide +kernel
theorem dX3_init_36 : decode cX3_init 36 = .ok (.aload_n 0, 1) := by decide +kernel
theorem dX3_init_37 : decode cX3_init 37 = .ok (.bipush 12, 2) := by decide +kernel
theorem dX3_init_39 : decode cX3_init 39 = .ok (.newarray .int, 2) := by decide +kernel
theorem dX3_init_41 : decode cX3_init 41 = .ok (.putfield 22, 3) := by decide +kernel
theorem dX3_init_44 : decode cX3_init 44 = .ok (.aload_n 0, 1) := by decide +kernel
theorem dX3_init_45 : decode cX3_init 45 = .ok (.bipush 12, 2) := by decide +kernel
theorem dX3_init_47 : decode cX3_init 47 = .ok (.newarray .int, 2) := by decide +kernel
theorem dX3_init_49 : decode cX3_init 49 = .ok (.putfield 25, 3) := by decide +kernel
theorem dX3_init_52 : decode cX3_init 52 = .ok (.aload_n 0, 1) := by decide +kernel
theorem dX3_init_53 : decode cX3_init 53 = .ok (.bipush 12, 2) := by decide +kernel
theorem dX3_init_55 : decode cX3_init 55 = .ok (.newarray .int, 2) := by decide +kernel
theorem dX3_init_57 : decode cX3_init 57 = .ok (.putfield 28, 3) := by decide +kernel
theorem dX3_init_60 : decode cX3_init 60 = .ok (.aload_n 0, 1) := by decide +kernel
theorem dX3_init_61 : decode cX3_init 61 = .ok (.bipush 100, 2) := by decide +kernel
theorem dX3_init_63 : decode cX3_init 63 = .ok (.newarray .boolean, 2) := by decide +kernel
theorem dX3_init_65 : decode cX3_init 65 = .ok (.putfield 31, 3) := by decide +kernel
theorem dX3_init_68 : decode cX3_init 68 = .ok (.aload_n 0, 1) := by decide +kernel
theorem dX3_init_69 : decode cX3_init 69 = .ok (.bipush 12, 2) := by decide +kernel
theorem dX3_init_71 : decode cX3_init 71 = .ok (.newarray .int, 2) := by decide +kernel
theorem dX3_init_73 : decode cX3_init 73 = .ok (.putfield 35, 3) := by decide +kernel
theorem dX3_init_76 : decode cX3_init 76 = .ok (.aload_n 0, 1) := by decide +kernel
theorem dX3_init_77 : decode cX3_init 77 = .ok (.bipush 100, 2) := by decide +kernel
theorem dX3_init_79 : decode cX3_init 79 = .ok (.newarray .int, 2) := by decide +kernel
theorem dX3_init_81 : decode cX3_init 81 = .ok (.putfield 38, 3) := by decide +kernel
theorem dX3_init_84 : decode cX3_init 84 = .ok (.aload_n 0, 1) := by decide +kernel
theorem dX3_init_85 : decode cX3_init 85 = .ok (.bipush 60, 2) := by decide +kernel
theorem dX3_init_87 : decode cX3_init 87 = .ok (.newarray .int, 2) := by decide +kernel
theorem dX3_init_89 : decode cX3_init 89 = .ok (.putfield 41, 3) := by decide +kernel
theorem dX3_init_92 : decode cX3_init 92 = .ok (.aload_n 0, 1) := by decide +kernel
theorem dX3_init_93 : decode cX3_init 93 = .ok (.bipush 36, 2) := by decide +kernel
theorem dX3_init_95 : decode cX3_init 95 = .ok (.newarray .int, 2) := by decide +kernel
theorem dX3_init_97 : decode cX3_init 97 = .ok (.putfield 44, 3) := by decide +kernel
theorem dX3_init_100 : decode cX3_init 100 = .ok (.aload_n 0, 1) := by decide +kernel
theorem dX3_init_101 : decode cX3_init 101 = .ok (.bipush 12, 2) := by decide +kernel
theorem dX3_init_103 : decode cX3_init 103 = .ok (.newarray .int, 2) := by decide +kernel
theorem dX3_init_105 : decode cX3_init 105 = .ok (.putfield 47, 3) := by decide +kernel
theorem dX3_init_108 : decode cX3_init 108 = .ok (.aload_n 0, 1) := by decide +kernel
theorem dX3_init_109 : decode cX3_init 109 = .ok (.bipush 12, 2) := by decide +kernel
theorem dX3_init_111 : decode cX3_init 111 = .ok (.newarray .int, 2) := by decide +kernel
theorem dX3_init_113 : decode cX3_init 113 = .ok (.putfield 50, 3) := by decide +kernel
theorem dX3_init_116 : decode cX3_init 116 = .ok (.aload_n 0, 1) := by decide +kernel
theorem dX3_init_117 : decode cX3_init 117 = .ok (.bipush 96, 2) := by decide +kernel
theorem dX3_init_119 : decode cX3_init 119 = .ok (.newarray .int, 2) := by decide +kernel
theorem dX3_init_121 : decode cX3_init 121 = .ok (.putfield 53, 3) := by decide +kernel
theorem dX3_init_124 : decode cX3_init 124 = .ok (.return_, 1) := by decide +kernel
theorem dX3_thrown_0 : decode cX3_thrown 0 = .ok (.aload_n 0, 1) := by decide +kernel
theorem dX3_thrown_1 : decode cX3_thrown 1 = .ok (.getfield 56, 3) := by decide +kernel
theorem dX3_thrown_4 : decode cX3_thrown 4 = .ok (.ireturn, 1) := by decide +kernel
theorem dX3_can_0 : decode cX3_can 0 = .ok (.aload_n 0, 1) := by decide +kernel
theorem dX3_can_1 : decode cX3_can 1 = .ok (.iload_n 1, 1) := by decide +kernel
theorem dX3_can_2 : decode cX3_can 2 = .ok (.putfield 56, 3) := by decide +kernel
theorem dX3_can_5 : decode cX3_can 5 = .ok (.iload_n 1, 1) := by decide +kernel
theorem dX3_can_6 : decode cX3_can 6 = .ok (.ifCond .ne 7, 3) := by decide +kernel
theorem dX3_can_9 : decode cX3_can 9 = .ok (.iconst 1, 1) := by decide +kernel
theorem dX3_can_10 : decode cX3_can 10 = .ok (.goto 4, 3) := by decide +kernel
theorem dX3_can_13 : decode cX3_can 13 = .ok (.iconst 0, 1) := by decide +kernel
theorem dX3_can_14 : decode cX3_can 14 = .ok (.ireturn, 1) := by decide +kernel
theorem dX3_isIn_0 : decode cX3_isIn 0 = .ok (.iload_n 0, 1) := by decide +kernel
theorem dX3_isIn_1 : decode cX3_isIn 1 = .ok (.iload_n 1, 1) := by decide +kernel
theorem dX3_isIn_2 : decode cX3_isIn 2 = .ok (.if_icmp .lt 12, 3) := by decide +kernel
theorem dX3_isIn_5 : decode cX3_isIn 5 = .ok (.iload_n 0, 1) := by decide +kernel
theorem dX3_isIn_6 : decode cX3_isIn 6 = .ok (.iload_n 2, 1) := by decide +kernel
theorem dX3_isIn_7 : decode cX3_isIn 7 = .ok (.if_icmp .gt 7, 3) := by decide +kernel
theorem dX3_isIn_10 : decode cX3_isIn 10 = .ok (.iconst 1, 1) := by decide +kernel
theorem dX3_isIn_11 : decode cX3_isIn 11 = .ok (.goto 4, 3) := by decide +kernel
theorem dX3_isIn_14 : decode cX3_isIn 14 = .ok (.iconst 0, 1) := by decide +kernel
theorem dX3_isIn_15 : decode cX3_isIn 15 = .ok (.ireturn, 1) := by decide +kernel
set_option maxRecDepth 20000 in
theorem ggX3_isAim_X3_isIn : GoodIn wsX3_isAim wsX3_isIn := goodIn_r _ [5] (by decide +kernel) (by decide +kernel)
set_option maxRecDepth 20000 in
theorem gX3_isAim_X3_isIn : GoodIn wsX3_isAim (va_wsS RX3 63 yX3_isIn wsX3_isIn) := goodIn_app (goodIn_of _ (by decide +kernel)) ggX3_isAim_X3_isIn
theorem dX3_isAim_0 : decode cX3_isAim 0 = .ok (.iload_n 1, 1) := by decide +kernel
theorem dX3_isAim_1 : decode cX3_isAim 1 = .ok (.iconst 0, 1) := by decide +kernel
theorem dX3_isAim_2 : decode cX3_isAim 2 = .ok (.aload_n 0, 1) := by decide +kernel
theorem dX3_isAim_3 : decode cX3_isAim 3 = .ok (.getfield 60, 3) := by decide +kernel
theorem dX3_isAim_6 : decode cX3_isAim 6 = .ok (.iconst 1, 1) := by decide +kernel
theorem dX3_isAim_7 : decode cX3_isAim 7 = .ok (.isub, 1) := by decide +kernel
theorem dX3_isAim_8 : decode cX3_isAim 8 = .ok (.invokestatic 63, 3) := by decide +kernel
theorem dX3_isAim_11 : decode cX3_isAim 11 = .ok (.ireturn, 1) := by decide +kernel
theorem dX3_size_0 : decode cX3_size 0 = .ok (.iconst 0, 1) := by decide +kernel
theorem dX3_size_1 : decode cX3_size 1 = .ok (.istore_n 1, 1) := by decide +kernel
theorem dX3_size_2 : decode cX3_size 2 = .ok (.iconst 0, 1) := by decide +kernel
theorem dX3_size_3 : decode cX3_size 3 = .ok (.istore_n 2, 1) := by decide +kernel
theorem dX3_size_4 : decode cX3_size 4 = .ok (.iload_n 2, 1) := by decide +kernel
theorem dX3_size_5 : decode cX3_size 5 = .ok (.bipush 12, 2) := by decide +kernel
theorem dX3_size_7 : decode cX3_size 7 = .ok (.if_icmp .ge 17, 3) := by decide +kernel
theorem dX3_size_10 : decode cX3_size 10 = .ok (.iload_n 1, 1) := by decide +kernel
theorem dX3_size_11 : decode cX3_size 11 = .ok (.iload_n 0, 1) := by decide +kernel
theorem dX3_size_12 : decode cX3_size 12 = .ok (.iload_n 2, 1) := by decide +kernel
theorem dX3_size_13 : decode cX3_size 13 = .ok (.ishr, 1) := by decide +kernel
theorem dX3_size_14 : decode cX3_size 14 = .ok (.iconst 1, 1) := by decide +kernel
theorem dX3_size_15 : decode cX3_size 15 = .ok (.iand, 1) := by decide +kernel
theorem dX3_size_16 : decode cX3_size 16 = .ok (.iadd, 1) := by decide +kernel
theorem dX3_size_17 : decode cX3_size 17 = .ok (.istore_n 1, 1) := by decide +kernel
theorem dX3_size_18 : decode cX3_size 18 = .ok (.iinc 2 1, 3) := by decide +kernel
theorem dX3_size_21 : decode cX3_size 21 = .ok (.goto (-17), 3) := by decide +kernel
theorem dX3_size_24 : decode cX3_size 24 = .ok (.iload_n 1, 1) := by decide +kernel
theorem dX3_size_25 : decode cX3_size 25 = .ok (.ireturn, 1) := by decide +kernel
set_option maxRecDepth 20000 in
theorem ggX3_aim_X3_isIn : GoodIn wsX3_aim wsX3_isIn := goodIn_r _ [10] (by decide +kernel) (by decide +kernel)
set_option maxRecDepth 20000 in
theorem gX3_aim_X3_isIn : GoodIn wsX3_aim (va_wsS RX3 63 yX3_isIn wsX3_isIn) := goodIn_app (goodIn_of _ (by decide +kernel)) ggX3_aim_X3_isIn
set_option maxRecDepth 20000 in
theorem ggX3_aim_X3_can : GoodIn wsX3_aim wsX3_can := goodIn_r _ [14, 15, 16, 17, 18, 19, 20, 21, 22, 23, 24, 25, 26, 27, 28, 29, 30, 31, 32, 33] (by decide +kernel) (by decide +kernel)
set_option maxRecDepth 20000 in
theorem gX3_aim_X3_can : GoodIn wsX3_aim (wsV RX3 67 RX3 yX3_can wsX3_can) := goodIn_app (goodIn_of _ (by decide +kernel)) ggX3_aim_X3_can
theorem dX3_aim_0 : decode cX3_aim 0 = .ok (.iload_n 1, 1) := by decide +kernel
theorem dX3_aim_1 : decode cX3_aim 1 = .ok (.iconst 1, 1) := by decide +kernel
theorem dX3_aim_2 : decode cX3_aim 2 = .ok (.iconst 5, 1) := by decide +kernel
theorem dX3_aim_3 : decode cX3_aim 3 = .ok (.invokestatic 63, 3) := by decide +kernel
theorem dX3_aim_6 : decode cX3_aim 6 = .ok (.ifCond .eq 36, 3) := by decide +kernel
theorem dX3_aim_9 : decode cX3_aim 9 = .ok (.iload_n 2, 1) := by decide +kernel
theorem dX3_aim_10 : decode cX3_aim 10 = .ok (.iconst 0, 1) := by decide +kernel
theorem dX3_aim_11 : decode cX3_aim 11 = .ok (.iconst 3, 1) := by decide +kernel
theorem dX3_aim_12 : decode cX3_aim 12 = .ok (.invokestatic 63, 3) := by decide +kernel
theorem dX3_aim_15 : decode cX3_aim 15 = .ok (.ifCond .eq 27, 3) := by decide +kernel
theorem dX3_aim_18 : decode cX3_aim 18 = .ok (.iload_n 3, 1) := by decide +kernel
theorem dX3_aim_19 : decode cX3_aim 19 = .ok (.iconst 1, 1) := by decide +kernel
theorem dX3_aim_20 : decode cX3_aim 20 = .ok (.bipush 99, 2) := by decide +kernel
theorem dX3_aim_22 : decode cX3_aim 22 = .ok (.invokestatic 63, 3) := by decide +kernel
theorem dX3_aim_25 : decode cX3_aim 25 = .ok (.ifCond .eq 17, 3) := by decide +kernel
theorem dX3_aim_28 : decode cX3_aim 28 = .ok (.iload 4, 2) := by decide +kernel
theorem dX3_aim_30 : decode cX3_aim 30 = .ok (.iconst (-1), 1) := by decide +kernel
theorem dX3_aim_31 : decode cX3_aim 31 = .ok (.iconst 2, 1) := by decide +kernel
theorem dX3_aim_32 : decode cX3_aim 32 = .ok (.invokestatic 63, 3) := by decide +kernel
theorem dX3_aim_35 : decode cX3_aim 35 = .ok (.ifCond .eq 7, 3) := by decide +kernel
theorem dX3_aim_38 : decode cX3_aim 38 = .ok (.iconst 1, 1) := by decide +kernel
theorem dX3_aim_39 : decode cX3_aim 39 = .ok (.goto 4, 3) := by decide +kernel
theorem dX3_aim_42 : decode cX3_aim 42 = .ok (.iconst 0, 1) := by decide +kernel
theorem dX3_aim_43 : decode cX3_aim 43 = .ok (.istore 5, 2) := by decide +kernel
theorem dX3_aim_45 : decode cX3_aim 45 = .ok (.aload_n 0, 1) := by decide +kernel
theorem dX3_aim_46 : decode cX3_aim 46 = .ok (.iload 5, 2) := by decide +kernel
theorem dX3_aim_48 : decode cX3_aim 48 = .ok (.ifCond .ne 7, 3) := by decide +kernel
theorem dX3_aim_51 : decode cX3_aim 51 = .ok (.iconst 1, 1) := by decide +kernel
theorem dX3_aim_52 : decode cX3_aim 52 = .ok (.goto 17, 3) := by decide +kernel
theorem dX3_aim_55 : decode cX3_aim 55 = .ok (.aload_n 0, 1) := by decide +kernel
theorem dX3_aim_56 : decode cX3_aim 56 = .ok (.getfield 60, 3) := by decide +kernel
theorem dX3_aim_59 : decode cX3_aim 59 = .ok (.bipush 12, 2) := by decide +kernel
theorem dX3_aim_61 : decode cX3_aim 61 = .ok (.if_icmp .ne 7, 3) := by decide +kernel
theorem dX3_aim_64 : decode cX3_aim 64 = .ok (.iconst 2, 1) := by decide +kernel
theorem dX3_aim_65 : decode cX3_aim 65 = .ok (.goto 4, 3) := by decide +kernel
theorem dX3_aim_68 : decode cX3_aim 68 = .ok (.iconst 0, 1) := by decide +kernel
theorem dX3_aim_69 : decode cX3_aim 69 = .ok (.invokevirtual 67, 3) := by decide +kernel
theorem dX3_aim_72 : decode cX3_aim 72 = .ok (.ifCond .ne 5, 3) := by decide +kernel
theorem dX3_aim_75 : decode cX3_aim 75 = .ok (.iconst 0, 1) := by decide +kernel
theorem dX3_aim_76 : decode cX3_aim 76 = .ok (.ireturn, 1) := by decide +kernel
theorem dX3_aim_77 : decode cX3_aim 77 = .ok (.aload_n 0, 1) := by decide +kernel
theorem dX3_aim_78 : decode cX3_aim 78 = .ok (.getfield 7, 3) := by decide +kernel
theorem dX3_aim_81 : decode cX3_aim 81 = .ok (.aload_n 0, 1) := by decide +kernel
theorem dX3_aim_82 : decode cX3_aim 82 = .ok (.getfield 60, 3) := by decide +kernel
theorem dX3_aim_85 : decode cX3_aim 85 = .ok (.iload_n 1, 1) := by decide +kernel
theorem dX3_aim_86 : decode cX3_aim 86 = .ok (.iastore, 1) := by decide +kernel
theorem dX3_aim_87 : decode cX3_aim 87 = .ok (.aload_n 0, 1) := by decide +kernel
theorem dX3_aim_88 : decode cX3_aim 88 = .ok (.getfield 13, 3) := by decide +kernel
theorem dX3_aim_91 : decode cX3_aim 91 = .ok (.aload_n 0, 1) := by decide +kernel
theorem dX3_aim_92 : decode cX3_aim 92 = .ok (.getfield 60, 3) := by decide +kernel
theorem dX3_aim_95 : decode cX3_aim 95 = .ok (.iload_n 2, 1) := by decide +kernel
theorem dX3_aim_96 : decode cX3_aim 96 = .ok (.iastore, 1) := by decide +kernel
theorem dX3_aim_97 : decode cX3_aim 97 = .ok (.aload_n 0, 1) := by decide +kernel
theorem dX3_aim_98 : decode cX3_aim 98 = .ok (.getfield 16, 3) := by decide +kernel
theorem dX3_aim_101 : decode cX3_aim 101 = .ok (.aload_n 0, 1) := by decide +kernel
theorem dX3_aim_102 : decode cX3_aim 102 = .ok (.getfield 60, 3) := by decide +kernel
theorem dX3_aim_105 : decode cX3_aim 105 = .ok (.iload_n 3, 1) := by decide +kernel
theorem dX3_aim_106 : decode cX3_aim 106 = .ok (.iastore, 1) := by decide +kernel
theorem dX3_aim_107 : decode cX3_aim 107 = .ok (.aload_n 0, 1) := by decide +kernel
theorem dX3_aim_108 : decode cX3_aim 108 = .ok (.getfield 19, 3) := by decide +kernel
theorem dX3_aim_111 : decode cX3_aim 111 = .ok (.aload_n 0, 1) := by decide +kernel
theorem dX3_aim_112 : decode cX3_aim 112 = .ok (.getfield 60, 3) := by decide +kernel
theorem dX3_aim_115 : decode cX3_aim 115 = .ok (.iload 4, 2) := by decide +kernel
theorem dX3_aim_117 : decode cX3_aim 117 = .ok (.iastore, 1) := by decide +kernel
theorem dX3_aim_118 : decode cX3_aim 118 = .ok (.aload_n 0, 1) := by decide +kernel
theorem dX3_aim_119 : decode cX3_aim 119 = .ok (.getfield 28, 3) := by decide +kernel
theorem dX3_aim_122 : decode cX3_aim 122 = .ok (.aload_n 0, 1) := by decide +kernel
theorem dX3_aim_123 : decode cX3_aim 123 = .ok (.getfield 60, 3) := by decide +kernel
theorem dX3_aim_126 : decode cX3_aim 126 = .ok (.iconst 1, 1) := by decide +kernel
theorem dX3_aim_127 : decode cX3_aim 127 = .ok (.iastore, 1) := by decide +kernel
theorem dX3_aim_128 : decode cX3_aim 128 = .ok (.aload_n 0, 1) := by decide +kernel
theorem dX3_aim_129 : decode cX3_aim 129 = .ok (.dup, 1) := by decide +kernel
theorem dX3_aim_130 : decode cX3_aim 130 = .ok (.getfield 60, 3) := by decide +kernel
theorem dX3_aim_133 : decode cX3_aim 133 = .ok (.iconst 1, 1) := by decide +kernel
theorem dX3_aim_134 : decode cX3_aim 134 = .ok (.iadd, 1) := by decide +kernel
theorem dX3_aim_135 : decode cX3_aim 135 = .ok (.putfield 60, 3) := by decide +kernel
theorem dX3_aim_138 : decode cX3_aim 138 = .ok (.aload_n 0, 1) := by decide +kernel
theorem dX3_aim_139 : decode cX3_aim 139 = .ok (.getfield 60, 3) := by decide +kernel
theorem dX3_aim_142 : decode cX3_aim 142 = .ok (.iconst 1, 1) := by decide +kernel
theorem dX3_aim_143 : decode cX3_aim 143 = .ok (.isub, 1) := by decide +kernel
theorem dX3_aim_144 : decode cX3_aim 144 = .ok (.ireturn, 1) := by decide +kernel
theorem dX3_reached_0 : decode cX3_reached 0 = .ok (.aload_n 0, 1) := by decide +kernel
theorem dX3_reached_1 : decode cX3_reached 1 = .ok (.getfield 22, 3) := by decide +kernel
theorem dX3_reached_4 : decode cX3_reached 4 = .ok (.iload_n 1, 1) := by decide +kernel
theorem dX3_reached_5 : decode cX3_reached 5 = .ok (.iaload, 1) := by decide +kernel
theorem dX3_reached_6 : decode cX3_reached 6 = .ok (.istore_n 2, 1) := by decide +kernel
theorem dX3_reached_7 : decode cX3_reached 7 = .ok (.iconst 0, 1) := by decide +kernel
theorem dX3_reached_8 : decode cX3_reached 8 = .ok (.istore_n 3, 1) := by decide +kernel
theorem dX3_reached_9 : decode cX3_reached 9 = .ok (.iload_n 2, 1) := by decide +kernel
theorem dX3_reached_10 : decode cX3_reached 10 = .ok (.iload_n 3, 1) := by decide +kernel
theorem dX3_reached_11 : decode cX3_reached 11 = .ok (.if_icmp .eq 50, 3) := by decide +kernel
theorem dX3_reached_14 : decode cX3_reached 14 = .ok (.iload_n 2, 1) := by decide +kernel
theorem dX3_reached_15 : decode cX3_reached 15 = .ok (.istore_n 3, 1) := by decide +kernel
theorem dX3_reached_16 : decode cX3_reached 16 = .ok (.iconst 0, 1) := by decide +kernel
theorem dX3_reached_17 : decode cX3_reached 17 = .ok (.istore 4, 2) := by decide +kernel
theorem dX3_reached_19 : decode cX3_reached 19 = .ok (.iload 4, 2) := by decide +kernel
theorem dX3_reached_21 : decode cX3_reached 21 = .ok (.aload_n 0, 1) := by decide +kernel
theorem dX3_reached_22 : decode cX3_reached 22 = .ok (.getfield 60, 3) := by decide +kernel
theorem dX3_reached_25 : decode cX3_reached 25 = .ok (.if_icmp .ge 33, 3) := by decide +kernel
theorem dX3_reached_28 : decode cX3_reached 28 = .ok (.iload_n 2, 1) := by decide +kernel
theorem dX3_reached_29 : decode cX3_reached 29 = .ok (.iload_n 3, 1) := by decide +kernel
theorem dX3_reached_30 : decode cX3_reached 30 = .ok (.iload 4, 2) := by decide +kernel
theorem dX3_reached_32 : decode cX3_reached 32 = .ok (.ishr, 1) := by decide +kernel
theorem dX3_reached_33 : decode cX3_reached 33 = .ok (.iconst 1, 1) := by decide +kernel
theorem dX3_reached_34 : decode cX3_reached 34 = .ok (.iand, 1) := by decide +kernel
theorem dX3_reached_35 : decode cX3_reached 35 = .ok (.iconst 1, 1) := by decide +kernel
theorem dX3_reached_36 : decode cX3_reached 36 = .ok (.if_icmp .ne 13, 3) := by decide +kernel
theorem dX3_reached_39 : decode cX3_reached 39 = .ok (.aload_n 0, 1) := by decide +kernel
theorem dX3_reached_40 : decode cX3_reached 40 = .ok (.getfield 22, 3) := by decide +kernel
theorem dX3_reached_43 : decode cX3_reached 43 = .ok (.iload 4, 2) := by decide +kernel
theorem dX3_reached_45 : decode cX3_reached 45 = .ok (.iaload, 1) := by decide +kernel
theorem dX3_reached_46 : decode cX3_reached 46 = .ok (.goto 4, 3) := by decide +kernel
theorem dX3_reached_49 : decode cX3_reached 49 = .ok (.iconst 0, 1) := by decide +kernel
theorem dX3_reached_50 : decode cX3_reached 50 = .ok (.ior, 1) := by decide +kernel
theorem dX3_reached_51 : decode cX3_reached 51 = .ok (.istore_n 2, 1) := by decide +kernel
theorem dX3_reached_52 : decode cX3_reached 52 = .ok (.iinc 4 1, 3) := by decide +kernel
theorem dX3_reached_55 : decode cX3_reached 55 = .ok (.goto (-36), 3) := by decide +kernel
theorem dX3_reached_58 : decode cX3_reached 58 = .ok (.goto (-49), 3) := by decide +kernel
theorem dX3_reached_61 : decode cX3_reached 61 = .ok (.iload_n 2, 1) := by decide +kernel
theorem dX3_reached_62 : decode cX3_reached 62 = .ok (.ireturn, 1) := by decide +kernel
theorem dX3_hasNeed_0 : decode cX3_hasNeed 0 = .ok (.aload_n 0, 1) := by decide +kernel
theorem dX3_hasNeed_1 : decode cX3_hasNeed 1 = .ok (.getfield 22, 3) := by decide +kernel
theorem dX3_hasNeed_4 : decode cX3_hasNeed 4 = .ok (.iload_n 1, 1) := by decide +kernel
theorem dX3_hasNeed_5 : decode cX3_hasNeed 5 = .ok (.iaload, 1) := by decide +kernel
theorem dX3_hasNeed_6 : decode cX3_hasNeed 6 = .ok (.iload_n 2, 1) := by decide +kernel
theorem dX3_hasNeed_7 : decode cX3_hasNeed 7 = .ok (.ishr, 1) := by decide +kernel
theorem dX3_hasNeed_8 : decode cX3_hasNeed 8 = .ok (.iconst 1, 1) := by decide +kernel
theorem dX3_hasNeed_9 : decode cX3_hasNeed 9 = .ok (.iand, 1) := by decide +kernel
theorem dX3_hasNeed_10 : decode cX3_hasNeed 10 = .ok (.iconst 1, 1) := by decide +kernel
theorem dX3_hasNeed_11 : decode cX3_hasNeed 11 = .ok (.if_icmp .ne 7, 3) := by decide +kernel
theorem dX3_hasNeed_14 : decode cX3_hasNeed 14 = .ok (.iconst 1, 1) := by decide +kernel
theorem dX3_hasNeed_15 : decode cX3_hasNeed 15 = .ok (.goto 4, 3) := by decide +kernel
theorem dX3_hasNeed_18 : decode cX3_hasNeed 18 = .ok (.iconst 0, 1) := by decide +kernel
theorem dX3_hasNeed_19 : decode cX3_hasNeed 19 = .ok (.ireturn, 1) := by decide +kernel
set_option maxRecDepth 20000 in
theorem ggX3_need_X3_isAim : GoodIn wsX3_need wsX3_isAim := goodIn_r _ [6, 7, 8, 9, 5, 10, 27, 28, 29, 30, 31, 32, 33, 34, 35, 36, 37, 38, 39, 40, 41, 42, 43, 44] (by decide +kernel) (by decide +kernel)
set_option maxRecDepth 20000 in
theorem gX3_need_X3_isAim : GoodIn wsX3_need (wsV RX3 71 RX3 yX3_isAim wsX3_isAim) := goodIn_app (goodIn_of _ (by decide +kernel)) ggX3_need_X3_isAim
set_option maxRecDepth 20000 in
theorem ggX3_need_X3_hasNeed : GoodIn wsX3_need wsX3_hasNeed := goodIn_r _ [14, 1, 27, 28, 29, 30, 31, 32, 33, 34, 35, 36, 37, 38, 39, 40, 41, 42, 43, 44] (by decide +kernel) (by decide +kernel)
set_option maxRecDepth 20000 in
theorem gX3_need_X3_hasNeed : GoodIn wsX3_need (wsV RX3 74 RX3 yX3_hasNeed wsX3_hasNeed) := goodIn_app (goodIn_of _ (by decide +kernel)) ggX3_need_X3_hasNeed
set_option maxRecDepth 20000 in
theorem ggX3_need_X3_reached : GoodIn wsX3_need wsX3_reached := goodIn_r _ [18, 1, 7, 27, 28, 29, 30, 31, 32, 33, 34, 35, 36, 37, 38, 39, 40, 41, 42, 43, 44] (by decide +kernel) (by decide +kernel)
set_option maxRecDepth 20000 in
theorem gX3_need_X3_reached : GoodIn wsX3_need (wsV RX3 78 RX3 yX3_reached wsX3_reached) := goodIn_app (goodIn_of _ (by decide +kernel)) ggX3_need_X3_reached
set_option maxRecDepth 20000 in
theorem ggX3_need_X3_can : GoodIn wsX3_need wsX3_can := goodIn_r _ [22, 23, 27, 28, 29, 30, 31, 32, 33, 34, 35, 36, 37, 38, 39, 40, 41, 42, 43, 44] (by decide +kernel) (by decide +kernel)
set_option maxRecDepth 20000 in
theorem gX3_need_X3_can : GoodIn wsX3_need (wsV RX3 67 RX3 yX3_can wsX3_can) := goodIn_app (goodIn_of _ (by decide +kernel)) ggX3_need_X3_can
set_option maxRecDepth 20000 in
theorem ggX3_need_X3_size : GoodIn wsX3_need wsX3_size := goodIn_r _ [26] (by decide +kernel) (by decide +kernel)
set_option maxRecDepth 20000 in
theorem gX3_need_X3_size : GoodIn wsX3_need (va_wsS RX3 82 yX3_size wsX3_size) := goodIn_app (goodIn_of _ (by decide +kernel)) ggX3_need_X3_size
theorem dX3_need_0 : decode cX3_need 0 = .ok (.aload_n 0, 1) := by decide +kernel
theorem dX3_need_1 : decode cX3_need 1 = .ok (.iload_n 1, 1) := by decide +kernel
theorem dX3_need_2 : decode cX3_need 2 = .ok (.invokevirtual 71, 3) := by decide +kernel
theorem dX3_need_5 : decode cX3_need 5 = .ok (.ifCond .eq 15, 3) := by decide +kernel
theorem dX3_need_8 : decode cX3_need 8 = .ok (.aload_n 0, 1) := by decide +kernel
theorem dX3_need_9 : decode cX3_need 9 = .ok (.iload_n 2, 1) := by decide +kernel
theorem dX3_need_10 : decode cX3_need 10 = .ok (.invokevirtual 71, 3) := by decide +kernel
theorem dX3_need_13 : decode cX3_need 13 = .ok (.ifCond .eq 7, 3) := by decide +kernel
theorem dX3_need_16 : decode cX3_need 16 = .ok (.iconst 1, 1) := by decide +kernel
theorem dX3_need_17 : decode cX3_need 17 = .ok (.goto 4, 3) := by decide +kernel
theorem dX3_need_20 : decode cX3_need 20 = .ok (.iconst 0, 1) := by decide +kernel
theorem dX3_need_21 : decode cX3_need 21 = .ok (.istore_n 3, 1) := by decide +kernel
theorem dX3_need_22 : decode cX3_need 22 = .ok (.aload_n 0, 1) := by decide +kernel
theorem dX3_need_23 : decode cX3_need 23 = .ok (.iload_n 3, 1) := by decide +kernel
theorem dX3_need_24 : decode cX3_need 24 = .ok (.ifCond .ne 7, 3) := by decide +kernel
theorem dX3_need_27 : decode cX3_need 27 = .ok (.iconst 1, 1) := by decide +kernel
theorem dX3_need_28 : decode cX3_need 28 = .ok (.goto 39, 3) := by decide +kernel
theorem dX3_need_31 : decode cX3_need 31 = .ok (.iload_n 1, 1) := by decide +kernel
theorem dX3_need_32 : decode cX3_need 32 = .ok (.iload_n 2, 1) := by decide +kernel
theorem dX3_need_33 : decode cX3_need 33 = .ok (.if_icmp .ne 7, 3) := by decide +kernel
theorem dX3_need_36 : decode cX3_need 36 = .ok (.iconst 2, 1) := by decide +kernel
theorem dX3_need_37 : decode cX3_need 37 = .ok (.goto 30, 3) := by decide +kernel
theorem dX3_need_40 : decode cX3_need 40 = .ok (.aload_n 0, 1) := by decide +kernel
theorem dX3_need_41 : decode cX3_need 41 = .ok (.iload_n 1, 1) := by decide +kernel
theorem dX3_need_42 : decode cX3_need 42 = .ok (.iload_n 2, 1) := by decide +kernel
theorem dX3_need_43 : decode cX3_need 43 = .ok (.invokevirtual 74, 3) := by decide +kernel
theorem dX3_need_46 : decode cX3_need 46 = .ok (.ifCond .ne 16, 3) := by decide +kernel
theorem dX3_need_49 : decode cX3_need 49 = .ok (.aload_n 0, 1) := by decide +kernel
theorem dX3_need_50 : decode cX3_need 50 = .ok (.iload_n 2, 1) := by decide +kernel
theorem dX3_need_51 : decode cX3_need 51 = .ok (.invokevirtual 78, 3) := by decide +kernel
theorem dX3_need_54 : decode cX3_need 54 = .ok (.iload_n 1, 1) := by decide +kernel
theorem dX3_need_55 : decode cX3_need 55 = .ok (.ishr, 1) := by decide +kernel
theorem dX3_need_56 : decode cX3_need 56 = .ok (.iconst 1, 1) := by decide +kernel
theorem dX3_need_57 : decode cX3_need 57 = .ok (.iand, 1) := by decide +kernel
theorem dX3_need_58 : decode cX3_need 58 = .ok (.iconst 1, 1) := by decide +kernel
theorem dX3_need_59 : decode cX3_need 59 = .ok (.if_icmp .ne 7, 3) := by decide +kernel
theorem dX3_need_62 : decode cX3_need 62 = .ok (.iconst 3, 1) := by decide +kernel
theorem dX3_need_63 : decode cX3_need 63 = .ok (.goto 4, 3) := by decide +kernel
theorem dX3_need_66 : decode cX3_need 66 = .ok (.iconst 0, 1) := by decide +kernel
theorem dX3_need_67 : decode cX3_need 67 = .ok (.invokevirtual 67, 3) := by decide +kernel
theorem dX3_need_70 : decode cX3_need 70 = .ok (.ifCond .ne 5, 3) := by decide +kernel
theorem dX3_need_73 : decode cX3_need 73 = .ok (.iconst 0, 1) := by decide +kernel
theorem dX3_need_74 : decode cX3_need 74 = .ok (.ireturn, 1) := by decide +kernel
theorem dX3_need_75 : decode cX3_need 75 = .ok (.aload_n 0, 1) := by decide +kernel
theorem dX3_need_76 : decode cX3_need 76 = .ok (.getfield 22, 3) := by decide +kernel
theorem dX3_need_79 : decode cX3_need 79 = .ok (.iload_n 1, 1) := by decide +kernel
theorem dX3_need_80 : decode cX3_need 80 = .ok (.dup2, 1) := by decide +kernel
theorem dX3_need_81 : decode cX3_need 81 = .ok (.iaload, 1) := by decide +kernel
theorem dX3_need_82 : decode cX3_need 82 = .ok (.iconst 1, 1) := by decide +kernel
theorem dX3_need_83 : decode cX3_need 83 = .ok (.iload_n 2, 1) := by decide +kernel
theorem dX3_need_84 : decode cX3_need 84 = .ok (.ishl, 1) := by decide +kernel
theorem dX3_need_85 : decode cX3_need 85 = .ok (.ior, 1) := by decide +kernel
theorem dX3_need_86 : decode cX3_need 86 = .ok (.iastore, 1) := by decide +kernel
theorem dX3_need_87 : decode cX3_need 87 = .ok (.aload_n 0, 1) := by decide +kernel
theorem dX3_need_88 : decode cX3_need 88 = .ok (.getfield 22, 3) := by decide +kernel
theorem dX3_need_91 : decode cX3_need 91 = .ok (.iload_n 1, 1) := by decide +kernel
theorem dX3_need_92 : decode cX3_need 92 = .ok (.iaload, 1) := by decide +kernel
theorem dX3_need_93 : decode cX3_need 93 = .ok (.invokestatic 82, 3) := by decide +kernel
theorem dX3_need_96 : decode cX3_need 96 = .ok (.ireturn, 1) := by decide +kernel
set_option maxRecDepth 20000 in
theorem ggX3_free_X3_isAim : GoodIn wsX3_free wsX3_isAim := goodIn_r _ [6, 7, 8, 9, 5, 10, 23, 24, 25, 26, 27, 28, 29, 30, 31, 32, 33, 34, 35, 36, 37, 38, 39, 40] (by decide +kernel) (by decide +kernel)
set_option maxRecDepth 20000 in
theorem gX3_free_X3_isAim : GoodIn wsX3_free (wsV RX3 71 RX3 yX3_isAim wsX3_isAim) := goodIn_app (goodIn_of _ (by decide +kernel)) ggX3_free_X3_isAim
set_option maxRecDepth 20000 in
theorem ggX3_free_X3_hasNeed : GoodIn wsX3_free wsX3_hasNeed := goodIn_r _ [14, 1, 23, 24, 25, 26, 27, 28, 29, 30, 31, 32, 33, 34, 35, 36, 37, 38, 39, 40] (by decide +kernel) (by decide +kernel)
set_option maxRecDepth 20000 in
theorem gX3_free_X3_hasNeed : GoodIn wsX3_free (wsV RX3 74 RX3 yX3_hasNeed wsX3_hasNeed) := goodIn_app (goodIn_of _ (by decide +kernel)) ggX3_free_X3_hasNeed
set_option maxRecDepth 20000 in
theorem ggX3_free_X3_can : GoodIn wsX3_free wsX3_can := goodIn_r _ [18, 19, 23, 24, 25, 26, 27, 28, 29, 30, 31, 32, 33, 34, 35, 36, 37, 38, 39, 40] (by decide +kernel) (by decide +kernel)
set_option maxRecDepth 20000 in
theorem gX3_free_X3_can : GoodIn wsX3_free (wsV RX3 67 RX3 yX3_can wsX3_can) := goodIn_app (goodIn_of _ (by decide +kernel)) ggX3_free_X3_can
set_option maxRecDepth 20000 in
theorem ggX3_free_X3_size : GoodIn wsX3_free wsX3_size := goodIn_r _ [22] (by decide +kernel) (by decide +kernel)
set_option maxRecDepth 20000 in
theorem gX3_free_X3_size : GoodIn wsX3_free (va_wsS RX3 82 yX3_size wsX3_size) := goodIn_app (goodIn_of _ (by decide +kernel)) ggX3_free_X3_size
theorem dX3_free_0 : decode cX3_free 0 = .ok (.aload_n 0, 1) := by decide +kernel
theorem dX3_free_1 : decode cX3_free 1 = .ok (.aload_n 0, 1) := by decide +kernel
theorem dX3_free_2 : decode cX3_free 2 = .ok (.iload_n 1, 1) := by decide +kernel
theorem dX3_free_3 : decode cX3_free 3 = .ok (.invokevirtual 71, 3) := by decide +kernel
theorem dX3_free_6 : decode cX3_free 6 = .ok (.ifCond .eq 11, 3) := by decide +kernel
theorem dX3_free_9 : decode cX3_free 9 = .ok (.aload_n 0, 1) := by decide +kernel
theorem dX3_free_10 : decode cX3_free 10 = .ok (.iload_n 2, 1) := by decide +kernel
theorem dX3_free_11 : decode cX3_free 11 = .ok (.invokevirtual 71, 3) := by decide +kernel
theorem dX3_free_14 : decode cX3_free 14 = .ok (.ifCond .ne 7, 3) := by decide +kernel
theorem dX3_free_17 : decode cX3_free 17 = .ok (.iconst 1, 1) := by decide +kernel
theorem dX3_free_18 : decode cX3_free 18 = .ok (.goto 17, 3) := by decide +kernel
theorem dX3_free_21 : decode cX3_free 21 = .ok (.aload_n 0, 1) := by decide +kernel
theorem dX3_free_22 : decode cX3_free 22 = .ok (.iload_n 1, 1) := by decide +kernel
theorem dX3_free_23 : decode cX3_free 23 = .ok (.iload_n 2, 1) := by decide +kernel
theorem dX3_free_24 : decode cX3_free 24 = .ok (.invokevirtual 74, 3) := by decide +kernel
theorem dX3_free_27 : decode cX3_free 27 = .ok (.ifCond .eq 7, 3) := by decide +kernel
theorem dX3_free_30 : decode cX3_free 30 = .ok (.iconst 0, 1) := by decide +kernel
theorem dX3_free_31 : decode cX3_free 31 = .ok (.goto 4, 3) := by decide +kernel
theorem dX3_free_34 : decode cX3_free 34 = .ok (.iconst 2, 1) := by decide +kernel
theorem dX3_free_35 : decode cX3_free 35 = .ok (.invokevirtual 67, 3) := by decide +kernel
theorem dX3_free_38 : decode cX3_free 38 = .ok (.ifCond .ne 5, 3) := by decide +kernel
theorem dX3_free_41 : decode cX3_free 41 = .ok (.iconst 0, 1) := by decide +kernel
theorem dX3_free_42 : decode cX3_free 42 = .ok (.ireturn, 1) := by decide +kernel
theorem dX3_free_43 : decode cX3_free 43 = .ok (.aload_n 0, 1) := by decide +kernel
theorem dX3_free_44 : decode cX3_free 44 = .ok (.getfield 22, 3) := by decide +kernel
theorem dX3_free_47 : decode cX3_free 47 = .ok (.iload_n 1, 1) := by decide +kernel
theorem dX3_free_48 : decode cX3_free 48 = .ok (.dup2, 1) := by decide +kernel
theorem dX3_free_49 : decode cX3_free 49 = .ok (.iaload, 1) := by decide +kernel
theorem dX3_free_50 : decode cX3_free 50 = .ok (.iconst 1, 1) := by decide +kernel
theorem dX3_free_51 : decode cX3_free 51 = .ok (.iload_n 2, 1) := by decide +kernel
theorem dX3_free_52 : decode cX3_free 52 = .ok (.ishl, 1) := by decide +kernel
theorem dX3_free_53 : decode cX3_free 53 = .ok (.iconst (-1), 1) := by decide +kernel
theorem dX3_free_54 : decode cX3_free 54 = .ok (.ixor, 1) := by decide +kernel
theorem dX3_free_55 : decode cX3_free 55 = .ok (.iand, 1) := by decide +kernel
theorem dX3_free_56 : decode cX3_free 56 = .ok (.iastore, 1) := by decide +kernel
theorem dX3_free_57 : decode cX3_free 57 = .ok (.aload_n 0, 1) := by decide +kernel
theorem dX3_free_58 : decode cX3_free 58 = .ok (.getfield 22, 3) := by decide +kernel
theorem dX3_free_61 : decode cX3_free 61 = .ok (.iload_n 1, 1) := by decide +kernel
theorem dX3_free_62 : decode cX3_free 62 = .ok (.iaload, 1) := by decide +kernel
theorem dX3_free_63 : decode cX3_free 63 = .ok (.invokestatic 82, 3) := by decide +kernel
theorem dX3_free_66 : decode cX3_free 66 = .ok (.ireturn, 1) := by decide +kernel
set_option maxRecDepth 20000 in
theorem ggX3_revisits_X3_isAim : GoodIn wsX3_revisits wsX3_isAim := goodIn_r _ [7, 8, 9, 10, 6, 11, 17, 18, 19, 20, 21, 22, 23, 24, 25, 26, 27, 28, 29, 30, 31, 32, 33, 34] (by decide +kernel) (by decide +kernel)
set_option maxRecDepth 20000 in
theorem gX3_revisits_X3_isAim : GoodIn wsX3_revisits (wsV RX3 71 RX3 yX3_isAim wsX3_isAim) := goodIn_app (goodIn_of _ (by decide +kernel)) ggX3_revisits_X3_isAim
set_option maxRecDepth 20000 in
theorem ggX3_revisits_X3_isIn : GoodIn wsX3_revisits wsX3_isIn := goodIn_r _ [11] (by decide +kernel) (by decide +kernel)
set_option maxRecDepth 20000 in
theorem gX3_revisits_X3_isIn : GoodIn wsX3_revisits (va_wsS RX3 63 yX3_isIn wsX3_isIn) := goodIn_app (goodIn_of _ (by decide +kernel)) ggX3_revisits_X3_isIn
set_option maxRecDepth 20000 in
theorem ggX3_revisits_X3_can : GoodIn wsX3_revisits wsX3_can := goodIn_r _ [15, 16, 17, 18, 19, 20, 21, 22, 23, 24, 25, 26, 27, 28, 29, 30, 31, 32, 33, 34] (by decide +kernel) (by decide +kernel)
set_option maxRecDepth 20000 in
theorem gX3_revisits_X3_can : GoodIn wsX3_revisits (wsV RX3 67 RX3 yX3_can wsX3_can) := goodIn_app (goodIn_of _ (by decide +kernel)) ggX3_revisits_X3_can
theorem dX3_revisits_0 : decode cX3_revisits 0 = .ok (.aload_n 0, 1) := by decide +kernel
theorem dX3_revisits_1 : decode cX3_revisits 1 = .ok (.aload_n 0, 1) := by decide +kernel
theorem dX3_revisits_2 : decode cX3_revisits 2 = .ok (.iload_n 1, 1) := by decide +kernel
theorem dX3_revisits_3 : decode cX3_revisits 3 = .ok (.invokevirtual 71, 3) := by decide +kernel
theorem dX3_revisits_6 : decode cX3_revisits 6 = .ok (.ifCond .ne 7, 3) := by decide +kernel
theorem dX3_revisits_9 : decode cX3_revisits 9 = .ok (.iconst 1, 1) := by decide +kernel
theorem dX3_revisits_10 : decode cX3_revisits 10 = .ok (.goto 27, 3) := by decide +kernel
theorem dX3_revisits_13 : decode cX3_revisits 13 = .ok (.iload_n 2, 1) := by decide +kernel
theorem dX3_revisits_14 : decode cX3_revisits 14 = .ok (.iconst 0, 1) := by decide +kernel
theorem dX3_revisits_15 : decode cX3_revisits 15 = .ok (.iconst 3, 1) := by decide +kernel
theorem dX3_revisits_16 : decode cX3_revisits 16 = .ok (.invokestatic 63, 3) := by decide +kernel
theorem dX3_revisits_19 : decode cX3_revisits 19 = .ok (.ifCond .eq 17, 3) := by decide +kernel
theorem dX3_revisits_22 : decode cX3_revisits 22 = .ok (.iload_n 3, 1) := by decide +kernel
theorem dX3_revisits_23 : decode cX3_revisits 23 = .ok (.iconst 1, 1) := by decide +kernel
theorem dX3_revisits_24 : decode cX3_revisits 24 = .ok (.bipush 20, 2) := by decide +kernel
theorem dX3_revisits_26 : decode cX3_revisits 26 = .ok (.invokestatic 63, 3) := by decide +kernel
theorem dX3_revisits_29 : decode cX3_revisits 29 = .ok (.ifCond .eq 7, 3) := by decide +kernel
theorem dX3_revisits_32 : decode cX3_revisits 32 = .ok (.iconst 0, 1) := by decide +kernel
theorem dX3_revisits_33 : decode cX3_revisits 33 = .ok (.goto 4, 3) := by decide +kernel
theorem dX3_revisits_36 : decode cX3_revisits 36 = .ok (.iconst 2, 1) := by decide +kernel
theorem dX3_revisits_37 : decode cX3_revisits 37 = .ok (.invokevirtual 67, 3) := by decide +kernel
theorem dX3_revisits_40 : decode cX3_revisits 40 = .ok (.ifCond .ne 5, 3) := by decide +kernel
theorem dX3_revisits_43 : decode cX3_revisits 43 = .ok (.iconst 0, 1) := by decide +kernel
theorem dX3_revisits_44 : decode cX3_revisits 44 = .ok (.ireturn, 1) := by decide +kernel
theorem dX3_revisits_45 : decode cX3_revisits 45 = .ok (.aload_n 0, 1) := by decide +kernel
theorem dX3_revisits_46 : decode cX3_revisits 46 = .ok (.getfield 25, 3) := by decide +kernel
theorem dX3_revisits_49 : decode cX3_revisits 49 = .ok (.iload_n 1, 1) := by decide +kernel
theorem dX3_revisits_50 : decode cX3_revisits 50 = .ok (.iaload, 1) := by decide +kernel
theorem dX3_revisits_51 : decode cX3_revisits 51 = .ok (.istore 4, 2) := by decide +kernel
theorem dX3_revisits_53 : decode cX3_revisits 53 = .ok (.aload_n 0, 1) := by decide +kernel
theorem dX3_revisits_54 : decode cX3_revisits 54 = .ok (.getfield 25, 3) := by decide +kernel
theorem dX3_revisits_57 : decode cX3_revisits 57 = .ok (.iload_n 1, 1) := by decide +kernel
theorem dX3_revisits_58 : decode cX3_revisits 58 = .ok (.iload_n 2, 1) := by decide +kernel
theorem dX3_revisits_59 : decode cX3_revisits 59 = .ok (.iastore, 1) := by decide +kernel
theorem dX3_revisits_60 : decode cX3_revisits 60 = .ok (.aload_n 0, 1) := by decide +kernel
theorem dX3_revisits_61 : decode cX3_revisits 61 = .ok (.getfield 28, 3) := by decide +kernel
theorem dX3_revisits_64 : decode cX3_revisits 64 = .ok (.iload_n 1, 1) := by decide +kernel
theorem dX3_revisits_65 : decode cX3_revisits 65 = .ok (.iload_n 3, 1) := by decide +kernel
theorem dX3_revisits_66 : decode cX3_revisits 66 = .ok (.iastore, 1) := by decide +kernel
theorem dX3_revisits_67 : decode cX3_revisits 67 = .ok (.iload 4, 2) := by decide +kernel
theorem dX3_revisits_69 : decode cX3_revisits 69 = .ok (.ireturn, 1) := by decide +kernel
theorem dX3_aims_0 : decode cX3_aims 0 = .ok (.aload_n 0, 1) := by decide +kernel
theorem dX3_aims_1 : decode cX3_aims 1 = .ok (.iconst 0, 1) := by decide +kernel
theorem dX3_aims_2 : decode cX3_aims 2 = .ok (.putfield 56, 3) := by decide +kernel
theorem dX3_aims_5 : decode cX3_aims 5 = .ok (.aload_n 0, 1) := by decide +kernel
theorem dX3_aims_6 : decode cX3_aims 6 = .ok (.getfield 60, 3) := by decide +kernel
theorem dX3_aims_9 : decode cX3_aims 9 = .ok (.ireturn, 1) := by decide +kernel
set_option maxRecDepth 20000 in
theorem ggX3_allNeeds_X3_isAim : GoodIn wsX3_allNeeds wsX3_isAim := goodIn_r _ [5, 6, 7, 8, 4, 9, 20, 21, 22, 23, 24, 25, 26, 27, 28, 29, 30, 31, 32, 33, 34, 35, 36, 37] (by decide +kernel) (by decide +kernel)
set_option maxRecDepth 20000 in
theorem gX3_allNeeds_X3_isAim : GoodIn wsX3_allNeeds (wsV RX3 71 RX3 yX3_isAim wsX3_isAim) := goodIn_app (goodIn_of _ (by decide +kernel)) ggX3_allNeeds_X3_isAim
set_option maxRecDepth 20000 in
theorem ggX3_allNeeds_X3_can : GoodIn wsX3_allNeeds wsX3_can := goodIn_r _ [13, 14, 20, 21, 22, 23, 24, 25, 26, 27, 28, 29, 30, 31, 32, 33, 34, 35, 36, 37] (by decide +kernel) (by decide +kernel)
set_option maxRecDepth 20000 in
theorem gX3_allNeeds_X3_can : GoodIn wsX3_allNeeds (wsV RX3 67 RX3 yX3_can wsX3_can) := goodIn_app (goodIn_of _ (by decide +kernel)) ggX3_allNeeds_X3_can
set_option maxRecDepth 20000 in
theorem ggX3_allNeeds_X3_reached : GoodIn wsX3_allNeeds wsX3_reached := goodIn_r _ [18, 19, 6, 20, 21, 22, 23, 24, 25, 26, 27, 28, 29, 30, 31, 32, 33, 34, 35, 36, 37] (by decide +kernel) (by decide +kernel)
set_option maxRecDepth 20000 in
theorem gX3_allNeeds_X3_reached : GoodIn wsX3_allNeeds (wsV RX3 78 RX3 yX3_reached wsX3_reached) := goodIn_app (goodIn_of _ (by decide +kernel)) ggX3_allNeeds_X3_reached
theorem dX3_allNeeds_0 : decode cX3_allNeeds 0 = .ok (.aload_n 0, 1) := by decide +kernel
theorem dX3_allNeeds_1 : decode cX3_allNeeds 1 = .ok (.aload_n 0, 1) := by decide +kernel
theorem dX3_allNeeds_2 : decode cX3_allNeeds 2 = .ok (.iload_n 1, 1) := by decide +kernel
theorem dX3_allNeeds_3 : decode cX3_allNeeds 3 = .ok (.invokevirtual 71, 3) := by decide +kernel
theorem dX3_allNeeds_6 : decode cX3_allNeeds 6 = .ok (.ifCond .eq 7, 3) := by decide +kernel
theorem dX3_allNeeds_9 : decode cX3_allNeeds 9 = .ok (.iconst 0, 1) := by decide +kernel
theorem dX3_allNeeds_10 : decode cX3_allNeeds 10 = .ok (.goto 4, 3) := by decide +kernel
theorem dX3_allNeeds_13 : decode cX3_allNeeds 13 = .ok (.iconst 1, 1) := by decide +kernel
theorem dX3_allNeeds_14 : decode cX3_allNeeds 14 = .ok (.invokevirtual 67, 3) := by decide +kernel
theorem dX3_allNeeds_17 : decode cX3_allNeeds 17 = .ok (.ifCond .eq 11, 3) := by decide +kernel
theorem dX3_allNeeds_20 : decode cX3_allNeeds 20 = .ok (.aload_n 0, 1) := by decide +kernel
theorem dX3_allNeeds_21 : decode cX3_allNeeds 21 = .ok (.iload_n 1, 1) := by decide +kernel
theorem dX3_allNeeds_22 : decode cX3_allNeeds 22 = .ok (.invokevirtual 78, 3) := by decide +kernel
theorem dX3_allNeeds_25 : decode cX3_allNeeds 25 = .ok (.goto 4, 3) := by decide +kernel
theorem dX3_allNeeds_28 : decode cX3_allNeeds 28 = .ok (.iconst 0, 1) := by decide +kernel
theorem dX3_allNeeds_29 : decode cX3_allNeeds 29 = .ok (.ireturn, 1) := by decide +kernel
theorem dX3_orders_0 : decode cX3_orders 0 = .ok (.iconst 0, 1) := by decide +kernel
theorem dX3_orders_1 : decode cX3_orders 1 = .ok (.istore_n 1, 1) := by decide +kernel
theorem dX3_orders_2 : decode cX3_orders 2 = .ok (.iconst 0, 1) := by decide +kernel
theorem dX3_orders_3 : decode cX3_orders 3 = .ok (.istore_n 2, 1) := by decide +kernel
theorem dX3_orders_4 : decode cX3_orders 4 = .ok (.iload_n 2, 1) := by decide +kernel
theorem dX3_orders_5 : decode cX3_orders 5 = .ok (.aload_n 0, 1) := by decide +kernel
theorem dX3_orders_6 : decode cX3_orders 6 = .ok (.getfield 60, 3) := by decide +kernel
theorem dX3_orders_9 : decode cX3_orders 9 = .ok (.if_icmp .ge 167, 3) := by decide +kernel
theorem dX3_orders_12 : decode cX3_orders 12 = .ok (.iconst (-1), 1) := by decide +kernel
theorem dX3_orders_13 : decode cX3_orders 13 = .ok (.istore_n 3, 1) := by decide +kernel
theorem dX3_orders_14 : decode cX3_orders 14 = .ok (.aload_n 0, 1) := by decide +kernel
theorem dX3_orders_15 : decode cX3_orders 15 = .ok (.getfield 60, 3) := by decide +kernel
theorem dX3_orders_18 : decode cX3_orders 18 = .ok (.iconst 1, 1) := by decide +kernel
theorem dX3_orders_19 : decode cX3_orders 19 = .ok (.isub, 1) := by decide +kernel
theorem dX3_orders_20 : decode cX3_orders 20 = .ok (.istore 4, 2) := by decide +kernel
theorem dX3_orders_22 : decode cX3_orders 22 = .ok (.iload 4, 2) := by decide +kernel
theorem dX3_orders_24 : decode cX3_orders 24 = .ok (.ifCond .lt 133, 3) := by decide +kernel
theorem dX3_orders_27 : decode cX3_orders 27 = .ok (.iload_n 1, 1) := by decide +kernel
theorem dX3_orders_28 : decode cX3_orders 28 = .ok (.iload 4, 2) := by decide +kernel
theorem dX3_orders_30 : decode cX3_orders 30 = .ok (.ishr, 1) := by decide +kernel
theorem dX3_orders_31 : decode cX3_orders 31 = .ok (.iconst 1, 1) := by decide +kernel
theorem dX3_orders_32 : decode cX3_orders 32 = .ok (.iand, 1) := by decide +kernel
theorem dX3_orders_33 : decode cX3_orders 33 = .ok (.ifCond .ne 21, 3) := by decide +kernel
theorem dX3_orders_36 : decode cX3_orders 36 = .ok (.aload_n 0, 1) := by decide +kernel
theorem dX3_orders_37 : decode cX3_orders 37 = .ok (.getfield 22, 3) := by decide +kernel
theorem dX3_orders_40 : decode cX3_orders 40 = .ok (.iload 4, 2) := by decide +kernel
theorem dX3_orders_42 : decode cX3_orders 42 = .ok (.iaload, 1) := by decide +kernel
theorem dX3_orders_43 : decode cX3_orders 43 = .ok (.iload_n 1, 1) := by decide +kernel
theorem dX3_orders_44 : decode cX3_orders 44 = .ok (.iconst (-1), 1) := by decide +kernel
theorem dX3_orders_45 : decode cX3_orders 45 = .ok (.ixor, 1) := by decide +kernel
theorem dX3_orders_46 : decode cX3_orders 46 = .ok (.iand, 1) := by decide +kernel
theorem dX3_orders_47 : decode cX3_orders 47 = .ok (.ifCond .ne 7, 3) := by decide +kernel
theorem dX3_orders_50 : decode cX3_orders 50 = .ok (.iconst 1, 1) := by decide +kernel
theorem dX3_orders_51 : decode cX3_orders 51 = .ok (.goto 4, 3) := by decide +kernel
theorem dX3_orders_54 : decode cX3_orders 54 = .ok (.iconst 0, 1) := by decide +kernel
theorem dX3_orders_55 : decode cX3_orders 55 = .ok (.istore 5, 2) := by decide +kernel
theorem dX3_orders_57 : decode cX3_orders 57 = .ok (.iload_n 2, 1) := by decide +kernel
theorem dX3_orders_58 : decode cX3_orders 58 = .ok (.ifCond .le 30, 3) := by decide +kernel
theorem dX3_orders_61 : decode cX3_orders 61 = .ok (.aload_n 0, 1) := by decide +kernel
theorem dX3_orders_62 : decode cX3_orders 62 = .ok (.getfield 13, 3) := by decide +kernel
theorem dX3_orders_65 : decode cX3_orders 65 = .ok (.iload 4, 2) := by decide +kernel
theorem dX3_orders_67 : decode cX3_orders 67 = .ok (.iaload, 1) := by decide +kernel
theorem dX3_orders_68 : decode cX3_orders 68 = .ok (.aload_n 0, 1) := by decide +kernel
theorem dX3_orders_69 : decode cX3_orders 69 = .ok (.getfield 13, 3) := by decide +kernel
theorem dX3_orders_72 : decode cX3_orders 72 = .ok (.aload_n 0, 1) := by decide +kernel
theorem dX3_orders_73 : decode cX3_orders 73 = .ok (.getfield 35, 3) := by decide +kernel
theorem dX3_orders_76 : decode cX3_orders 76 = .ok (.iload_n 2, 1) := by decide +kernel
theorem dX3_orders_77 : decode cX3_orders 77 = .ok (.iconst 1, 1) := by decide +kernel
theorem dX3_orders_78 : decode cX3_orders 78 = .ok (.isub, 1) := by decide +kernel
theorem dX3_orders_79 : decode cX3_orders 79 = .ok (.iaload, 1) := by decide +kernel
theorem dX3_orders_80 : decode cX3_orders 80 = .ok (.iaload, 1) := by decide +kernel
theorem dX3_orders_81 : decode cX3_orders 81 = .ok (.if_icmp .ne 7, 3) := by decide +kernel
theorem dX3_orders_84 : decode cX3_orders 84 = .ok (.iconst 1, 1) := by decide +kernel
theorem dX3_orders_85 : decode cX3_orders 85 = .ok (.goto 4, 3) := by decide +kernel
theorem dX3_orders_88 : decode cX3_orders 88 = .ok (.iconst 0, 1) := by decide +kernel
theorem dX3_orders_89 : decode cX3_orders 89 = .ok (.istore 6, 2) := by decide +kernel
theorem dX3_orders_91 : decode cX3_orders 91 = .ok (.iload_n 3, 1) := by decide +kernel
theorem dX3_orders_92 : decode cX3_orders 92 = .ok (.iconst (-1), 1) := by decide +kernel
theorem dX3_orders_93 : decode cX3_orders 93 = .ok (.if_icmp .eq 33, 3) := by decide +kernel
theorem dX3_orders_96 : decode cX3_orders 96 = .ok (.iload_n 2, 1) := by decide +kernel
theorem dX3_orders_97 : decode cX3_orders 97 = .ok (.ifCond .le 29, 3) := by decide +kernel
theorem dX3_orders_100 : decode cX3_orders 100 = .ok (.aload_n 0, 1) := by decide +kernel
theorem dX3_orders_101 : decode cX3_orders 101 = .ok (.getfield 13, 3) := by decide +kernel
theorem dX3_orders_104 : decode cX3_orders 104 = .ok (.iload_n 3, 1) := by decide +kernel
theorem dX3_orders_105 : decode cX3_orders 105 = .ok (.iaload, 1) := by decide +kernel
theorem dX3_orders_106 : decode cX3_orders 106 = .ok (.aload_n 0, 1) := by decide +kernel
theorem dX3_orders_107 : decode cX3_orders 107 = .ok (.getfield 13, 3) := by decide +kernel
theorem dX3_orders_110 : decode cX3_orders 110 = .ok (.aload_n 0, 1) := by decide +kernel
theorem dX3_orders_111 : decode cX3_orders 111 = .ok (.getfield 35, 3) := by decide +kernel
theorem dX3_orders_114 : decode cX3_orders 114 = .ok (.iload_n 2, 1) := by decide +kernel
theorem dX3_orders_115 : decode cX3_orders 115 = .ok (.iconst 1, 1) := by decide +kernel
theorem dX3_orders_116 : decode cX3_orders 116 = .ok (.isub, 1) := by decide +kernel
theorem dX3_orders_117 : decode cX3_orders 117 = .ok (.iaload, 1) := by decide +kernel
theorem dX3_orders_118 : decode cX3_orders 118 = .ok (.iaload, 1) := by decide +kernel
theorem dX3_orders_119 : decode cX3_orders 119 = .ok (.if_icmp .ne 7, 3) := by decide +kernel
theorem dX3_orders_122 : decode cX3_orders 122 = .ok (.iconst 1, 1) := by decide +kernel
theorem dX3_orders_123 : decode cX3_orders 123 = .ok (.goto 4, 3) := by decide +kernel
theorem dX3_orders_126 : decode cX3_orders 126 = .ok (.iconst 0, 1) := by decide +kernel
theorem dX3_orders_127 : decode cX3_orders 127 = .ok (.istore 7, 2) := by decide +kernel
theorem dX3_orders_129 : decode cX3_orders 129 = .ok (.iload 5, 2) := by decide +kernel
theorem dX3_orders_131 : decode cX3_orders 131 = .ok (.ifCond .eq 18, 3) := by decide +kernel
theorem dX3_orders_134 : decode cX3_orders 134 = .ok (.iload 6, 2) := by decide +kernel
theorem dX3_orders_136 : decode cX3_orders 136 = .ok (.ifCond .ne 8, 3) := by decide +kernel
theorem dX3_orders_139 : decode cX3_orders 139 = .ok (.iload 7, 2) := by decide +kernel
theorem dX3_orders_141 : decode cX3_orders 141 = .ok (.ifCond .ne 8, 3) := by decide +kernel
theorem dX3_orders_144 : decode cX3_orders 144 = .ok (.iload 4, 2) := by decide +kernel
theorem dX3_orders_146 : decode cX3_orders 146 = .ok (.goto 4, 3) := by decide +kernel
theorem dX3_orders_149 : decode cX3_orders 149 = .ok (.iload_n 3, 1) := by decide +kernel
theorem dX3_orders_150 : decode cX3_orders 150 = .ok (.istore_n 3, 1) := by decide +kernel
theorem dX3_orders_151 : decode cX3_orders 151 = .ok (.iinc 4 (-1), 3) := by decide +kernel
theorem dX3_orders_154 : decode cX3_orders 154 = .ok (.goto (-132), 3) := by decide +kernel
theorem dX3_orders_157 : decode cX3_orders 157 = .ok (.aload_n 0, 1) := by decide +kernel
theorem dX3_orders_158 : decode cX3_orders 158 = .ok (.getfield 35, 3) := by decide +kernel
theorem dX3_orders_161 : decode cX3_orders 161 = .ok (.iload_n 2, 1) := by decide +kernel
theorem dX3_orders_162 : decode cX3_orders 162 = .ok (.iload_n 3, 1) := by decide +kernel
theorem dX3_orders_163 : decode cX3_orders 163 = .ok (.iastore, 1) := by decide +kernel
theorem dX3_orders_164 : decode cX3_orders 164 = .ok (.iload_n 1, 1) := by decide +kernel
theorem dX3_orders_165 : decode cX3_orders 165 = .ok (.iconst 1, 1) := by decide +kernel
theorem dX3_orders_166 : decode cX3_orders 166 = .ok (.iload_n 3, 1) := by decide +kernel
theorem dX3_orders_167 : decode cX3_orders 167 = .ok (.ishl, 1) := by decide +kernel
theorem dX3_orders_168 : decode cX3_orders 168 = .ok (.ior, 1) := by decide +kernel
theorem dX3_orders_169 : decode cX3_orders 169 = .ok (.istore_n 1, 1) := by decide +kernel
theorem dX3_orders_170 : decode cX3_orders 170 = .ok (.iinc 2 1, 3) := by decide +kernel
theorem dX3_orders_173 : decode cX3_orders 173 = .ok (.goto (-169), 3) := by decide +kernel
theorem dX3_orders_176 : decode cX3_orders 176 = .ok (.return_, 1) := by decide +kernel
set_option maxRecDepth 20000 in
theorem ggX3_ordered_X3_isIn : GoodIn wsX3_ordered wsX3_isIn := goodIn_r _ [6] (by decide +kernel) (by decide +kernel)
set_option maxRecDepth 20000 in
theorem gX3_ordered_X3_isIn : GoodIn wsX3_ordered (va_wsS RX3 63 yX3_isIn wsX3_isIn) := goodIn_app (goodIn_of _ (by decide +kernel)) ggX3_ordered_X3_isIn
set_option maxRecDepth 20000 in
theorem ggX3_ordered_X3_can : GoodIn wsX3_ordered wsX3_can := goodIn_r _ [10, 11, 18, 19, 20, 21, 22, 23, 24, 25, 26, 27, 28, 29, 30, 31, 32, 33, 34, 35] (by decide +kernel) (by decide +kernel)
set_option maxRecDepth 20000 in
theorem gX3_ordered_X3_can : GoodIn wsX3_ordered (wsV RX3 67 RX3 yX3_can wsX3_can) := goodIn_app (goodIn_of _ (by decide +kernel)) ggX3_ordered_X3_can
set_option maxRecDepth 20000 in
theorem ggX3_ordered_X3_orders : GoodIn wsX3_ordered wsX3_orders := goodIn_r _ [15, 1, 16, 17, 2, 18, 19, 20, 21, 22, 23, 24, 25, 26, 27, 28, 29, 30, 31, 32, 33, 34, 35] (by decide +kernel) (by decide +kernel)
set_option maxRecDepth 20000 in
theorem gX3_ordered_X3_orders : GoodIn wsX3_ordered (wsV RX3 85 RX3 yX3_orders wsX3_orders) := goodIn_app (goodIn_of _ (by decide +kernel)) ggX3_ordered_X3_orders
theorem dX3_ordered_0 : decode cX3_ordered 0 = .ok (.aload_n 0, 1) := by decide +kernel
theorem dX3_ordered_1 : decode cX3_ordered 1 = .ok (.iload_n 1, 1) := by decide +kernel
theorem dX3_ordered_2 : decode cX3_ordered 2 = .ok (.iconst 0, 1) := by decide +kernel
theorem dX3_ordered_3 : decode cX3_ordered 3 = .ok (.aload_n 0, 1) := by decide +kernel
theorem dX3_ordered_4 : decode cX3_ordered 4 = .ok (.getfield 60, 3) := by decide +kernel
theorem dX3_ordered_7 : decode cX3_ordered 7 = .ok (.iconst 1, 1) := by decide +kernel
theorem dX3_ordered_8 : decode cX3_ordered 8 = .ok (.isub, 1) := by decide +kernel
theorem dX3_ordered_9 : decode cX3_ordered 9 = .ok (.invokestatic 63, 3) := by decide +kernel
theorem dX3_ordered_12 : decode cX3_ordered 12 = .ok (.ifCond .eq 7, 3) := by decide +kernel
theorem dX3_ordered_15 : decode cX3_ordered 15 = .ok (.iconst 0, 1) := by decide +kernel
theorem dX3_ordered_16 : decode cX3_ordered 16 = .ok (.goto 4, 3) := by decide +kernel
theorem dX3_ordered_19 : decode cX3_ordered 19 = .ok (.iconst 1, 1) := by decide +kernel
theorem dX3_ordered_20 : decode cX3_ordered 20 = .ok (.invokevirtual 67, 3) := by decide +kernel
theorem dX3_ordered_23 : decode cX3_ordered 23 = .ok (.ifCond .ne 5, 3) := by decide +kernel
theorem dX3_ordered_26 : decode cX3_ordered 26 = .ok (.iconst 0, 1) := by decide +kernel
theorem dX3_ordered_27 : decode cX3_ordered 27 = .ok (.ireturn, 1) := by decide +kernel
theorem dX3_ordered_28 : decode cX3_ordered 28 = .ok (.aload_n 0, 1) := by decide +kernel
theorem dX3_ordered_29 : decode cX3_ordered 29 = .ok (.invokevirtual 85, 3) := by decide +kernel
theorem dX3_ordered_32 : decode cX3_ordered 32 = .ok (.aload_n 0, 1) := by decide +kernel
theorem dX3_ordered_33 : decode cX3_ordered 33 = .ok (.getfield 35, 3) := by decide +kernel
theorem dX3_ordered_36 : decode cX3_ordered 36 = .ok (.iload_n 1, 1) := by decide +kernel
theorem dX3_ordered_37 : decode cX3_ordered 37 = .ok (.iaload, 1) := by decide +kernel
theorem dX3_ordered_38 : decode cX3_ordered 38 = .ok (.ireturn, 1) := by decide +kernel
theorem dX3_dueOn_0 : decode cX3_dueOn 0 = .ok (.aload_n 0, 1) := by decide +kernel
theorem dX3_dueOn_1 : decode cX3_dueOn 1 = .ok (.getfield 50, 3) := by decide +kernel
theorem dX3_dueOn_4 : decode cX3_dueOn 4 = .ok (.iload_n 1, 1) := by decide +kernel
theorem dX3_dueOn_5 : decode cX3_dueOn 5 = .ok (.iaload, 1) := by decide +kernel
theorem dX3_dueOn_6 : decode cX3_dueOn 6 = .ok (.istore_n 2, 1) := by decide +kernel
theorem dX3_dueOn_7 : decode cX3_dueOn 7 = .ok (.aload_n 0, 1) := by decide +kernel
theorem dX3_dueOn_8 : decode cX3_dueOn 8 = .ok (.getfield 47, 3) := by decide +kernel
theorem dX3_dueOn_11 : decode cX3_dueOn 11 = .ok (.iload_n 1, 1) := by decide +kernel
theorem dX3_dueOn_12 : decode cX3_dueOn 12 = .ok (.iaload, 1) := by decide +kernel
theorem dX3_dueOn_13 : decode cX3_dueOn 13 = .ok (.aload_n 0, 1) := by decide +kernel
theorem dX3_dueOn_14 : decode cX3_dueOn 14 = .ok (.getfield 7, 3) := by decide +kernel
theorem dX3_dueOn_17 : decode cX3_dueOn 17 = .ok (.iload_n 1, 1) := by decide +kernel
theorem dX3_dueOn_18 : decode cX3_dueOn 18 = .ok (.iaload, 1) := by decide +kernel
theorem dX3_dueOn_19 : decode cX3_dueOn 19 = .ok (.if_icmp .lt 13, 3) := by decide +kernel
theorem dX3_dueOn_22 : decode cX3_dueOn 22 = .ok (.iload_n 2, 1) := by decide +kernel
theorem dX3_dueOn_23 : decode cX3_dueOn 23 = .ok (.aload_n 0, 1) := by decide +kernel
theorem dX3_dueOn_24 : decode cX3_dueOn 24 = .ok (.getfield 25, 3) := by decide +kernel
theorem dX3_dueOn_27 : decode cX3_dueOn 27 = .ok (.iload_n 1, 1) := by decide +kernel
theorem dX3_dueOn_28 : decode cX3_dueOn 28 = .ok (.iaload, 1) := by decide +kernel
theorem dX3_dueOn_29 : decode cX3_dueOn 29 = .ok (.if_icmp .ne 7, 3) := by decide +kernel
theorem dX3_dueOn_32 : decode cX3_dueOn 32 = .ok (.sipush 1000, 3) := by decide +kernel
theorem dX3_dueOn_35 : decode cX3_dueOn 35 = .ok (.ireturn, 1) := by decide +kernel
theorem dX3_dueOn_36 : decode cX3_dueOn 36 = .ok (.iload_n 2, 1) := by decide +kernel
theorem dX3_dueOn_37 : decode cX3_dueOn 37 = .ok (.ifCond .ne 23, 3) := by decide +kernel
theorem dX3_dueOn_40 : decode cX3_dueOn 40 = .ok (.aload_n 0, 1) := by decide +kernel
theorem dX3_dueOn_41 : decode cX3_dueOn 41 = .ok (.getfield 41, 3) := by decide +kernel
theorem dX3_dueOn_44 : decode cX3_dueOn 44 = .ok (.iconst 5, 1) := by decide +kernel
theorem dX3_dueOn_45 : decode cX3_dueOn 45 = .ok (.iload_n 1, 1) := by decide +kernel
theorem dX3_dueOn_46 : decode cX3_dueOn 46 = .ok (.imul, 1) := by decide +kernel
theorem dX3_dueOn_47 : decode cX3_dueOn 47 = .ok (.aload_n 0, 1) := by decide +kernel
theorem dX3_dueOn_48 : decode cX3_dueOn 48 = .ok (.getfield 7, 3) := by decide +kernel
theorem dX3_dueOn_51 : decode cX3_dueOn 51 = .ok (.iload_n 1, 1) := by decide +kernel
theorem dX3_dueOn_52 : decode cX3_dueOn 52 = .ok (.iaload, 1) := by decide +kernel
theorem dX3_dueOn_53 : decode cX3_dueOn 53 = .ok (.iadd, 1) := by decide +kernel
theorem dX3_dueOn_54 : decode cX3_dueOn 54 = .ok (.iconst 1, 1) := by decide +kernel
theorem dX3_dueOn_55 : decode cX3_dueOn 55 = .ok (.isub, 1) := by decide +kernel
theorem dX3_dueOn_56 : decode cX3_dueOn 56 = .ok (.iaload, 1) := by decide +kernel
theorem dX3_dueOn_57 : decode cX3_dueOn 57 = .ok (.goto 15, 3) := by decide +kernel
theorem dX3_dueOn_60 : decode cX3_dueOn 60 = .ok (.aload_n 0, 1) := by decide +kernel
theorem dX3_dueOn_61 : decode cX3_dueOn 61 = .ok (.getfield 44, 3) := by decide +kernel
theorem dX3_dueOn_64 : decode cX3_dueOn 64 = .ok (.iconst 3, 1) := by decide +kernel
theorem dX3_dueOn_65 : decode cX3_dueOn 65 = .ok (.iload_n 1, 1) := by decide +kernel
theorem dX3_dueOn_66 : decode cX3_dueOn 66 = .ok (.imul, 1) := by decide +kernel
theorem dX3_dueOn_67 : decode cX3_dueOn 67 = .ok (.iload_n 2, 1) := by decide +kernel
theorem dX3_dueOn_68 : decode cX3_dueOn 68 = .ok (.iadd, 1) := by decide +kernel
theorem dX3_dueOn_69 : decode cX3_dueOn 69 = .ok (.iconst 1, 1) := by decide +kernel
theorem dX3_dueOn_70 : decode cX3_dueOn 70 = .ok (.isub, 1) := by decide +kernel
theorem dX3_dueOn_71 : decode cX3_dueOn 71 = .ok (.iaload, 1) := by decide +kernel
theorem dX3_dueOn_72 : decode cX3_dueOn 72 = .ok (.istore_n 3, 1) := by decide +kernel
theorem dX3_dueOn_73 : decode cX3_dueOn 73 = .ok (.iload_n 3, 1) := by decide +kernel
theorem dX3_dueOn_74 : decode cX3_dueOn 74 = .ok (.aload_n 0, 1) := by decide +kernel
theorem dX3_dueOn_75 : decode cX3_dueOn 75 = .ok (.getfield 28, 3) := by decide +kernel
theorem dX3_dueOn_78 : decode cX3_dueOn 78 = .ok (.iload_n 1, 1) := by decide +kernel
theorem dX3_dueOn_79 : decode cX3_dueOn 79 = .ok (.iaload, 1) := by decide +kernel
theorem dX3_dueOn_80 : decode cX3_dueOn 80 = .ok (.iload_n 2, 1) := by decide +kernel
theorem dX3_dueOn_81 : decode cX3_dueOn 81 = .ok (.ishl, 1) := by decide +kernel
theorem dX3_dueOn_82 : decode cX3_dueOn 82 = .ok (.iadd, 1) := by decide +kernel
theorem dX3_dueOn_83 : decode cX3_dueOn 83 = .ok (.ireturn, 1) := by decide +kernel
set_option maxRecDepth 20000 in
theorem ggX3_lateFrom_X3_dueOn : GoodIn wsX3_lateFrom wsX3_dueOn := goodIn_r _ [7, 2, 8, 9, 10, 11, 12, 1, 13, 14, 15, 16, 17, 18, 19, 20, 21, 22, 23, 24, 25, 26, 27, 28, 29, 30] (by decide +kernel) (by decide +kernel)
set_option maxRecDepth 20000 in
theorem gX3_lateFrom_X3_dueOn : GoodIn wsX3_lateFrom (wsV RX3 88 RX3 yX3_dueOn wsX3_dueOn) := goodIn_app (goodIn_of _ (by decide +kernel)) ggX3_lateFrom_X3_dueOn
theorem dX3_lateFrom_0 : decode cX3_lateFrom 0 = .ok (.aload_n 0, 1) := by decide +kernel
theorem dX3_lateFrom_1 : decode cX3_lateFrom 1 = .ok (.iload_n 1, 1) := by decide +kernel
theorem dX3_lateFrom_2 : decode cX3_lateFrom 2 = .ok (.invokevirtual 88, 3) := by decide +kernel
theorem dX3_lateFrom_5 : decode cX3_lateFrom 5 = .ok (.aload_n 0, 1) := by decide +kernel
theorem dX3_lateFrom_6 : decode cX3_lateFrom 6 = .ok (.getfield 28, 3) := by decide +kernel
theorem dX3_lateFrom_9 : decode cX3_lateFrom 9 = .ok (.iload_n 1, 1) := by decide +kernel
theorem dX3_lateFrom_10 : decode cX3_lateFrom 10 = .ok (.iaload, 1) := by decide +kernel
theorem dX3_lateFrom_11 : decode cX3_lateFrom 11 = .ok (.aload_n 0, 1) := by decide +kernel
theorem dX3_lateFrom_12 : decode cX3_lateFrom 12 = .ok (.getfield 50, 3) := by decide +kernel
theorem dX3_lateFrom_15 : decode cX3_lateFrom 15 = .ok (.iload_n 1, 1) := by decide +kernel
theorem dX3_lateFrom_16 : decode cX3_lateFrom 16 = .ok (.iaload, 1) := by decide +kernel
theorem dX3_lateFrom_17 : decode cX3_lateFrom 17 = .ok (.ishl, 1) := by decide +kernel
theorem dX3_lateFrom_18 : decode cX3_lateFrom 18 = .ok (.iadd, 1) := by decide +kernel
theorem dX3_lateFrom_19 : decode cX3_lateFrom 19 = .ok (.ireturn, 1) := by decide +kernel
set_option maxRecDepth 20000 in
theorem ggX3_revisitFor_X3_dueOn : GoodIn wsX3_revisitFor wsX3_dueOn := goodIn_r _ [6, 7, 8, 9, 10, 11, 12, 13, 18, 19, 20, 21, 22, 23, 24, 25, 26, 27, 28, 29, 30, 31, 32, 33, 34, 35] (by decide +kernel) (by decide +kernel)
set_option maxRecDepth 20000 in
theorem gX3_revisitFor_X3_dueOn : GoodIn wsX3_revisitFor (wsV RX3 88 RX3 yX3_dueOn wsX3_dueOn) := goodIn_app (goodIn_of _ (by decide +kernel)) ggX3_revisitFor_X3_dueOn
set_option maxRecDepth 20000 in
theorem ggX3_revisitFor_X3_lateFrom : GoodIn wsX3_revisitFor wsX3_lateFrom := goodIn_r _ [17, 13, 7, 2, 3, 4, 5, 6, 8, 9, 10, 11, 12, 18, 19, 20, 21, 22, 23, 24, 25, 26, 27, 28, 29, 30, 31, 32, 33, 34, 35] (by decide +kernel) (by decide +kernel)
set_option maxRecDepth 20000 in
theorem gX3_revisitFor_X3_lateFrom : GoodIn wsX3_revisitFor (wsV RX3 91 RX3 yX3_lateFrom wsX3_lateFrom) := goodIn_app (goodIn_of _ (by decide +kernel)) ggX3_revisitFor_X3_lateFrom
theorem dX3_revisitFor_0 : decode cX3_revisitFor 0 = .ok (.iconst (-1), 1) := by decide +kernel
theorem dX3_revisitFor_1 : decode cX3_revisitFor 1 = .ok (.istore_n 2, 1) := by decide +kernel
theorem dX3_revisitFor_2 : decode cX3_revisitFor 2 = .ok (.iconst 0, 1) := by decide +kernel
theorem dX3_revisitFor_3 : decode cX3_revisitFor 3 = .ok (.istore_n 3, 1) := by decide +kernel
theorem dX3_revisitFor_4 : decode cX3_revisitFor 4 = .ok (.iload_n 3, 1) := by decide +kernel
theorem dX3_revisitFor_5 : decode cX3_revisitFor 5 = .ok (.aload_n 0, 1) := by decide +kernel
theorem dX3_revisitFor_6 : decode cX3_revisitFor 6 = .ok (.getfield 60, 3) := by decide +kernel
theorem dX3_revisitFor_9 : decode cX3_revisitFor 9 = .ok (.if_icmp .ge 42, 3) := by decide +kernel
theorem dX3_revisitFor_12 : decode cX3_revisitFor 12 = .ok (.aload_n 0, 1) := by decide +kernel
theorem dX3_revisitFor_13 : decode cX3_revisitFor 13 = .ok (.iload_n 3, 1) := by decide +kernel
theorem dX3_revisitFor_14 : decode cX3_revisitFor 14 = .ok (.invokevirtual 88, 3) := by decide +kernel
theorem dX3_revisitFor_17 : decode cX3_revisitFor 17 = .ok (.iload_n 1, 1) := by decide +kernel
theorem dX3_revisitFor_18 : decode cX3_revisitFor 18 = .ok (.if_icmp .gt 25, 3) := by decide +kernel
theorem dX3_revisitFor_21 : decode cX3_revisitFor 21 = .ok (.iload_n 2, 1) := by decide +kernel
theorem dX3_revisitFor_22 : decode cX3_revisitFor 22 = .ok (.iconst (-1), 1) := by decide +kernel
theorem dX3_revisitFor_23 : decode cX3_revisitFor 23 = .ok (.if_icmp .eq 16, 3) := by decide +kernel
theorem dX3_revisitFor_26 : decode cX3_revisitFor 26 = .ok (.aload_n 0, 1) := by decide +kernel
theorem dX3_revisitFor_27 : decode cX3_revisitFor 27 = .ok (.iload_n 3, 1) := by decide +kernel
theorem dX3_revisitFor_28 : decode cX3_revisitFor 28 = .ok (.invokevirtual 91, 3) := by decide +kernel
theorem dX3_revisitFor_31 : decode cX3_revisitFor 31 = .ok (.aload_n 0, 1) := by decide +kernel
theorem dX3_revisitFor_32 : decode cX3_revisitFor 32 = .ok (.iload_n 2, 1) := by decide +kernel
theorem dX3_revisitFor_33 : decode cX3_revisitFor 33 = .ok (.invokevirtual 91, 3) := by decide +kernel
theorem dX3_revisitFor_36 : decode cX3_revisitFor 36 = .ok (.if_icmp .ge 7, 3) := by decide +kernel
theorem dX3_revisitFor_39 : decode cX3_revisitFor 39 = .ok (.iload_n 3, 1) := by decide +kernel
theorem dX3_revisitFor_40 : decode cX3_revisitFor 40 = .ok (.goto 4, 3) := by decide +kernel
theorem dX3_revisitFor_43 : decode cX3_revisitFor 43 = .ok (.iload_n 2, 1) := by decide +kernel
theorem dX3_revisitFor_44 : decode cX3_revisitFor 44 = .ok (.istore_n 2, 1) := by decide +kernel
theorem dX3_revisitFor_45 : decode cX3_revisitFor 45 = .ok (.iinc 3 1, 3) := by decide +kernel
theorem dX3_revisitFor_48 : decode cX3_revisitFor 48 = .ok (.goto (-44), 3) := by decide +kernel
theorem dX3_revisitFor_51 : decode cX3_revisitFor 51 = .ok (.iload_n 2, 1) := by decide +kernel
theorem dX3_revisitFor_52 : decode cX3_revisitFor 52 = .ok (.ireturn, 1) := by decide +kernel
theorem dX3_isHeld_0 : decode cX3_isHeld 0 = .ok (.iconst 0, 1) := by decide +kernel
theorem dX3_isHeld_1 : decode cX3_isHeld 1 = .ok (.istore_n 3, 1) := by decide +kernel
theorem dX3_isHeld_2 : decode cX3_isHeld 2 = .ok (.iload_n 2, 1) := by decide +kernel
theorem dX3_isHeld_3 : decode cX3_isHeld 3 = .ok (.iconst 2, 1) := by decide +kernel
theorem dX3_isHeld_4 : decode cX3_isHeld 4 = .ok (.if_icmp .ge 7, 3) := by decide +kernel
theorem dX3_isHeld_7 : decode cX3_isHeld 7 = .ok (.iconst 0, 1) := by decide +kernel
theorem dX3_isHeld_8 : decode cX3_isHeld 8 = .ok (.goto 6, 3) := by decide +kernel
theorem dX3_isHeld_11 : decode cX3_isHeld 11 = .ok (.iload_n 2, 1) := by decide +kernel
theorem dX3_isHeld_12 : decode cX3_isHeld 12 = .ok (.iconst 2, 1) := by decide +kernel
theorem dX3_isHeld_13 : decode cX3_isHeld 13 = .ok (.isub, 1) := by decide +kernel
theorem dX3_isHeld_14 : decode cX3_isHeld 14 = .ok (.istore 4, 2) := by decide +kernel
theorem dX3_isHeld_16 : decode cX3_isHeld 16 = .ok (.iload 4, 2) := by decide +kernel
theorem dX3_isHeld_18 : decode cX3_isHeld 18 = .ok (.iload_n 2, 1) := by decide +kernel
theorem dX3_isHeld_19 : decode cX3_isHeld 19 = .ok (.if_icmp .ge 95, 3) := by decide +kernel
theorem dX3_isHeld_22 : decode cX3_isHeld 22 = .ok (.aload_n 0, 1) := by decide +kernel
theorem dX3_isHeld_23 : decode cX3_isHeld 23 = .ok (.getfield 38, 3) := by decide +kernel
theorem dX3_isHeld_26 : decode cX3_isHeld 26 = .ok (.iload 4, 2) := by decide +kernel
theorem dX3_isHeld_28 : decode cX3_isHeld 28 = .ok (.iaload, 1) := by decide +kernel
theorem dX3_isHeld_29 : decode cX3_isHeld 29 = .ok (.ifCond .lt 30, 3) := by decide +kernel
theorem dX3_isHeld_32 : decode cX3_isHeld 32 = .ok (.aload_n 0, 1) := by decide +kernel
theorem dX3_isHeld_33 : decode cX3_isHeld 33 = .ok (.getfield 38, 3) := by decide +kernel
theorem dX3_isHeld_36 : decode cX3_isHeld 36 = .ok (.iload 4, 2) := by decide +kernel
theorem dX3_isHeld_38 : decode cX3_isHeld 38 = .ok (.iaload, 1) := by decide +kernel
theorem dX3_isHeld_39 : decode cX3_isHeld 39 = .ok (.bipush 100, 2) := by decide +kernel
theorem dX3_isHeld_41 : decode cX3_isHeld 41 = .ok (.if_icmp .ge 18, 3) := by decide +kernel
theorem dX3_isHeld_44 : decode cX3_isHeld 44 = .ok (.aload_n 0, 1) := by decide +kernel
theorem dX3_isHeld_45 : decode cX3_isHeld 45 = .ok (.getfield 38, 3) := by decide +kernel
theorem dX3_isHeld_48 : decode cX3_isHeld 48 = .ok (.iload 4, 2) := by decide +kernel
theorem dX3_isHeld_50 : decode cX3_isHeld 50 = .ok (.iaload, 1) := by decide +kernel
theorem dX3_isHeld_51 : decode cX3_isHeld 51 = .ok (.iload_n 1, 1) := by decide +kernel
theorem dX3_isHeld_52 : decode cX3_isHeld 52 = .ok (.if_icmp .eq 7, 3) := by decide +kernel
theorem dX3_isHeld_55 : decode cX3_isHeld 55 = .ok (.iconst 1, 1) := by decide +kernel
theorem dX3_isHeld_56 : decode cX3_isHeld 56 = .ok (.goto 4, 3) := by decide +kernel
theorem dX3_isHeld_59 : decode cX3_isHeld 59 = .ok (.iconst 0, 1) := by decide +kernel
theorem dX3_isHeld_60 : decode cX3_isHeld 60 = .ok (.istore 5, 2) := by decide +kernel
theorem dX3_isHeld_62 : decode cX3_isHeld 62 = .ok (.iload_n 3, 1) := by decide +kernel
theorem dX3_isHeld_63 : decode cX3_isHeld 63 = .ok (.ifCond .ne 39, 3) := by decide +kernel
theorem dX3_isHeld_66 : decode cX3_isHeld 66 = .ok (.iload 5, 2) := by decide +kernel
theorem dX3_isHeld_68 : decode cX3_isHeld 68 = .ok (.ifCond .eq 38, 3) := by decide +kernel
theorem dX3_isHeld_71 : decode cX3_isHeld 71 = .ok (.aload_n 0, 1) := by decide +kernel
theorem dX3_isHeld_72 : decode cX3_isHeld 72 = .ok (.getfield 19, 3) := by decide +kernel
theorem dX3_isHeld_75 : decode cX3_isHeld 75 = .ok (.iload_n 1, 1) := by decide +kernel
theorem dX3_isHeld_76 : decode cX3_isHeld 76 = .ok (.iaload, 1) := by decide +kernel
theorem dX3_isHeld_77 : decode cX3_isHeld 77 = .ok (.iconst (-1), 1) := by decide +kernel
theorem dX3_isHeld_78 : decode cX3_isHeld 78 = .ok (.if_icmp .eq 28, 3) := by decide +kernel
theorem dX3_isHeld_81 : decode cX3_isHeld 81 = .ok (.aload_n 0, 1) := by decide +kernel
theorem dX3_isHeld_82 : decode cX3_isHeld 82 = .ok (.getfield 19, 3) := by decide +kernel
theorem dX3_isHeld_85 : decode cX3_isHeld 85 = .ok (.aload_n 0, 1) := by decide +kernel
theorem dX3_isHeld_86 : decode cX3_isHeld 86 = .ok (.getfield 38, 3) := by decide +kernel
theorem dX3_isHeld_89 : decode cX3_isHeld 89 = .ok (.iload 4, 2) := by decide +kernel
theorem dX3_isHeld_91 : decode cX3_isHeld 91 = .ok (.iaload, 1) := by decide +kernel
theorem dX3_isHeld_92 : decode cX3_isHeld 92 = .ok (.iaload, 1) := by decide +kernel
theorem dX3_isHeld_93 : decode cX3_isHeld 93 = .ok (.aload_n 0, 1) := by decide +kernel
theorem dX3_isHeld_94 : decode cX3_isHeld 94 = .ok (.getfield 19, 3) := by decide +kernel
theorem dX3_isHeld_97 : decode cX3_isHeld 97 = .ok (.iload_n 1, 1) := by decide +kernel
theorem dX3_isHeld_98 : decode cX3_isHeld 98 = .ok (.iaload, 1) := by decide +kernel
theorem dX3_isHeld_99 : decode cX3_isHeld 99 = .ok (.if_icmp .ne 7, 3) := by decide +kernel
theorem dX3_isHeld_102 : decode cX3_isHeld 102 = .ok (.iconst 1, 1) := by decide +kernel
theorem dX3_isHeld_103 : decode cX3_isHeld 103 = .ok (.goto 4, 3) := by decide +kernel
theorem dX3_isHeld_106 : decode cX3_isHeld 106 = .ok (.iconst 0, 1) := by decide +kernel
theorem dX3_isHeld_107 : decode cX3_isHeld 107 = .ok (.istore_n 3, 1) := by decide +kernel
theorem dX3_isHeld_108 : decode cX3_isHeld 108 = .ok (.iinc 4 1, 3) := by decide +kernel
theorem dX3_isHeld_111 : decode cX3_isHeld 111 = .ok (.goto (-95), 3) := by decide +kernel
theorem dX3_isHeld_114 : decode cX3_isHeld 114 = .ok (.iload_n 3, 1) := by decide +kernel
theorem dX3_isHeld_115 : decode cX3_isHeld 115 = .ok (.ireturn, 1) := by decide +kernel
theorem dX3_nextAim_0 : decode cX3_nextAim 0 = .ok (.iconst (-1), 1) := by decide +kernel
theorem dX3_nextAim_1 : decode cX3_nextAim 1 = .ok (.istore_n 1, 1) := by decide +kernel
theorem dX3_nextAim_2 : decode cX3_nextAim 2 = .ok (.aload_n 0, 1) := by decide +kernel
theorem dX3_nextAim_3 : decode cX3_nextAim 3 = .ok (.getfield 60, 3) := by decide +kernel
theorem dX3_nextAim_6 : decode cX3_nextAim 6 = .ok (.iconst 1, 1) := by decide +kernel
theorem dX3_nextAim_7 : decode cX3_nextAim 7 = .ok (.isub, 1) := by decide +kernel
theorem dX3_nextAim_8 : decode cX3_nextAim 8 = .ok (.istore_n 2, 1) := by decide +kernel
theorem dX3_nextAim_9 : decode cX3_nextAim 9 = .ok (.iload_n 2, 1) := by decide +kernel
theorem dX3_nextAim_10 : decode cX3_nextAim 10 = .ok (.ifCond .lt 45, 3) := by decide +kernel
theorem dX3_nextAim_13 : decode cX3_nextAim 13 = .ok (.aload_n 0, 1) := by decide +kernel
theorem dX3_nextAim_14 : decode cX3_nextAim 14 = .ok (.getfield 47, 3) := by decide +kernel
theorem dX3_nextAim_17 : decode cX3_nextAim 17 = .ok (.aload_n 0, 1) := by decide +kernel
theorem dX3_nextAim_18 : decode cX3_nextAim 18 = .ok (.getfield 35, 3) := by decide +kernel
theorem dX3_nextAim_21 : decode cX3_nextAim 21 = .ok (.iload_n 2, 1) := by decide +kernel
theorem dX3_nextAim_22 : decode cX3_nextAim 22 = .ok (.iaload, 1) := by decide +kernel
theorem dX3_nextAim_23 : decode cX3_nextAim 23 = .ok (.iaload, 1) := by decide +kernel
theorem dX3_nextAim_24 : decode cX3_nextAim 24 = .ok (.aload_n 0, 1) := by decide +kernel
theorem dX3_nextAim_25 : decode cX3_nextAim 25 = .ok (.getfield 7, 3) := by decide +kernel
theorem dX3_nextAim_28 : decode cX3_nextAim 28 = .ok (.aload_n 0, 1) := by decide +kernel
theorem dX3_nextAim_29 : decode cX3_nextAim 29 = .ok (.getfield 35, 3) := by decide +kernel
theorem dX3_nextAim_32 : decode cX3_nextAim 32 = .ok (.iload_n 2, 1) := by decide +kernel
theorem dX3_nextAim_33 : decode cX3_nextAim 33 = .ok (.iaload, 1) := by decide +kernel
theorem dX3_nextAim_34 : decode cX3_nextAim 34 = .ok (.iaload, 1) := by decide +kernel
theorem dX3_nextAim_35 : decode cX3_nextAim 35 = .ok (.if_icmp .ge 12, 3) := by decide +kernel
theorem dX3_nextAim_38 : decode cX3_nextAim 38 = .ok (.aload_n 0, 1) := by decide +kernel
theorem dX3_nextAim_39 : decode cX3_nextAim 39 = .ok (.getfield 35, 3) := by decide +kernel
theorem dX3_nextAim_42 : decode cX3_nextAim 42 = .ok (.iload_n 2, 1) := by decide +kernel
theorem dX3_nextAim_43 : decode cX3_nextAim 43 = .ok (.iaload, 1) := by decide +kernel
theorem dX3_nextAim_44 : decode cX3_nextAim 44 = .ok (.goto 4, 3) := by decide +kernel
theorem dX3_nextAim_47 : decode cX3_nextAim 47 = .ok (.iload_n 1, 1) := by decide +kernel
theorem dX3_nextAim_48 : decode cX3_nextAim 48 = .ok (.istore_n 1, 1) := by decide +kernel
theorem dX3_nextAim_49 : decode cX3_nextAim 49 = .ok (.iinc 2 (-1), 3) := by decide +kernel
theorem dX3_nextAim_52 : decode cX3_nextAim 52 = .ok (.goto (-43), 3) := by decide +kernel
theorem dX3_nextAim_55 : decode cX3_nextAim 55 = .ok (.iload_n 1, 1) := by decide +kernel
theorem dX3_nextAim_56 : decode cX3_nextAim 56 = .ok (.ireturn, 1) := by decide +kernel
