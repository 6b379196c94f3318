set_option maxRecDepth 20000 in
theorem ggX0_init_X0_clear : GoodIn wsX0_init wsX0_clear := goodIn_r _ [15, 5, 6, 7, 8, 9, 10, 16, 17, 18, 19, 20, 21, 22, 23, 24, 25, 26, 27, 28, 29, 30, 31] (by decide +kernel) (by decide +kernel)
set_option maxRecDepth 20000 in
theorem gX0_init_X0_clear : GoodIn wsX0_init (wsV RX0 30 RX0 yX0_clear wsX0_clear) := goodIn_app (goodIn_of _ (by decide +kernel)) ggX0_init_X0_clear
theorem dX0_init_0 : decode cX0_init 0 = .ok (.aload_n 0, 1) := by decide +kernel
theorem dX0_init_1 : decode cX0_init 1 = .ok (.invokespecial 3, 3) := by decide +kernel
theorem dX0_init_4 : decode cX0_init 4 = .ok (.aload_n 0, 1) := by decide +kernel
theorem dX0_init_5 : decode cX0_init 5 = .ok (.bipush 100, 2) := by decide +kernel
theorem dX0_init_7 : decode cX0_init 7 = .ok (.newarray .int, 2) := by decide +kernel
theorem dX0_init_9 : decode cX0_init 9 = .ok (.putfield 9, 3) := by decide +kernel
theorem dX0_init_12 : decode cX0_init 12 = .ok (.aload_n 0, 1) := by decide +kernel
theorem dX0_init_13 : decode cX0_init 13 = .ok (.bipush 60, 2) := by decide +kernel
theorem dX0_init_15 : decode cX0_init 15 = .ok (.newarray .int, 2) := by decide +kernel
theorem dX0_init_17 : decode cX0_init 17 = .ok (.putfield 15, 3) := by decide +kernel
theorem dX0_init_20 : decode cX0_init 20 = .ok (.aload_n 0, 1) := by decide +kernel
theorem dX0_init_21 : decode cX0_init 21 = .ok (.bipush 36, 2) := by decide +kernel
theorem dX0_init_23 : decode cX0_init 23 = .ok (.newarray .int, 2) := by decide +kernel
theorem dX0_init_25 : decode cX0_init 25 = .ok (.putfield 18, 3) := by decide +kernel
theorem dX0_init_28 : decode cX0_init 28 = .ok (.aload_n 0, 1) := by decide +kernel
theorem dX0_init_29 : decode cX0_init 29 = .ok (.bipush 12, 2) := by decide +kernel
theorem dX0_init_31 : decode cX0_init 31 = .ok (.newarray .int, 2) := by decide +kernel
theorem dX0_init_33 : decode cX0_init 33 = .ok (.putfield 21, 3) := by decide +kernel
theorem dX0_init_36 : decode cX0_init 36 = .ok (.aload_n 0, 1) := by decide +kernel
theorem dX0_init_37 : decode cX0_init 37 = .ok (.bipush 12, 2) := by decide +kernel
theorem dX0_init_39 : decode cX0_init 39 = .ok (.newarray .int, 2) := by decide +kernel
theorem dX0_init_41 : decode cX0_init 41 = .ok (.putfield 24, 3) := by decide +kernel
theorem dX0_init_44 : decode cX0_init 44 = .ok (.aload_n 0, 1) := by decide +kernel
theorem dX0_init_45 : decode cX0_init 45 = .ok (.bipush 12, 2) := by decide +kernel
theorem dX0_init_47 : decode cX0_init 47 = .ok (.newarray .int, 2) := by decide +kernel
theorem dX0_init_49 : decode cX0_init 49 = .ok (.putfield 27, 3) := by decide +kernel
theorem dX0_init_52 : decode cX0_init 52 = .ok (.aload_n 0, 1) := by decide +kernel
theorem dX0_init_53 : decode cX0_init 53 = .ok (.invokevirtual 30, 3) := by decide +kernel
theorem dX0_init_56 : decode cX0_init 56 = .ok (.return_, 1) := by decide +kernel
set_option maxRecDepth 20000 in
theorem ggX0_clear_J7_fill_53178 : GoodIn wsX0_clear wsJ7_fill_53178 := goodIn_r _ [13] (by decide +kernel) (by decide +kernel)
set_option maxRecDepth 20000 in
theorem gX0_clear_J7_fill_53178 : GoodIn wsX0_clear (va_wsS RX0 33 yJ7_fill_53178 wsJ7_fill_53178) := goodIn_app (goodIn_of _ (by decide +kernel)) ggX0_clear_J7_fill_53178
theorem dX0_clear_0 : decode cX0_clear 0 = .ok (.aload_n 0, 1) := by decide +kernel
theorem dX0_clear_1 : decode cX0_clear 1 = .ok (.getfield 9, 3) := by decide +kernel
theorem dX0_clear_4 : decode cX0_clear 4 = .ok (.iconst (-1), 1) := by decide +kernel
theorem dX0_clear_5 : decode cX0_clear 5 = .ok (.invokestatic 33, 3) := by decide +kernel
theorem dX0_clear_8 : decode cX0_clear 8 = .ok (.aload_n 0, 1) := by decide +kernel
theorem dX0_clear_9 : decode cX0_clear 9 = .ok (.getfield 15, 3) := by decide +kernel
theorem dX0_clear_12 : decode cX0_clear 12 = .ok (.iconst (-1), 1) := by decide +kernel
theorem dX0_clear_13 : decode cX0_clear 13 = .ok (.invokestatic 33, 3) := by decide +kernel
theorem dX0_clear_16 : decode cX0_clear 16 = .ok (.aload_n 0, 1) := by decide +kernel
theorem dX0_clear_17 : decode cX0_clear 17 = .ok (.getfield 18, 3) := by decide +kernel
theorem dX0_clear_20 : decode cX0_clear 20 = .ok (.iconst (-1), 1) := by decide +kernel
theorem dX0_clear_21 : decode cX0_clear 21 = .ok (.invokestatic 33, 3) := by decide +kernel
theorem dX0_clear_24 : decode cX0_clear 24 = .ok (.aload_n 0, 1) := by decide +kernel
theorem dX0_clear_25 : decode cX0_clear 25 = .ok (.getfield 21, 3) := by decide +kernel
theorem dX0_clear_28 : decode cX0_clear 28 = .ok (.iconst 0, 1) := by decide +kernel
theorem dX0_clear_29 : decode cX0_clear 29 = .ok (.invokestatic 33, 3) := by decide +kernel
theorem dX0_clear_32 : decode cX0_clear 32 = .ok (.aload_n 0, 1) := by decide +kernel
theorem dX0_clear_33 : decode cX0_clear 33 = .ok (.getfield 24, 3) := by decide +kernel
theorem dX0_clear_36 : decode cX0_clear 36 = .ok (.iconst 0, 1) := by decide +kernel
theorem dX0_clear_37 : decode cX0_clear 37 = .ok (.invokestatic 33, 3) := by decide +kernel
theorem dX0_clear_40 : decode cX0_clear 40 = .ok (.aload_n 0, 1) := by decide +kernel
theorem dX0_clear_41 : decode cX0_clear 41 = .ok (.getfield 27, 3) := by decide +kernel
theorem dX0_clear_44 : decode cX0_clear 44 = .ok (.iconst 0, 1) := by decide +kernel
theorem dX0_clear_45 : decode cX0_clear 45 = .ok (.invokestatic 33, 3) := by decide +kernel
theorem dX0_clear_48 : decode cX0_clear 48 = .ok (.aload_n 0, 1) := by decide +kernel
theorem dX0_clear_49 : decode cX0_clear 49 = .ok (.iconst 0, 1) := by decide +kernel
theorem dX0_clear_50 : decode cX0_clear 50 = .ok (.putfield 39, 3) := by decide +kernel
theorem dX0_clear_53 : decode cX0_clear 53 = .ok (.aload_n 0, 1) := by decide +kernel
theorem dX0_clear_54 : decode cX0_clear 54 = .ok (.iconst 0, 1) := by decide +kernel
theorem dX0_clear_55 : decode cX0_clear 55 = .ok (.putfield 43, 3) := by decide +kernel
theorem dX0_clear_58 : decode cX0_clear 58 = .ok (.aload_n 0, 1) := by decide +kernel
theorem dX0_clear_59 : decode cX0_clear 59 = .ok (.iconst (-1), 1) := by decide +kernel
theorem dX0_clear_60 : decode cX0_clear 60 = .ok (.putfield 46, 3) := by decide +kernel
theorem dX0_clear_63 : decode cX0_clear 63 = .ok (.return_, 1) := by decide +kernel
set_option maxRecDepth 20000 in
theorem ggX0_lay_X0_clear : GoodIn wsX0_lay wsX0_clear := goodIn_r _ [5, 6, 7, 8, 9, 10, 11, 12, 13, 14, 15, 16, 17, 18, 62, 63, 64, 65, 66, 67, 68, 69, 70] (by decide +kernel) (by decide +kernel)
set_option maxRecDepth 20000 in
theorem gX0_lay_X0_clear : GoodIn wsX0_lay (wsV RX0 30 RX0 yX0_clear wsX0_clear) := goodIn_app (goodIn_of _ (by decide +kernel)) ggX0_lay_X0_clear
set_option maxRecDepth 20000 in
theorem ggX0_lay_X0_layOn : GoodIn wsX0_lay wsX0_layOn := goodIn_r _ [22, 23, 24, 25, 4, 26, 27, 28, 29, 30, 9, 10, 11, 31, 32, 33, 34, 35, 36, 37, 38, 39, 40, 41, 42, 13, 8, 43, 44, 45, 46, 6, 12, 14, 47, 48, 49, 50, 51, 52, 53, 54, 55, 56, 57, 58, 59, 60, 61, 7, 71, 72, 73, 74, 75, 76, 77, 78, 79, 62, 63, 64, 65, 66, 67, 68, 69, 70] (by decide +kernel) (by decide +kernel)
set_option maxRecDepth 20000 in
theorem gX0_lay_X0_layOn : GoodIn wsX0_lay (wsV RX0 49 RX0 yX0_layOn wsX0_layOn) := goodIn_app (goodIn_of _ (by decide +kernel)) ggX0_lay_X0_layOn
theorem dX0_lay_0 : decode cX0_lay 0 = .ok (.aload_n 0, 1) := by decide +kernel
theorem dX0_lay_1 : decode cX0_lay 1 = .ok (.invokevirtual 30, 3) := by decide +kernel
theorem dX0_lay_4 : decode cX0_lay 4 = .ok (.iconst 0, 1) := by decide +kernel
theorem dX0_lay_5 : decode cX0_lay 5 = .ok (.istore_n 3, 1) := by decide +kernel
theorem dX0_lay_6 : decode cX0_lay 6 = .ok (.iload_n 3, 1) := by decide +kernel
theorem dX0_lay_7 : decode cX0_lay 7 = .ok (.bipush 100, 2) := by decide +kernel
theorem dX0_lay_9 : decode cX0_lay 9 = .ok (.if_icmp .ge 21, 3) := by decide +kernel
theorem dX0_lay_12 : decode cX0_lay 12 = .ok (.aload_n 2, 1) := by decide +kernel
theorem dX0_lay_13 : decode cX0_lay 13 = .ok (.iload_n 3, 1) := by decide +kernel
theorem dX0_lay_14 : decode cX0_lay 14 = .ok (.baload, 1) := by decide +kernel
theorem dX0_lay_15 : decode cX0_lay 15 = .ok (.ifCond .ne 9, 3) := by decide +kernel
theorem dX0_lay_18 : decode cX0_lay 18 = .ok (.aload_n 0, 1) := by decide +kernel
theorem dX0_lay_19 : decode cX0_lay 19 = .ok (.iload_n 3, 1) := by decide +kernel
theorem dX0_lay_20 : decode cX0_lay 20 = .ok (.aload_n 1, 1) := by decide +kernel
theorem dX0_lay_21 : decode cX0_lay 21 = .ok (.invokevirtual 49, 3) := by decide +kernel
theorem dX0_lay_24 : decode cX0_lay 24 = .ok (.iinc 3 1, 3) := by decide +kernel
theorem dX0_lay_27 : decode cX0_lay 27 = .ok (.goto (-21), 3) := by decide +kernel
theorem dX0_lay_30 : decode cX0_lay 30 = .ok (.return_, 1) := by decide +kernel
set_option maxRecDepth 20000 in
theorem ggX0_layOn_X0_mostPressing : GoodIn wsX0_layOn wsX0_mostPressing := goodIn_r _ [5, 6, 7, 8, 4, 9, 10, 11, 12, 13, 14, 15, 16, 17, 18, 19, 20, 50, 51, 52, 53, 54, 55, 56, 57, 58, 59, 60, 61, 62, 63, 64, 65, 66, 67] (by decide +kernel) (by decide +kernel)
set_option maxRecDepth 20000 in
theorem gX0_layOn_X0_mostPressing : GoodIn wsX0_layOn (wsV RX0 53 RX0 yX0_mostPressing wsX0_mostPressing) := goodIn_app (goodIn_of _ (by decide +kernel)) ggX0_layOn_X0_mostPressing
set_option maxRecDepth 20000 in
theorem ggX0_layOn_X0_layRevisit : GoodIn wsX0_layOn wsX0_layRevisit := goodIn_r _ [24, 25, 26, 11, 17, 18, 19, 4, 20, 12, 13, 14, 15, 16, 27, 28, 29, 30, 31, 32, 33, 59, 60, 61, 62, 63, 64, 65, 66, 67, 50, 51, 52, 53, 54, 55, 56, 57, 58] (by decide +kernel) (by decide +kernel)
set_option maxRecDepth 20000 in
theorem gX0_layOn_X0_layRevisit : GoodIn wsX0_layOn (wsV RX0 57 RX0 yX0_layRevisit wsX0_layRevisit) := goodIn_app (goodIn_of _ (by decide +kernel)) ggX0_layOn_X0_layRevisit
set_option maxRecDepth 20000 in
theorem ggX0_layOn_X0_firstUnfinished : GoodIn wsX0_layOn wsX0_firstUnfinished := goodIn_r _ [37, 10, 50, 51, 52, 53, 54, 55, 56, 57, 58, 59, 60, 61, 62, 63, 64, 65, 66, 67] (by decide +kernel) (by decide +kernel)
set_option maxRecDepth 20000 in
theorem gX0_layOn_X0_firstUnfinished : GoodIn wsX0_layOn (wsV RX0 61 RX0 yX0_firstUnfinished wsX0_firstUnfinished) := goodIn_app (goodIn_of _ (by decide +kernel)) ggX0_layOn_X0_firstUnfinished
set_option maxRecDepth 20000 in
theorem ggX0_layOn_X0_isKitTaken : GoodIn wsX0_layOn wsX0_isKitTaken := goodIn_r _ [41, 31, 42, 43, 4, 44, 50, 51, 52, 53, 54, 55, 56, 57, 58, 59, 60, 61, 62, 63, 64, 65, 66, 67] (by decide +kernel) (by decide +kernel)
set_option maxRecDepth 20000 in
theorem gX0_layOn_X0_isKitTaken : GoodIn wsX0_layOn (wsV RX0 65 RX0 yX0_isKitTaken wsX0_isKitTaken) := goodIn_app (goodIn_of _ (by decide +kernel)) ggX0_layOn_X0_isKitTaken
set_option maxRecDepth 20000 in
theorem ggX0_layOn_X0_layLesson : GoodIn wsX0_layOn wsX0_layLesson := goodIn_r _ [48, 49, 10, 27, 28, 29, 4, 30, 31, 12, 32, 33, 59, 60, 61, 62, 63, 64, 65, 66, 67] (by decide +kernel) (by decide +kernel)
set_option maxRecDepth 20000 in
theorem gX0_layOn_X0_layLesson : GoodIn wsX0_layOn (wsV RX0 69 RX0 yX0_layLesson wsX0_layLesson) := goodIn_app (goodIn_of _ (by decide +kernel)) ggX0_layOn_X0_layLesson
theorem dX0_layOn_0 : decode cX0_layOn 0 = .ok (.aload_n 0, 1) := by decide +kernel
theorem dX0_layOn_1 : decode cX0_layOn 1 = .ok (.iload_n 1, 1) := by decide +kernel
theorem dX0_layOn_2 : decode cX0_layOn 2 = .ok (.aload_n 2, 1) := by decide +kernel
theorem dX0_layOn_3 : decode cX0_layOn 3 = .ok (.invokevirtual 53, 3) := by decide +kernel
theorem dX0_layOn_6 : decode cX0_layOn 6 = .ok (.istore_n 3, 1) := by decide +kernel
theorem dX0_layOn_7 : decode cX0_layOn 7 = .ok (.iload_n 3, 1) := by decide +kernel
theorem dX0_layOn_8 : decode cX0_layOn 8 = .ok (.iconst (-1), 1) := by decide +kernel
theorem dX0_layOn_9 : decode cX0_layOn 9 = .ok (.if_icmp .eq 11, 3) := by decide +kernel
theorem dX0_layOn_12 : decode cX0_layOn 12 = .ok (.aload_n 0, 1) := by decide +kernel
theorem dX0_layOn_13 : decode cX0_layOn 13 = .ok (.iload_n 3, 1) := by decide +kernel
theorem dX0_layOn_14 : decode cX0_layOn 14 = .ok (.iload_n 1, 1) := by decide +kernel
theorem dX0_layOn_15 : decode cX0_layOn 15 = .ok (.aload_n 2, 1) := by decide +kernel
theorem dX0_layOn_16 : decode cX0_layOn 16 = .ok (.invokevirtual 57, 3) := by decide +kernel
theorem dX0_layOn_19 : decode cX0_layOn 19 = .ok (.return_, 1) := by decide +kernel
theorem dX0_layOn_20 : decode cX0_layOn 20 = .ok (.aload_n 0, 1) := by decide +kernel
theorem dX0_layOn_21 : decode cX0_layOn 21 = .ok (.aload_n 2, 1) := by decide +kernel
theorem dX0_layOn_22 : decode cX0_layOn 22 = .ok (.invokevirtual 61, 3) := by decide +kernel
theorem dX0_layOn_25 : decode cX0_layOn 25 = .ok (.istore 4, 2) := by decide +kernel
theorem dX0_layOn_27 : decode cX0_layOn 27 = .ok (.iload 4, 2) := by decide +kernel
theorem dX0_layOn_29 : decode cX0_layOn 29 = .ok (.iconst (-1), 1) := by decide +kernel
theorem dX0_layOn_30 : decode cX0_layOn 30 = .ok (.if_icmp .eq 21, 3) := by decide +kernel
theorem dX0_layOn_33 : decode cX0_layOn 33 = .ok (.aload_n 0, 1) := by decide +kernel
theorem dX0_layOn_34 : decode cX0_layOn 34 = .ok (.iload 4, 2) := by decide +kernel
theorem dX0_layOn_36 : decode cX0_layOn 36 = .ok (.iload_n 1, 1) := by decide +kernel
theorem dX0_layOn_37 : decode cX0_layOn 37 = .ok (.aload_n 2, 1) := by decide +kernel
theorem dX0_layOn_38 : decode cX0_layOn 38 = .ok (.invokevirtual 65, 3) := by decide +kernel
theorem dX0_layOn_41 : decode cX0_layOn 41 = .ok (.ifCond .ne 10, 3) := by decide +kernel
theorem dX0_layOn_44 : decode cX0_layOn 44 = .ok (.aload_n 0, 1) := by decide +kernel
theorem dX0_layOn_45 : decode cX0_layOn 45 = .ok (.iload 4, 2) := by decide +kernel
theorem dX0_layOn_47 : decode cX0_layOn 47 = .ok (.iload_n 1, 1) := by decide +kernel
theorem dX0_layOn_48 : decode cX0_layOn 48 = .ok (.invokevirtual 69, 3) := by decide +kernel
theorem dX0_layOn_51 : decode cX0_layOn 51 = .ok (.return_, 1) := by decide +kernel
set_option maxRecDepth 20000 in
theorem ggX0_mostPressing_X0_isDue : GoodIn wsX0_mostPressing wsX0_isDue := goodIn_r _ [5, 6, 7, 8, 9, 10, 11, 4, 12, 26, 27, 28, 29, 30, 31, 32, 33, 34, 17, 18, 19, 20, 21, 22, 23, 24, 25] (by decide +kernel) (by decide +kernel)
set_option maxRecDepth 20000 in
theorem gX0_mostPressing_X0_isDue : GoodIn wsX0_mostPressing (wsV RX0 78 RX0 yX0_isDue wsX0_isDue) := goodIn_app (goodIn_of _ (by decide +kernel)) ggX0_mostPressing_X0_isDue
set_option maxRecDepth 20000 in
theorem ggX0_mostPressing_X0_lateFrom : GoodIn wsX0_mostPressing wsX0_lateFrom := goodIn_r _ [16, 8, 9, 10, 11, 4, 12, 7, 26, 27, 28, 29, 30, 31, 32, 33, 34, 17, 18, 19, 20, 21, 22, 23, 24, 25] (by decide +kernel) (by decide +kernel)
set_option maxRecDepth 20000 in
theorem gX0_mostPressing_X0_lateFrom : GoodIn wsX0_mostPressing (wsV RX0 81 RX0 yX0_lateFrom wsX0_lateFrom) := goodIn_app (goodIn_of _ (by decide +kernel)) ggX0_mostPressing_X0_lateFrom
theorem dX0_mostPressing_0 : decode cX0_mostPressing 0 = .ok (.iconst (-1), 1) := by decide +kernel
theorem dX0_mostPressing_1 : decode cX0_mostPressing 1 = .ok (.istore_n 3, 1) := by decide +kernel
theorem dX0_mostPressing_2 : decode cX0_mostPressing 2 = .ok (.iconst 0, 1) := by decide +kernel
theorem dX0_mostPressing_3 : decode cX0_mostPressing 3 = .ok (.istore 4, 2) := by decide +kernel
theorem dX0_mostPressing_5 : decode cX0_mostPressing 5 = .ok (.iconst 0, 1) := by decide +kernel
theorem dX0_mostPressing_6 : decode cX0_mostPressing 6 = .ok (.istore 5, 2) := by decide +kernel
theorem dX0_mostPressing_8 : decode cX0_mostPressing 8 = .ok (.iload 5, 2) := by decide +kernel
theorem dX0_mostPressing_10 : decode cX0_mostPressing 10 = .ok (.aload_n 2, 1) := by decide +kernel
theorem dX0_mostPressing_11 : decode cX0_mostPressing 11 = .ok (.getfield 73, 3) := by decide +kernel
theorem dX0_mostPressing_14 : decode cX0_mostPressing 14 = .ok (.if_icmp .ge 51, 3) := by decide +kernel
theorem dX0_mostPressing_17 : decode cX0_mostPressing 17 = .ok (.aload_n 0, 1) := by decide +kernel
theorem dX0_mostPressing_18 : decode cX0_mostPressing 18 = .ok (.iload 5, 2) := by decide +kernel
theorem dX0_mostPressing_20 : decode cX0_mostPressing 20 = .ok (.iload_n 1, 1) := by decide +kernel
theorem dX0_mostPressing_21 : decode cX0_mostPressing 21 = .ok (.aload_n 2, 1) := by decide +kernel
theorem dX0_mostPressing_22 : decode cX0_mostPressing 22 = .ok (.invokevirtual 78, 3) := by decide +kernel
theorem dX0_mostPressing_25 : decode cX0_mostPressing 25 = .ok (.ifCond .ne 6, 3) := by decide +kernel
theorem dX0_mostPressing_28 : decode cX0_mostPressing 28 = .ok (.goto 31, 3) := by decide +kernel
theorem dX0_mostPressing_31 : decode cX0_mostPressing 31 = .ok (.aload_n 0, 1) := by decide +kernel
theorem dX0_mostPressing_32 : decode cX0_mostPressing 32 = .ok (.iload 5, 2) := by decide +kernel
theorem dX0_mostPressing_34 : decode cX0_mostPressing 34 = .ok (.aload_n 2, 1) := by decide +kernel
theorem dX0_mostPressing_35 : decode cX0_mostPressing 35 = .ok (.invokevirtual 81, 3) := by decide +kernel
theorem dX0_mostPressing_38 : decode cX0_mostPressing 38 = .ok (.istore 6, 2) := by decide +kernel
theorem dX0_mostPressing_40 : decode cX0_mostPressing 40 = .ok (.iload_n 3, 1) := by decide +kernel
theorem dX0_mostPressing_41 : decode cX0_mostPressing 41 = .ok (.iconst (-1), 1) := by decide +kernel
theorem dX0_mostPressing_42 : decode cX0_mostPressing 42 = .ok (.if_icmp .eq 10, 3) := by decide +kernel
theorem dX0_mostPressing_45 : decode cX0_mostPressing 45 = .ok (.iload 6, 2) := by decide +kernel
theorem dX0_mostPressing_47 : decode cX0_mostPressing 47 = .ok (.iload 4, 2) := by decide +kernel
theorem dX0_mostPressing_49 : decode cX0_mostPressing 49 = .ok (.if_icmp .ge 10, 3) := by decide +kernel
theorem dX0_mostPressing_52 : decode cX0_mostPressing 52 = .ok (.iload 5, 2) := by decide +kernel
theorem dX0_mostPressing_54 : decode cX0_mostPressing 54 = .ok (.istore_n 3, 1) := by decide +kernel
theorem dX0_mostPressing_55 : decode cX0_mostPressing 55 = .ok (.iload 6, 2) := by decide +kernel
theorem dX0_mostPressing_57 : decode cX0_mostPressing 57 = .ok (.istore 4, 2) := by decide +kernel
theorem dX0_mostPressing_59 : decode cX0_mostPressing 59 = .ok (.iinc 5 1, 3) := by decide +kernel
theorem dX0_mostPressing_62 : decode cX0_mostPressing 62 = .ok (.goto (-54), 3) := by decide +kernel
theorem dX0_mostPressing_65 : decode cX0_mostPressing 65 = .ok (.iload_n 3, 1) := by decide +kernel
theorem dX0_mostPressing_66 : decode cX0_mostPressing 66 = .ok (.ireturn, 1) := by decide +kernel
set_option maxRecDepth 20000 in
theorem ggX0_isDue_X0_nextGap : GoodIn wsX0_isDue wsX0_nextGap := goodIn_r _ [8, 2, 18, 19, 20, 21, 22, 23, 24, 25, 26, 9, 10, 11, 12, 13, 14, 15, 16, 17] (by decide +kernel) (by decide +kernel)
set_option maxRecDepth 20000 in
theorem gX0_isDue_X0_nextGap : GoodIn wsX0_isDue (wsV RX0 90 RX0 yX0_nextGap wsX0_nextGap) := goodIn_app (goodIn_of _ (by decide +kernel)) ggX0_isDue_X0_nextGap
theorem dX0_isDue_0 : decode cX0_isDue 0 = .ok (.aload_n 0, 1) := by decide +kernel
theorem dX0_isDue_1 : decode cX0_isDue 1 = .ok (.getfield 21, 3) := by decide +kernel
theorem dX0_isDue_4 : decode cX0_isDue 4 = .ok (.iload_n 1, 1) := by decide +kernel
theorem dX0_isDue_5 : decode cX0_isDue 5 = .ok (.iaload, 1) := by decide +kernel
theorem dX0_isDue_6 : decode cX0_isDue 6 = .ok (.aload_n 3, 1) := by decide +kernel
theorem dX0_isDue_7 : decode cX0_isDue 7 = .ok (.getfield 84, 3) := by decide +kernel
theorem dX0_isDue_10 : decode cX0_isDue 10 = .ok (.iload_n 1, 1) := by decide +kernel
theorem dX0_isDue_11 : decode cX0_isDue 11 = .ok (.iaload, 1) := by decide +kernel
theorem dX0_isDue_12 : decode cX0_isDue 12 = .ok (.if_icmp .lt 39, 3) := by decide +kernel
theorem dX0_isDue_15 : decode cX0_isDue 15 = .ok (.aload_n 0, 1) := by decide +kernel
theorem dX0_isDue_16 : decode cX0_isDue 16 = .ok (.getfield 24, 3) := by decide +kernel
theorem dX0_isDue_19 : decode cX0_isDue 19 = .ok (.iload_n 1, 1) := by decide +kernel
theorem dX0_isDue_20 : decode cX0_isDue 20 = .ok (.iaload, 1) := by decide +kernel
theorem dX0_isDue_21 : decode cX0_isDue 21 = .ok (.aload_n 3, 1) := by decide +kernel
theorem dX0_isDue_22 : decode cX0_isDue 22 = .ok (.getfield 87, 3) := by decide +kernel
theorem dX0_isDue_25 : decode cX0_isDue 25 = .ok (.iload_n 1, 1) := by decide +kernel
theorem dX0_isDue_26 : decode cX0_isDue 26 = .ok (.iaload, 1) := by decide +kernel
theorem dX0_isDue_27 : decode cX0_isDue 27 = .ok (.if_icmp .ge 24, 3) := by decide +kernel
theorem dX0_isDue_30 : decode cX0_isDue 30 = .ok (.iload_n 2, 1) := by decide +kernel
theorem dX0_isDue_31 : decode cX0_isDue 31 = .ok (.aload_n 0, 1) := by decide +kernel
theorem dX0_isDue_32 : decode cX0_isDue 32 = .ok (.getfield 27, 3) := by decide +kernel
theorem dX0_isDue_35 : decode cX0_isDue 35 = .ok (.iload_n 1, 1) := by decide +kernel
theorem dX0_isDue_36 : decode cX0_isDue 36 = .ok (.iaload, 1) := by decide +kernel
theorem dX0_isDue_37 : decode cX0_isDue 37 = .ok (.aload_n 0, 1) := by decide +kernel
theorem dX0_isDue_38 : decode cX0_isDue 38 = .ok (.iload_n 1, 1) := by decide +kernel
theorem dX0_isDue_39 : decode cX0_isDue 39 = .ok (.aload_n 3, 1) := by decide +kernel
theorem dX0_isDue_40 : decode cX0_isDue 40 = .ok (.invokevirtual 90, 3) := by decide +kernel
theorem dX0_isDue_43 : decode cX0_isDue 43 = .ok (.iadd, 1) := by decide +kernel
theorem dX0_isDue_44 : decode cX0_isDue 44 = .ok (.if_icmp .lt 7, 3) := by decide +kernel
theorem dX0_isDue_47 : decode cX0_isDue 47 = .ok (.iconst 1, 1) := by decide +kernel
theorem dX0_isDue_48 : decode cX0_isDue 48 = .ok (.goto 4, 3) := by decide +kernel
theorem dX0_isDue_51 : decode cX0_isDue 51 = .ok (.iconst 0, 1) := by decide +kernel
theorem dX0_isDue_52 : decode cX0_isDue 52 = .ok (.ireturn, 1) := by decide +kernel
set_option maxRecDepth 20000 in
theorem ggX0_lateFrom_X0_nextGap : GoodIn wsX0_lateFrom wsX0_nextGap := goodIn_r _ [6, 7, 17, 18, 19, 20, 21, 22, 23, 24, 25, 8, 9, 10, 11, 12, 13, 14, 15, 16] (by decide +kernel) (by decide +kernel)
set_option maxRecDepth 20000 in
theorem gX0_lateFrom_X0_nextGap : GoodIn wsX0_lateFrom (wsV RX0 90 RX0 yX0_nextGap wsX0_nextGap) := goodIn_app (goodIn_of _ (by decide +kernel)) ggX0_lateFrom_X0_nextGap
theorem dX0_lateFrom_0 : decode cX0_lateFrom 0 = .ok (.aload_n 0, 1) := by decide +kernel
theorem dX0_lateFrom_1 : decode cX0_lateFrom 1 = .ok (.getfield 27, 3) := by decide +kernel
theorem dX0_lateFrom_4 : decode cX0_lateFrom 4 = .ok (.iload_n 1, 1) := by decide +kernel
theorem dX0_lateFrom_5 : decode cX0_lateFrom 5 = .ok (.iaload, 1) := by decide +kernel
theorem dX0_lateFrom_6 : decode cX0_lateFrom 6 = .ok (.iconst 2, 1) := by decide +kernel
theorem dX0_lateFrom_7 : decode cX0_lateFrom 7 = .ok (.aload_n 0, 1) := by decide +kernel
theorem dX0_lateFrom_8 : decode cX0_lateFrom 8 = .ok (.iload_n 1, 1) := by decide +kernel
theorem dX0_lateFrom_9 : decode cX0_lateFrom 9 = .ok (.aload_n 2, 1) := by decide +kernel
theorem dX0_lateFrom_10 : decode cX0_lateFrom 10 = .ok (.invokevirtual 90, 3) := by decide +kernel
theorem dX0_lateFrom_13 : decode cX0_lateFrom 13 = .ok (.imul, 1) := by decide +kernel
theorem dX0_lateFrom_14 : decode cX0_lateFrom 14 = .ok (.iadd, 1) := by decide +kernel
theorem dX0_lateFrom_15 : decode cX0_lateFrom 15 = .ok (.ireturn, 1) := by decide +kernel
theorem dX0_nextGap_0 : decode cX0_nextGap 0 = .ok (.aload_n 2, 1) := by decide +kernel
theorem dX0_nextGap_1 : decode cX0_nextGap 1 = .ok (.getfield 93, 3) := by decide +kernel
theorem dX0_nextGap_4 : decode cX0_nextGap 4 = .ok (.iload_n 1, 1) := by decide +kernel
theorem dX0_nextGap_5 : decode cX0_nextGap 5 = .ok (.iaload, 1) := by decide +kernel
theorem dX0_nextGap_6 : decode cX0_nextGap 6 = .ok (.aload_n 0, 1) := by decide +kernel
theorem dX0_nextGap_7 : decode cX0_nextGap 7 = .ok (.getfield 24, 3) := by decide +kernel
theorem dX0_nextGap_10 : decode cX0_nextGap 10 = .ok (.iload_n 1, 1) := by decide +kernel
theorem dX0_nextGap_11 : decode cX0_nextGap 11 = .ok (.iaload, 1) := by decide +kernel
theorem dX0_nextGap_12 : decode cX0_nextGap 12 = .ok (.ishl, 1) := by decide +kernel
theorem dX0_nextGap_13 : decode cX0_nextGap 13 = .ok (.ireturn, 1) := by decide +kernel
theorem dX0_firstUnfinished_0 : decode cX0_firstUnfinished 0 = .ok (.iconst 0, 1) := by decide +kernel
theorem dX0_firstUnfinished_1 : decode cX0_firstUnfinished 1 = .ok (.istore_n 2, 1) := by decide +kernel
theorem dX0_firstUnfinished_2 : decode cX0_firstUnfinished 2 = .ok (.iload_n 2, 1) := by decide +kernel
theorem dX0_firstUnfinished_3 : decode cX0_firstUnfinished 3 = .ok (.aload_n 1, 1) := by decide +kernel
theorem dX0_firstUnfinished_4 : decode cX0_firstUnfinished 4 = .ok (.getfield 73, 3) := by decide +kernel
theorem dX0_firstUnfinished_7 : decode cX0_firstUnfinished 7 = .ok (.if_icmp .ge 33, 3) := by decide +kernel
theorem dX0_firstUnfinished_10 : decode cX0_firstUnfinished 10 = .ok (.aload_n 1, 1) := by decide +kernel
theorem dX0_firstUnfinished_11 : decode cX0_firstUnfinished 11 = .ok (.getfield 96, 3) := by decide +kernel
theorem dX0_firstUnfinished_14 : decode cX0_firstUnfinished 14 = .ok (.iload_n 2, 1) := by decide +kernel
theorem dX0_firstUnfinished_15 : decode cX0_firstUnfinished 15 = .ok (.iaload, 1) := by decide +kernel
theorem dX0_firstUnfinished_16 : decode cX0_firstUnfinished 16 = .ok (.istore_n 3, 1) := by decide +kernel
theorem dX0_firstUnfinished_17 : decode cX0_firstUnfinished 17 = .ok (.aload_n 0, 1) := by decide +kernel
theorem dX0_firstUnfinished_18 : decode cX0_firstUnfinished 18 = .ok (.getfield 21, 3) := by decide +kernel
theorem dX0_firstUnfinished_21 : decode cX0_firstUnfinished 21 = .ok (.iload_n 3, 1) := by decide +kernel
theorem dX0_firstUnfinished_22 : decode cX0_firstUnfinished 22 = .ok (.iaload, 1) := by decide +kernel
theorem dX0_firstUnfinished_23 : decode cX0_firstUnfinished 23 = .ok (.aload_n 1, 1) := by decide +kernel
theorem dX0_firstUnfinished_24 : decode cX0_firstUnfinished 24 = .ok (.getfield 84, 3) := by decide +kernel
theorem dX0_firstUnfinished_27 : decode cX0_firstUnfinished 27 = .ok (.iload_n 3, 1) := by decide +kernel
theorem dX0_firstUnfinished_28 : decode cX0_firstUnfinished 28 = .ok (.iaload, 1) := by decide +kernel
theorem dX0_firstUnfinished_29 : decode cX0_firstUnfinished 29 = .ok (.if_icmp .ge 5, 3) := by decide +kernel
theorem dX0_firstUnfinished_32 : decode cX0_firstUnfinished 32 = .ok (.iload_n 3, 1) := by decide +kernel
theorem dX0_firstUnfinished_33 : decode cX0_firstUnfinished 33 = .ok (.ireturn, 1) := by decide +kernel
theorem dX0_firstUnfinished_34 : decode cX0_firstUnfinished 34 = .ok (.iinc 2 1, 3) := by decide +kernel
theorem dX0_firstUnfinished_37 : decode cX0_firstUnfinished 37 = .ok (.goto (-35), 3) := by decide +kernel
theorem dX0_firstUnfinished_40 : decode cX0_firstUnfinished 40 = .ok (.iconst (-1), 1) := by decide +kernel
theorem dX0_firstUnfinished_41 : decode cX0_firstUnfinished 41 = .ok (.ireturn, 1) := by decide +kernel
set_option maxRecDepth 20000 in
theorem ggX0_isKitTaken_X0_isOthersLesson : GoodIn wsX0_isKitTaken wsX0_isOthersLesson := goodIn_r _ [5, 6, 7, 8, 9, 10, 11, 12, 13, 14] (by decide +kernel) (by decide +kernel)
set_option maxRecDepth 20000 in
theorem gX0_isKitTaken_X0_isOthersLesson : GoodIn wsX0_isKitTaken (va_wsS RX0 102 yX0_isOthersLesson wsX0_isOthersLesson) := goodIn_app (goodIn_of _ (by decide +kernel)) ggX0_isKitTaken_X0_isOthersLesson
theorem dX0_isKitTaken_0 : decode cX0_isKitTaken 0 = .ok (.aload_n 3, 1) := by decide +kernel
theorem dX0_isKitTaken_1 : decode cX0_isKitTaken 1 = .ok (.getfield 99, 3) := by decide +kernel
theorem dX0_isKitTaken_4 : decode cX0_isKitTaken 4 = .ok (.iload_n 1, 1) := by decide +kernel
theorem dX0_isKitTaken_5 : decode cX0_isKitTaken 5 = .ok (.iaload, 1) := by decide +kernel
theorem dX0_isKitTaken_6 : decode cX0_isKitTaken 6 = .ok (.iconst (-1), 1) := by decide +kernel
theorem dX0_isKitTaken_7 : decode cX0_isKitTaken 7 = .ok (.if_icmp .ne 5, 3) := by decide +kernel
theorem dX0_isKitTaken_10 : decode cX0_isKitTaken 10 = .ok (.iconst 0, 1) := by decide +kernel
theorem dX0_isKitTaken_11 : decode cX0_isKitTaken 11 = .ok (.ireturn, 1) := by decide +kernel
theorem dX0_isKitTaken_12 : decode cX0_isKitTaken 12 = .ok (.iload_n 2, 1) := by decide +kernel
theorem dX0_isKitTaken_13 : decode cX0_isKitTaken 13 = .ok (.iconst 2, 1) := by decide +kernel
theorem dX0_isKitTaken_14 : decode cX0_isKitTaken 14 = .ok (.isub, 1) := by decide +kernel
theorem dX0_isKitTaken_15 : decode cX0_isKitTaken 15 = .ok (.istore 4, 2) := by decide +kernel
theorem dX0_isKitTaken_17 : decode cX0_isKitTaken 17 = .ok (.iload 4, 2) := by decide +kernel
theorem dX0_isKitTaken_19 : decode cX0_isKitTaken 19 = .ok (.iload_n 2, 1) := by decide +kernel
theorem dX0_isKitTaken_20 : decode cX0_isKitTaken 20 = .ok (.if_icmp .ge 52, 3) := by decide +kernel
theorem dX0_isKitTaken_23 : decode cX0_isKitTaken 23 = .ok (.iload 4, 2) := by decide +kernel
theorem dX0_isKitTaken_25 : decode cX0_isKitTaken 25 = .ok (.ifCond .lt 41, 3) := by decide +kernel
theorem dX0_isKitTaken_28 : decode cX0_isKitTaken 28 = .ok (.aload_n 0, 1) := by decide +kernel
theorem dX0_isKitTaken_29 : decode cX0_isKitTaken 29 = .ok (.getfield 9, 3) := by decide +kernel
theorem dX0_isKitTaken_32 : decode cX0_isKitTaken 32 = .ok (.iload 4, 2) := by decide +kernel
theorem dX0_isKitTaken_34 : decode cX0_isKitTaken 34 = .ok (.iaload, 1) := by decide +kernel
theorem dX0_isKitTaken_35 : decode cX0_isKitTaken 35 = .ok (.iload_n 1, 1) := by decide +kernel
theorem dX0_isKitTaken_36 : decode cX0_isKitTaken 36 = .ok (.aload_n 3, 1) := by decide +kernel
theorem dX0_isKitTaken_37 : decode cX0_isKitTaken 37 = .ok (.invokestatic 102, 3) := by decide +kernel
theorem dX0_isKitTaken_40 : decode cX0_isKitTaken 40 = .ok (.ifCond .eq 26, 3) := by decide +kernel
theorem dX0_isKitTaken_43 : decode cX0_isKitTaken 43 = .ok (.aload_n 3, 1) := by decide +kernel
theorem dX0_isKitTaken_44 : decode cX0_isKitTaken 44 = .ok (.getfield 99, 3) := by decide +kernel
theorem dX0_isKitTaken_47 : decode cX0_isKitTaken 47 = .ok (.aload_n 0, 1) := by decide +kernel
theorem dX0_isKitTaken_48 : decode cX0_isKitTaken 48 = .ok (.getfield 9, 3) := by decide +kernel
theorem dX0_isKitTaken_51 : decode cX0_isKitTaken 51 = .ok (.iload 4, 2) := by decide +kernel
theorem dX0_isKitTaken_53 : decode cX0_isKitTaken 53 = .ok (.iaload, 1) := by decide +kernel
theorem dX0_isKitTaken_54 : decode cX0_isKitTaken 54 = .ok (.iaload, 1) := by decide +kernel
theorem dX0_isKitTaken_55 : decode cX0_isKitTaken 55 = .ok (.aload_n 3, 1) := by decide +kernel
theorem dX0_isKitTaken_56 : decode cX0_isKitTaken 56 = .ok (.getfield 99, 3) := by decide +kernel
theorem dX0_isKitTaken_59 : decode cX0_isKitTaken 59 = .ok (.iload_n 1, 1) := by decide +kernel
theorem dX0_isKitTaken_60 : decode cX0_isKitTaken 60 = .ok (.iaload, 1) := by decide +kernel
theorem dX0_isKitTaken_61 : decode cX0_isKitTaken 61 = .ok (.if_icmp .ne 5, 3) := by decide +kernel
theorem dX0_isKitTaken_64 : decode cX0_isKitTaken 64 = .ok (.iconst 1, 1) := by decide +kernel
theorem dX0_isKitTaken_65 : decode cX0_isKitTaken 65 = .ok (.ireturn, 1) := by decide +kernel
theorem dX0_isKitTaken_66 : decode cX0_isKitTaken 66 = .ok (.iinc 4 1, 3) := by decide +kernel
theorem dX0_isKitTaken_69 : decode cX0_isKitTaken 69 = .ok (.goto (-52), 3) := by decide +kernel
theorem dX0_isKitTaken_72 : decode cX0_isKitTaken 72 = .ok (.iconst 0, 1) := by decide +kernel
theorem dX0_isKitTaken_73 : decode cX0_isKitTaken 73 = .ok (.ireturn, 1) := by decide +kernel
theorem dX0_isOthersLesson_0 : decode cX0_isOthersLesson 0 = .ok (.iload_n 0, 1) := by decide +kernel
theorem dX0_isOthersLesson_1 : decode cX0_isOthersLesson 1 = .ok (.ifCond .lt 20, 3) := by decide +kernel
theorem dX0_isOthersLesson_4 : decode cX0_isOthersLesson 4 = .ok (.iload_n 0, 1) := by decide +kernel
theorem dX0_isOthersLesson_5 : decode cX0_isOthersLesson 5 = .ok (.aload_n 2, 1) := by decide +kernel
theorem dX0_isOthersLesson_6 : decode cX0_isOthersLesson 6 = .ok (.getfield 73, 3) := by decide +kernel
theorem dX0_isOthersLesson_9 : decode cX0_isOthersLesson 9 = .ok (.if_icmp .ge 12, 3) := by decide +kernel
theorem dX0_isOthersLesson_12 : decode cX0_isOthersLesson 12 = .ok (.iload_n 0, 1) := by decide +kernel
theorem dX0_isOthersLesson_13 : decode cX0_isOthersLesson 13 = .ok (.iload_n 1, 1) := by decide +kernel
theorem dX0_isOthersLesson_14 : decode cX0_isOthersLesson 14 = .ok (.if_icmp .eq 7, 3) := by decide +kernel
theorem dX0_isOthersLesson_17 : decode cX0_isOthersLesson 17 = .ok (.iconst 1, 1) := by decide +kernel
theorem dX0_isOthersLesson_18 : decode cX0_isOthersLesson 18 = .ok (.goto 4, 3) := by decide +kernel
theorem dX0_isOthersLesson_21 : decode cX0_isOthersLesson 21 = .ok (.iconst 0, 1) := by decide +kernel
theorem dX0_isOthersLesson_22 : decode cX0_isOthersLesson 22 = .ok (.ireturn, 1) := by decide +kernel
set_option maxRecDepth 20000 in
theorem ggX0_layLesson_X0_use : GoodIn wsX0_layLesson wsX0_use := goodIn_r _ [7, 8, 9, 10, 11, 12, 13, 14, 15, 16, 17, 18, 19, 20] (by decide +kernel) (by decide +kernel)
set_option maxRecDepth 20000 in
theorem gX0_layLesson_X0_use : GoodIn wsX0_layLesson (wsV RX0 105 RX0 yX0_use wsX0_use) := goodIn_app (goodIn_of _ (by decide +kernel)) ggX0_layLesson_X0_use
theorem dX0_layLesson_0 : decode cX0_layLesson 0 = .ok (.aload_n 0, 1) := by decide +kernel
theorem dX0_layLesson_1 : decode cX0_layLesson 1 = .ok (.getfield 15, 3) := by decide +kernel
theorem dX0_layLesson_4 : decode cX0_layLesson 4 = .ok (.iload_n 1, 1) := by decide +kernel
theorem dX0_layLesson_5 : decode cX0_layLesson 5 = .ok (.iconst 5, 1) := by decide +kernel
theorem dX0_layLesson_6 : decode cX0_layLesson 6 = .ok (.imul, 1) := by decide +kernel
theorem dX0_layLesson_7 : decode cX0_layLesson 7 = .ok (.aload_n 0, 1) := by decide +kernel
theorem dX0_layLesson_8 : decode cX0_layLesson 8 = .ok (.getfield 21, 3) := by decide +kernel
theorem dX0_layLesson_11 : decode cX0_layLesson 11 = .ok (.iload_n 1, 1) := by decide +kernel
theorem dX0_layLesson_12 : decode cX0_layLesson 12 = .ok (.iaload, 1) := by decide +kernel
theorem dX0_layLesson_13 : decode cX0_layLesson 13 = .ok (.iadd, 1) := by decide +kernel
theorem dX0_layLesson_14 : decode cX0_layLesson 14 = .ok (.iload_n 2, 1) := by decide +kernel
theorem dX0_layLesson_15 : decode cX0_layLesson 15 = .ok (.iastore, 1) := by decide +kernel
theorem dX0_layLesson_16 : decode cX0_layLesson 16 = .ok (.aload_n 0, 1) := by decide +kernel
theorem dX0_layLesson_17 : decode cX0_layLesson 17 = .ok (.getfield 21, 3) := by decide +kernel
theorem dX0_layLesson_20 : decode cX0_layLesson 20 = .ok (.iload_n 1, 1) := by decide +kernel
theorem dX0_layLesson_21 : decode cX0_layLesson 21 = .ok (.dup2, 1) := by decide +kernel
theorem dX0_layLesson_22 : decode cX0_layLesson 22 = .ok (.iaload, 1) := by decide +kernel
theorem dX0_layLesson_23 : decode cX0_layLesson 23 = .ok (.iconst 1, 1) := by decide +kernel
theorem dX0_layLesson_24 : decode cX0_layLesson 24 = .ok (.iadd, 1) := by decide +kernel
theorem dX0_layLesson_25 : decode cX0_layLesson 25 = .ok (.iastore, 1) := by decide +kernel
theorem dX0_layLesson_26 : decode cX0_layLesson 26 = .ok (.aload_n 0, 1) := by decide +kernel
theorem dX0_layLesson_27 : decode cX0_layLesson 27 = .ok (.iload_n 2, 1) := by decide +kernel
theorem dX0_layLesson_28 : decode cX0_layLesson 28 = .ok (.iload_n 1, 1) := by decide +kernel
theorem dX0_layLesson_29 : decode cX0_layLesson 29 = .ok (.iload_n 1, 1) := by decide +kernel
theorem dX0_layLesson_30 : decode cX0_layLesson 30 = .ok (.invokevirtual 105, 3) := by decide +kernel
theorem dX0_layLesson_33 : decode cX0_layLesson 33 = .ok (.return_, 1) := by decide +kernel
set_option maxRecDepth 20000 in
theorem ggX0_layRevisit_X0_lateFrom : GoodIn wsX0_layRevisit wsX0_lateFrom := goodIn_r _ [8, 9, 10, 11, 12, 7, 13, 3, 21, 22, 23, 24, 25, 26, 27, 28, 29, 30, 31, 32, 33, 34, 35, 36, 37, 38] (by decide +kernel) (by decide +kernel)
set_option maxRecDepth 20000 in
theorem gX0_layRevisit_X0_lateFrom : GoodIn wsX0_layRevisit (wsV RX0 81 RX0 yX0_lateFrom wsX0_lateFrom) := goodIn_app (goodIn_of _ (by decide +kernel)) ggX0_layRevisit_X0_lateFrom
set_option maxRecDepth 20000 in
theorem ggX0_layRevisit_X0_use : GoodIn wsX0_layRevisit wsX0_use := goodIn_r _ [17, 18, 9, 19, 20, 21, 22, 23, 24, 25, 26, 27, 28, 29] (by decide +kernel) (by decide +kernel)
set_option maxRecDepth 20000 in
theorem gX0_layRevisit_X0_use : GoodIn wsX0_layRevisit (wsV RX0 105 RX0 yX0_use wsX0_use) := goodIn_app (goodIn_of _ (by decide +kernel)) ggX0_layRevisit_X0_use
theorem dX0_layRevisit_0 : decode cX0_layRevisit 0 = .ok (.iload_n 2, 1) := by decide +kernel
theorem dX0_layRevisit_1 : decode cX0_layRevisit 1 = .ok (.aload_n 0, 1) := by decide +kernel
theorem dX0_layRevisit_2 : decode cX0_layRevisit 2 = .ok (.iload_n 1, 1) := by decide +kernel
theorem dX0_layRevisit_3 : decode cX0_layRevisit 3 = .ok (.aload_n 3, 1) := by decide +kernel
theorem dX0_layRevisit_4 : decode cX0_layRevisit 4 = .ok (.invokevirtual 81, 3) := by decide +kernel
theorem dX0_layRevisit_7 : decode cX0_layRevisit 7 = .ok (.if_icmp .lt 13, 3) := by decide +kernel
theorem dX0_layRevisit_10 : decode cX0_layRevisit 10 = .ok (.aload_n 0, 1) := by decide +kernel
theorem dX0_layRevisit_11 : decode cX0_layRevisit 11 = .ok (.dup, 1) := by decide +kernel
theorem dX0_layRevisit_12 : decode cX0_layRevisit 12 = .ok (.getfield 43, 3) := by decide +kernel
theorem dX0_layRevisit_15 : decode cX0_layRevisit 15 = .ok (.iconst 1, 1) := by decide +kernel
theorem dX0_layRevisit_16 : decode cX0_layRevisit 16 = .ok (.iadd, 1) := by decide +kernel
theorem dX0_layRevisit_17 : decode cX0_layRevisit 17 = .ok (.putfield 43, 3) := by decide +kernel
theorem dX0_layRevisit_20 : decode cX0_layRevisit 20 = .ok (.aload_n 0, 1) := by decide +kernel
theorem dX0_layRevisit_21 : decode cX0_layRevisit 21 = .ok (.getfield 18, 3) := by decide +kernel
theorem dX0_layRevisit_24 : decode cX0_layRevisit 24 = .ok (.iload_n 1, 1) := by decide +kernel
theorem dX0_layRevisit_25 : decode cX0_layRevisit 25 = .ok (.iconst 3, 1) := by decide +kernel
theorem dX0_layRevisit_26 : decode cX0_layRevisit 26 = .ok (.imul, 1) := by decide +kernel
theorem dX0_layRevisit_27 : decode cX0_layRevisit 27 = .ok (.aload_n 0, 1) := by decide +kernel
theorem dX0_layRevisit_28 : decode cX0_layRevisit 28 = .ok (.getfield 24, 3) := by decide +kernel
theorem dX0_layRevisit_31 : decode cX0_layRevisit 31 = .ok (.iload_n 1, 1) := by decide +kernel
theorem dX0_layRevisit_32 : decode cX0_layRevisit 32 = .ok (.iaload, 1) := by decide +kernel
theorem dX0_layRevisit_33 : decode cX0_layRevisit 33 = .ok (.iadd, 1) := by decide +kernel
theorem dX0_layRevisit_34 : decode cX0_layRevisit 34 = .ok (.iload_n 2, 1) := by decide +kernel
theorem dX0_layRevisit_35 : decode cX0_layRevisit 35 = .ok (.iastore, 1) := by decide +kernel
theorem dX0_layRevisit_36 : decode cX0_layRevisit 36 = .ok (.aload_n 0, 1) := by decide +kernel
theorem dX0_layRevisit_37 : decode cX0_layRevisit 37 = .ok (.getfield 24, 3) := by decide +kernel
theorem dX0_layRevisit_40 : decode cX0_layRevisit 40 = .ok (.iload_n 1, 1) := by decide +kernel
theorem dX0_layRevisit_41 : decode cX0_layRevisit 41 = .ok (.dup2, 1) := by decide +kernel
theorem dX0_layRevisit_42 : decode cX0_layRevisit 42 = .ok (.iaload, 1) := by decide +kernel
theorem dX0_layRevisit_43 : decode cX0_layRevisit 43 = .ok (.iconst 1, 1) := by decide +kernel
theorem dX0_layRevisit_44 : decode cX0_layRevisit 44 = .ok (.iadd, 1) := by decide +kernel
theorem dX0_layRevisit_45 : decode cX0_layRevisit 45 = .ok (.iastore, 1) := by decide +kernel
theorem dX0_layRevisit_46 : decode cX0_layRevisit 46 = .ok (.aload_n 0, 1) := by decide +kernel
theorem dX0_layRevisit_47 : decode cX0_layRevisit 47 = .ok (.iload_n 2, 1) := by decide +kernel
theorem dX0_layRevisit_48 : decode cX0_layRevisit 48 = .ok (.iload_n 1, 1) := by decide +kernel
theorem dX0_layRevisit_49 : decode cX0_layRevisit 49 = .ok (.bipush 100, 2) := by decide +kernel
theorem dX0_layRevisit_51 : decode cX0_layRevisit 51 = .ok (.iload_n 1, 1) := by decide +kernel
theorem dX0_layRevisit_52 : decode cX0_layRevisit 52 = .ok (.iadd, 1) := by decide +kernel
theorem dX0_layRevisit_53 : decode cX0_layRevisit 53 = .ok (.invokevirtual 105, 3) := by decide +kernel
theorem dX0_layRevisit_56 : decode cX0_layRevisit 56 = .ok (.return_, 1) := by decide +kernel
theorem dX0_use_0 : decode cX0_use 0 = .ok (.aload_n 0, 1) := by decide +kernel
theorem dX0_use_1 : decode cX0_use 1 = .ok (.getfield 9, 3) := by decide +kernel
theorem dX0_use_4 : decode cX0_use 4 = .ok (.iload_n 1, 1) := by decide +kernel
theorem dX0_use_5 : decode cX0_use 5 = .ok (.iload_n 3, 1) := by decide +kernel
theorem dX0_use_6 : decode cX0_use 6 = .ok (.iastore, 1) := by decide +kernel
theorem dX0_use_7 : decode cX0_use 7 = .ok (.aload_n 0, 1) := by decide +kernel
theorem dX0_use_8 : decode cX0_use 8 = .ok (.getfield 27, 3) := by decide +kernel
theorem dX0_use_11 : decode cX0_use 11 = .ok (.iload_n 2, 1) := by decide +kernel
theorem dX0_use_12 : decode cX0_use 12 = .ok (.iload_n 1, 1) := by decide +kernel
theorem dX0_use_13 : decode cX0_use 13 = .ok (.iastore, 1) := by decide +kernel
theorem dX0_use_14 : decode cX0_use 14 = .ok (.aload_n 0, 1) := by decide +kernel
theorem dX0_use_15 : decode cX0_use 15 = .ok (.dup, 1) := by decide +kernel
theorem dX0_use_16 : decode cX0_use 16 = .ok (.getfield 39, 3) := by decide +kernel
theorem dX0_use_19 : decode cX0_use 19 = .ok (.iconst 1, 1) := by decide +kernel
theorem dX0_use_20 : decode cX0_use 20 = .ok (.iadd, 1) := by decide +kernel
theorem dX0_use_21 : decode cX0_use 21 = .ok (.putfield 39, 3) := by decide +kernel
theorem dX0_use_24 : decode cX0_use 24 = .ok (.aload_n 0, 1) := by decide +kernel
theorem dX0_use_25 : decode cX0_use 25 = .ok (.iload_n 1, 1) := by decide +kernel
theorem dX0_use_26 : decode cX0_use 26 = .ok (.putfield 46, 3) := by decide +kernel
theorem dX0_use_29 : decode cX0_use 29 = .ok (.return_, 1) := by decide +kernel
set_option maxRecDepth 20000 in
theorem ggX0_movedSince_X0_changed : GoodIn wsX0_movedSince wsX0_changed := goodIn_r _ [6] (by decide +kernel) (by decide +kernel)
set_option maxRecDepth 20000 in
theorem gX0_movedSince_X0_changed : GoodIn wsX0_movedSince (va_wsS RX0 109 yX0_changed wsX0_changed) := goodIn_app (goodIn_of _ (by decide +kernel)) ggX0_movedSince_X0_changed
theorem dX0_movedSince_0 : decode cX0_movedSince 0 = .ok (.aload_n 1, 1) := by decide +kernel
theorem dX0_movedSince_1 : decode cX0_movedSince 1 = .ok (.getfield 15, 3) := by decide +kernel
theorem dX0_movedSince_4 : decode cX0_movedSince 4 = .ok (.aload_n 0, 1) := by decide +kernel
theorem dX0_movedSince_5 : decode cX0_movedSince 5 = .ok (.getfield 15, 3) := by decide +kernel
theorem dX0_movedSince_8 : decode cX0_movedSince 8 = .ok (.invokestatic 109, 3) := by decide +kernel
theorem dX0_movedSince_11 : decode cX0_movedSince 11 = .ok (.aload_n 1, 1) := by decide +kernel
theorem dX0_movedSince_12 : decode cX0_movedSince 12 = .ok (.getfield 18, 3) := by decide +kernel
theorem dX0_movedSince_15 : decode cX0_movedSince 15 = .ok (.aload_n 0, 1) := by decide +kernel
theorem dX0_movedSince_16 : decode cX0_movedSince 16 = .ok (.getfield 18, 3) := by decide +kernel
theorem dX0_movedSince_19 : decode cX0_movedSince 19 = .ok (.invokestatic 109, 3) := by decide +kernel
theorem dX0_movedSince_22 : decode cX0_movedSince 22 = .ok (.iadd, 1) := by decide +kernel
theorem dX0_movedSince_23 : decode cX0_movedSince 23 = .ok (.ireturn, 1) := by decide +kernel
theorem dX0_changed_0 : decode cX0_changed 0 = .ok (.iconst 0, 1) := by decide +kernel
theorem dX0_changed_1 : decode cX0_changed 1 = .ok (.istore_n 2, 1) := by decide +kernel
theorem dX0_changed_2 : decode cX0_changed 2 = .ok (.iconst 0, 1) := by decide +kernel
theorem dX0_changed_3 : decode cX0_changed 3 = .ok (.istore_n 3, 1) := by decide +kernel
theorem dX0_changed_4 : decode cX0_changed 4 = .ok (.iload_n 3, 1) := by decide +kernel
theorem dX0_changed_5 : decode cX0_changed 5 = .ok (.aload_n 0, 1) := by decide +kernel
theorem dX0_changed_6 : decode cX0_changed 6 = .ok (.arraylength, 1) := by decide +kernel
theorem dX0_changed_7 : decode cX0_changed 7 = .ok (.if_icmp .ge 34, 3) := by decide +kernel
theorem dX0_changed_10 : decode cX0_changed 10 = .ok (.iload_n 3, 1) := by decide +kernel
theorem dX0_changed_11 : decode cX0_changed 11 = .ok (.aload_n 1, 1) := by decide +kernel
theorem dX0_changed_12 : decode cX0_changed 12 = .ok (.arraylength, 1) := by decide +kernel
theorem dX0_changed_13 : decode cX0_changed 13 = .ok (.if_icmp .ge 28, 3) := by decide +kernel
theorem dX0_changed_16 : decode cX0_changed 16 = .ok (.aload_n 0, 1) := by decide +kernel
theorem dX0_changed_17 : decode cX0_changed 17 = .ok (.iload_n 3, 1) := by decide +kernel
theorem dX0_changed_18 : decode cX0_changed 18 = .ok (.iaload, 1) := by decide +kernel
theorem dX0_changed_19 : decode cX0_changed 19 = .ok (.iconst (-1), 1) := by decide +kernel
theorem dX0_changed_20 : decode cX0_changed 20 = .ok (.if_icmp .eq 15, 3) := by decide +kernel
theorem dX0_changed_23 : decode cX0_changed 23 = .ok (.aload_n 0, 1) := by decide +kernel
theorem dX0_changed_24 : decode cX0_changed 24 = .ok (.iload_n 3, 1) := by decide +kernel
theorem dX0_changed_25 : decode cX0_changed 25 = .ok (.iaload, 1) := by decide +kernel
theorem dX0_changed_26 : decode cX0_changed 26 = .ok (.aload_n 1, 1) := by decide +kernel
theorem dX0_changed_27 : decode cX0_changed 27 = .ok (.iload_n 3, 1) := by decide +kernel
theorem dX0_changed_28 : decode cX0_changed 28 = .ok (.iaload, 1) := by decide +kernel
theorem dX0_changed_29 : decode cX0_changed 29 = .ok (.if_icmp .eq 6, 3) := by decide +kernel
theorem dX0_changed_32 : decode cX0_changed 32 = .ok (.iinc 2 1, 3) := by decide +kernel
theorem dX0_changed_35 : decode cX0_changed 35 = .ok (.iinc 3 1, 3) := by decide +kernel
theorem dX0_changed_38 : decode cX0_changed 38 = .ok (.goto (-34), 3) := by decide +kernel
theorem dX0_changed_41 : decode cX0_changed 41 = .ok (.iload_n 2, 1) := by decide +kernel
theorem dX0_changed_42 : decode cX0_changed 42 = .ok (.ireturn, 1) := by decide +kernel
theorem dX1_init_0 : decode cX1_init 0 = .ok (.aload_n 0, 1) := by decide +kernel
theorem dX1_init_1 : decode cX1_init 1 = .ok (.invokespecial 3, 3) := by decide +kernel
theorem dX1_init_4 : decode cX1_init 4 = .ok (.aload_n 0, 1) := by decide +kernel
theorem dX1_init_5 : decode cX1_init 5 = .ok (.bipush 12, 2) := by decide +kernel
theorem dX1_init_7 : decode cX1_init 7 = .ok (.newarray .int, 2) := by decide +kernel
theorem dX1_init_9 : decode cX1_init 9 = .ok (.putfield 9, 3) := by decide +kernel
theorem dX1_init_12 : decode cX1_init 12 = .ok (.aload_n 0, 1) := by decide +kernel
theorem dX1_init_13 : decode cX1_init 13 = .ok (.bipush 12, 2) := by decide +kernel
theorem dX1_init_15 : decode cX1_init 15 = .ok (.newarray .int, 2) := by decide +kernel
theorem dX1_init_17 : decode cX1_init 17 = .ok (.putfield 15, 3) := by decide +kernel
theorem dX1_init_20 : decode cX1_init 20 = .ok (.aload_n 0, 1) := by decide +kernel
theorem dX1_init_21 : decode cX1_init 21 = .ok (.bipush 12, 2) := by decide +kernel
theorem dX1_init_23 : decode cX1_init 23 = .ok (.newarray .int, 2) := by decide +kernel
theorem dX1_init_25 : decode cX1_init 25 = .ok (.putfield 18, 3) := by decide +kernel
theorem dX1_init_28 : decode cX1_init 28 = .ok (.aload_n 0, 1) := by decide +kernel
theorem dX1_init_29 : decode cX1_init 29 = .ok (.bipush 12, 2) := by decide +kernel
theorem dX1_init_31 : decode cX1_init 31 = .ok (.newarray .int, 2) := by decide +kernel
theorem dX1_init_33 : decode cX1_init 33 = .ok (.putfield 21, 3) := by decide +kernel
theorem dX1_init_36 : decode cX1_init 36 = .ok (.aload_n 0, 1) := by decide +kernel
theorem dX1_init_37 : decode cX1_init 37 = .ok (.bipush 12, 2) := by decide +kernel
theorem dX1_init_39 : decode cX1_init 39 = .ok (.newarray .int, 2) := by decide +kernel
theorem dX1_init_41 : decode cX1_init 41 = .ok (.putfield 24, 3) := by decide +kernel
theorem dX1_init_44 : decode cX1_init 44 = .ok (.aload_n 0, 1) := by decide +kernel
theorem dX1_init_45 : decode cX1_init 45 = .ok (.bipush 12, 2) := by decide +kernel
theorem dX1_init_47 : decode cX1_init 47 = .ok (.newarray .int, 2) := by decide +kernel
theorem dX1_init_49 : decode cX1_init 49 = .ok (.putfield 27, 3) := by decide +kernel
theorem dX1_init_52 : decode cX1_init 52 = .ok (.aload_n 0, 1) := by decide +kernel
theorem dX1_init_53 : decode cX1_init 53 = .ok (.bipush 12, 2) := by decide +kernel
theorem dX1_init_55 : decode cX1_init 55 = .ok (.newarray .int, 2) := by decide +kernel
theorem dX1_init_57 : decode cX1_init 57 = .ok (.putfield 30, 3) := by decide +kernel
theorem dX1_init_60 : decode cX1_init 60 = .ok (.aload_n 0, 1) := by decide +kernel
theorem dX1_init_61 : decode cX1_init 61 = .ok (.bipush 12, 2) := by decide +kernel
theorem dX1_init_63 : decode cX1_init 63 = .ok (.newarray .int, 2) := by decide +kernel
theorem dX1_init_65 : decode cX1_init 65 = .ok (.putfield 33, 3) := by decide +kernel
theorem dX1_init_68 : decode cX1_init 68 = .ok (.return_, 1) := by decide +kernel
set_option maxRecDepth 20000 in
theorem ggX1_add_X1_putInOrder : GoodIn wsX1_add wsX1_putInOrder := goodIn_r _ [11, 1, 12, 3, 13, 14, 15, 10, 16, 17, 18, 19, 20, 21, 22, 23, 24, 25, 26, 27, 28, 29, 30, 31, 32] (by decide +kernel) (by decide +kernel)
set_option maxRecDepth 20000 in
theorem gX1_add_X1_putInOrder : GoodIn wsX1_add (wsV RX1 40 RX1 yX1_putInOrder wsX1_putInOrder) := goodIn_app (goodIn_of _ (by decide +kernel)) ggX1_add_X1_putInOrder
theorem dX1_add_0 : decode cX1_add 0 = .ok (.aload_n 0, 1) := by decide +kernel
theorem dX1_add_1 : decode cX1_add 1 = .ok (.getfield 36, 3) := by decide +kernel
theorem dX1_add_4 : decode cX1_add 4 = .ok (.istore 5, 2) := by decide +kernel
theorem dX1_add_6 : decode cX1_add 6 = .ok (.aload_n 0, 1) := by decide +kernel
theorem dX1_add_7 : decode cX1_add 7 = .ok (.getfield 9, 3) := by decide +kernel
theorem dX1_add_10 : decode cX1_add 10 = .ok (.iload 5, 2) := by decide +kernel
theorem dX1_add_12 : decode cX1_add 12 = .ok (.iload_n 1, 1) := by decide +kernel
theorem dX1_add_13 : decode cX1_add 13 = .ok (.iastore, 1) := by decide +kernel
theorem dX1_add_14 : decode cX1_add 14 = .ok (.aload_n 0, 1) := by decide +kernel
theorem dX1_add_15 : decode cX1_add 15 = .ok (.getfield 15, 3) := by decide +kernel
theorem dX1_add_18 : decode cX1_add 18 = .ok (.iload 5, 2) := by decide +kernel
theorem dX1_add_20 : decode cX1_add 20 = .ok (.iload_n 2, 1) := by decide +kernel
theorem dX1_add_21 : decode cX1_add 21 = .ok (.iastore, 1) := by decide +kernel
theorem dX1_add_22 : decode cX1_add 22 = .ok (.aload_n 0, 1) := by decide +kernel
theorem dX1_add_23 : decode cX1_add 23 = .ok (.getfield 18, 3) := by decide +kernel
theorem dX1_add_26 : decode cX1_add 26 = .ok (.iload 5, 2) := by decide +kernel
theorem dX1_add_28 : decode cX1_add 28 = .ok (.iload_n 3, 1) := by decide +kernel
theorem dX1_add_29 : decode cX1_add 29 = .ok (.iastore, 1) := by decide +kernel
theorem dX1_add_30 : decode cX1_add 30 = .ok (.aload_n 0, 1) := by decide +kernel
theorem dX1_add_31 : decode cX1_add 31 = .ok (.getfield 21, 3) := by decide +kernel
theorem dX1_add_34 : decode cX1_add 34 = .ok (.iload 5, 2) := by decide +kernel
theorem dX1_add_36 : decode cX1_add 36 = .ok (.iload 4, 2) := by decide +kernel
theorem dX1_add_38 : decode cX1_add 38 = .ok (.iastore, 1) := by decide +kernel
theorem dX1_add_39 : decode cX1_add 39 = .ok (.aload_n 0, 1) := by decide +kernel
theorem dX1_add_40 : decode cX1_add 40 = .ok (.getfield 27, 3) := by decide +kernel
theorem dX1_add_43 : decode cX1_add 43 = .ok (.iload 5, 2) := by decide +kernel
theorem dX1_add_45 : decode cX1_add 45 = .ok (.iconst 1, 1) := by decide +kernel
theorem dX1_add_46 : decode cX1_add 46 = .ok (.iastore, 1) := by decide +kernel
theorem dX1_add_47 : decode cX1_add 47 = .ok (.aload_n 0, 1) := by decide +kernel
theorem dX1_add_48 : decode cX1_add 48 = .ok (.dup, 1) := by decide +kernel
theorem dX1_add_49 : decode cX1_add 49 = .ok (.getfield 36, 3) := by decide +kernel
theorem dX1_add_52 : decode cX1_add 52 = .ok (.iconst 1, 1) := by decide +kernel
theorem dX1_add_53 : decode cX1_add 53 = .ok (.iadd, 1) := by decide +kernel
theorem dX1_add_54 : decode cX1_add 54 = .ok (.putfield 36, 3) := by decide +kernel
theorem dX1_add_57 : decode cX1_add 57 = .ok (.aload_n 0, 1) := by decide +kernel
theorem dX1_add_58 : decode cX1_add 58 = .ok (.invokevirtual 40, 3) := by decide +kernel
theorem dX1_add_61 : decode cX1_add 61 = .ok (.iload 5, 2) := by decide +kernel
theorem dX1_add_63 : decode cX1_add 63 = .ok (.ireturn, 1) := by decide +kernel
set_option maxRecDepth 20000 in
theorem ggX1_setNeeds_X1_putInOrder : GoodIn wsX1_setNeeds wsX1_putInOrder := goodIn_r _ [6, 7, 8, 9, 10, 11, 12, 5, 13, 1, 14, 15, 16, 17, 18, 19, 20, 21, 22, 23, 24, 25, 26, 27, 28] (by decide +kernel) (by decide +kernel)
set_option maxRecDepth 20000 in
theorem gX1_setNeeds_X1_putInOrder : GoodIn wsX1_setNeeds (wsV RX1 40 RX1 yX1_putInOrder wsX1_putInOrder) := goodIn_app (goodIn_of _ (by decide +kernel)) ggX1_setNeeds_X1_putInOrder
theorem dX1_setNeeds_0 : decode cX1_setNeeds 0 = .ok (.aload_n 0, 1) := by decide +kernel
theorem dX1_setNeeds_1 : decode cX1_setNeeds 1 = .ok (.getfield 30, 3) := by decide +kernel
theorem dX1_setNeeds_4 : decode cX1_setNeeds 4 = .ok (.iload_n 1, 1) := by decide +kernel
theorem dX1_setNeeds_5 : decode cX1_setNeeds 5 = .ok (.iload_n 2, 1) := by decide +kernel
theorem dX1_setNeeds_6 : decode cX1_setNeeds 6 = .ok (.iastore, 1) := by decide +kernel
theorem dX1_setNeeds_7 : decode cX1_setNeeds 7 = .ok (.aload_n 0, 1) := by decide +kernel
theorem dX1_setNeeds_8 : decode cX1_setNeeds 8 = .ok (.invokevirtual 40, 3) := by decide +kernel
theorem dX1_setNeeds_11 : decode cX1_setNeeds 11 = .ok (.return_, 1) := by decide +kernel
