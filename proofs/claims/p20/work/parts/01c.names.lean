set_option maxRecDepth 20000 in
theorem ggX1_reach_X1_neededBy : GoodIn wsX1_reach wsX1_neededBy := goodIn_r _ [7, 2, 1, 8, 9, 10, 11, 12, 13, 14, 15, 16, 17, 18, 19] (by decide +kernel) (by decide +kernel)
set_option maxRecDepth 20000 in
theorem gX1_reach_X1_neededBy : GoodIn wsX1_reach (wsV RX1 43 RX1 yX1_neededBy wsX1_neededBy) := goodIn_app (goodIn_of _ (by decide +kernel)) ggX1_reach_X1_neededBy
theorem dX1_reach_0 : decode cX1_reach 0 = .ok (.aload_n 0, 1) := by decide +kernel
theorem dX1_reach_1 : decode cX1_reach 1 = .ok (.getfield 30, 3) := by decide +kernel
theorem dX1_reach_4 : decode cX1_reach 4 = .ok (.iload_n 1, 1) := by decide +kernel
theorem dX1_reach_5 : decode cX1_reach 5 = .ok (.iaload, 1) := by decide +kernel
theorem dX1_reach_6 : decode cX1_reach 6 = .ok (.istore_n 2, 1) := by decide +kernel
theorem dX1_reach_7 : decode cX1_reach 7 = .ok (.iconst 1, 1) := by decide +kernel
theorem dX1_reach_8 : decode cX1_reach 8 = .ok (.istore_n 3, 1) := by decide +kernel
theorem dX1_reach_9 : decode cX1_reach 9 = .ok (.iload_n 3, 1) := by decide +kernel
theorem dX1_reach_10 : decode cX1_reach 10 = .ok (.aload_n 0, 1) := by decide +kernel
theorem dX1_reach_11 : decode cX1_reach 11 = .ok (.getfield 36, 3) := by decide +kernel
theorem dX1_reach_14 : decode cX1_reach 14 = .ok (.if_icmp .ge 17, 3) := by decide +kernel
theorem dX1_reach_17 : decode cX1_reach 17 = .ok (.iload_n 2, 1) := by decide +kernel
theorem dX1_reach_18 : decode cX1_reach 18 = .ok (.aload_n 0, 1) := by decide +kernel
theorem dX1_reach_19 : decode cX1_reach 19 = .ok (.iload_n 2, 1) := by decide +kernel
theorem dX1_reach_20 : decode cX1_reach 20 = .ok (.invokevirtual 43, 3) := by decide +kernel
theorem dX1_reach_23 : decode cX1_reach 23 = .ok (.ior, 1) := by decide +kernel
theorem dX1_reach_24 : decode cX1_reach 24 = .ok (.istore_n 2, 1) := by decide +kernel
theorem dX1_reach_25 : decode cX1_reach 25 = .ok (.iinc 3 1, 3) := by decide +kernel
theorem dX1_reach_28 : decode cX1_reach 28 = .ok (.goto (-19), 3) := by decide +kernel
theorem dX1_reach_31 : decode cX1_reach 31 = .ok (.iload_n 2, 1) := by decide +kernel
theorem dX1_reach_32 : decode cX1_reach 32 = .ok (.ireturn, 1) := by decide +kernel
set_option maxRecDepth 20000 in
theorem ggX1_neededBy_X2_has : GoodIn wsX1_neededBy wsX2_has := goodIn_r _ [5] (by decide +kernel) (by decide +kernel)
set_option maxRecDepth 20000 in
theorem gX1_neededBy_X2_has_n47 : GoodIn wsX1_neededBy (wsX2_has) := ggX1_neededBy_X2_has
theorem dX1_neededBy_0 : decode cX1_neededBy 0 = .ok (.iconst 0, 1) := by decide +kernel
theorem dX1_neededBy_1 : decode cX1_neededBy 1 = .ok (.istore_n 2, 1) := by decide +kernel
theorem dX1_neededBy_2 : decode cX1_neededBy 2 = .ok (.iconst 0, 1) := by decide +kernel
theorem dX1_neededBy_3 : decode cX1_neededBy 3 = .ok (.istore_n 3, 1) := by decide +kernel
theorem dX1_neededBy_4 : decode cX1_neededBy 4 = .ok (.iload_n 3, 1) := by decide +kernel
theorem dX1_neededBy_5 : decode cX1_neededBy 5 = .ok (.aload_n 0, 1) := by decide +kernel
theorem dX1_neededBy_6 : decode cX1_neededBy 6 = .ok (.getfield 36, 3) := by decide +kernel
theorem dX1_neededBy_9 : decode cX1_neededBy 9 = .ok (.if_icmp .ge 26, 3) := by decide +kernel
theorem dX1_neededBy_12 : decode cX1_neededBy 12 = .ok (.iload_n 1, 1) := by decide +kernel
theorem dX1_neededBy_13 : decode cX1_neededBy 13 = .ok (.iload_n 3, 1) := by decide +kernel
theorem dX1_neededBy_14 : decode cX1_neededBy 14 = .ok (.invokestatic 47, 3) := by decide +kernel
theorem dX1_neededBy_17 : decode cX1_neededBy 17 = .ok (.ifCond .eq 12, 3) := by decide +kernel
theorem dX1_neededBy_20 : decode cX1_neededBy 20 = .ok (.iload_n 2, 1) := by decide +kernel
theorem dX1_neededBy_21 : decode cX1_neededBy 21 = .ok (.aload_n 0, 1) := by decide +kernel
theorem dX1_neededBy_22 : decode cX1_neededBy 22 = .ok (.getfield 30, 3) := by decide +kernel
theorem dX1_neededBy_25 : decode cX1_neededBy 25 = .ok (.iload_n 3, 1) := by decide +kernel
theorem dX1_neededBy_26 : decode cX1_neededBy 26 = .ok (.iaload, 1) := by decide +kernel
theorem dX1_neededBy_27 : decode cX1_neededBy 27 = .ok (.ior, 1) := by decide +kernel
theorem dX1_neededBy_28 : decode cX1_neededBy 28 = .ok (.istore_n 2, 1) := by decide +kernel
theorem dX1_neededBy_29 : decode cX1_neededBy 29 = .ok (.iinc 3 1, 3) := by decide +kernel
theorem dX1_neededBy_32 : decode cX1_neededBy 32 = .ok (.goto (-28), 3) := by decide +kernel
theorem dX1_neededBy_35 : decode cX1_neededBy 35 = .ok (.iload_n 2, 1) := by decide +kernel
theorem dX1_neededBy_36 : decode cX1_neededBy 36 = .ok (.ireturn, 1) := by decide +kernel
set_option maxRecDepth 20000 in
theorem ggX1_putInOrder_X1_nextTaken : GoodIn wsX1_putInOrder wsX1_nextTaken := goodIn_r _ [8, 1, 9, 3, 10, 11, 12, 13, 14, 7, 15, 16, 17, 18, 19, 20, 21, 22, 23, 24] (by decide +kernel) (by decide +kernel)
set_option maxRecDepth 20000 in
theorem gX1_putInOrder_X1_nextTaken : GoodIn wsX1_putInOrder (wsV RX1 51 RX1 yX1_nextTaken wsX1_nextTaken) := goodIn_app (goodIn_of _ (by decide +kernel)) ggX1_putInOrder_X1_nextTaken
theorem dX1_putInOrder_0 : decode cX1_putInOrder 0 = .ok (.iconst 0, 1) := by decide +kernel
theorem dX1_putInOrder_1 : decode cX1_putInOrder 1 = .ok (.istore_n 1, 1) := by decide +kernel
theorem dX1_putInOrder_2 : decode cX1_putInOrder 2 = .ok (.iconst (-1), 1) := by decide +kernel
theorem dX1_putInOrder_3 : decode cX1_putInOrder 3 = .ok (.istore_n 2, 1) := by decide +kernel
theorem dX1_putInOrder_4 : decode cX1_putInOrder 4 = .ok (.iconst 0, 1) := by decide +kernel
theorem dX1_putInOrder_5 : decode cX1_putInOrder 5 = .ok (.istore_n 3, 1) := by decide +kernel
theorem dX1_putInOrder_6 : decode cX1_putInOrder 6 = .ok (.iload_n 3, 1) := by decide +kernel
theorem dX1_putInOrder_7 : decode cX1_putInOrder 7 = .ok (.aload_n 0, 1) := by decide +kernel
theorem dX1_putInOrder_8 : decode cX1_putInOrder 8 = .ok (.getfield 36, 3) := by decide +kernel
theorem dX1_putInOrder_11 : decode cX1_putInOrder 11 = .ok (.if_icmp .ge 47, 3) := by decide +kernel
theorem dX1_putInOrder_14 : decode cX1_putInOrder 14 = .ok (.aload_n 0, 1) := by decide +kernel
theorem dX1_putInOrder_15 : decode cX1_putInOrder 15 = .ok (.iload_n 1, 1) := by decide +kernel
theorem dX1_putInOrder_16 : decode cX1_putInOrder 16 = .ok (.iload_n 2, 1) := by decide +kernel
theorem dX1_putInOrder_17 : decode cX1_putInOrder 17 = .ok (.invokevirtual 51, 3) := by decide +kernel
theorem dX1_putInOrder_20 : decode cX1_putInOrder 20 = .ok (.istore 4, 2) := by decide +kernel
theorem dX1_putInOrder_22 : decode cX1_putInOrder 22 = .ok (.iload 4, 2) := by decide +kernel
theorem dX1_putInOrder_24 : decode cX1_putInOrder 24 = .ok (.iconst (-1), 1) := by decide +kernel
theorem dX1_putInOrder_25 : decode cX1_putInOrder 25 = .ok (.if_icmp .ne 4, 3) := by decide +kernel
theorem dX1_putInOrder_28 : decode cX1_putInOrder 28 = .ok (.return_, 1) := by decide +kernel
theorem dX1_putInOrder_29 : decode cX1_putInOrder 29 = .ok (.aload_n 0, 1) := by decide +kernel
theorem dX1_putInOrder_30 : decode cX1_putInOrder 30 = .ok (.getfield 33, 3) := by decide +kernel
theorem dX1_putInOrder_33 : decode cX1_putInOrder 33 = .ok (.iload_n 3, 1) := by decide +kernel
theorem dX1_putInOrder_34 : decode cX1_putInOrder 34 = .ok (.iload 4, 2) := by decide +kernel
theorem dX1_putInOrder_36 : decode cX1_putInOrder 36 = .ok (.iastore, 1) := by decide +kernel
theorem dX1_putInOrder_37 : decode cX1_putInOrder 37 = .ok (.iload_n 1, 1) := by decide +kernel
theorem dX1_putInOrder_38 : decode cX1_putInOrder 38 = .ok (.iconst 1, 1) := by decide +kernel
theorem dX1_putInOrder_39 : decode cX1_putInOrder 39 = .ok (.iload 4, 2) := by decide +kernel
theorem dX1_putInOrder_41 : decode cX1_putInOrder 41 = .ok (.ishl, 1) := by decide +kernel
theorem dX1_putInOrder_42 : decode cX1_putInOrder 42 = .ok (.ior, 1) := by decide +kernel
theorem dX1_putInOrder_43 : decode cX1_putInOrder 43 = .ok (.istore_n 1, 1) := by decide +kernel
theorem dX1_putInOrder_44 : decode cX1_putInOrder 44 = .ok (.aload_n 0, 1) := by decide +kernel
theorem dX1_putInOrder_45 : decode cX1_putInOrder 45 = .ok (.getfield 15, 3) := by decide +kernel
theorem dX1_putInOrder_48 : decode cX1_putInOrder 48 = .ok (.iload 4, 2) := by decide +kernel
theorem dX1_putInOrder_50 : decode cX1_putInOrder 50 = .ok (.iaload, 1) := by decide +kernel
theorem dX1_putInOrder_51 : decode cX1_putInOrder 51 = .ok (.istore_n 2, 1) := by decide +kernel
theorem dX1_putInOrder_52 : decode cX1_putInOrder 52 = .ok (.iinc 3 1, 3) := by decide +kernel
theorem dX1_putInOrder_55 : decode cX1_putInOrder 55 = .ok (.goto (-49), 3) := by decide +kernel
theorem dX1_putInOrder_58 : decode cX1_putInOrder 58 = .ok (.return_, 1) := by decide +kernel
set_option maxRecDepth 20000 in
theorem ggX1_nextTaken_X2_has : GoodIn wsX1_nextTaken wsX2_has := goodIn_r _ [6] (by decide +kernel) (by decide +kernel)
set_option maxRecDepth 20000 in
theorem gX1_nextTaken_X2_has_n47 : GoodIn wsX1_nextTaken (wsX2_has) := ggX1_nextTaken_X2_has
set_option maxRecDepth 20000 in
theorem ggX1_nextTaken_X1_isCovered : GoodIn wsX1_nextTaken wsX1_isCovered := goodIn_r _ [10] (by decide +kernel) (by decide +kernel)
set_option maxRecDepth 20000 in
theorem gX1_nextTaken_X1_isCovered : GoodIn wsX1_nextTaken (va_wsS RX1 55 yX1_isCovered wsX1_isCovered) := goodIn_app (goodIn_of _ (by decide +kernel)) ggX1_nextTaken_X1_isCovered
theorem dX1_nextTaken_0 : decode cX1_nextTaken 0 = .ok (.iconst (-1), 1) := by decide +kernel
theorem dX1_nextTaken_1 : decode cX1_nextTaken 1 = .ok (.istore_n 3, 1) := by decide +kernel
theorem dX1_nextTaken_2 : decode cX1_nextTaken 2 = .ok (.iconst 0, 1) := by decide +kernel
theorem dX1_nextTaken_3 : decode cX1_nextTaken 3 = .ok (.istore 4, 2) := by decide +kernel
theorem dX1_nextTaken_5 : decode cX1_nextTaken 5 = .ok (.iload 4, 2) := by decide +kernel
theorem dX1_nextTaken_7 : decode cX1_nextTaken 7 = .ok (.aload_n 0, 1) := by decide +kernel
theorem dX1_nextTaken_8 : decode cX1_nextTaken 8 = .ok (.getfield 36, 3) := by decide +kernel
theorem dX1_nextTaken_11 : decode cX1_nextTaken 11 = .ok (.if_icmp .ge 57, 3) := by decide +kernel
theorem dX1_nextTaken_14 : decode cX1_nextTaken 14 = .ok (.iload_n 1, 1) := by decide +kernel
theorem dX1_nextTaken_15 : decode cX1_nextTaken 15 = .ok (.iload 4, 2) := by decide +kernel
theorem dX1_nextTaken_17 : decode cX1_nextTaken 17 = .ok (.invokestatic 47, 3) := by decide +kernel
theorem dX1_nextTaken_20 : decode cX1_nextTaken 20 = .ok (.ifCond .ne 42, 3) := by decide +kernel
theorem dX1_nextTaken_23 : decode cX1_nextTaken 23 = .ok (.aload_n 0, 1) := by decide +kernel
theorem dX1_nextTaken_24 : decode cX1_nextTaken 24 = .ok (.getfield 30, 3) := by decide +kernel
theorem dX1_nextTaken_27 : decode cX1_nextTaken 27 = .ok (.iload 4, 2) := by decide +kernel
theorem dX1_nextTaken_29 : decode cX1_nextTaken 29 = .ok (.iaload, 1) := by decide +kernel
theorem dX1_nextTaken_30 : decode cX1_nextTaken 30 = .ok (.iload_n 1, 1) := by decide +kernel
theorem dX1_nextTaken_31 : decode cX1_nextTaken 31 = .ok (.invokestatic 55, 3) := by decide +kernel
theorem dX1_nextTaken_34 : decode cX1_nextTaken 34 = .ok (.ifCond .ne 6, 3) := by decide +kernel
theorem dX1_nextTaken_37 : decode cX1_nextTaken 37 = .ok (.goto 25, 3) := by decide +kernel
theorem dX1_nextTaken_40 : decode cX1_nextTaken 40 = .ok (.aload_n 0, 1) := by decide +kernel
theorem dX1_nextTaken_41 : decode cX1_nextTaken 41 = .ok (.getfield 15, 3) := by decide +kernel
theorem dX1_nextTaken_44 : decode cX1_nextTaken 44 = .ok (.iload 4, 2) := by decide +kernel
theorem dX1_nextTaken_46 : decode cX1_nextTaken 46 = .ok (.iaload, 1) := by decide +kernel
theorem dX1_nextTaken_47 : decode cX1_nextTaken 47 = .ok (.iload_n 2, 1) := by decide +kernel
theorem dX1_nextTaken_48 : decode cX1_nextTaken 48 = .ok (.if_icmp .ne 6, 3) := by decide +kernel
theorem dX1_nextTaken_51 : decode cX1_nextTaken 51 = .ok (.iload 4, 2) := by decide +kernel
theorem dX1_nextTaken_53 : decode cX1_nextTaken 53 = .ok (.ireturn, 1) := by decide +kernel
theorem dX1_nextTaken_54 : decode cX1_nextTaken 54 = .ok (.iload_n 3, 1) := by decide +kernel
theorem dX1_nextTaken_55 : decode cX1_nextTaken 55 = .ok (.iconst (-1), 1) := by decide +kernel
theorem dX1_nextTaken_56 : decode cX1_nextTaken 56 = .ok (.if_icmp .ne 6, 3) := by decide +kernel
theorem dX1_nextTaken_59 : decode cX1_nextTaken 59 = .ok (.iload 4, 2) := by decide +kernel
theorem dX1_nextTaken_61 : decode cX1_nextTaken 61 = .ok (.istore_n 3, 1) := by decide +kernel
theorem dX1_nextTaken_62 : decode cX1_nextTaken 62 = .ok (.iinc 4 1, 3) := by decide +kernel
theorem dX1_nextTaken_65 : decode cX1_nextTaken 65 = .ok (.goto (-60), 3) := by decide +kernel
theorem dX1_nextTaken_68 : decode cX1_nextTaken 68 = .ok (.iload_n 3, 1) := by decide +kernel
theorem dX1_nextTaken_69 : decode cX1_nextTaken 69 = .ok (.ireturn, 1) := by decide +kernel
theorem dX1_isCovered_0 : decode cX1_isCovered 0 = .ok (.iload_n 0, 1) := by decide +kernel
theorem dX1_isCovered_1 : decode cX1_isCovered 1 = .ok (.iload_n 1, 1) := by decide +kernel
theorem dX1_isCovered_2 : decode cX1_isCovered 2 = .ok (.iconst (-1), 1) := by decide +kernel
theorem dX1_isCovered_3 : decode cX1_isCovered 3 = .ok (.ixor, 1) := by decide +kernel
theorem dX1_isCovered_4 : decode cX1_isCovered 4 = .ok (.iand, 1) := by decide +kernel
theorem dX1_isCovered_5 : decode cX1_isCovered 5 = .ok (.ifCond .ne 7, 3) := by decide +kernel
theorem dX1_isCovered_8 : decode cX1_isCovered 8 = .ok (.iconst 1, 1) := by decide +kernel
theorem dX1_isCovered_9 : decode cX1_isCovered 9 = .ok (.goto 4, 3) := by decide +kernel
theorem dX1_isCovered_12 : decode cX1_isCovered 12 = .ok (.iconst 0, 1) := by decide +kernel
theorem dX1_isCovered_13 : decode cX1_isCovered 13 = .ok (.ireturn, 1) := by decide +kernel
set_option maxRecDepth 20000 in
theorem ggX1_countClosed_X1_isClosed : GoodIn wsX1_countClosed wsX1_isClosed := goodIn_r _ [6, 1, 7, 8, 9, 10, 11, 12, 5, 13, 14, 15, 16, 17, 18, 19, 20, 21, 22] (by decide +kernel) (by decide +kernel)
set_option maxRecDepth 20000 in
theorem gX1_countClosed_X1_isClosed : GoodIn wsX1_countClosed (wsV RX1 58 RX1 yX1_isClosed wsX1_isClosed) := goodIn_app (goodIn_of _ (by decide +kernel)) ggX1_countClosed_X1_isClosed
theorem dX1_countClosed_0 : decode cX1_countClosed 0 = .ok (.iconst 0, 1) := by decide +kernel
theorem dX1_countClosed_1 : decode cX1_countClosed 1 = .ok (.istore_n 1, 1) := by decide +kernel
theorem dX1_countClosed_2 : decode cX1_countClosed 2 = .ok (.iconst 0, 1) := by decide +kernel
theorem dX1_countClosed_3 : decode cX1_countClosed 3 = .ok (.istore_n 2, 1) := by decide +kernel
theorem dX1_countClosed_4 : decode cX1_countClosed 4 = .ok (.iload_n 2, 1) := by decide +kernel
theorem dX1_countClosed_5 : decode cX1_countClosed 5 = .ok (.iconst 1, 1) := by decide +kernel
theorem dX1_countClosed_6 : decode cX1_countClosed 6 = .ok (.aload_n 0, 1) := by decide +kernel
theorem dX1_countClosed_7 : decode cX1_countClosed 7 = .ok (.getfield 36, 3) := by decide +kernel
theorem dX1_countClosed_10 : decode cX1_countClosed 10 = .ok (.ishl, 1) := by decide +kernel
theorem dX1_countClosed_11 : decode cX1_countClosed 11 = .ok (.if_icmp .ge 20, 3) := by decide +kernel
theorem dX1_countClosed_14 : decode cX1_countClosed 14 = .ok (.aload_n 0, 1) := by decide +kernel
theorem dX1_countClosed_15 : decode cX1_countClosed 15 = .ok (.iload_n 2, 1) := by decide +kernel
theorem dX1_countClosed_16 : decode cX1_countClosed 16 = .ok (.invokevirtual 58, 3) := by decide +kernel
theorem dX1_countClosed_19 : decode cX1_countClosed 19 = .ok (.ifCond .eq 6, 3) := by decide +kernel
theorem dX1_countClosed_22 : decode cX1_countClosed 22 = .ok (.iinc 1 1, 3) := by decide +kernel
theorem dX1_countClosed_25 : decode cX1_countClosed 25 = .ok (.iinc 2 1, 3) := by decide +kernel
theorem dX1_countClosed_28 : decode cX1_countClosed 28 = .ok (.goto (-24), 3) := by decide +kernel
theorem dX1_countClosed_31 : decode cX1_countClosed 31 = .ok (.iload_n 1, 1) := by decide +kernel
theorem dX1_countClosed_32 : decode cX1_countClosed 32 = .ok (.ireturn, 1) := by decide +kernel
set_option maxRecDepth 20000 in
theorem ggX1_bestSet_X1_isClosed : GoodIn wsX1_bestSet wsX1_isClosed := goodIn_r _ [6, 1, 7, 8, 9, 10, 11, 12, 5, 13, 27, 28, 29, 30, 31, 32, 33, 34, 35] (by decide +kernel) (by decide +kernel)
set_option maxRecDepth 20000 in
theorem gX1_bestSet_X1_isClosed : GoodIn wsX1_bestSet (wsV RX1 58 RX1 yX1_isClosed wsX1_isClosed) := goodIn_app (goodIn_of _ (by decide +kernel)) ggX1_bestSet_X1_isClosed
set_option maxRecDepth 20000 in
theorem ggX1_bestSet_X1_netOf : GoodIn wsX1_bestSet wsX1_netOf := goodIn_r _ [17, 1, 18, 19, 8, 9, 10, 27, 28, 29, 30, 31, 32, 33, 34, 35] (by decide +kernel) (by decide +kernel)
set_option maxRecDepth 20000 in
theorem gX1_bestSet_X1_netOf : GoodIn wsX1_bestSet (wsV RX1 62 RX1 yX1_netOf wsX1_netOf) := goodIn_app (goodIn_of _ (by decide +kernel)) ggX1_bestSet_X1_netOf
set_option maxRecDepth 20000 in
theorem ggX1_bestSet_J6_bitCount_0f7a4 : GoodIn wsX1_bestSet wsJ6_bitCount_0f7a4 := goodIn_r _ [23, 24, 25, 26] (by decide +kernel) (by decide +kernel)
set_option maxRecDepth 20000 in
theorem gX1_bestSet_J6_bitCount_0f7a4 : GoodIn wsX1_bestSet (va_wsS RX1 65 yJ6_bitCount_0f7a4 wsJ6_bitCount_0f7a4) := goodIn_app (goodIn_of _ (by decide +kernel)) ggX1_bestSet_J6_bitCount_0f7a4
theorem dX1_bestSet_0 : decode cX1_bestSet 0 = .ok (.iconst 0, 1) := by decide +kernel
theorem dX1_bestSet_1 : decode cX1_bestSet 1 = .ok (.istore_n 2, 1) := by decide +kernel
theorem dX1_bestSet_2 : decode cX1_bestSet 2 = .ok (.iconst 0, 1) := by decide +kernel
theorem dX1_bestSet_3 : decode cX1_bestSet 3 = .ok (.istore_n 3, 1) := by decide +kernel
theorem dX1_bestSet_4 : decode cX1_bestSet 4 = .ok (.iconst 1, 1) := by decide +kernel
theorem dX1_bestSet_5 : decode cX1_bestSet 5 = .ok (.istore 4, 2) := by decide +kernel
theorem dX1_bestSet_7 : decode cX1_bestSet 7 = .ok (.iload 4, 2) := by decide +kernel
theorem dX1_bestSet_9 : decode cX1_bestSet 9 = .ok (.iconst 1, 1) := by decide +kernel
theorem dX1_bestSet_10 : decode cX1_bestSet 10 = .ok (.aload_n 0, 1) := by decide +kernel
theorem dX1_bestSet_11 : decode cX1_bestSet 11 = .ok (.getfield 36, 3) := by decide +kernel
theorem dX1_bestSet_14 : decode cX1_bestSet 14 = .ok (.ishl, 1) := by decide +kernel
theorem dX1_bestSet_15 : decode cX1_bestSet 15 = .ok (.if_icmp .ge 60, 3) := by decide +kernel
theorem dX1_bestSet_18 : decode cX1_bestSet 18 = .ok (.aload_n 0, 1) := by decide +kernel
theorem dX1_bestSet_19 : decode cX1_bestSet 19 = .ok (.iload 4, 2) := by decide +kernel
theorem dX1_bestSet_21 : decode cX1_bestSet 21 = .ok (.invokevirtual 58, 3) := by decide +kernel
theorem dX1_bestSet_24 : decode cX1_bestSet 24 = .ok (.ifCond .ne 6, 3) := by decide +kernel
theorem dX1_bestSet_27 : decode cX1_bestSet 27 = .ok (.goto 42, 3) := by decide +kernel
theorem dX1_bestSet_30 : decode cX1_bestSet 30 = .ok (.aload_n 0, 1) := by decide +kernel
theorem dX1_bestSet_31 : decode cX1_bestSet 31 = .ok (.iload 4, 2) := by decide +kernel
theorem dX1_bestSet_33 : decode cX1_bestSet 33 = .ok (.iload_n 1, 1) := by decide +kernel
theorem dX1_bestSet_34 : decode cX1_bestSet 34 = .ok (.invokevirtual 62, 3) := by decide +kernel
theorem dX1_bestSet_37 : decode cX1_bestSet 37 = .ok (.istore 5, 2) := by decide +kernel
theorem dX1_bestSet_39 : decode cX1_bestSet 39 = .ok (.iload 5, 2) := by decide +kernel
theorem dX1_bestSet_41 : decode cX1_bestSet 41 = .ok (.iload_n 3, 1) := by decide +kernel
theorem dX1_bestSet_42 : decode cX1_bestSet 42 = .ok (.if_icmp .gt 21, 3) := by decide +kernel
theorem dX1_bestSet_45 : decode cX1_bestSet 45 = .ok (.iload 5, 2) := by decide +kernel
theorem dX1_bestSet_47 : decode cX1_bestSet 47 = .ok (.iload_n 3, 1) := by decide +kernel
theorem dX1_bestSet_48 : decode cX1_bestSet 48 = .ok (.if_icmp .ne 21, 3) := by decide +kernel
theorem dX1_bestSet_51 : decode cX1_bestSet 51 = .ok (.iload 4, 2) := by decide +kernel
theorem dX1_bestSet_53 : decode cX1_bestSet 53 = .ok (.invokestatic 65, 3) := by decide +kernel
theorem dX1_bestSet_56 : decode cX1_bestSet 56 = .ok (.iload_n 2, 1) := by decide +kernel
theorem dX1_bestSet_57 : decode cX1_bestSet 57 = .ok (.invokestatic 65, 3) := by decide +kernel
theorem dX1_bestSet_60 : decode cX1_bestSet 60 = .ok (.if_icmp .ge 9, 3) := by decide +kernel
theorem dX1_bestSet_63 : decode cX1_bestSet 63 = .ok (.iload 4, 2) := by decide +kernel
theorem dX1_bestSet_65 : decode cX1_bestSet 65 = .ok (.istore_n 2, 1) := by decide +kernel
theorem dX1_bestSet_66 : decode cX1_bestSet 66 = .ok (.iload 5, 2) := by decide +kernel
theorem dX1_bestSet_68 : decode cX1_bestSet 68 = .ok (.istore_n 3, 1) := by decide +kernel
theorem dX1_bestSet_69 : decode cX1_bestSet 69 = .ok (.iinc 4 1, 3) := by decide +kernel
theorem dX1_bestSet_72 : decode cX1_bestSet 72 = .ok (.goto (-65), 3) := by decide +kernel
theorem dX1_bestSet_75 : decode cX1_bestSet 75 = .ok (.iload_n 2, 1) := by decide +kernel
theorem dX1_bestSet_76 : decode cX1_bestSet 76 = .ok (.ireturn, 1) := by decide +kernel
set_option maxRecDepth 20000 in
theorem ggX1_isClosed_X2_has : GoodIn wsX1_isClosed wsX2_has := goodIn_r _ [5] (by decide +kernel) (by decide +kernel)
set_option maxRecDepth 20000 in
theorem gX1_isClosed_X2_has_n47 : GoodIn wsX1_isClosed (wsX2_has) := ggX1_isClosed_X2_has
set_option maxRecDepth 20000 in
theorem ggX1_isClosed_X1_isCovered : GoodIn wsX1_isClosed wsX1_isCovered := goodIn_r _ [9] (by decide +kernel) (by decide +kernel)
set_option maxRecDepth 20000 in
theorem gX1_isClosed_X1_isCovered : GoodIn wsX1_isClosed (va_wsS RX1 55 yX1_isCovered wsX1_isCovered) := goodIn_app (goodIn_of _ (by decide +kernel)) ggX1_isClosed_X1_isCovered
theorem dX1_isClosed_0 : decode cX1_isClosed 0 = .ok (.iconst 0, 1) := by decide +kernel
theorem dX1_isClosed_1 : decode cX1_isClosed 1 = .ok (.istore_n 2, 1) := by decide +kernel
theorem dX1_isClosed_2 : decode cX1_isClosed 2 = .ok (.iload_n 2, 1) := by decide +kernel
theorem dX1_isClosed_3 : decode cX1_isClosed 3 = .ok (.aload_n 0, 1) := by decide +kernel
theorem dX1_isClosed_4 : decode cX1_isClosed 4 = .ok (.getfield 36, 3) := by decide +kernel
theorem dX1_isClosed_7 : decode cX1_isClosed 7 = .ok (.if_icmp .ge 32, 3) := by decide +kernel
theorem dX1_isClosed_10 : decode cX1_isClosed 10 = .ok (.iload_n 1, 1) := by decide +kernel
theorem dX1_isClosed_11 : decode cX1_isClosed 11 = .ok (.iload_n 2, 1) := by decide +kernel
theorem dX1_isClosed_12 : decode cX1_isClosed 12 = .ok (.invokestatic 47, 3) := by decide +kernel
theorem dX1_isClosed_15 : decode cX1_isClosed 15 = .ok (.ifCond .eq 18, 3) := by decide +kernel
theorem dX1_isClosed_18 : decode cX1_isClosed 18 = .ok (.aload_n 0, 1) := by decide +kernel
theorem dX1_isClosed_19 : decode cX1_isClosed 19 = .ok (.getfield 30, 3) := by decide +kernel
theorem dX1_isClosed_22 : decode cX1_isClosed 22 = .ok (.iload_n 2, 1) := by decide +kernel
theorem dX1_isClosed_23 : decode cX1_isClosed 23 = .ok (.iaload, 1) := by decide +kernel
theorem dX1_isClosed_24 : decode cX1_isClosed 24 = .ok (.iload_n 1, 1) := by decide +kernel
theorem dX1_isClosed_25 : decode cX1_isClosed 25 = .ok (.invokestatic 55, 3) := by decide +kernel
theorem dX1_isClosed_28 : decode cX1_isClosed 28 = .ok (.ifCond .ne 5, 3) := by decide +kernel
theorem dX1_isClosed_31 : decode cX1_isClosed 31 = .ok (.iconst 0, 1) := by decide +kernel
theorem dX1_isClosed_32 : decode cX1_isClosed 32 = .ok (.ireturn, 1) := by decide +kernel
theorem dX1_isClosed_33 : decode cX1_isClosed 33 = .ok (.iinc 2 1, 3) := by decide +kernel
theorem dX1_isClosed_36 : decode cX1_isClosed 36 = .ok (.goto (-34), 3) := by decide +kernel
theorem dX1_isClosed_39 : decode cX1_isClosed 39 = .ok (.iconst 1, 1) := by decide +kernel
theorem dX1_isClosed_40 : decode cX1_isClosed 40 = .ok (.ireturn, 1) := by decide +kernel
set_option maxRecDepth 20000 in
theorem ggX1_netOf_X2_has : GoodIn wsX1_netOf wsX2_has := goodIn_r _ [6] (by decide +kernel) (by decide +kernel)
set_option maxRecDepth 20000 in
theorem gX1_netOf_X2_has_n47 : GoodIn wsX1_netOf (wsX2_has) := ggX1_netOf_X2_has
theorem dX1_netOf_0 : decode cX1_netOf 0 = .ok (.iconst 0, 1) := by decide +kernel
theorem dX1_netOf_1 : decode cX1_netOf 1 = .ok (.istore_n 3, 1) := by decide +kernel
theorem dX1_netOf_2 : decode cX1_netOf 2 = .ok (.iconst 0, 1) := by decide +kernel
theorem dX1_netOf_3 : decode cX1_netOf 3 = .ok (.istore 4, 2) := by decide +kernel
theorem dX1_netOf_5 : decode cX1_netOf 5 = .ok (.iload 4, 2) := by decide +kernel
theorem dX1_netOf_7 : decode cX1_netOf 7 = .ok (.aload_n 0, 1) := by decide +kernel
theorem dX1_netOf_8 : decode cX1_netOf 8 = .ok (.getfield 36, 3) := by decide +kernel
theorem dX1_netOf_11 : decode cX1_netOf 11 = .ok (.if_icmp .ge 38, 3) := by decide +kernel
theorem dX1_netOf_14 : decode cX1_netOf 14 = .ok (.iload_n 1, 1) := by decide +kernel
theorem dX1_netOf_15 : decode cX1_netOf 15 = .ok (.iload 4, 2) := by decide +kernel
theorem dX1_netOf_17 : decode cX1_netOf 17 = .ok (.invokestatic 47, 3) := by decide +kernel
theorem dX1_netOf_20 : decode cX1_netOf 20 = .ok (.ifCond .eq 23, 3) := by decide +kernel
theorem dX1_netOf_23 : decode cX1_netOf 23 = .ok (.iload_n 3, 1) := by decide +kernel
theorem dX1_netOf_24 : decode cX1_netOf 24 = .ok (.aload_n 0, 1) := by decide +kernel
theorem dX1_netOf_25 : decode cX1_netOf 25 = .ok (.getfield 18, 3) := by decide +kernel
theorem dX1_netOf_28 : decode cX1_netOf 28 = .ok (.iload 4, 2) := by decide +kernel
theorem dX1_netOf_30 : decode cX1_netOf 30 = .ok (.iaload, 1) := by decide +kernel
theorem dX1_netOf_31 : decode cX1_netOf 31 = .ok (.iload_n 2, 1) := by decide +kernel
theorem dX1_netOf_32 : decode cX1_netOf 32 = .ok (.aload_n 0, 1) := by decide +kernel
theorem dX1_netOf_33 : decode cX1_netOf 33 = .ok (.getfield 9, 3) := by decide +kernel
theorem dX1_netOf_36 : decode cX1_netOf 36 = .ok (.iload 4, 2) := by decide +kernel
theorem dX1_netOf_38 : decode cX1_netOf 38 = .ok (.iaload, 1) := by decide +kernel
theorem dX1_netOf_39 : decode cX1_netOf 39 = .ok (.imul, 1) := by decide +kernel
theorem dX1_netOf_40 : decode cX1_netOf 40 = .ok (.isub, 1) := by decide +kernel
theorem dX1_netOf_41 : decode cX1_netOf 41 = .ok (.iadd, 1) := by decide +kernel
theorem dX1_netOf_42 : decode cX1_netOf 42 = .ok (.istore_n 3, 1) := by decide +kernel
theorem dX1_netOf_43 : decode cX1_netOf 43 = .ok (.iinc 4 1, 3) := by decide +kernel
theorem dX1_netOf_46 : decode cX1_netOf 46 = .ok (.goto (-41), 3) := by decide +kernel
theorem dX1_netOf_49 : decode cX1_netOf 49 = .ok (.iload_n 3, 1) := by decide +kernel
theorem dX1_netOf_50 : decode cX1_netOf 50 = .ok (.ireturn, 1) := by decide +kernel
set_option maxRecDepth 20000 in
theorem ggX2_init_X1_init : GoodIn wsX2_init wsX1_init := goodIn_r _ [17, 18, 2, 3, 19, 20, 21, 22, 23, 24, 25, 26, 27, 49, 50, 51, 52, 53, 54, 55, 56, 57] (by decide +kernel) (by decide +kernel)
set_option maxRecDepth 20000 in
theorem gX2_init_X1_init : GoodIn wsX2_init (wsX1_init) := ggX2_init_X1_init
set_option maxRecDepth 20000 in
theorem ggX2_init_X0_init : GoodIn wsX2_init wsX0_init := goodIn_r _ [30, 31, 2, 3, 19, 32, 33, 34, 35, 36, 37, 38, 39, 40, 12, 41, 42, 43, 44, 45, 46, 47, 48, 62, 63, 64, 65, 66, 67, 68, 69, 70] (by decide +kernel) (by decide +kernel)
set_option maxRecDepth 20000 in
theorem gX2_init_X0_init : GoodIn wsX2_init (wsX0_init) := ggX2_init_X0_init
theorem dX2_init_0 : decode cX2_init 0 = .ok (.aload_n 0, 1) := by decide +kernel
theorem dX2_init_1 : decode cX2_init 1 = .ok (.invokespecial 1, 3) := by decide +kernel
theorem dX2_init_4 : decode cX2_init 4 = .ok (.aload_n 0, 1) := by decide +kernel
theorem dX2_init_5 : decode cX2_init 5 = .ok (.new 7, 3) := by decide +kernel
theorem dX2_init_8 : decode cX2_init 8 = .ok (.dup, 1) := by decide +kernel
theorem dX2_init_9 : decode cX2_init 9 = .ok (.invokespecial 9, 3) := by decide +kernel
theorem dX2_init_12 : decode cX2_init 12 = .ok (.putfield 10, 3) := by decide +kernel
theorem dX2_init_15 : decode cX2_init 15 = .ok (.aload_n 0, 1) := by decide +kernel
theorem dX2_init_16 : decode cX2_init 16 = .ok (.bipush 100, 2) := by decide +kernel
theorem dX2_init_18 : decode cX2_init 18 = .ok (.newarray .boolean, 2) := by decide +kernel
theorem dX2_init_20 : decode cX2_init 20 = .ok (.putfield 16, 3) := by decide +kernel
theorem dX2_init_23 : decode cX2_init 23 = .ok (.aload_n 0, 1) := by decide +kernel
theorem dX2_init_24 : decode cX2_init 24 = .ok (.new 20, 3) := by decide +kernel
theorem dX2_init_27 : decode cX2_init 27 = .ok (.dup, 1) := by decide +kernel
theorem dX2_init_28 : decode cX2_init 28 = .ok (.invokespecial 22, 3) := by decide +kernel
theorem dX2_init_31 : decode cX2_init 31 = .ok (.putfield 23, 3) := by decide +kernel
theorem dX2_init_34 : decode cX2_init 34 = .ok (.aload_n 0, 1) := by decide +kernel
theorem dX2_init_35 : decode cX2_init 35 = .ok (.new 20, 3) := by decide +kernel
theorem dX2_init_38 : decode cX2_init 38 = .ok (.dup, 1) := by decide +kernel
theorem dX2_init_39 : decode cX2_init 39 = .ok (.invokespecial 22, 3) := by decide +kernel
theorem dX2_init_42 : decode cX2_init 42 = .ok (.putfield 27, 3) := by decide +kernel
theorem dX2_init_45 : decode cX2_init 45 = .ok (.return_, 1) := by decide +kernel
set_option maxRecDepth 20000 in
theorem ggX2_aim_X2_isWithin : GoodIn wsX2_aim wsX2_isWithin := goodIn_r _ [9] (by decide +kernel) (by decide +kernel)
set_option maxRecDepth 20000 in
theorem gX2_aim_X2_isWithin : GoodIn wsX2_aim (va_wsS RX2 30 yX2_isWithin wsX2_isWithin) := goodIn_app (goodIn_of _ (by decide +kernel)) ggX2_aim_X2_isWithin
set_option maxRecDepth 20000 in
theorem ggX2_aim_X1_add : GoodIn wsX2_aim wsX1_add := goodIn_r _ [14, 15, 16, 17, 18, 19, 20, 21, 22, 23, 13, 24, 25, 26, 27, 28, 29, 30, 31, 8, 32, 33, 34, 35, 112, 113, 114, 115, 116, 117, 118, 119, 120] (by decide +kernel) (by decide +kernel)
set_option maxRecDepth 20000 in
theorem gX2_aim_X1_add : GoodIn wsX2_aim (wsV RX2 56 RX1 yX1_add wsX1_add) := goodIn_app (goodIn_of _ (by decide +kernel)) ggX2_aim_X1_add
set_option maxRecDepth 20000 in
theorem ggX2_aim_X2_planAnew : GoodIn wsX2_aim wsX2_planAnew := goodIn_r _ [39, 40, 41, 5, 42, 43, 44, 45, 46, 47, 48, 49, 50, 51, 52, 53, 54, 55, 56, 57, 58, 59, 60, 61, 62, 63, 64, 65, 66, 67, 68, 69, 70, 71, 72, 73, 74, 75, 76, 77, 78, 79, 80, 81, 82, 83, 84, 85, 86, 87, 88, 89, 90, 91, 92, 93, 94, 95, 96, 97, 98, 99, 100, 101, 102, 103, 104, 105, 106, 107, 108, 109, 110, 111, 121, 122, 123, 124, 125, 126, 127, 128, 129, 112, 113, 114, 115, 116, 117, 118, 119, 120] (by decide +kernel) (by decide +kernel)
set_option maxRecDepth 20000 in
theorem gX2_aim_X2_planAnew : GoodIn wsX2_aim (wsV RX2 60 RX2 yX2_planAnew wsX2_planAnew) := goodIn_app (goodIn_of _ (by decide +kernel)) ggX2_aim_X2_planAnew
theorem dX2_aim_0 : decode cX2_aim 0 = .ok (.iload_n 1, 1) := by decide +kernel
theorem dX2_aim_1 : decode cX2_aim 1 = .ok (.iconst 1, 1) := by decide +kernel
theorem dX2_aim_2 : decode cX2_aim 2 = .ok (.iconst 5, 1) := by decide +kernel
theorem dX2_aim_3 : decode cX2_aim 3 = .ok (.invokestatic 30, 3) := by decide +kernel
theorem dX2_aim_6 : decode cX2_aim 6 = .ok (.ifCond .ne 13, 3) := by decide +kernel
theorem dX2_aim_9 : decode cX2_aim 9 = .ok (.new 34, 3) := by decide +kernel
theorem dX2_aim_12 : decode cX2_aim 12 = .ok (.dup, 1) := by decide +kernel
theorem dX2_aim_13 : decode cX2_aim 13 = .ok (.ldc 36, 2) := by decide +kernel
theorem dX2_aim_15 : decode cX2_aim 15 = .ok (.invokespecial 38, 3) := by decide +kernel
theorem dX2_aim_18 : decode cX2_aim 18 = .ok (.athrow, 1) := by decide +kernel
theorem dX2_aim_19 : decode cX2_aim 19 = .ok (.iload_n 2, 1) := by decide +kernel
theorem dX2_aim_20 : decode cX2_aim 20 = .ok (.iconst 0, 1) := by decide +kernel
theorem dX2_aim_21 : decode cX2_aim 21 = .ok (.iconst 3, 1) := by decide +kernel
theorem dX2_aim_22 : decode cX2_aim 22 = .ok (.invokestatic 30, 3) := by decide +kernel
theorem dX2_aim_25 : decode cX2_aim 25 = .ok (.ifCond .ne 13, 3) := by decide +kernel
theorem dX2_aim_28 : decode cX2_aim 28 = .ok (.new 34, 3) := by decide +kernel
theorem dX2_aim_31 : decode cX2_aim 31 = .ok (.dup, 1) := by decide +kernel
theorem dX2_aim_32 : decode cX2_aim 32 = .ok (.ldc 41, 2) := by decide +kernel
theorem dX2_aim_34 : decode cX2_aim 34 = .ok (.invokespecial 38, 3) := by decide +kernel
theorem dX2_aim_37 : decode cX2_aim 37 = .ok (.athrow, 1) := by decide +kernel
theorem dX2_aim_38 : decode cX2_aim 38 = .ok (.iload_n 3, 1) := by decide +kernel
theorem dX2_aim_39 : decode cX2_aim 39 = .ok (.iconst 1, 1) := by decide +kernel
theorem dX2_aim_40 : decode cX2_aim 40 = .ok (.bipush 99, 2) := by decide +kernel
theorem dX2_aim_42 : decode cX2_aim 42 = .ok (.invokestatic 30, 3) := by decide +kernel
theorem dX2_aim_45 : decode cX2_aim 45 = .ok (.ifCond .ne 13, 3) := by decide +kernel
theorem dX2_aim_48 : decode cX2_aim 48 = .ok (.new 34, 3) := by decide +kernel
theorem dX2_aim_51 : decode cX2_aim 51 = .ok (.dup, 1) := by decide +kernel
theorem dX2_aim_52 : decode cX2_aim 52 = .ok (.ldc 43, 2) := by decide +kernel
theorem dX2_aim_54 : decode cX2_aim 54 = .ok (.invokespecial 38, 3) := by decide +kernel
theorem dX2_aim_57 : decode cX2_aim 57 = .ok (.athrow, 1) := by decide +kernel
theorem dX2_aim_58 : decode cX2_aim 58 = .ok (.iload 4, 2) := by decide +kernel
theorem dX2_aim_60 : decode cX2_aim 60 = .ok (.iconst (-1), 1) := by decide +kernel
theorem dX2_aim_61 : decode cX2_aim 61 = .ok (.if_icmp .eq 23, 3) := by decide +kernel
theorem dX2_aim_64 : decode cX2_aim 64 = .ok (.iload 4, 2) := by decide +kernel
theorem dX2_aim_66 : decode cX2_aim 66 = .ok (.iconst 0, 1) := by decide +kernel
theorem dX2_aim_67 : decode cX2_aim 67 = .ok (.iconst 2, 1) := by decide +kernel
theorem dX2_aim_68 : decode cX2_aim 68 = .ok (.invokestatic 30, 3) := by decide +kernel
theorem dX2_aim_71 : decode cX2_aim 71 = .ok (.ifCond .ne 13, 3) := by decide +kernel
theorem dX2_aim_74 : decode cX2_aim 74 = .ok (.new 34, 3) := by decide +kernel
theorem dX2_aim_77 : decode cX2_aim 77 = .ok (.dup, 1) := by decide +kernel
theorem dX2_aim_78 : decode cX2_aim 78 = .ok (.ldc 45, 2) := by decide +kernel
theorem dX2_aim_80 : decode cX2_aim 80 = .ok (.invokespecial 38, 3) := by decide +kernel
theorem dX2_aim_83 : decode cX2_aim 83 = .ok (.athrow, 1) := by decide +kernel
theorem dX2_aim_84 : decode cX2_aim 84 = .ok (.aload_n 0, 1) := by decide +kernel
theorem dX2_aim_85 : decode cX2_aim 85 = .ok (.getfield 10, 3) := by decide +kernel
theorem dX2_aim_88 : decode cX2_aim 88 = .ok (.getfield 47, 3) := by decide +kernel
theorem dX2_aim_91 : decode cX2_aim 91 = .ok (.bipush 12, 2) := by decide +kernel
theorem dX2_aim_93 : decode cX2_aim 93 = .ok (.if_icmp .lt 13, 3) := by decide +kernel
theorem dX2_aim_96 : decode cX2_aim 96 = .ok (.new 51, 3) := by decide +kernel
theorem dX2_aim_99 : decode cX2_aim 99 = .ok (.dup, 1) := by decide +kernel
theorem dX2_aim_100 : decode cX2_aim 100 = .ok (.ldc 53, 2) := by decide +kernel
theorem dX2_aim_102 : decode cX2_aim 102 = .ok (.invokespecial 55, 3) := by decide +kernel
theorem dX2_aim_105 : decode cX2_aim 105 = .ok (.athrow, 1) := by decide +kernel
theorem dX2_aim_106 : decode cX2_aim 106 = .ok (.aload_n 0, 1) := by decide +kernel
theorem dX2_aim_107 : decode cX2_aim 107 = .ok (.getfield 10, 3) := by decide +kernel
theorem dX2_aim_110 : decode cX2_aim 110 = .ok (.iload_n 1, 1) := by decide +kernel
theorem dX2_aim_111 : decode cX2_aim 111 = .ok (.iload_n 2, 1) := by decide +kernel
theorem dX2_aim_112 : decode cX2_aim 112 = .ok (.iload_n 3, 1) := by decide +kernel
theorem dX2_aim_113 : decode cX2_aim 113 = .ok (.iload 4, 2) := by decide +kernel
theorem dX2_aim_115 : decode cX2_aim 115 = .ok (.invokevirtual 56, 3) := by decide +kernel
theorem dX2_aim_118 : decode cX2_aim 118 = .ok (.istore 5, 2) := by decide +kernel
theorem dX2_aim_120 : decode cX2_aim 120 = .ok (.aload_n 0, 1) := by decide +kernel
theorem dX2_aim_121 : decode cX2_aim 121 = .ok (.invokevirtual 60, 3) := by decide +kernel
theorem dX2_aim_124 : decode cX2_aim 124 = .ok (.iload 5, 2) := by decide +kernel
theorem dX2_aim_126 : decode cX2_aim 126 = .ok (.ireturn, 1) := by decide +kernel
set_option maxRecDepth 20000 in
theorem ggX2_need_X2_isAim : GoodIn wsX2_need wsX2_isAim := goodIn_r _ [12, 7, 13, 14, 11, 15, 126, 127, 128, 129, 130, 131, 132, 133, 134, 135, 136, 137, 138] (by decide +kernel) (by decide +kernel)
set_option maxRecDepth 20000 in
theorem gX2_need_X2_isAim : GoodIn wsX2_need (wsV RX2 63 RX2 yX2_isAim wsX2_isAim) := goodIn_app (goodIn_of _ (by decide +kernel)) ggX2_need_X2_isAim
set_option maxRecDepth 20000 in
theorem ggX2_need_X2_has : GoodIn wsX2_need wsX2_has := goodIn_r _ [18] (by decide +kernel) (by decide +kernel)
set_option maxRecDepth 20000 in
theorem gX2_need_X2_has : GoodIn wsX2_need (va_wsS RX2 78 yX2_has wsX2_has) := goodIn_app (goodIn_of _ (by decide +kernel)) ggX2_need_X2_has
set_option maxRecDepth 20000 in
theorem ggX2_need_X1_reach : GoodIn wsX2_need wsX1_reach := goodIn_r _ [23, 24, 25, 26, 27, 28, 22, 29, 17, 11, 18, 130, 131, 132, 133, 134, 135, 136, 137, 138] (by decide +kernel) (by decide +kernel)
set_option maxRecDepth 20000 in
theorem gX2_need_X1_reach : GoodIn wsX2_need (wsV RX2 84 RX1 yX1_reach wsX1_reach) := goodIn_app (goodIn_of _ (by decide +kernel)) ggX2_need_X1_reach
set_option maxRecDepth 20000 in
theorem ggX2_need_X1_setNeeds : GoodIn wsX2_need wsX1_setNeeds := goodIn_r _ [33, 24, 34, 35, 36, 22, 37, 25, 38, 39, 40, 41, 42, 43, 17, 11, 18, 44, 45, 46, 130, 131, 132, 133, 134, 135, 136, 137, 138] (by decide +kernel) (by decide +kernel)
set_option maxRecDepth 20000 in
theorem gX2_need_X1_setNeeds : GoodIn wsX2_need (wsV RX2 90 RX1 yX1_setNeeds wsX1_setNeeds) := goodIn_app (goodIn_of _ (by decide +kernel)) ggX2_need_X1_setNeeds
set_option maxRecDepth 20000 in
theorem ggX2_need_X2_planAnew : GoodIn wsX2_need wsX2_planAnew := goodIn_r _ [50, 51, 52, 7, 53, 54, 55, 56, 57, 58, 59, 60, 61, 62, 63, 64, 65, 66, 67, 68, 69, 70, 71, 72, 73, 74, 75, 76, 77, 78, 79, 80, 81, 82, 83, 84, 85, 86, 87, 88, 89, 90, 91, 92, 93, 94, 95, 96, 97, 98, 99, 100, 101, 102, 103, 104, 105, 106, 107, 108, 109, 110, 111, 112, 113, 114, 115, 116, 117, 118, 126, 127, 128, 129, 139, 140, 141, 142, 143, 144, 145, 146, 147, 130, 131, 132, 133, 134, 135, 136, 137, 138] (by decide +kernel) (by decide +kernel)
set_option maxRecDepth 20000 in
theorem gX2_need_X2_planAnew : GoodIn wsX2_need (wsV RX2 60 RX2 yX2_planAnew wsX2_planAnew) := goodIn_app (goodIn_of _ (by decide +kernel)) ggX2_need_X2_planAnew
set_option maxRecDepth 20000 in
theorem ggX2_need_J6_bitCount_0f7a4 : GoodIn wsX2_need wsJ6_bitCount_0f7a4 := goodIn_r _ [122, 123, 124, 125] (by decide +kernel) (by decide +kernel)
set_option maxRecDepth 20000 in
theorem gX2_need_J6_bitCount_0f7a4 : GoodIn wsX2_need (va_wsS RX2 94 yJ6_bitCount_0f7a4 wsJ6_bitCount_0f7a4) := goodIn_app (goodIn_of _ (by decide +kernel)) ggX2_need_J6_bitCount_0f7a4
theorem dX2_need_0 : decode cX2_need 0 = .ok (.aload_n 0, 1) := by decide +kernel
theorem dX2_need_1 : decode cX2_need 1 = .ok (.iload_n 1, 1) := by decide +kernel
theorem dX2_need_2 : decode cX2_need 2 = .ok (.invokevirtual 63, 3) := by decide +kernel
theorem dX2_need_5 : decode cX2_need 5 = .ok (.ifCond .eq 11, 3) := by decide +kernel
theorem dX2_need_8 : decode cX2_need 8 = .ok (.aload_n 0, 1) := by decide +kernel
theorem dX2_need_9 : decode cX2_need 9 = .ok (.iload_n 2, 1) := by decide +kernel
theorem dX2_need_10 : decode cX2_need 10 = .ok (.invokevirtual 63, 3) := by decide +kernel
theorem dX2_need_13 : decode cX2_need 13 = .ok (.ifCond .ne 13, 3) := by decide +kernel
theorem dX2_need_16 : decode cX2_need 16 = .ok (.new 67, 3) := by decide +kernel
theorem dX2_need_19 : decode cX2_need 19 = .ok (.dup, 1) := by decide +kernel
theorem dX2_need_20 : decode cX2_need 20 = .ok (.ldc 69, 2) := by decide +kernel
theorem dX2_need_22 : decode cX2_need 22 = .ok (.invokespecial 71, 3) := by decide +kernel
theorem dX2_need_25 : decode cX2_need 25 = .ok (.athrow, 1) := by decide +kernel
theorem dX2_need_26 : decode cX2_need 26 = .ok (.iload_n 1, 1) := by decide +kernel
theorem dX2_need_27 : decode cX2_need 27 = .ok (.iload_n 2, 1) := by decide +kernel
theorem dX2_need_28 : decode cX2_need 28 = .ok (.if_icmp .ne 13, 3) := by decide +kernel
theorem dX2_need_31 : decode cX2_need 31 = .ok (.new 34, 3) := by decide +kernel
theorem dX2_need_34 : decode cX2_need 34 = .ok (.dup, 1) := by decide +kernel
theorem dX2_need_35 : decode cX2_need 35 = .ok (.ldc 72, 2) := by decide +kernel
theorem dX2_need_37 : decode cX2_need 37 = .ok (.invokespecial 38, 3) := by decide +kernel
theorem dX2_need_40 : decode cX2_need 40 = .ok (.athrow, 1) := by decide +kernel
theorem dX2_need_41 : decode cX2_need 41 = .ok (.aload_n 0, 1) := by decide +kernel
theorem dX2_need_42 : decode cX2_need 42 = .ok (.getfield 10, 3) := by decide +kernel
theorem dX2_need_45 : decode cX2_need 45 = .ok (.getfield 74, 3) := by decide +kernel
theorem dX2_need_48 : decode cX2_need 48 = .ok (.iload_n 1, 1) := by decide +kernel
theorem dX2_need_49 : decode cX2_need 49 = .ok (.iaload, 1) := by decide +kernel
theorem dX2_need_50 : decode cX2_need 50 = .ok (.iload_n 2, 1) := by decide +kernel
theorem dX2_need_51 : decode cX2_need 51 = .ok (.invokestatic 78, 3) := by decide +kernel
theorem dX2_need_54 : decode cX2_need 54 = .ok (.ifCond .eq 13, 3) := by decide +kernel
theorem dX2_need_57 : decode cX2_need 57 = .ok (.new 51, 3) := by decide +kernel
theorem dX2_need_60 : decode cX2_need 60 = .ok (.dup, 1) := by decide +kernel
theorem dX2_need_61 : decode cX2_need 61 = .ok (.ldc 82, 2) := by decide +kernel
theorem dX2_need_63 : decode cX2_need 63 = .ok (.invokespecial 55, 3) := by decide +kernel
theorem dX2_need_66 : decode cX2_need 66 = .ok (.athrow, 1) := by decide +kernel
theorem dX2_need_67 : decode cX2_need 67 = .ok (.aload_n 0, 1) := by decide +kernel
theorem dX2_need_68 : decode cX2_need 68 = .ok (.getfield 10, 3) := by decide +kernel
theorem dX2_need_71 : decode cX2_need 71 = .ok (.iload_n 2, 1) := by decide +kernel
theorem dX2_need_72 : decode cX2_need 72 = .ok (.invokevirtual 84, 3) := by decide +kernel
theorem dX2_need_75 : decode cX2_need 75 = .ok (.iload_n 1, 1) := by decide +kernel
theorem dX2_need_76 : decode cX2_need 76 = .ok (.invokestatic 78, 3) := by decide +kernel
theorem dX2_need_79 : decode cX2_need 79 = .ok (.ifCond .eq 13, 3) := by decide +kernel
theorem dX2_need_82 : decode cX2_need 82 = .ok (.new 51, 3) := by decide +kernel
theorem dX2_need_85 : decode cX2_need 85 = .ok (.dup, 1) := by decide +kernel
theorem dX2_need_86 : decode cX2_need 86 = .ok (.ldc 88, 2) := by decide +kernel
theorem dX2_need_88 : decode cX2_need 88 = .ok (.invokespecial 55, 3) := by decide +kernel
theorem dX2_need_91 : decode cX2_need 91 = .ok (.athrow, 1) := by decide +kernel
theorem dX2_need_92 : decode cX2_need 92 = .ok (.aload_n 0, 1) := by decide +kernel
theorem dX2_need_93 : decode cX2_need 93 = .ok (.getfield 10, 3) := by decide +kernel
theorem dX2_need_96 : decode cX2_need 96 = .ok (.iload_n 1, 1) := by decide +kernel
theorem dX2_need_97 : decode cX2_need 97 = .ok (.aload_n 0, 1) := by decide +kernel
theorem dX2_need_98 : decode cX2_need 98 = .ok (.getfield 10, 3) := by decide +kernel
theorem dX2_need_101 : decode cX2_need 101 = .ok (.getfield 74, 3) := by decide +kernel
theorem dX2_need_104 : decode cX2_need 104 = .ok (.iload_n 1, 1) := by decide +kernel
theorem dX2_need_105 : decode cX2_need 105 = .ok (.iaload, 1) := by decide +kernel
theorem dX2_need_106 : decode cX2_need 106 = .ok (.iconst 1, 1) := by decide +kernel
theorem dX2_need_107 : decode cX2_need 107 = .ok (.iload_n 2, 1) := by decide +kernel
theorem dX2_need_108 : decode cX2_need 108 = .ok (.ishl, 1) := by decide +kernel
theorem dX2_need_109 : decode cX2_need 109 = .ok (.ior, 1) := by decide +kernel
theorem dX2_need_110 : decode cX2_need 110 = .ok (.invokevirtual 90, 3) := by decide +kernel
theorem dX2_need_113 : decode cX2_need 113 = .ok (.aload_n 0, 1) := by decide +kernel
theorem dX2_need_114 : decode cX2_need 114 = .ok (.invokevirtual 60, 3) := by decide +kernel
theorem dX2_need_117 : decode cX2_need 117 = .ok (.aload_n 0, 1) := by decide +kernel
theorem dX2_need_118 : decode cX2_need 118 = .ok (.getfield 10, 3) := by decide +kernel
theorem dX2_need_121 : decode cX2_need 121 = .ok (.getfield 74, 3) := by decide +kernel
theorem dX2_need_124 : decode cX2_need 124 = .ok (.iload_n 1, 1) := by decide +kernel
theorem dX2_need_125 : decode cX2_need 125 = .ok (.iaload, 1) := by decide +kernel
theorem dX2_need_126 : decode cX2_need 126 = .ok (.invokestatic 94, 3) := by decide +kernel
theorem dX2_need_129 : decode cX2_need 129 = .ok (.ireturn, 1) := by decide +kernel
set_option maxRecDepth 20000 in
theorem ggX2_free_X2_isAim : GoodIn wsX2_free wsX2_isAim := goodIn_r _ [10, 5, 11, 12, 9, 13, 116, 117, 118, 119, 120, 121, 122, 123, 124, 125, 126, 127, 128] (by decide +kernel) (by decide +kernel)
set_option maxRecDepth 20000 in
theorem gX2_free_X2_isAim : GoodIn wsX2_free (wsV RX2 63 RX2 yX2_isAim wsX2_isAim) := goodIn_app (goodIn_of _ (by decide +kernel)) ggX2_free_X2_isAim
set_option maxRecDepth 20000 in
theorem ggX2_free_X2_has : GoodIn wsX2_free wsX2_has := goodIn_r _ [16] (by decide +kernel) (by decide +kernel)
set_option maxRecDepth 20000 in
theorem gX2_free_X2_has : GoodIn wsX2_free (va_wsS RX2 78 yX2_has wsX2_has) := goodIn_app (goodIn_of _ (by decide +kernel)) ggX2_free_X2_has
set_option maxRecDepth 20000 in
theorem ggX2_free_X1_setNeeds : GoodIn wsX2_free wsX1_setNeeds := goodIn_r _ [21, 22, 23, 24, 25, 20, 26, 27, 28, 29, 30, 31, 32, 33, 15, 9, 16, 34, 35, 36, 120, 121, 122, 123, 124, 125, 126, 127, 128] (by decide +kernel) (by decide +kernel)
set_option maxRecDepth 20000 in
theorem gX2_free_X1_setNeeds : GoodIn wsX2_free (wsV RX2 90 RX1 yX1_setNeeds wsX1_setNeeds) := goodIn_app (goodIn_of _ (by decide +kernel)) ggX2_free_X1_setNeeds
set_option maxRecDepth 20000 in
theorem ggX2_free_X2_planAnew : GoodIn wsX2_free wsX2_planAnew := goodIn_r _ [40, 41, 42, 5, 43, 44, 45, 46, 47, 48, 49, 50, 51, 52, 53, 54, 55, 56, 57, 58, 59, 60, 61, 62, 63, 64, 65, 66, 67, 68, 69, 70, 71, 72, 73, 74, 75, 76, 77, 78, 79, 80, 81, 82, 83, 84, 85, 86, 87, 88, 89, 90, 91, 92, 93, 94, 95, 96, 97, 98, 99, 100, 101, 102, 103, 104, 105, 106, 107, 108, 116, 117, 118, 119, 129, 130, 131, 132, 133, 134, 135, 136, 137, 120, 121, 122, 123, 124, 125, 126, 127, 128] (by decide +kernel) (by decide +kernel)
set_option maxRecDepth 20000 in
theorem gX2_free_X2_planAnew : GoodIn wsX2_free (wsV RX2 60 RX2 yX2_planAnew wsX2_planAnew) := goodIn_app (goodIn_of _ (by decide +kernel)) ggX2_free_X2_planAnew
set_option maxRecDepth 20000 in
theorem ggX2_free_J6_bitCount_0f7a4 : GoodIn wsX2_free wsJ6_bitCount_0f7a4 := goodIn_r _ [112, 113, 114, 115] (by decide +kernel) (by decide +kernel)
set_option maxRecDepth 20000 in
theorem gX2_free_J6_bitCount_0f7a4 : GoodIn wsX2_free (va_wsS RX2 94 yJ6_bitCount_0f7a4 wsJ6_bitCount_0f7a4) := goodIn_app (goodIn_of _ (by decide +kernel)) ggX2_free_J6_bitCount_0f7a4
theorem dX2_free_0 : decode cX2_free 0 = .ok (.aload_n 0, 1) := by decide +kernel
theorem dX2_free_1 : decode cX2_free 1 = .ok (.iload_n 1, 1) := by decide +kernel
theorem dX2_free_2 : decode cX2_free 2 = .ok (.invokevirtual 63, 3) := by decide +kernel
theorem dX2_free_5 : decode cX2_free 5 = .ok (.ifCond .eq 11, 3) := by decide +kernel
theorem dX2_free_8 : decode cX2_free 8 = .ok (.aload_n 0, 1) := by decide +kernel
theorem dX2_free_9 : decode cX2_free 9 = .ok (.iload_n 2, 1) := by decide +kernel
theorem dX2_free_10 : decode cX2_free 10 = .ok (.invokevirtual 63, 3) := by decide +kernel
theorem dX2_free_13 : decode cX2_free 13 = .ok (.ifCond .ne 13, 3) := by decide +kernel
theorem dX2_free_16 : decode cX2_free 16 = .ok (.new 67, 3) := by decide +kernel
theorem dX2_free_19 : decode cX2_free 19 = .ok (.dup, 1) := by decide +kernel
theorem dX2_free_20 : decode cX2_free 20 = .ok (.ldc 69, 2) := by decide +kernel
theorem dX2_free_22 : decode cX2_free 22 = .ok (.invokespecial 71, 3) := by decide +kernel
theorem dX2_free_25 : decode cX2_free 25 = .ok (.athrow, 1) := by decide +kernel
theorem dX2_free_26 : decode cX2_free 26 = .ok (.aload_n 0, 1) := by decide +kernel
theorem dX2_free_27 : decode cX2_free 27 = .ok (.getfield 10, 3) := by decide +kernel
theorem dX2_free_30 : decode cX2_free 30 = .ok (.getfield 74, 3) := by decide +kernel
theorem dX2_free_33 : decode cX2_free 33 = .ok (.iload_n 1, 1) := by decide +kernel
theorem dX2_free_34 : decode cX2_free 34 = .ok (.iaload, 1) := by decide +kernel
theorem dX2_free_35 : decode cX2_free 35 = .ok (.iload_n 2, 1) := by decide +kernel
theorem dX2_free_36 : decode cX2_free 36 = .ok (.invokestatic 78, 3) := by decide +kernel
theorem dX2_free_39 : decode cX2_free 39 = .ok (.ifCond .ne 13, 3) := by decide +kernel
theorem dX2_free_42 : decode cX2_free 42 = .ok (.new 99, 3) := by decide +kernel
theorem dX2_free_45 : decode cX2_free 45 = .ok (.dup, 1) := by decide +kernel
theorem dX2_free_46 : decode cX2_free 46 = .ok (.ldc 101, 2) := by decide +kernel
theorem dX2_free_48 : decode cX2_free 48 = .ok (.invokespecial 103, 3) := by decide +kernel
theorem dX2_free_51 : decode cX2_free 51 = .ok (.athrow, 1) := by decide +kernel
theorem dX2_free_52 : decode cX2_free 52 = .ok (.aload_n 0, 1) := by decide +kernel
theorem dX2_free_53 : decode cX2_free 53 = .ok (.getfield 10, 3) := by decide +kernel
theorem dX2_free_56 : decode cX2_free 56 = .ok (.iload_n 1, 1) := by decide +kernel
theorem dX2_free_57 : decode cX2_free 57 = .ok (.aload_n 0, 1) := by decide +kernel
theorem dX2_free_58 : decode cX2_free 58 = .ok (.getfield 10, 3) := by decide +kernel
theorem dX2_free_61 : decode cX2_free 61 = .ok (.getfield 74, 3) := by decide +kernel
theorem dX2_free_64 : decode cX2_free 64 = .ok (.iload_n 1, 1) := by decide +kernel
theorem dX2_free_65 : decode cX2_free 65 = .ok (.iaload, 1) := by decide +kernel
theorem dX2_free_66 : decode cX2_free 66 = .ok (.iconst 1, 1) := by decide +kernel
theorem dX2_free_67 : decode cX2_free 67 = .ok (.iload_n 2, 1) := by decide +kernel
theorem dX2_free_68 : decode cX2_free 68 = .ok (.ishl, 1) := by decide +kernel
theorem dX2_free_69 : decode cX2_free 69 = .ok (.iconst (-1), 1) := by decide +kernel
theorem dX2_free_70 : decode cX2_free 70 = .ok (.ixor, 1) := by decide +kernel
theorem dX2_free_71 : decode cX2_free 71 = .ok (.iand, 1) := by decide +kernel
theorem dX2_free_72 : decode cX2_free 72 = .ok (.invokevirtual 90, 3) := by decide +kernel
theorem dX2_free_75 : decode cX2_free 75 = .ok (.aload_n 0, 1) := by decide +kernel
theorem dX2_free_76 : decode cX2_free 76 = .ok (.invokevirtual 60, 3) := by decide +kernel
theorem dX2_free_79 : decode cX2_free 79 = .ok (.aload_n 0, 1) := by decide +kernel
theorem dX2_free_80 : decode cX2_free 80 = .ok (.getfield 10, 3) := by decide +kernel
theorem dX2_free_83 : decode cX2_free 83 = .ok (.getfield 74, 3) := by decide +kernel
theorem dX2_free_86 : decode cX2_free 86 = .ok (.iload_n 1, 1) := by decide +kernel
theorem dX2_free_87 : decode cX2_free 87 = .ok (.iaload, 1) := by decide +kernel
theorem dX2_free_88 : decode cX2_free 88 = .ok (.invokestatic 94, 3) := by decide +kernel
theorem dX2_free_91 : decode cX2_free 91 = .ok (.ireturn, 1) := by decide +kernel
set_option maxRecDepth 20000 in
theorem ggX2_revisits_X2_isAim : GoodIn wsX2_revisits wsX2_isAim := goodIn_r _ [10, 5, 11, 12, 9, 13, 86, 87, 88, 89, 90, 91, 92, 93, 94, 95, 96, 97, 98] (by decide +kernel) (by decide +kernel)
